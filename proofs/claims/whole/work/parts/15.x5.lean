abbrev xW9 (h a1 a2 a3 a4 : Nat) (cA : ClassId) (n : Nat) (nb : Nat → Nat) (u : (Nat → Nat) × (Nat → Nat) × (Nat → Nat) × Nat) : va_W := [(h, .inr (0, [.ref a1, .int (nI n), .ref a2, .ref a3, .ref a4, .int (nI u.2.2.2)])), (a1, .inl (cA, 8, .inl (fun j => nI (nb j)))), (a2, .inl (cA, 8, .inl (fun j => nI (u.1 j)))), (a3, .inl (cA, 8, .inl (fun j => nI (u.2.1 j)))), (a4, .inl (cA, 16, .inl (fun j => nI (u.2.2.1 j))))]
/-- the search's candidates at one vertex -/
def nfT (ed : Nat → Nat → Nat) (rest : List Nat) (v : Nat) (nm : List (Nat × Nat × Nat)) (us : Nat) : Nat → Nat → Option (List (Nat × Nat × Nat) × Nat) := fun a b => if okN ed v nm a b = true then srN ed rest ((v, a, b) :: nm) (max us (b + 1)) else none
theorem sr_in {ed : Nat → Nat → Nat} {set v k us : Nat} {nm : List (Nat × Nat × Nat)} (hv : set.testBit v = true) : srN ed (meN set (k + 1) v) nm us = scA (nfT ed (meN set k (v + 1)) v nm us) us (us + 1) 0 := by
  have e : meN set (k + 1) v = v :: meN set k (v + 1) := if_pos hv
  rw [e]; rfl
theorem sr_out {ed : Nat → Nat → Nat} {set v k us : Nat} {nm : List (Nat × Nat × Nat)} (hv : set.testBit v = false) : srN ed (meN set (k + 1) v) nm us = srN ed (meN set k (v + 1)) nm us := by
  have e : meN set (k + 1) v = meN set k (v + 1) := if_neg (by rw [hv]; exact Bool.false_ne_true)
  rw [e]
def sIn {β : Type} (t : Nat → Nat → Option β) (us a b : Nat) : Option β := match scB t a (max us (a + 1) + 1 - b) b with
  | some r => some r
  | none => scA t us (us - a) (a + 1)
theorem sIn_0 {β : Type} {t : Nat → Nat → Option β} {us a : Nat} (h : a ≤ us) : scA t us (us + 1 - a) a = sIn t us a (a + 1) := by
  obtain ⟨c, hc⟩ : ∃ c, us - a = c := ⟨_, rfl⟩
  have e1 : us + 1 - a = c + 1 := by omega
  have e2 : max us (a + 1) + 1 - (a + 1) = max us (a + 1) - a := by omega
  unfold sIn
  rw [e1, e2, hc]; rfl
theorem sIn_no {β : Type} {t : Nat → Nat → Option β} {us a b : Nat} (h : b ≤ max us (a + 1)) (ht : t a b = none) : sIn t us a b = sIn t us a (b + 1) := by
  obtain ⟨c, hc⟩ : ∃ c, max us (a + 1) - b = c := ⟨_, rfl⟩
  have e1 : max us (a + 1) + 1 - b = c + 1 := by omega
  have e2 : max us (a + 1) + 1 - (b + 1) = c := by omega
  unfold sIn
  rw [e1, e2]
  have e3 : scB t a (c + 1) b = scB t a c (b + 1) := by
    show (match t a b with | some r => some r | none => scB t a c (b + 1)) = _
    rw [ht]
  rw [e3]
theorem sIn_yes {β : Type} {t : Nat → Nat → Option β} {us a b : Nat} {r : β} (h : b ≤ max us (a + 1)) (ht : t a b = some r) : sIn t us a b = some r := by
  obtain ⟨c, hc⟩ : ∃ c, max us (a + 1) - b = c := ⟨_, rfl⟩
  have e1 : max us (a + 1) + 1 - b = c + 1 := by omega
  unfold sIn
  rw [e1]
  have e3 : scB t a (c + 1) b = some r := by
    show (match t a b with | some r => some r | none => scB t a c (b + 1)) = _
    rw [ht]
  rw [e3]
theorem sIn_end {β : Type} {t : Nat → Nat → Option β} {us a b : Nat} (h : max us (a + 1) < b) : sIn t us a b = scA t us (us + 1 - (a + 1)) (a + 1) := by
  have e1 : max us (a + 1) + 1 - b = 0 := by omega
  have e2 : us + 1 - (a + 1) = us - a := by omega
  unfold sIn
  rw [e1, e2]; rfl
theorem scA_end {β : Type} {t : Nat → Nat → Option β} {us a : Nat} (h : us < a) : scA t us (us + 1 - a) a = none := by
  have e1 : us + 1 - a = 0 := by omega
  rw [e1]; rfl
theorem nm_add {v : Nat} {set : Nat} {nm : List (Nat × Nat × Nat)} {lo hi : Nat → Nat} (hk : KC v set nm) (h : NM nm lo hi) (a b : Nat) : NM ((v, a, b) :: nm) (upN lo v a) (upN hi v b) := by
  intro q hq
  rcases List.mem_cons.mp hq with rfl | hq
  · exact ⟨upN_s _ _ _, upN_s _ _ _⟩
  · have h1 := (kc_of hk hq).1
    rw [upN_n _ _ (by omega), upN_n _ _ (by omega)]
    exact h q hq
theorem nm_congr {v set : Nat} {nm : List (Nat × Nat × Nat)} {lo hi lo' hi' : Nat → Nat} (hk : KC v set nm) (h : NM nm lo hi) (he : ∀ j, j < v → lo' j = lo j ∧ hi' j = hi j) : NM nm lo' hi' := by
  intro q hq
  have h1 := (kc_of hk hq).1
  rw [(he _ h1).1, (he _ h1).2]
  exact h q hq
theorem ho_give {ho : Nat → Nat} {v a b : Nat} (hv : v < 8) (h : ∀ e, e < 16 → ho e < 256) (ha : a < 16) (hb : b < 16) : ∀ e, e < 16 → (upN (upN ho a (ho a ||| 2 ^ v)) b ((upN ho a (ho a ||| 2 ^ v)) b ||| 2 ^ v)) e < 256 := by
  intro e he
  have h1 : ∀ e, e < 16 → upN ho a (ho a ||| 2 ^ v) e < 256 := by
    intro e he
    by_cases h2 : e = a
    · rw [h2, upN_s]; exact or_8 (h a ha) (pw_7 hv)
    · rw [upN_n _ _ h2]; exact h e he
  by_cases h2 : e = b
  · rw [h2, upN_s]; exact or_8 (h1 b hb) (pw_7 hv)
  · rw [upN_n _ _ h2]; exact h1 e he
/-- what was given is taken back -/
theorem ho_back {ho : Nat → Nat} {v a b set : Nat} {nm : List (Nat × Nat × Nat)} (hv : v < 8) (hk : KC v set nm) (hr : HR nm ho) (h : ∀ e, e < 16 → ho e < 256) (ha : a < 16) (hb : b < 16) (hab : a < b) {g : Nat → Nat} (hg : g = upN (upN ho a (ho a ||| 2 ^ v)) b ((upN ho a (ho a ||| 2 ^ v)) b ||| 2 ^ v)) :
    upN (upN g a (g a &&& (2 ^ v ^^^ 4294967295))) b ((upN g a (g a &&& (2 ^ v ^^^ 4294967295))) b &&& (2 ^ v ^^^ 4294967295)) = ho := by
  have bit : ∀ e, e < 16 → (ho e).testBit v = false := by
    intro e he
    rw [hr e he]
    exact kc_no hk (by rw [decide_eq_false (by omega)]; rfl) _
  have ga : g a = ho a ||| 2 ^ v := by rw [hg, upN_n _ _ (by omega), upN_s]
  have gb : g b = ho b ||| 2 ^ v := by rw [hg, upN_s, upN_n _ _ (by omega)]
  funext e
  by_cases e1 : e = b
  · subst e1
    rw [upN_s, upN_n _ _ (by omega), gb]
    exact bit_back (Nat.lt_trans (h e hb) (by decide)) (by omega) (bit e hb)
  · rw [upN_n _ _ e1]
    by_cases e2 : e = a
    · subst e2
      rw [upN_s, ga]
      exact bit_back (Nat.lt_trans (h e ha) (by decide)) (by omega) (bit e ha)
    · rw [upN_n _ _ e2, hg, upN_n _ _ e1, upN_n _ _ e2]
/-- what the search for a naming leaves -/
def nfP (v us : Nat) (lo hi ho : Nat → Nat) (res : Option (List (Nat × Nat × Nat) × Nat)) (r : Int32) (u : (Nat → Nat) × (Nat → Nat) × (Nat → Nat) × Nat) : Prop :=
  r = bI res.isSome ∧ (∀ j, j < v → u.1 j = lo j ∧ u.2.1 j = hi j) ∧ (res = none → u.2.2.1 = ho ∧ u.2.2.2 = us) ∧ ∀ x, res = some x → u.2.2.2 = x.2 ∧ NM x.1 u.1 u.2.1
theorem rm_1 {j k : Nat} {ws : List Cond} (h : j + 1 ≤ k) : (rmL j).frames + 1 ≤ (headSpec ws (rmL k)).room.frames := h
theorem rm_2 {j k maxL : Nat} {ws : List Cond} (h : j + 1 ≤ k) (hm : maxL ≤ 21) : 8 + (maxL + 11) + (rmL j).locals ≤ (headSpec ws (rmL k)).room.locals := by
  show 8 + (maxL + 11) + 40 * j ≤ 40 * k
  omega

set_option maxHeartbeats 4000000 in
set_option maxRecDepth 100000 in
theorem cX_nameFrom_c (l : Launch) (D : va_G) (A : Nat → Prop) (h a1 a2 a3 a4 : Nat) (cA : ClassId) (n : Nat) (nb : Nat → Nat) (set : Nat) (ed : Nat → Nat → Nat) (hn : n ≤ 8) (hnb : ∀ v, v < n → nb v < 256) (hset : set < 256) (hed : ∀ v j, v < n → j < v → ed v j = if (nb v).testBit j = true then 1 else 0) :
    ∀ (k v us : Nat) (lo hi ho : Nat → Nat) (nm : List (Nat × Nat × Nat)), n = v + k → us ≤ 2 * v → KC v set nm → HR nm ho → NM nm lo hi → (∀ e, e < 16 → ho e < 256) → Met l yX_nameFrom (Cond.code yX_nameFrom cX_nameFrom 8 (some FieldType.boolean) :: bw) (rmL (k + 3)) (va_Pc [.ref h, .int (nI v), .int (nI set)] (gW D vwCl A [(h, .inr (0, [.ref a1, .int (nI n), .ref a2, .ref a3, .ref a4, .int (nI us)])), (a1, .inl (cA, 8, .inl (fun j => nI (nb j)))), (a2, .inl (cA, 8, .inl (fun j => nI (lo j)))), (a3, .inl (cA, 8, .inl (fun j => nI (hi j)))), (a4, .inl (cA, 16, .inl (fun j => nI (ho j))))] [(cA, .int)])) (va_Qi (nfP v us lo hi ho (srN ed (meN set k v) nm us)) (fun u => gW D vwCl A (xW9 h a1 a2 a3 a4 cA n nb u) [(cA, .int)]) A) 0 0 A := by
  intro k
  induction k with
  | zero =>
    intro v us lo hi ho nm hvk hus hkc hhr hnm hho
    refine Met.ofW (cc := cX_nameFrom) (maxL := 8) (ret := (some FieldType.boolean)) (by decide) rfl ?_
    intro p e s m args below meth c s₁ B9 hml hv9
    obtain ⟨rfl, hP, hK, hD⟩ := hv9
    have hx := B9.exec
    have hb := B9.bytes
    have hr := B9.returns
    have hts := atoms_spec (ws := (Cond.code yX_nameFrom cX_nameFrom 8 (some FieldType.boolean) :: bw)) B9.pre
    have hw : ∀ w ∈ bw, w.before _ s = true := fun w h => hts w (List.mem_cons_of_mem _ h)
    have hown : s.vm.findClass RX = some m.cls := findClass_of_methodNamed B9.named
    have hlocks := B9.notSynchronized
    have hl := lv_entry ([.ref h, .int (nI v), .int (nI set)]) (n := 8) (Nat.le_of_ble_eq_true rfl)
    rw [lg_entry_eq]
    generalize (lg_sl ([.ref h, .int (nI v), .int (nI set)]) ++ List.replicate (8 - (lg_sl ([.ref h, .int (nI v), .int (nI set)])).length) Slot.unset).toArray = ls at hl ⊢
    have hl : lv_has ls 8 [(0, .ref h), (1, .int (nI v)), (2, .int (nI set))] := hl
    have hS : va_S A s.heap s.heap [] := va_S.rf
    refine lv_iload_n hx hb dX_nameFrom_0 rfl (lv_at hl 1 rfl) ?_
    refine lv_aload_n hx hb dX_nameFrom_1 rfl (lv_at hl 0 rfl) ?_
    refine va_get (D := D) (ci := 0) (v := .int (nI n)) (C := RX) (T := TX) (N := 6) hx hb hw uX hown hK hP 0 rfl rfl 1 (by decide) (hw _ w1_20) (fun _ h9 => h9) rfl dX_nameFrom_2 ?_
    refine nv_icmp_lt (x := v) (y := n) (tgt := 10) hx hb dX_nameFrom_5 rfl (by omega) (by omega) (fun hc5 => ?_) (fun hc5 => ?_)
    · exact absurd hc5 (by omega)
    · refine lv_iconst (v := nI 1) hx hb dX_nameFrom_8 (by decide) ?_
      exact W.zret (v := (nI 1)) hx hb hr rfl (fun t ht hW => ⟨⟨_, (lo, hi, ho, us), rfl, ⟨rfl, fun j _ => ⟨rfl, rfl⟩, (fun h9 => by cases h9), (fun x h9 => by cases h9; exact ⟨rfl, hnm⟩)⟩, by rw [ht]; exact hP, va_K.moved hW.alike hK, hD⟩, hS.F ht⟩) hS.2.2 dX_nameFrom_9
  | succ k IH =>
    intro v us lo hi ho nm hvk hus hkc hhr hnm hho
    refine Met.ofW (cc := cX_nameFrom) (maxL := 8) (ret := (some FieldType.boolean)) (by decide) rfl ?_
    intro p e s m args below meth c s₁ B9 hml hv9
    obtain ⟨rfl, hP, hK, hD⟩ := hv9
    have hx := B9.exec
    have hb := B9.bytes
    have hr := B9.returns
    have hts := atoms_spec (ws := (Cond.code yX_nameFrom cX_nameFrom 8 (some FieldType.boolean) :: bw)) B9.pre
    have hw : ∀ w ∈ bw, w.before _ s = true := fun w h => hts w (List.mem_cons_of_mem _ h)
    have hown : s.vm.findClass RX = some m.cls := findClass_of_methodNamed B9.named
    have hlocks := B9.notSynchronized
    have hl := lv_entry ([.ref h, .int (nI v), .int (nI set)]) (n := 8) (Nat.le_of_ble_eq_true rfl)
    rw [lg_entry_eq]
    generalize (lg_sl ([.ref h, .int (nI v), .int (nI set)]) ++ List.replicate (8 - (lg_sl ([.ref h, .int (nI v), .int (nI set)])).length) Slot.unset).toArray = ls at hl ⊢
    have hl : lv_has ls 8 [(0, .ref h), (1, .int (nI v)), (2, .int (nI set))] := hl
    have hS : va_S A s.heap s.heap [] := va_S.rf
    refine lv_iload_n hx hb dX_nameFrom_0 rfl (lv_at hl 1 rfl) ?_
    refine lv_aload_n hx hb dX_nameFrom_1 rfl (lv_at hl 0 rfl) ?_
    refine va_get (D := D) (ci := 0) (v := .int (nI n)) (C := RX) (T := TX) (N := 6) hx hb hw uX hown hK hP 0 rfl rfl 1 (by decide) (hw _ w1_20) (fun _ h9 => h9) rfl dX_nameFrom_2 ?_
    refine nv_icmp_lt (x := v) (y := n) (tgt := 10) hx hb dX_nameFrom_5 rfl (by omega) (by omega) (fun hc5 => ?_) (fun hc5 => ?_)
    · refine lv_iload_n hx hb dX_nameFrom_10 rfl (lv_at hl 2 rfl) ?_
      refine lv_iload_n hx hb dX_nameFrom_11 rfl (lv_at hl 1 rfl) ?_
      refine nr_S (As := [.int (nI set), .int (nI v)]) (rest := []) ⟨hx, hb, hml, hown, hw⟩ (cX_has_c l set v (by omega) (by omega)) (va_cwS 2 hw (gS2 w1_72 w1_73 w1_1 w1_74) rfl rfl rfl ⟨by decide, by decide, by decide +kernel⟩ ⟨rm_1 (by omega), rm_2 (by omega) (by decide)⟩) gT_blind (gT_at _) rfl hl.1 rfl (Nat.le_of_ble_eq_true rfl) dX_nameFrom_12 ⟨Nat.zero_le _, Nat.zero_le _⟩ ?_
      refine nv_b_ne (x := set.testBit v) (tgt := 27) hx hb dX_nameFrom_15 rfl (fun hc15 => ?_) (fun hc15 => ?_)
      · have hv7 : v < 8 := by omega
        have hnbv := hnb v (by omega)
        have hp0 := Nat.two_pow_pos v
        have hpv := pw_7 hv7
        have hq41 : (nb v &&& set) &&& (2 ^ v - 1) < 256 := and_lt (and_lt hnbv)
        have hR := sr_in (ed := ed) (k := k) (us := us) (nm := nm) hc15
        refine lv_aload_n hx hb dX_nameFrom_27 rfl (lv_at hl 0 rfl) ?_
        refine va_get (D := D) (ci := 0) (v := .ref a1) (C := RX) (T := TX) (N := 6) hx hb hw uX hown hK hP 0 rfl rfl 0 (by decide) (hw _ w1_19) (fun _ h9 => h9) rfl dX_nameFrom_28 ?_
        refine lv_iload_n hx hb dX_nameFrom_31 rfl (lv_at hl 1 rfl) ?_
        refine nv_iald (i := v) (f := nb) hx hb hK hP 1 0 rfl rfl (by omega) (by omega) dX_nameFrom_32 ?_
        refine lv_iload_n hx hb dX_nameFrom_33 rfl (lv_at hl 2 rfl) ?_
        refine nv_iand (x := nb v) (y := set) hx hb dX_nameFrom_34 ?_
        refine lv_iload_n hx hb dX_nameFrom_35 rfl (lv_at hl 1 rfl) ?_
        refine nr_S (As := [.int (nI v)]) (rest := [.int (nI ((nb v) &&& set))]) ⟨hx, hb, hml, hown, hw⟩ (cX_only_c l v (by omega)) (va_cwS 1 hw (gS2 w1_61 w1_62 w1_1 w1_63) rfl rfl rfl ⟨by decide, by decide, by decide +kernel⟩ ⟨rm_1 (by omega), rm_2 (by omega) (by decide)⟩) gT_blind (gT_at _) rfl hl.1 rfl (Nat.le_of_ble_eq_true rfl) dX_nameFrom_36 ⟨Nat.zero_le _, Nat.zero_le _⟩ ?_
        refine lv_iconst (v := nI 1) hx hb dX_nameFrom_39 (by decide) ?_
        refine nv_isub (x := 2 ^ v) (y := 1) hx hb dX_nameFrom_40 (by omega) ?_
        refine nv_iand (x := (nb v) &&& set) (y := (2 ^ v) - 1) hx hb dX_nameFrom_41 ?_
        refine lv_istore_n hx hb dX_nameFrom_42 rfl hl (by decide) (lv' := [(3, .int (nI (((nb v) &&& set) &&& ((2 ^ v) - 1)))), (0, .ref h), (1, .int (nI v)), (2, .int (nI set))]) rfl (fun ls hl => ?_)
        refine lv_aload_n hx hb dX_nameFrom_43 rfl (lv_at hl 1 rfl) ?_
        refine va_get (D := D) (ci := 0) (v := .int (nI us)) (C := RX) (T := TX) (N := 6) hx hb hw uX hown hK hP 0 rfl rfl 5 (by decide) (hw _ w1_24) (fun _ h9 => h9) rfl dX_nameFrom_44 ?_
        refine lv_istore hx hb dX_nameFrom_47 hl (by decide) (lv' := [(4, .int (nI us)), (3, .int (nI (((nb v) &&& set) &&& ((2 ^ v) - 1)))), (0, .ref h), (1, .int (nI v)), (2, .int (nI set))]) rfl (fun ls hl => ?_)
        refine lv_iconst (v := nI 0) hx hb dX_nameFrom_49 (by decide) ?_
        refine lv_istore hx hb dX_nameFrom_50 hl (by decide) (lv' := [(5, .int (nI 0)), (4, .int (nI us)), (3, .int (nI (((nb v) &&& set) &&& ((2 ^ v) - 1)))), (0, .ref h), (1, .int (nI v)), (2, .int (nI set))]) rfl (fun ls hl => ?_)
        have L52 : ∀ (k9 : Nat) (a : Nat) (lo1 : Nat → Nat) (hi1 : Nat → Nat), k9 = us + 1 - a → a ≤ us + 1 → (∀ j, j < v → lo1 j = lo j ∧ hi1 j = hi j) → srN ed (meN set (k + 1) v) nm us = scA (nfT ed (meN set k (v + 1)) v nm us) us (us + 1 - a) a → ∀ (ls : Array Slot), lv_has ls 8 [(5, .int (nI a)), (4, .int (nI us)), (3, .int (nI ((nb v &&& set) &&& (2 ^ v - 1)))), (0, .ref h), (1, .int (nI v)), (2, .int (nI set))] → ∀ (H : Heap) (locs : List Loc), va_P D vwCl [(h, .inr (0, [.ref a1, .int (nI n), .ref a2, .ref a3, .ref a4, .int (nI us)])), (a1, .inl (cA, 8, .inl (fun j => nI (nb j)))), (a2, .inl (cA, 8, .inl (fun j => nI (lo1 j)))), (a3, .inl (cA, 8, .inl (fun j => nI (hi1 j)))), (a4, .inl (cA, 16, .inl (fun j => nI (ho j))))] H → va_D A [(h, .inr (0, [.ref a1, .int (nI n), .ref a2, .ref a3, .ref a4, .int (nI us)])), (a1, .inl (cA, 8, .inl (fun j => nI (nb j)))), (a2, .inl (cA, 8, .inl (fun j => nI (lo1 j)))), (a3, .inl (cA, 8, .inl (fun j => nI (hi1 j)))), (a4, .inl (cA, 16, .inl (fun j => nI (ho j))))] → va_S A s.heap H locs → W p l e (headSpec (Cond.code yX_nameFrom cX_nameFrom 8 (some FieldType.boolean) :: bw) (rmL (k + 1 + 3))).room s m ([.ref h, .int (nI v), .int (nI set)] : List Value).toArray below meth c H locs 0 0 (MQ below (va_Qi (nfP v us lo hi ho (srN ed (meN set (k + 1) v) nm us)) (fun u => gW D vwCl A (xW9 h a1 a2 a3 a4 cA n nb u) [(cA, .int)]) A) ([.ref h, .int (nI v), .int (nI set)] : List Value).toArray s 0 0 A) (F0 m 52 ls []) := by
          intro k9
          induction k9 using Nat.strongRecOn with
          | _ k9 ih52 =>
            intro a lo1 hi1 hk9 ha9 hlo hrem ls hl H locs hP hD hS
            refine lv_iload hx hb dX_nameFrom_52 (lv_at hl 0 rfl) ?_
            refine lv_iload hx hb dX_nameFrom_54 (lv_at hl 1 rfl) ?_
            refine nv_icmp_gt (x := a) (y := us) (tgt := 141) hx hb dX_nameFrom_56 rfl (by omega) (by omega) (fun hc56 => ?_) (fun hc56 => ?_)
            · refine lv_iconst (v := nI 0) hx hb dX_nameFrom_141 (by decide) ?_
              exact W.zret (v := (nI 0)) hx hb hr rfl (fun t ht hW => ⟨⟨_, (lo1, hi1, ho, us), rfl, (by rw [hrem, scA_end hc56]; exact ⟨rfl, hlo, fun _ => ⟨rfl, rfl⟩, (fun x h9 => by cases h9)⟩), by rw [ht]; exact hP, va_K.moved hW.alike hK, hD⟩, hS.F ht⟩) hS.2.2 dX_nameFrom_142
            · refine lv_iload hx hb dX_nameFrom_59 (lv_at hl 1 rfl) ?_
              refine lv_iload hx hb dX_nameFrom_61 (lv_at hl 0 rfl) ?_
              refine lv_iconst (v := nI 1) hx hb dX_nameFrom_63 (by decide) ?_
              refine nv_iadd (x := a) (y := 1) hx hb dX_nameFrom_64 ?_
              refine nv_max (x := us) (y := a + 1) hx hb (hml.trans hl.1.symm) hown (hw _ w1_75) (hw _ w1_76) (hw _ w1_10) (hw _ w1_77) (show 1 ≤ k + 1 + 3 by omega) (show _ + 13 ≤ 40 * (k + 1 + 3) by simp [Value.category]; omega) (Nat.zero_le _) (Nat.zero_le _) (by omega) (by omega) dX_nameFrom_65 ?_
              refine lv_bipush (v := nI 15) hx hb dX_nameFrom_68 (by decide) ?_
              refine nv_min (x := max us (a + 1)) (y := 15) hx hb (hml.trans hl.1.symm) hown (hw _ w1_78) (hw _ w1_79) (hw _ w1_10) (hw _ w1_80) (show 1 ≤ k + 1 + 3 by omega) (show _ + 13 ≤ 40 * (k + 1 + 3) by simp [Value.category]; omega) (Nat.zero_le _) (Nat.zero_le _) (by omega) (by omega) dX_nameFrom_70 ?_
              rw [show min (max us (a + 1)) 15 = max us (a + 1) by omega]
              refine lv_istore hx hb dX_nameFrom_73 hl (by decide) (lv' := [(6, .int (nI (max us (a + 1)))), (5, .int (nI a)), (4, .int (nI us)), (3, .int (nI ((nb v &&& set) &&& (2 ^ v - 1)))), (0, .ref h), (1, .int (nI v)), (2, .int (nI set))]) rfl (fun ls hl => ?_)
              refine lv_iload hx hb dX_nameFrom_75 (lv_at hl 1 rfl) ?_
              refine lv_iconst (v := nI 1) hx hb dX_nameFrom_77 (by decide) ?_
              refine nv_iadd (x := a) (y := 1) hx hb dX_nameFrom_78 ?_
              refine lv_istore hx hb dX_nameFrom_79 hl (by decide) (lv' := [(7, .int (nI (a + 1))), (6, .int (nI (max us (a + 1)))), (5, .int (nI a)), (4, .int (nI us)), (3, .int (nI ((nb v &&& set) &&& (2 ^ v - 1)))), (0, .ref h), (1, .int (nI v)), (2, .int (nI set))]) rfl (fun ls hl => ?_)
              have L81 : ∀ (k9 : Nat) (b : Nat) (lo2 : Nat → Nat) (hi2 : Nat → Nat), k9 = max us (a + 1) + 1 - b → a + 1 ≤ b → b ≤ max us (a + 1) + 1 → (∀ j, j < v → lo2 j = lo j ∧ hi2 j = hi j) → srN ed (meN set (k + 1) v) nm us = sIn (nfT ed (meN set k (v + 1)) v nm us) us a b → ∀ (ls : Array Slot), lv_has ls 8 [(7, .int (nI b)), (6, .int (nI (max us (a + 1)))), (5, .int (nI a)), (4, .int (nI us)), (3, .int (nI ((nb v &&& set) &&& (2 ^ v - 1)))), (0, .ref h), (1, .int (nI v)), (2, .int (nI set))] → ∀ (H : Heap) (locs : List Loc), va_P D vwCl [(h, .inr (0, [.ref a1, .int (nI n), .ref a2, .ref a3, .ref a4, .int (nI us)])), (a1, .inl (cA, 8, .inl (fun j => nI (nb j)))), (a2, .inl (cA, 8, .inl (fun j => nI (lo2 j)))), (a3, .inl (cA, 8, .inl (fun j => nI (hi2 j)))), (a4, .inl (cA, 16, .inl (fun j => nI (ho j))))] H → va_D A [(h, .inr (0, [.ref a1, .int (nI n), .ref a2, .ref a3, .ref a4, .int (nI us)])), (a1, .inl (cA, 8, .inl (fun j => nI (nb j)))), (a2, .inl (cA, 8, .inl (fun j => nI (lo2 j)))), (a3, .inl (cA, 8, .inl (fun j => nI (hi2 j)))), (a4, .inl (cA, 16, .inl (fun j => nI (ho j))))] → va_S A s.heap H locs → W p l e (headSpec (Cond.code yX_nameFrom cX_nameFrom 8 (some FieldType.boolean) :: bw) (rmL (k + 1 + 3))).room s m ([.ref h, .int (nI v), .int (nI set)] : List Value).toArray below meth c H locs 0 0 (MQ below (va_Qi (nfP v us lo hi ho (srN ed (meN set (k + 1) v) nm us)) (fun u => gW D vwCl A (xW9 h a1 a2 a3 a4 cA n nb u) [(cA, .int)]) A) ([.ref h, .int (nI v), .int (nI set)] : List Value).toArray s 0 0 A) (F0 m 81 ls []) := by
                intro k9
                induction k9 using Nat.strongRecOn with
                | _ k9 ih81 =>
                  intro b lo2 hi2 hk9 hb1 hb2 hlo1 hrem1 ls hl H locs hP hD hS
                  refine lv_iload hx hb dX_nameFrom_81 (lv_at hl 0 rfl) ?_
                  refine lv_iload hx hb dX_nameFrom_83 (lv_at hl 1 rfl) ?_
                  refine nv_icmp_gt (x := b) (y := max us (a + 1)) (tgt := 135) hx hb dX_nameFrom_85 rfl (by omega) (by omega) (fun hc85 => ?_) (fun hc85 => ?_)
                  · refine lv_iinc (k := 2) hx hb dX_nameFrom_135 hl rfl (nb_inc _) (by decide) (lv' := [(5, .int (nI (a + 1))), (7, .int (nI b)), (6, .int (nI (max us (a + 1)))), (4, .int (nI us)), (3, .int (nI ((nb v &&& set) &&& (2 ^ v - 1)))), (0, .ref h), (1, .int (nI v)), (2, .int (nI set))]) rfl (fun ls hl => ?_)
                    refine lv_goto (tgt := 52) hx hb dX_nameFrom_138 rfl ?_
                    have hl := lv_sub hl (l' := [(5, .int (nI (a + 1))), (4, .int (nI us)), (3, .int (nI ((nb v &&& set) &&& (2 ^ v - 1)))), (0, .ref h), (1, .int (nI v)), (2, .int (nI set))]) [0, 3, 4, 5, 6, 7] rfl
                    exact ih52 _ (by omega) (a + 1) lo2 hi2 rfl (by omega) hlo1 (hrem1.trans (sIn_end hc85)) ls hl _ _ hP hD hS
                  · refine lv_aload_n hx hb dX_nameFrom_88 rfl (lv_at hl 5 rfl) ?_
                    refine lv_iload hx hb dX_nameFrom_89 (lv_at hl 2 rfl) ?_
                    refine lv_iload hx hb dX_nameFrom_91 (lv_at hl 0 rfl) ?_
                    refine lv_iload_n hx hb dX_nameFrom_93 rfl (lv_at hl 4 rfl) ?_
                    refine nr_V (b := h) (As := [.int (nI a), .int (nI b), .int (nI ((nb v &&& set) &&& (2 ^ v - 1)))]) (C := RX) (rest := []) ⟨hx, hb, hml, hown, hw⟩ (cX_fits_c l D A h a1 a2 a3 a4 cA n us nb lo2 hi2 ho a b ((nb v &&& set) &&& (2 ^ v - 1)) (by omega) (by omega) (hho _ (by omega)) (hho _ (by omega)) (by omega)) (cwV 3 hw (gV w1_81 w1_83 w0_3 w1_1 w1_84) rfl rfl rfl ⟨rfl, by decide, by decide, by decide +kernel⟩ ⟨rm_1 (by omega), rm_2 (by omega) (by decide)⟩) gB_blind (va_recv (q0 := 0) (ci := 0) hK hP rfl rfl) (gB_at hP hK _) rfl hl.1 rfl (Nat.le_of_ble_eq_true rfl) dX_nameFrom_94 ⟨Nat.zero_le _, Nat.zero_le _⟩ ?_
                    rw [fit_ok (ed := ed) hhr hkc (by omega) (by omega) (fun j hj => hed v j (by omega) hj)]
                    refine nv_b_eq (x := okN ed v nm a b) (tgt := 129) hx hb dX_nameFrom_97 rfl (fun hc97 => ?_) (fun hc97 => ?_)
                    · refine lv_iinc (k := 0) hx hb dX_nameFrom_129 hl rfl (nb_inc _) (by decide) (lv' := [(7, .int (nI (b + 1))), (6, .int (nI (max us (a + 1)))), (5, .int (nI a)), (4, .int (nI us)), (3, .int (nI ((nb v &&& set) &&& (2 ^ v - 1)))), (0, .ref h), (1, .int (nI v)), (2, .int (nI set))]) rfl (fun ls hl => ?_)
                      refine lv_goto (tgt := 81) hx hb dX_nameFrom_132 rfl ?_
                      exact ih81 _ (by omega) (b + 1) lo2 hi2 rfl (by omega) (by omega) hlo1 (hrem1.trans (sIn_no hc85 (if_neg (by rw [hc97]; exact Bool.false_ne_true)))) ls hl _ _ hP hD hS
                    · refine lv_aload_n hx hb dX_nameFrom_100 rfl (lv_at hl 5 rfl) ?_
                      refine lv_iload_n hx hb dX_nameFrom_101 rfl (lv_at hl 6 rfl) ?_
                      refine lv_iload hx hb dX_nameFrom_102 (lv_at hl 2 rfl) ?_
                      refine lv_iload hx hb dX_nameFrom_104 (lv_at hl 0 rfl) ?_
                      refine va_callv (va_runV (C := RX) (As := [.int (nI v), .int (nI a), .int (nI b)]) (rest := []) ⟨hx, hb, hml, hown, hw⟩ (cX_give_c l D A h a1 a2 a3 a4 cA n us nb lo2 hi2 ho v a b hv7 (by omega) (by omega) (by omega)) (cwV 3 hw (gV w1_85 w1_87 w0_4 w1_1 w1_88) rfl rfl rfl ⟨rfl, by decide, by decide, by decide +kernel⟩ ⟨rm_1 (by omega), rm_2 (by omega) (by decide)⟩) ⟨gW_blind, va_recv (q0 := 0) (ci := 0) hK hP rfl rfl, gW_at hP hK hD _⟩ rfl rfl hl.1 rfl (lv_room (Nat.le_of_ble_eq_true rfl)) dX_nameFrom_106 ⟨Nat.zero_le _, Nat.zero_le _⟩) hS (fun q _ h => h) (fun q h => h) (fun u9 t9 H locs ht9 hvm9 hpost9 hB9 hz9 hk8 hS => ?_)
                      obtain ⟨hP, -, hD⟩ := hB9
                      rw [ht9] at hP
                      have hP : va_P D vwCl [(h, .inr (0, [.ref a1, .int (nI n), .ref a2, .ref a3, .ref a4, .int (nI (max us (b + 1)))])), (a1, .inl (cA, 8, .inl (fun j => nI (nb j)))), (a2, .inl (cA, 8, .inl (fun j => nI ((upN lo2 v a) j)))), (a3, .inl (cA, 8, .inl (fun j => nI ((upN hi2 v b) j)))), (a4, .inl (cA, 16, .inl (fun j => nI ((upN (upN ho a (ho a ||| 2 ^ v)) b ((upN ho a (ho a ||| 2 ^ v)) b ||| 2 ^ v)) j))))] H := hP
                      have hD : va_D A [(h, .inr (0, [.ref a1, .int (nI n), .ref a2, .ref a3, .ref a4, .int (nI (max us (b + 1)))])), (a1, .inl (cA, 8, .inl (fun j => nI (nb j)))), (a2, .inl (cA, 8, .inl (fun j => nI ((upN lo2 v a) j)))), (a3, .inl (cA, 8, .inl (fun j => nI ((upN hi2 v b) j)))), (a4, .inl (cA, 16, .inl (fun j => nI ((upN (upN ho a (ho a ||| 2 ^ v)) b ((upN ho a (ho a ||| 2 ^ v)) b ||| 2 ^ v)) j))))] := hD
                      refine lv_aload_n hx hb dX_nameFrom_109 rfl (lv_at hl 5 rfl) ?_
                      refine lv_iload_n hx hb dX_nameFrom_110 rfl (lv_at hl 6 rfl) ?_
                      refine lv_iconst (v := nI 1) hx hb dX_nameFrom_111 (by decide) ?_
                      refine nv_iadd (x := v) (y := 1) hx hb dX_nameFrom_112 ?_
                      refine lv_iload_n hx hb dX_nameFrom_113 rfl (lv_at hl 7 rfl) ?_
                      refine va_calli (va_runV (C := RX) (As := [.int (nI (v + 1)), .int (nI set)]) (rest := []) ⟨hx, hb, hml, hown, hw⟩ (IH (v + 1) (max us (b + 1)) (upN lo2 v a) (upN hi2 v b) (upN (upN ho a (ho a ||| 2 ^ v)) b ((upN ho a (ho a ||| 2 ^ v)) b ||| 2 ^ v)) ((v, a, b) :: nm) (by omega) (by omega) (kc_add hkc hc15 a b) (hr_add (set := set) hhr (by omega)) (nm_add hkc (nm_congr hkc hnm hlo1) a b) (ho_give hv7 hho (by omega) (by omega))) (cwV 2 hw (gV w1_68 w1_70 w0_2 w1_1 w1_71) rfl rfl rfl ⟨rfl, by decide, by decide, by decide +kernel⟩ ⟨rm_1 (by omega), rm_2 (by omega) (by decide)⟩) ⟨gW_blind, va_recv (q0 := 0) (ci := 0) hK hP rfl rfl, gW_at hP hK hD _⟩ rfl rfl hl.1 rfl (lv_room (Nat.le_of_ble_eq_true rfl)) dX_nameFrom_114 ⟨Nat.zero_le _, Nat.zero_le _⟩) hS (fun q _ h => h) (fun q h => h) (fun r9 u9 t9 H locs ht9 hvm9 hpost9 hB9 hz9 hk8 hS => ?_)
                      obtain ⟨lo3, hi3, ho3, us3⟩ := u9
                      obtain ⟨hP, -, hD⟩ := hB9
                      rw [ht9] at hP
                      obtain ⟨hr9, hlh9, hno9, hyes9⟩ := hpost9
                      subst hr9
                      have hP : va_P D vwCl [(h, .inr (0, [.ref a1, .int (nI n), .ref a2, .ref a3, .ref a4, .int (nI us3)])), (a1, .inl (cA, 8, .inl (fun j => nI (nb j)))), (a2, .inl (cA, 8, .inl (fun j => nI (lo3 j)))), (a3, .inl (cA, 8, .inl (fun j => nI (hi3 j)))), (a4, .inl (cA, 16, .inl (fun j => nI (ho3 j))))] H := hP
                      have hD : va_D A [(h, .inr (0, [.ref a1, .int (nI n), .ref a2, .ref a3, .ref a4, .int (nI us3)])), (a1, .inl (cA, 8, .inl (fun j => nI (nb j)))), (a2, .inl (cA, 8, .inl (fun j => nI (lo3 j)))), (a3, .inl (cA, 8, .inl (fun j => nI (hi3 j)))), (a4, .inl (cA, 16, .inl (fun j => nI (ho3 j))))] := hD
                      have ht8 : nfT ed (meN set k (v + 1)) v nm us a b = srN ed (meN set k (v + 1)) ((v, a, b) :: nm) (max us (b + 1)) := if_pos hc97
                      have hlo3 : ∀ j, j < v → lo3 j = lo j ∧ hi3 j = hi j := fun j hj => by
                        have h8 := hlh9 j (by omega)
                        rw [upN_n _ _ (by omega), upN_n _ _ (by omega)] at h8
                        exact ⟨h8.1.trans (hlo1 j hj).1, h8.2.trans (hlo1 j hj).2⟩
                      refine nv_b_eq (x := (srN ed (meN set k (v + 1)) ((v, a, b) :: nm) (max us (b + 1))).isSome) (tgt := 122) hx hb dX_nameFrom_117 rfl (fun hc117 => ?_) (fun hc117 => ?_)
                      · have hn2 : srN ed (meN set k (v + 1)) ((v, a, b) :: nm) (max us (b + 1)) = none := by cases h8 : srN ed (meN set k (v + 1)) ((v, a, b) :: nm) (max us (b + 1)) with | none => rfl | some x => rw [h8] at hc117; cases hc117
                        have ht9x : nfT ed (meN set k (v + 1)) v nm us a b = none := ht8.trans hn2
                        have hho3 := (hno9 hn2).1
                        have h3v := hlh9 v (by omega)
                        rw [upN_s, upN_s] at h3v
                        obtain ⟨h3a, h3b⟩ := h3v
                        dsimp only at hho3 h3a h3b
                        refine lv_aload_n hx hb dX_nameFrom_122 rfl (lv_at hl 5 rfl) ?_
                        refine lv_iload_n hx hb dX_nameFrom_123 rfl (lv_at hl 6 rfl) ?_
                        refine lv_iload hx hb dX_nameFrom_124 (lv_at hl 3 rfl) ?_
                        refine va_callv (va_runV (C := RX) (As := [.int (nI v), .int (nI us)]) (rest := []) ⟨hx, hb, hml, hown, hw⟩ (cX_takeBack_c l D A h a1 a2 a3 a4 cA n us3 nb lo3 hi3 ho3 v us hv7 (by rw [h3a]; omega) (by rw [h3b]; omega)) (cwV 2 hw (gV w1_89 w1_91 w0_5 w1_1 w1_92) rfl rfl rfl ⟨rfl, by decide, by decide, by decide +kernel⟩ ⟨rm_1 (by omega), rm_2 (by omega) (by decide)⟩) ⟨gW_blind, va_recv (q0 := 0) (ci := 0) hK hP rfl rfl, gW_at hP hK hD _⟩ rfl rfl hl.1 rfl (lv_room (Nat.le_of_ble_eq_true rfl)) dX_nameFrom_126 ⟨Nat.zero_le _, Nat.zero_le _⟩) hS (fun q _ h => h) (fun q h => h) (fun u9 t9 H locs ht9 hvm9 hpost9 hB9 hz9 hk8 hS => ?_)
                        obtain ⟨hP, -, hD⟩ := hB9
                        rw [ht9] at hP
                        have hP : va_P D vwCl [(h, .inr (0, [.ref a1, .int (nI n), .ref a2, .ref a3, .ref a4, .int (nI us)])), (a1, .inl (cA, 8, .inl (fun j => nI (nb j)))), (a2, .inl (cA, 8, .inl (fun j => nI (lo3 j)))), (a3, .inl (cA, 8, .inl (fun j => nI (hi3 j)))), (a4, .inl (cA, 16, .inl (fun j => nI ((upN (upN ho3 (lo3 v) (ho3 (lo3 v) &&& (2 ^ v ^^^ 4294967295))) (hi3 v) ((upN ho3 (lo3 v) (ho3 (lo3 v) &&& (2 ^ v ^^^ 4294967295))) (hi3 v) &&& (2 ^ v ^^^ 4294967295))) j))))] H := hP
                        have hD : va_D A [(h, .inr (0, [.ref a1, .int (nI n), .ref a2, .ref a3, .ref a4, .int (nI us)])), (a1, .inl (cA, 8, .inl (fun j => nI (nb j)))), (a2, .inl (cA, 8, .inl (fun j => nI (lo3 j)))), (a3, .inl (cA, 8, .inl (fun j => nI (hi3 j)))), (a4, .inl (cA, 16, .inl (fun j => nI ((upN (upN ho3 (lo3 v) (ho3 (lo3 v) &&& (2 ^ v ^^^ 4294967295))) (hi3 v) ((upN ho3 (lo3 v) (ho3 (lo3 v) &&& (2 ^ v ^^^ 4294967295))) (hi3 v) &&& (2 ^ v ^^^ 4294967295))) j))))] := hD
                        rw [h3a, h3b, ho_back hv7 hkc hhr hho (by omega) (by omega) (by omega) hho3] at hP
                        rw [h3a, h3b, ho_back hv7 hkc hhr hho (by omega) (by omega) (by omega) hho3] at hD
                        have hP : va_P D vwCl [(h, .inr (0, [.ref a1, .int (nI n), .ref a2, .ref a3, .ref a4, .int (nI us)])), (a1, .inl (cA, 8, .inl (fun j => nI (nb j)))), (a2, .inl (cA, 8, .inl (fun j => nI (lo3 j)))), (a3, .inl (cA, 8, .inl (fun j => nI (hi3 j)))), (a4, .inl (cA, 16, .inl (fun j => nI (ho j))))] H := hP
                        have hD : va_D A [(h, .inr (0, [.ref a1, .int (nI n), .ref a2, .ref a3, .ref a4, .int (nI us)])), (a1, .inl (cA, 8, .inl (fun j => nI (nb j)))), (a2, .inl (cA, 8, .inl (fun j => nI (lo3 j)))), (a3, .inl (cA, 8, .inl (fun j => nI (hi3 j)))), (a4, .inl (cA, 16, .inl (fun j => nI (ho j))))] := hD
                        refine lv_iinc (k := 0) hx hb dX_nameFrom_129 hl rfl (nb_inc _) (by decide) (lv' := [(7, .int (nI (b + 1))), (6, .int (nI (max us (a + 1)))), (5, .int (nI a)), (4, .int (nI us)), (3, .int (nI ((nb v &&& set) &&& (2 ^ v - 1)))), (0, .ref h), (1, .int (nI v)), (2, .int (nI set))]) rfl (fun ls hl => ?_)
                        refine lv_goto (tgt := 81) hx hb dX_nameFrom_132 rfl ?_
                        exact ih81 _ (by omega) (b + 1) lo3 hi3 rfl (by omega) (by omega) hlo3 (hrem1.trans (sIn_no hc85 ht9x)) ls hl _ _ hP hD hS
                      · refine lv_iconst (v := nI 1) hx hb dX_nameFrom_120 (by decide) ?_
                        obtain ⟨x9, hx9⟩ := Option.isSome_iff_exists.mp hc117
                        exact W.zret (v := (nI 1)) hx hb hr rfl (fun t ht hW => ⟨⟨_, (lo3, hi3, ho3, us3), rfl, (by rw [hrem1, sIn_yes hc85 (ht8.trans hx9)]; exact ⟨rfl, hlo3, (fun h9 => by cases h9), (fun x h9 => by cases h9; exact hyes9 _ hx9)⟩), by rw [ht]; exact hP, va_K.moved hW.alike hK, hD⟩, hS.F ht⟩) hS.2.2 dX_nameFrom_121
              exact L81 _ (a + 1) lo1 hi1 rfl (by omega) (by omega) hlo (hrem.trans (sIn_0 hc56)) ls hl _ _ hP hD hS
        exact L52 _ 0 lo hi rfl (Nat.zero_le _) (fun j _ => ⟨rfl, rfl⟩) hR ls hl _ _ hP hD hS
      · refine lv_aload_n hx hb dX_nameFrom_18 rfl (lv_at hl 0 rfl) ?_
        refine lv_iload_n hx hb dX_nameFrom_19 rfl (lv_at hl 1 rfl) ?_
        refine lv_iconst (v := nI 1) hx hb dX_nameFrom_20 (by decide) ?_
        refine nv_iadd (x := v) (y := 1) hx hb dX_nameFrom_21 ?_
        refine lv_iload_n hx hb dX_nameFrom_22 rfl (lv_at hl 2 rfl) ?_
        refine va_calli (va_runV (C := RX) (As := [.int (nI (v + 1)), .int (nI set)]) (rest := []) ⟨hx, hb, hml, hown, hw⟩ (IH (v + 1) us lo hi ho nm (by omega) (by omega) (kc_skip hkc hc15) hhr hnm hho) (cwV 2 hw (gV w1_68 w1_70 w0_2 w1_1 w1_71) rfl rfl rfl ⟨rfl, by decide, by decide, by decide +kernel⟩ ⟨rm_1 (by omega), rm_2 (by omega) (by decide)⟩) ⟨gW_blind, va_recv (q0 := 0) (ci := 0) hK hP rfl rfl, gW_at hP hK hD _⟩ rfl rfl hl.1 rfl (lv_room (Nat.le_of_ble_eq_true rfl)) dX_nameFrom_23 ⟨Nat.zero_le _, Nat.zero_le _⟩) hS (fun q _ h => h) (fun q h => h) (fun r9 u9 t9 H locs ht9 hvm9 hpost9 hB9 hz9 hk8 hS => ?_)
        obtain ⟨lo2, hi2, ho2, us2⟩ := u9
        obtain ⟨hP, -, hD⟩ := hB9
        rw [ht9] at hP
        obtain ⟨hr9, hlh9, hno9, hyes9⟩ := hpost9
        subst hr9
        have hP : va_P D vwCl [(h, .inr (0, [.ref a1, .int (nI n), .ref a2, .ref a3, .ref a4, .int (nI us2)])), (a1, .inl (cA, 8, .inl (fun j => nI (nb j)))), (a2, .inl (cA, 8, .inl (fun j => nI (lo2 j)))), (a3, .inl (cA, 8, .inl (fun j => nI (hi2 j)))), (a4, .inl (cA, 16, .inl (fun j => nI (ho2 j))))] H := hP
        have hD : va_D A [(h, .inr (0, [.ref a1, .int (nI n), .ref a2, .ref a3, .ref a4, .int (nI us2)])), (a1, .inl (cA, 8, .inl (fun j => nI (nb j)))), (a2, .inl (cA, 8, .inl (fun j => nI (lo2 j)))), (a3, .inl (cA, 8, .inl (fun j => nI (hi2 j)))), (a4, .inl (cA, 16, .inl (fun j => nI (ho2 j))))] := hD
        exact W.zret (v := (bI ((srN ed (meN set k (v + 1)) nm us).isSome))) hx hb hr (nb_nar _) (fun t ht hW => ⟨⟨_, (lo2, hi2, ho2, us2), rfl, (by rw [sr_out hc15]; exact ⟨rfl, fun j hj => hlh9 j (by omega), hno9, hyes9⟩), by rw [ht]; exact hP, va_K.moved hW.alike hK, hD⟩, hS.F ht⟩) hS.2.2 dX_nameFrom_26
    · exact absurd hc5 (by omega)
