theorem me_all {n : Nat} : ∀ k v, v + k ≤ n → meN (2 ^ n - 1) k v = List.range' v k
  | 0, v, _ => rfl
  | k + 1, v, h => by
    have e : meN (2 ^ n - 1) (k + 1) v = if (2 ^ n - 1).testBit v = true then v :: meN (2 ^ n - 1) k (v + 1) else meN (2 ^ n - 1) k (v + 1) := rfl
    rw [e, if_pos (by rw [Nat.testBit_two_pow_sub_one, decide_eq_true (by omega)]), me_all k (v + 1) (by omega)]
    rfl
/-- what the reference's rows hold behind a found naming of all -/
def MU (n : Nat) (x : List (Nat × Nat × Nat) × Nat) (u : (Nat → Nat) × (Nat → Nat) × (Nat → Nat) × (Nat → Nat)) : Prop := u.2.2.2 n = x.2 ∧ ∀ v, v < n → (v, u.1 v, u.2.1 v) ∈ x.1
theorem mu_of {n : Nat} {x : List (Nat × Nat × Nat) × Nat} {u : (Nat → Nat) × (Nat → Nat) × (Nat → Nat) × (Nat → Nat)} (h1 : u.2.2.2 (meN (2 ^ n - 1) n 0).length = x.2) (h2 : PO (meN (2 ^ n - 1) n 0).length x.1 u.2.2.1 u.1 u.2.1) (h3 : ∀ i, i < (meN (2 ^ n - 1) n 0).length → (meN (2 ^ n - 1) n 0)[i]? = some (u.2.2.1 i)) : MU n x u := by
  have e := me_all (n := n) n 0 (by omega)
  rw [e, List.length_range'] at h1 h2 h3
  refine ⟨h1, fun v hv => ?_⟩
  have h4 := h3 v hv
  rw [List.getElem?_range' hv] at h4
  have h5 : u.2.2.1 v = v := by have := Option.some.inj h4; omega
  have h6 := h2.1 v hv
  rw [h5] at h6
  exact h6
theorem mu_lt {ed : Nat → Nat → Nat} {n : Nat} {x : List (Nat × Nat × Nat) × Nat} {u : (Nat → Nat) × (Nat → Nat) × (Nat → Nat) × (Nat → Nat)} (hn : n ≤ 8) (h : srN ed (meN (2 ^ n - 1) n 0) [] 0 = some x) (hm : MU n x u) : x.2 ≤ 16 ∧ ∀ v, v < n → u.1 v < 16 ∧ u.2.1 v < 16 := by
  obtain ⟨-, k2, -, k4, k5⟩ := sr_bound h
  have hl := me_len (set := 2 ^ n - 1) (k := n) (v := 0)
  refine ⟨by omega, fun v hv => ?_⟩
  rcases k5 _ (hm.2 v hv) with h9 | h9
  · cases h9
  · dsimp only at h9; omega
theorem mBa_s {lo hi : Nat → Nat} {x n : Nat} : mBa lo hi x (n + 1) = if x &&& 2 ^ hi n = 0 then (if x &&& 2 ^ lo n = 0 then mBa lo hi x n else mBa lo hi x n ||| 2 ^ hi n) else (if x &&& 2 ^ lo n = 0 then mBa lo hi x n else mBa lo hi x n ||| 2 ^ hi n) ||| 2 ^ lo n := by
  rw [Nat.and_comm x (2 ^ hi n), Nat.and_comm x (2 ^ lo n)]; rfl
theorem mLo_lt {ed lo hi : Nat → Nat} {n us g : Nat} (hu : us ≤ 16) : ∀ k, mLo ed lo hi n us g k < 65536
  | 0 => by show (0 : Nat) < 65536; omega
  | k + 1 => by
    have ih := mLo_lt (ed := ed) (lo := lo) (hi := hi) (n := n) (us := us) (g := g) hu k
    have e : mLo ed lo hi n us g (k + 1) = if pcN k = g ∧ mAl ed k 0 n = true then mLo ed lo hi n us g k ||| ((2 ^ us - 1) &&& ntN (mEn lo hi k n)) else mLo ed lo hi n us g k := rfl
    have h1 : 2 ^ us ≤ 2 ^ 16 := pw_le hu
    have h2 := Nat.two_pow_pos us
    rw [e]
    split
    · exact or_16 ih (and_lt (by omega))
    · exact ih

set_option maxHeartbeats 4000000 in
set_option maxRecDepth 100000 in
theorem cM_line_y (l : Launch) (D : va_G) (A : Nat → Prop) (g0 b1 b2 b3 b4 b5 : Nat) (cA : ClassId) (n ft : Nat) (ed lw hg od ud : Nat → Nat) (code9 : Nat) (hn : n ≤ 8)(hed1 : ∀ k, k < 64 → ed k ≤ 1)(x : List (Nat × Nat × Nat) × Nat) (hres : srN (fun v j => ed (8 * v + j)) (meN (2 ^ n - 1) n 0) [] 0 = some x) : Met l yM_line (Cond.code yM_line cM_line 3 (some FieldType.boolean) :: bw) (rmL 4) (va_Pc [.ref g0, .int (nI code9)] (gW D vwCl A [(g0, .inr (1, [.int (nI n), .ref b1, .int (nI ft), .ref b2, .ref b3, .ref b4, .ref b5])), (b1, .inl (cA, 64, .inl (fun j => nI (ed j)))), (b2, .inl (cA, 8, .inl (fun j => nI (lw j)))), (b3, .inl (cA, 8, .inl (fun j => nI (hg j)))), (b4, .inl (cA, 8, .inl (fun j => nI (od j)))), (b5, .inl (cA, 9, .inl (fun j => nI (ud j))))] [(cA, .int)])) (va_Qi (fun r (u : (Nat → Nat) × (Nat → Nat) × (Nat → Nat) × (Nat → Nat)) => r = bI true ∧ MU n x u) (fun u => gW D vwCl A (mW9 g0 b1 b2 b3 b4 b5 cA n 0 ed u) [(cA, .int)]) A) 0 0 A := by
  refine Met.ofW (cc := cM_line) (maxL := 3) (ret := (some FieldType.boolean)) (by decide) rfl ?_
  intro p e s m args below meth c s₁ B9 hml hv9
  obtain ⟨rfl, hP, hK, hD⟩ := hv9
  have hx := B9.exec
  have hb := B9.bytes
  have hr := B9.returns
  have hts := atoms_spec (ws := (Cond.code yM_line cM_line 3 (some FieldType.boolean) :: bw)) B9.pre
  have hw : ∀ w ∈ bw, w.before _ s = true := fun w h => hts w (List.mem_cons_of_mem _ h)
  have hown : s.vm.findClass RM = some m.cls := findClass_of_methodNamed B9.named
  have hlocks := B9.notSynchronized
  have hl := lv_entry ([.ref g0, .int (nI code9)]) (n := 3) (Nat.le_of_ble_eq_true rfl)
  rw [lg_entry_eq]
  generalize (lg_sl ([.ref g0, .int (nI code9)]) ++ List.replicate (3 - (lg_sl ([.ref g0, .int (nI code9)])).length) Slot.unset).toArray = ls at hl ⊢
  have hl : lv_has ls 3 [(0, .ref g0), (1, .int (nI code9))] := hl
  have hS : va_S A s.heap s.heap [] := va_S.rf
  have hp := pw_8 hn
  have hp0 := Nat.two_pow_pos n
  refine lv_aload_n hx hb dM_line_0 rfl (lv_at hl 0 rfl) ?_
  refine lv_aload_n hx hb dM_line_1 rfl (lv_at hl 0 rfl) ?_
  refine nr_V (b := g0) (As := []) (C := RM) (rest := [.ref g0]) ⟨hx, hb, hml, hown, hw⟩ (cM_all_c l D A g0 b1 b2 b3 b4 b5 cA n ft ed lw hg od ud hn) (cwV 0 hw (gV w2_168 w2_170 w0_18 w1_2 w2_171) rfl rfl rfl ⟨rfl, by decide, by decide, by decide +kernel⟩ ⟨Nat.le_of_ble_eq_true rfl, Nat.le_of_ble_eq_true rfl⟩) gB_blind (va_recv (q0 := 0) (ci := 1) hK hP rfl rfl) (gB_at hP hK _) rfl hl.1 rfl (Nat.le_of_ble_eq_true rfl) dM_line_2 ⟨Nat.zero_le _, Nat.zero_le _⟩ ?_
  refine va_calli (va_runV (C := RM) (As := [.int (nI (2 ^ n - 1))]) (rest := []) ⟨hx, hb, hml, hown, hw⟩ (cM_name_c l D A g0 b1 b2 b3 b4 b5 cA n ft ed lw hg od ud (2 ^ n - 1) hn hed1 (by omega)) (cwV 1 hw (gV w2_172 w2_174 w0_19 w1_2 w2_175) rfl rfl rfl ⟨rfl, by decide, by decide, by decide +kernel⟩ ⟨Nat.le_of_ble_eq_true rfl, Nat.le_of_ble_eq_true rfl⟩) ⟨gW_blind, va_recv (q0 := 0) (ci := 1) hK hP rfl rfl, gW_at hP hK hD _⟩ rfl rfl hl.1 rfl (lv_room (Nat.le_of_ble_eq_true rfl)) dM_line_5 ⟨Nat.zero_le _, Nat.zero_le _⟩) hS (fun q _ h => h) (fun q h => h) (fun r9 u9 t9 H locs ht9 hvm9 hpost9 hB9 hz9 hk8 hS => ?_)
  obtain ⟨lw5, hg5, od5, ud5⟩ := u9
  obtain ⟨hP, -, hD⟩ := hB9
  rw [ht9] at hP
  obtain ⟨hr9, hud9, hpo9, hmem9⟩ := hpost9.2 x hres
  subst hr9
  have hmu := mu_of hud9 hpo9 hmem9
  obtain ⟨hx16, hlt16⟩ := mu_lt hn hres hmu
  have hP : va_P D vwCl [(g0, .inr (1, [.int (nI n), .ref b1, .int (nI ft), .ref b2, .ref b3, .ref b4, .ref b5])), (b1, .inl (cA, 64, .inl (fun j => nI (ed j)))), (b2, .inl (cA, 8, .inl (fun j => nI (lw5 j)))), (b3, .inl (cA, 8, .inl (fun j => nI (hg5 j)))), (b4, .inl (cA, 8, .inl (fun j => nI (od5 j)))), (b5, .inl (cA, 9, .inl (fun j => nI (ud5 j))))] H := hP
  have hD : va_D A [(g0, .inr (1, [.int (nI n), .ref b1, .int (nI ft), .ref b2, .ref b3, .ref b4, .ref b5])), (b1, .inl (cA, 64, .inl (fun j => nI (ed j)))), (b2, .inl (cA, 8, .inl (fun j => nI (lw5 j)))), (b3, .inl (cA, 8, .inl (fun j => nI (hg5 j)))), (b4, .inl (cA, 8, .inl (fun j => nI (od5 j)))), (b5, .inl (cA, 9, .inl (fun j => nI (ud5 j))))] := hD
  refine nv_if_lt (x := x.2) (tgt := 15) hx hb dM_line_8 rfl (by omega) ?_
  refine lv_iconst (v := nI 1) hx hb dM_line_11 (by decide) ?_
  refine lv_goto (tgt := 16) hx hb dM_line_12 rfl ?_
  refine lv_istore_n hx hb dM_line_16 rfl hl (by decide) (lv' := [(2, .int (nI 1)), (0, .ref g0), (1, .int (nI code9))]) rfl (fun ls hl => ?_)
  refine lv_aload_n hx hb dM_line_17 rfl (lv_at hl 1 rfl) ?_
  refine lv_iload_n hx hb dM_line_18 rfl (lv_at hl 0 rfl) ?_
  refine nv_if_eq (x := 1) (tgt := 26) hx hb dM_line_19 rfl (by omega) (fun hc19 => ?_) (fun hc19 => ?_)
  · exact absurd hc19 (by omega)
  · refine lv_iconst (v := nI 0) hx hb dM_line_22 (by decide) ?_
    refine lv_goto (tgt := 27) hx hb dM_line_23 rfl ?_
    refine va_put (D := D) (ci := 1) (v := .int (nI 0)) (ty := .int) (C := RM) (T := TM) (N := 7) hx hb hw uM tyM tyM_ok nmM hown hK hP hD hS 0 rfl rfl 2 (by decide) (hw _ w2_100) (fun _ h9 => h9) rfl (by decide +kernel) rfl rfl (Nat.le_of_ble_eq_true rfl) dM_line_27 (fun H locs hP hD hS => ?_)
    have hP : va_P D vwCl [(g0, .inr (1, [.int (nI n), .ref b1, .int (nI 0), .ref b2, .ref b3, .ref b4, .ref b5])), (b1, .inl (cA, 64, .inl (fun j => nI (ed j)))), (b2, .inl (cA, 8, .inl (fun j => nI (lw5 j)))), (b3, .inl (cA, 8, .inl (fun j => nI (hg5 j)))), (b4, .inl (cA, 8, .inl (fun j => nI (od5 j)))), (b5, .inl (cA, 9, .inl (fun j => nI (ud5 j))))] H := hP
    have hD : va_D A [(g0, .inr (1, [.int (nI n), .ref b1, .int (nI 0), .ref b2, .ref b3, .ref b4, .ref b5])), (b1, .inl (cA, 64, .inl (fun j => nI (ed j)))), (b2, .inl (cA, 8, .inl (fun j => nI (lw5 j)))), (b3, .inl (cA, 8, .inl (fun j => nI (hg5 j)))), (b4, .inl (cA, 8, .inl (fun j => nI (od5 j)))), (b5, .inl (cA, 9, .inl (fun j => nI (ud5 j))))] := hD
    refine lv_iload_n hx hb dM_line_30 rfl (lv_at hl 0 rfl) ?_
    exact W.zret (v := (nI 1)) hx hb hr rfl (fun t ht hW => ⟨⟨_, (lw5, hg5, od5, ud5), rfl, ⟨rfl, hmu⟩, by rw [ht]; exact hP, va_K.moved hW.alike hK, hD⟩, hS.F ht⟩) hS.2.2 dM_line_31

set_option maxHeartbeats 4000000 in
set_option maxRecDepth 100000 in
theorem cM_line_n (l : Launch) (D : va_G) (A : Nat → Prop) (g0 b1 b2 b3 b4 b5 : Nat) (cA : ClassId) (n ft : Nat) (ed lw hg od ud : Nat → Nat) (code9 : Nat) (hn : n ≤ 8)(hed1 : ∀ k, k < 64 → ed k ≤ 1)(hres : srN (fun v j => ed (8 * v + j)) (meN (2 ^ n - 1) n 0) [] 0 = none) : Met l yM_line (Cond.code yM_line cM_line 3 (some FieldType.boolean) :: bw) (rmL 4) (va_Pc [.ref g0, .int (nI code9)] (gW D vwCl A [(g0, .inr (1, [.int (nI n), .ref b1, .int (nI ft), .ref b2, .ref b3, .ref b4, .ref b5])), (b1, .inl (cA, 64, .inl (fun j => nI (ed j)))), (b2, .inl (cA, 8, .inl (fun j => nI (lw j)))), (b3, .inl (cA, 8, .inl (fun j => nI (hg j)))), (b4, .inl (cA, 8, .inl (fun j => nI (od j)))), (b5, .inl (cA, 9, .inl (fun j => nI (ud j))))] [(cA, .int)])) (va_Qi (fun r (_ : (Nat → Nat) × (Nat → Nat) × (Nat → Nat) × (Nat → Nat)) => r = bI false) (fun u => gW D vwCl A (mW9 g0 b1 b2 b3 b4 b5 cA n code9 ed u) [(cA, .int)]) A) 0 0 A := by
  refine Met.ofW (cc := cM_line) (maxL := 3) (ret := (some FieldType.boolean)) (by decide) rfl ?_
  intro p e s m args below meth c s₁ B9 hml hv9
  obtain ⟨rfl, hP, hK, hD⟩ := hv9
  have hx := B9.exec
  have hb := B9.bytes
  have hr := B9.returns
  have hts := atoms_spec (ws := (Cond.code yM_line cM_line 3 (some FieldType.boolean) :: bw)) B9.pre
  have hw : ∀ w ∈ bw, w.before _ s = true := fun w h => hts w (List.mem_cons_of_mem _ h)
  have hown : s.vm.findClass RM = some m.cls := findClass_of_methodNamed B9.named
  have hlocks := B9.notSynchronized
  have hl := lv_entry ([.ref g0, .int (nI code9)]) (n := 3) (Nat.le_of_ble_eq_true rfl)
  rw [lg_entry_eq]
  generalize (lg_sl ([.ref g0, .int (nI code9)]) ++ List.replicate (3 - (lg_sl ([.ref g0, .int (nI code9)])).length) Slot.unset).toArray = ls at hl ⊢
  have hl : lv_has ls 3 [(0, .ref g0), (1, .int (nI code9))] := hl
  have hS : va_S A s.heap s.heap [] := va_S.rf
  have hp := pw_8 hn
  have hp0 := Nat.two_pow_pos n
  refine lv_aload_n hx hb dM_line_0 rfl (lv_at hl 0 rfl) ?_
  refine lv_aload_n hx hb dM_line_1 rfl (lv_at hl 0 rfl) ?_
  refine nr_V (b := g0) (As := []) (C := RM) (rest := [.ref g0]) ⟨hx, hb, hml, hown, hw⟩ (cM_all_c l D A g0 b1 b2 b3 b4 b5 cA n ft ed lw hg od ud hn) (cwV 0 hw (gV w2_168 w2_170 w0_18 w1_2 w2_171) rfl rfl rfl ⟨rfl, by decide, by decide, by decide +kernel⟩ ⟨Nat.le_of_ble_eq_true rfl, Nat.le_of_ble_eq_true rfl⟩) gB_blind (va_recv (q0 := 0) (ci := 1) hK hP rfl rfl) (gB_at hP hK _) rfl hl.1 rfl (Nat.le_of_ble_eq_true rfl) dM_line_2 ⟨Nat.zero_le _, Nat.zero_le _⟩ ?_
  refine va_calli (va_runV (C := RM) (As := [.int (nI (2 ^ n - 1))]) (rest := []) ⟨hx, hb, hml, hown, hw⟩ (cM_name_c l D A g0 b1 b2 b3 b4 b5 cA n ft ed lw hg od ud (2 ^ n - 1) hn hed1 (by omega)) (cwV 1 hw (gV w2_172 w2_174 w0_19 w1_2 w2_175) rfl rfl rfl ⟨rfl, by decide, by decide, by decide +kernel⟩ ⟨Nat.le_of_ble_eq_true rfl, Nat.le_of_ble_eq_true rfl⟩) ⟨gW_blind, va_recv (q0 := 0) (ci := 1) hK hP rfl rfl, gW_at hP hK hD _⟩ rfl rfl hl.1 rfl (lv_room (Nat.le_of_ble_eq_true rfl)) dM_line_5 ⟨Nat.zero_le _, Nat.zero_le _⟩) hS (fun q _ h => h) (fun q h => h) (fun r9 u9 t9 H locs ht9 hvm9 hpost9 hB9 hz9 hk8 hS => ?_)
  obtain ⟨lw5, hg5, od5, ud5⟩ := u9
  obtain ⟨hP, -, hD⟩ := hB9
  rw [ht9] at hP
  have hr9 := hpost9.1 hres
  subst hr9
  have hP : va_P D vwCl [(g0, .inr (1, [.int (nI n), .ref b1, .int (nI ft), .ref b2, .ref b3, .ref b4, .ref b5])), (b1, .inl (cA, 64, .inl (fun j => nI (ed j)))), (b2, .inl (cA, 8, .inl (fun j => nI (lw5 j)))), (b3, .inl (cA, 8, .inl (fun j => nI (hg5 j)))), (b4, .inl (cA, 8, .inl (fun j => nI (od5 j)))), (b5, .inl (cA, 9, .inl (fun j => nI (ud5 j))))] H := hP
  have hD : va_D A [(g0, .inr (1, [.int (nI n), .ref b1, .int (nI ft), .ref b2, .ref b3, .ref b4, .ref b5])), (b1, .inl (cA, 64, .inl (fun j => nI (ed j)))), (b2, .inl (cA, 8, .inl (fun j => nI (lw5 j)))), (b3, .inl (cA, 8, .inl (fun j => nI (hg5 j)))), (b4, .inl (cA, 8, .inl (fun j => nI (od5 j)))), (b5, .inl (cA, 9, .inl (fun j => nI (ud5 j))))] := hD
  refine lv_if_lt (tgt := 15) hx hb dM_line_8 rfl (fun hc8 => ?_) (fun hc8 => ?_)
  · refine lv_iconst (v := nI 0) hx hb dM_line_15 (by decide) ?_
    refine lv_istore_n hx hb dM_line_16 rfl hl (by decide) (lv' := [(2, .int (nI 0)), (0, .ref g0), (1, .int (nI code9))]) rfl (fun ls hl => ?_)
    refine lv_aload_n hx hb dM_line_17 rfl (lv_at hl 1 rfl) ?_
    refine lv_iload_n hx hb dM_line_18 rfl (lv_at hl 0 rfl) ?_
    refine nv_if_eq (x := 0) (tgt := 26) hx hb dM_line_19 rfl (by omega) (fun hc19 => ?_) (fun hc19 => ?_)
    · refine lv_iload_n hx hb dM_line_26 rfl (lv_at hl 2 rfl) ?_
      refine va_put (D := D) (ci := 1) (v := .int (nI code9)) (ty := .int) (C := RM) (T := TM) (N := 7) hx hb hw uM tyM tyM_ok nmM hown hK hP hD hS 0 rfl rfl 2 (by decide) (hw _ w2_100) (fun _ h9 => h9) rfl (by decide +kernel) rfl rfl (Nat.le_of_ble_eq_true rfl) dM_line_27 (fun H locs hP hD hS => ?_)
      have hP : va_P D vwCl [(g0, .inr (1, [.int (nI n), .ref b1, .int (nI code9), .ref b2, .ref b3, .ref b4, .ref b5])), (b1, .inl (cA, 64, .inl (fun j => nI (ed j)))), (b2, .inl (cA, 8, .inl (fun j => nI (lw5 j)))), (b3, .inl (cA, 8, .inl (fun j => nI (hg5 j)))), (b4, .inl (cA, 8, .inl (fun j => nI (od5 j)))), (b5, .inl (cA, 9, .inl (fun j => nI (ud5 j))))] H := hP
      have hD : va_D A [(g0, .inr (1, [.int (nI n), .ref b1, .int (nI code9), .ref b2, .ref b3, .ref b4, .ref b5])), (b1, .inl (cA, 64, .inl (fun j => nI (ed j)))), (b2, .inl (cA, 8, .inl (fun j => nI (lw5 j)))), (b3, .inl (cA, 8, .inl (fun j => nI (hg5 j)))), (b4, .inl (cA, 8, .inl (fun j => nI (od5 j)))), (b5, .inl (cA, 9, .inl (fun j => nI (ud5 j))))] := hD
      refine lv_iload_n hx hb dM_line_30 rfl (lv_at hl 0 rfl) ?_
      exact W.zret (v := (nI 0)) hx hb hr rfl (fun t ht hW => ⟨⟨_, (lw5, hg5, od5, ud5), rfl, rfl, by rw [ht]; exact hP, va_K.moved hW.alike hK, hD⟩, hS.F ht⟩) hS.2.2 dM_line_31
    · exact absurd rfl hc19
  · exact absurd (by decide) hc8

set_option maxHeartbeats 4000000 in
set_option maxRecDepth 100000 in
theorem cM_isLine_y (l : Launch) (D : va_G) (A : Nat → Prop) (g0 b1 b2 b3 b4 b5 : Nat) (cA : ClassId) (n ft : Nat) (ed lw hg od ud : Nat → Nat)  (hn : n ≤ 8)(hed1 : ∀ k, k < 64 → ed k ≤ 1)(x : List (Nat × Nat × Nat) × Nat) (hres : srN (fun v j => ed (8 * v + j)) (meN (2 ^ n - 1) n 0) [] 0 = some x) : Met l yM_isLine (Cond.code yM_isLine cM_isLine 1 (some FieldType.boolean) :: bw) (rmL 4) (va_Pc [.ref g0] (gW D vwCl A [(g0, .inr (1, [.int (nI n), .ref b1, .int (nI ft), .ref b2, .ref b3, .ref b4, .ref b5])), (b1, .inl (cA, 64, .inl (fun j => nI (ed j)))), (b2, .inl (cA, 8, .inl (fun j => nI (lw j)))), (b3, .inl (cA, 8, .inl (fun j => nI (hg j)))), (b4, .inl (cA, 8, .inl (fun j => nI (od j)))), (b5, .inl (cA, 9, .inl (fun j => nI (ud j))))] [(cA, .int)])) (va_Qi (fun r (u : (Nat → Nat) × (Nat → Nat) × (Nat → Nat) × (Nat → Nat)) => r = bI true ∧ MU n x u) (fun u => gW D vwCl A (mW9 g0 b1 b2 b3 b4 b5 cA n 0 ed u) [(cA, .int)]) A) 0 0 A := by
  refine Met.ofW (cc := cM_isLine) (maxL := 1) (ret := (some FieldType.boolean)) (by decide) rfl ?_
  intro p e s m args below meth c s₁ B9 hml hv9
  obtain ⟨rfl, hP, hK, hD⟩ := hv9
  have hx := B9.exec
  have hb := B9.bytes
  have hr := B9.returns
  have hts := atoms_spec (ws := (Cond.code yM_isLine cM_isLine 1 (some FieldType.boolean) :: bw)) B9.pre
  have hw : ∀ w ∈ bw, w.before _ s = true := fun w h => hts w (List.mem_cons_of_mem _ h)
  have hown : s.vm.findClass RM = some m.cls := findClass_of_methodNamed B9.named
  have hlocks := B9.notSynchronized
  have hl := lv_entry ([.ref g0]) (n := 1) (Nat.le_of_ble_eq_true rfl)
  rw [lg_entry_eq]
  generalize (lg_sl ([.ref g0]) ++ List.replicate (1 - (lg_sl ([.ref g0])).length) Slot.unset).toArray = ls at hl ⊢
  have hl : lv_has ls 1 [(0, .ref g0)] := hl
  have hS : va_S A s.heap s.heap [] := va_S.rf
  have hp := pw_8 hn
  have hp0 := Nat.two_pow_pos n
  refine lv_aload_n hx hb dM_isLine_0 rfl (lv_at hl 0 rfl) ?_
  refine lv_iconst (v := nI 0) hx hb dM_isLine_1 (by decide) ?_
  refine va_put (D := D) (ci := 1) (v := .int (nI 0)) (ty := .int) (C := RM) (T := TM) (N := 7) hx hb hw uM tyM tyM_ok nmM hown hK hP hD hS 0 rfl rfl 2 (by decide) (hw _ w2_100) (fun _ h9 => h9) rfl (by decide +kernel) rfl rfl (Nat.le_of_ble_eq_true rfl) dM_isLine_2 (fun H locs hP hD hS => ?_)
  have hP : va_P D vwCl [(g0, .inr (1, [.int (nI n), .ref b1, .int (nI 0), .ref b2, .ref b3, .ref b4, .ref b5])), (b1, .inl (cA, 64, .inl (fun j => nI (ed j)))), (b2, .inl (cA, 8, .inl (fun j => nI (lw j)))), (b3, .inl (cA, 8, .inl (fun j => nI (hg j)))), (b4, .inl (cA, 8, .inl (fun j => nI (od j)))), (b5, .inl (cA, 9, .inl (fun j => nI (ud j))))] H := hP
  have hD : va_D A [(g0, .inr (1, [.int (nI n), .ref b1, .int (nI 0), .ref b2, .ref b3, .ref b4, .ref b5])), (b1, .inl (cA, 64, .inl (fun j => nI (ed j)))), (b2, .inl (cA, 8, .inl (fun j => nI (lw j)))), (b3, .inl (cA, 8, .inl (fun j => nI (hg j)))), (b4, .inl (cA, 8, .inl (fun j => nI (od j)))), (b5, .inl (cA, 9, .inl (fun j => nI (ud j))))] := hD
  refine lv_aload_n hx hb dM_isLine_5 rfl (lv_at hl 0 rfl) ?_
  refine lv_aload_n hx hb dM_isLine_6 rfl (lv_at hl 0 rfl) ?_
  refine nr_V (b := g0) (As := []) (C := RM) (rest := [.ref g0]) ⟨hx, hb, hml, hown, hw⟩ (cM_all_c l D A g0 b1 b2 b3 b4 b5 cA n 0 ed lw hg od ud hn) (cwV 0 hw (gV w2_168 w2_170 w0_18 w1_2 w2_171) rfl rfl rfl ⟨rfl, by decide, by decide, by decide +kernel⟩ ⟨Nat.le_of_ble_eq_true rfl, Nat.le_of_ble_eq_true rfl⟩) gB_blind (va_recv (q0 := 0) (ci := 1) hK hP rfl rfl) (gB_at hP hK _) rfl hl.1 rfl (Nat.le_of_ble_eq_true rfl) dM_isLine_7 ⟨Nat.zero_le _, Nat.zero_le _⟩ ?_
  refine va_calli (va_runV (C := RM) (As := [.int (nI (2 ^ n - 1))]) (rest := []) ⟨hx, hb, hml, hown, hw⟩ (cM_name_c l D A g0 b1 b2 b3 b4 b5 cA n 0 ed lw hg od ud (2 ^ n - 1) hn hed1 (by omega)) (cwV 1 hw (gV w2_172 w2_174 w0_19 w1_2 w2_175) rfl rfl rfl ⟨rfl, by decide, by decide, by decide +kernel⟩ ⟨Nat.le_of_ble_eq_true rfl, Nat.le_of_ble_eq_true rfl⟩) ⟨gW_blind, va_recv (q0 := 0) (ci := 1) hK hP rfl rfl, gW_at hP hK hD _⟩ rfl rfl hl.1 rfl (lv_room (Nat.le_of_ble_eq_true rfl)) dM_isLine_10 ⟨Nat.zero_le _, Nat.zero_le _⟩) hS (fun q _ h => h) (fun q h => h) (fun r9 u9 t9 H locs ht9 hvm9 hpost9 hB9 hz9 hk8 hS => ?_)
  obtain ⟨lw5, hg5, od5, ud5⟩ := u9
  obtain ⟨hP, -, hD⟩ := hB9
  rw [ht9] at hP
  obtain ⟨hr9, hud9, hpo9, hmem9⟩ := hpost9.2 x hres
  subst hr9
  have hmu := mu_of hud9 hpo9 hmem9
  obtain ⟨hx16, hlt16⟩ := mu_lt hn hres hmu
  have hP : va_P D vwCl [(g0, .inr (1, [.int (nI n), .ref b1, .int (nI 0), .ref b2, .ref b3, .ref b4, .ref b5])), (b1, .inl (cA, 64, .inl (fun j => nI (ed j)))), (b2, .inl (cA, 8, .inl (fun j => nI (lw5 j)))), (b3, .inl (cA, 8, .inl (fun j => nI (hg5 j)))), (b4, .inl (cA, 8, .inl (fun j => nI (od5 j)))), (b5, .inl (cA, 9, .inl (fun j => nI (ud5 j))))] H := hP
  have hD : va_D A [(g0, .inr (1, [.int (nI n), .ref b1, .int (nI 0), .ref b2, .ref b3, .ref b4, .ref b5])), (b1, .inl (cA, 64, .inl (fun j => nI (ed j)))), (b2, .inl (cA, 8, .inl (fun j => nI (lw5 j)))), (b3, .inl (cA, 8, .inl (fun j => nI (hg5 j)))), (b4, .inl (cA, 8, .inl (fun j => nI (od5 j)))), (b5, .inl (cA, 9, .inl (fun j => nI (ud5 j))))] := hD
  refine nv_if_lt (x := x.2) (tgt := 20) hx hb dM_isLine_13 rfl (by omega) ?_
  refine lv_iconst (v := nI 1) hx hb dM_isLine_16 (by decide) ?_
  refine lv_goto (tgt := 21) hx hb dM_isLine_17 rfl ?_
  exact W.zret (v := (nI 1)) hx hb hr rfl (fun t ht hW => ⟨⟨_, (lw5, hg5, od5, ud5), rfl, ⟨rfl, hmu⟩, by rw [ht]; exact hP, va_K.moved hW.alike hK, hD⟩, hS.F ht⟩) hS.2.2 dM_isLine_21

set_option maxHeartbeats 4000000 in
set_option maxRecDepth 100000 in
theorem cM_isLine_n (l : Launch) (D : va_G) (A : Nat → Prop) (g0 b1 b2 b3 b4 b5 : Nat) (cA : ClassId) (n ft : Nat) (ed lw hg od ud : Nat → Nat)  (hn : n ≤ 8)(hed1 : ∀ k, k < 64 → ed k ≤ 1)(hres : srN (fun v j => ed (8 * v + j)) (meN (2 ^ n - 1) n 0) [] 0 = none) : Met l yM_isLine (Cond.code yM_isLine cM_isLine 1 (some FieldType.boolean) :: bw) (rmL 4) (va_Pc [.ref g0] (gW D vwCl A [(g0, .inr (1, [.int (nI n), .ref b1, .int (nI ft), .ref b2, .ref b3, .ref b4, .ref b5])), (b1, .inl (cA, 64, .inl (fun j => nI (ed j)))), (b2, .inl (cA, 8, .inl (fun j => nI (lw j)))), (b3, .inl (cA, 8, .inl (fun j => nI (hg j)))), (b4, .inl (cA, 8, .inl (fun j => nI (od j)))), (b5, .inl (cA, 9, .inl (fun j => nI (ud j))))] [(cA, .int)])) (va_Qi (fun r (_ : (Nat → Nat) × (Nat → Nat) × (Nat → Nat) × (Nat → Nat)) => r = bI false) (fun u => gW D vwCl A (mW9 g0 b1 b2 b3 b4 b5 cA n 0 ed u) [(cA, .int)]) A) 0 0 A := by
  refine Met.ofW (cc := cM_isLine) (maxL := 1) (ret := (some FieldType.boolean)) (by decide) rfl ?_
  intro p e s m args below meth c s₁ B9 hml hv9
  obtain ⟨rfl, hP, hK, hD⟩ := hv9
  have hx := B9.exec
  have hb := B9.bytes
  have hr := B9.returns
  have hts := atoms_spec (ws := (Cond.code yM_isLine cM_isLine 1 (some FieldType.boolean) :: bw)) B9.pre
  have hw : ∀ w ∈ bw, w.before _ s = true := fun w h => hts w (List.mem_cons_of_mem _ h)
  have hown : s.vm.findClass RM = some m.cls := findClass_of_methodNamed B9.named
  have hlocks := B9.notSynchronized
  have hl := lv_entry ([.ref g0]) (n := 1) (Nat.le_of_ble_eq_true rfl)
  rw [lg_entry_eq]
  generalize (lg_sl ([.ref g0]) ++ List.replicate (1 - (lg_sl ([.ref g0])).length) Slot.unset).toArray = ls at hl ⊢
  have hl : lv_has ls 1 [(0, .ref g0)] := hl
  have hS : va_S A s.heap s.heap [] := va_S.rf
  have hp := pw_8 hn
  have hp0 := Nat.two_pow_pos n
  refine lv_aload_n hx hb dM_isLine_0 rfl (lv_at hl 0 rfl) ?_
  refine lv_iconst (v := nI 0) hx hb dM_isLine_1 (by decide) ?_
  refine va_put (D := D) (ci := 1) (v := .int (nI 0)) (ty := .int) (C := RM) (T := TM) (N := 7) hx hb hw uM tyM tyM_ok nmM hown hK hP hD hS 0 rfl rfl 2 (by decide) (hw _ w2_100) (fun _ h9 => h9) rfl (by decide +kernel) rfl rfl (Nat.le_of_ble_eq_true rfl) dM_isLine_2 (fun H locs hP hD hS => ?_)
  have hP : va_P D vwCl [(g0, .inr (1, [.int (nI n), .ref b1, .int (nI 0), .ref b2, .ref b3, .ref b4, .ref b5])), (b1, .inl (cA, 64, .inl (fun j => nI (ed j)))), (b2, .inl (cA, 8, .inl (fun j => nI (lw j)))), (b3, .inl (cA, 8, .inl (fun j => nI (hg j)))), (b4, .inl (cA, 8, .inl (fun j => nI (od j)))), (b5, .inl (cA, 9, .inl (fun j => nI (ud j))))] H := hP
  have hD : va_D A [(g0, .inr (1, [.int (nI n), .ref b1, .int (nI 0), .ref b2, .ref b3, .ref b4, .ref b5])), (b1, .inl (cA, 64, .inl (fun j => nI (ed j)))), (b2, .inl (cA, 8, .inl (fun j => nI (lw j)))), (b3, .inl (cA, 8, .inl (fun j => nI (hg j)))), (b4, .inl (cA, 8, .inl (fun j => nI (od j)))), (b5, .inl (cA, 9, .inl (fun j => nI (ud j))))] := hD
  refine lv_aload_n hx hb dM_isLine_5 rfl (lv_at hl 0 rfl) ?_
  refine lv_aload_n hx hb dM_isLine_6 rfl (lv_at hl 0 rfl) ?_
  refine nr_V (b := g0) (As := []) (C := RM) (rest := [.ref g0]) ⟨hx, hb, hml, hown, hw⟩ (cM_all_c l D A g0 b1 b2 b3 b4 b5 cA n 0 ed lw hg od ud hn) (cwV 0 hw (gV w2_168 w2_170 w0_18 w1_2 w2_171) rfl rfl rfl ⟨rfl, by decide, by decide, by decide +kernel⟩ ⟨Nat.le_of_ble_eq_true rfl, Nat.le_of_ble_eq_true rfl⟩) gB_blind (va_recv (q0 := 0) (ci := 1) hK hP rfl rfl) (gB_at hP hK _) rfl hl.1 rfl (Nat.le_of_ble_eq_true rfl) dM_isLine_7 ⟨Nat.zero_le _, Nat.zero_le _⟩ ?_
  refine va_calli (va_runV (C := RM) (As := [.int (nI (2 ^ n - 1))]) (rest := []) ⟨hx, hb, hml, hown, hw⟩ (cM_name_c l D A g0 b1 b2 b3 b4 b5 cA n 0 ed lw hg od ud (2 ^ n - 1) hn hed1 (by omega)) (cwV 1 hw (gV w2_172 w2_174 w0_19 w1_2 w2_175) rfl rfl rfl ⟨rfl, by decide, by decide, by decide +kernel⟩ ⟨Nat.le_of_ble_eq_true rfl, Nat.le_of_ble_eq_true rfl⟩) ⟨gW_blind, va_recv (q0 := 0) (ci := 1) hK hP rfl rfl, gW_at hP hK hD _⟩ rfl rfl hl.1 rfl (lv_room (Nat.le_of_ble_eq_true rfl)) dM_isLine_10 ⟨Nat.zero_le _, Nat.zero_le _⟩) hS (fun q _ h => h) (fun q h => h) (fun r9 u9 t9 H locs ht9 hvm9 hpost9 hB9 hz9 hk8 hS => ?_)
  obtain ⟨lw5, hg5, od5, ud5⟩ := u9
  obtain ⟨hP, -, hD⟩ := hB9
  rw [ht9] at hP
  have hr9 := hpost9.1 hres
  subst hr9
  have hP : va_P D vwCl [(g0, .inr (1, [.int (nI n), .ref b1, .int (nI 0), .ref b2, .ref b3, .ref b4, .ref b5])), (b1, .inl (cA, 64, .inl (fun j => nI (ed j)))), (b2, .inl (cA, 8, .inl (fun j => nI (lw5 j)))), (b3, .inl (cA, 8, .inl (fun j => nI (hg5 j)))), (b4, .inl (cA, 8, .inl (fun j => nI (od5 j)))), (b5, .inl (cA, 9, .inl (fun j => nI (ud5 j))))] H := hP
  have hD : va_D A [(g0, .inr (1, [.int (nI n), .ref b1, .int (nI 0), .ref b2, .ref b3, .ref b4, .ref b5])), (b1, .inl (cA, 64, .inl (fun j => nI (ed j)))), (b2, .inl (cA, 8, .inl (fun j => nI (lw5 j)))), (b3, .inl (cA, 8, .inl (fun j => nI (hg5 j)))), (b4, .inl (cA, 8, .inl (fun j => nI (od5 j)))), (b5, .inl (cA, 9, .inl (fun j => nI (ud5 j))))] := hD
  refine lv_if_lt (tgt := 20) hx hb dM_isLine_13 rfl (fun hc13 => ?_) (fun hc13 => ?_)
  · refine lv_iconst (v := nI 0) hx hb dM_isLine_20 (by decide) ?_
    exact W.zret (v := (nI 0)) hx hb hr rfl (fun t ht hW => ⟨⟨_, (lw5, hg5, od5, ud5), rfl, rfl, by rw [ht]; exact hP, va_K.moved hW.alike hK, hD⟩, hS.F ht⟩) hS.2.2 dM_isLine_21
  · exact absurd (by decide) hc13

set_option maxHeartbeats 4000000 in
set_option maxRecDepth 100000 in
theorem cM_ends_y (l : Launch) (D : va_G) (A : Nat → Prop) (g0 b1 b2 b3 b4 b5 : Nat) (cA : ClassId) (n ft : Nat) (ed lw hg od ud : Nat → Nat)  (hn : n ≤ 8)(hed1 : ∀ k, k < 64 → ed k ≤ 1)(x : List (Nat × Nat × Nat) × Nat) (hres : srN (fun v j => ed (8 * v + j)) (meN (2 ^ n - 1) n 0) [] 0 = some x) : Met l yM_ends (Cond.code yM_ends cM_ends 1 (some FieldType.int) :: bw) (rmL 5) (va_Pc [.ref g0] (gW D vwCl A [(g0, .inr (1, [.int (nI n), .ref b1, .int (nI ft), .ref b2, .ref b3, .ref b4, .ref b5])), (b1, .inl (cA, 64, .inl (fun j => nI (ed j)))), (b2, .inl (cA, 8, .inl (fun j => nI (lw j)))), (b3, .inl (cA, 8, .inl (fun j => nI (hg j)))), (b4, .inl (cA, 8, .inl (fun j => nI (od j)))), (b5, .inl (cA, 9, .inl (fun j => nI (ud j))))] [(cA, .int)])) (va_Qi (fun r (u : (Nat → Nat) × (Nat → Nat) × (Nat → Nat) × (Nat → Nat)) => r = nI x.2 ∧ MU n x u) (fun u => gW D vwCl A (mW9 g0 b1 b2 b3 b4 b5 cA n 0 ed u) [(cA, .int)]) A) 0 0 A := by
  refine Met.ofW (cc := cM_ends) (maxL := 1) (ret := (some FieldType.int)) (by decide) rfl ?_
  intro p e s m args below meth c s₁ B9 hml hv9
  obtain ⟨rfl, hP, hK, hD⟩ := hv9
  have hx := B9.exec
  have hb := B9.bytes
  have hr := B9.returns
  have hts := atoms_spec (ws := (Cond.code yM_ends cM_ends 1 (some FieldType.int) :: bw)) B9.pre
  have hw : ∀ w ∈ bw, w.before _ s = true := fun w h => hts w (List.mem_cons_of_mem _ h)
  have hown : s.vm.findClass RM = some m.cls := findClass_of_methodNamed B9.named
  have hlocks := B9.notSynchronized
  have hl := lv_entry ([.ref g0]) (n := 1) (Nat.le_of_ble_eq_true rfl)
  rw [lg_entry_eq]
  generalize (lg_sl ([.ref g0]) ++ List.replicate (1 - (lg_sl ([.ref g0])).length) Slot.unset).toArray = ls at hl ⊢
  have hl : lv_has ls 1 [(0, .ref g0)] := hl
  have hS : va_S A s.heap s.heap [] := va_S.rf
  refine lv_aload_n hx hb dM_ends_0 rfl (lv_at hl 0 rfl) ?_
  refine lv_iconst (v := nI 1) hx hb dM_ends_1 (by decide) ?_
  refine va_calli (va_runV (C := RM) (As := [.int (nI 1)]) (rest := []) ⟨hx, hb, hml, hown, hw⟩ (cM_line_y l D A g0 b1 b2 b3 b4 b5 cA n ft ed lw hg od ud 1 hn hed1 x hres) (cwV 1 hw (gV w2_192 w2_194 w0_23 w1_2 w2_195) rfl rfl rfl ⟨rfl, by decide, by decide, by decide +kernel⟩ ⟨Nat.le_of_ble_eq_true rfl, Nat.le_of_ble_eq_true rfl⟩) ⟨gW_blind, va_recv (q0 := 0) (ci := 1) hK hP rfl rfl, gW_at hP hK hD _⟩ rfl rfl hl.1 rfl (lv_room (Nat.le_of_ble_eq_true rfl)) dM_ends_2 ⟨Nat.zero_le _, Nat.zero_le _⟩) hS (fun q _ h => h) (fun q h => h) (fun r9 u9 t9 H locs ht9 hvm9 hpost9 hB9 hz9 hk8 hS => ?_)
  obtain ⟨lw5, hg5, od5, ud5⟩ := u9
  obtain ⟨hP, -, hD⟩ := hB9
  rw [ht9] at hP
  obtain ⟨hr9, hmu⟩ := hpost9
  subst hr9
  obtain ⟨hx16, hlt16⟩ := mu_lt hn hres hmu
  have hP : va_P D vwCl [(g0, .inr (1, [.int (nI n), .ref b1, .int (nI 0), .ref b2, .ref b3, .ref b4, .ref b5])), (b1, .inl (cA, 64, .inl (fun j => nI (ed j)))), (b2, .inl (cA, 8, .inl (fun j => nI (lw5 j)))), (b3, .inl (cA, 8, .inl (fun j => nI (hg5 j)))), (b4, .inl (cA, 8, .inl (fun j => nI (od5 j)))), (b5, .inl (cA, 9, .inl (fun j => nI (ud5 j))))] H := hP
  have hD : va_D A [(g0, .inr (1, [.int (nI n), .ref b1, .int (nI 0), .ref b2, .ref b3, .ref b4, .ref b5])), (b1, .inl (cA, 64, .inl (fun j => nI (ed j)))), (b2, .inl (cA, 8, .inl (fun j => nI (lw5 j)))), (b3, .inl (cA, 8, .inl (fun j => nI (hg5 j)))), (b4, .inl (cA, 8, .inl (fun j => nI (od5 j)))), (b5, .inl (cA, 9, .inl (fun j => nI (ud5 j))))] := hD
  refine nv_b_eq (x := true) (tgt := 20) hx hb dM_ends_5 rfl (fun hc5 => ?_) (fun hc5 => ?_)
  · exact absurd hc5 (by decide)
  · refine lv_aload_n hx hb dM_ends_8 rfl (lv_at hl 0 rfl) ?_
    refine va_get (D := D) (ci := 1) (v := .ref b5) (C := RM) (T := TM) (N := 7) hx hb hw uM hown hK hP 0 rfl rfl 6 (by decide) (hw _ w2_104) (fun _ h9 => h9) rfl dM_ends_9 ?_
    refine lv_aload_n hx hb dM_ends_12 rfl (lv_at hl 0 rfl) ?_
    refine va_get (D := D) (ci := 1) (v := .int (nI n)) (C := RM) (T := TM) (N := 7) hx hb hw uM hown hK hP 0 rfl rfl 0 (by decide) (hw _ w2_98) (fun _ h9 => h9) rfl dM_ends_13 ?_
    refine nv_iald (i := n) (f := ud5) hx hb hK hP 5 0 rfl rfl (by omega) (by omega) dM_ends_16 ?_
    refine lv_goto (tgt := 21) hx hb dM_ends_17 rfl ?_
    exact W.iret (v := (nI (ud5 n))) hx hb hr (fun t ht hW => ⟨⟨_, (lw5, hg5, od5, ud5), rfl, ⟨congrArg nI hmu.1, hmu⟩, by rw [ht]; exact hP, va_K.moved hW.alike hK, hD⟩, hS.F ht⟩) hS.2.2 dM_ends_21

set_option maxHeartbeats 4000000 in
set_option maxRecDepth 100000 in
theorem cM_ends_n (l : Launch) (D : va_G) (A : Nat → Prop) (g0 b1 b2 b3 b4 b5 : Nat) (cA : ClassId) (n ft : Nat) (ed lw hg od ud : Nat → Nat)  (hn : n ≤ 8)(hed1 : ∀ k, k < 64 → ed k ≤ 1)(hres : srN (fun v j => ed (8 * v + j)) (meN (2 ^ n - 1) n 0) [] 0 = none) : Met l yM_ends (Cond.code yM_ends cM_ends 1 (some FieldType.int) :: bw) (rmL 5) (va_Pc [.ref g0] (gW D vwCl A [(g0, .inr (1, [.int (nI n), .ref b1, .int (nI ft), .ref b2, .ref b3, .ref b4, .ref b5])), (b1, .inl (cA, 64, .inl (fun j => nI (ed j)))), (b2, .inl (cA, 8, .inl (fun j => nI (lw j)))), (b3, .inl (cA, 8, .inl (fun j => nI (hg j)))), (b4, .inl (cA, 8, .inl (fun j => nI (od j)))), (b5, .inl (cA, 9, .inl (fun j => nI (ud j))))] [(cA, .int)])) (va_Qi (fun r (_ : (Nat → Nat) × (Nat → Nat) × (Nat → Nat) × (Nat → Nat)) => r = nI 0) (fun u => gW D vwCl A (mW9 g0 b1 b2 b3 b4 b5 cA n 1 ed u) [(cA, .int)]) A) 0 0 A := by
  refine Met.ofW (cc := cM_ends) (maxL := 1) (ret := (some FieldType.int)) (by decide) rfl ?_
  intro p e s m args below meth c s₁ B9 hml hv9
  obtain ⟨rfl, hP, hK, hD⟩ := hv9
  have hx := B9.exec
  have hb := B9.bytes
  have hr := B9.returns
  have hts := atoms_spec (ws := (Cond.code yM_ends cM_ends 1 (some FieldType.int) :: bw)) B9.pre
  have hw : ∀ w ∈ bw, w.before _ s = true := fun w h => hts w (List.mem_cons_of_mem _ h)
  have hown : s.vm.findClass RM = some m.cls := findClass_of_methodNamed B9.named
  have hlocks := B9.notSynchronized
  have hl := lv_entry ([.ref g0]) (n := 1) (Nat.le_of_ble_eq_true rfl)
  rw [lg_entry_eq]
  generalize (lg_sl ([.ref g0]) ++ List.replicate (1 - (lg_sl ([.ref g0])).length) Slot.unset).toArray = ls at hl ⊢
  have hl : lv_has ls 1 [(0, .ref g0)] := hl
  have hS : va_S A s.heap s.heap [] := va_S.rf
  refine lv_aload_n hx hb dM_ends_0 rfl (lv_at hl 0 rfl) ?_
  refine lv_iconst (v := nI 1) hx hb dM_ends_1 (by decide) ?_
  refine va_calli (va_runV (C := RM) (As := [.int (nI 1)]) (rest := []) ⟨hx, hb, hml, hown, hw⟩ (cM_line_n l D A g0 b1 b2 b3 b4 b5 cA n ft ed lw hg od ud 1 hn hed1 hres) (cwV 1 hw (gV w2_192 w2_194 w0_23 w1_2 w2_195) rfl rfl rfl ⟨rfl, by decide, by decide, by decide +kernel⟩ ⟨Nat.le_of_ble_eq_true rfl, Nat.le_of_ble_eq_true rfl⟩) ⟨gW_blind, va_recv (q0 := 0) (ci := 1) hK hP rfl rfl, gW_at hP hK hD _⟩ rfl rfl hl.1 rfl (lv_room (Nat.le_of_ble_eq_true rfl)) dM_ends_2 ⟨Nat.zero_le _, Nat.zero_le _⟩) hS (fun q _ h => h) (fun q h => h) (fun r9 u9 t9 H locs ht9 hvm9 hpost9 hB9 hz9 hk8 hS => ?_)
  obtain ⟨lw5, hg5, od5, ud5⟩ := u9
  obtain ⟨hP, -, hD⟩ := hB9
  rw [ht9] at hP
  have hr9 := hpost9
  subst hr9
  have hP : va_P D vwCl [(g0, .inr (1, [.int (nI n), .ref b1, .int (nI 1), .ref b2, .ref b3, .ref b4, .ref b5])), (b1, .inl (cA, 64, .inl (fun j => nI (ed j)))), (b2, .inl (cA, 8, .inl (fun j => nI (lw5 j)))), (b3, .inl (cA, 8, .inl (fun j => nI (hg5 j)))), (b4, .inl (cA, 8, .inl (fun j => nI (od5 j)))), (b5, .inl (cA, 9, .inl (fun j => nI (ud5 j))))] H := hP
  have hD : va_D A [(g0, .inr (1, [.int (nI n), .ref b1, .int (nI 1), .ref b2, .ref b3, .ref b4, .ref b5])), (b1, .inl (cA, 64, .inl (fun j => nI (ed j)))), (b2, .inl (cA, 8, .inl (fun j => nI (lw5 j)))), (b3, .inl (cA, 8, .inl (fun j => nI (hg5 j)))), (b4, .inl (cA, 8, .inl (fun j => nI (od5 j)))), (b5, .inl (cA, 9, .inl (fun j => nI (ud5 j))))] := hD
  refine nv_b_eq (x := false) (tgt := 20) hx hb dM_ends_5 rfl (fun hc5 => ?_) (fun hc5 => ?_)
  · refine lv_iconst (v := nI 0) hx hb dM_ends_20 (by decide) ?_
    exact W.iret (v := (nI 0)) hx hb hr (fun t ht hW => ⟨⟨_, (lw5, hg5, od5, ud5), rfl, rfl, by rw [ht]; exact hP, va_K.moved hW.alike hK, hD⟩, hS.F ht⟩) hS.2.2 dM_ends_21
  · exact absurd hc5 (by decide)

set_option maxHeartbeats 4000000 in
set_option maxRecDepth 100000 in
theorem cM_named_y (l : Launch) (D : va_G) (A : Nat → Prop) (g0 b1 b2 b3 b4 b5 : Nat) (cA : ClassId) (n ft : Nat) (ed lw hg od ud : Nat → Nat) (v : Nat) (hn : n ≤ 8)(hed1 : ∀ k, k < 64 → ed k ≤ 1)(x : List (Nat × Nat × Nat) × Nat) (hres : srN (fun v j => ed (8 * v + j)) (meN (2 ^ n - 1) n 0) [] 0 = some x)(hv : v < n) : Met l yM_named (Cond.code yM_named cM_named 2 (some FieldType.boolean) :: bw) (rmL 5) (va_Pc [.ref g0, .int (nI v)] (gW D vwCl A [(g0, .inr (1, [.int (nI n), .ref b1, .int (nI ft), .ref b2, .ref b3, .ref b4, .ref b5])), (b1, .inl (cA, 64, .inl (fun j => nI (ed j)))), (b2, .inl (cA, 8, .inl (fun j => nI (lw j)))), (b3, .inl (cA, 8, .inl (fun j => nI (hg j)))), (b4, .inl (cA, 8, .inl (fun j => nI (od j)))), (b5, .inl (cA, 9, .inl (fun j => nI (ud j))))] [(cA, .int)])) (va_Qi (fun r (u : (Nat → Nat) × (Nat → Nat) × (Nat → Nat) × (Nat → Nat)) => r = bI true ∧ MU n x u) (fun u => gW D vwCl A (mW9 g0 b1 b2 b3 b4 b5 cA n 0 ed u) [(cA, .int)]) A) 0 0 A := by
  refine Met.ofW (cc := cM_named) (maxL := 2) (ret := (some FieldType.boolean)) (by decide) rfl ?_
  intro p e s m args below meth c s₁ B9 hml hv9
  obtain ⟨rfl, hP, hK, hD⟩ := hv9
  have hx := B9.exec
  have hb := B9.bytes
  have hr := B9.returns
  have hts := atoms_spec (ws := (Cond.code yM_named cM_named 2 (some FieldType.boolean) :: bw)) B9.pre
  have hw : ∀ w ∈ bw, w.before _ s = true := fun w h => hts w (List.mem_cons_of_mem _ h)
  have hown : s.vm.findClass RM = some m.cls := findClass_of_methodNamed B9.named
  have hlocks := B9.notSynchronized
  have hl := lv_entry ([.ref g0, .int (nI v)]) (n := 2) (Nat.le_of_ble_eq_true rfl)
  rw [lg_entry_eq]
  generalize (lg_sl ([.ref g0, .int (nI v)]) ++ List.replicate (2 - (lg_sl ([.ref g0, .int (nI v)])).length) Slot.unset).toArray = ls at hl ⊢
  have hl : lv_has ls 2 [(0, .ref g0), (1, .int (nI v))] := hl
  have hS : va_S A s.heap s.heap [] := va_S.rf
  refine lv_aload_n hx hb dM_named_0 rfl (lv_at hl 0 rfl) ?_
  refine lv_iload_n hx hb dM_named_1 rfl (lv_at hl 1 rfl) ?_
  refine nr_V (b := g0) (As := [.int (nI v)]) (C := RM) (rest := []) ⟨hx, hb, hml, hown, hw⟩ (cM_is_y l D A g0 b1 b2 b3 b4 b5 cA n ft ed lw hg od ud v hn hv) (cwV 1 hw (gV w2_140 w2_142 w0_17 w1_2 w2_143) rfl rfl rfl ⟨rfl, by decide, by decide, by decide +kernel⟩ ⟨Nat.le_of_ble_eq_true rfl, Nat.le_of_ble_eq_true rfl⟩) gB_blind (va_recv (q0 := 0) (ci := 1) hK hP rfl rfl) (gB_at hP hK _) rfl hl.1 rfl (Nat.le_of_ble_eq_true rfl) dM_named_2 ⟨Nat.zero_le _, Nat.zero_le _⟩ ?_
  refine nv_b_ne (x := true) (tgt := 15) hx hb dM_named_5 rfl (fun hc5 => ?_) (fun hc5 => ?_)
  · refine lv_aload_n hx hb dM_named_15 rfl (lv_at hl 0 rfl) ?_
    refine lv_iconst (v := nI 2) hx hb dM_named_16 (by decide) ?_
    refine va_calli (va_runV (C := RM) (As := [.int (nI 2)]) (rest := []) ⟨hx, hb, hml, hown, hw⟩ (cM_line_y l D A g0 b1 b2 b3 b4 b5 cA n ft ed lw hg od ud 2 hn hed1 x hres) (cwV 1 hw (gV w2_192 w2_194 w0_23 w1_2 w2_195) rfl rfl rfl ⟨rfl, by decide, by decide, by decide +kernel⟩ ⟨Nat.le_of_ble_eq_true rfl, Nat.le_of_ble_eq_true rfl⟩) ⟨gW_blind, va_recv (q0 := 0) (ci := 1) hK hP rfl rfl, gW_at hP hK hD _⟩ rfl rfl hl.1 rfl (lv_room (Nat.le_of_ble_eq_true rfl)) dM_named_17 ⟨Nat.zero_le _, Nat.zero_le _⟩) hS (fun q _ h => h) (fun q h => h) (fun r9 u9 t9 H locs ht9 hvm9 hpost9 hB9 hz9 hk8 hS => ?_)
    obtain ⟨lw5, hg5, od5, ud5⟩ := u9
    obtain ⟨hP, -, hD⟩ := hB9
    rw [ht9] at hP
    obtain ⟨hr9, hmu⟩ := hpost9
    subst hr9
    obtain ⟨hx16, hlt16⟩ := mu_lt hn hres hmu
    have hP : va_P D vwCl [(g0, .inr (1, [.int (nI n), .ref b1, .int (nI 0), .ref b2, .ref b3, .ref b4, .ref b5])), (b1, .inl (cA, 64, .inl (fun j => nI (ed j)))), (b2, .inl (cA, 8, .inl (fun j => nI (lw5 j)))), (b3, .inl (cA, 8, .inl (fun j => nI (hg5 j)))), (b4, .inl (cA, 8, .inl (fun j => nI (od5 j)))), (b5, .inl (cA, 9, .inl (fun j => nI (ud5 j))))] H := hP
    have hD : va_D A [(g0, .inr (1, [.int (nI n), .ref b1, .int (nI 0), .ref b2, .ref b3, .ref b4, .ref b5])), (b1, .inl (cA, 64, .inl (fun j => nI (ed j)))), (b2, .inl (cA, 8, .inl (fun j => nI (lw5 j)))), (b3, .inl (cA, 8, .inl (fun j => nI (hg5 j)))), (b4, .inl (cA, 8, .inl (fun j => nI (od5 j)))), (b5, .inl (cA, 9, .inl (fun j => nI (ud5 j))))] := hD
    exact W.zret (v := (bI true)) hx hb hr (nb_nar _) (fun t ht hW => ⟨⟨_, (lw5, hg5, od5, ud5), rfl, ⟨rfl, hmu⟩, by rw [ht]; exact hP, va_K.moved hW.alike hK, hD⟩, hS.F ht⟩) hS.2.2 dM_named_20
  · exact absurd hc5 (by decide)

set_option maxHeartbeats 4000000 in
set_option maxRecDepth 100000 in
theorem cM_named_n (l : Launch) (D : va_G) (A : Nat → Prop) (g0 b1 b2 b3 b4 b5 : Nat) (cA : ClassId) (n ft : Nat) (ed lw hg od ud : Nat → Nat) (v : Nat) (hn : n ≤ 8)(hed1 : ∀ k, k < 64 → ed k ≤ 1)(hres : srN (fun v j => ed (8 * v + j)) (meN (2 ^ n - 1) n 0) [] 0 = none)(hv : v < n) : Met l yM_named (Cond.code yM_named cM_named 2 (some FieldType.boolean) :: bw) (rmL 5) (va_Pc [.ref g0, .int (nI v)] (gW D vwCl A [(g0, .inr (1, [.int (nI n), .ref b1, .int (nI ft), .ref b2, .ref b3, .ref b4, .ref b5])), (b1, .inl (cA, 64, .inl (fun j => nI (ed j)))), (b2, .inl (cA, 8, .inl (fun j => nI (lw j)))), (b3, .inl (cA, 8, .inl (fun j => nI (hg j)))), (b4, .inl (cA, 8, .inl (fun j => nI (od j)))), (b5, .inl (cA, 9, .inl (fun j => nI (ud j))))] [(cA, .int)])) (va_Qi (fun r (_ : (Nat → Nat) × (Nat → Nat) × (Nat → Nat) × (Nat → Nat)) => r = bI false) (fun u => gW D vwCl A (mW9 g0 b1 b2 b3 b4 b5 cA n 2 ed u) [(cA, .int)]) A) 0 0 A := by
  refine Met.ofW (cc := cM_named) (maxL := 2) (ret := (some FieldType.boolean)) (by decide) rfl ?_
  intro p e s m args below meth c s₁ B9 hml hv9
  obtain ⟨rfl, hP, hK, hD⟩ := hv9
  have hx := B9.exec
  have hb := B9.bytes
  have hr := B9.returns
  have hts := atoms_spec (ws := (Cond.code yM_named cM_named 2 (some FieldType.boolean) :: bw)) B9.pre
  have hw : ∀ w ∈ bw, w.before _ s = true := fun w h => hts w (List.mem_cons_of_mem _ h)
  have hown : s.vm.findClass RM = some m.cls := findClass_of_methodNamed B9.named
  have hlocks := B9.notSynchronized
  have hl := lv_entry ([.ref g0, .int (nI v)]) (n := 2) (Nat.le_of_ble_eq_true rfl)
  rw [lg_entry_eq]
  generalize (lg_sl ([.ref g0, .int (nI v)]) ++ List.replicate (2 - (lg_sl ([.ref g0, .int (nI v)])).length) Slot.unset).toArray = ls at hl ⊢
  have hl : lv_has ls 2 [(0, .ref g0), (1, .int (nI v))] := hl
  have hS : va_S A s.heap s.heap [] := va_S.rf
  refine lv_aload_n hx hb dM_named_0 rfl (lv_at hl 0 rfl) ?_
  refine lv_iload_n hx hb dM_named_1 rfl (lv_at hl 1 rfl) ?_
  refine nr_V (b := g0) (As := [.int (nI v)]) (C := RM) (rest := []) ⟨hx, hb, hml, hown, hw⟩ (cM_is_y l D A g0 b1 b2 b3 b4 b5 cA n ft ed lw hg od ud v hn hv) (cwV 1 hw (gV w2_140 w2_142 w0_17 w1_2 w2_143) rfl rfl rfl ⟨rfl, by decide, by decide, by decide +kernel⟩ ⟨Nat.le_of_ble_eq_true rfl, Nat.le_of_ble_eq_true rfl⟩) gB_blind (va_recv (q0 := 0) (ci := 1) hK hP rfl rfl) (gB_at hP hK _) rfl hl.1 rfl (Nat.le_of_ble_eq_true rfl) dM_named_2 ⟨Nat.zero_le _, Nat.zero_le _⟩ ?_
  refine nv_b_ne (x := true) (tgt := 15) hx hb dM_named_5 rfl (fun hc5 => ?_) (fun hc5 => ?_)
  · refine lv_aload_n hx hb dM_named_15 rfl (lv_at hl 0 rfl) ?_
    refine lv_iconst (v := nI 2) hx hb dM_named_16 (by decide) ?_
    refine va_calli (va_runV (C := RM) (As := [.int (nI 2)]) (rest := []) ⟨hx, hb, hml, hown, hw⟩ (cM_line_n l D A g0 b1 b2 b3 b4 b5 cA n ft ed lw hg od ud 2 hn hed1 hres) (cwV 1 hw (gV w2_192 w2_194 w0_23 w1_2 w2_195) rfl rfl rfl ⟨rfl, by decide, by decide, by decide +kernel⟩ ⟨Nat.le_of_ble_eq_true rfl, Nat.le_of_ble_eq_true rfl⟩) ⟨gW_blind, va_recv (q0 := 0) (ci := 1) hK hP rfl rfl, gW_at hP hK hD _⟩ rfl rfl hl.1 rfl (lv_room (Nat.le_of_ble_eq_true rfl)) dM_named_17 ⟨Nat.zero_le _, Nat.zero_le _⟩) hS (fun q _ h => h) (fun q h => h) (fun r9 u9 t9 H locs ht9 hvm9 hpost9 hB9 hz9 hk8 hS => ?_)
    obtain ⟨lw5, hg5, od5, ud5⟩ := u9
    obtain ⟨hP, -, hD⟩ := hB9
    rw [ht9] at hP
    have hr9 := hpost9
    subst hr9
    have hP : va_P D vwCl [(g0, .inr (1, [.int (nI n), .ref b1, .int (nI 2), .ref b2, .ref b3, .ref b4, .ref b5])), (b1, .inl (cA, 64, .inl (fun j => nI (ed j)))), (b2, .inl (cA, 8, .inl (fun j => nI (lw5 j)))), (b3, .inl (cA, 8, .inl (fun j => nI (hg5 j)))), (b4, .inl (cA, 8, .inl (fun j => nI (od5 j)))), (b5, .inl (cA, 9, .inl (fun j => nI (ud5 j))))] H := hP
    have hD : va_D A [(g0, .inr (1, [.int (nI n), .ref b1, .int (nI 2), .ref b2, .ref b3, .ref b4, .ref b5])), (b1, .inl (cA, 64, .inl (fun j => nI (ed j)))), (b2, .inl (cA, 8, .inl (fun j => nI (lw5 j)))), (b3, .inl (cA, 8, .inl (fun j => nI (hg5 j)))), (b4, .inl (cA, 8, .inl (fun j => nI (od5 j)))), (b5, .inl (cA, 9, .inl (fun j => nI (ud5 j))))] := hD
    exact W.zret (v := (bI false)) hx hb hr (nb_nar _) (fun t ht hW => ⟨⟨_, (lw5, hg5, od5, ud5), rfl, rfl, by rw [ht]; exact hP, va_K.moved hW.alike hK, hD⟩, hS.F ht⟩) hS.2.2 dM_named_20
  · exact absurd hc5 (by decide)

set_option maxHeartbeats 4000000 in
set_option maxRecDepth 100000 in
theorem cM_named_a (l : Launch) (D : va_G) (A : Nat → Prop) (g0 b1 b2 b3 b4 b5 : Nat) (cA : ClassId) (n ft : Nat) (ed lw hg od ud : Nat → Nat) (z1 : Int32) (hn : n ≤ 8)(hz9 : ∀ k, k < n → z1 ≠ nI k) : Met l yM_named (Cond.code yM_named cM_named 2 (some FieldType.boolean) :: bw) (rmL 5) (va_Pc [.ref g0, .int z1] (gW D vwCl A [(g0, .inr (1, [.int (nI n), .ref b1, .int (nI ft), .ref b2, .ref b3, .ref b4, .ref b5])), (b1, .inl (cA, 64, .inl (fun j => nI (ed j)))), (b2, .inl (cA, 8, .inl (fun j => nI (lw j)))), (b3, .inl (cA, 8, .inl (fun j => nI (hg j)))), (b4, .inl (cA, 8, .inl (fun j => nI (od j)))), (b5, .inl (cA, 9, .inl (fun j => nI (ud j))))] [(cA, .int)])) (va_Qi (fun (r9 : Int32) (_ : Unit) => r9 = (bI false)) (fun _ => gW D vwCl A [(g0, .inr (1, [.int (nI n), .ref b1, .int (nI 1), .ref b2, .ref b3, .ref b4, .ref b5])), (b1, .inl (cA, 64, .inl (fun j => nI (ed j)))), (b2, .inl (cA, 8, .inl (fun j => nI (lw j)))), (b3, .inl (cA, 8, .inl (fun j => nI (hg j)))), (b4, .inl (cA, 8, .inl (fun j => nI (od j)))), (b5, .inl (cA, 9, .inl (fun j => nI (ud j))))] [(cA, .int)]) A) 0 0 A := by
  refine Met.ofW (cc := cM_named) (maxL := 2) (ret := (some FieldType.boolean)) (by decide) rfl ?_
  intro p e s m args below meth c s₁ B9 hml hv
  obtain ⟨rfl, hP, hK, hD⟩ := hv
  have hx := B9.exec
  have hb := B9.bytes
  have hr := B9.returns
  have hts := atoms_spec (ws := (Cond.code yM_named cM_named 2 (some FieldType.boolean) :: bw)) B9.pre
  have hw : ∀ w ∈ bw, w.before _ s = true := fun w h => hts w (List.mem_cons_of_mem _ h)
  have hown : s.vm.findClass RM = some m.cls := findClass_of_methodNamed B9.named
  have hlocks := B9.notSynchronized
  have hl := lv_entry ([.ref g0, .int z1]) (n := 2) (Nat.le_of_ble_eq_true rfl)
  rw [lg_entry_eq]
  generalize (lg_sl ([.ref g0, .int z1]) ++ List.replicate (2 - (lg_sl ([.ref g0, .int z1])).length) Slot.unset).toArray = ls at hl ⊢
  have hl : lv_has ls 2 [(0, .ref g0), (1, .int z1)] := hl
  have hS : va_S A s.heap s.heap [] := va_S.rf
  refine lv_aload_n hx hb dM_named_0 rfl (lv_at hl 0 rfl) ?_
  refine lv_iload_n hx hb dM_named_1 rfl (lv_at hl 1 rfl) ?_
  refine nr_V (b := g0) (As := [.int z1]) (C := RM) (rest := []) ⟨hx, hb, hml, hown, hw⟩ (cM_is_n l D A g0 b1 b2 b3 b4 b5 cA n ft ed lw hg od ud z1 hn hz9) (cwV 1 hw (gV w2_140 w2_142 w0_17 w1_2 w2_143) rfl rfl rfl ⟨rfl, by decide, by decide, by decide +kernel⟩ ⟨Nat.le_of_ble_eq_true rfl, Nat.le_of_ble_eq_true rfl⟩) gB_blind (va_recv (q0 := 0) (ci := 1) hK hP rfl rfl) (gB_at hP hK _) rfl hl.1 rfl (Nat.le_of_ble_eq_true rfl) dM_named_2 ⟨Nat.zero_le _, Nat.zero_le _⟩ ?_
  refine nv_b_ne (x := false) (tgt := 15) hx hb dM_named_5 rfl (fun hc5 => ?_) (fun hc5 => ?_)
  · exact absurd hc5 (by decide)
  · refine lv_aload_n hx hb dM_named_8 rfl (lv_at hl 0 rfl) ?_
    refine lv_iconst (v := nI 1) hx hb dM_named_9 (by decide) ?_
    refine va_put (D := D) (ci := 1) (v := .int (nI 1)) (ty := .int) (C := RM) (T := TM) (N := 7) hx hb hw uM tyM tyM_ok nmM hown hK hP hD hS 0 rfl rfl 2 (by decide) (hw _ w2_100) (fun _ h9 => h9) rfl (by decide +kernel) rfl rfl (Nat.le_of_ble_eq_true rfl) dM_named_10 (fun H locs hP hD hS => ?_)
    have hP : va_P D vwCl [(g0, .inr (1, [.int (nI n), .ref b1, .int (nI 1), .ref b2, .ref b3, .ref b4, .ref b5])), (b1, .inl (cA, 64, .inl (fun j => nI (ed j)))), (b2, .inl (cA, 8, .inl (fun j => nI (lw j)))), (b3, .inl (cA, 8, .inl (fun j => nI (hg j)))), (b4, .inl (cA, 8, .inl (fun j => nI (od j)))), (b5, .inl (cA, 9, .inl (fun j => nI (ud j))))] H := hP
    have hD : va_D A [(g0, .inr (1, [.int (nI n), .ref b1, .int (nI 1), .ref b2, .ref b3, .ref b4, .ref b5])), (b1, .inl (cA, 64, .inl (fun j => nI (ed j)))), (b2, .inl (cA, 8, .inl (fun j => nI (lw j)))), (b3, .inl (cA, 8, .inl (fun j => nI (hg j)))), (b4, .inl (cA, 8, .inl (fun j => nI (od j)))), (b5, .inl (cA, 9, .inl (fun j => nI (ud j))))] := hD
    refine lv_iconst (v := nI 0) hx hb dM_named_13 (by decide) ?_
    exact W.zret (v := (nI 0)) hx hb hr rfl (fun t ht hW => ⟨⟨_, (), rfl, rfl, by rw [ht]; exact hP, va_K.moved hW.alike hK, hD⟩, hS.F ht⟩) hS.2.2 dM_named_14

set_option maxHeartbeats 4000000 in
set_option maxRecDepth 100000 in
theorem cM_low_y (l : Launch) (D : va_G) (A : Nat → Prop) (g0 b1 b2 b3 b4 b5 : Nat) (cA : ClassId) (n ft : Nat) (ed lw hg od ud : Nat → Nat) (v : Nat) (hn : n ≤ 8)(hed1 : ∀ k, k < 64 → ed k ≤ 1)(x : List (Nat × Nat × Nat) × Nat) (hres : srN (fun v j => ed (8 * v + j)) (meN (2 ^ n - 1) n 0) [] 0 = some x)(hv : v < n) : Met l yM_low (Cond.code yM_low cM_low 2 (some FieldType.int) :: bw) (rmL 6) (va_Pc [.ref g0, .int (nI v)] (gW D vwCl A [(g0, .inr (1, [.int (nI n), .ref b1, .int (nI ft), .ref b2, .ref b3, .ref b4, .ref b5])), (b1, .inl (cA, 64, .inl (fun j => nI (ed j)))), (b2, .inl (cA, 8, .inl (fun j => nI (lw j)))), (b3, .inl (cA, 8, .inl (fun j => nI (hg j)))), (b4, .inl (cA, 8, .inl (fun j => nI (od j)))), (b5, .inl (cA, 9, .inl (fun j => nI (ud j))))] [(cA, .int)])) (va_Qi (fun r (u : (Nat → Nat) × (Nat → Nat) × (Nat → Nat) × (Nat → Nat)) => r = nI (u.1 v) ∧ MU n x u) (fun u => gW D vwCl A (mW9 g0 b1 b2 b3 b4 b5 cA n 0 ed u) [(cA, .int)]) A) 0 0 A := by
  refine Met.ofW (cc := cM_low) (maxL := 2) (ret := (some FieldType.int)) (by decide) rfl ?_
  intro p e s m args below meth c s₁ B9 hml hv9
  obtain ⟨rfl, hP, hK, hD⟩ := hv9
  have hx := B9.exec
  have hb := B9.bytes
  have hr := B9.returns
  have hts := atoms_spec (ws := (Cond.code yM_low cM_low 2 (some FieldType.int) :: bw)) B9.pre
  have hw : ∀ w ∈ bw, w.before _ s = true := fun w h => hts w (List.mem_cons_of_mem _ h)
  have hown : s.vm.findClass RM = some m.cls := findClass_of_methodNamed B9.named
  have hlocks := B9.notSynchronized
  have hl := lv_entry ([.ref g0, .int (nI v)]) (n := 2) (Nat.le_of_ble_eq_true rfl)
  rw [lg_entry_eq]
  generalize (lg_sl ([.ref g0, .int (nI v)]) ++ List.replicate (2 - (lg_sl ([.ref g0, .int (nI v)])).length) Slot.unset).toArray = ls at hl ⊢
  have hl : lv_has ls 2 [(0, .ref g0), (1, .int (nI v))] := hl
  have hS : va_S A s.heap s.heap [] := va_S.rf
  refine lv_aload_n hx hb dM_low_0 rfl (lv_at hl 0 rfl) ?_
  refine lv_iload_n hx hb dM_low_1 rfl (lv_at hl 1 rfl) ?_
  refine va_calli (va_runV (C := RM) (As := [.int (nI v)]) (rest := []) ⟨hx, hb, hml, hown, hw⟩ (cM_named_y l D A g0 b1 b2 b3 b4 b5 cA n ft ed lw hg od ud v hn hed1 x hres hv) (cwV 1 hw (gV w2_200 w2_202 w0_24 w1_2 w2_203) rfl rfl rfl ⟨rfl, by decide, by decide, by decide +kernel⟩ ⟨Nat.le_of_ble_eq_true rfl, Nat.le_of_ble_eq_true rfl⟩) ⟨gW_blind, va_recv (q0 := 0) (ci := 1) hK hP rfl rfl, gW_at hP hK hD _⟩ rfl rfl hl.1 rfl (lv_room (Nat.le_of_ble_eq_true rfl)) dM_low_2 ⟨Nat.zero_le _, Nat.zero_le _⟩) hS (fun q _ h => h) (fun q h => h) (fun r9 u9 t9 H locs ht9 hvm9 hpost9 hB9 hz9 hk8 hS => ?_)
  obtain ⟨lw5, hg5, od5, ud5⟩ := u9
  obtain ⟨hP, -, hD⟩ := hB9
  rw [ht9] at hP
  obtain ⟨hr9, hmu⟩ := hpost9
  subst hr9
  have hP : va_P D vwCl [(g0, .inr (1, [.int (nI n), .ref b1, .int (nI 0), .ref b2, .ref b3, .ref b4, .ref b5])), (b1, .inl (cA, 64, .inl (fun j => nI (ed j)))), (b2, .inl (cA, 8, .inl (fun j => nI (lw5 j)))), (b3, .inl (cA, 8, .inl (fun j => nI (hg5 j)))), (b4, .inl (cA, 8, .inl (fun j => nI (od5 j)))), (b5, .inl (cA, 9, .inl (fun j => nI (ud5 j))))] H := hP
  have hD : va_D A [(g0, .inr (1, [.int (nI n), .ref b1, .int (nI 0), .ref b2, .ref b3, .ref b4, .ref b5])), (b1, .inl (cA, 64, .inl (fun j => nI (ed j)))), (b2, .inl (cA, 8, .inl (fun j => nI (lw5 j)))), (b3, .inl (cA, 8, .inl (fun j => nI (hg5 j)))), (b4, .inl (cA, 8, .inl (fun j => nI (od5 j)))), (b5, .inl (cA, 9, .inl (fun j => nI (ud5 j))))] := hD
  refine nv_b_eq (x := true) (tgt := 17) hx hb dM_low_5 rfl (fun hc5 => ?_) (fun hc5 => ?_)
  · exact absurd hc5 (by decide)
  · refine lv_aload_n hx hb dM_low_8 rfl (lv_at hl 0 rfl) ?_
    refine va_get (D := D) (ci := 1) (v := .ref b2) (C := RM) (T := TM) (N := 7) hx hb hw uM hown hK hP 0 rfl rfl 3 (by decide) (hw _ w2_101) (fun _ h9 => h9) rfl dM_low_9 ?_
    refine lv_iload_n hx hb dM_low_12 rfl (lv_at hl 1 rfl) ?_
    refine nv_iald (i := v) (f := lw5) hx hb hK hP 2 0 rfl rfl (by omega) (by omega) dM_low_13 ?_
    refine lv_goto (tgt := 18) hx hb dM_low_14 rfl ?_
    exact W.iret (v := (nI (lw5 v))) hx hb hr (fun t ht hW => ⟨⟨_, (lw5, hg5, od5, ud5), rfl, ⟨rfl, hmu⟩, by rw [ht]; exact hP, va_K.moved hW.alike hK, hD⟩, hS.F ht⟩) hS.2.2 dM_low_18

set_option maxHeartbeats 4000000 in
set_option maxRecDepth 100000 in
theorem cM_low_n (l : Launch) (D : va_G) (A : Nat → Prop) (g0 b1 b2 b3 b4 b5 : Nat) (cA : ClassId) (n ft : Nat) (ed lw hg od ud : Nat → Nat) (v : Nat) (hn : n ≤ 8)(hed1 : ∀ k, k < 64 → ed k ≤ 1)(hres : srN (fun v j => ed (8 * v + j)) (meN (2 ^ n - 1) n 0) [] 0 = none)(hv : v < n) : Met l yM_low (Cond.code yM_low cM_low 2 (some FieldType.int) :: bw) (rmL 6) (va_Pc [.ref g0, .int (nI v)] (gW D vwCl A [(g0, .inr (1, [.int (nI n), .ref b1, .int (nI ft), .ref b2, .ref b3, .ref b4, .ref b5])), (b1, .inl (cA, 64, .inl (fun j => nI (ed j)))), (b2, .inl (cA, 8, .inl (fun j => nI (lw j)))), (b3, .inl (cA, 8, .inl (fun j => nI (hg j)))), (b4, .inl (cA, 8, .inl (fun j => nI (od j)))), (b5, .inl (cA, 9, .inl (fun j => nI (ud j))))] [(cA, .int)])) (va_Qi (fun r (_ : (Nat → Nat) × (Nat → Nat) × (Nat → Nat) × (Nat → Nat)) => r = nI 0) (fun u => gW D vwCl A (mW9 g0 b1 b2 b3 b4 b5 cA n 2 ed u) [(cA, .int)]) A) 0 0 A := by
  refine Met.ofW (cc := cM_low) (maxL := 2) (ret := (some FieldType.int)) (by decide) rfl ?_
  intro p e s m args below meth c s₁ B9 hml hv9
  obtain ⟨rfl, hP, hK, hD⟩ := hv9
  have hx := B9.exec
  have hb := B9.bytes
  have hr := B9.returns
  have hts := atoms_spec (ws := (Cond.code yM_low cM_low 2 (some FieldType.int) :: bw)) B9.pre
  have hw : ∀ w ∈ bw, w.before _ s = true := fun w h => hts w (List.mem_cons_of_mem _ h)
  have hown : s.vm.findClass RM = some m.cls := findClass_of_methodNamed B9.named
  have hlocks := B9.notSynchronized
  have hl := lv_entry ([.ref g0, .int (nI v)]) (n := 2) (Nat.le_of_ble_eq_true rfl)
  rw [lg_entry_eq]
  generalize (lg_sl ([.ref g0, .int (nI v)]) ++ List.replicate (2 - (lg_sl ([.ref g0, .int (nI v)])).length) Slot.unset).toArray = ls at hl ⊢
  have hl : lv_has ls 2 [(0, .ref g0), (1, .int (nI v))] := hl
  have hS : va_S A s.heap s.heap [] := va_S.rf
  refine lv_aload_n hx hb dM_low_0 rfl (lv_at hl 0 rfl) ?_
  refine lv_iload_n hx hb dM_low_1 rfl (lv_at hl 1 rfl) ?_
  refine va_calli (va_runV (C := RM) (As := [.int (nI v)]) (rest := []) ⟨hx, hb, hml, hown, hw⟩ (cM_named_n l D A g0 b1 b2 b3 b4 b5 cA n ft ed lw hg od ud v hn hed1 hres hv) (cwV 1 hw (gV w2_200 w2_202 w0_24 w1_2 w2_203) rfl rfl rfl ⟨rfl, by decide, by decide, by decide +kernel⟩ ⟨Nat.le_of_ble_eq_true rfl, Nat.le_of_ble_eq_true rfl⟩) ⟨gW_blind, va_recv (q0 := 0) (ci := 1) hK hP rfl rfl, gW_at hP hK hD _⟩ rfl rfl hl.1 rfl (lv_room (Nat.le_of_ble_eq_true rfl)) dM_low_2 ⟨Nat.zero_le _, Nat.zero_le _⟩) hS (fun q _ h => h) (fun q h => h) (fun r9 u9 t9 H locs ht9 hvm9 hpost9 hB9 hz9 hk8 hS => ?_)
  obtain ⟨lw5, hg5, od5, ud5⟩ := u9
  obtain ⟨hP, -, hD⟩ := hB9
  rw [ht9] at hP
  have hr9 := hpost9
  subst hr9
  have hP : va_P D vwCl [(g0, .inr (1, [.int (nI n), .ref b1, .int (nI 2), .ref b2, .ref b3, .ref b4, .ref b5])), (b1, .inl (cA, 64, .inl (fun j => nI (ed j)))), (b2, .inl (cA, 8, .inl (fun j => nI (lw5 j)))), (b3, .inl (cA, 8, .inl (fun j => nI (hg5 j)))), (b4, .inl (cA, 8, .inl (fun j => nI (od5 j)))), (b5, .inl (cA, 9, .inl (fun j => nI (ud5 j))))] H := hP
  have hD : va_D A [(g0, .inr (1, [.int (nI n), .ref b1, .int (nI 2), .ref b2, .ref b3, .ref b4, .ref b5])), (b1, .inl (cA, 64, .inl (fun j => nI (ed j)))), (b2, .inl (cA, 8, .inl (fun j => nI (lw5 j)))), (b3, .inl (cA, 8, .inl (fun j => nI (hg5 j)))), (b4, .inl (cA, 8, .inl (fun j => nI (od5 j)))), (b5, .inl (cA, 9, .inl (fun j => nI (ud5 j))))] := hD
  refine nv_b_eq (x := false) (tgt := 17) hx hb dM_low_5 rfl (fun hc5 => ?_) (fun hc5 => ?_)
  · refine lv_iconst (v := nI 0) hx hb dM_low_17 (by decide) ?_
    exact W.iret (v := (nI 0)) hx hb hr (fun t ht hW => ⟨⟨_, (lw5, hg5, od5, ud5), rfl, rfl, by rw [ht]; exact hP, va_K.moved hW.alike hK, hD⟩, hS.F ht⟩) hS.2.2 dM_low_18
  · exact absurd hc5 (by decide)

set_option maxHeartbeats 4000000 in
set_option maxRecDepth 100000 in
theorem cM_low_a (l : Launch) (D : va_G) (A : Nat → Prop) (g0 b1 b2 b3 b4 b5 : Nat) (cA : ClassId) (n ft : Nat) (ed lw hg od ud : Nat → Nat) (z1 : Int32) (hn : n ≤ 8)(hz9 : ∀ k, k < n → z1 ≠ nI k) : Met l yM_low (Cond.code yM_low cM_low 2 (some FieldType.int) :: bw) (rmL 6) (va_Pc [.ref g0, .int z1] (gW D vwCl A [(g0, .inr (1, [.int (nI n), .ref b1, .int (nI ft), .ref b2, .ref b3, .ref b4, .ref b5])), (b1, .inl (cA, 64, .inl (fun j => nI (ed j)))), (b2, .inl (cA, 8, .inl (fun j => nI (lw j)))), (b3, .inl (cA, 8, .inl (fun j => nI (hg j)))), (b4, .inl (cA, 8, .inl (fun j => nI (od j)))), (b5, .inl (cA, 9, .inl (fun j => nI (ud j))))] [(cA, .int)])) (va_Qi (fun (r9 : Int32) (_ : Unit) => r9 = (nI 0)) (fun _ => gW D vwCl A [(g0, .inr (1, [.int (nI n), .ref b1, .int (nI 1), .ref b2, .ref b3, .ref b4, .ref b5])), (b1, .inl (cA, 64, .inl (fun j => nI (ed j)))), (b2, .inl (cA, 8, .inl (fun j => nI (lw j)))), (b3, .inl (cA, 8, .inl (fun j => nI (hg j)))), (b4, .inl (cA, 8, .inl (fun j => nI (od j)))), (b5, .inl (cA, 9, .inl (fun j => nI (ud j))))] [(cA, .int)]) A) 0 0 A := by
  refine Met.ofW (cc := cM_low) (maxL := 2) (ret := (some FieldType.int)) (by decide) rfl ?_
  intro p e s m args below meth c s₁ B9 hml hv
  obtain ⟨rfl, hP, hK, hD⟩ := hv
  have hx := B9.exec
  have hb := B9.bytes
  have hr := B9.returns
  have hts := atoms_spec (ws := (Cond.code yM_low cM_low 2 (some FieldType.int) :: bw)) B9.pre
  have hw : ∀ w ∈ bw, w.before _ s = true := fun w h => hts w (List.mem_cons_of_mem _ h)
  have hown : s.vm.findClass RM = some m.cls := findClass_of_methodNamed B9.named
  have hlocks := B9.notSynchronized
  have hl := lv_entry ([.ref g0, .int z1]) (n := 2) (Nat.le_of_ble_eq_true rfl)
  rw [lg_entry_eq]
  generalize (lg_sl ([.ref g0, .int z1]) ++ List.replicate (2 - (lg_sl ([.ref g0, .int z1])).length) Slot.unset).toArray = ls at hl ⊢
  have hl : lv_has ls 2 [(0, .ref g0), (1, .int z1)] := hl
  have hS : va_S A s.heap s.heap [] := va_S.rf
  refine lv_aload_n hx hb dM_low_0 rfl (lv_at hl 0 rfl) ?_
  refine lv_iload_n hx hb dM_low_1 rfl (lv_at hl 1 rfl) ?_
  refine va_calli (va_runV (C := RM) (As := [.int z1]) (rest := []) ⟨hx, hb, hml, hown, hw⟩ (cM_named_a l D A g0 b1 b2 b3 b4 b5 cA n ft ed lw hg od ud z1 hn hz9) (cwV 1 hw (gV w2_200 w2_202 w0_24 w1_2 w2_203) rfl rfl rfl ⟨rfl, by decide, by decide, by decide +kernel⟩ ⟨Nat.le_of_ble_eq_true rfl, Nat.le_of_ble_eq_true rfl⟩) ⟨gW_blind, va_recv (q0 := 0) (ci := 1) hK hP rfl rfl, gW_at hP hK hD _⟩ rfl rfl hl.1 rfl (lv_room (Nat.le_of_ble_eq_true rfl)) dM_low_2 ⟨Nat.zero_le _, Nat.zero_le _⟩) hS (fun q _ h => h) (fun q h => h) (fun r9 u9 t9 H locs ht9 hvm9 hpost9 hB9 hz9 hk8 hS => ?_)
  obtain ⟨hP, -, hD⟩ := hB9
  rw [ht9] at hP
  subst hpost9
  have hP : va_P D vwCl [(g0, .inr (1, [.int (nI n), .ref b1, .int (nI 1), .ref b2, .ref b3, .ref b4, .ref b5])), (b1, .inl (cA, 64, .inl (fun j => nI (ed j)))), (b2, .inl (cA, 8, .inl (fun j => nI (lw j)))), (b3, .inl (cA, 8, .inl (fun j => nI (hg j)))), (b4, .inl (cA, 8, .inl (fun j => nI (od j)))), (b5, .inl (cA, 9, .inl (fun j => nI (ud j))))] H := hP
  have hD : va_D A [(g0, .inr (1, [.int (nI n), .ref b1, .int (nI 1), .ref b2, .ref b3, .ref b4, .ref b5])), (b1, .inl (cA, 64, .inl (fun j => nI (ed j)))), (b2, .inl (cA, 8, .inl (fun j => nI (lw j)))), (b3, .inl (cA, 8, .inl (fun j => nI (hg j)))), (b4, .inl (cA, 8, .inl (fun j => nI (od j)))), (b5, .inl (cA, 9, .inl (fun j => nI (ud j))))] := hD
  refine nv_b_eq (x := false) (tgt := 17) hx hb dM_low_5 rfl (fun hc5 => ?_) (fun hc5 => ?_)
  · refine lv_iconst (v := nI 0) hx hb dM_low_17 (by decide) ?_
    exact W.iret (v := (nI 0)) hx hb hr (fun t ht hW => ⟨⟨_, (), rfl, rfl, by rw [ht]; exact hP, va_K.moved hW.alike hK, hD⟩, hS.F ht⟩) hS.2.2 dM_low_18
  · exact absurd hc5 (by decide)

set_option maxHeartbeats 4000000 in
set_option maxRecDepth 100000 in
theorem cM_high_y (l : Launch) (D : va_G) (A : Nat → Prop) (g0 b1 b2 b3 b4 b5 : Nat) (cA : ClassId) (n ft : Nat) (ed lw hg od ud : Nat → Nat) (v : Nat) (hn : n ≤ 8)(hed1 : ∀ k, k < 64 → ed k ≤ 1)(x : List (Nat × Nat × Nat) × Nat) (hres : srN (fun v j => ed (8 * v + j)) (meN (2 ^ n - 1) n 0) [] 0 = some x)(hv : v < n) : Met l yM_high (Cond.code yM_high cM_high 2 (some FieldType.int) :: bw) (rmL 6) (va_Pc [.ref g0, .int (nI v)] (gW D vwCl A [(g0, .inr (1, [.int (nI n), .ref b1, .int (nI ft), .ref b2, .ref b3, .ref b4, .ref b5])), (b1, .inl (cA, 64, .inl (fun j => nI (ed j)))), (b2, .inl (cA, 8, .inl (fun j => nI (lw j)))), (b3, .inl (cA, 8, .inl (fun j => nI (hg j)))), (b4, .inl (cA, 8, .inl (fun j => nI (od j)))), (b5, .inl (cA, 9, .inl (fun j => nI (ud j))))] [(cA, .int)])) (va_Qi (fun r (u : (Nat → Nat) × (Nat → Nat) × (Nat → Nat) × (Nat → Nat)) => r = nI (u.2.1 v) ∧ MU n x u) (fun u => gW D vwCl A (mW9 g0 b1 b2 b3 b4 b5 cA n 0 ed u) [(cA, .int)]) A) 0 0 A := by
  refine Met.ofW (cc := cM_high) (maxL := 2) (ret := (some FieldType.int)) (by decide) rfl ?_
  intro p e s m args below meth c s₁ B9 hml hv9
  obtain ⟨rfl, hP, hK, hD⟩ := hv9
  have hx := B9.exec
  have hb := B9.bytes
  have hr := B9.returns
  have hts := atoms_spec (ws := (Cond.code yM_high cM_high 2 (some FieldType.int) :: bw)) B9.pre
  have hw : ∀ w ∈ bw, w.before _ s = true := fun w h => hts w (List.mem_cons_of_mem _ h)
  have hown : s.vm.findClass RM = some m.cls := findClass_of_methodNamed B9.named
  have hlocks := B9.notSynchronized
  have hl := lv_entry ([.ref g0, .int (nI v)]) (n := 2) (Nat.le_of_ble_eq_true rfl)
  rw [lg_entry_eq]
  generalize (lg_sl ([.ref g0, .int (nI v)]) ++ List.replicate (2 - (lg_sl ([.ref g0, .int (nI v)])).length) Slot.unset).toArray = ls at hl ⊢
  have hl : lv_has ls 2 [(0, .ref g0), (1, .int (nI v))] := hl
  have hS : va_S A s.heap s.heap [] := va_S.rf
  refine lv_aload_n hx hb dM_high_0 rfl (lv_at hl 0 rfl) ?_
  refine lv_iload_n hx hb dM_high_1 rfl (lv_at hl 1 rfl) ?_
  refine va_calli (va_runV (C := RM) (As := [.int (nI v)]) (rest := []) ⟨hx, hb, hml, hown, hw⟩ (cM_named_y l D A g0 b1 b2 b3 b4 b5 cA n ft ed lw hg od ud v hn hed1 x hres hv) (cwV 1 hw (gV w2_200 w2_202 w0_24 w1_2 w2_203) rfl rfl rfl ⟨rfl, by decide, by decide, by decide +kernel⟩ ⟨Nat.le_of_ble_eq_true rfl, Nat.le_of_ble_eq_true rfl⟩) ⟨gW_blind, va_recv (q0 := 0) (ci := 1) hK hP rfl rfl, gW_at hP hK hD _⟩ rfl rfl hl.1 rfl (lv_room (Nat.le_of_ble_eq_true rfl)) dM_high_2 ⟨Nat.zero_le _, Nat.zero_le _⟩) hS (fun q _ h => h) (fun q h => h) (fun r9 u9 t9 H locs ht9 hvm9 hpost9 hB9 hz9 hk8 hS => ?_)
  obtain ⟨lw5, hg5, od5, ud5⟩ := u9
  obtain ⟨hP, -, hD⟩ := hB9
  rw [ht9] at hP
  obtain ⟨hr9, hmu⟩ := hpost9
  subst hr9
  have hP : va_P D vwCl [(g0, .inr (1, [.int (nI n), .ref b1, .int (nI 0), .ref b2, .ref b3, .ref b4, .ref b5])), (b1, .inl (cA, 64, .inl (fun j => nI (ed j)))), (b2, .inl (cA, 8, .inl (fun j => nI (lw5 j)))), (b3, .inl (cA, 8, .inl (fun j => nI (hg5 j)))), (b4, .inl (cA, 8, .inl (fun j => nI (od5 j)))), (b5, .inl (cA, 9, .inl (fun j => nI (ud5 j))))] H := hP
  have hD : va_D A [(g0, .inr (1, [.int (nI n), .ref b1, .int (nI 0), .ref b2, .ref b3, .ref b4, .ref b5])), (b1, .inl (cA, 64, .inl (fun j => nI (ed j)))), (b2, .inl (cA, 8, .inl (fun j => nI (lw5 j)))), (b3, .inl (cA, 8, .inl (fun j => nI (hg5 j)))), (b4, .inl (cA, 8, .inl (fun j => nI (od5 j)))), (b5, .inl (cA, 9, .inl (fun j => nI (ud5 j))))] := hD
  refine nv_b_eq (x := true) (tgt := 17) hx hb dM_high_5 rfl (fun hc5 => ?_) (fun hc5 => ?_)
  · exact absurd hc5 (by decide)
  · refine lv_aload_n hx hb dM_high_8 rfl (lv_at hl 0 rfl) ?_
    refine va_get (D := D) (ci := 1) (v := .ref b3) (C := RM) (T := TM) (N := 7) hx hb hw uM hown hK hP 0 rfl rfl 4 (by decide) (hw _ w2_102) (fun _ h9 => h9) rfl dM_high_9 ?_
    refine lv_iload_n hx hb dM_high_12 rfl (lv_at hl 1 rfl) ?_
    refine nv_iald (i := v) (f := hg5) hx hb hK hP 3 0 rfl rfl (by omega) (by omega) dM_high_13 ?_
    refine lv_goto (tgt := 18) hx hb dM_high_14 rfl ?_
    exact W.iret (v := (nI (hg5 v))) hx hb hr (fun t ht hW => ⟨⟨_, (lw5, hg5, od5, ud5), rfl, ⟨rfl, hmu⟩, by rw [ht]; exact hP, va_K.moved hW.alike hK, hD⟩, hS.F ht⟩) hS.2.2 dM_high_18

set_option maxHeartbeats 4000000 in
set_option maxRecDepth 100000 in
theorem cM_high_n (l : Launch) (D : va_G) (A : Nat → Prop) (g0 b1 b2 b3 b4 b5 : Nat) (cA : ClassId) (n ft : Nat) (ed lw hg od ud : Nat → Nat) (v : Nat) (hn : n ≤ 8)(hed1 : ∀ k, k < 64 → ed k ≤ 1)(hres : srN (fun v j => ed (8 * v + j)) (meN (2 ^ n - 1) n 0) [] 0 = none)(hv : v < n) : Met l yM_high (Cond.code yM_high cM_high 2 (some FieldType.int) :: bw) (rmL 6) (va_Pc [.ref g0, .int (nI v)] (gW D vwCl A [(g0, .inr (1, [.int (nI n), .ref b1, .int (nI ft), .ref b2, .ref b3, .ref b4, .ref b5])), (b1, .inl (cA, 64, .inl (fun j => nI (ed j)))), (b2, .inl (cA, 8, .inl (fun j => nI (lw j)))), (b3, .inl (cA, 8, .inl (fun j => nI (hg j)))), (b4, .inl (cA, 8, .inl (fun j => nI (od j)))), (b5, .inl (cA, 9, .inl (fun j => nI (ud j))))] [(cA, .int)])) (va_Qi (fun r (_ : (Nat → Nat) × (Nat → Nat) × (Nat → Nat) × (Nat → Nat)) => r = nI 0) (fun u => gW D vwCl A (mW9 g0 b1 b2 b3 b4 b5 cA n 2 ed u) [(cA, .int)]) A) 0 0 A := by
  refine Met.ofW (cc := cM_high) (maxL := 2) (ret := (some FieldType.int)) (by decide) rfl ?_
  intro p e s m args below meth c s₁ B9 hml hv9
  obtain ⟨rfl, hP, hK, hD⟩ := hv9
  have hx := B9.exec
  have hb := B9.bytes
  have hr := B9.returns
  have hts := atoms_spec (ws := (Cond.code yM_high cM_high 2 (some FieldType.int) :: bw)) B9.pre
  have hw : ∀ w ∈ bw, w.before _ s = true := fun w h => hts w (List.mem_cons_of_mem _ h)
  have hown : s.vm.findClass RM = some m.cls := findClass_of_methodNamed B9.named
  have hlocks := B9.notSynchronized
  have hl := lv_entry ([.ref g0, .int (nI v)]) (n := 2) (Nat.le_of_ble_eq_true rfl)
  rw [lg_entry_eq]
  generalize (lg_sl ([.ref g0, .int (nI v)]) ++ List.replicate (2 - (lg_sl ([.ref g0, .int (nI v)])).length) Slot.unset).toArray = ls at hl ⊢
  have hl : lv_has ls 2 [(0, .ref g0), (1, .int (nI v))] := hl
  have hS : va_S A s.heap s.heap [] := va_S.rf
  refine lv_aload_n hx hb dM_high_0 rfl (lv_at hl 0 rfl) ?_
  refine lv_iload_n hx hb dM_high_1 rfl (lv_at hl 1 rfl) ?_
  refine va_calli (va_runV (C := RM) (As := [.int (nI v)]) (rest := []) ⟨hx, hb, hml, hown, hw⟩ (cM_named_n l D A g0 b1 b2 b3 b4 b5 cA n ft ed lw hg od ud v hn hed1 hres hv) (cwV 1 hw (gV w2_200 w2_202 w0_24 w1_2 w2_203) rfl rfl rfl ⟨rfl, by decide, by decide, by decide +kernel⟩ ⟨Nat.le_of_ble_eq_true rfl, Nat.le_of_ble_eq_true rfl⟩) ⟨gW_blind, va_recv (q0 := 0) (ci := 1) hK hP rfl rfl, gW_at hP hK hD _⟩ rfl rfl hl.1 rfl (lv_room (Nat.le_of_ble_eq_true rfl)) dM_high_2 ⟨Nat.zero_le _, Nat.zero_le _⟩) hS (fun q _ h => h) (fun q h => h) (fun r9 u9 t9 H locs ht9 hvm9 hpost9 hB9 hz9 hk8 hS => ?_)
  obtain ⟨lw5, hg5, od5, ud5⟩ := u9
  obtain ⟨hP, -, hD⟩ := hB9
  rw [ht9] at hP
  have hr9 := hpost9
  subst hr9
  have hP : va_P D vwCl [(g0, .inr (1, [.int (nI n), .ref b1, .int (nI 2), .ref b2, .ref b3, .ref b4, .ref b5])), (b1, .inl (cA, 64, .inl (fun j => nI (ed j)))), (b2, .inl (cA, 8, .inl (fun j => nI (lw5 j)))), (b3, .inl (cA, 8, .inl (fun j => nI (hg5 j)))), (b4, .inl (cA, 8, .inl (fun j => nI (od5 j)))), (b5, .inl (cA, 9, .inl (fun j => nI (ud5 j))))] H := hP
  have hD : va_D A [(g0, .inr (1, [.int (nI n), .ref b1, .int (nI 2), .ref b2, .ref b3, .ref b4, .ref b5])), (b1, .inl (cA, 64, .inl (fun j => nI (ed j)))), (b2, .inl (cA, 8, .inl (fun j => nI (lw5 j)))), (b3, .inl (cA, 8, .inl (fun j => nI (hg5 j)))), (b4, .inl (cA, 8, .inl (fun j => nI (od5 j)))), (b5, .inl (cA, 9, .inl (fun j => nI (ud5 j))))] := hD
  refine nv_b_eq (x := false) (tgt := 17) hx hb dM_high_5 rfl (fun hc5 => ?_) (fun hc5 => ?_)
  · refine lv_iconst (v := nI 0) hx hb dM_high_17 (by decide) ?_
    exact W.iret (v := (nI 0)) hx hb hr (fun t ht hW => ⟨⟨_, (lw5, hg5, od5, ud5), rfl, rfl, by rw [ht]; exact hP, va_K.moved hW.alike hK, hD⟩, hS.F ht⟩) hS.2.2 dM_high_18
  · exact absurd hc5 (by decide)

set_option maxHeartbeats 4000000 in
set_option maxRecDepth 100000 in
theorem cM_high_a (l : Launch) (D : va_G) (A : Nat → Prop) (g0 b1 b2 b3 b4 b5 : Nat) (cA : ClassId) (n ft : Nat) (ed lw hg od ud : Nat → Nat) (z1 : Int32) (hn : n ≤ 8)(hz9 : ∀ k, k < n → z1 ≠ nI k) : Met l yM_high (Cond.code yM_high cM_high 2 (some FieldType.int) :: bw) (rmL 6) (va_Pc [.ref g0, .int z1] (gW D vwCl A [(g0, .inr (1, [.int (nI n), .ref b1, .int (nI ft), .ref b2, .ref b3, .ref b4, .ref b5])), (b1, .inl (cA, 64, .inl (fun j => nI (ed j)))), (b2, .inl (cA, 8, .inl (fun j => nI (lw j)))), (b3, .inl (cA, 8, .inl (fun j => nI (hg j)))), (b4, .inl (cA, 8, .inl (fun j => nI (od j)))), (b5, .inl (cA, 9, .inl (fun j => nI (ud j))))] [(cA, .int)])) (va_Qi (fun (r9 : Int32) (_ : Unit) => r9 = (nI 0)) (fun _ => gW D vwCl A [(g0, .inr (1, [.int (nI n), .ref b1, .int (nI 1), .ref b2, .ref b3, .ref b4, .ref b5])), (b1, .inl (cA, 64, .inl (fun j => nI (ed j)))), (b2, .inl (cA, 8, .inl (fun j => nI (lw j)))), (b3, .inl (cA, 8, .inl (fun j => nI (hg j)))), (b4, .inl (cA, 8, .inl (fun j => nI (od j)))), (b5, .inl (cA, 9, .inl (fun j => nI (ud j))))] [(cA, .int)]) A) 0 0 A := by
  refine Met.ofW (cc := cM_high) (maxL := 2) (ret := (some FieldType.int)) (by decide) rfl ?_
  intro p e s m args below meth c s₁ B9 hml hv
  obtain ⟨rfl, hP, hK, hD⟩ := hv
  have hx := B9.exec
  have hb := B9.bytes
  have hr := B9.returns
  have hts := atoms_spec (ws := (Cond.code yM_high cM_high 2 (some FieldType.int) :: bw)) B9.pre
  have hw : ∀ w ∈ bw, w.before _ s = true := fun w h => hts w (List.mem_cons_of_mem _ h)
  have hown : s.vm.findClass RM = some m.cls := findClass_of_methodNamed B9.named
  have hlocks := B9.notSynchronized
  have hl := lv_entry ([.ref g0, .int z1]) (n := 2) (Nat.le_of_ble_eq_true rfl)
  rw [lg_entry_eq]
  generalize (lg_sl ([.ref g0, .int z1]) ++ List.replicate (2 - (lg_sl ([.ref g0, .int z1])).length) Slot.unset).toArray = ls at hl ⊢
  have hl : lv_has ls 2 [(0, .ref g0), (1, .int z1)] := hl
  have hS : va_S A s.heap s.heap [] := va_S.rf
  refine lv_aload_n hx hb dM_high_0 rfl (lv_at hl 0 rfl) ?_
  refine lv_iload_n hx hb dM_high_1 rfl (lv_at hl 1 rfl) ?_
  refine va_calli (va_runV (C := RM) (As := [.int z1]) (rest := []) ⟨hx, hb, hml, hown, hw⟩ (cM_named_a l D A g0 b1 b2 b3 b4 b5 cA n ft ed lw hg od ud z1 hn hz9) (cwV 1 hw (gV w2_200 w2_202 w0_24 w1_2 w2_203) rfl rfl rfl ⟨rfl, by decide, by decide, by decide +kernel⟩ ⟨Nat.le_of_ble_eq_true rfl, Nat.le_of_ble_eq_true rfl⟩) ⟨gW_blind, va_recv (q0 := 0) (ci := 1) hK hP rfl rfl, gW_at hP hK hD _⟩ rfl rfl hl.1 rfl (lv_room (Nat.le_of_ble_eq_true rfl)) dM_high_2 ⟨Nat.zero_le _, Nat.zero_le _⟩) hS (fun q _ h => h) (fun q h => h) (fun r9 u9 t9 H locs ht9 hvm9 hpost9 hB9 hz9 hk8 hS => ?_)
  obtain ⟨hP, -, hD⟩ := hB9
  rw [ht9] at hP
  subst hpost9
  have hP : va_P D vwCl [(g0, .inr (1, [.int (nI n), .ref b1, .int (nI 1), .ref b2, .ref b3, .ref b4, .ref b5])), (b1, .inl (cA, 64, .inl (fun j => nI (ed j)))), (b2, .inl (cA, 8, .inl (fun j => nI (lw j)))), (b3, .inl (cA, 8, .inl (fun j => nI (hg j)))), (b4, .inl (cA, 8, .inl (fun j => nI (od j)))), (b5, .inl (cA, 9, .inl (fun j => nI (ud j))))] H := hP
  have hD : va_D A [(g0, .inr (1, [.int (nI n), .ref b1, .int (nI 1), .ref b2, .ref b3, .ref b4, .ref b5])), (b1, .inl (cA, 64, .inl (fun j => nI (ed j)))), (b2, .inl (cA, 8, .inl (fun j => nI (lw j)))), (b3, .inl (cA, 8, .inl (fun j => nI (hg j)))), (b4, .inl (cA, 8, .inl (fun j => nI (od j)))), (b5, .inl (cA, 9, .inl (fun j => nI (ud j))))] := hD
  refine nv_b_eq (x := false) (tgt := 17) hx hb dM_high_5 rfl (fun hc5 => ?_) (fun hc5 => ?_)
  · refine lv_iconst (v := nI 0) hx hb dM_high_17 (by decide) ?_
    exact W.iret (v := (nI 0)) hx hb hr (fun t ht hW => ⟨⟨_, (), rfl, rfl, by rw [ht]; exact hP, va_K.moved hW.alike hK, hD⟩, hS.F ht⟩) hS.2.2 dM_high_18
  · exact absurd hc5 (by decide)

set_option maxHeartbeats 4000000 in
set_option maxRecDepth 100000 in
theorem cM_loose_y (l : Launch) (D : va_G) (A : Nat → Prop) (g0 b1 b2 b3 b4 b5 : Nat) (cA : ClassId) (n ft : Nat) (ed lw hg od ud : Nat → Nat)  (hn : n ≤ 8)(hed1 : ∀ k, k < 64 → ed k ≤ 1)(x : List (Nat × Nat × Nat) × Nat) (hres : srN (fun v j => ed (8 * v + j)) (meN (2 ^ n - 1) n 0) [] 0 = some x) : Met l yM_loose (Cond.code yM_loose cM_loose 1 (some FieldType.int) :: bw) (rmL 5) (va_Pc [.ref g0] (gW D vwCl A [(g0, .inr (1, [.int (nI n), .ref b1, .int (nI ft), .ref b2, .ref b3, .ref b4, .ref b5])), (b1, .inl (cA, 64, .inl (fun j => nI (ed j)))), (b2, .inl (cA, 8, .inl (fun j => nI (lw j)))), (b3, .inl (cA, 8, .inl (fun j => nI (hg j)))), (b4, .inl (cA, 8, .inl (fun j => nI (od j)))), (b5, .inl (cA, 9, .inl (fun j => nI (ud j))))] [(cA, .int)])) (va_Qi (fun r (u : (Nat → Nat) × (Nat → Nat) × (Nat → Nat) × (Nat → Nat)) => r = nI (mLo ed u.1 u.2.1 n x.2 (pcN (jBest (fun set => mAl ed set 0 n) (2 ^ n))) (2 ^ n)) ∧ MU n x u) (fun u => gW D vwCl A (mW9 g0 b1 b2 b3 b4 b5 cA n 0 ed u) [(cA, .int)]) A) 0 0 A := by
  refine Met.ofW (cc := cM_loose) (maxL := 1) (ret := (some FieldType.int)) (by decide) rfl ?_
  intro p e s m args below meth c s₁ B9 hml hv9
  obtain ⟨rfl, hP, hK, hD⟩ := hv9
  have hx := B9.exec
  have hb := B9.bytes
  have hr := B9.returns
  have hts := atoms_spec (ws := (Cond.code yM_loose cM_loose 1 (some FieldType.int) :: bw)) B9.pre
  have hw : ∀ w ∈ bw, w.before _ s = true := fun w h => hts w (List.mem_cons_of_mem _ h)
  have hown : s.vm.findClass RM = some m.cls := findClass_of_methodNamed B9.named
  have hlocks := B9.notSynchronized
  have hl := lv_entry ([.ref g0]) (n := 1) (Nat.le_of_ble_eq_true rfl)
  rw [lg_entry_eq]
  generalize (lg_sl ([.ref g0]) ++ List.replicate (1 - (lg_sl ([.ref g0])).length) Slot.unset).toArray = ls at hl ⊢
  have hl : lv_has ls 1 [(0, .ref g0)] := hl
  have hS : va_S A s.heap s.heap [] := va_S.rf
  refine lv_aload_n hx hb dM_loose_0 rfl (lv_at hl 0 rfl) ?_
  refine lv_iconst (v := nI 1) hx hb dM_loose_1 (by decide) ?_
  refine va_calli (va_runV (C := RM) (As := [.int (nI 1)]) (rest := []) ⟨hx, hb, hml, hown, hw⟩ (cM_line_y l D A g0 b1 b2 b3 b4 b5 cA n ft ed lw hg od ud 1 hn hed1 x hres) (cwV 1 hw (gV w2_192 w2_194 w0_23 w1_2 w2_195) rfl rfl rfl ⟨rfl, by decide, by decide, by decide +kernel⟩ ⟨Nat.le_of_ble_eq_true rfl, Nat.le_of_ble_eq_true rfl⟩) ⟨gW_blind, va_recv (q0 := 0) (ci := 1) hK hP rfl rfl, gW_at hP hK hD _⟩ rfl rfl hl.1 rfl (lv_room (Nat.le_of_ble_eq_true rfl)) dM_loose_2 ⟨Nat.zero_le _, Nat.zero_le _⟩) hS (fun q _ h => h) (fun q h => h) (fun r9 u9 t9 H locs ht9 hvm9 hpost9 hB9 hz9 hk8 hS => ?_)
  obtain ⟨lw5, hg5, od5, ud5⟩ := u9
  obtain ⟨hP, -, hD⟩ := hB9
  rw [ht9] at hP
  obtain ⟨hr9, hmu⟩ := hpost9
  subst hr9
  obtain ⟨hx16, hlt16⟩ := mu_lt hn hres hmu
  have hP : va_P D vwCl [(g0, .inr (1, [.int (nI n), .ref b1, .int (nI 0), .ref b2, .ref b3, .ref b4, .ref b5])), (b1, .inl (cA, 64, .inl (fun j => nI (ed j)))), (b2, .inl (cA, 8, .inl (fun j => nI (lw5 j)))), (b3, .inl (cA, 8, .inl (fun j => nI (hg5 j)))), (b4, .inl (cA, 8, .inl (fun j => nI (od5 j)))), (b5, .inl (cA, 9, .inl (fun j => nI (ud5 j))))] H := hP
  have hD : va_D A [(g0, .inr (1, [.int (nI n), .ref b1, .int (nI 0), .ref b2, .ref b3, .ref b4, .ref b5])), (b1, .inl (cA, 64, .inl (fun j => nI (ed j)))), (b2, .inl (cA, 8, .inl (fun j => nI (lw5 j)))), (b3, .inl (cA, 8, .inl (fun j => nI (hg5 j)))), (b4, .inl (cA, 8, .inl (fun j => nI (od5 j)))), (b5, .inl (cA, 9, .inl (fun j => nI (ud5 j))))] := hD
  refine nv_b_eq (x := true) (tgt := 15) hx hb dM_loose_5 rfl (fun hc5 => ?_) (fun hc5 => ?_)
  · exact absurd hc5 (by decide)
  · refine lv_aload_n hx hb dM_loose_8 rfl (lv_at hl 0 rfl) ?_
    have hud := hmu.1
    dsimp only at hud
    refine nr_V (b := g0) (As := []) (C := RM) (rest := []) ⟨hx, hb, hml, hown, hw⟩ (cM_left_c l D A g0 b1 b2 b3 b4 b5 cA n 0 ed lw5 hg5 od5 ud5 hn hed1 hlt16 (by omega)) (cwV 0 hw (gV w2_235 w2_237 w0_27 w1_2 w2_238) rfl rfl rfl ⟨rfl, by decide, by decide, by decide +kernel⟩ ⟨Nat.le_of_ble_eq_true rfl, Nat.le_of_ble_eq_true rfl⟩) gB_blind (va_recv (q0 := 0) (ci := 1) hK hP rfl rfl) (gB_at hP hK _) rfl hl.1 rfl (Nat.le_of_ble_eq_true rfl) dM_loose_9 ⟨Nat.zero_le _, Nat.zero_le _⟩ ?_
    rw [hud]
    refine lv_goto (tgt := 16) hx hb dM_loose_12 rfl ?_
    exact W.iret (v := (nI (mLo ed lw5 hg5 n x.2 (pcN (jBest (fun set => mAl ed set 0 n) (2 ^ n))) (2 ^ n)))) hx hb hr (fun t ht hW => ⟨⟨_, (lw5, hg5, od5, ud5), rfl, ⟨rfl, hmu⟩, by rw [ht]; exact hP, va_K.moved hW.alike hK, hD⟩, hS.F ht⟩) hS.2.2 dM_loose_16

set_option maxHeartbeats 4000000 in
set_option maxRecDepth 100000 in
theorem cM_loose_n (l : Launch) (D : va_G) (A : Nat → Prop) (g0 b1 b2 b3 b4 b5 : Nat) (cA : ClassId) (n ft : Nat) (ed lw hg od ud : Nat → Nat)  (hn : n ≤ 8)(hed1 : ∀ k, k < 64 → ed k ≤ 1)(hres : srN (fun v j => ed (8 * v + j)) (meN (2 ^ n - 1) n 0) [] 0 = none) : Met l yM_loose (Cond.code yM_loose cM_loose 1 (some FieldType.int) :: bw) (rmL 5) (va_Pc [.ref g0] (gW D vwCl A [(g0, .inr (1, [.int (nI n), .ref b1, .int (nI ft), .ref b2, .ref b3, .ref b4, .ref b5])), (b1, .inl (cA, 64, .inl (fun j => nI (ed j)))), (b2, .inl (cA, 8, .inl (fun j => nI (lw j)))), (b3, .inl (cA, 8, .inl (fun j => nI (hg j)))), (b4, .inl (cA, 8, .inl (fun j => nI (od j)))), (b5, .inl (cA, 9, .inl (fun j => nI (ud j))))] [(cA, .int)])) (va_Qi (fun r (_ : (Nat → Nat) × (Nat → Nat) × (Nat → Nat) × (Nat → Nat)) => r = nI 0) (fun u => gW D vwCl A (mW9 g0 b1 b2 b3 b4 b5 cA n 1 ed u) [(cA, .int)]) A) 0 0 A := by
  refine Met.ofW (cc := cM_loose) (maxL := 1) (ret := (some FieldType.int)) (by decide) rfl ?_
  intro p e s m args below meth c s₁ B9 hml hv9
  obtain ⟨rfl, hP, hK, hD⟩ := hv9
  have hx := B9.exec
  have hb := B9.bytes
  have hr := B9.returns
  have hts := atoms_spec (ws := (Cond.code yM_loose cM_loose 1 (some FieldType.int) :: bw)) B9.pre
  have hw : ∀ w ∈ bw, w.before _ s = true := fun w h => hts w (List.mem_cons_of_mem _ h)
  have hown : s.vm.findClass RM = some m.cls := findClass_of_methodNamed B9.named
  have hlocks := B9.notSynchronized
  have hl := lv_entry ([.ref g0]) (n := 1) (Nat.le_of_ble_eq_true rfl)
  rw [lg_entry_eq]
  generalize (lg_sl ([.ref g0]) ++ List.replicate (1 - (lg_sl ([.ref g0])).length) Slot.unset).toArray = ls at hl ⊢
  have hl : lv_has ls 1 [(0, .ref g0)] := hl
  have hS : va_S A s.heap s.heap [] := va_S.rf
  refine lv_aload_n hx hb dM_loose_0 rfl (lv_at hl 0 rfl) ?_
  refine lv_iconst (v := nI 1) hx hb dM_loose_1 (by decide) ?_
  refine va_calli (va_runV (C := RM) (As := [.int (nI 1)]) (rest := []) ⟨hx, hb, hml, hown, hw⟩ (cM_line_n l D A g0 b1 b2 b3 b4 b5 cA n ft ed lw hg od ud 1 hn hed1 hres) (cwV 1 hw (gV w2_192 w2_194 w0_23 w1_2 w2_195) rfl rfl rfl ⟨rfl, by decide, by decide, by decide +kernel⟩ ⟨Nat.le_of_ble_eq_true rfl, Nat.le_of_ble_eq_true rfl⟩) ⟨gW_blind, va_recv (q0 := 0) (ci := 1) hK hP rfl rfl, gW_at hP hK hD _⟩ rfl rfl hl.1 rfl (lv_room (Nat.le_of_ble_eq_true rfl)) dM_loose_2 ⟨Nat.zero_le _, Nat.zero_le _⟩) hS (fun q _ h => h) (fun q h => h) (fun r9 u9 t9 H locs ht9 hvm9 hpost9 hB9 hz9 hk8 hS => ?_)
  obtain ⟨lw5, hg5, od5, ud5⟩ := u9
  obtain ⟨hP, -, hD⟩ := hB9
  rw [ht9] at hP
  have hr9 := hpost9
  subst hr9
  have hP : va_P D vwCl [(g0, .inr (1, [.int (nI n), .ref b1, .int (nI 1), .ref b2, .ref b3, .ref b4, .ref b5])), (b1, .inl (cA, 64, .inl (fun j => nI (ed j)))), (b2, .inl (cA, 8, .inl (fun j => nI (lw5 j)))), (b3, .inl (cA, 8, .inl (fun j => nI (hg5 j)))), (b4, .inl (cA, 8, .inl (fun j => nI (od5 j)))), (b5, .inl (cA, 9, .inl (fun j => nI (ud5 j))))] H := hP
  have hD : va_D A [(g0, .inr (1, [.int (nI n), .ref b1, .int (nI 1), .ref b2, .ref b3, .ref b4, .ref b5])), (b1, .inl (cA, 64, .inl (fun j => nI (ed j)))), (b2, .inl (cA, 8, .inl (fun j => nI (lw5 j)))), (b3, .inl (cA, 8, .inl (fun j => nI (hg5 j)))), (b4, .inl (cA, 8, .inl (fun j => nI (od5 j)))), (b5, .inl (cA, 9, .inl (fun j => nI (ud5 j))))] := hD
  refine nv_b_eq (x := false) (tgt := 15) hx hb dM_loose_5 rfl (fun hc5 => ?_) (fun hc5 => ?_)
  · refine lv_iconst (v := nI 0) hx hb dM_loose_15 (by decide) ?_
    exact W.iret (v := (nI 0)) hx hb hr (fun t ht hW => ⟨⟨_, (lw5, hg5, od5, ud5), rfl, rfl, by rw [ht]; exact hP, va_K.moved hW.alike hK, hD⟩, hS.F ht⟩) hS.2.2 dM_loose_16
  · exact absurd hc5 (by decide)

set_option maxHeartbeats 4000000 in
set_option maxRecDepth 100000 in
theorem cM_barrier_n (l : Launch) (D : va_G) (A : Nat → Prop) (g0 b1 b2 b3 b4 b5 : Nat) (cA : ClassId) (n ft : Nat) (ed lw hg od ud : Nat → Nat)  (hn : n ≤ 8)(hed1 : ∀ k, k < 64 → ed k ≤ 1)(hres : srN (fun v j => ed (8 * v + j)) (meN (2 ^ n - 1) n 0) [] 0 = none) : Met l yM_barrier (Cond.code yM_barrier cM_barrier 6 (some FieldType.int) :: bw) (rmL 5) (va_Pc [.ref g0] (gW D vwCl A [(g0, .inr (1, [.int (nI n), .ref b1, .int (nI ft), .ref b2, .ref b3, .ref b4, .ref b5])), (b1, .inl (cA, 64, .inl (fun j => nI (ed j)))), (b2, .inl (cA, 8, .inl (fun j => nI (lw j)))), (b3, .inl (cA, 8, .inl (fun j => nI (hg j)))), (b4, .inl (cA, 8, .inl (fun j => nI (od j)))), (b5, .inl (cA, 9, .inl (fun j => nI (ud j))))] [(cA, .int)])) (va_Qi (fun r (_ : (Nat → Nat) × (Nat → Nat) × (Nat → Nat) × (Nat → Nat)) => r = nI 0) (fun u => gW D vwCl A (mW9 g0 b1 b2 b3 b4 b5 cA n 1 ed u) [(cA, .int)]) A) 0 0 A := by
  refine Met.ofW (cc := cM_barrier) (maxL := 6) (ret := (some FieldType.int)) (by decide) rfl ?_
  intro p e s m args below meth c s₁ B9 hml hv9
  obtain ⟨rfl, hP, hK, hD⟩ := hv9
  have hx := B9.exec
  have hb := B9.bytes
  have hr := B9.returns
  have hts := atoms_spec (ws := (Cond.code yM_barrier cM_barrier 6 (some FieldType.int) :: bw)) B9.pre
  have hw : ∀ w ∈ bw, w.before _ s = true := fun w h => hts w (List.mem_cons_of_mem _ h)
  have hown : s.vm.findClass RM = some m.cls := findClass_of_methodNamed B9.named
  have hlocks := B9.notSynchronized
  have hl := lv_entry ([.ref g0]) (n := 6) (Nat.le_of_ble_eq_true rfl)
  rw [lg_entry_eq]
  generalize (lg_sl ([.ref g0]) ++ List.replicate (6 - (lg_sl ([.ref g0])).length) Slot.unset).toArray = ls at hl ⊢
  have hl : lv_has ls 6 [(0, .ref g0)] := hl
  have hS : va_S A s.heap s.heap [] := va_S.rf
  refine lv_aload_n hx hb dM_barrier_0 rfl (lv_at hl 0 rfl) ?_
  refine lv_iconst (v := nI 1) hx hb dM_barrier_1 (by decide) ?_
  refine va_calli (va_runV (C := RM) (As := [.int (nI 1)]) (rest := []) ⟨hx, hb, hml, hown, hw⟩ (cM_line_n l D A g0 b1 b2 b3 b4 b5 cA n ft ed lw hg od ud 1 hn hed1 hres) (cwV 1 hw (gV w2_192 w2_194 w0_23 w1_2 w2_195) rfl rfl rfl ⟨rfl, by decide, by decide, by decide +kernel⟩ ⟨Nat.le_of_ble_eq_true rfl, Nat.le_of_ble_eq_true rfl⟩) ⟨gW_blind, va_recv (q0 := 0) (ci := 1) hK hP rfl rfl, gW_at hP hK hD _⟩ rfl rfl hl.1 rfl (lv_room (Nat.le_of_ble_eq_true rfl)) dM_barrier_2 ⟨Nat.zero_le _, Nat.zero_le _⟩) hS (fun q _ h => h) (fun q h => h) (fun r9 u9 t9 H locs ht9 hvm9 hpost9 hB9 hz9 hk8 hS => ?_)
  obtain ⟨lw5, hg5, od5, ud5⟩ := u9
  obtain ⟨hP, -, hD⟩ := hB9
  rw [ht9] at hP
  have hr9 := hpost9
  subst hr9
  have hP : va_P D vwCl [(g0, .inr (1, [.int (nI n), .ref b1, .int (nI 1), .ref b2, .ref b3, .ref b4, .ref b5])), (b1, .inl (cA, 64, .inl (fun j => nI (ed j)))), (b2, .inl (cA, 8, .inl (fun j => nI (lw5 j)))), (b3, .inl (cA, 8, .inl (fun j => nI (hg5 j)))), (b4, .inl (cA, 8, .inl (fun j => nI (od5 j)))), (b5, .inl (cA, 9, .inl (fun j => nI (ud5 j))))] H := hP
  have hD : va_D A [(g0, .inr (1, [.int (nI n), .ref b1, .int (nI 1), .ref b2, .ref b3, .ref b4, .ref b5])), (b1, .inl (cA, 64, .inl (fun j => nI (ed j)))), (b2, .inl (cA, 8, .inl (fun j => nI (lw5 j)))), (b3, .inl (cA, 8, .inl (fun j => nI (hg5 j)))), (b4, .inl (cA, 8, .inl (fun j => nI (od5 j)))), (b5, .inl (cA, 9, .inl (fun j => nI (ud5 j))))] := hD
  refine nv_b_ne (x := false) (tgt := 10) hx hb dM_barrier_5 rfl (fun hc5 => ?_) (fun hc5 => ?_)
  · exact absurd hc5 (by decide)
  · refine lv_iconst (v := nI 0) hx hb dM_barrier_8 (by decide) ?_
    exact W.iret (v := (nI 0)) hx hb hr (fun t ht hW => ⟨⟨_, (lw5, hg5, od5, ud5), rfl, rfl, by rw [ht]; exact hP, va_K.moved hW.alike hK, hD⟩, hS.F ht⟩) hS.2.2 dM_barrier_9

set_option maxHeartbeats 4000000 in
set_option maxRecDepth 100000 in
theorem cM_barrier_y (l : Launch) (D : va_G) (A : Nat → Prop) (g0 b1 b2 b3 b4 b5 : Nat) (cA : ClassId) (n ft : Nat) (ed lw hg od ud : Nat → Nat)  (hn : n ≤ 8)(hed1 : ∀ k, k < 64 → ed k ≤ 1)(x : List (Nat × Nat × Nat) × Nat) (hres : srN (fun v j => ed (8 * v + j)) (meN (2 ^ n - 1) n 0) [] 0 = some x) : Met l yM_barrier (Cond.code yM_barrier cM_barrier 6 (some FieldType.int) :: bw) (rmL 5) (va_Pc [.ref g0] (gW D vwCl A [(g0, .inr (1, [.int (nI n), .ref b1, .int (nI ft), .ref b2, .ref b3, .ref b4, .ref b5])), (b1, .inl (cA, 64, .inl (fun j => nI (ed j)))), (b2, .inl (cA, 8, .inl (fun j => nI (lw j)))), (b3, .inl (cA, 8, .inl (fun j => nI (hg j)))), (b4, .inl (cA, 8, .inl (fun j => nI (od j)))), (b5, .inl (cA, 9, .inl (fun j => nI (ud j))))] [(cA, .int)])) (va_Qi (fun r (u : (Nat → Nat) × (Nat → Nat) × (Nat → Nat) × (Nat → Nat)) => r = nI (mBa u.1 u.2.1 (mLo ed u.1 u.2.1 n x.2 (pcN (jBest (fun set => mAl ed set 0 n) (2 ^ n))) (2 ^ n)) n &&& ntN (mLo ed u.1 u.2.1 n x.2 (pcN (jBest (fun set => mAl ed set 0 n) (2 ^ n))) (2 ^ n))) ∧ MU n x u) (fun u => gW D vwCl A (mW9 g0 b1 b2 b3 b4 b5 cA n 0 ed u) [(cA, .int)]) A) 0 0 A := by
  refine Met.ofW (cc := cM_barrier) (maxL := 6) (ret := (some FieldType.int)) (by decide) rfl ?_
  intro p e s m args below meth c s₁ B9 hml hv9
  obtain ⟨rfl, hP, hK, hD⟩ := hv9
  have hx := B9.exec
  have hb := B9.bytes
  have hr := B9.returns
  have hts := atoms_spec (ws := (Cond.code yM_barrier cM_barrier 6 (some FieldType.int) :: bw)) B9.pre
  have hw : ∀ w ∈ bw, w.before _ s = true := fun w h => hts w (List.mem_cons_of_mem _ h)
  have hown : s.vm.findClass RM = some m.cls := findClass_of_methodNamed B9.named
  have hlocks := B9.notSynchronized
  have hl := lv_entry ([.ref g0]) (n := 6) (Nat.le_of_ble_eq_true rfl)
  rw [lg_entry_eq]
  generalize (lg_sl ([.ref g0]) ++ List.replicate (6 - (lg_sl ([.ref g0])).length) Slot.unset).toArray = ls at hl ⊢
  have hl : lv_has ls 6 [(0, .ref g0)] := hl
  have hS : va_S A s.heap s.heap [] := va_S.rf
  refine lv_aload_n hx hb dM_barrier_0 rfl (lv_at hl 0 rfl) ?_
  refine lv_iconst (v := nI 1) hx hb dM_barrier_1 (by decide) ?_
  refine va_calli (va_runV (C := RM) (As := [.int (nI 1)]) (rest := []) ⟨hx, hb, hml, hown, hw⟩ (cM_line_y l D A g0 b1 b2 b3 b4 b5 cA n ft ed lw hg od ud 1 hn hed1 x hres) (cwV 1 hw (gV w2_192 w2_194 w0_23 w1_2 w2_195) rfl rfl rfl ⟨rfl, by decide, by decide, by decide +kernel⟩ ⟨Nat.le_of_ble_eq_true rfl, Nat.le_of_ble_eq_true rfl⟩) ⟨gW_blind, va_recv (q0 := 0) (ci := 1) hK hP rfl rfl, gW_at hP hK hD _⟩ rfl rfl hl.1 rfl (lv_room (Nat.le_of_ble_eq_true rfl)) dM_barrier_2 ⟨Nat.zero_le _, Nat.zero_le _⟩) hS (fun q _ h => h) (fun q h => h) (fun r9 u9 t9 H locs ht9 hvm9 hpost9 hB9 hz9 hk8 hS => ?_)
  obtain ⟨lw5, hg5, od5, ud5⟩ := u9
  obtain ⟨hP, -, hD⟩ := hB9
  rw [ht9] at hP
  obtain ⟨hr9, hmu⟩ := hpost9
  subst hr9
  obtain ⟨hx16, hlt16⟩ := mu_lt hn hres hmu
  have hP : va_P D vwCl [(g0, .inr (1, [.int (nI n), .ref b1, .int (nI 0), .ref b2, .ref b3, .ref b4, .ref b5])), (b1, .inl (cA, 64, .inl (fun j => nI (ed j)))), (b2, .inl (cA, 8, .inl (fun j => nI (lw5 j)))), (b3, .inl (cA, 8, .inl (fun j => nI (hg5 j)))), (b4, .inl (cA, 8, .inl (fun j => nI (od5 j)))), (b5, .inl (cA, 9, .inl (fun j => nI (ud5 j))))] H := hP
  have hD : va_D A [(g0, .inr (1, [.int (nI n), .ref b1, .int (nI 0), .ref b2, .ref b3, .ref b4, .ref b5])), (b1, .inl (cA, 64, .inl (fun j => nI (ed j)))), (b2, .inl (cA, 8, .inl (fun j => nI (lw5 j)))), (b3, .inl (cA, 8, .inl (fun j => nI (hg5 j)))), (b4, .inl (cA, 8, .inl (fun j => nI (od5 j)))), (b5, .inl (cA, 9, .inl (fun j => nI (ud5 j))))] := hD
  refine nv_b_ne (x := true) (tgt := 10) hx hb dM_barrier_5 rfl (fun hc5 => ?_) (fun hc5 => ?_)
  · refine lv_aload_n hx hb dM_barrier_10 rfl (lv_at hl 0 rfl) ?_
    have hud := hmu.1
    dsimp only at hud
    refine nr_V (b := g0) (As := []) (C := RM) (rest := []) ⟨hx, hb, hml, hown, hw⟩ (cM_left_c l D A g0 b1 b2 b3 b4 b5 cA n 0 ed lw5 hg5 od5 ud5 hn hed1 hlt16 (by omega)) (cwV 0 hw (gV w2_235 w2_237 w0_27 w1_2 w2_238) rfl rfl rfl ⟨rfl, by decide, by decide, by decide +kernel⟩ ⟨Nat.le_of_ble_eq_true rfl, Nat.le_of_ble_eq_true rfl⟩) gB_blind (va_recv (q0 := 0) (ci := 1) hK hP rfl rfl) (gB_at hP hK _) rfl hl.1 rfl (Nat.le_of_ble_eq_true rfl) dM_barrier_11 ⟨Nat.zero_le _, Nat.zero_le _⟩ ?_
    rw [hud]
    have hll : (mLo ed lw5 hg5 n x.2 (pcN (jBest (fun set => mAl ed set 0 n) (2 ^ n))) (2 ^ n)) < 65536 := mLo_lt hx16 _
    generalize hge : (mLo ed lw5 hg5 n x.2 (pcN (jBest (fun set => mAl ed set 0 n) (2 ^ n))) (2 ^ n)) = ll at hll ⊢
    refine lv_istore_n hx hb dM_barrier_14 rfl hl (by decide) (lv' := [(1, .int (nI ll)), (0, .ref g0)]) rfl (fun ls hl => ?_)
    refine lv_iconst (v := nI 0) hx hb dM_barrier_15 (by decide) ?_
    refine lv_istore_n hx hb dM_barrier_16 rfl hl (by decide) (lv' := [(2, .int (nI 0)), (1, .int (nI ll)), (0, .ref g0)]) rfl (fun ls hl => ?_)
    refine lv_iconst (v := nI 0) hx hb dM_barrier_17 (by decide) ?_
    refine lv_istore_n hx hb dM_barrier_18 rfl hl (by decide) (lv' := [(3, .int (nI 0)), (2, .int (nI 0)), (1, .int (nI ll)), (0, .ref g0)]) rfl (fun ls hl => ?_)
    have L19 : ∀ (k9 : Nat) (i : Nat), k9 = n - i → i ≤ n → ∀ (ls : Array Slot), lv_has ls 6 [(3, .int (nI i)), (2, .int (nI (mBa lw5 hg5 ll i))), (1, .int (nI ll)), (0, .ref g0)] → ∀ (H : Heap) (locs : List Loc), va_P D vwCl [(g0, .inr (1, [.int (nI n), .ref b1, .int (nI 0), .ref b2, .ref b3, .ref b4, .ref b5])), (b1, .inl (cA, 64, .inl (fun j => nI (ed j)))), (b2, .inl (cA, 8, .inl (fun j => nI (lw5 j)))), (b3, .inl (cA, 8, .inl (fun j => nI (hg5 j)))), (b4, .inl (cA, 8, .inl (fun j => nI (od5 j)))), (b5, .inl (cA, 9, .inl (fun j => nI (ud5 j))))] H → va_D A [(g0, .inr (1, [.int (nI n), .ref b1, .int (nI 0), .ref b2, .ref b3, .ref b4, .ref b5])), (b1, .inl (cA, 64, .inl (fun j => nI (ed j)))), (b2, .inl (cA, 8, .inl (fun j => nI (lw5 j)))), (b3, .inl (cA, 8, .inl (fun j => nI (hg5 j)))), (b4, .inl (cA, 8, .inl (fun j => nI (od5 j)))), (b5, .inl (cA, 9, .inl (fun j => nI (ud5 j))))] → va_S A s.heap H locs → W p l e (headSpec (Cond.code yM_barrier cM_barrier 6 (some FieldType.int) :: bw) (rmL 5)).room s m ([.ref g0] : List Value).toArray below meth c H locs 0 0 (MQ below (va_Qi (fun r (u : (Nat → Nat) × (Nat → Nat) × (Nat → Nat) × (Nat → Nat)) => r = nI (mBa u.1 u.2.1 (mLo ed u.1 u.2.1 n x.2 (pcN (jBest (fun set => mAl ed set 0 n) (2 ^ n))) (2 ^ n)) n &&& ntN (mLo ed u.1 u.2.1 n x.2 (pcN (jBest (fun set => mAl ed set 0 n) (2 ^ n))) (2 ^ n))) ∧ MU n x u) (fun u => gW D vwCl A (mW9 g0 b1 b2 b3 b4 b5 cA n 0 ed u) [(cA, .int)]) A) ([.ref g0] : List Value).toArray s 0 0 A) (F0 m 19 ls []) := by
      intro k9
      induction k9 using Nat.strongRecOn with
      | _ k9 ih19 =>
        intro i hk9 hi9 ls hl H locs hP hD hS
        refine lv_iload_n hx hb dM_barrier_19 rfl (lv_at hl 0 rfl) ?_
        refine lv_aload_n hx hb dM_barrier_20 rfl (lv_at hl 3 rfl) ?_
        refine va_get (D := D) (ci := 1) (v := .int (nI n)) (C := RM) (T := TM) (N := 7) hx hb hw uM hown hK hP 0 rfl rfl 0 (by decide) (hw _ w2_98) (fun _ h9 => h9) rfl dM_barrier_21 ?_
        refine nv_icmp_ge (x := i) (y := n) (tgt := 85) hx hb dM_barrier_24 rfl (by omega) (by omega) (fun hc24 => ?_) (fun hc24 => ?_)
        · refine lv_iload_n hx hb dM_barrier_85 rfl (lv_at hl 1 rfl) ?_
          refine lv_iload_n hx hb dM_barrier_86 rfl (lv_at hl 2 rfl) ?_
          refine lv_iconst (v := nI 4294967295) hx hb dM_barrier_87 nb_m1 ?_
          refine nv_ixor (x := ll) (y := 4294967295) hx hb dM_barrier_88 ?_
          refine nv_iand (x := mBa lw5 hg5 ll i) (y := ll ^^^ 4294967295) hx hb dM_barrier_89 ?_
          exact W.iret (v := (nI ((mBa lw5 hg5 ll i) &&& (ll ^^^ 4294967295)))) hx hb hr (fun t ht hW => ⟨⟨_, (lw5, hg5, od5, ud5), rfl, ⟨by rw [hge, show i = n by omega]; rfl, hmu⟩, by rw [ht]; exact hP, va_K.moved hW.alike hK, hD⟩, hS.F ht⟩) hS.2.2 dM_barrier_90
        · have hq27 := hlt16 i hc24
          dsimp only at hq27
          refine lv_iconst (v := nI 1) hx hb dM_barrier_27 (by decide) ?_
          refine lv_aload_n hx hb dM_barrier_28 rfl (lv_at hl 3 rfl) ?_
          refine va_get (D := D) (ci := 1) (v := .ref b2) (C := RM) (T := TM) (N := 7) hx hb hw uM hown hK hP 0 rfl rfl 3 (by decide) (hw _ w2_101) (fun _ h9 => h9) rfl dM_barrier_29 ?_
          refine lv_iload_n hx hb dM_barrier_32 rfl (lv_at hl 0 rfl) ?_
          refine nv_iald (i := i) (f := lw5) hx hb hK hP 2 0 rfl rfl (by omega) (by omega) dM_barrier_33 ?_
          refine nv_ishl (y := lw5 i) hx hb dM_barrier_34 (by omega) ?_
          refine lv_istore hx hb dM_barrier_35 hl (by decide) (lv' := [(4, .int (nI (2 ^ (lw5 i)))), (3, .int (nI i)), (2, .int (nI (mBa lw5 hg5 ll i))), (1, .int (nI ll)), (0, .ref g0)]) rfl (fun ls hl => ?_)
          refine lv_iconst (v := nI 1) hx hb dM_barrier_37 (by decide) ?_
          refine lv_aload_n hx hb dM_barrier_38 rfl (lv_at hl 4 rfl) ?_
          refine va_get (D := D) (ci := 1) (v := .ref b3) (C := RM) (T := TM) (N := 7) hx hb hw uM hown hK hP 0 rfl rfl 4 (by decide) (hw _ w2_102) (fun _ h9 => h9) rfl dM_barrier_39 ?_
          refine lv_iload_n hx hb dM_barrier_42 rfl (lv_at hl 1 rfl) ?_
          refine nv_iald (i := i) (f := hg5) hx hb hK hP 3 0 rfl rfl (by omega) (by omega) dM_barrier_43 ?_
          refine nv_ishl (y := hg5 i) hx hb dM_barrier_44 (by omega) ?_
          refine lv_istore hx hb dM_barrier_45 hl (by decide) (lv' := [(5, .int (nI (2 ^ (hg5 i)))), (4, .int (nI (2 ^ (lw5 i)))), (3, .int (nI i)), (2, .int (nI (mBa lw5 hg5 ll i))), (1, .int (nI ll)), (0, .ref g0)]) rfl (fun ls hl => ?_)
          refine lv_iload_n hx hb dM_barrier_47 rfl (lv_at hl 4 rfl) ?_
          refine lv_iload hx hb dM_barrier_48 (lv_at hl 1 rfl) ?_
          refine nv_iand (x := ll) (y := 2 ^ (lw5 i)) hx hb dM_barrier_50 ?_
          have hq51 : ll &&& 2 ^ lw5 i < 65536 := and_lt hll
          refine nv_if_eq (x := ll &&& (2 ^ (lw5 i))) (tgt := 61) hx hb dM_barrier_51 rfl (by omega) (fun hc51 => ?_) (fun hc51 => ?_)
          · refine lv_iload_n hx hb dM_barrier_61 rfl (lv_at hl 3 rfl) ?_
            refine lv_istore_n hx hb dM_barrier_62 rfl hl (by decide) (lv' := [(2, .int (nI (mBa lw5 hg5 ll i))), (5, .int (nI (2 ^ (hg5 i)))), (4, .int (nI (2 ^ (lw5 i)))), (3, .int (nI i)), (1, .int (nI ll)), (0, .ref g0)]) rfl (fun ls hl => ?_)
            refine lv_iload_n hx hb dM_barrier_63 rfl (lv_at hl 4 rfl) ?_
            refine lv_iload hx hb dM_barrier_64 (lv_at hl 1 rfl) ?_
            refine nv_iand (x := ll) (y := 2 ^ (hg5 i)) hx hb dM_barrier_66 ?_
            have hq67 : ll &&& 2 ^ hg5 i < 65536 := and_lt hll
            refine nv_if_eq (x := ll &&& (2 ^ (hg5 i))) (tgt := 77) hx hb dM_barrier_67 rfl (by omega) (fun hc67 => ?_) (fun hc67 => ?_)
            · refine lv_iload_n hx hb dM_barrier_77 rfl (lv_at hl 0 rfl) ?_
              refine lv_istore_n hx hb dM_barrier_78 rfl hl (by decide) (lv' := [(2, .int (nI (mBa lw5 hg5 ll i))), (5, .int (nI (2 ^ (hg5 i)))), (4, .int (nI (2 ^ (lw5 i)))), (3, .int (nI i)), (1, .int (nI ll)), (0, .ref g0)]) rfl (fun ls hl => ?_)
              refine lv_iinc (k := 3) hx hb dM_barrier_79 hl rfl (nb_inc _) (by decide) (lv' := [(3, .int (nI (i + 1))), (2, .int (nI (mBa lw5 hg5 ll i))), (5, .int (nI (2 ^ (hg5 i)))), (4, .int (nI (2 ^ (lw5 i)))), (1, .int (nI ll)), (0, .ref g0)]) rfl (fun ls hl => ?_)
              refine lv_goto (tgt := 19) hx hb dM_barrier_82 rfl ?_
              have e9 : mBa lw5 hg5 ll (i + 1) = mBa lw5 hg5 ll i := by rw [mBa_s, if_pos hc67, if_pos hc51]
              have hl := lv_sub hl (l' := [(3, .int (nI (i + 1))), (2, .int (nI (mBa lw5 hg5 ll i))), (1, .int (nI ll)), (0, .ref g0)]) [0, 1, 4, 5] rfl
              have hl : lv_has ls 6 [(3, .int (nI (i + 1))), (2, .int (nI (mBa lw5 hg5 ll (i + 1)))), (1, .int (nI ll)), (0, .ref g0)] := by rw [e9]; exact hl
              exact ih19 _ (by omega) (i + 1) rfl (by omega) ls hl _ _ hP hD hS
            · refine lv_iload_n hx hb dM_barrier_70 rfl (lv_at hl 0 rfl) ?_
              refine lv_iload hx hb dM_barrier_71 (lv_at hl 2 rfl) ?_
              refine nv_ior (x := mBa lw5 hg5 ll i) (y := 2 ^ (lw5 i)) hx hb dM_barrier_73 ?_
              refine lv_goto (tgt := 78) hx hb dM_barrier_74 rfl ?_
              refine lv_istore_n hx hb dM_barrier_78 rfl hl (by decide) (lv' := [(2, .int (nI ((mBa lw5 hg5 ll i) ||| (2 ^ (lw5 i))))), (5, .int (nI (2 ^ (hg5 i)))), (4, .int (nI (2 ^ (lw5 i)))), (3, .int (nI i)), (1, .int (nI ll)), (0, .ref g0)]) rfl (fun ls hl => ?_)
              refine lv_iinc (k := 3) hx hb dM_barrier_79 hl rfl (nb_inc _) (by decide) (lv' := [(3, .int (nI (i + 1))), (2, .int (nI ((mBa lw5 hg5 ll i) ||| (2 ^ (lw5 i))))), (5, .int (nI (2 ^ (hg5 i)))), (4, .int (nI (2 ^ (lw5 i)))), (1, .int (nI ll)), (0, .ref g0)]) rfl (fun ls hl => ?_)
              refine lv_goto (tgt := 19) hx hb dM_barrier_82 rfl ?_
              have e9 : mBa lw5 hg5 ll (i + 1) = (mBa lw5 hg5 ll i) ||| 2 ^ lw5 i := by rw [mBa_s, if_neg hc67, if_pos hc51]
              have hl := lv_sub hl (l' := [(3, .int (nI (i + 1))), (2, .int (nI ((mBa lw5 hg5 ll i) ||| (2 ^ (lw5 i))))), (1, .int (nI ll)), (0, .ref g0)]) [0, 1, 4, 5] rfl
              have hl : lv_has ls 6 [(3, .int (nI (i + 1))), (2, .int (nI (mBa lw5 hg5 ll (i + 1)))), (1, .int (nI ll)), (0, .ref g0)] := by rw [e9]; exact hl
              exact ih19 _ (by omega) (i + 1) rfl (by omega) ls hl _ _ hP hD hS
          · refine lv_iload_n hx hb dM_barrier_54 rfl (lv_at hl 3 rfl) ?_
            refine lv_iload hx hb dM_barrier_55 (lv_at hl 0 rfl) ?_
            refine nv_ior (x := mBa lw5 hg5 ll i) (y := 2 ^ (hg5 i)) hx hb dM_barrier_57 ?_
            refine lv_goto (tgt := 62) hx hb dM_barrier_58 rfl ?_
            refine lv_istore_n hx hb dM_barrier_62 rfl hl (by decide) (lv' := [(2, .int (nI ((mBa lw5 hg5 ll i) ||| (2 ^ (hg5 i))))), (5, .int (nI (2 ^ (hg5 i)))), (4, .int (nI (2 ^ (lw5 i)))), (3, .int (nI i)), (1, .int (nI ll)), (0, .ref g0)]) rfl (fun ls hl => ?_)
            refine lv_iload_n hx hb dM_barrier_63 rfl (lv_at hl 4 rfl) ?_
            refine lv_iload hx hb dM_barrier_64 (lv_at hl 1 rfl) ?_
            refine nv_iand (x := ll) (y := 2 ^ (hg5 i)) hx hb dM_barrier_66 ?_
            have hq67 : ll &&& 2 ^ hg5 i < 65536 := and_lt hll
            refine nv_if_eq (x := ll &&& (2 ^ (hg5 i))) (tgt := 77) hx hb dM_barrier_67 rfl (by omega) (fun hc67 => ?_) (fun hc67 => ?_)
            · refine lv_iload_n hx hb dM_barrier_77 rfl (lv_at hl 0 rfl) ?_
              refine lv_istore_n hx hb dM_barrier_78 rfl hl (by decide) (lv' := [(2, .int (nI ((mBa lw5 hg5 ll i) ||| (2 ^ (hg5 i))))), (5, .int (nI (2 ^ (hg5 i)))), (4, .int (nI (2 ^ (lw5 i)))), (3, .int (nI i)), (1, .int (nI ll)), (0, .ref g0)]) rfl (fun ls hl => ?_)
              refine lv_iinc (k := 3) hx hb dM_barrier_79 hl rfl (nb_inc _) (by decide) (lv' := [(3, .int (nI (i + 1))), (2, .int (nI ((mBa lw5 hg5 ll i) ||| (2 ^ (hg5 i))))), (5, .int (nI (2 ^ (hg5 i)))), (4, .int (nI (2 ^ (lw5 i)))), (1, .int (nI ll)), (0, .ref g0)]) rfl (fun ls hl => ?_)
              refine lv_goto (tgt := 19) hx hb dM_barrier_82 rfl ?_
              have e9 : mBa lw5 hg5 ll (i + 1) = mBa lw5 hg5 ll i ||| 2 ^ hg5 i := by rw [mBa_s, if_pos hc67, if_neg hc51]
              have hl := lv_sub hl (l' := [(3, .int (nI (i + 1))), (2, .int (nI ((mBa lw5 hg5 ll i) ||| (2 ^ (hg5 i))))), (1, .int (nI ll)), (0, .ref g0)]) [0, 1, 4, 5] rfl
              have hl : lv_has ls 6 [(3, .int (nI (i + 1))), (2, .int (nI (mBa lw5 hg5 ll (i + 1)))), (1, .int (nI ll)), (0, .ref g0)] := by rw [e9]; exact hl
              exact ih19 _ (by omega) (i + 1) rfl (by omega) ls hl _ _ hP hD hS
            · refine lv_iload_n hx hb dM_barrier_70 rfl (lv_at hl 0 rfl) ?_
              refine lv_iload hx hb dM_barrier_71 (lv_at hl 2 rfl) ?_
              refine nv_ior (x := (mBa lw5 hg5 ll i) ||| (2 ^ (hg5 i))) (y := 2 ^ (lw5 i)) hx hb dM_barrier_73 ?_
              refine lv_goto (tgt := 78) hx hb dM_barrier_74 rfl ?_
              refine lv_istore_n hx hb dM_barrier_78 rfl hl (by decide) (lv' := [(2, .int (nI (((mBa lw5 hg5 ll i) ||| (2 ^ (hg5 i))) ||| (2 ^ (lw5 i))))), (5, .int (nI (2 ^ (hg5 i)))), (4, .int (nI (2 ^ (lw5 i)))), (3, .int (nI i)), (1, .int (nI ll)), (0, .ref g0)]) rfl (fun ls hl => ?_)
              refine lv_iinc (k := 3) hx hb dM_barrier_79 hl rfl (nb_inc _) (by decide) (lv' := [(3, .int (nI (i + 1))), (2, .int (nI (((mBa lw5 hg5 ll i) ||| (2 ^ (hg5 i))) ||| (2 ^ (lw5 i))))), (5, .int (nI (2 ^ (hg5 i)))), (4, .int (nI (2 ^ (lw5 i)))), (1, .int (nI ll)), (0, .ref g0)]) rfl (fun ls hl => ?_)
              refine lv_goto (tgt := 19) hx hb dM_barrier_82 rfl ?_
              have e9 : mBa lw5 hg5 ll (i + 1) = (mBa lw5 hg5 ll i ||| 2 ^ hg5 i) ||| 2 ^ lw5 i := by rw [mBa_s, if_neg hc67, if_neg hc51]
              have hl := lv_sub hl (l' := [(3, .int (nI (i + 1))), (2, .int (nI (((mBa lw5 hg5 ll i) ||| (2 ^ (hg5 i))) ||| (2 ^ (lw5 i))))), (1, .int (nI ll)), (0, .ref g0)]) [0, 1, 4, 5] rfl
              have hl : lv_has ls 6 [(3, .int (nI (i + 1))), (2, .int (nI (mBa lw5 hg5 ll (i + 1)))), (1, .int (nI ll)), (0, .ref g0)] := by rw [e9]; exact hl
              exact ih19 _ (by omega) (i + 1) rfl (by omega) ls hl _ _ hP hD hS
    exact L19 _ 0 rfl (Nat.zero_le _) ls hl _ _ hP hD hS
  · exact absurd hc5 (by decide)

set_option maxHeartbeats 4000000 in
set_option maxRecDepth 100000 in
theorem cM_spoiler_n (l : Launch) (D : va_G) (A : Nat → Prop) (g0 b1 b2 b3 b4 b5 : Nat) (cA : ClassId) (n ft : Nat) (ed lw hg od ud : Nat → Nat)  (hn : n ≤ 8)(hed1 : ∀ k, k < 64 → ed k ≤ 1)(x : List (Nat × Nat × Nat) × Nat) (hres : srN (fun v j => ed (8 * v + j)) (meN (2 ^ n - 1) n 0) [] 0 = some x) : Met l yM_spoiler (Cond.code yM_spoiler cM_spoiler 4 (some FieldType.int) :: bw) (rmL 5) (va_Pc [.ref g0] (gW D vwCl A [(g0, .inr (1, [.int (nI n), .ref b1, .int (nI ft), .ref b2, .ref b3, .ref b4, .ref b5])), (b1, .inl (cA, 64, .inl (fun j => nI (ed j)))), (b2, .inl (cA, 8, .inl (fun j => nI (lw j)))), (b3, .inl (cA, 8, .inl (fun j => nI (hg j)))), (b4, .inl (cA, 8, .inl (fun j => nI (od j)))), (b5, .inl (cA, 9, .inl (fun j => nI (ud j))))] [(cA, .int)])) (va_Qi (fun r (_ : (Nat → Nat) × (Nat → Nat) × (Nat → Nat) × (Nat → Nat)) => r = nI 0) (fun u => gW D vwCl A (mW9 g0 b1 b2 b3 b4 b5 cA n 1 ed u) [(cA, .int)]) A) 0 0 A := by
  refine Met.ofW (cc := cM_spoiler) (maxL := 4) (ret := (some FieldType.int)) (by decide) rfl ?_
  intro p e s m args below meth c s₁ B9 hml hv9
  obtain ⟨rfl, hP, hK, hD⟩ := hv9
  have hx := B9.exec
  have hb := B9.bytes
  have hr := B9.returns
  have hts := atoms_spec (ws := (Cond.code yM_spoiler cM_spoiler 4 (some FieldType.int) :: bw)) B9.pre
  have hw : ∀ w ∈ bw, w.before _ s = true := fun w h => hts w (List.mem_cons_of_mem _ h)
  have hown : s.vm.findClass RM = some m.cls := findClass_of_methodNamed B9.named
  have hlocks := B9.notSynchronized
  have hl := lv_entry ([.ref g0]) (n := 4) (Nat.le_of_ble_eq_true rfl)
  rw [lg_entry_eq]
  generalize (lg_sl ([.ref g0]) ++ List.replicate (4 - (lg_sl ([.ref g0])).length) Slot.unset).toArray = ls at hl ⊢
  have hl : lv_has ls 4 [(0, .ref g0)] := hl
  have hS : va_S A s.heap s.heap [] := va_S.rf
  have hp := pw_8 hn
  have hp0 := Nat.two_pow_pos n
  refine lv_aload_n hx hb dM_spoiler_0 rfl (lv_at hl 0 rfl) ?_
  refine lv_aload_n hx hb dM_spoiler_1 rfl (lv_at hl 0 rfl) ?_
  refine lv_aload_n hx hb dM_spoiler_2 rfl (lv_at hl 0 rfl) ?_
  refine nr_V (b := g0) (As := []) (C := RM) (rest := [.ref g0, .ref g0]) ⟨hx, hb, hml, hown, hw⟩ (cM_all_c l D A g0 b1 b2 b3 b4 b5 cA n ft ed lw hg od ud hn) (cwV 0 hw (gV w2_168 w2_170 w0_18 w1_2 w2_171) rfl rfl rfl ⟨rfl, by decide, by decide, by decide +kernel⟩ ⟨Nat.le_of_ble_eq_true rfl, Nat.le_of_ble_eq_true rfl⟩) gB_blind (va_recv (q0 := 0) (ci := 1) hK hP rfl rfl) (gB_at hP hK _) rfl hl.1 rfl (Nat.le_of_ble_eq_true rfl) dM_spoiler_3 ⟨Nat.zero_le _, Nat.zero_le _⟩ ?_
  refine va_calli (va_runV (C := RM) (As := [.int (nI (2 ^ n - 1))]) (rest := [.ref g0]) ⟨hx, hb, hml, hown, hw⟩ (cM_name_c l D A g0 b1 b2 b3 b4 b5 cA n ft ed lw hg od ud (2 ^ n - 1) hn hed1 (by omega)) (cwV 1 hw (gV w2_172 w2_174 w0_19 w1_2 w2_175) rfl rfl rfl ⟨rfl, by decide, by decide, by decide +kernel⟩ ⟨Nat.le_of_ble_eq_true rfl, Nat.le_of_ble_eq_true rfl⟩) ⟨gW_blind, va_recv (q0 := 0) (ci := 1) hK hP rfl rfl, gW_at hP hK hD _⟩ rfl rfl hl.1 rfl (lv_room (Nat.le_of_ble_eq_true rfl)) dM_spoiler_6 ⟨Nat.zero_le _, Nat.zero_le _⟩) hS (fun q _ h => h) (fun q h => h) (fun r9 u9 t9 H locs ht9 hvm9 hpost9 hB9 hz9 hk8 hS => ?_)
  obtain ⟨lw5, hg5, od5, ud5⟩ := u9
  obtain ⟨hP, -, hD⟩ := hB9
  rw [ht9] at hP
  obtain ⟨hr9, hud9, hpo9, hmem9⟩ := hpost9.2 x hres
  subst hr9
  have hmu := mu_of hud9 hpo9 hmem9
  obtain ⟨hx16, hlt16⟩ := mu_lt hn hres hmu
  have hP : va_P D vwCl [(g0, .inr (1, [.int (nI n), .ref b1, .int (nI ft), .ref b2, .ref b3, .ref b4, .ref b5])), (b1, .inl (cA, 64, .inl (fun j => nI (ed j)))), (b2, .inl (cA, 8, .inl (fun j => nI (lw5 j)))), (b3, .inl (cA, 8, .inl (fun j => nI (hg5 j)))), (b4, .inl (cA, 8, .inl (fun j => nI (od5 j)))), (b5, .inl (cA, 9, .inl (fun j => nI (ud5 j))))] H := hP
  have hD : va_D A [(g0, .inr (1, [.int (nI n), .ref b1, .int (nI ft), .ref b2, .ref b3, .ref b4, .ref b5])), (b1, .inl (cA, 64, .inl (fun j => nI (ed j)))), (b2, .inl (cA, 8, .inl (fun j => nI (lw5 j)))), (b3, .inl (cA, 8, .inl (fun j => nI (hg5 j)))), (b4, .inl (cA, 8, .inl (fun j => nI (od5 j)))), (b5, .inl (cA, 9, .inl (fun j => nI (ud5 j))))] := hD
  refine nv_if_lt (x := x.2) (tgt := 16) hx hb dM_spoiler_9 rfl (by omega) ?_
  refine lv_iconst (v := nI 1) hx hb dM_spoiler_12 (by decide) ?_
  refine lv_goto (tgt := 17) hx hb dM_spoiler_13 rfl ?_
  refine va_put (D := D) (ci := 1) (v := .int (nI 1)) (ty := .int) (C := RM) (T := TM) (N := 7) hx hb hw uM tyM tyM_ok nmM hown hK hP hD hS 0 rfl rfl 2 (by decide) (hw _ w2_100) (fun _ h9 => h9) rfl (by decide +kernel) rfl rfl (Nat.le_of_ble_eq_true rfl) dM_spoiler_17 (fun H locs hP hD hS => ?_)
  have hP : va_P D vwCl [(g0, .inr (1, [.int (nI n), .ref b1, .int (nI 1), .ref b2, .ref b3, .ref b4, .ref b5])), (b1, .inl (cA, 64, .inl (fun j => nI (ed j)))), (b2, .inl (cA, 8, .inl (fun j => nI (lw5 j)))), (b3, .inl (cA, 8, .inl (fun j => nI (hg5 j)))), (b4, .inl (cA, 8, .inl (fun j => nI (od5 j)))), (b5, .inl (cA, 9, .inl (fun j => nI (ud5 j))))] H := hP
  have hD : va_D A [(g0, .inr (1, [.int (nI n), .ref b1, .int (nI 1), .ref b2, .ref b3, .ref b4, .ref b5])), (b1, .inl (cA, 64, .inl (fun j => nI (ed j)))), (b2, .inl (cA, 8, .inl (fun j => nI (lw5 j)))), (b3, .inl (cA, 8, .inl (fun j => nI (hg5 j)))), (b4, .inl (cA, 8, .inl (fun j => nI (od5 j)))), (b5, .inl (cA, 9, .inl (fun j => nI (ud5 j))))] := hD
  refine lv_aload_n hx hb dM_spoiler_20 rfl (lv_at hl 0 rfl) ?_
  refine va_get (D := D) (ci := 1) (v := .int (nI 1)) (C := RM) (T := TM) (N := 7) hx hb hw uM hown hK hP 0 rfl rfl 2 (by decide) (hw _ w2_100) (fun _ h9 => h9) rfl dM_spoiler_21 ?_
  refine nv_if_le (x := 1) (tgt := 29) hx hb dM_spoiler_24 rfl (by omega) (fun hc24 => ?_) (fun hc24 => ?_)
  · exact absurd hc24 (by omega)
  · refine lv_iconst (v := nI 0) hx hb dM_spoiler_27 (by decide) ?_
    exact W.iret (v := (nI 0)) hx hb hr (fun t ht hW => ⟨⟨_, (lw5, hg5, od5, ud5), rfl, rfl, by rw [ht]; exact hP, va_K.moved hW.alike hK, hD⟩, hS.F ht⟩) hS.2.2 dM_spoiler_28

set_option maxHeartbeats 4000000 in
set_option maxRecDepth 100000 in
theorem cM_spoiler_y (l : Launch) (D : va_G) (A : Nat → Prop) (g0 b1 b2 b3 b4 b5 : Nat) (cA : ClassId) (n ft : Nat) (ed lw hg od ud : Nat → Nat)  (hn : n ≤ 8)(hed1 : ∀ k, k < 64 → ed k ≤ 1)(hres : srN (fun v j => ed (8 * v + j)) (meN (2 ^ n - 1) n 0) [] 0 = none) : Met l yM_spoiler (Cond.code yM_spoiler cM_spoiler 4 (some FieldType.int) :: bw) (rmL 5) (va_Pc [.ref g0] (gW D vwCl A [(g0, .inr (1, [.int (nI n), .ref b1, .int (nI ft), .ref b2, .ref b3, .ref b4, .ref b5])), (b1, .inl (cA, 64, .inl (fun j => nI (ed j)))), (b2, .inl (cA, 8, .inl (fun j => nI (lw j)))), (b3, .inl (cA, 8, .inl (fun j => nI (hg j)))), (b4, .inl (cA, 8, .inl (fun j => nI (od j)))), (b5, .inl (cA, 9, .inl (fun j => nI (ud j))))] [(cA, .int)])) (va_Qi (fun r (_ : (Nat → Nat) × (Nat → Nat) × (Nat → Nat) × (Nat → Nat)) => r = nI (jSp (isL (fun v j => ed (8 * v + j)) n) (2 ^ n - 1) n)) (fun u => gW D vwCl A (mW9 g0 b1 b2 b3 b4 b5 cA n 0 ed u) [(cA, .int)]) A) 0 0 A := by
  refine Met.ofW (cc := cM_spoiler) (maxL := 4) (ret := (some FieldType.int)) (by decide) rfl ?_
  intro p e s m args below meth c s₁ B9 hml hv9
  obtain ⟨rfl, hP, hK, hD⟩ := hv9
  have hx := B9.exec
  have hb := B9.bytes
  have hr := B9.returns
  have hts := atoms_spec (ws := (Cond.code yM_spoiler cM_spoiler 4 (some FieldType.int) :: bw)) B9.pre
  have hw : ∀ w ∈ bw, w.before _ s = true := fun w h => hts w (List.mem_cons_of_mem _ h)
  have hown : s.vm.findClass RM = some m.cls := findClass_of_methodNamed B9.named
  have hlocks := B9.notSynchronized
  have hl := lv_entry ([.ref g0]) (n := 4) (Nat.le_of_ble_eq_true rfl)
  rw [lg_entry_eq]
  generalize (lg_sl ([.ref g0]) ++ List.replicate (4 - (lg_sl ([.ref g0])).length) Slot.unset).toArray = ls at hl ⊢
  have hl : lv_has ls 4 [(0, .ref g0)] := hl
  have hS : va_S A s.heap s.heap [] := va_S.rf
  have hp := pw_8 hn
  have hp0 := Nat.two_pow_pos n
  refine lv_aload_n hx hb dM_spoiler_0 rfl (lv_at hl 0 rfl) ?_
  refine lv_aload_n hx hb dM_spoiler_1 rfl (lv_at hl 0 rfl) ?_
  refine lv_aload_n hx hb dM_spoiler_2 rfl (lv_at hl 0 rfl) ?_
  refine nr_V (b := g0) (As := []) (C := RM) (rest := [.ref g0, .ref g0]) ⟨hx, hb, hml, hown, hw⟩ (cM_all_c l D A g0 b1 b2 b3 b4 b5 cA n ft ed lw hg od ud hn) (cwV 0 hw (gV w2_168 w2_170 w0_18 w1_2 w2_171) rfl rfl rfl ⟨rfl, by decide, by decide, by decide +kernel⟩ ⟨Nat.le_of_ble_eq_true rfl, Nat.le_of_ble_eq_true rfl⟩) gB_blind (va_recv (q0 := 0) (ci := 1) hK hP rfl rfl) (gB_at hP hK _) rfl hl.1 rfl (Nat.le_of_ble_eq_true rfl) dM_spoiler_3 ⟨Nat.zero_le _, Nat.zero_le _⟩ ?_
  refine va_calli (va_runV (C := RM) (As := [.int (nI (2 ^ n - 1))]) (rest := [.ref g0]) ⟨hx, hb, hml, hown, hw⟩ (cM_name_c l D A g0 b1 b2 b3 b4 b5 cA n ft ed lw hg od ud (2 ^ n - 1) hn hed1 (by omega)) (cwV 1 hw (gV w2_172 w2_174 w0_19 w1_2 w2_175) rfl rfl rfl ⟨rfl, by decide, by decide, by decide +kernel⟩ ⟨Nat.le_of_ble_eq_true rfl, Nat.le_of_ble_eq_true rfl⟩) ⟨gW_blind, va_recv (q0 := 0) (ci := 1) hK hP rfl rfl, gW_at hP hK hD _⟩ rfl rfl hl.1 rfl (lv_room (Nat.le_of_ble_eq_true rfl)) dM_spoiler_6 ⟨Nat.zero_le _, Nat.zero_le _⟩) hS (fun q _ h => h) (fun q h => h) (fun r9 u9 t9 H locs ht9 hvm9 hpost9 hB9 hz9 hk8 hS => ?_)
  obtain ⟨lw5, hg5, od5, ud5⟩ := u9
  obtain ⟨hP, -, hD⟩ := hB9
  rw [ht9] at hP
  have hr9 := hpost9.1 hres
  subst hr9
  have hP : va_P D vwCl [(g0, .inr (1, [.int (nI n), .ref b1, .int (nI ft), .ref b2, .ref b3, .ref b4, .ref b5])), (b1, .inl (cA, 64, .inl (fun j => nI (ed j)))), (b2, .inl (cA, 8, .inl (fun j => nI (lw5 j)))), (b3, .inl (cA, 8, .inl (fun j => nI (hg5 j)))), (b4, .inl (cA, 8, .inl (fun j => nI (od5 j)))), (b5, .inl (cA, 9, .inl (fun j => nI (ud5 j))))] H := hP
  have hD : va_D A [(g0, .inr (1, [.int (nI n), .ref b1, .int (nI ft), .ref b2, .ref b3, .ref b4, .ref b5])), (b1, .inl (cA, 64, .inl (fun j => nI (ed j)))), (b2, .inl (cA, 8, .inl (fun j => nI (lw5 j)))), (b3, .inl (cA, 8, .inl (fun j => nI (hg5 j)))), (b4, .inl (cA, 8, .inl (fun j => nI (od5 j)))), (b5, .inl (cA, 9, .inl (fun j => nI (ud5 j))))] := hD
  refine lv_if_lt (tgt := 16) hx hb dM_spoiler_9 rfl (fun hc9 => ?_) (fun hc9 => ?_)
  · refine lv_iconst (v := nI 0) hx hb dM_spoiler_16 (by decide) ?_
    refine va_put (D := D) (ci := 1) (v := .int (nI 0)) (ty := .int) (C := RM) (T := TM) (N := 7) hx hb hw uM tyM tyM_ok nmM hown hK hP hD hS 0 rfl rfl 2 (by decide) (hw _ w2_100) (fun _ h9 => h9) rfl (by decide +kernel) rfl rfl (Nat.le_of_ble_eq_true rfl) dM_spoiler_17 (fun H locs hP hD hS => ?_)
    have hP : va_P D vwCl [(g0, .inr (1, [.int (nI n), .ref b1, .int (nI 0), .ref b2, .ref b3, .ref b4, .ref b5])), (b1, .inl (cA, 64, .inl (fun j => nI (ed j)))), (b2, .inl (cA, 8, .inl (fun j => nI (lw5 j)))), (b3, .inl (cA, 8, .inl (fun j => nI (hg5 j)))), (b4, .inl (cA, 8, .inl (fun j => nI (od5 j)))), (b5, .inl (cA, 9, .inl (fun j => nI (ud5 j))))] H := hP
    have hD : va_D A [(g0, .inr (1, [.int (nI n), .ref b1, .int (nI 0), .ref b2, .ref b3, .ref b4, .ref b5])), (b1, .inl (cA, 64, .inl (fun j => nI (ed j)))), (b2, .inl (cA, 8, .inl (fun j => nI (lw5 j)))), (b3, .inl (cA, 8, .inl (fun j => nI (hg5 j)))), (b4, .inl (cA, 8, .inl (fun j => nI (od5 j)))), (b5, .inl (cA, 9, .inl (fun j => nI (ud5 j))))] := hD
    refine lv_aload_n hx hb dM_spoiler_20 rfl (lv_at hl 0 rfl) ?_
    refine va_get (D := D) (ci := 1) (v := .int (nI 0)) (C := RM) (T := TM) (N := 7) hx hb hw uM hown hK hP 0 rfl rfl 2 (by decide) (hw _ w2_100) (fun _ h9 => h9) rfl dM_spoiler_21 ?_
    refine nv_if_le (x := 0) (tgt := 29) hx hb dM_spoiler_24 rfl (by omega) (fun hc24 => ?_) (fun hc24 => ?_)
    · refine lv_aload_n hx hb dM_spoiler_29 rfl (lv_at hl 0 rfl) ?_
      refine nr_V (b := g0) (As := []) (C := RM) (rest := []) ⟨hx, hb, hml, hown, hw⟩ (cM_all_c l D A g0 b1 b2 b3 b4 b5 cA n 0 ed lw5 hg5 od5 ud5 hn) (cwV 0 hw (gV w2_168 w2_170 w0_18 w1_2 w2_171) rfl rfl rfl ⟨rfl, by decide, by decide, by decide +kernel⟩ ⟨Nat.le_of_ble_eq_true rfl, Nat.le_of_ble_eq_true rfl⟩) gB_blind (va_recv (q0 := 0) (ci := 1) hK hP rfl rfl) (gB_at hP hK _) rfl hl.1 rfl (Nat.le_of_ble_eq_true rfl) dM_spoiler_30 ⟨Nat.zero_le _, Nat.zero_le _⟩ ?_
      refine lv_istore_n hx hb dM_spoiler_33 rfl hl (by decide) (lv' := [(1, .int (nI (2 ^ n - 1))), (0, .ref g0)]) rfl (fun ls hl => ?_)
      refine lv_iconst (v := nI 0) hx hb dM_spoiler_34 (by decide) ?_
      refine lv_istore_n hx hb dM_spoiler_35 rfl hl (by decide) (lv' := [(2, .int (nI 0)), (1, .int (nI (2 ^ n - 1))), (0, .ref g0)]) rfl (fun ls hl => ?_)
      have L36 : ∀ (k9 : Nat) (i : Nat) (lw1 : Nat → Nat) (hg1 : Nat → Nat) (od1 : Nat → Nat) (ud1 : Nat → Nat), k9 = n - i → i ≤ n → ∀ (ls : Array Slot), lv_has ls 4 [(2, .int (nI i)), (1, .int (nI (jSp (isL (fun v j => ed (8 * v + j)) n) (2 ^ n - 1) i))), (0, .ref g0)] → ∀ (H : Heap) (locs : List Loc), va_P D vwCl [(g0, .inr (1, [.int (nI n), .ref b1, .int (nI 0), .ref b2, .ref b3, .ref b4, .ref b5])), (b1, .inl (cA, 64, .inl (fun j => nI (ed j)))), (b2, .inl (cA, 8, .inl (fun j => nI (lw1 j)))), (b3, .inl (cA, 8, .inl (fun j => nI (hg1 j)))), (b4, .inl (cA, 8, .inl (fun j => nI (od1 j)))), (b5, .inl (cA, 9, .inl (fun j => nI (ud1 j))))] H → va_D A [(g0, .inr (1, [.int (nI n), .ref b1, .int (nI 0), .ref b2, .ref b3, .ref b4, .ref b5])), (b1, .inl (cA, 64, .inl (fun j => nI (ed j)))), (b2, .inl (cA, 8, .inl (fun j => nI (lw1 j)))), (b3, .inl (cA, 8, .inl (fun j => nI (hg1 j)))), (b4, .inl (cA, 8, .inl (fun j => nI (od1 j)))), (b5, .inl (cA, 9, .inl (fun j => nI (ud1 j))))] → va_S A s.heap H locs → W p l e (headSpec (Cond.code yM_spoiler cM_spoiler 4 (some FieldType.int) :: bw) (rmL 5)).room s m ([.ref g0] : List Value).toArray below meth c H locs 0 0 (MQ below (va_Qi (fun r (_ : (Nat → Nat) × (Nat → Nat) × (Nat → Nat) × (Nat → Nat)) => r = nI (jSp (isL (fun v j => ed (8 * v + j)) n) (2 ^ n - 1) n)) (fun u => gW D vwCl A (mW9 g0 b1 b2 b3 b4 b5 cA n 0 ed u) [(cA, .int)]) A) ([.ref g0] : List Value).toArray s 0 0 A) (F0 m 36 ls []) := by
        intro k9
        induction k9 using Nat.strongRecOn with
        | _ k9 ih36 =>
          intro i lw1 hg1 od1 ud1 hk9 hi9 ls hl H locs hP hD hS
          refine lv_iload_n hx hb dM_spoiler_36 rfl (lv_at hl 0 rfl) ?_
          refine lv_aload_n hx hb dM_spoiler_37 rfl (lv_at hl 2 rfl) ?_
          refine va_get (D := D) (ci := 1) (v := .int (nI n)) (C := RM) (T := TM) (N := 7) hx hb hw uM hown hK hP 0 rfl rfl 0 (by decide) (hw _ w2_98) (fun _ h9 => h9) rfl dM_spoiler_38 ?_
          refine nv_icmp_ge (x := i) (y := n) (tgt := 72) hx hb dM_spoiler_41 rfl (by omega) (by omega) (fun hc41 => ?_) (fun hc41 => ?_)
          · refine lv_iload_n hx hb dM_spoiler_72 rfl (lv_at hl 1 rfl) ?_
            exact W.iret (v := (nI (jSp (isL (fun v j => ed (8 * v + j)) n) (2 ^ n - 1) i))) hx hb hr (fun t ht hW => ⟨⟨_, (lw1, hg1, od1, ud1), rfl, by rw [show i = n by omega], by rw [ht]; exact hP, va_K.moved hW.alike hK, hD⟩, hS.F ht⟩) hS.2.2 dM_spoiler_73
          · have hq33 := jSp_lt (L := isL (fun v j => ed (8 * v + j)) n) (a := 2 ^ n - 1) (N := 256) (by omega) i
            have hq34 : jSp (isL (fun v j => ed (8 * v + j)) n) (2 ^ n - 1) i &&& (2 ^ i ^^^ 4294967295) < 256 := and_lt hq33
            refine lv_iload_n hx hb dM_spoiler_44 rfl (lv_at hl 1 rfl) ?_
            refine lv_iconst (v := nI 1) hx hb dM_spoiler_45 (by decide) ?_
            refine lv_iload_n hx hb dM_spoiler_46 rfl (lv_at hl 0 rfl) ?_
            refine nv_ishl (y := i) hx hb dM_spoiler_47 (by omega) ?_
            refine lv_iconst (v := nI 4294967295) hx hb dM_spoiler_48 nb_m1 ?_
            refine nv_ixor (x := 2 ^ i) (y := 4294967295) hx hb dM_spoiler_49 ?_
            refine nv_iand (x := jSp (isL (fun v j => ed (8 * v + j)) n) (2 ^ n - 1) i) (y := (2 ^ i) ^^^ 4294967295) hx hb dM_spoiler_50 ?_
            refine lv_istore_n hx hb dM_spoiler_51 rfl hl (by decide) (lv' := [(3, .int (nI ((jSp (isL (fun v j => ed (8 * v + j)) n) (2 ^ n - 1) i) &&& ((2 ^ i) ^^^ 4294967295)))), (2, .int (nI i)), (1, .int (nI (jSp (isL (fun v j => ed (8 * v + j)) n) (2 ^ n - 1) i))), (0, .ref g0)]) rfl (fun ls hl => ?_)
            refine lv_aload_n hx hb dM_spoiler_52 rfl (lv_at hl 3 rfl) ?_
            refine lv_iload_n hx hb dM_spoiler_53 rfl (lv_at hl 0 rfl) ?_
            refine va_calli (va_runV (C := RM) (As := [.int (nI ((jSp (isL (fun v j => ed (8 * v + j)) n) (2 ^ n - 1) i) &&& ((2 ^ i) ^^^ 4294967295)))]) (rest := []) ⟨hx, hb, hml, hown, hw⟩ (cM_name_c l D A g0 b1 b2 b3 b4 b5 cA n 0 ed lw1 hg1 od1 ud1 ((jSp (isL (fun v j => ed (8 * v + j)) n) (2 ^ n - 1) i) &&& ((2 ^ i) ^^^ 4294967295)) hn hed1 (by omega)) (cwV 1 hw (gV w2_172 w2_174 w0_19 w1_2 w2_175) rfl rfl rfl ⟨rfl, by decide, by decide, by decide +kernel⟩ ⟨Nat.le_of_ble_eq_true rfl, Nat.le_of_ble_eq_true rfl⟩) ⟨gW_blind, va_recv (q0 := 0) (ci := 1) hK hP rfl rfl, gW_at hP hK hD _⟩ rfl rfl hl.1 rfl (lv_room (Nat.le_of_ble_eq_true rfl)) dM_spoiler_54 ⟨Nat.zero_le _, Nat.zero_le _⟩) hS (fun q _ h => h) (fun q h => h) (fun r9 u9 t9 H locs ht9 hvm9 hpost9 hB9 hz9 hk8 hS => ?_)
            obtain ⟨lw6, hg6, od6, ud6⟩ := u9
            obtain ⟨hP, -, hD⟩ := hB9
            rw [ht9] at hP
            have hP : va_P D vwCl [(g0, .inr (1, [.int (nI n), .ref b1, .int (nI 0), .ref b2, .ref b3, .ref b4, .ref b5])), (b1, .inl (cA, 64, .inl (fun j => nI (ed j)))), (b2, .inl (cA, 8, .inl (fun j => nI (lw6 j)))), (b3, .inl (cA, 8, .inl (fun j => nI (hg6 j)))), (b4, .inl (cA, 8, .inl (fun j => nI (od6 j)))), (b5, .inl (cA, 9, .inl (fun j => nI (ud6 j))))] H := hP
            have hD : va_D A [(g0, .inr (1, [.int (nI n), .ref b1, .int (nI 0), .ref b2, .ref b3, .ref b4, .ref b5])), (b1, .inl (cA, 64, .inl (fun j => nI (ed j)))), (b2, .inl (cA, 8, .inl (fun j => nI (lw6 j)))), (b3, .inl (cA, 8, .inl (fun j => nI (hg6 j)))), (b4, .inl (cA, 8, .inl (fun j => nI (od6 j)))), (b5, .inl (cA, 9, .inl (fun j => nI (ud6 j))))] := hD
            rcases hx6 : srN (fun v j => ed (8 * v + j)) (meN (jSp (isL (fun v j => ed (8 * v + j)) n) (2 ^ n - 1) i &&& (2 ^ i ^^^ 4294967295)) n 0) [] 0 with _ | x6
            · have hr9 := hpost9.1 hx6
              subst hr9
              refine lv_if_ge (tgt := 64) hx hb dM_spoiler_57 rfl (fun hc57 => ?_) (fun hc57 => ?_)
              · exact absurd hc57 (by decide)
              · refine lv_iload_n hx hb dM_spoiler_60 rfl (lv_at hl 0 rfl) ?_
                refine lv_goto (tgt := 65) hx hb dM_spoiler_61 rfl ?_
                refine lv_istore_n hx hb dM_spoiler_65 rfl hl (by decide) (lv' := [(1, .int (nI ((jSp (isL (fun v j => ed (8 * v + j)) n) (2 ^ n - 1) i) &&& ((2 ^ i) ^^^ 4294967295)))), (3, .int (nI ((jSp (isL (fun v j => ed (8 * v + j)) n) (2 ^ n - 1) i) &&& ((2 ^ i) ^^^ 4294967295)))), (2, .int (nI i)), (0, .ref g0)]) rfl (fun ls hl => ?_)
                refine lv_iinc (k := 2) hx hb dM_spoiler_66 hl rfl (nb_inc _) (by decide) (lv' := [(2, .int (nI (i + 1))), (1, .int (nI ((jSp (isL (fun v j => ed (8 * v + j)) n) (2 ^ n - 1) i) &&& ((2 ^ i) ^^^ 4294967295)))), (3, .int (nI ((jSp (isL (fun v j => ed (8 * v + j)) n) (2 ^ n - 1) i) &&& ((2 ^ i) ^^^ 4294967295)))), (0, .ref g0)]) rfl (fun ls hl => ?_)
                refine lv_goto (tgt := 36) hx hb dM_spoiler_69 rfl ?_
                have e9 : jSp (isL (fun v j => ed (8 * v + j)) n) (2 ^ n - 1) (i + 1) = jSp (isL (fun v j => ed (8 * v + j)) n) (2 ^ n - 1) i &&& ntN (2 ^ i) := if_neg (by show ¬ (srN (fun v j => ed (8 * v + j)) (meN (jSp (isL (fun v j => ed (8 * v + j)) n) (2 ^ n - 1) i &&& (2 ^ i ^^^ 4294967295)) n 0) [] 0).isSome = true; rw [hx6]; exact Bool.false_ne_true)
                have hl := lv_sub hl (l' := [(2, .int (nI (i + 1))), (1, .int (nI ((jSp (isL (fun v j => ed (8 * v + j)) n) (2 ^ n - 1) i) &&& ((2 ^ i) ^^^ 4294967295)))), (0, .ref g0)]) [0, 1, 3] rfl
                have hl : lv_has ls 4 [(2, .int (nI (i + 1))), (1, .int (nI (jSp (isL (fun v j => ed (8 * v + j)) n) (2 ^ n - 1) (i + 1)))), (0, .ref g0)] := by rw [e9]; exact hl
                exact ih36 _ (by omega) (i + 1) lw6 hg6 od6 ud6 rfl (by omega) ls hl _ _ hP hD hS
            · have hr9 := (hpost9.2 _ hx6).1
              subst hr9
              have hx16 := (sr_bound hx6).2.2.2.1
              have hx17 := me_len (set := jSp (isL (fun v j => ed (8 * v + j)) n) (2 ^ n - 1) i &&& (2 ^ i ^^^ 4294967295)) (k := n) (v := 0)
              refine nv_if_ge (x := x6.2) (tgt := 64) hx hb dM_spoiler_57 rfl (by omega) ?_
              refine lv_iload_n hx hb dM_spoiler_64 rfl (lv_at hl 2 rfl) ?_
              refine lv_istore_n hx hb dM_spoiler_65 rfl hl (by decide) (lv' := [(1, .int (nI (jSp (isL (fun v j => ed (8 * v + j)) n) (2 ^ n - 1) i))), (3, .int (nI ((jSp (isL (fun v j => ed (8 * v + j)) n) (2 ^ n - 1) i) &&& ((2 ^ i) ^^^ 4294967295)))), (2, .int (nI i)), (0, .ref g0)]) rfl (fun ls hl => ?_)
              refine lv_iinc (k := 2) hx hb dM_spoiler_66 hl rfl (nb_inc _) (by decide) (lv' := [(2, .int (nI (i + 1))), (1, .int (nI (jSp (isL (fun v j => ed (8 * v + j)) n) (2 ^ n - 1) i))), (3, .int (nI ((jSp (isL (fun v j => ed (8 * v + j)) n) (2 ^ n - 1) i) &&& ((2 ^ i) ^^^ 4294967295)))), (0, .ref g0)]) rfl (fun ls hl => ?_)
              refine lv_goto (tgt := 36) hx hb dM_spoiler_69 rfl ?_
              have e9 : jSp (isL (fun v j => ed (8 * v + j)) n) (2 ^ n - 1) (i + 1) = jSp (isL (fun v j => ed (8 * v + j)) n) (2 ^ n - 1) i := if_pos (by show (srN (fun v j => ed (8 * v + j)) (meN (jSp (isL (fun v j => ed (8 * v + j)) n) (2 ^ n - 1) i &&& (2 ^ i ^^^ 4294967295)) n 0) [] 0).isSome = true; rw [hx6]; rfl)
              have hl := lv_sub hl (l' := [(2, .int (nI (i + 1))), (1, .int (nI (jSp (isL (fun v j => ed (8 * v + j)) n) (2 ^ n - 1) i))), (0, .ref g0)]) [0, 1, 3] rfl
              have hl : lv_has ls 4 [(2, .int (nI (i + 1))), (1, .int (nI (jSp (isL (fun v j => ed (8 * v + j)) n) (2 ^ n - 1) (i + 1)))), (0, .ref g0)] := by rw [e9]; exact hl
              exact ih36 _ (by omega) (i + 1) lw6 hg6 od6 ud6 rfl (by omega) ls hl _ _ hP hD hS
      exact L36 _ 0 lw5 hg5 od5 ud5 rfl (Nat.zero_le _) ls hl _ _ hP hD hS
    · exact absurd hc24 (by omega)
  · exact absurd (by decide) hc9
