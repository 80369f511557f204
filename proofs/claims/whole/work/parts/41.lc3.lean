section LC
variable {p : Program} {l : Launch} {e : Env} {s : State} {m : MethodId} {below : List Frame} {meth : Method} {c : Code} {Q : State → Prop} {cells slots : Nat} {D : va_G} {H : Heap} {locs : List Loc} {ls : Array Slot}
variable {h a1 a2 a3 a4 o g0 b1 b2 b3 b4 b5 b L i : Nat} {cA cL : ClassId} {xs : Nat → Int32}
variable {n ft : Nat} {nb ed : Nat → Nat} {u : hU} {um : UM}

set_option maxHeartbeats 4000000 in
set_option maxRecDepth 100000 in
theorem lc_spoiler_y (F : LFix p l s m c b L xs D cA cL h a1 a2 a3 a4 o g0 b1 b2 b3 b4 b5) (T : LSt s D cA cL h a1 a2 a3 a4 o g0 b1 b2 b3 b4 b5 n nb u ft ed um H locs) (hi : i + 2 < L) (hc : cells + 1 ≤ 667068) (hs : slots + 6 ≤ 7094901) (kk : LK p l e room_1 s m below meth c Q D cA cL b h a1 a2 a3 a4 o g0 b1 b2 b3 b4 b5 i (cells + 1) (slots + 6)) (hl : lv_has ls 7 [(0, .ref b), (1, .ref h), (2, .ref g0), (3, .ref o), (4, .int (nI i))]) (hres : srN (fun v j => ed (8 * v + j)) (meN (2 ^ n - 1) n 0) [] 0 = none) : W p l e room_1 s m #[Value.ref b] below meth c H locs cells slots Q (F0 m 664 ls []) := by
  have hx := F.hx
  have hb := F.hb
  have hw := F.hw
  have hn := T.R.1
  have hnb := rel_lt T.R
  have hed1 := T.R.2.1
  have hed := rel_e9 T.R
  have hc0 : cells ≤ 667068 := by omega
  have hs0 : slots ≤ 7094901 := by omega
  have P1 := T.P1
  have P2 := T.P2
  have S := T.S
  refine lv_aload_n hx hb dL_law_664 rfl (lv_at hl 1 rfl) ?_
  refine lv_aload_n hx hb dL_law_665 rfl (lv_at hl 3 rfl) ?_
  refine lw_help (k9 := 2) (rest := []) (As := [.ref h, .ref o]) F P1 P2 S (hL_spoiler_y l D (xo h a1 a2 a3 a4 o) h a1 a2 a3 a4 o cA cL n nb u (fun v j => ed (8 * v + j)) hn hnb hed hres) w2_59 w2_57 w2_58 w1_0 ⟨by decide, by decide, by decide +kernel⟩ ⟨Nat.le_of_ble_eq_true rfl, Nat.le_of_ble_eq_true rfl⟩ rfl hl.1 rfl (Nat.le_of_ble_eq_true rfl) dL_law_666 ⟨hc, hs⟩ (fun r9 w9 H locs hpost9 P1 P2 S => ?_)
  obtain ⟨hr9, hval⟩ := hpost9
  subst hr9
  refine lv_istore hx hb dL_law_669 hl (by decide) (lv' := [(5, .int (nI 0)), (0, .ref b), (1, .ref h), (2, .ref g0), (3, .ref o), (4, .int (nI i))]) rfl (fun ls hl => ?_)
  refine lv_aload_n hx hb dL_law_671 rfl (lv_at hl 3 rfl) ?_
  refine lw_mod (rest := []) (As := []) (fun w => w) F P1 P2 S (cM_spoiler_y l D (mA g0 b1 b2 b3 b4 b5) g0 b1 b2 b3 b4 b5 cA n ft ed um.1 um.2.1 um.2.2.1 um.2.2.2 hn hed1 hres) (fun _ _ h9 => h9) (cwV 0 hw (gV w2_208 w2_209 w2_210 w1_2 w2_211) rfl rfl rfl ⟨rfl, by decide, by decide, by decide +kernel⟩ ⟨Nat.le_of_ble_eq_true rfl, Nat.le_of_ble_eq_true rfl⟩) rfl hl.1 rfl (Nat.le_of_ble_eq_true rfl) dL_law_672 ⟨hc, hs⟩ (fun r8 w8 H locs hpost8 P1 P2 S => ?_)
  subst hpost8
  refine lv_istore hx hb dL_law_675 hl (by decide) (lv' := [(6, .int (nI (jSp (isL (fun v j => ed (8 * v + j)) n) (2 ^ n - 1) n))), (5, .int (nI 0)), (0, .ref b), (1, .ref h), (2, .ref g0), (3, .ref o), (4, .int (nI i))]) rfl (fun ls hl => ?_)
  refine lv_aload_n hx hb dL_law_677 rfl (lv_at hl 4 rfl) ?_
  refine nr_V (b := g0) (As := []) (C := RM) (rest := []) ⟨hx, hb, F.hml, F.hown, hw⟩ (cM_thrown_c l D (mA g0 b1 b2 b3 b4 b5) g0 b1 b2 b3 b4 b5 cA n 0 ed w8.1 w8.2.1 w8.2.2.1 w8.2.2.2) (cwV 0 hw (gV w2_120 w2_121 w2_122 w1_2 w2_123) rfl rfl rfl ⟨rfl, by decide, by decide, by decide +kernel⟩ ⟨Nat.le_of_ble_eq_true rfl, Nat.le_of_ble_eq_true rfl⟩) gB_blind (va_recv (q0 := 0) (ci := 1) F.Km P2 rfl rfl) (gB_at P2 F.Km _) rfl hl.1 rfl (Nat.le_of_ble_eq_true rfl) dL_law_678 ⟨hc, hs⟩ ?_
  refine lv_iload hx hb dL_law_681 (lv_at hl 1 rfl) ?_
  refine lv_icmp_eq (tgt := 688) hx hb dL_law_683 rfl (fun _ => ?_) (fun h9 => absurd rfl h9)
  refine lv_iload hx hb dL_law_688 (lv_at hl 1 rfl) ?_
  refine nv_if_ne (x := 0) (tgt := 705) hx hb dL_law_690 rfl (by decide) (fun h9 => absurd rfl h9) (fun _ => ?_)
  have e9 := hval
  refine lv_aload_n hx hb dL_law_693 rfl (lv_at hl 5 rfl) ?_
  refine lv_iconst (v := nI 0) hx hb dL_law_694 (by decide) ?_
  refine nv_lald (f := w9.2) hx hb F.hK P1 5 1 rfl rfl dL_law_695 ?_
  refine lv_iload hx hb dL_law_696 (lv_at hl 0 rfl) ?_
  refine lv_i2l (v := (nI (jSp (isL (fun v j => ed (8 * v + j)) n) (2 ^ n - 1) n) : Int32).toInt64) hx hb dL_law_698 rfl ?_
  refine W.lcmp hx hb dL_law_699 ?_
  refine lv_if_eq (tgt := 705) hx hb dL_law_700 rfl (fun _ => ?_) (fun h9 => absurd ((lg_cmp_eq _ _).mpr e9) h9)
  refine lv_goto (tgt := 822) hx hb dL_law_705 rfl ?_
  have hl := lv_sub hl (l' := [(0, .ref b), (1, .ref h), (2, .ref g0), (3, .ref o), (4, .int (nI i))]) [2, 3, 4, 5, 6] rfl
  exact kk _ _ _ _ _ _ _ _ ls ⟨T.R, P1, P2, S⟩ hl

set_option maxHeartbeats 4000000 in
set_option maxRecDepth 100000 in
theorem lc_spoiler_n (F : LFix p l s m c b L xs D cA cL h a1 a2 a3 a4 o g0 b1 b2 b3 b4 b5) (T : LSt s D cA cL h a1 a2 a3 a4 o g0 b1 b2 b3 b4 b5 n nb u ft ed um H locs) (hi : i + 2 < L) (hc : cells + 1 ≤ 667068) (hs : slots + 6 ≤ 7094901) (kk : LK p l e room_1 s m below meth c Q D cA cL b h a1 a2 a3 a4 o g0 b1 b2 b3 b4 b5 i (cells + 1) (slots + 6)) (hl : lv_has ls 7 [(0, .ref b), (1, .ref h), (2, .ref g0), (3, .ref o), (4, .int (nI i))]) (x : List (Nat × Nat × Nat) × Nat) (hres : srN (fun v j => ed (8 * v + j)) (meN (2 ^ n - 1) n 0) [] 0 = some x) : W p l e room_1 s m #[Value.ref b] below meth c H locs cells slots Q (F0 m 664 ls []) := by
  have hx := F.hx
  have hb := F.hb
  have hw := F.hw
  have hn := T.R.1
  have hnb := rel_lt T.R
  have hed1 := T.R.2.1
  have hed := rel_e9 T.R
  have hc0 : cells ≤ 667068 := by omega
  have hs0 : slots ≤ 7094901 := by omega
  have P1 := T.P1
  have P2 := T.P2
  have S := T.S
  refine lv_aload_n hx hb dL_law_664 rfl (lv_at hl 1 rfl) ?_
  refine lv_aload_n hx hb dL_law_665 rfl (lv_at hl 3 rfl) ?_
  refine lw_help (k9 := 2) (rest := []) (As := [.ref h, .ref o]) F P1 P2 S (hL_spoiler_n l D (xo h a1 a2 a3 a4 o) h a1 a2 a3 a4 o cA cL n nb u (fun v j => ed (8 * v + j)) F.hst hn hnb hed x hres) w2_59 w2_57 w2_58 w1_0 ⟨by decide, by decide, by decide +kernel⟩ ⟨Nat.le_of_ble_eq_true rfl, Nat.le_of_ble_eq_true rfl⟩ rfl hl.1 rfl (Nat.le_of_ble_eq_true rfl) dL_law_666 ⟨hc, hs⟩ (fun r9 w9 H locs hpost9 P1 P2 S => ?_)
  obtain ⟨hr9, -⟩ := hpost9
  subst hr9
  refine lv_istore hx hb dL_law_669 hl (by decide) (lv' := [(5, .int (nI 1)), (0, .ref b), (1, .ref h), (2, .ref g0), (3, .ref o), (4, .int (nI i))]) rfl (fun ls hl => ?_)
  refine lv_aload_n hx hb dL_law_671 rfl (lv_at hl 3 rfl) ?_
  refine lw_mod (rest := []) (As := []) (fun w => w) F P1 P2 S (cM_spoiler_n l D (mA g0 b1 b2 b3 b4 b5) g0 b1 b2 b3 b4 b5 cA n ft ed um.1 um.2.1 um.2.2.1 um.2.2.2 hn hed1 x hres) (fun _ _ h9 => h9) (cwV 0 hw (gV w2_208 w2_209 w2_210 w1_2 w2_211) rfl rfl rfl ⟨rfl, by decide, by decide, by decide +kernel⟩ ⟨Nat.le_of_ble_eq_true rfl, Nat.le_of_ble_eq_true rfl⟩) rfl hl.1 rfl (Nat.le_of_ble_eq_true rfl) dL_law_672 ⟨hc, hs⟩ (fun r8 w8 H locs hpost8 P1 P2 S => ?_)
  subst hpost8
  refine lv_istore hx hb dL_law_675 hl (by decide) (lv' := [(6, .int (nI 0)), (5, .int (nI 1)), (0, .ref b), (1, .ref h), (2, .ref g0), (3, .ref o), (4, .int (nI i))]) rfl (fun ls hl => ?_)
  refine lv_aload_n hx hb dL_law_677 rfl (lv_at hl 4 rfl) ?_
  refine nr_V (b := g0) (As := []) (C := RM) (rest := []) ⟨hx, hb, F.hml, F.hown, hw⟩ (cM_thrown_c l D (mA g0 b1 b2 b3 b4 b5) g0 b1 b2 b3 b4 b5 cA n 1 ed w8.1 w8.2.1 w8.2.2.1 w8.2.2.2) (cwV 0 hw (gV w2_120 w2_121 w2_122 w1_2 w2_123) rfl rfl rfl ⟨rfl, by decide, by decide, by decide +kernel⟩ ⟨Nat.le_of_ble_eq_true rfl, Nat.le_of_ble_eq_true rfl⟩) gB_blind (va_recv (q0 := 0) (ci := 1) F.Km P2 rfl rfl) (gB_at P2 F.Km _) rfl hl.1 rfl (Nat.le_of_ble_eq_true rfl) dL_law_678 ⟨hc, hs⟩ ?_
  refine lv_iload hx hb dL_law_681 (lv_at hl 1 rfl) ?_
  refine lv_icmp_eq (tgt := 688) hx hb dL_law_683 rfl (fun _ => ?_) (fun h9 => absurd rfl h9)
  refine lv_iload hx hb dL_law_688 (lv_at hl 1 rfl) ?_
  refine nv_if_ne (x := 1) (tgt := 705) hx hb dL_law_690 rfl (by decide) (fun _ => ?_) (fun h9 => absurd h9 (by decide))
  refine lv_goto (tgt := 822) hx hb dL_law_705 rfl ?_
  have hl := lv_sub hl (l' := [(0, .ref b), (1, .ref h), (2, .ref g0), (3, .ref o), (4, .int (nI i))]) [2, 3, 4, 5, 6] rfl
  exact kk _ _ _ _ _ _ _ _ ls ⟨T.R, P1, P2, S⟩ hl

set_option maxHeartbeats 4000000 in
set_option maxRecDepth 100000 in
theorem lc_loose_y (F : LFix p l s m c b L xs D cA cL h a1 a2 a3 a4 o g0 b1 b2 b3 b4 b5) (T : LSt s D cA cL h a1 a2 a3 a4 o g0 b1 b2 b3 b4 b5 n nb u ft ed um H locs) (hi : i + 2 < L) (hc : cells + 1 ≤ 667068) (hs : slots + 6 ≤ 7094901) (kk : LK p l e room_1 s m below meth c Q D cA cL b h a1 a2 a3 a4 o g0 b1 b2 b3 b4 b5 i (cells + 1) (slots + 6)) (hl : lv_has ls 7 [(0, .ref b), (1, .ref h), (2, .ref g0), (3, .ref o), (4, .int (nI i))]) (x : List (Nat × Nat × Nat) × Nat) (hres : srN (fun v j => ed (8 * v + j)) (meN (2 ^ n - 1) n 0) [] 0 = some x) : W p l e room_1 s m #[Value.ref b] below meth c H locs cells slots Q (F0 m 734 ls []) := by
  have hx := F.hx
  have hb := F.hb
  have hw := F.hw
  have hn := T.R.1
  have hnb := rel_lt T.R
  have hed1 := T.R.2.1
  have hed := rel_e9 T.R
  have hc0 : cells ≤ 667068 := by omega
  have hs0 : slots ≤ 7094901 := by omega
  have P1 := T.P1
  have P2 := T.P2
  have S := T.S
  refine lv_aload_n hx hb dL_law_734 rfl (lv_at hl 1 rfl) ?_
  refine lv_aload_n hx hb dL_law_735 rfl (lv_at hl 3 rfl) ?_
  refine lw_help (k9 := 2) (rest := []) (As := [.ref h, .ref o]) F P1 P2 S (hL_loose_y l D (xo h a1 a2 a3 a4 o) h a1 a2 a3 a4 o cA cL n nb u (fun v j => ed (8 * v + j)) hn hnb hed x hres) w2_67 w2_65 w2_66 w1_0 ⟨by decide, by decide, by decide +kernel⟩ ⟨Nat.le_of_ble_eq_true rfl, Nat.le_of_ble_eq_true rfl⟩ rfl hl.1 rfl (Nat.le_of_ble_eq_true rfl) dL_law_736 ⟨hc, hs⟩ (fun r9 w9 H locs hpost9 P1 P2 S => ?_)
  obtain ⟨hr9, hval, hnm⟩ := hpost9
  subst hr9
  refine lv_istore hx hb dL_law_739 hl (by decide) (lv' := [(5, .int (nI 0)), (0, .ref b), (1, .ref h), (2, .ref g0), (3, .ref o), (4, .int (nI i))]) rfl (fun ls hl => ?_)
  refine lv_aload_n hx hb dL_law_741 rfl (lv_at hl 3 rfl) ?_
  refine lw_mod (rest := []) (As := []) (fun w => w) F P1 P2 S (cM_loose_y l D (mA g0 b1 b2 b3 b4 b5) g0 b1 b2 b3 b4 b5 cA n ft ed um.1 um.2.1 um.2.2.1 um.2.2.2 hn hed1 x hres) (fun _ _ h9 => h9) (cwV 0 hw (gV w2_231 w2_232 w2_233 w1_2 w2_234) rfl rfl rfl ⟨rfl, by decide, by decide, by decide +kernel⟩ ⟨Nat.le_of_ble_eq_true rfl, Nat.le_of_ble_eq_true rfl⟩) rfl hl.1 rfl (Nat.le_of_ble_eq_true rfl) dL_law_742 ⟨hc, hs⟩ (fun r8 w8 H locs hpost8 P1 P2 S => ?_)
  obtain ⟨hr8, hmu⟩ := hpost8
  subst hr8
  refine lv_istore hx hb dL_law_745 hl (by decide) (lv' := [(6, .int (nI (mLo ed w8.1 w8.2.1 n x.2 (pcN (jBest (fun set => mAl ed set 0 n) (2 ^ n))) (2 ^ n)))), (5, .int (nI 0)), (0, .ref b), (1, .ref h), (2, .ref g0), (3, .ref o), (4, .int (nI i))]) rfl (fun ls hl => ?_)
  refine lv_aload_n hx hb dL_law_747 rfl (lv_at hl 4 rfl) ?_
  refine nr_V (b := g0) (As := []) (C := RM) (rest := []) ⟨hx, hb, F.hml, F.hown, hw⟩ (cM_thrown_c l D (mA g0 b1 b2 b3 b4 b5) g0 b1 b2 b3 b4 b5 cA n 0 ed w8.1 w8.2.1 w8.2.2.1 w8.2.2.2) (cwV 0 hw (gV w2_120 w2_121 w2_122 w1_2 w2_123) rfl rfl rfl ⟨rfl, by decide, by decide, by decide +kernel⟩ ⟨Nat.le_of_ble_eq_true rfl, Nat.le_of_ble_eq_true rfl⟩) gB_blind (va_recv (q0 := 0) (ci := 1) F.Km P2 rfl rfl) (gB_at P2 F.Km _) rfl hl.1 rfl (Nat.le_of_ble_eq_true rfl) dL_law_748 ⟨hc, hs⟩ ?_
  refine lv_iload hx hb dL_law_751 (lv_at hl 1 rfl) ?_
  refine lv_icmp_eq (tgt := 758) hx hb dL_law_753 rfl (fun _ => ?_) (fun h9 => absurd rfl h9)
  refine lv_iload hx hb dL_law_758 (lv_at hl 1 rfl) ?_
  refine nv_if_ne (x := 0) (tgt := 775) hx hb dL_law_760 rfl (by decide) (fun h9 => absurd rfl h9) (fun _ => ?_)
  have hcg : ∀ v, v < n → w9.1.1 v = w8.1 v ∧ w9.1.2.1 v = w8.2.1 v := fun v hv => hnm _ (hmu.2 v hv)
  have e1 : jBest (jAp nb n) (2 ^ n) = (jBest (fun set => mAl ed set 0 n) (2 ^ n)) := best_eq fun k hk => ap_eq T.R hk
  have e9 : w9.2 0 = (nI (mLo ed w8.1 w8.2.1 n x.2 (pcN (jBest (fun set => mAl ed set 0 n) (2 ^ n))) (2 ^ n))).toInt64 := hval.trans (by rw [e1, lo_eq T.R hcg (Nat.le_refl _)])
  refine lv_aload_n hx hb dL_law_763 rfl (lv_at hl 5 rfl) ?_
  refine lv_iconst (v := nI 0) hx hb dL_law_764 (by decide) ?_
  refine nv_lald (f := w9.2) hx hb F.hK P1 5 1 rfl rfl dL_law_765 ?_
  refine lv_iload hx hb dL_law_766 (lv_at hl 0 rfl) ?_
  refine lv_i2l (v := (nI (mLo ed w8.1 w8.2.1 n x.2 (pcN (jBest (fun set => mAl ed set 0 n) (2 ^ n))) (2 ^ n)) : Int32).toInt64) hx hb dL_law_768 rfl ?_
  refine W.lcmp hx hb dL_law_769 ?_
  refine lv_if_eq (tgt := 775) hx hb dL_law_770 rfl (fun _ => ?_) (fun h9 => absurd ((lg_cmp_eq _ _).mpr e9) h9)
  refine lv_goto (tgt := 822) hx hb dL_law_775 rfl ?_
  have hl := lv_sub hl (l' := [(0, .ref b), (1, .ref h), (2, .ref g0), (3, .ref o), (4, .int (nI i))]) [2, 3, 4, 5, 6] rfl
  exact kk _ _ _ _ _ _ _ _ ls ⟨T.R, P1, P2, S⟩ hl

set_option maxHeartbeats 4000000 in
set_option maxRecDepth 100000 in
theorem lc_barrier_y (F : LFix p l s m c b L xs D cA cL h a1 a2 a3 a4 o g0 b1 b2 b3 b4 b5) (T : LSt s D cA cL h a1 a2 a3 a4 o g0 b1 b2 b3 b4 b5 n nb u ft ed um H locs) (hi : i + 2 < L) (hc : cells + 1 ≤ 667068) (hs : slots + 6 ≤ 7094901) (kk : LK p l e room_1 s m below meth c Q D cA cL b h a1 a2 a3 a4 o g0 b1 b2 b3 b4 b5 i (cells + 1) (slots + 6)) (hl : lv_has ls 7 [(0, .ref b), (1, .ref h), (2, .ref g0), (3, .ref o), (4, .int (nI i))]) (x : List (Nat × Nat × Nat) × Nat) (hres : srN (fun v j => ed (8 * v + j)) (meN (2 ^ n - 1) n 0) [] 0 = some x) : W p l e room_1 s m #[Value.ref b] below meth c H locs cells slots Q (F0 m 778 ls []) := by
  have hx := F.hx
  have hb := F.hb
  have hw := F.hw
  have hn := T.R.1
  have hnb := rel_lt T.R
  have hed1 := T.R.2.1
  have hed := rel_e9 T.R
  have hc0 : cells ≤ 667068 := by omega
  have hs0 : slots ≤ 7094901 := by omega
  have P1 := T.P1
  have P2 := T.P2
  have S := T.S
  refine lv_aload_n hx hb dL_law_778 rfl (lv_at hl 1 rfl) ?_
  refine lv_aload_n hx hb dL_law_779 rfl (lv_at hl 3 rfl) ?_
  refine lw_help (k9 := 2) (rest := []) (As := [.ref h, .ref o]) F P1 P2 S (hL_barrier_y l D (xo h a1 a2 a3 a4 o) h a1 a2 a3 a4 o cA cL n nb u (fun v j => ed (8 * v + j)) hn hnb hed x hres) w2_87 w2_85 w2_86 w1_0 ⟨by decide, by decide, by decide +kernel⟩ ⟨Nat.le_of_ble_eq_true rfl, Nat.le_of_ble_eq_true rfl⟩ rfl hl.1 rfl (Nat.le_of_ble_eq_true rfl) dL_law_780 ⟨hc, hs⟩ (fun r9 w9 H locs hpost9 P1 P2 S => ?_)
  obtain ⟨hr9, hval, hnm⟩ := hpost9
  subst hr9
  refine lv_istore hx hb dL_law_783 hl (by decide) (lv' := [(5, .int (nI 0)), (0, .ref b), (1, .ref h), (2, .ref g0), (3, .ref o), (4, .int (nI i))]) rfl (fun ls hl => ?_)
  refine lv_aload_n hx hb dL_law_785 rfl (lv_at hl 3 rfl) ?_
  refine lw_mod (rest := []) (As := []) (fun w => w) F P1 P2 S (cM_barrier_y l D (mA g0 b1 b2 b3 b4 b5) g0 b1 b2 b3 b4 b5 cA n ft ed um.1 um.2.1 um.2.2.1 um.2.2.2 hn hed1 x hres) (fun _ _ h9 => h9) (cwV 0 hw (gV w2_239 w3_0 w3_1 w1_2 w3_2) rfl rfl rfl ⟨rfl, by decide, by decide, by decide +kernel⟩ ⟨Nat.le_of_ble_eq_true rfl, Nat.le_of_ble_eq_true rfl⟩) rfl hl.1 rfl (Nat.le_of_ble_eq_true rfl) dL_law_786 ⟨hc, hs⟩ (fun r8 w8 H locs hpost8 P1 P2 S => ?_)
  obtain ⟨hr8, hmu⟩ := hpost8
  subst hr8
  refine lv_istore hx hb dL_law_789 hl (by decide) (lv' := [(6, .int (nI (mBa w8.1 w8.2.1 (mLo ed w8.1 w8.2.1 n x.2 (pcN (jBest (fun set => mAl ed set 0 n) (2 ^ n))) (2 ^ n)) n &&& ntN (mLo ed w8.1 w8.2.1 n x.2 (pcN (jBest (fun set => mAl ed set 0 n) (2 ^ n))) (2 ^ n))))), (5, .int (nI 0)), (0, .ref b), (1, .ref h), (2, .ref g0), (3, .ref o), (4, .int (nI i))]) rfl (fun ls hl => ?_)
  refine lv_aload_n hx hb dL_law_791 rfl (lv_at hl 4 rfl) ?_
  refine nr_V (b := g0) (As := []) (C := RM) (rest := []) ⟨hx, hb, F.hml, F.hown, hw⟩ (cM_thrown_c l D (mA g0 b1 b2 b3 b4 b5) g0 b1 b2 b3 b4 b5 cA n 0 ed w8.1 w8.2.1 w8.2.2.1 w8.2.2.2) (cwV 0 hw (gV w2_120 w2_121 w2_122 w1_2 w2_123) rfl rfl rfl ⟨rfl, by decide, by decide, by decide +kernel⟩ ⟨Nat.le_of_ble_eq_true rfl, Nat.le_of_ble_eq_true rfl⟩) gB_blind (va_recv (q0 := 0) (ci := 1) F.Km P2 rfl rfl) (gB_at P2 F.Km _) rfl hl.1 rfl (Nat.le_of_ble_eq_true rfl) dL_law_792 ⟨hc, hs⟩ ?_
  refine lv_iload hx hb dL_law_795 (lv_at hl 1 rfl) ?_
  refine lv_icmp_eq (tgt := 802) hx hb dL_law_797 rfl (fun _ => ?_) (fun h9 => absurd rfl h9)
  refine lv_iload hx hb dL_law_802 (lv_at hl 1 rfl) ?_
  refine nv_if_ne (x := 0) (tgt := 819) hx hb dL_law_804 rfl (by decide) (fun h9 => absurd rfl h9) (fun _ => ?_)
  have hcg : ∀ v, v < n → w9.1.1 v = w8.1 v ∧ w9.1.2.1 v = w8.2.1 v := fun v hv => hnm _ (hmu.2 v hv)
  have e1 : jBest (jAp nb n) (2 ^ n) = (jBest (fun set => mAl ed set 0 n) (2 ^ n)) := best_eq fun k hk => ap_eq T.R hk
  obtain ⟨hu16, hlt⟩ := mu_lt hn hres hmu
  have e2 := lo_eq (us := x.2) (g := pcN (jBest (fun set => mAl ed set 0 n) (2 ^ n))) T.R hcg (Nat.le_refl (2 ^ n))
  have e3 : mLo ed w8.1 w8.2.1 n x.2 (pcN (jBest (fun set => mAl ed set 0 n) (2 ^ n))) (2 ^ n) < 65536 := by rw [← e2]; exact jLo_lt hu16 _
  have hl16 : ∀ v, v < n → w9.1.1 v < 16 ∧ w9.1.2.1 v < 16 := fun v hv => by rw [(hcg v hv).1, (hcg v hv).2]; exact hlt v hv
  have e9 : w9.2 0 = (nI (mBa w8.1 w8.2.1 (mLo ed w8.1 w8.2.1 n x.2 (pcN (jBest (fun set => mAl ed set 0 n) (2 ^ n))) (2 ^ n)) n &&& ntN (mLo ed w8.1 w8.2.1 n x.2 (pcN (jBest (fun set => mAl ed set 0 n) (2 ^ n))) (2 ^ n)))).toInt64 := hval.trans (by rw [e1, e2, ba_eq hcg hl16 e3])
  refine lv_aload_n hx hb dL_law_807 rfl (lv_at hl 5 rfl) ?_
  refine lv_iconst (v := nI 0) hx hb dL_law_808 (by decide) ?_
  refine nv_lald (f := w9.2) hx hb F.hK P1 5 1 rfl rfl dL_law_809 ?_
  refine lv_iload hx hb dL_law_810 (lv_at hl 0 rfl) ?_
  refine lv_i2l (v := (nI (mBa w8.1 w8.2.1 (mLo ed w8.1 w8.2.1 n x.2 (pcN (jBest (fun set => mAl ed set 0 n) (2 ^ n))) (2 ^ n)) n &&& ntN (mLo ed w8.1 w8.2.1 n x.2 (pcN (jBest (fun set => mAl ed set 0 n) (2 ^ n))) (2 ^ n))) : Int32).toInt64) hx hb dL_law_812 rfl ?_
  refine W.lcmp hx hb dL_law_813 ?_
  refine lv_if_eq (tgt := 819) hx hb dL_law_814 rfl (fun _ => ?_) (fun h9 => absurd ((lg_cmp_eq _ _).mpr e9) h9)
  refine lv_goto (tgt := 822) hx hb dL_law_819 rfl ?_
  have hl := lv_sub hl (l' := [(0, .ref b), (1, .ref h), (2, .ref g0), (3, .ref o), (4, .int (nI i))]) [2, 3, 4, 5, 6] rfl
  exact kk _ _ _ _ _ _ _ _ ls ⟨T.R, P1, P2, S⟩ hl

set_option maxHeartbeats 4000000 in
set_option maxRecDepth 100000 in
theorem lc_loose_n (F : LFix p l s m c b L xs D cA cL h a1 a2 a3 a4 o g0 b1 b2 b3 b4 b5) (T : LSt s D cA cL h a1 a2 a3 a4 o g0 b1 b2 b3 b4 b5 n nb u ft ed um H locs) (hi : i + 2 < L) (hc : cells + 1 ≤ 667068) (hs : slots + 6 ≤ 7094901) (kk : LK p l e room_1 s m below meth c Q D cA cL b h a1 a2 a3 a4 o g0 b1 b2 b3 b4 b5 i (cells + 1) (slots + 6)) (hl : lv_has ls 7 [(0, .ref b), (1, .ref h), (2, .ref g0), (3, .ref o), (4, .int (nI i))]) (hres : srN (fun v j => ed (8 * v + j)) (meN (2 ^ n - 1) n 0) [] 0 = none) : W p l e room_1 s m #[Value.ref b] below meth c H locs cells slots Q (F0 m 734 ls []) := by
  have hx := F.hx
  have hb := F.hb
  have hw := F.hw
  have hn := T.R.1
  have hnb := rel_lt T.R
  have hed1 := T.R.2.1
  have hed := rel_e9 T.R
  have hc0 : cells ≤ 667068 := by omega
  have hs0 : slots ≤ 7094901 := by omega
  have P1 := T.P1
  have P2 := T.P2
  have S := T.S
  refine lv_aload_n hx hb dL_law_734 rfl (lv_at hl 1 rfl) ?_
  refine lv_aload_n hx hb dL_law_735 rfl (lv_at hl 3 rfl) ?_
  refine lw_help (k9 := 2) (rest := []) (As := [.ref h, .ref o]) F P1 P2 S (hL_loose_n l D (xo h a1 a2 a3 a4 o) h a1 a2 a3 a4 o cA cL n nb u (fun v j => ed (8 * v + j)) F.hst hn hnb hed hres) w2_67 w2_65 w2_66 w1_0 ⟨by decide, by decide, by decide +kernel⟩ ⟨Nat.le_of_ble_eq_true rfl, Nat.le_of_ble_eq_true rfl⟩ rfl hl.1 rfl (Nat.le_of_ble_eq_true rfl) dL_law_736 ⟨hc, hs⟩ (fun r9 w9 H locs hpost9 P1 P2 S => ?_)
  obtain ⟨hr9, -⟩ := hpost9
  subst hr9
  refine lv_istore hx hb dL_law_739 hl (by decide) (lv' := [(5, .int (nI 1)), (0, .ref b), (1, .ref h), (2, .ref g0), (3, .ref o), (4, .int (nI i))]) rfl (fun ls hl => ?_)
  refine lv_aload_n hx hb dL_law_741 rfl (lv_at hl 3 rfl) ?_
  refine lw_mod (rest := []) (As := []) (fun w => w) F P1 P2 S (cM_loose_n l D (mA g0 b1 b2 b3 b4 b5) g0 b1 b2 b3 b4 b5 cA n ft ed um.1 um.2.1 um.2.2.1 um.2.2.2 hn hed1 hres) (fun _ _ h9 => h9) (cwV 0 hw (gV w2_231 w2_232 w2_233 w1_2 w2_234) rfl rfl rfl ⟨rfl, by decide, by decide, by decide +kernel⟩ ⟨Nat.le_of_ble_eq_true rfl, Nat.le_of_ble_eq_true rfl⟩) rfl hl.1 rfl (Nat.le_of_ble_eq_true rfl) dL_law_742 ⟨hc, hs⟩ (fun r8 w8 H locs hpost8 P1 P2 S => ?_)
  subst hpost8
  refine lv_istore hx hb dL_law_745 hl (by decide) (lv' := [(6, .int (nI 0)), (5, .int (nI 1)), (0, .ref b), (1, .ref h), (2, .ref g0), (3, .ref o), (4, .int (nI i))]) rfl (fun ls hl => ?_)
  refine lv_aload_n hx hb dL_law_747 rfl (lv_at hl 4 rfl) ?_
  refine nr_V (b := g0) (As := []) (C := RM) (rest := []) ⟨hx, hb, F.hml, F.hown, hw⟩ (cM_thrown_c l D (mA g0 b1 b2 b3 b4 b5) g0 b1 b2 b3 b4 b5 cA n 1 ed w8.1 w8.2.1 w8.2.2.1 w8.2.2.2) (cwV 0 hw (gV w2_120 w2_121 w2_122 w1_2 w2_123) rfl rfl rfl ⟨rfl, by decide, by decide, by decide +kernel⟩ ⟨Nat.le_of_ble_eq_true rfl, Nat.le_of_ble_eq_true rfl⟩) gB_blind (va_recv (q0 := 0) (ci := 1) F.Km P2 rfl rfl) (gB_at P2 F.Km _) rfl hl.1 rfl (Nat.le_of_ble_eq_true rfl) dL_law_748 ⟨hc, hs⟩ ?_
  refine lv_iload hx hb dL_law_751 (lv_at hl 1 rfl) ?_
  refine lv_icmp_eq (tgt := 758) hx hb dL_law_753 rfl (fun _ => ?_) (fun h9 => absurd rfl h9)
  refine lv_iload hx hb dL_law_758 (lv_at hl 1 rfl) ?_
  refine nv_if_ne (x := 1) (tgt := 775) hx hb dL_law_760 rfl (by decide) (fun _ => ?_) (fun h9 => absurd h9 (by decide))
  refine lv_goto (tgt := 822) hx hb dL_law_775 rfl ?_
  have hl := lv_sub hl (l' := [(0, .ref b), (1, .ref h), (2, .ref g0), (3, .ref o), (4, .int (nI i))]) [2, 3, 4, 5, 6] rfl
  exact kk _ _ _ _ _ _ _ _ ls ⟨T.R, P1, P2, S⟩ hl

set_option maxHeartbeats 4000000 in
set_option maxRecDepth 100000 in
theorem lc_barrier_n (F : LFix p l s m c b L xs D cA cL h a1 a2 a3 a4 o g0 b1 b2 b3 b4 b5) (T : LSt s D cA cL h a1 a2 a3 a4 o g0 b1 b2 b3 b4 b5 n nb u ft ed um H locs) (hi : i + 2 < L) (hc : cells + 1 ≤ 667068) (hs : slots + 6 ≤ 7094901) (kk : LK p l e room_1 s m below meth c Q D cA cL b h a1 a2 a3 a4 o g0 b1 b2 b3 b4 b5 i (cells + 1) (slots + 6)) (hl : lv_has ls 7 [(0, .ref b), (1, .ref h), (2, .ref g0), (3, .ref o), (4, .int (nI i))]) (hres : srN (fun v j => ed (8 * v + j)) (meN (2 ^ n - 1) n 0) [] 0 = none) : W p l e room_1 s m #[Value.ref b] below meth c H locs cells slots Q (F0 m 778 ls []) := by
  have hx := F.hx
  have hb := F.hb
  have hw := F.hw
  have hn := T.R.1
  have hnb := rel_lt T.R
  have hed1 := T.R.2.1
  have hed := rel_e9 T.R
  have hc0 : cells ≤ 667068 := by omega
  have hs0 : slots ≤ 7094901 := by omega
  have P1 := T.P1
  have P2 := T.P2
  have S := T.S
  refine lv_aload_n hx hb dL_law_778 rfl (lv_at hl 1 rfl) ?_
  refine lv_aload_n hx hb dL_law_779 rfl (lv_at hl 3 rfl) ?_
  refine lw_help (k9 := 2) (rest := []) (As := [.ref h, .ref o]) F P1 P2 S (hL_barrier_n l D (xo h a1 a2 a3 a4 o) h a1 a2 a3 a4 o cA cL n nb u (fun v j => ed (8 * v + j)) F.hst hn hnb hed hres) w2_87 w2_85 w2_86 w1_0 ⟨by decide, by decide, by decide +kernel⟩ ⟨Nat.le_of_ble_eq_true rfl, Nat.le_of_ble_eq_true rfl⟩ rfl hl.1 rfl (Nat.le_of_ble_eq_true rfl) dL_law_780 ⟨hc, hs⟩ (fun r9 w9 H locs hpost9 P1 P2 S => ?_)
  obtain ⟨hr9, -⟩ := hpost9
  subst hr9
  refine lv_istore hx hb dL_law_783 hl (by decide) (lv' := [(5, .int (nI 1)), (0, .ref b), (1, .ref h), (2, .ref g0), (3, .ref o), (4, .int (nI i))]) rfl (fun ls hl => ?_)
  refine lv_aload_n hx hb dL_law_785 rfl (lv_at hl 3 rfl) ?_
  refine lw_mod (rest := []) (As := []) (fun w => w) F P1 P2 S (cM_barrier_n l D (mA g0 b1 b2 b3 b4 b5) g0 b1 b2 b3 b4 b5 cA n ft ed um.1 um.2.1 um.2.2.1 um.2.2.2 hn hed1 hres) (fun _ _ h9 => h9) (cwV 0 hw (gV w2_239 w3_0 w3_1 w1_2 w3_2) rfl rfl rfl ⟨rfl, by decide, by decide, by decide +kernel⟩ ⟨Nat.le_of_ble_eq_true rfl, Nat.le_of_ble_eq_true rfl⟩) rfl hl.1 rfl (Nat.le_of_ble_eq_true rfl) dL_law_786 ⟨hc, hs⟩ (fun r8 w8 H locs hpost8 P1 P2 S => ?_)
  subst hpost8
  refine lv_istore hx hb dL_law_789 hl (by decide) (lv' := [(6, .int (nI 0)), (5, .int (nI 1)), (0, .ref b), (1, .ref h), (2, .ref g0), (3, .ref o), (4, .int (nI i))]) rfl (fun ls hl => ?_)
  refine lv_aload_n hx hb dL_law_791 rfl (lv_at hl 4 rfl) ?_
  refine nr_V (b := g0) (As := []) (C := RM) (rest := []) ⟨hx, hb, F.hml, F.hown, hw⟩ (cM_thrown_c l D (mA g0 b1 b2 b3 b4 b5) g0 b1 b2 b3 b4 b5 cA n 1 ed w8.1 w8.2.1 w8.2.2.1 w8.2.2.2) (cwV 0 hw (gV w2_120 w2_121 w2_122 w1_2 w2_123) rfl rfl rfl ⟨rfl, by decide, by decide, by decide +kernel⟩ ⟨Nat.le_of_ble_eq_true rfl, Nat.le_of_ble_eq_true rfl⟩) gB_blind (va_recv (q0 := 0) (ci := 1) F.Km P2 rfl rfl) (gB_at P2 F.Km _) rfl hl.1 rfl (Nat.le_of_ble_eq_true rfl) dL_law_792 ⟨hc, hs⟩ ?_
  refine lv_iload hx hb dL_law_795 (lv_at hl 1 rfl) ?_
  refine lv_icmp_eq (tgt := 802) hx hb dL_law_797 rfl (fun _ => ?_) (fun h9 => absurd rfl h9)
  refine lv_iload hx hb dL_law_802 (lv_at hl 1 rfl) ?_
  refine nv_if_ne (x := 1) (tgt := 819) hx hb dL_law_804 rfl (by decide) (fun _ => ?_) (fun h9 => absurd h9 (by decide))
  refine lv_goto (tgt := 822) hx hb dL_law_819 rfl ?_
  have hl := lv_sub hl (l' := [(0, .ref b), (1, .ref h), (2, .ref g0), (3, .ref o), (4, .int (nI i))]) [2, 3, 4, 5, 6] rfl
  exact kk _ _ _ _ _ _ _ _ ls ⟨T.R, P1, P2, S⟩ hl

set_option maxHeartbeats 4000000 in
set_option maxRecDepth 100000 in
theorem lc_vertices (F : LFix p l s m c b L xs D cA cL h a1 a2 a3 a4 o g0 b1 b2 b3 b4 b5) (T : LSt s D cA cL h a1 a2 a3 a4 o g0 b1 b2 b3 b4 b5 n nb u ft ed um H locs) (hi : i + 2 < L) (hc : cells + 1 ≤ 667068) (hs : slots + 6 ≤ 7094901) (kk : LK p l e room_1 s m below meth c Q D cA cL b h a1 a2 a3 a4 o g0 b1 b2 b3 b4 b5 i (cells + 1) (slots + 6)) (hl : lv_has ls 7 [(0, .ref b), (1, .ref h), (2, .ref g0), (3, .ref o), (4, .int (nI i))])  : W p l e room_1 s m #[Value.ref b] below meth c H locs cells slots Q (F0 m 413 ls []) := by
  have hx := F.hx
  have hb := F.hb
  have hw := F.hw
  have hn := T.R.1
  have hnb := rel_lt T.R
  have hed1 := T.R.2.1
  have hed := rel_e9 T.R
  have hc0 : cells ≤ 667068 := by omega
  have hs0 : slots ≤ 7094901 := by omega
  have P1 := T.P1
  have P2 := T.P2
  have S := T.S
  have e9 : nI n = nI n := rfl
  refine lv_aload_n hx hb dL_law_413 rfl (lv_at hl 1 rfl) ?_
  refine nr_V (b := h) (As := []) (C := RX) (rest := []) ⟨hx, hb, F.hml, F.hown, hw⟩ (cX_vertices_c l D (xA h a1 a2 a3 a4) h a1 a2 a3 a4 cA n u.1.2.2.2 nb u.1.1 u.1.2.1 u.1.2.2.1) (cwV 0 hw (gV w1_39 w1_40 w1_41 w1_1 w1_42) rfl rfl rfl ⟨rfl, by decide, by decide, by decide +kernel⟩ ⟨Nat.le_of_ble_eq_true rfl, Nat.le_of_ble_eq_true rfl⟩) gB_blind (va_recv (q0 := 0) (ci := 0) F.Km (hx_P P1) rfl rfl) (gB_at (hx_P P1) F.Km _) rfl hl.1 rfl (Nat.le_of_ble_eq_true rfl) dL_law_414 ⟨hc0, hs0⟩ ?_
  refine lv_aload_n hx hb dL_law_417 rfl (lv_at hl 2 rfl) ?_
  refine lw_mod (rest := [.int (nI n)]) (As := []) (fun _ => um) F P1 P2 S (cM_vertices_c l D (mA g0 b1 b2 b3 b4 b5) g0 b1 b2 b3 b4 b5 cA n ft ed um.1 um.2.1 um.2.2.1 um.2.2.2) (fun _ _ h9 => h9) (cwV 0 hw (gV w2_152 w2_153 w2_154 w1_2 w2_155) rfl rfl rfl ⟨rfl, by decide, by decide, by decide +kernel⟩ ⟨Nat.le_of_ble_eq_true rfl, Nat.le_of_ble_eq_true rfl⟩) rfl hl.1 rfl (Nat.le_of_ble_eq_true rfl) dL_law_418 ⟨hc0, hs0⟩ (fun r8 w8 H locs hpost8 P1 P2 S => ?_)
  subst hpost8
  refine lv_icmp_eq (tgt := 822) hx hb dL_law_421 rfl (fun _ => ?_) (fun h9 => absurd e9 h9)
  refine W.widen (k := cells + 1) (n := slots + 6) (by omega) (by omega) ?_
  exact kk _ _ _ _ _ _ _ _ ls ⟨T.R, P1, P2, S⟩ hl

set_option maxHeartbeats 4000000 in
set_option maxRecDepth 100000 in
theorem lc_edges (F : LFix p l s m c b L xs D cA cL h a1 a2 a3 a4 o g0 b1 b2 b3 b4 b5) (T : LSt s D cA cL h a1 a2 a3 a4 o g0 b1 b2 b3 b4 b5 n nb u ft ed um H locs) (hi : i + 2 < L) (hc : cells + 1 ≤ 667068) (hs : slots + 6 ≤ 7094901) (kk : LK p l e room_1 s m below meth c Q D cA cL b h a1 a2 a3 a4 o g0 b1 b2 b3 b4 b5 i (cells + 1) (slots + 6)) (hl : lv_has ls 7 [(0, .ref b), (1, .ref h), (2, .ref g0), (3, .ref o), (4, .int (nI i))])  : W p l e room_1 s m #[Value.ref b] below meth c H locs cells slots Q (F0 m 426 ls []) := by
  have hx := F.hx
  have hb := F.hb
  have hw := F.hw
  have hn := T.R.1
  have hnb := rel_lt T.R
  have hed1 := T.R.2.1
  have hed := rel_e9 T.R
  have hc0 : cells ≤ 667068 := by omega
  have hs0 : slots ≤ 7094901 := by omega
  have P1 := T.P1
  have P2 := T.P2
  have S := T.S
  have e9 : nI (jSu nb n / 2) = nI (jF (fun k s => s + ed k) 0 64 / 2) := by rw [sum_eq T.R]
  refine lv_aload_n hx hb dL_law_426 rfl (lv_at hl 1 rfl) ?_
  refine nr_V (b := h) (As := []) (C := RX) (rest := []) ⟨hx, hb, F.hml, F.hown, hw⟩ (cX_edges_c l D (xA h a1 a2 a3 a4) h a1 a2 a3 a4 cA n u.1.2.2.2 nb u.1.1 u.1.2.1 u.1.2.2.1 hn hnb) (cwV 0 hw (gV w1_43 w1_44 w1_45 w1_1 w1_46) rfl rfl rfl ⟨rfl, by decide, by decide, by decide +kernel⟩ ⟨Nat.le_of_ble_eq_true rfl, Nat.le_of_ble_eq_true rfl⟩) gB_blind (va_recv (q0 := 0) (ci := 0) F.Km (hx_P P1) rfl rfl) (gB_at (hx_P P1) F.Km _) rfl hl.1 rfl (Nat.le_of_ble_eq_true rfl) dL_law_427 ⟨hc0, hs0⟩ ?_
  refine lv_aload_n hx hb dL_law_430 rfl (lv_at hl 2 rfl) ?_
  refine lw_mod (rest := [.int (nI (jSu nb n / 2))]) (As := []) (fun _ => um) F P1 P2 S (cM_edges_c l D (mA g0 b1 b2 b3 b4 b5) g0 b1 b2 b3 b4 b5 cA n ft ed um.1 um.2.1 um.2.2.1 um.2.2.2 hed1) (fun _ _ h9 => h9) (cwV 0 hw (gV w2_156 w2_157 w2_158 w1_2 w2_159) rfl rfl rfl ⟨rfl, by decide, by decide, by decide +kernel⟩ ⟨Nat.le_of_ble_eq_true rfl, Nat.le_of_ble_eq_true rfl⟩) rfl hl.1 rfl (Nat.le_of_ble_eq_true rfl) dL_law_431 ⟨hc0, hs0⟩ (fun r8 w8 H locs hpost8 P1 P2 S => ?_)
  subst hpost8
  refine lv_icmp_eq (tgt := 822) hx hb dL_law_434 rfl (fun _ => ?_) (fun h9 => absurd e9 h9)
  refine W.widen (k := cells + 1) (n := slots + 6) (by omega) (by omega) ?_
  exact kk _ _ _ _ _ _ _ _ ls ⟨T.R, P1, P2, S⟩ hl

set_option maxHeartbeats 4000000 in
set_option maxRecDepth 100000 in
theorem lc_apart (F : LFix p l s m c b L xs D cA cL h a1 a2 a3 a4 o g0 b1 b2 b3 b4 b5) (T : LSt s D cA cL h a1 a2 a3 a4 o g0 b1 b2 b3 b4 b5 n nb u ft ed um H locs) (hi : i + 2 < L) (hc : cells + 1 ≤ 667068) (hs : slots + 6 ≤ 7094901) (kk : LK p l e room_1 s m below meth c Q D cA cL b h a1 a2 a3 a4 o g0 b1 b2 b3 b4 b5 i (cells + 1) (slots + 6)) (hl : lv_has ls 7 [(0, .ref b), (1, .ref h), (2, .ref g0), (3, .ref o), (4, .int (nI i))])  : W p l e room_1 s m #[Value.ref b] below meth c H locs cells slots Q (F0 m 708 ls []) := by
  have hx := F.hx
  have hb := F.hb
  have hw := F.hw
  have hn := T.R.1
  have hnb := rel_lt T.R
  have hed1 := T.R.2.1
  have hed := rel_e9 T.R
  have hc0 : cells ≤ 667068 := by omega
  have hs0 : slots ≤ 7094901 := by omega
  have P1 := T.P1
  have P2 := T.P2
  have S := T.S
  have e9 : nI (jBest (jAp nb n) (2 ^ n)) = nI (jBest (fun set => mAl ed set 0 n) (2 ^ n)) := congrArg nI (best_eq fun k hk => ap_eq T.R hk)
  refine lv_aload_n hx hb dL_law_708 rfl (lv_at hl 1 rfl) ?_
  refine nr_V (b := h) (As := []) (C := RX) (rest := []) ⟨hx, hb, F.hml, F.hown, hw⟩ (cX_apart_c l D (xA h a1 a2 a3 a4) h a1 a2 a3 a4 cA n u.1.2.2.2 nb u.1.1 u.1.2.1 u.1.2.2.1 hn hnb) (cwV 0 hw (gV w1_93 w1_94 w1_95 w1_1 w1_96) rfl rfl rfl ⟨rfl, by decide, by decide, by decide +kernel⟩ ⟨Nat.le_of_ble_eq_true rfl, Nat.le_of_ble_eq_true rfl⟩) gB_blind (va_recv (q0 := 0) (ci := 0) F.Km (hx_P P1) rfl rfl) (gB_at (hx_P P1) F.Km _) rfl hl.1 rfl (Nat.le_of_ble_eq_true rfl) dL_law_709 ⟨hc0, hs0⟩ ?_
  refine lv_aload_n hx hb dL_law_712 rfl (lv_at hl 2 rfl) ?_
  refine lw_mod (rest := [.int (nI (jBest (jAp nb n) (2 ^ n)))]) (As := []) (fun _ => um) F P1 P2 S (cM_apart_c l D (mA g0 b1 b2 b3 b4 b5) g0 b1 b2 b3 b4 b5 cA n ft ed um.1 um.2.1 um.2.2.1 um.2.2.2 hn hed1) (fun _ _ h9 => h9) (cwV 0 hw (gV w2_212 w2_213 w2_214 w1_2 w2_215) rfl rfl rfl ⟨rfl, by decide, by decide, by decide +kernel⟩ ⟨Nat.le_of_ble_eq_true rfl, Nat.le_of_ble_eq_true rfl⟩) rfl hl.1 rfl (Nat.le_of_ble_eq_true rfl) dL_law_713 ⟨hc0, hs0⟩ (fun r8 w8 H locs hpost8 P1 P2 S => ?_)
  subst hpost8
  refine lv_icmp_eq (tgt := 822) hx hb dL_law_716 rfl (fun _ => ?_) (fun h9 => absurd e9 h9)
  refine W.widen (k := cells + 1) (n := slots + 6) (by omega) (by omega) ?_
  exact kk _ _ _ _ _ _ _ _ ls ⟨T.R, P1, P2, S⟩ hl

set_option maxHeartbeats 4000000 in
set_option maxRecDepth 100000 in
theorem lc_close (F : LFix p l s m c b L xs D cA cL h a1 a2 a3 a4 o g0 b1 b2 b3 b4 b5) (T : LSt s D cA cL h a1 a2 a3 a4 o g0 b1 b2 b3 b4 b5 n nb u ft ed um H locs) (hi : i + 2 < L) (hc : cells + 1 ≤ 667068) (hs : slots + 6 ≤ 7094901) (kk : LK p l e room_1 s m below meth c Q D cA cL b h a1 a2 a3 a4 o g0 b1 b2 b3 b4 b5 i (cells + 1) (slots + 6)) (hl : lv_has ls 7 [(0, .ref b), (1, .ref h), (2, .ref g0), (3, .ref o), (4, .int (nI i))])  : W p l e room_1 s m #[Value.ref b] below meth c H locs cells slots Q (F0 m 721 ls []) := by
  have hx := F.hx
  have hb := F.hb
  have hw := F.hw
  have hn := T.R.1
  have hnb := rel_lt T.R
  have hed1 := T.R.2.1
  have hed := rel_e9 T.R
  have hc0 : cells ≤ 667068 := by omega
  have hs0 : slots ≤ 7094901 := by omega
  have P1 := T.P1
  have P2 := T.P2
  have S := T.S
  have e9 : nI (jBest (fun set => jCl nb set n) (2 ^ n)) = nI (jBest (fun set => mAl ed set 1 n) (2 ^ n)) := congrArg nI (best_eq fun k hk => cl_eq T.R hk)
  refine lv_aload_n hx hb dL_law_721 rfl (lv_at hl 1 rfl) ?_
  refine nr_V (b := h) (As := []) (C := RX) (rest := []) ⟨hx, hb, F.hml, F.hown, hw⟩ (cX_close_c l D (xA h a1 a2 a3 a4) h a1 a2 a3 a4 cA n u.1.2.2.2 nb u.1.1 u.1.2.1 u.1.2.2.1 hn hnb) (cwV 0 hw (gV w1_105 w1_106 w1_107 w1_1 w1_108) rfl rfl rfl ⟨rfl, by decide, by decide, by decide +kernel⟩ ⟨Nat.le_of_ble_eq_true rfl, Nat.le_of_ble_eq_true rfl⟩) gB_blind (va_recv (q0 := 0) (ci := 0) F.Km (hx_P P1) rfl rfl) (gB_at (hx_P P1) F.Km _) rfl hl.1 rfl (Nat.le_of_ble_eq_true rfl) dL_law_722 ⟨hc0, hs0⟩ ?_
  refine lv_aload_n hx hb dL_law_725 rfl (lv_at hl 2 rfl) ?_
  refine lw_mod (rest := [.int (nI (jBest (fun set => jCl nb set n) (2 ^ n)))]) (As := []) (fun _ => um) F P1 P2 S (cM_close_c l D (mA g0 b1 b2 b3 b4 b5) g0 b1 b2 b3 b4 b5 cA n ft ed um.1 um.2.1 um.2.2.1 um.2.2.2 hn hed1) (fun _ _ h9 => h9) (cwV 0 hw (gV w2_227 w2_228 w2_229 w1_2 w2_230) rfl rfl rfl ⟨rfl, by decide, by decide, by decide +kernel⟩ ⟨Nat.le_of_ble_eq_true rfl, Nat.le_of_ble_eq_true rfl⟩) rfl hl.1 rfl (Nat.le_of_ble_eq_true rfl) dL_law_726 ⟨hc0, hs0⟩ (fun r8 w8 H locs hpost8 P1 P2 S => ?_)
  subst hpost8
  refine lv_icmp_eq (tgt := 822) hx hb dL_law_729 rfl (fun _ => ?_) (fun h9 => absurd e9 h9)
  refine W.widen (k := cells + 1) (n := slots + 6) (by omega) (by omega) ?_
  exact kk _ _ _ _ _ _ _ _ ls ⟨T.R, P1, P2, S⟩ hl

set_option maxHeartbeats 4000000 in
set_option maxRecDepth 100000 in
theorem lc_isLine_y (F : LFix p l s m c b L xs D cA cL h a1 a2 a3 a4 o g0 b1 b2 b3 b4 b5) (T : LSt s D cA cL h a1 a2 a3 a4 o g0 b1 b2 b3 b4 b5 n nb u ft ed um H locs) (hi : i + 2 < L) (hc : cells + 1 ≤ 667068) (hs : slots + 6 ≤ 7094901) (kk : LK p l e room_1 s m below meth c Q D cA cL b h a1 a2 a3 a4 o g0 b1 b2 b3 b4 b5 i (cells + 1) (slots + 6)) (hl : lv_has ls 7 [(0, .ref b), (1, .ref h), (2, .ref g0), (3, .ref o), (4, .int (nI i))]) (x : List (Nat × Nat × Nat) × Nat) (hres : srN (fun v j => ed (8 * v + j)) (meN (2 ^ n - 1) n 0) [] 0 = some x) : W p l e room_1 s m #[Value.ref b] below meth c H locs cells slots Q (F0 m 495 ls []) := by
  have hx := F.hx
  have hb := F.hb
  have hw := F.hw
  have hn := T.R.1
  have hnb := rel_lt T.R
  have hed1 := T.R.2.1
  have hed := rel_e9 T.R
  have hc0 : cells ≤ 667068 := by omega
  have hs0 : slots ≤ 7094901 := by omega
  have P1 := T.P1
  have P2 := T.P2
  have S := T.S
  refine lv_aload_n hx hb dL_law_495 rfl (lv_at hl 1 rfl) ?_
  have hAx := hx_A (F.Dh n nb u)
  refine va_calli (va_runV (C := RX) (As := []) (rest := []) ⟨hx, hb, F.hml, F.hown, hw⟩ (cX_isLine_c l D (xA h a1 a2 a3 a4) h a1 a2 a3 a4 cA n u.1.2.2.2 nb u.1.1 u.1.2.1 u.1.2.2.1 (fun v j => ed (8 * v + j)) hn hnb hed) (cwV 0 hw (gV w1_53 w1_54 w1_55 w1_1 w1_56) rfl rfl rfl ⟨rfl, by decide, by decide, by decide +kernel⟩ ⟨Nat.le_of_ble_eq_true rfl, Nat.le_of_ble_eq_true rfl⟩) ⟨gW_blind, va_recv (q0 := 0) (ci := 0) F.Km (hx_P P1) rfl rfl, gW_at (hx_P P1) F.Km (hx_Dx (F.Dh n nb u) n nb u.1) _⟩ rfl rfl hl.1 rfl (lv_room (Nat.le_of_ble_eq_true rfl)) dL_law_496 ⟨hc0, hs0⟩) S (fun q _ h9 => F.ox q (hAx q h9)) (fun q h9 => F.ox q (hAx q h9)) (fun r9 u5 t9 H locs ht9 hvm9 hpost9 hB9 hz9 hk9 S => ?_)
  obtain ⟨hPy, -, -⟩ := hB9
  rw [ht9] at hPy
  have P1 := hx_J P1 (F.Dh n nb u) hk9 hPy
  have P2 := F.km P2 (fun q h7 h8 => hk9 q h7 (fun h6 => h8 (hAx q h6)))
  have hr9 := hpost9.1
  rw [hres] at hr9
  have hr9 : r9 = bI true := hr9
  subst hr9
  refine lv_aload_n hx hb dL_law_499 rfl (lv_at hl 2 rfl) ?_
  refine lw_mod (rest := [.int (bI true)]) (As := []) (fun w => w) F P1 P2 S (cM_isLine_y l D (mA g0 b1 b2 b3 b4 b5) g0 b1 b2 b3 b4 b5 cA n ft ed um.1 um.2.1 um.2.2.1 um.2.2.2 hn hed1 x hres) (fun _ _ h9 => h9) (cwV 0 hw (gV w2_164 w2_165 w2_166 w1_2 w2_167) rfl rfl rfl ⟨rfl, by decide, by decide, by decide +kernel⟩ ⟨Nat.le_of_ble_eq_true rfl, Nat.le_of_ble_eq_true rfl⟩) rfl hl.1 rfl (Nat.le_of_ble_eq_true rfl) dL_law_500 ⟨hc0, hs0⟩ (fun r8 w8 H locs hpost8 P1 P2 S => ?_)
  obtain ⟨hr8, hmu⟩ := hpost8
  subst hr8
  refine lv_icmp_eq (tgt := 822) hx hb dL_law_503 rfl (fun _ => ?_) (fun h9 => absurd rfl h9)
  refine W.widen (k := cells + 1) (n := slots + 6) (by omega) (by omega) ?_
  exact kk _ _ _ _ _ _ _ _ ls ⟨T.R, P1, P2, S⟩ hl

set_option maxHeartbeats 4000000 in
set_option maxRecDepth 100000 in
theorem lc_isLine_n (F : LFix p l s m c b L xs D cA cL h a1 a2 a3 a4 o g0 b1 b2 b3 b4 b5) (T : LSt s D cA cL h a1 a2 a3 a4 o g0 b1 b2 b3 b4 b5 n nb u ft ed um H locs) (hi : i + 2 < L) (hc : cells + 1 ≤ 667068) (hs : slots + 6 ≤ 7094901) (kk : LK p l e room_1 s m below meth c Q D cA cL b h a1 a2 a3 a4 o g0 b1 b2 b3 b4 b5 i (cells + 1) (slots + 6)) (hl : lv_has ls 7 [(0, .ref b), (1, .ref h), (2, .ref g0), (3, .ref o), (4, .int (nI i))]) (hres : srN (fun v j => ed (8 * v + j)) (meN (2 ^ n - 1) n 0) [] 0 = none) : W p l e room_1 s m #[Value.ref b] below meth c H locs cells slots Q (F0 m 495 ls []) := by
  have hx := F.hx
  have hb := F.hb
  have hw := F.hw
  have hn := T.R.1
  have hnb := rel_lt T.R
  have hed1 := T.R.2.1
  have hed := rel_e9 T.R
  have hc0 : cells ≤ 667068 := by omega
  have hs0 : slots ≤ 7094901 := by omega
  have P1 := T.P1
  have P2 := T.P2
  have S := T.S
  refine lv_aload_n hx hb dL_law_495 rfl (lv_at hl 1 rfl) ?_
  have hAx := hx_A (F.Dh n nb u)
  refine va_calli (va_runV (C := RX) (As := []) (rest := []) ⟨hx, hb, F.hml, F.hown, hw⟩ (cX_isLine_c l D (xA h a1 a2 a3 a4) h a1 a2 a3 a4 cA n u.1.2.2.2 nb u.1.1 u.1.2.1 u.1.2.2.1 (fun v j => ed (8 * v + j)) hn hnb hed) (cwV 0 hw (gV w1_53 w1_54 w1_55 w1_1 w1_56) rfl rfl rfl ⟨rfl, by decide, by decide, by decide +kernel⟩ ⟨Nat.le_of_ble_eq_true rfl, Nat.le_of_ble_eq_true rfl⟩) ⟨gW_blind, va_recv (q0 := 0) (ci := 0) F.Km (hx_P P1) rfl rfl, gW_at (hx_P P1) F.Km (hx_Dx (F.Dh n nb u) n nb u.1) _⟩ rfl rfl hl.1 rfl (lv_room (Nat.le_of_ble_eq_true rfl)) dL_law_496 ⟨hc0, hs0⟩) S (fun q _ h9 => F.ox q (hAx q h9)) (fun q h9 => F.ox q (hAx q h9)) (fun r9 u5 t9 H locs ht9 hvm9 hpost9 hB9 hz9 hk9 S => ?_)
  obtain ⟨hPy, -, -⟩ := hB9
  rw [ht9] at hPy
  have P1 := hx_J P1 (F.Dh n nb u) hk9 hPy
  have P2 := F.km P2 (fun q h7 h8 => hk9 q h7 (fun h6 => h8 (hAx q h6)))
  have hr9 := hpost9.1
  rw [hres] at hr9
  have hr9 : r9 = bI false := hr9
  subst hr9
  refine lv_aload_n hx hb dL_law_499 rfl (lv_at hl 2 rfl) ?_
  refine lw_mod (rest := [.int (bI false)]) (As := []) (fun w => w) F P1 P2 S (cM_isLine_n l D (mA g0 b1 b2 b3 b4 b5) g0 b1 b2 b3 b4 b5 cA n ft ed um.1 um.2.1 um.2.2.1 um.2.2.2 hn hed1 hres) (fun _ _ h9 => h9) (cwV 0 hw (gV w2_164 w2_165 w2_166 w1_2 w2_167) rfl rfl rfl ⟨rfl, by decide, by decide, by decide +kernel⟩ ⟨Nat.le_of_ble_eq_true rfl, Nat.le_of_ble_eq_true rfl⟩) rfl hl.1 rfl (Nat.le_of_ble_eq_true rfl) dL_law_500 ⟨hc0, hs0⟩ (fun r8 w8 H locs hpost8 P1 P2 S => ?_)
  subst hpost8
  refine lv_icmp_eq (tgt := 822) hx hb dL_law_503 rfl (fun _ => ?_) (fun h9 => absurd rfl h9)
  refine W.widen (k := cells + 1) (n := slots + 6) (by omega) (by omega) ?_
  exact kk _ _ _ _ _ _ _ _ ls ⟨T.R, P1, P2, S⟩ hl

end LC
