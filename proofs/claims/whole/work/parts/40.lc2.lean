section LC
variable {p : Program} {l : Launch} {e : Env} {s : State} {m : MethodId} {below : List Frame} {meth : Method} {c : Code} {Q : State → Prop} {cells slots : Nat} {D : va_G} {H : Heap} {locs : List Loc} {ls : Array Slot}
variable {h a1 a2 a3 a4 o g0 b1 b2 b3 b4 b5 b L i : Nat} {cA cL : ClassId} {xs : Nat → Int32}
variable {n ft : Nat} {nb ed : Nat → Nat} {u : hU} {um : UM}

set_option maxHeartbeats 4000000 in
set_option maxRecDepth 100000 in
theorem lc_adjacent_n1 (F : LFix p l s m c b L xs D cA cL h a1 a2 a3 a4 o g0 b1 b2 b3 b4 b5) (T : LSt s D cA cL h a1 a2 a3 a4 o g0 b1 b2 b3 b4 b5 n nb u ft ed um H locs) (hi : i + 2 < L) (hc : cells + 1 ≤ 667068) (hs : slots + 6 ≤ 7094901) (kk : LK p l e room_1 s m below meth c Q D cA cL b h a1 a2 a3 a4 o g0 b1 b2 b3 b4 b5 i (cells + 1) (slots + 6)) (hl : lv_has ls 7 [(0, .ref b), (1, .ref h), (2, .ref g0), (3, .ref o), (4, .int (nI i))]) (hz : ∀ k, k < n → xs (i + 1) ≠ nI k) : W p l e room_1 s m #[Value.ref b] below meth c H locs cells slots Q (F0 m 338 ls []) := by
  have hx := F.hx
  have hb := F.hb
  have hw := F.hw
  have hn := T.R.1
  have hnb := rel_lt T.R
  have hed1 := T.R.2.1
  have hed := rel_e9 T.R
  have hc0 : cells ≤ 667068 := by omega
  have hs0 : slots ≤ 7094901 := by omega
  have P1 := T.P1
  have P2 := T.P2
  have S := T.S
  refine lv_aload_n hx hb dL_law_338 rfl (lv_at hl 1 rfl) ?_
  refine lv_aload_n hx hb dL_law_339 rfl (lv_at hl 0 rfl) ?_
  refine lv_iload hx hb dL_law_340 (lv_at hl 4 rfl) ?_
  refine lv_iconst (v := nI 1) hx hb dL_law_342 (by decide) ?_
  refine nv_iadd (x := i) (y := 1) hx hb dL_law_343 ?_
  refine lw_sld (i := i + 1) F S rfl (by omega) dL_law_344 ?_
  refine lv_aload_n hx hb dL_law_345 rfl (lv_at hl 0 rfl) ?_
  refine lv_iload hx hb dL_law_346 (lv_at hl 4 rfl) ?_
  refine lv_iconst (v := nI 2) hx hb dL_law_348 (by decide) ?_
  refine nv_iadd (x := i) (y := 2) hx hb dL_law_349 ?_
  refine lw_sld (i := i + 2) F S rfl (by omega) dL_law_350 ?_
  refine lv_aload_n hx hb dL_law_351 rfl (lv_at hl 3 rfl) ?_
  refine lw_help (k9 := 4) (rest := []) (As := [.ref h, .int (xs (i + 1)), .int (xs (i + 2)), .ref o]) F P1 P2 S (hL_adjacent_n1 l D (xo h a1 a2 a3 a4 o) h a1 a2 a3 a4 o cA cL n nb u (xs (i + 1)) (xs (i + 2)) F.hst hn hz) w2_15 w2_13 w2_14 w1_0 ⟨by decide, by decide, by decide +kernel⟩ ⟨Nat.le_of_ble_eq_true rfl, Nat.le_of_ble_eq_true rfl⟩ rfl hl.1 rfl (Nat.le_of_ble_eq_true rfl) dL_law_352 ⟨hc, hs⟩ (fun r9 w9 H locs hpost9 P1 P2 S => ?_)
  obtain ⟨hr9, -⟩ := hpost9
  subst hr9
  refine lv_istore hx hb dL_law_355 hl (by decide) (lv' := [(5, .int (nI 1)), (0, .ref b), (1, .ref h), (2, .ref g0), (3, .ref o), (4, .int (nI i))]) rfl (fun ls hl => ?_)
  refine lv_aload_n hx hb dL_law_357 rfl (lv_at hl 3 rfl) ?_
  refine lv_aload_n hx hb dL_law_358 rfl (lv_at hl 1 rfl) ?_
  refine lv_iload hx hb dL_law_359 (lv_at hl 5 rfl) ?_
  refine lv_iconst (v := nI 1) hx hb dL_law_361 (by decide) ?_
  refine nv_iadd (x := i) (y := 1) hx hb dL_law_362 ?_
  refine lw_sld (i := i + 1) F S rfl (by omega) dL_law_363 ?_
  refine lv_aload_n hx hb dL_law_364 rfl (lv_at hl 1 rfl) ?_
  refine lv_iload hx hb dL_law_365 (lv_at hl 5 rfl) ?_
  refine lv_iconst (v := nI 2) hx hb dL_law_367 (by decide) ?_
  refine nv_iadd (x := i) (y := 2) hx hb dL_law_368 ?_
  refine lw_sld (i := i + 2) F S rfl (by omega) dL_law_369 ?_
  refine lw_mod (rest := []) (As := [.int (xs (i + 1)), .int (xs (i + 2))]) (fun _ => um) F P1 P2 S (cM_adjacent_a1 l D (mA g0 b1 b2 b3 b4 b5) g0 b1 b2 b3 b4 b5 cA n ft ed um.1 um.2.1 um.2.2.1 um.2.2.2 (xs (i + 1)) (xs (i + 2)) hn hz) (fun _ _ h9 => h9) (cwV 2 hw (gV w2_148 w2_149 w2_150 w1_2 w2_151) rfl rfl rfl ⟨rfl, by decide, by decide, by decide +kernel⟩ ⟨Nat.le_of_ble_eq_true rfl, Nat.le_of_ble_eq_true rfl⟩) rfl hl.1 rfl (Nat.le_of_ble_eq_true rfl) dL_law_370 ⟨hc, hs⟩ (fun r8 w8 H locs hpost8 P1 P2 S => ?_)
  subst hpost8
  refine lv_istore hx hb dL_law_373 hl (by decide) (lv' := [(6, .int (bI false)), (5, .int (nI 1)), (0, .ref b), (1, .ref h), (2, .ref g0), (3, .ref o), (4, .int (nI i))]) rfl (fun ls hl => ?_)
  refine lv_aload_n hx hb dL_law_375 rfl (lv_at hl 4 rfl) ?_
  refine nr_V (b := g0) (As := []) (C := RM) (rest := []) ⟨hx, hb, F.hml, F.hown, hw⟩ (cM_thrown_c l D (mA g0 b1 b2 b3 b4 b5) g0 b1 b2 b3 b4 b5 cA n 1 ed um.1 um.2.1 um.2.2.1 um.2.2.2) (cwV 0 hw (gV w2_120 w2_121 w2_122 w1_2 w2_123) rfl rfl rfl ⟨rfl, by decide, by decide, by decide +kernel⟩ ⟨Nat.le_of_ble_eq_true rfl, Nat.le_of_ble_eq_true rfl⟩) gB_blind (va_recv (q0 := 0) (ci := 1) F.Km P2 rfl rfl) (gB_at P2 F.Km _) rfl hl.1 rfl (Nat.le_of_ble_eq_true rfl) dL_law_376 ⟨hc, hs⟩ ?_
  refine lv_iload hx hb dL_law_379 (lv_at hl 1 rfl) ?_
  refine lv_icmp_eq (tgt := 386) hx hb dL_law_381 rfl (fun _ => ?_) (fun h9 => absurd rfl h9)
  refine lv_iload hx hb dL_law_386 (lv_at hl 1 rfl) ?_
  refine nv_if_ne (x := 1) (tgt := 410) hx hb dL_law_388 rfl (by decide) (fun _ => ?_) (fun h9 => absurd h9 (by decide))
  refine lv_goto (tgt := 822) hx hb dL_law_410 rfl ?_
  have hl := lv_sub hl (l' := [(0, .ref b), (1, .ref h), (2, .ref g0), (3, .ref o), (4, .int (nI i))]) [2, 3, 4, 5, 6] rfl
  exact kk _ _ _ _ _ _ _ _ ls ⟨T.R, P1, P2, S⟩ hl

set_option maxHeartbeats 4000000 in
set_option maxRecDepth 100000 in
theorem lc_adjacent_n2 (F : LFix p l s m c b L xs D cA cL h a1 a2 a3 a4 o g0 b1 b2 b3 b4 b5) (T : LSt s D cA cL h a1 a2 a3 a4 o g0 b1 b2 b3 b4 b5 n nb u ft ed um H locs) (hi : i + 2 < L) (hc : cells + 1 ≤ 667068) (hs : slots + 6 ≤ 7094901) (kk : LK p l e room_1 s m below meth c Q D cA cL b h a1 a2 a3 a4 o g0 b1 b2 b3 b4 b5 i (cells + 1) (slots + 6)) (hl : lv_has ls 7 [(0, .ref b), (1, .ref h), (2, .ref g0), (3, .ref o), (4, .int (nI i))]) {v1 : Nat} (hz1 : xs (i + 1) = nI v1) (hu : v1 < n) (hz : ∀ k, k < n → xs (i + 2) ≠ nI k) : W p l e room_1 s m #[Value.ref b] below meth c H locs cells slots Q (F0 m 338 ls []) := by
  have hx := F.hx
  have hb := F.hb
  have hw := F.hw
  have hn := T.R.1
  have hnb := rel_lt T.R
  have hed1 := T.R.2.1
  have hed := rel_e9 T.R
  have hc0 : cells ≤ 667068 := by omega
  have hs0 : slots ≤ 7094901 := by omega
  have P1 := T.P1
  have P2 := T.P2
  have S := T.S
  refine lv_aload_n hx hb dL_law_338 rfl (lv_at hl 1 rfl) ?_
  refine lv_aload_n hx hb dL_law_339 rfl (lv_at hl 0 rfl) ?_
  refine lv_iload hx hb dL_law_340 (lv_at hl 4 rfl) ?_
  refine lv_iconst (v := nI 1) hx hb dL_law_342 (by decide) ?_
  refine nv_iadd (x := i) (y := 1) hx hb dL_law_343 ?_
  refine lw_sld (i := i + 1) F S hz1 (by omega) dL_law_344 ?_
  refine lv_aload_n hx hb dL_law_345 rfl (lv_at hl 0 rfl) ?_
  refine lv_iload hx hb dL_law_346 (lv_at hl 4 rfl) ?_
  refine lv_iconst (v := nI 2) hx hb dL_law_348 (by decide) ?_
  refine nv_iadd (x := i) (y := 2) hx hb dL_law_349 ?_
  refine lw_sld (i := i + 2) F S rfl (by omega) dL_law_350 ?_
  refine lv_aload_n hx hb dL_law_351 rfl (lv_at hl 3 rfl) ?_
  refine lw_help (k9 := 4) (rest := []) (As := [.ref h, .int (nI v1), .int (xs (i + 2)), .ref o]) F P1 P2 S (hL_adjacent_n2 l D (xo h a1 a2 a3 a4 o) h a1 a2 a3 a4 o cA cL n nb u v1 (xs (i + 2)) F.hst hn hu hz) w2_15 w2_13 w2_14 w1_0 ⟨by decide, by decide, by decide +kernel⟩ ⟨Nat.le_of_ble_eq_true rfl, Nat.le_of_ble_eq_true rfl⟩ rfl hl.1 rfl (Nat.le_of_ble_eq_true rfl) dL_law_352 ⟨hc, hs⟩ (fun r9 w9 H locs hpost9 P1 P2 S => ?_)
  obtain ⟨hr9, -⟩ := hpost9
  subst hr9
  refine lv_istore hx hb dL_law_355 hl (by decide) (lv' := [(5, .int (nI 1)), (0, .ref b), (1, .ref h), (2, .ref g0), (3, .ref o), (4, .int (nI i))]) rfl (fun ls hl => ?_)
  refine lv_aload_n hx hb dL_law_357 rfl (lv_at hl 3 rfl) ?_
  refine lv_aload_n hx hb dL_law_358 rfl (lv_at hl 1 rfl) ?_
  refine lv_iload hx hb dL_law_359 (lv_at hl 5 rfl) ?_
  refine lv_iconst (v := nI 1) hx hb dL_law_361 (by decide) ?_
  refine nv_iadd (x := i) (y := 1) hx hb dL_law_362 ?_
  refine lw_sld (i := i + 1) F S hz1 (by omega) dL_law_363 ?_
  refine lv_aload_n hx hb dL_law_364 rfl (lv_at hl 1 rfl) ?_
  refine lv_iload hx hb dL_law_365 (lv_at hl 5 rfl) ?_
  refine lv_iconst (v := nI 2) hx hb dL_law_367 (by decide) ?_
  refine nv_iadd (x := i) (y := 2) hx hb dL_law_368 ?_
  refine lw_sld (i := i + 2) F S rfl (by omega) dL_law_369 ?_
  refine lw_mod (rest := []) (As := [.int (nI v1), .int (xs (i + 2))]) (fun _ => um) F P1 P2 S (cM_adjacent_a2 l D (mA g0 b1 b2 b3 b4 b5) g0 b1 b2 b3 b4 b5 cA n ft ed um.1 um.2.1 um.2.2.1 um.2.2.2 v1 (xs (i + 2)) hn hu hz) (fun _ _ h9 => h9) (cwV 2 hw (gV w2_148 w2_149 w2_150 w1_2 w2_151) rfl rfl rfl ⟨rfl, by decide, by decide, by decide +kernel⟩ ⟨Nat.le_of_ble_eq_true rfl, Nat.le_of_ble_eq_true rfl⟩) rfl hl.1 rfl (Nat.le_of_ble_eq_true rfl) dL_law_370 ⟨hc, hs⟩ (fun r8 w8 H locs hpost8 P1 P2 S => ?_)
  subst hpost8
  refine lv_istore hx hb dL_law_373 hl (by decide) (lv' := [(6, .int (bI false)), (5, .int (nI 1)), (0, .ref b), (1, .ref h), (2, .ref g0), (3, .ref o), (4, .int (nI i))]) rfl (fun ls hl => ?_)
  refine lv_aload_n hx hb dL_law_375 rfl (lv_at hl 4 rfl) ?_
  refine nr_V (b := g0) (As := []) (C := RM) (rest := []) ⟨hx, hb, F.hml, F.hown, hw⟩ (cM_thrown_c l D (mA g0 b1 b2 b3 b4 b5) g0 b1 b2 b3 b4 b5 cA n 1 ed um.1 um.2.1 um.2.2.1 um.2.2.2) (cwV 0 hw (gV w2_120 w2_121 w2_122 w1_2 w2_123) rfl rfl rfl ⟨rfl, by decide, by decide, by decide +kernel⟩ ⟨Nat.le_of_ble_eq_true rfl, Nat.le_of_ble_eq_true rfl⟩) gB_blind (va_recv (q0 := 0) (ci := 1) F.Km P2 rfl rfl) (gB_at P2 F.Km _) rfl hl.1 rfl (Nat.le_of_ble_eq_true rfl) dL_law_376 ⟨hc, hs⟩ ?_
  refine lv_iload hx hb dL_law_379 (lv_at hl 1 rfl) ?_
  refine lv_icmp_eq (tgt := 386) hx hb dL_law_381 rfl (fun _ => ?_) (fun h9 => absurd rfl h9)
  refine lv_iload hx hb dL_law_386 (lv_at hl 1 rfl) ?_
  refine nv_if_ne (x := 1) (tgt := 410) hx hb dL_law_388 rfl (by decide) (fun _ => ?_) (fun h9 => absurd h9 (by decide))
  refine lv_goto (tgt := 822) hx hb dL_law_410 rfl ?_
  have hl := lv_sub hl (l' := [(0, .ref b), (1, .ref h), (2, .ref g0), (3, .ref o), (4, .int (nI i))]) [2, 3, 4, 5, 6] rfl
  exact kk _ _ _ _ _ _ _ _ ls ⟨T.R, P1, P2, S⟩ hl

set_option maxHeartbeats 4000000 in
set_option maxRecDepth 100000 in
theorem lc_adjacent_y (F : LFix p l s m c b L xs D cA cL h a1 a2 a3 a4 o g0 b1 b2 b3 b4 b5) (T : LSt s D cA cL h a1 a2 a3 a4 o g0 b1 b2 b3 b4 b5 n nb u ft ed um H locs) (hi : i + 2 < L) (hc : cells + 1 ≤ 667068) (hs : slots + 6 ≤ 7094901) (kk : LK p l e room_1 s m below meth c Q D cA cL b h a1 a2 a3 a4 o g0 b1 b2 b3 b4 b5 i (cells + 1) (slots + 6)) (hl : lv_has ls 7 [(0, .ref b), (1, .ref h), (2, .ref g0), (3, .ref o), (4, .int (nI i))]) {v1 v2 : Nat} (hz1 : xs (i + 1) = nI v1) (hz2 : xs (i + 2) = nI v2) (hu : v1 < n) (hv : v2 < n) : W p l e room_1 s m #[Value.ref b] below meth c H locs cells slots Q (F0 m 338 ls []) := by
  have hx := F.hx
  have hb := F.hb
  have hw := F.hw
  have hn := T.R.1
  have hnb := rel_lt T.R
  have hed1 := T.R.2.1
  have hed := rel_e9 T.R
  have hc0 : cells ≤ 667068 := by omega
  have hs0 : slots ≤ 7094901 := by omega
  have P1 := T.P1
  have P2 := T.P2
  have S := T.S
  refine lv_aload_n hx hb dL_law_338 rfl (lv_at hl 1 rfl) ?_
  refine lv_aload_n hx hb dL_law_339 rfl (lv_at hl 0 rfl) ?_
  refine lv_iload hx hb dL_law_340 (lv_at hl 4 rfl) ?_
  refine lv_iconst (v := nI 1) hx hb dL_law_342 (by decide) ?_
  refine nv_iadd (x := i) (y := 1) hx hb dL_law_343 ?_
  refine lw_sld (i := i + 1) F S hz1 (by omega) dL_law_344 ?_
  refine lv_aload_n hx hb dL_law_345 rfl (lv_at hl 0 rfl) ?_
  refine lv_iload hx hb dL_law_346 (lv_at hl 4 rfl) ?_
  refine lv_iconst (v := nI 2) hx hb dL_law_348 (by decide) ?_
  refine nv_iadd (x := i) (y := 2) hx hb dL_law_349 ?_
  refine lw_sld (i := i + 2) F S hz2 (by omega) dL_law_350 ?_
  refine lv_aload_n hx hb dL_law_351 rfl (lv_at hl 3 rfl) ?_
  refine lw_help (k9 := 4) (rest := []) (As := [.ref h, .int (nI v1), .int (nI v2), .ref o]) F P1 P2 S (hL_adjacent_y l D (xo h a1 a2 a3 a4 o) h a1 a2 a3 a4 o cA cL n nb u v1 v2 hn hnb hu hv) w2_15 w2_13 w2_14 w1_0 ⟨by decide, by decide, by decide +kernel⟩ ⟨Nat.le_of_ble_eq_true rfl, Nat.le_of_ble_eq_true rfl⟩ rfl hl.1 rfl (Nat.le_of_ble_eq_true rfl) dL_law_352 ⟨hc, hs⟩ (fun r9 w9 H locs hpost9 P1 P2 S => ?_)
  obtain ⟨hr9, hval⟩ := hpost9
  subst hr9
  refine lv_istore hx hb dL_law_355 hl (by decide) (lv' := [(5, .int (nI 0)), (0, .ref b), (1, .ref h), (2, .ref g0), (3, .ref o), (4, .int (nI i))]) rfl (fun ls hl => ?_)
  refine lv_aload_n hx hb dL_law_357 rfl (lv_at hl 3 rfl) ?_
  refine lv_aload_n hx hb dL_law_358 rfl (lv_at hl 1 rfl) ?_
  refine lv_iload hx hb dL_law_359 (lv_at hl 5 rfl) ?_
  refine lv_iconst (v := nI 1) hx hb dL_law_361 (by decide) ?_
  refine nv_iadd (x := i) (y := 1) hx hb dL_law_362 ?_
  refine lw_sld (i := i + 1) F S hz1 (by omega) dL_law_363 ?_
  refine lv_aload_n hx hb dL_law_364 rfl (lv_at hl 1 rfl) ?_
  refine lv_iload hx hb dL_law_365 (lv_at hl 5 rfl) ?_
  refine lv_iconst (v := nI 2) hx hb dL_law_367 (by decide) ?_
  refine nv_iadd (x := i) (y := 2) hx hb dL_law_368 ?_
  refine lw_sld (i := i + 2) F S hz2 (by omega) dL_law_369 ?_
  refine lw_mod (rest := []) (As := [.int (nI v1), .int (nI v2)]) (fun _ => um) F P1 P2 S (cM_adjacent_y l D (mA g0 b1 b2 b3 b4 b5) g0 b1 b2 b3 b4 b5 cA n ft ed um.1 um.2.1 um.2.2.1 um.2.2.2 v1 v2 hn hed1 hu hv) (fun _ _ h9 => h9) (cwV 2 hw (gV w2_148 w2_149 w2_150 w1_2 w2_151) rfl rfl rfl ⟨rfl, by decide, by decide, by decide +kernel⟩ ⟨Nat.le_of_ble_eq_true rfl, Nat.le_of_ble_eq_true rfl⟩) rfl hl.1 rfl (Nat.le_of_ble_eq_true rfl) dL_law_370 ⟨hc, hs⟩ (fun r8 w8 H locs hpost8 P1 P2 S => ?_)
  subst hpost8
  refine lv_istore hx hb dL_law_373 hl (by decide) (lv' := [(6, .int (bI (decide (ed (8 * v1 + v2) = 1)))), (5, .int (nI 0)), (0, .ref b), (1, .ref h), (2, .ref g0), (3, .ref o), (4, .int (nI i))]) rfl (fun ls hl => ?_)
  refine lv_aload_n hx hb dL_law_375 rfl (lv_at hl 4 rfl) ?_
  refine nr_V (b := g0) (As := []) (C := RM) (rest := []) ⟨hx, hb, F.hml, F.hown, hw⟩ (cM_thrown_c l D (mA g0 b1 b2 b3 b4 b5) g0 b1 b2 b3 b4 b5 cA n 0 ed um.1 um.2.1 um.2.2.1 um.2.2.2) (cwV 0 hw (gV w2_120 w2_121 w2_122 w1_2 w2_123) rfl rfl rfl ⟨rfl, by decide, by decide, by decide +kernel⟩ ⟨Nat.le_of_ble_eq_true rfl, Nat.le_of_ble_eq_true rfl⟩) gB_blind (va_recv (q0 := 0) (ci := 1) F.Km P2 rfl rfl) (gB_at P2 F.Km _) rfl hl.1 rfl (Nat.le_of_ble_eq_true rfl) dL_law_376 ⟨hc, hs⟩ ?_
  refine lv_iload hx hb dL_law_379 (lv_at hl 1 rfl) ?_
  refine lv_icmp_eq (tgt := 386) hx hb dL_law_381 rfl (fun _ => ?_) (fun h9 => absurd rfl h9)
  refine lv_iload hx hb dL_law_386 (lv_at hl 1 rfl) ?_
  refine nv_if_ne (x := 0) (tgt := 410) hx hb dL_law_388 rfl (by decide) (fun h9 => absurd rfl h9) (fun _ => ?_)
  have e9 := hval
  rw [rel_bit T.R hu hv] at e9
  refine lv_aload_n hx hb dL_law_391 rfl (lv_at hl 5 rfl) ?_
  refine lv_iconst (v := nI 0) hx hb dL_law_392 (by decide) ?_
  refine nv_lald (f := w9.2) hx hb F.hK P1 5 1 rfl rfl dL_law_393 ?_
  refine lv_iload hx hb dL_law_394 (lv_at hl 0 rfl) ?_
  refine nv_b_eq (x := decide (ed (8 * v1 + v2) = 1)) (tgt := 403) hx hb dL_law_396 rfl (fun hcc => ?_) (fun hcc => ?_)
  · refine lv_lconst (v := 0) hx hb dL_law_403 rfl ?_
    refine W.lcmp hx hb dL_law_404 ?_
    refine lv_if_eq (tgt := 410) hx hb dL_law_405 rfl (fun _ => ?_) (fun h9 => absurd ((lg_cmp_eq _ _).mpr (e9.trans (lif_f hcc).symm)) h9)
    refine lv_goto (tgt := 822) hx hb dL_law_410 rfl ?_
    have hl := lv_sub hl (l' := [(0, .ref b), (1, .ref h), (2, .ref g0), (3, .ref o), (4, .int (nI i))]) [2, 3, 4, 5, 6] rfl
    exact kk _ _ _ _ _ _ _ _ ls ⟨T.R, P1, P2, S⟩ hl
  · refine lv_lconst (v := 1) hx hb dL_law_399 rfl ?_
    refine lv_goto (tgt := 404) hx hb dL_law_400 rfl ?_
    refine W.lcmp hx hb dL_law_404 ?_
    refine lv_if_eq (tgt := 410) hx hb dL_law_405 rfl (fun _ => ?_) (fun h9 => absurd ((lg_cmp_eq _ _).mpr (e9.trans (lif_t hcc).symm)) h9)
    refine lv_goto (tgt := 822) hx hb dL_law_410 rfl ?_
    have hl := lv_sub hl (l' := [(0, .ref b), (1, .ref h), (2, .ref g0), (3, .ref o), (4, .int (nI i))]) [2, 3, 4, 5, 6] rfl
    exact kk _ _ _ _ _ _ _ _ ls ⟨T.R, P1, P2, S⟩ hl

set_option maxHeartbeats 4000000 in
set_option maxRecDepth 100000 in
theorem lc_leader_n (F : LFix p l s m c b L xs D cA cL h a1 a2 a3 a4 o g0 b1 b2 b3 b4 b5) (T : LSt s D cA cL h a1 a2 a3 a4 o g0 b1 b2 b3 b4 b5 n nb u ft ed um H locs) (hi : i + 2 < L) (hc : cells + 1 ≤ 667068) (hs : slots + 6 ≤ 7094901) (kk : LK p l e room_1 s m below meth c Q D cA cL b h a1 a2 a3 a4 o g0 b1 b2 b3 b4 b5 i (cells + 1) (slots + 6)) (hl : lv_has ls 7 [(0, .ref b), (1, .ref h), (2, .ref g0), (3, .ref o), (4, .int (nI i))]) (hz : ∀ k, k < n → xs (i + 1) ≠ nI k) : W p l e room_1 s m #[Value.ref b] below meth c H locs cells slots Q (F0 m 439 ls []) := by
  have hx := F.hx
  have hb := F.hb
  have hw := F.hw
  have hn := T.R.1
  have hnb := rel_lt T.R
  have hed1 := T.R.2.1
  have hed := rel_e9 T.R
  have hc0 : cells ≤ 667068 := by omega
  have hs0 : slots ≤ 7094901 := by omega
  have P1 := T.P1
  have P2 := T.P2
  have S := T.S
  refine lv_aload_n hx hb dL_law_439 rfl (lv_at hl 1 rfl) ?_
  refine lv_aload_n hx hb dL_law_440 rfl (lv_at hl 0 rfl) ?_
  refine lv_iload hx hb dL_law_441 (lv_at hl 4 rfl) ?_
  refine lv_iconst (v := nI 1) hx hb dL_law_443 (by decide) ?_
  refine nv_iadd (x := i) (y := 1) hx hb dL_law_444 ?_
  refine lw_sld (i := i + 1) F S rfl (by omega) dL_law_445 ?_
  refine lv_aload_n hx hb dL_law_446 rfl (lv_at hl 3 rfl) ?_
  refine lw_help (k9 := 3) (rest := []) (As := [.ref h, .int (xs (i + 1)), .ref o]) F P1 P2 S (hL_leader_n1 l D (xo h a1 a2 a3 a4 o) h a1 a2 a3 a4 o cA cL n nb u (xs (i + 1)) F.hst hn hz) w2_22 w2_20 w2_21 w1_0 ⟨by decide, by decide, by decide +kernel⟩ ⟨Nat.le_of_ble_eq_true rfl, Nat.le_of_ble_eq_true rfl⟩ rfl hl.1 rfl (Nat.le_of_ble_eq_true rfl) dL_law_447 ⟨hc, hs⟩ (fun r9 w9 H locs hpost9 P1 P2 S => ?_)
  obtain ⟨hr9, -⟩ := hpost9
  subst hr9
  refine lv_istore hx hb dL_law_450 hl (by decide) (lv' := [(5, .int (nI 1)), (0, .ref b), (1, .ref h), (2, .ref g0), (3, .ref o), (4, .int (nI i))]) rfl (fun ls hl => ?_)
  refine lv_aload_n hx hb dL_law_452 rfl (lv_at hl 3 rfl) ?_
  refine lv_aload_n hx hb dL_law_453 rfl (lv_at hl 1 rfl) ?_
  refine lv_iload hx hb dL_law_454 (lv_at hl 5 rfl) ?_
  refine lv_iconst (v := nI 1) hx hb dL_law_456 (by decide) ?_
  refine nv_iadd (x := i) (y := 1) hx hb dL_law_457 ?_
  refine lw_sld (i := i + 1) F S rfl (by omega) dL_law_458 ?_
  refine lw_mod (rest := []) (As := [.int (xs (i + 1))]) (fun _ => um) F P1 P2 S (cM_leader_n l D (mA g0 b1 b2 b3 b4 b5) g0 b1 b2 b3 b4 b5 cA n ft ed um.1 um.2.1 um.2.2.1 um.2.2.2 (xs (i + 1)) hn hz) (fun _ _ h9 => h9) (cwV 1 hw (gV w2_160 w2_161 w2_162 w1_2 w2_163) rfl rfl rfl ⟨rfl, by decide, by decide, by decide +kernel⟩ ⟨Nat.le_of_ble_eq_true rfl, Nat.le_of_ble_eq_true rfl⟩) rfl hl.1 rfl (Nat.le_of_ble_eq_true rfl) dL_law_459 ⟨hc, hs⟩ (fun r8 w8 H locs hpost8 P1 P2 S => ?_)
  subst hpost8
  refine lv_istore hx hb dL_law_462 hl (by decide) (lv' := [(6, .int (nI 0)), (5, .int (nI 1)), (0, .ref b), (1, .ref h), (2, .ref g0), (3, .ref o), (4, .int (nI i))]) rfl (fun ls hl => ?_)
  refine lv_aload_n hx hb dL_law_464 rfl (lv_at hl 4 rfl) ?_
  refine nr_V (b := g0) (As := []) (C := RM) (rest := []) ⟨hx, hb, F.hml, F.hown, hw⟩ (cM_thrown_c l D (mA g0 b1 b2 b3 b4 b5) g0 b1 b2 b3 b4 b5 cA n 1 ed um.1 um.2.1 um.2.2.1 um.2.2.2) (cwV 0 hw (gV w2_120 w2_121 w2_122 w1_2 w2_123) rfl rfl rfl ⟨rfl, by decide, by decide, by decide +kernel⟩ ⟨Nat.le_of_ble_eq_true rfl, Nat.le_of_ble_eq_true rfl⟩) gB_blind (va_recv (q0 := 0) (ci := 1) F.Km P2 rfl rfl) (gB_at P2 F.Km _) rfl hl.1 rfl (Nat.le_of_ble_eq_true rfl) dL_law_465 ⟨hc, hs⟩ ?_
  refine lv_iload hx hb dL_law_468 (lv_at hl 1 rfl) ?_
  refine lv_icmp_eq (tgt := 475) hx hb dL_law_470 rfl (fun _ => ?_) (fun h9 => absurd rfl h9)
  refine lv_iload hx hb dL_law_475 (lv_at hl 1 rfl) ?_
  refine nv_if_ne (x := 1) (tgt := 492) hx hb dL_law_477 rfl (by decide) (fun _ => ?_) (fun h9 => absurd h9 (by decide))
  refine lv_goto (tgt := 822) hx hb dL_law_492 rfl ?_
  have hl := lv_sub hl (l' := [(0, .ref b), (1, .ref h), (2, .ref g0), (3, .ref o), (4, .int (nI i))]) [2, 3, 4, 5, 6] rfl
  exact kk _ _ _ _ _ _ _ _ ls ⟨T.R, P1, P2, S⟩ hl

set_option maxHeartbeats 4000000 in
set_option maxRecDepth 100000 in
theorem lc_leader_y (F : LFix p l s m c b L xs D cA cL h a1 a2 a3 a4 o g0 b1 b2 b3 b4 b5) (T : LSt s D cA cL h a1 a2 a3 a4 o g0 b1 b2 b3 b4 b5 n nb u ft ed um H locs) (hi : i + 2 < L) (hc : cells + 1 ≤ 667068) (hs : slots + 6 ≤ 7094901) (kk : LK p l e room_1 s m below meth c Q D cA cL b h a1 a2 a3 a4 o g0 b1 b2 b3 b4 b5 i (cells + 1) (slots + 6)) (hl : lv_has ls 7 [(0, .ref b), (1, .ref h), (2, .ref g0), (3, .ref o), (4, .int (nI i))]) {v : Nat} (hz1 : xs (i + 1) = nI v) (hv : v < n) : W p l e room_1 s m #[Value.ref b] below meth c H locs cells slots Q (F0 m 439 ls []) := by
  have hx := F.hx
  have hb := F.hb
  have hw := F.hw
  have hn := T.R.1
  have hnb := rel_lt T.R
  have hed1 := T.R.2.1
  have hed := rel_e9 T.R
  have hc0 : cells ≤ 667068 := by omega
  have hs0 : slots ≤ 7094901 := by omega
  have P1 := T.P1
  have P2 := T.P2
  have S := T.S
  refine lv_aload_n hx hb dL_law_439 rfl (lv_at hl 1 rfl) ?_
  refine lv_aload_n hx hb dL_law_440 rfl (lv_at hl 0 rfl) ?_
  refine lv_iload hx hb dL_law_441 (lv_at hl 4 rfl) ?_
  refine lv_iconst (v := nI 1) hx hb dL_law_443 (by decide) ?_
  refine nv_iadd (x := i) (y := 1) hx hb dL_law_444 ?_
  refine lw_sld (i := i + 1) F S hz1 (by omega) dL_law_445 ?_
  refine lv_aload_n hx hb dL_law_446 rfl (lv_at hl 3 rfl) ?_
  refine lw_help (k9 := 3) (rest := []) (As := [.ref h, .int (nI v), .ref o]) F P1 P2 S (hL_leader_y l D (xo h a1 a2 a3 a4 o) h a1 a2 a3 a4 o cA cL n nb u v hn hnb hv) w2_22 w2_20 w2_21 w1_0 ⟨by decide, by decide, by decide +kernel⟩ ⟨Nat.le_of_ble_eq_true rfl, Nat.le_of_ble_eq_true rfl⟩ rfl hl.1 rfl (Nat.le_of_ble_eq_true rfl) dL_law_447 ⟨hc, hs⟩ (fun r9 w9 H locs hpost9 P1 P2 S => ?_)
  obtain ⟨hr9, hval⟩ := hpost9
  subst hr9
  refine lv_istore hx hb dL_law_450 hl (by decide) (lv' := [(5, .int (nI 0)), (0, .ref b), (1, .ref h), (2, .ref g0), (3, .ref o), (4, .int (nI i))]) rfl (fun ls hl => ?_)
  refine lv_aload_n hx hb dL_law_452 rfl (lv_at hl 3 rfl) ?_
  refine lv_aload_n hx hb dL_law_453 rfl (lv_at hl 1 rfl) ?_
  refine lv_iload hx hb dL_law_454 (lv_at hl 5 rfl) ?_
  refine lv_iconst (v := nI 1) hx hb dL_law_456 (by decide) ?_
  refine nv_iadd (x := i) (y := 1) hx hb dL_law_457 ?_
  refine lw_sld (i := i + 1) F S hz1 (by omega) dL_law_458 ?_
  refine lw_mod (rest := []) (As := [.int (nI v)]) (fun _ => um) F P1 P2 S (cM_leader_y l D (mA g0 b1 b2 b3 b4 b5) g0 b1 b2 b3 b4 b5 cA n ft ed um.1 um.2.1 um.2.2.1 um.2.2.2 v hn hed1 hv) (fun _ _ h9 => h9) (cwV 1 hw (gV w2_160 w2_161 w2_162 w1_2 w2_163) rfl rfl rfl ⟨rfl, by decide, by decide, by decide +kernel⟩ ⟨Nat.le_of_ble_eq_true rfl, Nat.le_of_ble_eq_true rfl⟩) rfl hl.1 rfl (Nat.le_of_ble_eq_true rfl) dL_law_459 ⟨hc, hs⟩ (fun r8 w8 H locs hpost8 P1 P2 S => ?_)
  subst hpost8
  refine lv_istore hx hb dL_law_462 hl (by decide) (lv' := [(6, .int (nI (tzN (mRe ed v n)))), (5, .int (nI 0)), (0, .ref b), (1, .ref h), (2, .ref g0), (3, .ref o), (4, .int (nI i))]) rfl (fun ls hl => ?_)
  refine lv_aload_n hx hb dL_law_464 rfl (lv_at hl 4 rfl) ?_
  refine nr_V (b := g0) (As := []) (C := RM) (rest := []) ⟨hx, hb, F.hml, F.hown, hw⟩ (cM_thrown_c l D (mA g0 b1 b2 b3 b4 b5) g0 b1 b2 b3 b4 b5 cA n 0 ed um.1 um.2.1 um.2.2.1 um.2.2.2) (cwV 0 hw (gV w2_120 w2_121 w2_122 w1_2 w2_123) rfl rfl rfl ⟨rfl, by decide, by decide, by decide +kernel⟩ ⟨Nat.le_of_ble_eq_true rfl, Nat.le_of_ble_eq_true rfl⟩) gB_blind (va_recv (q0 := 0) (ci := 1) F.Km P2 rfl rfl) (gB_at P2 F.Km _) rfl hl.1 rfl (Nat.le_of_ble_eq_true rfl) dL_law_465 ⟨hc, hs⟩ ?_
  refine lv_iload hx hb dL_law_468 (lv_at hl 1 rfl) ?_
  refine lv_icmp_eq (tgt := 475) hx hb dL_law_470 rfl (fun _ => ?_) (fun h9 => absurd rfl h9)
  refine lv_iload hx hb dL_law_475 (lv_at hl 1 rfl) ?_
  refine nv_if_ne (x := 0) (tgt := 492) hx hb dL_law_477 rfl (by decide) (fun h9 => absurd rfl h9) (fun _ => ?_)
  have e9 := hval
  rw [re_eq T.R hv] at e9
  refine lv_aload_n hx hb dL_law_480 rfl (lv_at hl 5 rfl) ?_
  refine lv_iconst (v := nI 0) hx hb dL_law_481 (by decide) ?_
  refine nv_lald (f := w9.2) hx hb F.hK P1 5 1 rfl rfl dL_law_482 ?_
  refine lv_iload hx hb dL_law_483 (lv_at hl 0 rfl) ?_
  refine lv_i2l (v := (nI (tzN (mRe ed v n)) : Int32).toInt64) hx hb dL_law_485 rfl ?_
  refine W.lcmp hx hb dL_law_486 ?_
  refine lv_if_eq (tgt := 492) hx hb dL_law_487 rfl (fun _ => ?_) (fun h9 => absurd ((lg_cmp_eq _ _).mpr e9) h9)
  refine lv_goto (tgt := 822) hx hb dL_law_492 rfl ?_
  have hl := lv_sub hl (l' := [(0, .ref b), (1, .ref h), (2, .ref g0), (3, .ref o), (4, .int (nI i))]) [2, 3, 4, 5, 6] rfl
  exact kk _ _ _ _ _ _ _ _ ls ⟨T.R, P1, P2, S⟩ hl

set_option maxHeartbeats 4000000 in
set_option maxRecDepth 100000 in
theorem lc_ends_y (F : LFix p l s m c b L xs D cA cL h a1 a2 a3 a4 o g0 b1 b2 b3 b4 b5) (T : LSt s D cA cL h a1 a2 a3 a4 o g0 b1 b2 b3 b4 b5 n nb u ft ed um H locs) (hi : i + 2 < L) (hc : cells + 1 ≤ 667068) (hs : slots + 6 ≤ 7094901) (kk : LK p l e room_1 s m below meth c Q D cA cL b h a1 a2 a3 a4 o g0 b1 b2 b3 b4 b5 i (cells + 1) (slots + 6)) (hl : lv_has ls 7 [(0, .ref b), (1, .ref h), (2, .ref g0), (3, .ref o), (4, .int (nI i))]) (x : List (Nat × Nat × Nat) × Nat) (hres : srN (fun v j => ed (8 * v + j)) (meN (2 ^ n - 1) n 0) [] 0 = some x) : W p l e room_1 s m #[Value.ref b] below meth c H locs cells slots Q (F0 m 508 ls []) := by
  have hx := F.hx
  have hb := F.hb
  have hw := F.hw
  have hn := T.R.1
  have hnb := rel_lt T.R
  have hed1 := T.R.2.1
  have hed := rel_e9 T.R
  have hc0 : cells ≤ 667068 := by omega
  have hs0 : slots ≤ 7094901 := by omega
  have P1 := T.P1
  have P2 := T.P2
  have S := T.S
  refine lv_aload_n hx hb dL_law_508 rfl (lv_at hl 1 rfl) ?_
  refine lv_aload_n hx hb dL_law_509 rfl (lv_at hl 3 rfl) ?_
  refine lw_help (k9 := 2) (rest := []) (As := [.ref h, .ref o]) F P1 P2 S (hL_ends_y l D (xo h a1 a2 a3 a4 o) h a1 a2 a3 a4 o cA cL n nb u (fun v j => ed (8 * v + j)) hn hnb hed x hres) w2_33 w2_31 w2_32 w1_0 ⟨by decide, by decide, by decide +kernel⟩ ⟨Nat.le_of_ble_eq_true rfl, Nat.le_of_ble_eq_true rfl⟩ rfl hl.1 rfl (Nat.le_of_ble_eq_true rfl) dL_law_510 ⟨hc, hs⟩ (fun r9 w9 H locs hpost9 P1 P2 S => ?_)
  obtain ⟨hr9, hval⟩ := hpost9
  subst hr9
  refine lv_istore hx hb dL_law_513 hl (by decide) (lv' := [(5, .int (nI 0)), (0, .ref b), (1, .ref h), (2, .ref g0), (3, .ref o), (4, .int (nI i))]) rfl (fun ls hl => ?_)
  refine lv_aload_n hx hb dL_law_515 rfl (lv_at hl 3 rfl) ?_
  refine lw_mod (rest := []) (As := []) (fun w => w) F P1 P2 S (cM_ends_y l D (mA g0 b1 b2 b3 b4 b5) g0 b1 b2 b3 b4 b5 cA n ft ed um.1 um.2.1 um.2.2.1 um.2.2.2 hn hed1 x hres) (fun _ _ h9 => h9) (cwV 0 hw (gV w2_188 w2_189 w2_190 w1_2 w2_191) rfl rfl rfl ⟨rfl, by decide, by decide, by decide +kernel⟩ ⟨Nat.le_of_ble_eq_true rfl, Nat.le_of_ble_eq_true rfl⟩) rfl hl.1 rfl (Nat.le_of_ble_eq_true rfl) dL_law_516 ⟨hc, hs⟩ (fun r8 w8 H locs hpost8 P1 P2 S => ?_)
  obtain ⟨hr8, hmu⟩ := hpost8
  subst hr8
  refine lv_istore hx hb dL_law_519 hl (by decide) (lv' := [(6, .int (nI x.2)), (5, .int (nI 0)), (0, .ref b), (1, .ref h), (2, .ref g0), (3, .ref o), (4, .int (nI i))]) rfl (fun ls hl => ?_)
  refine lv_aload_n hx hb dL_law_521 rfl (lv_at hl 4 rfl) ?_
  refine nr_V (b := g0) (As := []) (C := RM) (rest := []) ⟨hx, hb, F.hml, F.hown, hw⟩ (cM_thrown_c l D (mA g0 b1 b2 b3 b4 b5) g0 b1 b2 b3 b4 b5 cA n 0 ed w8.1 w8.2.1 w8.2.2.1 w8.2.2.2) (cwV 0 hw (gV w2_120 w2_121 w2_122 w1_2 w2_123) rfl rfl rfl ⟨rfl, by decide, by decide, by decide +kernel⟩ ⟨Nat.le_of_ble_eq_true rfl, Nat.le_of_ble_eq_true rfl⟩) gB_blind (va_recv (q0 := 0) (ci := 1) F.Km P2 rfl rfl) (gB_at P2 F.Km _) rfl hl.1 rfl (Nat.le_of_ble_eq_true rfl) dL_law_522 ⟨hc, hs⟩ ?_
  refine lv_iload hx hb dL_law_525 (lv_at hl 1 rfl) ?_
  refine lv_icmp_eq (tgt := 532) hx hb dL_law_527 rfl (fun _ => ?_) (fun h9 => absurd rfl h9)
  refine lv_iload hx hb dL_law_532 (lv_at hl 1 rfl) ?_
  refine nv_if_ne (x := 0) (tgt := 549) hx hb dL_law_534 rfl (by decide) (fun h9 => absurd rfl h9) (fun _ => ?_)
  have e9 := hval
  refine lv_aload_n hx hb dL_law_537 rfl (lv_at hl 5 rfl) ?_
  refine lv_iconst (v := nI 0) hx hb dL_law_538 (by decide) ?_
  refine nv_lald (f := w9.2) hx hb F.hK P1 5 1 rfl rfl dL_law_539 ?_
  refine lv_iload hx hb dL_law_540 (lv_at hl 0 rfl) ?_
  refine lv_i2l (v := (nI x.2 : Int32).toInt64) hx hb dL_law_542 rfl ?_
  refine W.lcmp hx hb dL_law_543 ?_
  refine lv_if_eq (tgt := 549) hx hb dL_law_544 rfl (fun _ => ?_) (fun h9 => absurd ((lg_cmp_eq _ _).mpr e9) h9)
  refine lv_goto (tgt := 822) hx hb dL_law_549 rfl ?_
  have hl := lv_sub hl (l' := [(0, .ref b), (1, .ref h), (2, .ref g0), (3, .ref o), (4, .int (nI i))]) [2, 3, 4, 5, 6] rfl
  exact kk _ _ _ _ _ _ _ _ ls ⟨T.R, P1, P2, S⟩ hl

set_option maxHeartbeats 4000000 in
set_option maxRecDepth 100000 in
theorem lc_ends_n (F : LFix p l s m c b L xs D cA cL h a1 a2 a3 a4 o g0 b1 b2 b3 b4 b5) (T : LSt s D cA cL h a1 a2 a3 a4 o g0 b1 b2 b3 b4 b5 n nb u ft ed um H locs) (hi : i + 2 < L) (hc : cells + 1 ≤ 667068) (hs : slots + 6 ≤ 7094901) (kk : LK p l e room_1 s m below meth c Q D cA cL b h a1 a2 a3 a4 o g0 b1 b2 b3 b4 b5 i (cells + 1) (slots + 6)) (hl : lv_has ls 7 [(0, .ref b), (1, .ref h), (2, .ref g0), (3, .ref o), (4, .int (nI i))]) (hres : srN (fun v j => ed (8 * v + j)) (meN (2 ^ n - 1) n 0) [] 0 = none) : W p l e room_1 s m #[Value.ref b] below meth c H locs cells slots Q (F0 m 508 ls []) := by
  have hx := F.hx
  have hb := F.hb
  have hw := F.hw
  have hn := T.R.1
  have hnb := rel_lt T.R
  have hed1 := T.R.2.1
  have hed := rel_e9 T.R
  have hc0 : cells ≤ 667068 := by omega
  have hs0 : slots ≤ 7094901 := by omega
  have P1 := T.P1
  have P2 := T.P2
  have S := T.S
  refine lv_aload_n hx hb dL_law_508 rfl (lv_at hl 1 rfl) ?_
  refine lv_aload_n hx hb dL_law_509 rfl (lv_at hl 3 rfl) ?_
  refine lw_help (k9 := 2) (rest := []) (As := [.ref h, .ref o]) F P1 P2 S (hL_ends_n l D (xo h a1 a2 a3 a4 o) h a1 a2 a3 a4 o cA cL n nb u (fun v j => ed (8 * v + j)) F.hst hn hnb hed hres) w2_33 w2_31 w2_32 w1_0 ⟨by decide, by decide, by decide +kernel⟩ ⟨Nat.le_of_ble_eq_true rfl, Nat.le_of_ble_eq_true rfl⟩ rfl hl.1 rfl (Nat.le_of_ble_eq_true rfl) dL_law_510 ⟨hc, hs⟩ (fun r9 w9 H locs hpost9 P1 P2 S => ?_)
  obtain ⟨hr9, -⟩ := hpost9
  subst hr9
  refine lv_istore hx hb dL_law_513 hl (by decide) (lv' := [(5, .int (nI 1)), (0, .ref b), (1, .ref h), (2, .ref g0), (3, .ref o), (4, .int (nI i))]) rfl (fun ls hl => ?_)
  refine lv_aload_n hx hb dL_law_515 rfl (lv_at hl 3 rfl) ?_
  refine lw_mod (rest := []) (As := []) (fun w => w) F P1 P2 S (cM_ends_n l D (mA g0 b1 b2 b3 b4 b5) g0 b1 b2 b3 b4 b5 cA n ft ed um.1 um.2.1 um.2.2.1 um.2.2.2 hn hed1 hres) (fun _ _ h9 => h9) (cwV 0 hw (gV w2_188 w2_189 w2_190 w1_2 w2_191) rfl rfl rfl ⟨rfl, by decide, by decide, by decide +kernel⟩ ⟨Nat.le_of_ble_eq_true rfl, Nat.le_of_ble_eq_true rfl⟩) rfl hl.1 rfl (Nat.le_of_ble_eq_true rfl) dL_law_516 ⟨hc, hs⟩ (fun r8 w8 H locs hpost8 P1 P2 S => ?_)
  subst hpost8
  refine lv_istore hx hb dL_law_519 hl (by decide) (lv' := [(6, .int (nI 0)), (5, .int (nI 1)), (0, .ref b), (1, .ref h), (2, .ref g0), (3, .ref o), (4, .int (nI i))]) rfl (fun ls hl => ?_)
  refine lv_aload_n hx hb dL_law_521 rfl (lv_at hl 4 rfl) ?_
  refine nr_V (b := g0) (As := []) (C := RM) (rest := []) ⟨hx, hb, F.hml, F.hown, hw⟩ (cM_thrown_c l D (mA g0 b1 b2 b3 b4 b5) g0 b1 b2 b3 b4 b5 cA n 1 ed w8.1 w8.2.1 w8.2.2.1 w8.2.2.2) (cwV 0 hw (gV w2_120 w2_121 w2_122 w1_2 w2_123) rfl rfl rfl ⟨rfl, by decide, by decide, by decide +kernel⟩ ⟨Nat.le_of_ble_eq_true rfl, Nat.le_of_ble_eq_true rfl⟩) gB_blind (va_recv (q0 := 0) (ci := 1) F.Km P2 rfl rfl) (gB_at P2 F.Km _) rfl hl.1 rfl (Nat.le_of_ble_eq_true rfl) dL_law_522 ⟨hc, hs⟩ ?_
  refine lv_iload hx hb dL_law_525 (lv_at hl 1 rfl) ?_
  refine lv_icmp_eq (tgt := 532) hx hb dL_law_527 rfl (fun _ => ?_) (fun h9 => absurd rfl h9)
  refine lv_iload hx hb dL_law_532 (lv_at hl 1 rfl) ?_
  refine nv_if_ne (x := 1) (tgt := 549) hx hb dL_law_534 rfl (by decide) (fun _ => ?_) (fun h9 => absurd h9 (by decide))
  refine lv_goto (tgt := 822) hx hb dL_law_549 rfl ?_
  have hl := lv_sub hl (l' := [(0, .ref b), (1, .ref h), (2, .ref g0), (3, .ref o), (4, .int (nI i))]) [2, 3, 4, 5, 6] rfl
  exact kk _ _ _ _ _ _ _ _ ls ⟨T.R, P1, P2, S⟩ hl

set_option maxHeartbeats 4000000 in
set_option maxRecDepth 100000 in
theorem lc_low_a (F : LFix p l s m c b L xs D cA cL h a1 a2 a3 a4 o g0 b1 b2 b3 b4 b5) (T : LSt s D cA cL h a1 a2 a3 a4 o g0 b1 b2 b3 b4 b5 n nb u ft ed um H locs) (hi : i + 2 < L) (hc : cells + 1 ≤ 667068) (hs : slots + 6 ≤ 7094901) (kk : LK p l e room_1 s m below meth c Q D cA cL b h a1 a2 a3 a4 o g0 b1 b2 b3 b4 b5 i (cells + 1) (slots + 6)) (hl : lv_has ls 7 [(0, .ref b), (1, .ref h), (2, .ref g0), (3, .ref o), (4, .int (nI i))]) (hz : ∀ k, k < n → xs (i + 1) ≠ nI k) : W p l e room_1 s m #[Value.ref b] below meth c H locs cells slots Q (F0 m 552 ls []) := by
  have hx := F.hx
  have hb := F.hb
  have hw := F.hw
  have hn := T.R.1
  have hnb := rel_lt T.R
  have hed1 := T.R.2.1
  have hed := rel_e9 T.R
  have hc0 : cells ≤ 667068 := by omega
  have hs0 : slots ≤ 7094901 := by omega
  have P1 := T.P1
  have P2 := T.P2
  have S := T.S
  refine lv_aload_n hx hb dL_law_552 rfl (lv_at hl 1 rfl) ?_
  refine lv_aload_n hx hb dL_law_553 rfl (lv_at hl 0 rfl) ?_
  refine lv_iload hx hb dL_law_554 (lv_at hl 4 rfl) ?_
  refine lv_iconst (v := nI 1) hx hb dL_law_556 (by decide) ?_
  refine nv_iadd (x := i) (y := 1) hx hb dL_law_557 ?_
  refine lw_sld (i := i + 1) F S rfl (by omega) dL_law_558 ?_
  refine lv_aload_n hx hb dL_law_559 rfl (lv_at hl 3 rfl) ?_
  refine lw_help (k9 := 3) (rest := []) (As := [.ref h, .int (xs (i + 1)), .ref o]) F P1 P2 S (hL_low_n1 l D (xo h a1 a2 a3 a4 o) h a1 a2 a3 a4 o cA cL n nb u (xs (i + 1)) F.hst hn hz) w2_45 w2_43 w2_44 w1_0 ⟨by decide, by decide, by decide +kernel⟩ ⟨Nat.le_of_ble_eq_true rfl, Nat.le_of_ble_eq_true rfl⟩ rfl hl.1 rfl (Nat.le_of_ble_eq_true rfl) dL_law_560 ⟨hc, hs⟩ (fun r9 w9 H locs hpost9 P1 P2 S => ?_)
  obtain ⟨hr9, -⟩ := hpost9
  subst hr9
  refine lv_istore hx hb dL_law_563 hl (by decide) (lv' := [(5, .int (nI 1)), (0, .ref b), (1, .ref h), (2, .ref g0), (3, .ref o), (4, .int (nI i))]) rfl (fun ls hl => ?_)
  refine lv_aload_n hx hb dL_law_565 rfl (lv_at hl 3 rfl) ?_
  refine lv_aload_n hx hb dL_law_566 rfl (lv_at hl 1 rfl) ?_
  refine lv_iload hx hb dL_law_567 (lv_at hl 5 rfl) ?_
  refine lv_iconst (v := nI 1) hx hb dL_law_569 (by decide) ?_
  refine nv_iadd (x := i) (y := 1) hx hb dL_law_570 ?_
  refine lw_sld (i := i + 1) F S rfl (by omega) dL_law_571 ?_
  refine lw_mod (rest := []) (As := [.int (xs (i + 1))]) (fun _ => um) F P1 P2 S (cM_low_a l D (mA g0 b1 b2 b3 b4 b5) g0 b1 b2 b3 b4 b5 cA n ft ed um.1 um.2.1 um.2.2.1 um.2.2.2 (xs (i + 1)) hn hz) (fun _ _ h9 => h9) (cwV 1 hw (gV w2_196 w2_197 w2_198 w1_2 w2_199) rfl rfl rfl ⟨rfl, by decide, by decide, by decide +kernel⟩ ⟨Nat.le_of_ble_eq_true rfl, Nat.le_of_ble_eq_true rfl⟩) rfl hl.1 rfl (Nat.le_of_ble_eq_true rfl) dL_law_572 ⟨hc, hs⟩ (fun r8 w8 H locs hpost8 P1 P2 S => ?_)
  subst hpost8
  refine lv_istore hx hb dL_law_575 hl (by decide) (lv' := [(6, .int (nI 0)), (5, .int (nI 1)), (0, .ref b), (1, .ref h), (2, .ref g0), (3, .ref o), (4, .int (nI i))]) rfl (fun ls hl => ?_)
  refine lv_aload_n hx hb dL_law_577 rfl (lv_at hl 4 rfl) ?_
  refine nr_V (b := g0) (As := []) (C := RM) (rest := []) ⟨hx, hb, F.hml, F.hown, hw⟩ (cM_thrown_c l D (mA g0 b1 b2 b3 b4 b5) g0 b1 b2 b3 b4 b5 cA n 1 ed um.1 um.2.1 um.2.2.1 um.2.2.2) (cwV 0 hw (gV w2_120 w2_121 w2_122 w1_2 w2_123) rfl rfl rfl ⟨rfl, by decide, by decide, by decide +kernel⟩ ⟨Nat.le_of_ble_eq_true rfl, Nat.le_of_ble_eq_true rfl⟩) gB_blind (va_recv (q0 := 0) (ci := 1) F.Km P2 rfl rfl) (gB_at P2 F.Km _) rfl hl.1 rfl (Nat.le_of_ble_eq_true rfl) dL_law_578 ⟨hc, hs⟩ ?_
  refine lv_iload hx hb dL_law_581 (lv_at hl 1 rfl) ?_
  refine lv_icmp_eq (tgt := 588) hx hb dL_law_583 rfl (fun _ => ?_) (fun h9 => absurd rfl h9)
  refine lv_iload hx hb dL_law_588 (lv_at hl 1 rfl) ?_
  refine nv_if_ne (x := 1) (tgt := 605) hx hb dL_law_590 rfl (by decide) (fun _ => ?_) (fun h9 => absurd h9 (by decide))
  refine lv_goto (tgt := 822) hx hb dL_law_605 rfl ?_
  have hl := lv_sub hl (l' := [(0, .ref b), (1, .ref h), (2, .ref g0), (3, .ref o), (4, .int (nI i))]) [2, 3, 4, 5, 6] rfl
  exact kk _ _ _ _ _ _ _ _ ls ⟨T.R, P1, P2, S⟩ hl

set_option maxHeartbeats 4000000 in
set_option maxRecDepth 100000 in
theorem lc_low_y (F : LFix p l s m c b L xs D cA cL h a1 a2 a3 a4 o g0 b1 b2 b3 b4 b5) (T : LSt s D cA cL h a1 a2 a3 a4 o g0 b1 b2 b3 b4 b5 n nb u ft ed um H locs) (hi : i + 2 < L) (hc : cells + 1 ≤ 667068) (hs : slots + 6 ≤ 7094901) (kk : LK p l e room_1 s m below meth c Q D cA cL b h a1 a2 a3 a4 o g0 b1 b2 b3 b4 b5 i (cells + 1) (slots + 6)) (hl : lv_has ls 7 [(0, .ref b), (1, .ref h), (2, .ref g0), (3, .ref o), (4, .int (nI i))]) {v : Nat} (hz1 : xs (i + 1) = nI v) (hv : v < n)(x : List (Nat × Nat × Nat) × Nat) (hres : srN (fun v j => ed (8 * v + j)) (meN (2 ^ n - 1) n 0) [] 0 = some x) : W p l e room_1 s m #[Value.ref b] below meth c H locs cells slots Q (F0 m 552 ls []) := by
  have hx := F.hx
  have hb := F.hb
  have hw := F.hw
  have hn := T.R.1
  have hnb := rel_lt T.R
  have hed1 := T.R.2.1
  have hed := rel_e9 T.R
  have hc0 : cells ≤ 667068 := by omega
  have hs0 : slots ≤ 7094901 := by omega
  have P1 := T.P1
  have P2 := T.P2
  have S := T.S
  refine lv_aload_n hx hb dL_law_552 rfl (lv_at hl 1 rfl) ?_
  refine lv_aload_n hx hb dL_law_553 rfl (lv_at hl 0 rfl) ?_
  refine lv_iload hx hb dL_law_554 (lv_at hl 4 rfl) ?_
  refine lv_iconst (v := nI 1) hx hb dL_law_556 (by decide) ?_
  refine nv_iadd (x := i) (y := 1) hx hb dL_law_557 ?_
  refine lw_sld (i := i + 1) F S hz1 (by omega) dL_law_558 ?_
  refine lv_aload_n hx hb dL_law_559 rfl (lv_at hl 3 rfl) ?_
  refine lw_help (k9 := 3) (rest := []) (As := [.ref h, .int (nI v), .ref o]) F P1 P2 S (hL_low_y l D (xo h a1 a2 a3 a4 o) h a1 a2 a3 a4 o cA cL n nb u v (fun v j => ed (8 * v + j)) hn hnb hed x hres hv) w2_45 w2_43 w2_44 w1_0 ⟨by decide, by decide, by decide +kernel⟩ ⟨Nat.le_of_ble_eq_true rfl, Nat.le_of_ble_eq_true rfl⟩ rfl hl.1 rfl (Nat.le_of_ble_eq_true rfl) dL_law_560 ⟨hc, hs⟩ (fun r9 w9 H locs hpost9 P1 P2 S => ?_)
  obtain ⟨hr9, hval, hnm⟩ := hpost9
  subst hr9
  refine lv_istore hx hb dL_law_563 hl (by decide) (lv' := [(5, .int (nI 0)), (0, .ref b), (1, .ref h), (2, .ref g0), (3, .ref o), (4, .int (nI i))]) rfl (fun ls hl => ?_)
  refine lv_aload_n hx hb dL_law_565 rfl (lv_at hl 3 rfl) ?_
  refine lv_aload_n hx hb dL_law_566 rfl (lv_at hl 1 rfl) ?_
  refine lv_iload hx hb dL_law_567 (lv_at hl 5 rfl) ?_
  refine lv_iconst (v := nI 1) hx hb dL_law_569 (by decide) ?_
  refine nv_iadd (x := i) (y := 1) hx hb dL_law_570 ?_
  refine lw_sld (i := i + 1) F S hz1 (by omega) dL_law_571 ?_
  refine lw_mod (rest := []) (As := [.int (nI v)]) (fun w => w) F P1 P2 S (cM_low_y l D (mA g0 b1 b2 b3 b4 b5) g0 b1 b2 b3 b4 b5 cA n ft ed um.1 um.2.1 um.2.2.1 um.2.2.2 v hn hed1 x hres hv) (fun _ _ h9 => h9) (cwV 1 hw (gV w2_196 w2_197 w2_198 w1_2 w2_199) rfl rfl rfl ⟨rfl, by decide, by decide, by decide +kernel⟩ ⟨Nat.le_of_ble_eq_true rfl, Nat.le_of_ble_eq_true rfl⟩) rfl hl.1 rfl (Nat.le_of_ble_eq_true rfl) dL_law_572 ⟨hc, hs⟩ (fun r8 w8 H locs hpost8 P1 P2 S => ?_)
  obtain ⟨hr8, hmu⟩ := hpost8
  subst hr8
  refine lv_istore hx hb dL_law_575 hl (by decide) (lv' := [(6, .int (nI (w8.1 v))), (5, .int (nI 0)), (0, .ref b), (1, .ref h), (2, .ref g0), (3, .ref o), (4, .int (nI i))]) rfl (fun ls hl => ?_)
  refine lv_aload_n hx hb dL_law_577 rfl (lv_at hl 4 rfl) ?_
  refine nr_V (b := g0) (As := []) (C := RM) (rest := []) ⟨hx, hb, F.hml, F.hown, hw⟩ (cM_thrown_c l D (mA g0 b1 b2 b3 b4 b5) g0 b1 b2 b3 b4 b5 cA n 0 ed w8.1 w8.2.1 w8.2.2.1 w8.2.2.2) (cwV 0 hw (gV w2_120 w2_121 w2_122 w1_2 w2_123) rfl rfl rfl ⟨rfl, by decide, by decide, by decide +kernel⟩ ⟨Nat.le_of_ble_eq_true rfl, Nat.le_of_ble_eq_true rfl⟩) gB_blind (va_recv (q0 := 0) (ci := 1) F.Km P2 rfl rfl) (gB_at P2 F.Km _) rfl hl.1 rfl (Nat.le_of_ble_eq_true rfl) dL_law_578 ⟨hc, hs⟩ ?_
  refine lv_iload hx hb dL_law_581 (lv_at hl 1 rfl) ?_
  refine lv_icmp_eq (tgt := 588) hx hb dL_law_583 rfl (fun _ => ?_) (fun h9 => absurd rfl h9)
  refine lv_iload hx hb dL_law_588 (lv_at hl 1 rfl) ?_
  refine nv_if_ne (x := 0) (tgt := 605) hx hb dL_law_590 rfl (by decide) (fun h9 => absurd rfl h9) (fun _ => ?_)
  have e9 : w9.2 0 = (nI (w8.1 v)).toInt64 := hval.trans (by rw [show w9.1.1 v = w8.1 v from (hnm _ (hmu.2 v hv)).1])
  refine lv_aload_n hx hb dL_law_593 rfl (lv_at hl 5 rfl) ?_
  refine lv_iconst (v := nI 0) hx hb dL_law_594 (by decide) ?_
  refine nv_lald (f := w9.2) hx hb F.hK P1 5 1 rfl rfl dL_law_595 ?_
  refine lv_iload hx hb dL_law_596 (lv_at hl 0 rfl) ?_
  refine lv_i2l (v := (nI (w8.1 v) : Int32).toInt64) hx hb dL_law_598 rfl ?_
  refine W.lcmp hx hb dL_law_599 ?_
  refine lv_if_eq (tgt := 605) hx hb dL_law_600 rfl (fun _ => ?_) (fun h9 => absurd ((lg_cmp_eq _ _).mpr e9) h9)
  refine lv_goto (tgt := 822) hx hb dL_law_605 rfl ?_
  have hl := lv_sub hl (l' := [(0, .ref b), (1, .ref h), (2, .ref g0), (3, .ref o), (4, .int (nI i))]) [2, 3, 4, 5, 6] rfl
  exact kk _ _ _ _ _ _ _ _ ls ⟨T.R, P1, P2, S⟩ hl

set_option maxHeartbeats 4000000 in
set_option maxRecDepth 100000 in
theorem lc_low_n (F : LFix p l s m c b L xs D cA cL h a1 a2 a3 a4 o g0 b1 b2 b3 b4 b5) (T : LSt s D cA cL h a1 a2 a3 a4 o g0 b1 b2 b3 b4 b5 n nb u ft ed um H locs) (hi : i + 2 < L) (hc : cells + 1 ≤ 667068) (hs : slots + 6 ≤ 7094901) (kk : LK p l e room_1 s m below meth c Q D cA cL b h a1 a2 a3 a4 o g0 b1 b2 b3 b4 b5 i (cells + 1) (slots + 6)) (hl : lv_has ls 7 [(0, .ref b), (1, .ref h), (2, .ref g0), (3, .ref o), (4, .int (nI i))]) {v : Nat} (hz1 : xs (i + 1) = nI v) (hv : v < n)(hres : srN (fun v j => ed (8 * v + j)) (meN (2 ^ n - 1) n 0) [] 0 = none) : W p l e room_1 s m #[Value.ref b] below meth c H locs cells slots Q (F0 m 552 ls []) := by
  have hx := F.hx
  have hb := F.hb
  have hw := F.hw
  have hn := T.R.1
  have hnb := rel_lt T.R
  have hed1 := T.R.2.1
  have hed := rel_e9 T.R
  have hc0 : cells ≤ 667068 := by omega
  have hs0 : slots ≤ 7094901 := by omega
  have P1 := T.P1
  have P2 := T.P2
  have S := T.S
  refine lv_aload_n hx hb dL_law_552 rfl (lv_at hl 1 rfl) ?_
  refine lv_aload_n hx hb dL_law_553 rfl (lv_at hl 0 rfl) ?_
  refine lv_iload hx hb dL_law_554 (lv_at hl 4 rfl) ?_
  refine lv_iconst (v := nI 1) hx hb dL_law_556 (by decide) ?_
  refine nv_iadd (x := i) (y := 1) hx hb dL_law_557 ?_
  refine lw_sld (i := i + 1) F S hz1 (by omega) dL_law_558 ?_
  refine lv_aload_n hx hb dL_law_559 rfl (lv_at hl 3 rfl) ?_
  refine lw_help (k9 := 3) (rest := []) (As := [.ref h, .int (nI v), .ref o]) F P1 P2 S (hL_low_n2 l D (xo h a1 a2 a3 a4 o) h a1 a2 a3 a4 o cA cL n nb u v (fun v j => ed (8 * v + j)) F.hst hn hnb hed hres hv) w2_45 w2_43 w2_44 w1_0 ⟨by decide, by decide, by decide +kernel⟩ ⟨Nat.le_of_ble_eq_true rfl, Nat.le_of_ble_eq_true rfl⟩ rfl hl.1 rfl (Nat.le_of_ble_eq_true rfl) dL_law_560 ⟨hc, hs⟩ (fun r9 w9 H locs hpost9 P1 P2 S => ?_)
  obtain ⟨hr9, -⟩ := hpost9
  subst hr9
  refine lv_istore hx hb dL_law_563 hl (by decide) (lv' := [(5, .int (nI 2)), (0, .ref b), (1, .ref h), (2, .ref g0), (3, .ref o), (4, .int (nI i))]) rfl (fun ls hl => ?_)
  refine lv_aload_n hx hb dL_law_565 rfl (lv_at hl 3 rfl) ?_
  refine lv_aload_n hx hb dL_law_566 rfl (lv_at hl 1 rfl) ?_
  refine lv_iload hx hb dL_law_567 (lv_at hl 5 rfl) ?_
  refine lv_iconst (v := nI 1) hx hb dL_law_569 (by decide) ?_
  refine nv_iadd (x := i) (y := 1) hx hb dL_law_570 ?_
  refine lw_sld (i := i + 1) F S hz1 (by omega) dL_law_571 ?_
  refine lw_mod (rest := []) (As := [.int (nI v)]) (fun w => w) F P1 P2 S (cM_low_n l D (mA g0 b1 b2 b3 b4 b5) g0 b1 b2 b3 b4 b5 cA n ft ed um.1 um.2.1 um.2.2.1 um.2.2.2 v hn hed1 hres hv) (fun _ _ h9 => h9) (cwV 1 hw (gV w2_196 w2_197 w2_198 w1_2 w2_199) rfl rfl rfl ⟨rfl, by decide, by decide, by decide +kernel⟩ ⟨Nat.le_of_ble_eq_true rfl, Nat.le_of_ble_eq_true rfl⟩) rfl hl.1 rfl (Nat.le_of_ble_eq_true rfl) dL_law_572 ⟨hc, hs⟩ (fun r8 w8 H locs hpost8 P1 P2 S => ?_)
  subst hpost8
  refine lv_istore hx hb dL_law_575 hl (by decide) (lv' := [(6, .int (nI 0)), (5, .int (nI 2)), (0, .ref b), (1, .ref h), (2, .ref g0), (3, .ref o), (4, .int (nI i))]) rfl (fun ls hl => ?_)
  refine lv_aload_n hx hb dL_law_577 rfl (lv_at hl 4 rfl) ?_
  refine nr_V (b := g0) (As := []) (C := RM) (rest := []) ⟨hx, hb, F.hml, F.hown, hw⟩ (cM_thrown_c l D (mA g0 b1 b2 b3 b4 b5) g0 b1 b2 b3 b4 b5 cA n 2 ed w8.1 w8.2.1 w8.2.2.1 w8.2.2.2) (cwV 0 hw (gV w2_120 w2_121 w2_122 w1_2 w2_123) rfl rfl rfl ⟨rfl, by decide, by decide, by decide +kernel⟩ ⟨Nat.le_of_ble_eq_true rfl, Nat.le_of_ble_eq_true rfl⟩) gB_blind (va_recv (q0 := 0) (ci := 1) F.Km P2 rfl rfl) (gB_at P2 F.Km _) rfl hl.1 rfl (Nat.le_of_ble_eq_true rfl) dL_law_578 ⟨hc, hs⟩ ?_
  refine lv_iload hx hb dL_law_581 (lv_at hl 1 rfl) ?_
  refine lv_icmp_eq (tgt := 588) hx hb dL_law_583 rfl (fun _ => ?_) (fun h9 => absurd rfl h9)
  refine lv_iload hx hb dL_law_588 (lv_at hl 1 rfl) ?_
  refine nv_if_ne (x := 2) (tgt := 605) hx hb dL_law_590 rfl (by decide) (fun _ => ?_) (fun h9 => absurd h9 (by decide))
  refine lv_goto (tgt := 822) hx hb dL_law_605 rfl ?_
  have hl := lv_sub hl (l' := [(0, .ref b), (1, .ref h), (2, .ref g0), (3, .ref o), (4, .int (nI i))]) [2, 3, 4, 5, 6] rfl
  exact kk _ _ _ _ _ _ _ _ ls ⟨T.R, P1, P2, S⟩ hl

set_option maxHeartbeats 4000000 in
set_option maxRecDepth 100000 in
theorem lc_high_a (F : LFix p l s m c b L xs D cA cL h a1 a2 a3 a4 o g0 b1 b2 b3 b4 b5) (T : LSt s D cA cL h a1 a2 a3 a4 o g0 b1 b2 b3 b4 b5 n nb u ft ed um H locs) (hi : i + 2 < L) (hc : cells + 1 ≤ 667068) (hs : slots + 6 ≤ 7094901) (kk : LK p l e room_1 s m below meth c Q D cA cL b h a1 a2 a3 a4 o g0 b1 b2 b3 b4 b5 i (cells + 1) (slots + 6)) (hl : lv_has ls 7 [(0, .ref b), (1, .ref h), (2, .ref g0), (3, .ref o), (4, .int (nI i))]) (hz : ∀ k, k < n → xs (i + 1) ≠ nI k) : W p l e room_1 s m #[Value.ref b] below meth c H locs cells slots Q (F0 m 608 ls []) := by
  have hx := F.hx
  have hb := F.hb
  have hw := F.hw
  have hn := T.R.1
  have hnb := rel_lt T.R
  have hed1 := T.R.2.1
  have hed := rel_e9 T.R
  have hc0 : cells ≤ 667068 := by omega
  have hs0 : slots ≤ 7094901 := by omega
  have P1 := T.P1
  have P2 := T.P2
  have S := T.S
  refine lv_aload_n hx hb dL_law_608 rfl (lv_at hl 1 rfl) ?_
  refine lv_aload_n hx hb dL_law_609 rfl (lv_at hl 0 rfl) ?_
  refine lv_iload hx hb dL_law_610 (lv_at hl 4 rfl) ?_
  refine lv_iconst (v := nI 1) hx hb dL_law_612 (by decide) ?_
  refine nv_iadd (x := i) (y := 1) hx hb dL_law_613 ?_
  refine lw_sld (i := i + 1) F S rfl (by omega) dL_law_614 ?_
  refine lv_aload_n hx hb dL_law_615 rfl (lv_at hl 3 rfl) ?_
  refine lw_help (k9 := 3) (rest := []) (As := [.ref h, .int (xs (i + 1)), .ref o]) F P1 P2 S (hL_high_n1 l D (xo h a1 a2 a3 a4 o) h a1 a2 a3 a4 o cA cL n nb u (xs (i + 1)) F.hst hn hz) w2_52 w2_50 w2_51 w1_0 ⟨by decide, by decide, by decide +kernel⟩ ⟨Nat.le_of_ble_eq_true rfl, Nat.le_of_ble_eq_true rfl⟩ rfl hl.1 rfl (Nat.le_of_ble_eq_true rfl) dL_law_616 ⟨hc, hs⟩ (fun r9 w9 H locs hpost9 P1 P2 S => ?_)
  obtain ⟨hr9, -⟩ := hpost9
  subst hr9
  refine lv_istore hx hb dL_law_619 hl (by decide) (lv' := [(5, .int (nI 1)), (0, .ref b), (1, .ref h), (2, .ref g0), (3, .ref o), (4, .int (nI i))]) rfl (fun ls hl => ?_)
  refine lv_aload_n hx hb dL_law_621 rfl (lv_at hl 3 rfl) ?_
  refine lv_aload_n hx hb dL_law_622 rfl (lv_at hl 1 rfl) ?_
  refine lv_iload hx hb dL_law_623 (lv_at hl 5 rfl) ?_
  refine lv_iconst (v := nI 1) hx hb dL_law_625 (by decide) ?_
  refine nv_iadd (x := i) (y := 1) hx hb dL_law_626 ?_
  refine lw_sld (i := i + 1) F S rfl (by omega) dL_law_627 ?_
  refine lw_mod (rest := []) (As := [.int (xs (i + 1))]) (fun _ => um) F P1 P2 S (cM_high_a l D (mA g0 b1 b2 b3 b4 b5) g0 b1 b2 b3 b4 b5 cA n ft ed um.1 um.2.1 um.2.2.1 um.2.2.2 (xs (i + 1)) hn hz) (fun _ _ h9 => h9) (cwV 1 hw (gV w2_204 w2_205 w2_206 w1_2 w2_207) rfl rfl rfl ⟨rfl, by decide, by decide, by decide +kernel⟩ ⟨Nat.le_of_ble_eq_true rfl, Nat.le_of_ble_eq_true rfl⟩) rfl hl.1 rfl (Nat.le_of_ble_eq_true rfl) dL_law_628 ⟨hc, hs⟩ (fun r8 w8 H locs hpost8 P1 P2 S => ?_)
  subst hpost8
  refine lv_istore hx hb dL_law_631 hl (by decide) (lv' := [(6, .int (nI 0)), (5, .int (nI 1)), (0, .ref b), (1, .ref h), (2, .ref g0), (3, .ref o), (4, .int (nI i))]) rfl (fun ls hl => ?_)
  refine lv_aload_n hx hb dL_law_633 rfl (lv_at hl 4 rfl) ?_
  refine nr_V (b := g0) (As := []) (C := RM) (rest := []) ⟨hx, hb, F.hml, F.hown, hw⟩ (cM_thrown_c l D (mA g0 b1 b2 b3 b4 b5) g0 b1 b2 b3 b4 b5 cA n 1 ed um.1 um.2.1 um.2.2.1 um.2.2.2) (cwV 0 hw (gV w2_120 w2_121 w2_122 w1_2 w2_123) rfl rfl rfl ⟨rfl, by decide, by decide, by decide +kernel⟩ ⟨Nat.le_of_ble_eq_true rfl, Nat.le_of_ble_eq_true rfl⟩) gB_blind (va_recv (q0 := 0) (ci := 1) F.Km P2 rfl rfl) (gB_at P2 F.Km _) rfl hl.1 rfl (Nat.le_of_ble_eq_true rfl) dL_law_634 ⟨hc, hs⟩ ?_
  refine lv_iload hx hb dL_law_637 (lv_at hl 1 rfl) ?_
  refine lv_icmp_eq (tgt := 644) hx hb dL_law_639 rfl (fun _ => ?_) (fun h9 => absurd rfl h9)
  refine lv_iload hx hb dL_law_644 (lv_at hl 1 rfl) ?_
  refine nv_if_ne (x := 1) (tgt := 661) hx hb dL_law_646 rfl (by decide) (fun _ => ?_) (fun h9 => absurd h9 (by decide))
  refine lv_goto (tgt := 822) hx hb dL_law_661 rfl ?_
  have hl := lv_sub hl (l' := [(0, .ref b), (1, .ref h), (2, .ref g0), (3, .ref o), (4, .int (nI i))]) [2, 3, 4, 5, 6] rfl
  exact kk _ _ _ _ _ _ _ _ ls ⟨T.R, P1, P2, S⟩ hl

set_option maxHeartbeats 4000000 in
set_option maxRecDepth 100000 in
theorem lc_high_y (F : LFix p l s m c b L xs D cA cL h a1 a2 a3 a4 o g0 b1 b2 b3 b4 b5) (T : LSt s D cA cL h a1 a2 a3 a4 o g0 b1 b2 b3 b4 b5 n nb u ft ed um H locs) (hi : i + 2 < L) (hc : cells + 1 ≤ 667068) (hs : slots + 6 ≤ 7094901) (kk : LK p l e room_1 s m below meth c Q D cA cL b h a1 a2 a3 a4 o g0 b1 b2 b3 b4 b5 i (cells + 1) (slots + 6)) (hl : lv_has ls 7 [(0, .ref b), (1, .ref h), (2, .ref g0), (3, .ref o), (4, .int (nI i))]) {v : Nat} (hz1 : xs (i + 1) = nI v) (hv : v < n)(x : List (Nat × Nat × Nat) × Nat) (hres : srN (fun v j => ed (8 * v + j)) (meN (2 ^ n - 1) n 0) [] 0 = some x) : W p l e room_1 s m #[Value.ref b] below meth c H locs cells slots Q (F0 m 608 ls []) := by
  have hx := F.hx
  have hb := F.hb
  have hw := F.hw
  have hn := T.R.1
  have hnb := rel_lt T.R
  have hed1 := T.R.2.1
  have hed := rel_e9 T.R
  have hc0 : cells ≤ 667068 := by omega
  have hs0 : slots ≤ 7094901 := by omega
  have P1 := T.P1
  have P2 := T.P2
  have S := T.S
  refine lv_aload_n hx hb dL_law_608 rfl (lv_at hl 1 rfl) ?_
  refine lv_aload_n hx hb dL_law_609 rfl (lv_at hl 0 rfl) ?_
  refine lv_iload hx hb dL_law_610 (lv_at hl 4 rfl) ?_
  refine lv_iconst (v := nI 1) hx hb dL_law_612 (by decide) ?_
  refine nv_iadd (x := i) (y := 1) hx hb dL_law_613 ?_
  refine lw_sld (i := i + 1) F S hz1 (by omega) dL_law_614 ?_
  refine lv_aload_n hx hb dL_law_615 rfl (lv_at hl 3 rfl) ?_
  refine lw_help (k9 := 3) (rest := []) (As := [.ref h, .int (nI v), .ref o]) F P1 P2 S (hL_high_y l D (xo h a1 a2 a3 a4 o) h a1 a2 a3 a4 o cA cL n nb u v (fun v j => ed (8 * v + j)) hn hnb hed x hres hv) w2_52 w2_50 w2_51 w1_0 ⟨by decide, by decide, by decide +kernel⟩ ⟨Nat.le_of_ble_eq_true rfl, Nat.le_of_ble_eq_true rfl⟩ rfl hl.1 rfl (Nat.le_of_ble_eq_true rfl) dL_law_616 ⟨hc, hs⟩ (fun r9 w9 H locs hpost9 P1 P2 S => ?_)
  obtain ⟨hr9, hval, hnm⟩ := hpost9
  subst hr9
  refine lv_istore hx hb dL_law_619 hl (by decide) (lv' := [(5, .int (nI 0)), (0, .ref b), (1, .ref h), (2, .ref g0), (3, .ref o), (4, .int (nI i))]) rfl (fun ls hl => ?_)
  refine lv_aload_n hx hb dL_law_621 rfl (lv_at hl 3 rfl) ?_
  refine lv_aload_n hx hb dL_law_622 rfl (lv_at hl 1 rfl) ?_
  refine lv_iload hx hb dL_law_623 (lv_at hl 5 rfl) ?_
  refine lv_iconst (v := nI 1) hx hb dL_law_625 (by decide) ?_
  refine nv_iadd (x := i) (y := 1) hx hb dL_law_626 ?_
  refine lw_sld (i := i + 1) F S hz1 (by omega) dL_law_627 ?_
  refine lw_mod (rest := []) (As := [.int (nI v)]) (fun w => w) F P1 P2 S (cM_high_y l D (mA g0 b1 b2 b3 b4 b5) g0 b1 b2 b3 b4 b5 cA n ft ed um.1 um.2.1 um.2.2.1 um.2.2.2 v hn hed1 x hres hv) (fun _ _ h9 => h9) (cwV 1 hw (gV w2_204 w2_205 w2_206 w1_2 w2_207) rfl rfl rfl ⟨rfl, by decide, by decide, by decide +kernel⟩ ⟨Nat.le_of_ble_eq_true rfl, Nat.le_of_ble_eq_true rfl⟩) rfl hl.1 rfl (Nat.le_of_ble_eq_true rfl) dL_law_628 ⟨hc, hs⟩ (fun r8 w8 H locs hpost8 P1 P2 S => ?_)
  obtain ⟨hr8, hmu⟩ := hpost8
  subst hr8
  refine lv_istore hx hb dL_law_631 hl (by decide) (lv' := [(6, .int (nI (w8.2.1 v))), (5, .int (nI 0)), (0, .ref b), (1, .ref h), (2, .ref g0), (3, .ref o), (4, .int (nI i))]) rfl (fun ls hl => ?_)
  refine lv_aload_n hx hb dL_law_633 rfl (lv_at hl 4 rfl) ?_
  refine nr_V (b := g0) (As := []) (C := RM) (rest := []) ⟨hx, hb, F.hml, F.hown, hw⟩ (cM_thrown_c l D (mA g0 b1 b2 b3 b4 b5) g0 b1 b2 b3 b4 b5 cA n 0 ed w8.1 w8.2.1 w8.2.2.1 w8.2.2.2) (cwV 0 hw (gV w2_120 w2_121 w2_122 w1_2 w2_123) rfl rfl rfl ⟨rfl, by decide, by decide, by decide +kernel⟩ ⟨Nat.le_of_ble_eq_true rfl, Nat.le_of_ble_eq_true rfl⟩) gB_blind (va_recv (q0 := 0) (ci := 1) F.Km P2 rfl rfl) (gB_at P2 F.Km _) rfl hl.1 rfl (Nat.le_of_ble_eq_true rfl) dL_law_634 ⟨hc, hs⟩ ?_
  refine lv_iload hx hb dL_law_637 (lv_at hl 1 rfl) ?_
  refine lv_icmp_eq (tgt := 644) hx hb dL_law_639 rfl (fun _ => ?_) (fun h9 => absurd rfl h9)
  refine lv_iload hx hb dL_law_644 (lv_at hl 1 rfl) ?_
  refine nv_if_ne (x := 0) (tgt := 661) hx hb dL_law_646 rfl (by decide) (fun h9 => absurd rfl h9) (fun _ => ?_)
  have e9 : w9.2 0 = (nI (w8.2.1 v)).toInt64 := hval.trans (by rw [show w9.1.2.1 v = w8.2.1 v from (hnm _ (hmu.2 v hv)).2])
  refine lv_aload_n hx hb dL_law_649 rfl (lv_at hl 5 rfl) ?_
  refine lv_iconst (v := nI 0) hx hb dL_law_650 (by decide) ?_
  refine nv_lald (f := w9.2) hx hb F.hK P1 5 1 rfl rfl dL_law_651 ?_
  refine lv_iload hx hb dL_law_652 (lv_at hl 0 rfl) ?_
  refine lv_i2l (v := (nI (w8.2.1 v) : Int32).toInt64) hx hb dL_law_654 rfl ?_
  refine W.lcmp hx hb dL_law_655 ?_
  refine lv_if_eq (tgt := 661) hx hb dL_law_656 rfl (fun _ => ?_) (fun h9 => absurd ((lg_cmp_eq _ _).mpr e9) h9)
  refine lv_goto (tgt := 822) hx hb dL_law_661 rfl ?_
  have hl := lv_sub hl (l' := [(0, .ref b), (1, .ref h), (2, .ref g0), (3, .ref o), (4, .int (nI i))]) [2, 3, 4, 5, 6] rfl
  exact kk _ _ _ _ _ _ _ _ ls ⟨T.R, P1, P2, S⟩ hl

set_option maxHeartbeats 4000000 in
set_option maxRecDepth 100000 in
theorem lc_high_n (F : LFix p l s m c b L xs D cA cL h a1 a2 a3 a4 o g0 b1 b2 b3 b4 b5) (T : LSt s D cA cL h a1 a2 a3 a4 o g0 b1 b2 b3 b4 b5 n nb u ft ed um H locs) (hi : i + 2 < L) (hc : cells + 1 ≤ 667068) (hs : slots + 6 ≤ 7094901) (kk : LK p l e room_1 s m below meth c Q D cA cL b h a1 a2 a3 a4 o g0 b1 b2 b3 b4 b5 i (cells + 1) (slots + 6)) (hl : lv_has ls 7 [(0, .ref b), (1, .ref h), (2, .ref g0), (3, .ref o), (4, .int (nI i))]) {v : Nat} (hz1 : xs (i + 1) = nI v) (hv : v < n)(hres : srN (fun v j => ed (8 * v + j)) (meN (2 ^ n - 1) n 0) [] 0 = none) : W p l e room_1 s m #[Value.ref b] below meth c H locs cells slots Q (F0 m 608 ls []) := by
  have hx := F.hx
  have hb := F.hb
  have hw := F.hw
  have hn := T.R.1
  have hnb := rel_lt T.R
  have hed1 := T.R.2.1
  have hed := rel_e9 T.R
  have hc0 : cells ≤ 667068 := by omega
  have hs0 : slots ≤ 7094901 := by omega
  have P1 := T.P1
  have P2 := T.P2
  have S := T.S
  refine lv_aload_n hx hb dL_law_608 rfl (lv_at hl 1 rfl) ?_
  refine lv_aload_n hx hb dL_law_609 rfl (lv_at hl 0 rfl) ?_
  refine lv_iload hx hb dL_law_610 (lv_at hl 4 rfl) ?_
  refine lv_iconst (v := nI 1) hx hb dL_law_612 (by decide) ?_
  refine nv_iadd (x := i) (y := 1) hx hb dL_law_613 ?_
  refine lw_sld (i := i + 1) F S hz1 (by omega) dL_law_614 ?_
  refine lv_aload_n hx hb dL_law_615 rfl (lv_at hl 3 rfl) ?_
  refine lw_help (k9 := 3) (rest := []) (As := [.ref h, .int (nI v), .ref o]) F P1 P2 S (hL_high_n2 l D (xo h a1 a2 a3 a4 o) h a1 a2 a3 a4 o cA cL n nb u v (fun v j => ed (8 * v + j)) F.hst hn hnb hed hres hv) w2_52 w2_50 w2_51 w1_0 ⟨by decide, by decide, by decide +kernel⟩ ⟨Nat.le_of_ble_eq_true rfl, Nat.le_of_ble_eq_true rfl⟩ rfl hl.1 rfl (Nat.le_of_ble_eq_true rfl) dL_law_616 ⟨hc, hs⟩ (fun r9 w9 H locs hpost9 P1 P2 S => ?_)
  obtain ⟨hr9, -⟩ := hpost9
  subst hr9
  refine lv_istore hx hb dL_law_619 hl (by decide) (lv' := [(5, .int (nI 2)), (0, .ref b), (1, .ref h), (2, .ref g0), (3, .ref o), (4, .int (nI i))]) rfl (fun ls hl => ?_)
  refine lv_aload_n hx hb dL_law_621 rfl (lv_at hl 3 rfl) ?_
  refine lv_aload_n hx hb dL_law_622 rfl (lv_at hl 1 rfl) ?_
  refine lv_iload hx hb dL_law_623 (lv_at hl 5 rfl) ?_
  refine lv_iconst (v := nI 1) hx hb dL_law_625 (by decide) ?_
  refine nv_iadd (x := i) (y := 1) hx hb dL_law_626 ?_
  refine lw_sld (i := i + 1) F S hz1 (by omega) dL_law_627 ?_
  refine lw_mod (rest := []) (As := [.int (nI v)]) (fun w => w) F P1 P2 S (cM_high_n l D (mA g0 b1 b2 b3 b4 b5) g0 b1 b2 b3 b4 b5 cA n ft ed um.1 um.2.1 um.2.2.1 um.2.2.2 v hn hed1 hres hv) (fun _ _ h9 => h9) (cwV 1 hw (gV w2_204 w2_205 w2_206 w1_2 w2_207) rfl rfl rfl ⟨rfl, by decide, by decide, by decide +kernel⟩ ⟨Nat.le_of_ble_eq_true rfl, Nat.le_of_ble_eq_true rfl⟩) rfl hl.1 rfl (Nat.le_of_ble_eq_true rfl) dL_law_628 ⟨hc, hs⟩ (fun r8 w8 H locs hpost8 P1 P2 S => ?_)
  subst hpost8
  refine lv_istore hx hb dL_law_631 hl (by decide) (lv' := [(6, .int (nI 0)), (5, .int (nI 2)), (0, .ref b), (1, .ref h), (2, .ref g0), (3, .ref o), (4, .int (nI i))]) rfl (fun ls hl => ?_)
  refine lv_aload_n hx hb dL_law_633 rfl (lv_at hl 4 rfl) ?_
  refine nr_V (b := g0) (As := []) (C := RM) (rest := []) ⟨hx, hb, F.hml, F.hown, hw⟩ (cM_thrown_c l D (mA g0 b1 b2 b3 b4 b5) g0 b1 b2 b3 b4 b5 cA n 2 ed w8.1 w8.2.1 w8.2.2.1 w8.2.2.2) (cwV 0 hw (gV w2_120 w2_121 w2_122 w1_2 w2_123) rfl rfl rfl ⟨rfl, by decide, by decide, by decide +kernel⟩ ⟨Nat.le_of_ble_eq_true rfl, Nat.le_of_ble_eq_true rfl⟩) gB_blind (va_recv (q0 := 0) (ci := 1) F.Km P2 rfl rfl) (gB_at P2 F.Km _) rfl hl.1 rfl (Nat.le_of_ble_eq_true rfl) dL_law_634 ⟨hc, hs⟩ ?_
  refine lv_iload hx hb dL_law_637 (lv_at hl 1 rfl) ?_
  refine lv_icmp_eq (tgt := 644) hx hb dL_law_639 rfl (fun _ => ?_) (fun h9 => absurd rfl h9)
  refine lv_iload hx hb dL_law_644 (lv_at hl 1 rfl) ?_
  refine nv_if_ne (x := 2) (tgt := 661) hx hb dL_law_646 rfl (by decide) (fun _ => ?_) (fun h9 => absurd h9 (by decide))
  refine lv_goto (tgt := 822) hx hb dL_law_661 rfl ?_
  have hl := lv_sub hl (l' := [(0, .ref b), (1, .ref h), (2, .ref g0), (3, .ref o), (4, .int (nI i))]) [2, 3, 4, 5, 6] rfl
  exact kk _ _ _ _ _ _ _ _ ls ⟨T.R, P1, P2, S⟩ hl

end LC
