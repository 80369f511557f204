section LC
variable {p : Program} {l : Launch} {e : Env} {s : State} {m : MethodId} {below : List Frame} {meth : Method} {c : Code} {Q : State → Prop} {cells slots : Nat} {D : va_G} {H : Heap} {locs : List Loc} {ls : Array Slot}
variable {h a1 a2 a3 a4 o g0 b1 b2 b3 b4 b5 b L i : Nat} {cA cL : ClassId} {xs : Nat → Int32}
variable {n ft : Nat} {nb ed : Nat → Nat} {u : hU} {um : UM}

set_option maxHeartbeats 4000000 in
set_option maxRecDepth 100000 in
theorem lc_grow_y (F : LFix p l s m c b L xs D cA cL h a1 a2 a3 a4 o g0 b1 b2 b3 b4 b5) (T : LSt s D cA cL h a1 a2 a3 a4 o g0 b1 b2 b3 b4 b5 n nb u ft ed um H locs) (hi : i + 2 < L) (hc : cells + 1 ≤ 667068) (hs : slots + 6 ≤ 7094901) (kk : LK p l e room_1 s m below meth c Q D cA cL b h a1 a2 a3 a4 o g0 b1 b2 b3 b4 b5 i (cells + 1) (slots + 6)) (hl : lv_has ls 7 [(0, .ref b), (1, .ref h), (2, .ref g0), (3, .ref o), (4, .int (nI i))]) (hn8 : n < 8) : W p l e room_1 s m #[Value.ref b] below meth c H locs cells slots Q (F0 m 120 ls []) := by
  have hx := F.hx
  have hb := F.hb
  have hw := F.hw
  have hn := T.R.1
  have hnb := rel_lt T.R
  have hed1 := T.R.2.1
  have hed := rel_e9 T.R
  have hc0 : cells ≤ 667068 := by omega
  have hs0 : slots ≤ 7094901 := by omega
  have P1 := T.P1
  have P2 := T.P2
  have S := T.S
  refine lv_aload_n hx hb dL_law_120 rfl (lv_at hl 1 rfl) ?_
  refine lv_aload_n hx hb dL_law_121 rfl (lv_at hl 3 rfl) ?_
  refine lw_help (k9 := 2) (rest := []) (As := [.ref h, .ref o]) F P1 P2 S (hL_grow_y l D (xo h a1 a2 a3 a4 o) h a1 a2 a3 a4 o cA cL n nb u hn8) w1_115 w1_113 w1_114 w1_0 ⟨by decide, by decide, by decide +kernel⟩ ⟨Nat.le_of_ble_eq_true rfl, Nat.le_of_ble_eq_true rfl⟩ rfl hl.1 rfl (Nat.le_of_ble_eq_true rfl) dL_law_122 ⟨hc, hs⟩ (fun r9 w9 H locs hpost9 P1 P2 S => ?_)
  obtain ⟨hr9, hval⟩ := hpost9
  subst hr9
  refine lv_istore hx hb dL_law_125 hl (by decide) (lv' := [(5, .int (nI 0)), (0, .ref b), (1, .ref h), (2, .ref g0), (3, .ref o), (4, .int (nI i))]) rfl (fun ls hl => ?_)
  refine lv_aload_n hx hb dL_law_127 rfl (lv_at hl 3 rfl) ?_
  refine lw_mod (rest := []) (As := []) (fun _ => um) F P1 P2 S (cM_grow_y l D (mA g0 b1 b2 b3 b4 b5) g0 b1 b2 b3 b4 b5 cA n ft ed um.1 um.2.1 um.2.2.1 um.2.2.2 hn8) (fun _ _ h9 => h9) (cwV 0 hw (gV w2_124 w2_125 w2_126 w1_2 w2_127) rfl rfl rfl ⟨rfl, by decide, by decide, by decide +kernel⟩ ⟨Nat.le_of_ble_eq_true rfl, Nat.le_of_ble_eq_true rfl⟩) rfl hl.1 rfl (Nat.le_of_ble_eq_true rfl) dL_law_128 ⟨hc, hs⟩ (fun r8 w8 H locs hpost8 P1 P2 S => ?_)
  subst hpost8
  refine lv_istore hx hb dL_law_131 hl (by decide) (lv' := [(6, .int (nI n)), (5, .int (nI 0)), (0, .ref b), (1, .ref h), (2, .ref g0), (3, .ref o), (4, .int (nI i))]) rfl (fun ls hl => ?_)
  refine lv_aload_n hx hb dL_law_133 rfl (lv_at hl 4 rfl) ?_
  refine nr_V (b := g0) (As := []) (C := RM) (rest := []) ⟨hx, hb, F.hml, F.hown, hw⟩ (cM_thrown_c l D (mA g0 b1 b2 b3 b4 b5) g0 b1 b2 b3 b4 b5 cA (n + 1) 0 ed um.1 um.2.1 um.2.2.1 um.2.2.2) (cwV 0 hw (gV w2_120 w2_121 w2_122 w1_2 w2_123) rfl rfl rfl ⟨rfl, by decide, by decide, by decide +kernel⟩ ⟨Nat.le_of_ble_eq_true rfl, Nat.le_of_ble_eq_true rfl⟩) gB_blind (va_recv (q0 := 0) (ci := 1) F.Km P2 rfl rfl) (gB_at P2 F.Km _) rfl hl.1 rfl (Nat.le_of_ble_eq_true rfl) dL_law_134 ⟨hc, hs⟩ ?_
  refine lv_iload hx hb dL_law_137 (lv_at hl 1 rfl) ?_
  refine lv_icmp_eq (tgt := 144) hx hb dL_law_139 rfl (fun _ => ?_) (fun h9 => absurd rfl h9)
  refine lv_iload hx hb dL_law_144 (lv_at hl 1 rfl) ?_
  refine nv_if_ne (x := 0) (tgt := 161) hx hb dL_law_146 rfl (by decide) (fun h9 => absurd rfl h9) (fun _ => ?_)
  have e9 := hval
  refine lv_aload_n hx hb dL_law_149 rfl (lv_at hl 5 rfl) ?_
  refine lv_iconst (v := nI 0) hx hb dL_law_150 (by decide) ?_
  refine nv_lald (f := w9.2) hx hb F.hK P1 5 1 rfl rfl dL_law_151 ?_
  refine lv_iload hx hb dL_law_152 (lv_at hl 0 rfl) ?_
  refine lv_i2l (v := (nI n : Int32).toInt64) hx hb dL_law_154 rfl ?_
  refine W.lcmp hx hb dL_law_155 ?_
  refine lv_if_eq (tgt := 161) hx hb dL_law_156 rfl (fun _ => ?_) (fun h9 => absurd ((lg_cmp_eq _ _).mpr e9) h9)
  refine lv_goto (tgt := 822) hx hb dL_law_161 rfl ?_
  have hl := lv_sub hl (l' := [(0, .ref b), (1, .ref h), (2, .ref g0), (3, .ref o), (4, .int (nI i))]) [2, 3, 4, 5, 6] rfl
  exact kk _ _ _ _ _ _ _ _ ls ⟨rel_grow T.R hn8, P1, P2, S⟩ hl

set_option maxHeartbeats 4000000 in
set_option maxRecDepth 100000 in
theorem lc_grow_n (F : LFix p l s m c b L xs D cA cL h a1 a2 a3 a4 o g0 b1 b2 b3 b4 b5) (T : LSt s D cA cL h a1 a2 a3 a4 o g0 b1 b2 b3 b4 b5 n nb u ft ed um H locs) (hi : i + 2 < L) (hc : cells + 1 ≤ 667068) (hs : slots + 6 ≤ 7094901) (kk : LK p l e room_1 s m below meth c Q D cA cL b h a1 a2 a3 a4 o g0 b1 b2 b3 b4 b5 i (cells + 1) (slots + 6)) (hl : lv_has ls 7 [(0, .ref b), (1, .ref h), (2, .ref g0), (3, .ref o), (4, .int (nI i))]) (hn8 : n = 8) : W p l e room_1 s m #[Value.ref b] below meth c H locs cells slots Q (F0 m 120 ls []) := by
  have hx := F.hx
  have hb := F.hb
  have hw := F.hw
  have hn := T.R.1
  have hnb := rel_lt T.R
  have hed1 := T.R.2.1
  have hed := rel_e9 T.R
  have hc0 : cells ≤ 667068 := by omega
  have hs0 : slots ≤ 7094901 := by omega
  have P1 := T.P1
  have P2 := T.P2
  have S := T.S
  refine lv_aload_n hx hb dL_law_120 rfl (lv_at hl 1 rfl) ?_
  refine lv_aload_n hx hb dL_law_121 rfl (lv_at hl 3 rfl) ?_
  refine lw_help (k9 := 2) (rest := []) (As := [.ref h, .ref o]) F P1 P2 S (hL_grow_n l D (xo h a1 a2 a3 a4 o) h a1 a2 a3 a4 o cA cL n nb u F.hst hn8) w1_115 w1_113 w1_114 w1_0 ⟨by decide, by decide, by decide +kernel⟩ ⟨Nat.le_of_ble_eq_true rfl, Nat.le_of_ble_eq_true rfl⟩ rfl hl.1 rfl (Nat.le_of_ble_eq_true rfl) dL_law_122 ⟨hc, hs⟩ (fun r9 w9 H locs hpost9 P1 P2 S => ?_)
  obtain ⟨hr9, -⟩ := hpost9
  subst hr9
  refine lv_istore hx hb dL_law_125 hl (by decide) (lv' := [(5, .int (nI 1)), (0, .ref b), (1, .ref h), (2, .ref g0), (3, .ref o), (4, .int (nI i))]) rfl (fun ls hl => ?_)
  refine lv_aload_n hx hb dL_law_127 rfl (lv_at hl 3 rfl) ?_
  refine lw_mod (rest := []) (As := []) (fun _ => um) F P1 P2 S (cM_grow_n l D (mA g0 b1 b2 b3 b4 b5) g0 b1 b2 b3 b4 b5 cA n ft ed um.1 um.2.1 um.2.2.1 um.2.2.2 hn8) (fun _ _ h9 => h9) (cwV 0 hw (gV w2_124 w2_125 w2_126 w1_2 w2_127) rfl rfl rfl ⟨rfl, by decide, by decide, by decide +kernel⟩ ⟨Nat.le_of_ble_eq_true rfl, Nat.le_of_ble_eq_true rfl⟩) rfl hl.1 rfl (Nat.le_of_ble_eq_true rfl) dL_law_128 ⟨hc, hs⟩ (fun r8 w8 H locs hpost8 P1 P2 S => ?_)
  subst hpost8
  refine lv_istore hx hb dL_law_131 hl (by decide) (lv' := [(6, .int (nI 0)), (5, .int (nI 1)), (0, .ref b), (1, .ref h), (2, .ref g0), (3, .ref o), (4, .int (nI i))]) rfl (fun ls hl => ?_)
  refine lv_aload_n hx hb dL_law_133 rfl (lv_at hl 4 rfl) ?_
  refine nr_V (b := g0) (As := []) (C := RM) (rest := []) ⟨hx, hb, F.hml, F.hown, hw⟩ (cM_thrown_c l D (mA g0 b1 b2 b3 b4 b5) g0 b1 b2 b3 b4 b5 cA n 1 ed um.1 um.2.1 um.2.2.1 um.2.2.2) (cwV 0 hw (gV w2_120 w2_121 w2_122 w1_2 w2_123) rfl rfl rfl ⟨rfl, by decide, by decide, by decide +kernel⟩ ⟨Nat.le_of_ble_eq_true rfl, Nat.le_of_ble_eq_true rfl⟩) gB_blind (va_recv (q0 := 0) (ci := 1) F.Km P2 rfl rfl) (gB_at P2 F.Km _) rfl hl.1 rfl (Nat.le_of_ble_eq_true rfl) dL_law_134 ⟨hc, hs⟩ ?_
  refine lv_iload hx hb dL_law_137 (lv_at hl 1 rfl) ?_
  refine lv_icmp_eq (tgt := 144) hx hb dL_law_139 rfl (fun _ => ?_) (fun h9 => absurd rfl h9)
  refine lv_iload hx hb dL_law_144 (lv_at hl 1 rfl) ?_
  refine nv_if_ne (x := 1) (tgt := 161) hx hb dL_law_146 rfl (by decide) (fun _ => ?_) (fun h9 => absurd h9 (by decide))
  refine lv_goto (tgt := 822) hx hb dL_law_161 rfl ?_
  have hl := lv_sub hl (l' := [(0, .ref b), (1, .ref h), (2, .ref g0), (3, .ref o), (4, .int (nI i))]) [2, 3, 4, 5, 6] rfl
  exact kk _ _ _ _ _ _ _ _ ls ⟨T.R, P1, P2, S⟩ hl

set_option maxHeartbeats 4000000 in
set_option maxRecDepth 100000 in
theorem lc_shrink_y (F : LFix p l s m c b L xs D cA cL h a1 a2 a3 a4 o g0 b1 b2 b3 b4 b5) (T : LSt s D cA cL h a1 a2 a3 a4 o g0 b1 b2 b3 b4 b5 (n + 1) nb u ft ed um H locs) (hi : i + 2 < L) (hc : cells + 1 ≤ 667068) (hs : slots + 6 ≤ 7094901) (kk : LK p l e room_1 s m below meth c Q D cA cL b h a1 a2 a3 a4 o g0 b1 b2 b3 b4 b5 i (cells + 1) (slots + 6)) (hl : lv_has ls 7 [(0, .ref b), (1, .ref h), (2, .ref g0), (3, .ref o), (4, .int (nI i))])  : W p l e room_1 s m #[Value.ref b] below meth c H locs cells slots Q (F0 m 164 ls []) := by
  have hx := F.hx
  have hb := F.hb
  have hw := F.hw
  have hn := T.R.1
  have hnb := rel_lt T.R
  have hed1 := T.R.2.1
  have hed := rel_e9 T.R
  have hc0 : cells ≤ 667068 := by omega
  have hs0 : slots ≤ 7094901 := by omega
  have P1 := T.P1
  have P2 := T.P2
  have S := T.S
  refine lv_aload_n hx hb dL_law_164 rfl (lv_at hl 1 rfl) ?_
  refine lw_help (k9 := 1) (rest := []) (As := [.ref h]) F P1 P2 S (hL_shrink_y l D (xo h a1 a2 a3 a4 o) h a1 a2 a3 a4 o cA cL n nb u (by omega)) w1_191 w1_189 w1_190 w1_0 ⟨by decide, by decide, by decide +kernel⟩ ⟨Nat.le_of_ble_eq_true rfl, Nat.le_of_ble_eq_true rfl⟩ rfl hl.1 rfl (Nat.le_of_ble_eq_true rfl) dL_law_165 ⟨hc, hs⟩ (fun r9 w9 H locs hpost9 P1 P2 S => ?_)
  obtain ⟨hr9, -⟩ := hpost9
  subst hr9
  refine lv_istore hx hb dL_law_168 hl (by decide) (lv' := [(5, .int (nI 0)), (0, .ref b), (1, .ref h), (2, .ref g0), (3, .ref o), (4, .int (nI i))]) rfl (fun ls hl => ?_)
  refine lv_aload_n hx hb dL_law_170 rfl (lv_at hl 3 rfl) ?_
  refine lw_modv (rest := []) (As := []) (fun _ => um) F P1 P2 S (cM_shrink_y l D (mA g0 b1 b2 b3 b4 b5) g0 b1 b2 b3 b4 b5 cA n ft ed um.1 um.2.1 um.2.2.1 um.2.2.2 (by omega)) (fun _ _ h9 => h9) (cwV 0 hw (gV w2_128 w2_129 w2_130 w1_2 w2_131) rfl rfl rfl ⟨rfl, by decide, by decide, by decide +kernel⟩ ⟨Nat.le_of_ble_eq_true rfl, Nat.le_of_ble_eq_true rfl⟩) rfl hl.1 rfl (Nat.le_of_ble_eq_true rfl) dL_law_171 ⟨hc, hs⟩ (fun  w8 H locs hpost8 P1 P2 S => ?_)
  refine lv_aload_n hx hb dL_law_174 rfl (lv_at hl 3 rfl) ?_
  refine nr_V (b := g0) (As := []) (C := RM) (rest := []) ⟨hx, hb, F.hml, F.hown, hw⟩ (cM_thrown_c l D (mA g0 b1 b2 b3 b4 b5) g0 b1 b2 b3 b4 b5 cA n 0 (mSh ed n 8) um.1 um.2.1 um.2.2.1 um.2.2.2) (cwV 0 hw (gV w2_120 w2_121 w2_122 w1_2 w2_123) rfl rfl rfl ⟨rfl, by decide, by decide, by decide +kernel⟩ ⟨Nat.le_of_ble_eq_true rfl, Nat.le_of_ble_eq_true rfl⟩) gB_blind (va_recv (q0 := 0) (ci := 1) F.Km P2 rfl rfl) (gB_at P2 F.Km _) rfl hl.1 rfl (Nat.le_of_ble_eq_true rfl) dL_law_175 ⟨hc, hs⟩ ?_
  refine lv_iload hx hb dL_law_178 (lv_at hl 0 rfl) ?_
  refine lv_icmp_eq (tgt := 185) hx hb dL_law_180 rfl (fun _ => ?_) (fun h9 => absurd rfl h9)
  refine lv_goto (tgt := 822) hx hb dL_law_185 rfl ?_
  have hl := lv_sub hl (l' := [(0, .ref b), (1, .ref h), (2, .ref g0), (3, .ref o), (4, .int (nI i))]) [1, 2, 3, 4, 5] rfl
  exact kk _ _ _ _ _ _ _ _ ls ⟨rel_shrink T.R, P1, P2, S⟩ hl

set_option maxHeartbeats 4000000 in
set_option maxRecDepth 100000 in
theorem lc_shrink_n (F : LFix p l s m c b L xs D cA cL h a1 a2 a3 a4 o g0 b1 b2 b3 b4 b5) (T : LSt s D cA cL h a1 a2 a3 a4 o g0 b1 b2 b3 b4 b5 n nb u ft ed um H locs) (hi : i + 2 < L) (hc : cells + 1 ≤ 667068) (hs : slots + 6 ≤ 7094901) (kk : LK p l e room_1 s m below meth c Q D cA cL b h a1 a2 a3 a4 o g0 b1 b2 b3 b4 b5 i (cells + 1) (slots + 6)) (hl : lv_has ls 7 [(0, .ref b), (1, .ref h), (2, .ref g0), (3, .ref o), (4, .int (nI i))]) (hn8 : n = 0) : W p l e room_1 s m #[Value.ref b] below meth c H locs cells slots Q (F0 m 164 ls []) := by
  have hx := F.hx
  have hb := F.hb
  have hw := F.hw
  have hn := T.R.1
  have hnb := rel_lt T.R
  have hed1 := T.R.2.1
  have hed := rel_e9 T.R
  have hc0 : cells ≤ 667068 := by omega
  have hs0 : slots ≤ 7094901 := by omega
  have P1 := T.P1
  have P2 := T.P2
  have S := T.S
  refine lv_aload_n hx hb dL_law_164 rfl (lv_at hl 1 rfl) ?_
  refine lw_help (k9 := 1) (rest := []) (As := [.ref h]) F P1 P2 S (hL_shrink_n l D (xo h a1 a2 a3 a4 o) h a1 a2 a3 a4 o cA cL n nb u F.hst hn8) w1_191 w1_189 w1_190 w1_0 ⟨by decide, by decide, by decide +kernel⟩ ⟨Nat.le_of_ble_eq_true rfl, Nat.le_of_ble_eq_true rfl⟩ rfl hl.1 rfl (Nat.le_of_ble_eq_true rfl) dL_law_165 ⟨hc, hs⟩ (fun r9 w9 H locs hpost9 P1 P2 S => ?_)
  obtain ⟨hr9, -⟩ := hpost9
  subst hr9
  refine lv_istore hx hb dL_law_168 hl (by decide) (lv' := [(5, .int (nI 1)), (0, .ref b), (1, .ref h), (2, .ref g0), (3, .ref o), (4, .int (nI i))]) rfl (fun ls hl => ?_)
  refine lv_aload_n hx hb dL_law_170 rfl (lv_at hl 3 rfl) ?_
  refine lw_modv (rest := []) (As := []) (fun _ => um) F P1 P2 S (cM_shrink_n l D (mA g0 b1 b2 b3 b4 b5) g0 b1 b2 b3 b4 b5 cA n ft ed um.1 um.2.1 um.2.2.1 um.2.2.2 hn8) (fun _ _ h9 => h9) (cwV 0 hw (gV w2_128 w2_129 w2_130 w1_2 w2_131) rfl rfl rfl ⟨rfl, by decide, by decide, by decide +kernel⟩ ⟨Nat.le_of_ble_eq_true rfl, Nat.le_of_ble_eq_true rfl⟩) rfl hl.1 rfl (Nat.le_of_ble_eq_true rfl) dL_law_171 ⟨hc, hs⟩ (fun  w8 H locs hpost8 P1 P2 S => ?_)
  refine lv_aload_n hx hb dL_law_174 rfl (lv_at hl 3 rfl) ?_
  refine nr_V (b := g0) (As := []) (C := RM) (rest := []) ⟨hx, hb, F.hml, F.hown, hw⟩ (cM_thrown_c l D (mA g0 b1 b2 b3 b4 b5) g0 b1 b2 b3 b4 b5 cA n 1 ed um.1 um.2.1 um.2.2.1 um.2.2.2) (cwV 0 hw (gV w2_120 w2_121 w2_122 w1_2 w2_123) rfl rfl rfl ⟨rfl, by decide, by decide, by decide +kernel⟩ ⟨Nat.le_of_ble_eq_true rfl, Nat.le_of_ble_eq_true rfl⟩) gB_blind (va_recv (q0 := 0) (ci := 1) F.Km P2 rfl rfl) (gB_at P2 F.Km _) rfl hl.1 rfl (Nat.le_of_ble_eq_true rfl) dL_law_175 ⟨hc, hs⟩ ?_
  refine lv_iload hx hb dL_law_178 (lv_at hl 0 rfl) ?_
  refine lv_icmp_eq (tgt := 185) hx hb dL_law_180 rfl (fun _ => ?_) (fun h9 => absurd rfl h9)
  refine lv_goto (tgt := 822) hx hb dL_law_185 rfl ?_
  have hl := lv_sub hl (l' := [(0, .ref b), (1, .ref h), (2, .ref g0), (3, .ref o), (4, .int (nI i))]) [1, 2, 3, 4, 5] rfl
  exact kk _ _ _ _ _ _ _ _ ls ⟨T.R, P1, P2, S⟩ hl

set_option maxHeartbeats 4000000 in
set_option maxRecDepth 100000 in
theorem lc_join_n1 (F : LFix p l s m c b L xs D cA cL h a1 a2 a3 a4 o g0 b1 b2 b3 b4 b5) (T : LSt s D cA cL h a1 a2 a3 a4 o g0 b1 b2 b3 b4 b5 n nb u ft ed um H locs) (hi : i + 2 < L) (hc : cells + 1 ≤ 667068) (hs : slots + 6 ≤ 7094901) (kk : LK p l e room_1 s m below meth c Q D cA cL b h a1 a2 a3 a4 o g0 b1 b2 b3 b4 b5 i (cells + 1) (slots + 6)) (hl : lv_has ls 7 [(0, .ref b), (1, .ref h), (2, .ref g0), (3, .ref o), (4, .int (nI i))]) (hz : ∀ k, k < n → xs (i + 1) ≠ nI k) : W p l e room_1 s m #[Value.ref b] below meth c H locs cells slots Q (F0 m 188 ls []) := by
  have hx := F.hx
  have hb := F.hb
  have hw := F.hw
  have hn := T.R.1
  have hnb := rel_lt T.R
  have hed1 := T.R.2.1
  have hed := rel_e9 T.R
  have hc0 : cells ≤ 667068 := by omega
  have hs0 : slots ≤ 7094901 := by omega
  have P1 := T.P1
  have P2 := T.P2
  have S := T.S
  refine lv_aload_n hx hb dL_law_188 rfl (lv_at hl 1 rfl) ?_
  refine lv_aload_n hx hb dL_law_189 rfl (lv_at hl 0 rfl) ?_
  refine lv_iload hx hb dL_law_190 (lv_at hl 4 rfl) ?_
  refine lv_iconst (v := nI 1) hx hb dL_law_192 (by decide) ?_
  refine nv_iadd (x := i) (y := 1) hx hb dL_law_193 ?_
  refine lw_sld (i := i + 1) F S rfl (by omega) dL_law_194 ?_
  refine lv_aload_n hx hb dL_law_195 rfl (lv_at hl 0 rfl) ?_
  refine lv_iload hx hb dL_law_196 (lv_at hl 4 rfl) ?_
  refine lv_iconst (v := nI 2) hx hb dL_law_198 (by decide) ?_
  refine nv_iadd (x := i) (y := 2) hx hb dL_law_199 ?_
  refine lw_sld (i := i + 2) F S rfl (by omega) dL_law_200 ?_
  refine lv_aload_n hx hb dL_law_201 rfl (lv_at hl 3 rfl) ?_
  refine lw_help (k9 := 4) (rest := []) (As := [.ref h, .int (xs (i + 1)), .int (xs (i + 2)), .ref o]) F P1 P2 S (hL_join_n1 l D (xo h a1 a2 a3 a4 o) h a1 a2 a3 a4 o cA cL n nb u (xs (i + 1)) (xs (i + 2)) F.hst hn hz) w1_199 w1_197 w1_198 w1_0 ⟨by decide, by decide, by decide +kernel⟩ ⟨Nat.le_of_ble_eq_true rfl, Nat.le_of_ble_eq_true rfl⟩ rfl hl.1 rfl (Nat.le_of_ble_eq_true rfl) dL_law_202 ⟨hc, hs⟩ (fun r9 w9 H locs hpost9 P1 P2 S => ?_)
  obtain ⟨hr9, -⟩ := hpost9
  subst hr9
  refine lv_istore hx hb dL_law_205 hl (by decide) (lv' := [(5, .int (nI 1)), (0, .ref b), (1, .ref h), (2, .ref g0), (3, .ref o), (4, .int (nI i))]) rfl (fun ls hl => ?_)
  refine lv_aload_n hx hb dL_law_207 rfl (lv_at hl 3 rfl) ?_
  refine lv_aload_n hx hb dL_law_208 rfl (lv_at hl 1 rfl) ?_
  refine lv_iload hx hb dL_law_209 (lv_at hl 5 rfl) ?_
  refine lv_iconst (v := nI 1) hx hb dL_law_211 (by decide) ?_
  refine nv_iadd (x := i) (y := 1) hx hb dL_law_212 ?_
  refine lw_sld (i := i + 1) F S rfl (by omega) dL_law_213 ?_
  refine lv_aload_n hx hb dL_law_214 rfl (lv_at hl 1 rfl) ?_
  refine lv_iload hx hb dL_law_215 (lv_at hl 5 rfl) ?_
  refine lv_iconst (v := nI 2) hx hb dL_law_217 (by decide) ?_
  refine nv_iadd (x := i) (y := 2) hx hb dL_law_218 ?_
  refine lw_sld (i := i + 2) F S rfl (by omega) dL_law_219 ?_
  refine lw_mod (rest := []) (As := [.int (xs (i + 1)), .int (xs (i + 2))]) (fun _ => um) F P1 P2 S (cM_join_a1 l D (mA g0 b1 b2 b3 b4 b5) g0 b1 b2 b3 b4 b5 cA n ft ed um.1 um.2.1 um.2.2.1 um.2.2.2 (xs (i + 1)) (xs (i + 2)) hn hz) (fun _ _ h9 => h9) (cwV 2 hw (gV w2_132 w2_133 w2_134 w1_2 w2_135) rfl rfl rfl ⟨rfl, by decide, by decide, by decide +kernel⟩ ⟨Nat.le_of_ble_eq_true rfl, Nat.le_of_ble_eq_true rfl⟩) rfl hl.1 rfl (Nat.le_of_ble_eq_true rfl) dL_law_220 ⟨hc, hs⟩ (fun r8 w8 H locs hpost8 P1 P2 S => ?_)
  subst hpost8
  refine lv_istore hx hb dL_law_223 hl (by decide) (lv' := [(6, .int (bI false)), (5, .int (nI 1)), (0, .ref b), (1, .ref h), (2, .ref g0), (3, .ref o), (4, .int (nI i))]) rfl (fun ls hl => ?_)
  refine lv_aload_n hx hb dL_law_225 rfl (lv_at hl 4 rfl) ?_
  refine nr_V (b := g0) (As := []) (C := RM) (rest := []) ⟨hx, hb, F.hml, F.hown, hw⟩ (cM_thrown_c l D (mA g0 b1 b2 b3 b4 b5) g0 b1 b2 b3 b4 b5 cA n 1 ed um.1 um.2.1 um.2.2.1 um.2.2.2) (cwV 0 hw (gV w2_120 w2_121 w2_122 w1_2 w2_123) rfl rfl rfl ⟨rfl, by decide, by decide, by decide +kernel⟩ ⟨Nat.le_of_ble_eq_true rfl, Nat.le_of_ble_eq_true rfl⟩) gB_blind (va_recv (q0 := 0) (ci := 1) F.Km P2 rfl rfl) (gB_at P2 F.Km _) rfl hl.1 rfl (Nat.le_of_ble_eq_true rfl) dL_law_226 ⟨hc, hs⟩ ?_
  refine lv_iload hx hb dL_law_229 (lv_at hl 1 rfl) ?_
  refine lv_icmp_eq (tgt := 236) hx hb dL_law_231 rfl (fun _ => ?_) (fun h9 => absurd rfl h9)
  refine lv_iload hx hb dL_law_236 (lv_at hl 1 rfl) ?_
  refine nv_if_ne (x := 1) (tgt := 260) hx hb dL_law_238 rfl (by decide) (fun _ => ?_) (fun h9 => absurd h9 (by decide))
  refine lv_goto (tgt := 822) hx hb dL_law_260 rfl ?_
  have hl := lv_sub hl (l' := [(0, .ref b), (1, .ref h), (2, .ref g0), (3, .ref o), (4, .int (nI i))]) [2, 3, 4, 5, 6] rfl
  exact kk _ _ _ _ _ _ _ _ ls ⟨T.R, P1, P2, S⟩ hl

set_option maxHeartbeats 4000000 in
set_option maxRecDepth 100000 in
theorem lc_join_n2 (F : LFix p l s m c b L xs D cA cL h a1 a2 a3 a4 o g0 b1 b2 b3 b4 b5) (T : LSt s D cA cL h a1 a2 a3 a4 o g0 b1 b2 b3 b4 b5 n nb u ft ed um H locs) (hi : i + 2 < L) (hc : cells + 1 ≤ 667068) (hs : slots + 6 ≤ 7094901) (kk : LK p l e room_1 s m below meth c Q D cA cL b h a1 a2 a3 a4 o g0 b1 b2 b3 b4 b5 i (cells + 1) (slots + 6)) (hl : lv_has ls 7 [(0, .ref b), (1, .ref h), (2, .ref g0), (3, .ref o), (4, .int (nI i))]) {v1 : Nat} (hz1 : xs (i + 1) = nI v1) (hu : v1 < n) (hz : ∀ k, k < n → xs (i + 2) ≠ nI k) : W p l e room_1 s m #[Value.ref b] below meth c H locs cells slots Q (F0 m 188 ls []) := by
  have hx := F.hx
  have hb := F.hb
  have hw := F.hw
  have hn := T.R.1
  have hnb := rel_lt T.R
  have hed1 := T.R.2.1
  have hed := rel_e9 T.R
  have hc0 : cells ≤ 667068 := by omega
  have hs0 : slots ≤ 7094901 := by omega
  have P1 := T.P1
  have P2 := T.P2
  have S := T.S
  refine lv_aload_n hx hb dL_law_188 rfl (lv_at hl 1 rfl) ?_
  refine lv_aload_n hx hb dL_law_189 rfl (lv_at hl 0 rfl) ?_
  refine lv_iload hx hb dL_law_190 (lv_at hl 4 rfl) ?_
  refine lv_iconst (v := nI 1) hx hb dL_law_192 (by decide) ?_
  refine nv_iadd (x := i) (y := 1) hx hb dL_law_193 ?_
  refine lw_sld (i := i + 1) F S hz1 (by omega) dL_law_194 ?_
  refine lv_aload_n hx hb dL_law_195 rfl (lv_at hl 0 rfl) ?_
  refine lv_iload hx hb dL_law_196 (lv_at hl 4 rfl) ?_
  refine lv_iconst (v := nI 2) hx hb dL_law_198 (by decide) ?_
  refine nv_iadd (x := i) (y := 2) hx hb dL_law_199 ?_
  refine lw_sld (i := i + 2) F S rfl (by omega) dL_law_200 ?_
  refine lv_aload_n hx hb dL_law_201 rfl (lv_at hl 3 rfl) ?_
  refine lw_help (k9 := 4) (rest := []) (As := [.ref h, .int (nI v1), .int (xs (i + 2)), .ref o]) F P1 P2 S (hL_join_n2 l D (xo h a1 a2 a3 a4 o) h a1 a2 a3 a4 o cA cL n nb u v1 (xs (i + 2)) F.hst hn hu hz) w1_199 w1_197 w1_198 w1_0 ⟨by decide, by decide, by decide +kernel⟩ ⟨Nat.le_of_ble_eq_true rfl, Nat.le_of_ble_eq_true rfl⟩ rfl hl.1 rfl (Nat.le_of_ble_eq_true rfl) dL_law_202 ⟨hc, hs⟩ (fun r9 w9 H locs hpost9 P1 P2 S => ?_)
  obtain ⟨hr9, -⟩ := hpost9
  subst hr9
  refine lv_istore hx hb dL_law_205 hl (by decide) (lv' := [(5, .int (nI 1)), (0, .ref b), (1, .ref h), (2, .ref g0), (3, .ref o), (4, .int (nI i))]) rfl (fun ls hl => ?_)
  refine lv_aload_n hx hb dL_law_207 rfl (lv_at hl 3 rfl) ?_
  refine lv_aload_n hx hb dL_law_208 rfl (lv_at hl 1 rfl) ?_
  refine lv_iload hx hb dL_law_209 (lv_at hl 5 rfl) ?_
  refine lv_iconst (v := nI 1) hx hb dL_law_211 (by decide) ?_
  refine nv_iadd (x := i) (y := 1) hx hb dL_law_212 ?_
  refine lw_sld (i := i + 1) F S hz1 (by omega) dL_law_213 ?_
  refine lv_aload_n hx hb dL_law_214 rfl (lv_at hl 1 rfl) ?_
  refine lv_iload hx hb dL_law_215 (lv_at hl 5 rfl) ?_
  refine lv_iconst (v := nI 2) hx hb dL_law_217 (by decide) ?_
  refine nv_iadd (x := i) (y := 2) hx hb dL_law_218 ?_
  refine lw_sld (i := i + 2) F S rfl (by omega) dL_law_219 ?_
  refine lw_mod (rest := []) (As := [.int (nI v1), .int (xs (i + 2))]) (fun _ => um) F P1 P2 S (cM_join_a2 l D (mA g0 b1 b2 b3 b4 b5) g0 b1 b2 b3 b4 b5 cA n ft ed um.1 um.2.1 um.2.2.1 um.2.2.2 v1 (xs (i + 2)) hn hu hz) (fun _ _ h9 => h9) (cwV 2 hw (gV w2_132 w2_133 w2_134 w1_2 w2_135) rfl rfl rfl ⟨rfl, by decide, by decide, by decide +kernel⟩ ⟨Nat.le_of_ble_eq_true rfl, Nat.le_of_ble_eq_true rfl⟩) rfl hl.1 rfl (Nat.le_of_ble_eq_true rfl) dL_law_220 ⟨hc, hs⟩ (fun r8 w8 H locs hpost8 P1 P2 S => ?_)
  subst hpost8
  refine lv_istore hx hb dL_law_223 hl (by decide) (lv' := [(6, .int (bI false)), (5, .int (nI 1)), (0, .ref b), (1, .ref h), (2, .ref g0), (3, .ref o), (4, .int (nI i))]) rfl (fun ls hl => ?_)
  refine lv_aload_n hx hb dL_law_225 rfl (lv_at hl 4 rfl) ?_
  refine nr_V (b := g0) (As := []) (C := RM) (rest := []) ⟨hx, hb, F.hml, F.hown, hw⟩ (cM_thrown_c l D (mA g0 b1 b2 b3 b4 b5) g0 b1 b2 b3 b4 b5 cA n 1 ed um.1 um.2.1 um.2.2.1 um.2.2.2) (cwV 0 hw (gV w2_120 w2_121 w2_122 w1_2 w2_123) rfl rfl rfl ⟨rfl, by decide, by decide, by decide +kernel⟩ ⟨Nat.le_of_ble_eq_true rfl, Nat.le_of_ble_eq_true rfl⟩) gB_blind (va_recv (q0 := 0) (ci := 1) F.Km P2 rfl rfl) (gB_at P2 F.Km _) rfl hl.1 rfl (Nat.le_of_ble_eq_true rfl) dL_law_226 ⟨hc, hs⟩ ?_
  refine lv_iload hx hb dL_law_229 (lv_at hl 1 rfl) ?_
  refine lv_icmp_eq (tgt := 236) hx hb dL_law_231 rfl (fun _ => ?_) (fun h9 => absurd rfl h9)
  refine lv_iload hx hb dL_law_236 (lv_at hl 1 rfl) ?_
  refine nv_if_ne (x := 1) (tgt := 260) hx hb dL_law_238 rfl (by decide) (fun _ => ?_) (fun h9 => absurd h9 (by decide))
  refine lv_goto (tgt := 822) hx hb dL_law_260 rfl ?_
  have hl := lv_sub hl (l' := [(0, .ref b), (1, .ref h), (2, .ref g0), (3, .ref o), (4, .int (nI i))]) [2, 3, 4, 5, 6] rfl
  exact kk _ _ _ _ _ _ _ _ ls ⟨T.R, P1, P2, S⟩ hl

set_option maxHeartbeats 4000000 in
set_option maxRecDepth 100000 in
theorem lc_join_n3 (F : LFix p l s m c b L xs D cA cL h a1 a2 a3 a4 o g0 b1 b2 b3 b4 b5) (T : LSt s D cA cL h a1 a2 a3 a4 o g0 b1 b2 b3 b4 b5 n nb u ft ed um H locs) (hi : i + 2 < L) (hc : cells + 1 ≤ 667068) (hs : slots + 6 ≤ 7094901) (kk : LK p l e room_1 s m below meth c Q D cA cL b h a1 a2 a3 a4 o g0 b1 b2 b3 b4 b5 i (cells + 1) (slots + 6)) (hl : lv_has ls 7 [(0, .ref b), (1, .ref h), (2, .ref g0), (3, .ref o), (4, .int (nI i))]) {v1 : Nat} (hz1 : xs (i + 1) = nI v1) (hz2 : xs (i + 2) = nI v1) (hu : v1 < n) : W p l e room_1 s m #[Value.ref b] below meth c H locs cells slots Q (F0 m 188 ls []) := by
  have hx := F.hx
  have hb := F.hb
  have hw := F.hw
  have hn := T.R.1
  have hnb := rel_lt T.R
  have hed1 := T.R.2.1
  have hed := rel_e9 T.R
  have hc0 : cells ≤ 667068 := by omega
  have hs0 : slots ≤ 7094901 := by omega
  have P1 := T.P1
  have P2 := T.P2
  have S := T.S
  refine lv_aload_n hx hb dL_law_188 rfl (lv_at hl 1 rfl) ?_
  refine lv_aload_n hx hb dL_law_189 rfl (lv_at hl 0 rfl) ?_
  refine lv_iload hx hb dL_law_190 (lv_at hl 4 rfl) ?_
  refine lv_iconst (v := nI 1) hx hb dL_law_192 (by decide) ?_
  refine nv_iadd (x := i) (y := 1) hx hb dL_law_193 ?_
  refine lw_sld (i := i + 1) F S hz1 (by omega) dL_law_194 ?_
  refine lv_aload_n hx hb dL_law_195 rfl (lv_at hl 0 rfl) ?_
  refine lv_iload hx hb dL_law_196 (lv_at hl 4 rfl) ?_
  refine lv_iconst (v := nI 2) hx hb dL_law_198 (by decide) ?_
  refine nv_iadd (x := i) (y := 2) hx hb dL_law_199 ?_
  refine lw_sld (i := i + 2) F S hz2 (by omega) dL_law_200 ?_
  refine lv_aload_n hx hb dL_law_201 rfl (lv_at hl 3 rfl) ?_
  refine lw_help (k9 := 4) (rest := []) (As := [.ref h, .int (nI v1), .int (nI v1), .ref o]) F P1 P2 S (hL_join_n3 l D (xo h a1 a2 a3 a4 o) h a1 a2 a3 a4 o cA cL n nb u v1 F.hst hn hu) w1_199 w1_197 w1_198 w1_0 ⟨by decide, by decide, by decide +kernel⟩ ⟨Nat.le_of_ble_eq_true rfl, Nat.le_of_ble_eq_true rfl⟩ rfl hl.1 rfl (Nat.le_of_ble_eq_true rfl) dL_law_202 ⟨hc, hs⟩ (fun r9 w9 H locs hpost9 P1 P2 S => ?_)
  obtain ⟨hr9, -⟩ := hpost9
  subst hr9
  refine lv_istore hx hb dL_law_205 hl (by decide) (lv' := [(5, .int (nI 2)), (0, .ref b), (1, .ref h), (2, .ref g0), (3, .ref o), (4, .int (nI i))]) rfl (fun ls hl => ?_)
  refine lv_aload_n hx hb dL_law_207 rfl (lv_at hl 3 rfl) ?_
  refine lv_aload_n hx hb dL_law_208 rfl (lv_at hl 1 rfl) ?_
  refine lv_iload hx hb dL_law_209 (lv_at hl 5 rfl) ?_
  refine lv_iconst (v := nI 1) hx hb dL_law_211 (by decide) ?_
  refine nv_iadd (x := i) (y := 1) hx hb dL_law_212 ?_
  refine lw_sld (i := i + 1) F S hz1 (by omega) dL_law_213 ?_
  refine lv_aload_n hx hb dL_law_214 rfl (lv_at hl 1 rfl) ?_
  refine lv_iload hx hb dL_law_215 (lv_at hl 5 rfl) ?_
  refine lv_iconst (v := nI 2) hx hb dL_law_217 (by decide) ?_
  refine nv_iadd (x := i) (y := 2) hx hb dL_law_218 ?_
  refine lw_sld (i := i + 2) F S hz2 (by omega) dL_law_219 ?_
  refine lw_mod (rest := []) (As := [.int (nI v1), .int (nI v1)]) (fun _ => um) F P1 P2 S (cM_join_b l D (mA g0 b1 b2 b3 b4 b5) g0 b1 b2 b3 b4 b5 cA n ft ed um.1 um.2.1 um.2.2.1 um.2.2.2 v1 hn hu) (fun _ _ h9 => h9) (cwV 2 hw (gV w2_132 w2_133 w2_134 w1_2 w2_135) rfl rfl rfl ⟨rfl, by decide, by decide, by decide +kernel⟩ ⟨Nat.le_of_ble_eq_true rfl, Nat.le_of_ble_eq_true rfl⟩) rfl hl.1 rfl (Nat.le_of_ble_eq_true rfl) dL_law_220 ⟨hc, hs⟩ (fun r8 w8 H locs hpost8 P1 P2 S => ?_)
  subst hpost8
  refine lv_istore hx hb dL_law_223 hl (by decide) (lv' := [(6, .int (bI false)), (5, .int (nI 2)), (0, .ref b), (1, .ref h), (2, .ref g0), (3, .ref o), (4, .int (nI i))]) rfl (fun ls hl => ?_)
  refine lv_aload_n hx hb dL_law_225 rfl (lv_at hl 4 rfl) ?_
  refine nr_V (b := g0) (As := []) (C := RM) (rest := []) ⟨hx, hb, F.hml, F.hown, hw⟩ (cM_thrown_c l D (mA g0 b1 b2 b3 b4 b5) g0 b1 b2 b3 b4 b5 cA n 2 ed um.1 um.2.1 um.2.2.1 um.2.2.2) (cwV 0 hw (gV w2_120 w2_121 w2_122 w1_2 w2_123) rfl rfl rfl ⟨rfl, by decide, by decide, by decide +kernel⟩ ⟨Nat.le_of_ble_eq_true rfl, Nat.le_of_ble_eq_true rfl⟩) gB_blind (va_recv (q0 := 0) (ci := 1) F.Km P2 rfl rfl) (gB_at P2 F.Km _) rfl hl.1 rfl (Nat.le_of_ble_eq_true rfl) dL_law_226 ⟨hc, hs⟩ ?_
  refine lv_iload hx hb dL_law_229 (lv_at hl 1 rfl) ?_
  refine lv_icmp_eq (tgt := 236) hx hb dL_law_231 rfl (fun _ => ?_) (fun h9 => absurd rfl h9)
  refine lv_iload hx hb dL_law_236 (lv_at hl 1 rfl) ?_
  refine nv_if_ne (x := 2) (tgt := 260) hx hb dL_law_238 rfl (by decide) (fun _ => ?_) (fun h9 => absurd h9 (by decide))
  refine lv_goto (tgt := 822) hx hb dL_law_260 rfl ?_
  have hl := lv_sub hl (l' := [(0, .ref b), (1, .ref h), (2, .ref g0), (3, .ref o), (4, .int (nI i))]) [2, 3, 4, 5, 6] rfl
  exact kk _ _ _ _ _ _ _ _ ls ⟨T.R, P1, P2, S⟩ hl

set_option maxHeartbeats 4000000 in
set_option maxRecDepth 100000 in
theorem lc_join_c (F : LFix p l s m c b L xs D cA cL h a1 a2 a3 a4 o g0 b1 b2 b3 b4 b5) (T : LSt s D cA cL h a1 a2 a3 a4 o g0 b1 b2 b3 b4 b5 n nb u ft ed um H locs) (hi : i + 2 < L) (hc : cells + 1 ≤ 667068) (hs : slots + 6 ≤ 7094901) (kk : LK p l e room_1 s m below meth c Q D cA cL b h a1 a2 a3 a4 o g0 b1 b2 b3 b4 b5 i (cells + 1) (slots + 6)) (hl : lv_has ls 7 [(0, .ref b), (1, .ref h), (2, .ref g0), (3, .ref o), (4, .int (nI i))]) {v1 v2 : Nat} (hz1 : xs (i + 1) = nI v1) (hz2 : xs (i + 2) = nI v2) (hu : v1 < n) (hv : v2 < n) (huv : v1 ≠ v2) (he : ed (8 * v1 + v2) = 1) : W p l e room_1 s m #[Value.ref b] below meth c H locs cells slots Q (F0 m 188 ls []) := by
  have hx := F.hx
  have hb := F.hb
  have hw := F.hw
  have hn := T.R.1
  have hnb := rel_lt T.R
  have hed1 := T.R.2.1
  have hed := rel_e9 T.R
  have hc0 : cells ≤ 667068 := by omega
  have hs0 : slots ≤ 7094901 := by omega
  have P1 := T.P1
  have P2 := T.P2
  have S := T.S
  refine lv_aload_n hx hb dL_law_188 rfl (lv_at hl 1 rfl) ?_
  refine lv_aload_n hx hb dL_law_189 rfl (lv_at hl 0 rfl) ?_
  refine lv_iload hx hb dL_law_190 (lv_at hl 4 rfl) ?_
  refine lv_iconst (v := nI 1) hx hb dL_law_192 (by decide) ?_
  refine nv_iadd (x := i) (y := 1) hx hb dL_law_193 ?_
  refine lw_sld (i := i + 1) F S hz1 (by omega) dL_law_194 ?_
  refine lv_aload_n hx hb dL_law_195 rfl (lv_at hl 0 rfl) ?_
  refine lv_iload hx hb dL_law_196 (lv_at hl 4 rfl) ?_
  refine lv_iconst (v := nI 2) hx hb dL_law_198 (by decide) ?_
  refine nv_iadd (x := i) (y := 2) hx hb dL_law_199 ?_
  refine lw_sld (i := i + 2) F S hz2 (by omega) dL_law_200 ?_
  refine lv_aload_n hx hb dL_law_201 rfl (lv_at hl 3 rfl) ?_
  refine lw_help (k9 := 4) (rest := []) (As := [.ref h, .int (nI v1), .int (nI v2), .ref o]) F P1 P2 S (hL_join_y l D (xo h a1 a2 a3 a4 o) h a1 a2 a3 a4 o cA cL n nb u v1 v2 hn hnb hu hv huv) w1_199 w1_197 w1_198 w1_0 ⟨by decide, by decide, by decide +kernel⟩ ⟨Nat.le_of_ble_eq_true rfl, Nat.le_of_ble_eq_true rfl⟩ rfl hl.1 rfl (Nat.le_of_ble_eq_true rfl) dL_law_202 ⟨hc, hs⟩ (fun r9 w9 H locs hpost9 P1 P2 S => ?_)
  obtain ⟨hr9, hval⟩ := hpost9
  subst hr9
  refine lv_istore hx hb dL_law_205 hl (by decide) (lv' := [(5, .int (nI 0)), (0, .ref b), (1, .ref h), (2, .ref g0), (3, .ref o), (4, .int (nI i))]) rfl (fun ls hl => ?_)
  refine lv_aload_n hx hb dL_law_207 rfl (lv_at hl 3 rfl) ?_
  refine lv_aload_n hx hb dL_law_208 rfl (lv_at hl 1 rfl) ?_
  refine lv_iload hx hb dL_law_209 (lv_at hl 5 rfl) ?_
  refine lv_iconst (v := nI 1) hx hb dL_law_211 (by decide) ?_
  refine nv_iadd (x := i) (y := 1) hx hb dL_law_212 ?_
  refine lw_sld (i := i + 1) F S hz1 (by omega) dL_law_213 ?_
  refine lv_aload_n hx hb dL_law_214 rfl (lv_at hl 1 rfl) ?_
  refine lv_iload hx hb dL_law_215 (lv_at hl 5 rfl) ?_
  refine lv_iconst (v := nI 2) hx hb dL_law_217 (by decide) ?_
  refine nv_iadd (x := i) (y := 2) hx hb dL_law_218 ?_
  refine lw_sld (i := i + 2) F S hz2 (by omega) dL_law_219 ?_
  refine lw_mod (rest := []) (As := [.int (nI v1), .int (nI v2)]) (fun _ => um) F P1 P2 S (cM_join_c l D (mA g0 b1 b2 b3 b4 b5) g0 b1 b2 b3 b4 b5 cA n ft ed um.1 um.2.1 um.2.2.1 um.2.2.2 v1 v2 hn hed1 hu hv huv he) (fun _ _ h9 => h9) (cwV 2 hw (gV w2_132 w2_133 w2_134 w1_2 w2_135) rfl rfl rfl ⟨rfl, by decide, by decide, by decide +kernel⟩ ⟨Nat.le_of_ble_eq_true rfl, Nat.le_of_ble_eq_true rfl⟩) rfl hl.1 rfl (Nat.le_of_ble_eq_true rfl) dL_law_220 ⟨hc, hs⟩ (fun r8 w8 H locs hpost8 P1 P2 S => ?_)
  subst hpost8
  refine lv_istore hx hb dL_law_223 hl (by decide) (lv' := [(6, .int (bI false)), (5, .int (nI 0)), (0, .ref b), (1, .ref h), (2, .ref g0), (3, .ref o), (4, .int (nI i))]) rfl (fun ls hl => ?_)
  refine lv_aload_n hx hb dL_law_225 rfl (lv_at hl 4 rfl) ?_
  refine nr_V (b := g0) (As := []) (C := RM) (rest := []) ⟨hx, hb, F.hml, F.hown, hw⟩ (cM_thrown_c l D (mA g0 b1 b2 b3 b4 b5) g0 b1 b2 b3 b4 b5 cA n 0 ed um.1 um.2.1 um.2.2.1 um.2.2.2) (cwV 0 hw (gV w2_120 w2_121 w2_122 w1_2 w2_123) rfl rfl rfl ⟨rfl, by decide, by decide, by decide +kernel⟩ ⟨Nat.le_of_ble_eq_true rfl, Nat.le_of_ble_eq_true rfl⟩) gB_blind (va_recv (q0 := 0) (ci := 1) F.Km P2 rfl rfl) (gB_at P2 F.Km _) rfl hl.1 rfl (Nat.le_of_ble_eq_true rfl) dL_law_226 ⟨hc, hs⟩ ?_
  refine lv_iload hx hb dL_law_229 (lv_at hl 1 rfl) ?_
  refine lv_icmp_eq (tgt := 236) hx hb dL_law_231 rfl (fun _ => ?_) (fun h9 => absurd rfl h9)
  refine lv_iload hx hb dL_law_236 (lv_at hl 1 rfl) ?_
  refine nv_if_ne (x := 0) (tgt := 260) hx hb dL_law_238 rfl (by decide) (fun h9 => absurd rfl h9) (fun _ => ?_)
  have e8 : (!(nb v1).testBit v2) = false := by rw [rel_bit T.R hu hv, decide_eq_true he]; rfl
  have e9 := hval
  rw [e8] at e9
  refine lv_aload_n hx hb dL_law_241 rfl (lv_at hl 5 rfl) ?_
  refine lv_iconst (v := nI 0) hx hb dL_law_242 (by decide) ?_
  refine nv_lald (f := w9.2) hx hb F.hK P1 5 1 rfl rfl dL_law_243 ?_
  refine lv_iload hx hb dL_law_244 (lv_at hl 0 rfl) ?_
  refine nv_b_eq (x := false) (tgt := 253) hx hb dL_law_246 rfl (fun hcc => ?_) (fun hcc => ?_)
  · refine lv_lconst (v := 0) hx hb dL_law_253 rfl ?_
    refine W.lcmp hx hb dL_law_254 ?_
    refine lv_if_eq (tgt := 260) hx hb dL_law_255 rfl (fun _ => ?_) (fun h9 => absurd ((lg_cmp_eq _ _).mpr (e9.trans (lif_f hcc).symm)) h9)
    refine lv_goto (tgt := 822) hx hb dL_law_260 rfl ?_
    have hl := lv_sub hl (l' := [(0, .ref b), (1, .ref h), (2, .ref g0), (3, .ref o), (4, .int (nI i))]) [2, 3, 4, 5, 6] rfl
    exact kk _ _ _ _ _ _ _ _ ls ⟨rel_ed (rel_join T.R hu hv huv) (fun k9 _ => by by_cases h8 : k9 = 8 * v2 + v1; (rw [h8, upN_s, ← T.R.2.2.1 v1 v2 (by omega) (by omega)]; exact he); (rw [upN_n _ _ h8]; by_cases h7 : k9 = 8 * v1 + v2; (rw [h7, upN_s]; exact he); (rw [upN_n _ _ h7]))), P1, P2, S⟩ hl
  · refine lv_lconst (v := 1) hx hb dL_law_249 rfl ?_
    refine lv_goto (tgt := 254) hx hb dL_law_250 rfl ?_
    refine W.lcmp hx hb dL_law_254 ?_
    refine lv_if_eq (tgt := 260) hx hb dL_law_255 rfl (fun _ => ?_) (fun h9 => absurd ((lg_cmp_eq _ _).mpr (e9.trans (lif_t hcc).symm)) h9)
    refine lv_goto (tgt := 822) hx hb dL_law_260 rfl ?_
    have hl := lv_sub hl (l' := [(0, .ref b), (1, .ref h), (2, .ref g0), (3, .ref o), (4, .int (nI i))]) [2, 3, 4, 5, 6] rfl
    exact kk _ _ _ _ _ _ _ _ ls ⟨rel_ed (rel_join T.R hu hv huv) (fun k9 _ => by by_cases h8 : k9 = 8 * v2 + v1; (rw [h8, upN_s, ← T.R.2.2.1 v1 v2 (by omega) (by omega)]; exact he); (rw [upN_n _ _ h8]; by_cases h7 : k9 = 8 * v1 + v2; (rw [h7, upN_s]; exact he); (rw [upN_n _ _ h7]))), P1, P2, S⟩ hl

set_option maxHeartbeats 4000000 in
set_option maxRecDepth 100000 in
theorem lc_join_d (F : LFix p l s m c b L xs D cA cL h a1 a2 a3 a4 o g0 b1 b2 b3 b4 b5) (T : LSt s D cA cL h a1 a2 a3 a4 o g0 b1 b2 b3 b4 b5 n nb u ft ed um H locs) (hi : i + 2 < L) (hc : cells + 1 ≤ 667068) (hs : slots + 6 ≤ 7094901) (kk : LK p l e room_1 s m below meth c Q D cA cL b h a1 a2 a3 a4 o g0 b1 b2 b3 b4 b5 i (cells + 1) (slots + 6)) (hl : lv_has ls 7 [(0, .ref b), (1, .ref h), (2, .ref g0), (3, .ref o), (4, .int (nI i))]) {v1 v2 : Nat} (hz1 : xs (i + 1) = nI v1) (hz2 : xs (i + 2) = nI v2) (hu : v1 < n) (hv : v2 < n) (huv : v1 ≠ v2) (he : ed (8 * v1 + v2) ≠ 1) : W p l e room_1 s m #[Value.ref b] below meth c H locs cells slots Q (F0 m 188 ls []) := by
  have hx := F.hx
  have hb := F.hb
  have hw := F.hw
  have hn := T.R.1
  have hnb := rel_lt T.R
  have hed1 := T.R.2.1
  have hed := rel_e9 T.R
  have hc0 : cells ≤ 667068 := by omega
  have hs0 : slots ≤ 7094901 := by omega
  have P1 := T.P1
  have P2 := T.P2
  have S := T.S
  refine lv_aload_n hx hb dL_law_188 rfl (lv_at hl 1 rfl) ?_
  refine lv_aload_n hx hb dL_law_189 rfl (lv_at hl 0 rfl) ?_
  refine lv_iload hx hb dL_law_190 (lv_at hl 4 rfl) ?_
  refine lv_iconst (v := nI 1) hx hb dL_law_192 (by decide) ?_
  refine nv_iadd (x := i) (y := 1) hx hb dL_law_193 ?_
  refine lw_sld (i := i + 1) F S hz1 (by omega) dL_law_194 ?_
  refine lv_aload_n hx hb dL_law_195 rfl (lv_at hl 0 rfl) ?_
  refine lv_iload hx hb dL_law_196 (lv_at hl 4 rfl) ?_
  refine lv_iconst (v := nI 2) hx hb dL_law_198 (by decide) ?_
  refine nv_iadd (x := i) (y := 2) hx hb dL_law_199 ?_
  refine lw_sld (i := i + 2) F S hz2 (by omega) dL_law_200 ?_
  refine lv_aload_n hx hb dL_law_201 rfl (lv_at hl 3 rfl) ?_
  refine lw_help (k9 := 4) (rest := []) (As := [.ref h, .int (nI v1), .int (nI v2), .ref o]) F P1 P2 S (hL_join_y l D (xo h a1 a2 a3 a4 o) h a1 a2 a3 a4 o cA cL n nb u v1 v2 hn hnb hu hv huv) w1_199 w1_197 w1_198 w1_0 ⟨by decide, by decide, by decide +kernel⟩ ⟨Nat.le_of_ble_eq_true rfl, Nat.le_of_ble_eq_true rfl⟩ rfl hl.1 rfl (Nat.le_of_ble_eq_true rfl) dL_law_202 ⟨hc, hs⟩ (fun r9 w9 H locs hpost9 P1 P2 S => ?_)
  obtain ⟨hr9, hval⟩ := hpost9
  subst hr9
  refine lv_istore hx hb dL_law_205 hl (by decide) (lv' := [(5, .int (nI 0)), (0, .ref b), (1, .ref h), (2, .ref g0), (3, .ref o), (4, .int (nI i))]) rfl (fun ls hl => ?_)
  refine lv_aload_n hx hb dL_law_207 rfl (lv_at hl 3 rfl) ?_
  refine lv_aload_n hx hb dL_law_208 rfl (lv_at hl 1 rfl) ?_
  refine lv_iload hx hb dL_law_209 (lv_at hl 5 rfl) ?_
  refine lv_iconst (v := nI 1) hx hb dL_law_211 (by decide) ?_
  refine nv_iadd (x := i) (y := 1) hx hb dL_law_212 ?_
  refine lw_sld (i := i + 1) F S hz1 (by omega) dL_law_213 ?_
  refine lv_aload_n hx hb dL_law_214 rfl (lv_at hl 1 rfl) ?_
  refine lv_iload hx hb dL_law_215 (lv_at hl 5 rfl) ?_
  refine lv_iconst (v := nI 2) hx hb dL_law_217 (by decide) ?_
  refine nv_iadd (x := i) (y := 2) hx hb dL_law_218 ?_
  refine lw_sld (i := i + 2) F S hz2 (by omega) dL_law_219 ?_
  refine lw_mod (rest := []) (As := [.int (nI v1), .int (nI v2)]) (fun _ => um) F P1 P2 S (cM_join_d l D (mA g0 b1 b2 b3 b4 b5) g0 b1 b2 b3 b4 b5 cA n ft ed um.1 um.2.1 um.2.2.1 um.2.2.2 v1 v2 hn hed1 hu hv huv he) (fun _ _ h9 => h9) (cwV 2 hw (gV w2_132 w2_133 w2_134 w1_2 w2_135) rfl rfl rfl ⟨rfl, by decide, by decide, by decide +kernel⟩ ⟨Nat.le_of_ble_eq_true rfl, Nat.le_of_ble_eq_true rfl⟩) rfl hl.1 rfl (Nat.le_of_ble_eq_true rfl) dL_law_220 ⟨hc, hs⟩ (fun r8 w8 H locs hpost8 P1 P2 S => ?_)
  subst hpost8
  refine lv_istore hx hb dL_law_223 hl (by decide) (lv' := [(6, .int (bI true)), (5, .int (nI 0)), (0, .ref b), (1, .ref h), (2, .ref g0), (3, .ref o), (4, .int (nI i))]) rfl (fun ls hl => ?_)
  refine lv_aload_n hx hb dL_law_225 rfl (lv_at hl 4 rfl) ?_
  refine nr_V (b := g0) (As := []) (C := RM) (rest := []) ⟨hx, hb, F.hml, F.hown, hw⟩ (cM_thrown_c l D (mA g0 b1 b2 b3 b4 b5) g0 b1 b2 b3 b4 b5 cA n 0 (upN (upN ed (8 * v1 + v2) 1) (8 * v2 + v1) 1) um.1 um.2.1 um.2.2.1 um.2.2.2) (cwV 0 hw (gV w2_120 w2_121 w2_122 w1_2 w2_123) rfl rfl rfl ⟨rfl, by decide, by decide, by decide +kernel⟩ ⟨Nat.le_of_ble_eq_true rfl, Nat.le_of_ble_eq_true rfl⟩) gB_blind (va_recv (q0 := 0) (ci := 1) F.Km P2 rfl rfl) (gB_at P2 F.Km _) rfl hl.1 rfl (Nat.le_of_ble_eq_true rfl) dL_law_226 ⟨hc, hs⟩ ?_
  refine lv_iload hx hb dL_law_229 (lv_at hl 1 rfl) ?_
  refine lv_icmp_eq (tgt := 236) hx hb dL_law_231 rfl (fun _ => ?_) (fun h9 => absurd rfl h9)
  refine lv_iload hx hb dL_law_236 (lv_at hl 1 rfl) ?_
  refine nv_if_ne (x := 0) (tgt := 260) hx hb dL_law_238 rfl (by decide) (fun h9 => absurd rfl h9) (fun _ => ?_)
  have e8 : (!(nb v1).testBit v2) = true := by rw [rel_bit T.R hu hv, decide_eq_false he]; rfl
  have e9 := hval
  rw [e8] at e9
  refine lv_aload_n hx hb dL_law_241 rfl (lv_at hl 5 rfl) ?_
  refine lv_iconst (v := nI 0) hx hb dL_law_242 (by decide) ?_
  refine nv_lald (f := w9.2) hx hb F.hK P1 5 1 rfl rfl dL_law_243 ?_
  refine lv_iload hx hb dL_law_244 (lv_at hl 0 rfl) ?_
  refine nv_b_eq (x := true) (tgt := 253) hx hb dL_law_246 rfl (fun hcc => ?_) (fun hcc => ?_)
  · refine lv_lconst (v := 0) hx hb dL_law_253 rfl ?_
    refine W.lcmp hx hb dL_law_254 ?_
    refine lv_if_eq (tgt := 260) hx hb dL_law_255 rfl (fun _ => ?_) (fun h9 => absurd ((lg_cmp_eq _ _).mpr (e9.trans (lif_f hcc).symm)) h9)
    refine lv_goto (tgt := 822) hx hb dL_law_260 rfl ?_
    have hl := lv_sub hl (l' := [(0, .ref b), (1, .ref h), (2, .ref g0), (3, .ref o), (4, .int (nI i))]) [2, 3, 4, 5, 6] rfl
    exact kk _ _ _ _ _ _ _ _ ls ⟨rel_join T.R hu hv huv, P1, P2, S⟩ hl
  · refine lv_lconst (v := 1) hx hb dL_law_249 rfl ?_
    refine lv_goto (tgt := 254) hx hb dL_law_250 rfl ?_
    refine W.lcmp hx hb dL_law_254 ?_
    refine lv_if_eq (tgt := 260) hx hb dL_law_255 rfl (fun _ => ?_) (fun h9 => absurd ((lg_cmp_eq _ _).mpr (e9.trans (lif_t hcc).symm)) h9)
    refine lv_goto (tgt := 822) hx hb dL_law_260 rfl ?_
    have hl := lv_sub hl (l' := [(0, .ref b), (1, .ref h), (2, .ref g0), (3, .ref o), (4, .int (nI i))]) [2, 3, 4, 5, 6] rfl
    exact kk _ _ _ _ _ _ _ _ ls ⟨rel_join T.R hu hv huv, P1, P2, S⟩ hl

set_option maxHeartbeats 4000000 in
set_option maxRecDepth 100000 in
theorem lc_part_n1 (F : LFix p l s m c b L xs D cA cL h a1 a2 a3 a4 o g0 b1 b2 b3 b4 b5) (T : LSt s D cA cL h a1 a2 a3 a4 o g0 b1 b2 b3 b4 b5 n nb u ft ed um H locs) (hi : i + 2 < L) (hc : cells + 1 ≤ 667068) (hs : slots + 6 ≤ 7094901) (kk : LK p l e room_1 s m below meth c Q D cA cL b h a1 a2 a3 a4 o g0 b1 b2 b3 b4 b5 i (cells + 1) (slots + 6)) (hl : lv_has ls 7 [(0, .ref b), (1, .ref h), (2, .ref g0), (3, .ref o), (4, .int (nI i))]) (hz : ∀ k, k < n → xs (i + 1) ≠ nI k) : W p l e room_1 s m #[Value.ref b] below meth c H locs cells slots Q (F0 m 263 ls []) := by
  have hx := F.hx
  have hb := F.hb
  have hw := F.hw
  have hn := T.R.1
  have hnb := rel_lt T.R
  have hed1 := T.R.2.1
  have hed := rel_e9 T.R
  have hc0 : cells ≤ 667068 := by omega
  have hs0 : slots ≤ 7094901 := by omega
  have P1 := T.P1
  have P2 := T.P2
  have S := T.S
  refine lv_aload_n hx hb dL_law_263 rfl (lv_at hl 1 rfl) ?_
  refine lv_aload_n hx hb dL_law_264 rfl (lv_at hl 0 rfl) ?_
  refine lv_iload hx hb dL_law_265 (lv_at hl 4 rfl) ?_
  refine lv_iconst (v := nI 1) hx hb dL_law_267 (by decide) ?_
  refine nv_iadd (x := i) (y := 1) hx hb dL_law_268 ?_
  refine lw_sld (i := i + 1) F S rfl (by omega) dL_law_269 ?_
  refine lv_aload_n hx hb dL_law_270 rfl (lv_at hl 0 rfl) ?_
  refine lv_iload hx hb dL_law_271 (lv_at hl 4 rfl) ?_
  refine lv_iconst (v := nI 2) hx hb dL_law_273 (by decide) ?_
  refine nv_iadd (x := i) (y := 2) hx hb dL_law_274 ?_
  refine lw_sld (i := i + 2) F S rfl (by omega) dL_law_275 ?_
  refine lv_aload_n hx hb dL_law_276 rfl (lv_at hl 3 rfl) ?_
  refine lw_help (k9 := 4) (rest := []) (As := [.ref h, .int (xs (i + 1)), .int (xs (i + 2)), .ref o]) F P1 P2 S (hL_part_n1 l D (xo h a1 a2 a3 a4 o) h a1 a2 a3 a4 o cA cL n nb u (xs (i + 1)) (xs (i + 2)) F.hst hn hz) w2_8 w2_6 w2_7 w1_0 ⟨by decide, by decide, by decide +kernel⟩ ⟨Nat.le_of_ble_eq_true rfl, Nat.le_of_ble_eq_true rfl⟩ rfl hl.1 rfl (Nat.le_of_ble_eq_true rfl) dL_law_277 ⟨hc, hs⟩ (fun r9 w9 H locs hpost9 P1 P2 S => ?_)
  obtain ⟨hr9, -⟩ := hpost9
  subst hr9
  refine lv_istore hx hb dL_law_280 hl (by decide) (lv' := [(5, .int (nI 1)), (0, .ref b), (1, .ref h), (2, .ref g0), (3, .ref o), (4, .int (nI i))]) rfl (fun ls hl => ?_)
  refine lv_aload_n hx hb dL_law_282 rfl (lv_at hl 3 rfl) ?_
  refine lv_aload_n hx hb dL_law_283 rfl (lv_at hl 1 rfl) ?_
  refine lv_iload hx hb dL_law_284 (lv_at hl 5 rfl) ?_
  refine lv_iconst (v := nI 1) hx hb dL_law_286 (by decide) ?_
  refine nv_iadd (x := i) (y := 1) hx hb dL_law_287 ?_
  refine lw_sld (i := i + 1) F S rfl (by omega) dL_law_288 ?_
  refine lv_aload_n hx hb dL_law_289 rfl (lv_at hl 1 rfl) ?_
  refine lv_iload hx hb dL_law_290 (lv_at hl 5 rfl) ?_
  refine lv_iconst (v := nI 2) hx hb dL_law_292 (by decide) ?_
  refine nv_iadd (x := i) (y := 2) hx hb dL_law_293 ?_
  refine lw_sld (i := i + 2) F S rfl (by omega) dL_law_294 ?_
  refine lw_mod (rest := []) (As := [.int (xs (i + 1)), .int (xs (i + 2))]) (fun _ => um) F P1 P2 S (cM_part_a1 l D (mA g0 b1 b2 b3 b4 b5) g0 b1 b2 b3 b4 b5 cA n ft ed um.1 um.2.1 um.2.2.1 um.2.2.2 (xs (i + 1)) (xs (i + 2)) hn hz) (fun _ _ h9 => h9) (cwV 2 hw (gV w2_144 w2_145 w2_146 w1_2 w2_147) rfl rfl rfl ⟨rfl, by decide, by decide, by decide +kernel⟩ ⟨Nat.le_of_ble_eq_true rfl, Nat.le_of_ble_eq_true rfl⟩) rfl hl.1 rfl (Nat.le_of_ble_eq_true rfl) dL_law_295 ⟨hc, hs⟩ (fun r8 w8 H locs hpost8 P1 P2 S => ?_)
  subst hpost8
  refine lv_istore hx hb dL_law_298 hl (by decide) (lv' := [(6, .int (bI false)), (5, .int (nI 1)), (0, .ref b), (1, .ref h), (2, .ref g0), (3, .ref o), (4, .int (nI i))]) rfl (fun ls hl => ?_)
  refine lv_aload_n hx hb dL_law_300 rfl (lv_at hl 4 rfl) ?_
  refine nr_V (b := g0) (As := []) (C := RM) (rest := []) ⟨hx, hb, F.hml, F.hown, hw⟩ (cM_thrown_c l D (mA g0 b1 b2 b3 b4 b5) g0 b1 b2 b3 b4 b5 cA n 1 ed um.1 um.2.1 um.2.2.1 um.2.2.2) (cwV 0 hw (gV w2_120 w2_121 w2_122 w1_2 w2_123) rfl rfl rfl ⟨rfl, by decide, by decide, by decide +kernel⟩ ⟨Nat.le_of_ble_eq_true rfl, Nat.le_of_ble_eq_true rfl⟩) gB_blind (va_recv (q0 := 0) (ci := 1) F.Km P2 rfl rfl) (gB_at P2 F.Km _) rfl hl.1 rfl (Nat.le_of_ble_eq_true rfl) dL_law_301 ⟨hc, hs⟩ ?_
  refine lv_iload hx hb dL_law_304 (lv_at hl 1 rfl) ?_
  refine lv_icmp_eq (tgt := 311) hx hb dL_law_306 rfl (fun _ => ?_) (fun h9 => absurd rfl h9)
  refine lv_iload hx hb dL_law_311 (lv_at hl 1 rfl) ?_
  refine nv_if_ne (x := 1) (tgt := 335) hx hb dL_law_313 rfl (by decide) (fun _ => ?_) (fun h9 => absurd h9 (by decide))
  refine lv_goto (tgt := 822) hx hb dL_law_335 rfl ?_
  have hl := lv_sub hl (l' := [(0, .ref b), (1, .ref h), (2, .ref g0), (3, .ref o), (4, .int (nI i))]) [2, 3, 4, 5, 6] rfl
  exact kk _ _ _ _ _ _ _ _ ls ⟨T.R, P1, P2, S⟩ hl

set_option maxHeartbeats 4000000 in
set_option maxRecDepth 100000 in
theorem lc_part_n2 (F : LFix p l s m c b L xs D cA cL h a1 a2 a3 a4 o g0 b1 b2 b3 b4 b5) (T : LSt s D cA cL h a1 a2 a3 a4 o g0 b1 b2 b3 b4 b5 n nb u ft ed um H locs) (hi : i + 2 < L) (hc : cells + 1 ≤ 667068) (hs : slots + 6 ≤ 7094901) (kk : LK p l e room_1 s m below meth c Q D cA cL b h a1 a2 a3 a4 o g0 b1 b2 b3 b4 b5 i (cells + 1) (slots + 6)) (hl : lv_has ls 7 [(0, .ref b), (1, .ref h), (2, .ref g0), (3, .ref o), (4, .int (nI i))]) {v1 : Nat} (hz1 : xs (i + 1) = nI v1) (hu : v1 < n) (hz : ∀ k, k < n → xs (i + 2) ≠ nI k) : W p l e room_1 s m #[Value.ref b] below meth c H locs cells slots Q (F0 m 263 ls []) := by
  have hx := F.hx
  have hb := F.hb
  have hw := F.hw
  have hn := T.R.1
  have hnb := rel_lt T.R
  have hed1 := T.R.2.1
  have hed := rel_e9 T.R
  have hc0 : cells ≤ 667068 := by omega
  have hs0 : slots ≤ 7094901 := by omega
  have P1 := T.P1
  have P2 := T.P2
  have S := T.S
  refine lv_aload_n hx hb dL_law_263 rfl (lv_at hl 1 rfl) ?_
  refine lv_aload_n hx hb dL_law_264 rfl (lv_at hl 0 rfl) ?_
  refine lv_iload hx hb dL_law_265 (lv_at hl 4 rfl) ?_
  refine lv_iconst (v := nI 1) hx hb dL_law_267 (by decide) ?_
  refine nv_iadd (x := i) (y := 1) hx hb dL_law_268 ?_
  refine lw_sld (i := i + 1) F S hz1 (by omega) dL_law_269 ?_
  refine lv_aload_n hx hb dL_law_270 rfl (lv_at hl 0 rfl) ?_
  refine lv_iload hx hb dL_law_271 (lv_at hl 4 rfl) ?_
  refine lv_iconst (v := nI 2) hx hb dL_law_273 (by decide) ?_
  refine nv_iadd (x := i) (y := 2) hx hb dL_law_274 ?_
  refine lw_sld (i := i + 2) F S rfl (by omega) dL_law_275 ?_
  refine lv_aload_n hx hb dL_law_276 rfl (lv_at hl 3 rfl) ?_
  refine lw_help (k9 := 4) (rest := []) (As := [.ref h, .int (nI v1), .int (xs (i + 2)), .ref o]) F P1 P2 S (hL_part_n2 l D (xo h a1 a2 a3 a4 o) h a1 a2 a3 a4 o cA cL n nb u v1 (xs (i + 2)) F.hst hn hu hz) w2_8 w2_6 w2_7 w1_0 ⟨by decide, by decide, by decide +kernel⟩ ⟨Nat.le_of_ble_eq_true rfl, Nat.le_of_ble_eq_true rfl⟩ rfl hl.1 rfl (Nat.le_of_ble_eq_true rfl) dL_law_277 ⟨hc, hs⟩ (fun r9 w9 H locs hpost9 P1 P2 S => ?_)
  obtain ⟨hr9, -⟩ := hpost9
  subst hr9
  refine lv_istore hx hb dL_law_280 hl (by decide) (lv' := [(5, .int (nI 1)), (0, .ref b), (1, .ref h), (2, .ref g0), (3, .ref o), (4, .int (nI i))]) rfl (fun ls hl => ?_)
  refine lv_aload_n hx hb dL_law_282 rfl (lv_at hl 3 rfl) ?_
  refine lv_aload_n hx hb dL_law_283 rfl (lv_at hl 1 rfl) ?_
  refine lv_iload hx hb dL_law_284 (lv_at hl 5 rfl) ?_
  refine lv_iconst (v := nI 1) hx hb dL_law_286 (by decide) ?_
  refine nv_iadd (x := i) (y := 1) hx hb dL_law_287 ?_
  refine lw_sld (i := i + 1) F S hz1 (by omega) dL_law_288 ?_
  refine lv_aload_n hx hb dL_law_289 rfl (lv_at hl 1 rfl) ?_
  refine lv_iload hx hb dL_law_290 (lv_at hl 5 rfl) ?_
  refine lv_iconst (v := nI 2) hx hb dL_law_292 (by decide) ?_
  refine nv_iadd (x := i) (y := 2) hx hb dL_law_293 ?_
  refine lw_sld (i := i + 2) F S rfl (by omega) dL_law_294 ?_
  refine lw_mod (rest := []) (As := [.int (nI v1), .int (xs (i + 2))]) (fun _ => um) F P1 P2 S (cM_part_a2 l D (mA g0 b1 b2 b3 b4 b5) g0 b1 b2 b3 b4 b5 cA n ft ed um.1 um.2.1 um.2.2.1 um.2.2.2 v1 (xs (i + 2)) hn hu hz) (fun _ _ h9 => h9) (cwV 2 hw (gV w2_144 w2_145 w2_146 w1_2 w2_147) rfl rfl rfl ⟨rfl, by decide, by decide, by decide +kernel⟩ ⟨Nat.le_of_ble_eq_true rfl, Nat.le_of_ble_eq_true rfl⟩) rfl hl.1 rfl (Nat.le_of_ble_eq_true rfl) dL_law_295 ⟨hc, hs⟩ (fun r8 w8 H locs hpost8 P1 P2 S => ?_)
  subst hpost8
  refine lv_istore hx hb dL_law_298 hl (by decide) (lv' := [(6, .int (bI false)), (5, .int (nI 1)), (0, .ref b), (1, .ref h), (2, .ref g0), (3, .ref o), (4, .int (nI i))]) rfl (fun ls hl => ?_)
  refine lv_aload_n hx hb dL_law_300 rfl (lv_at hl 4 rfl) ?_
  refine nr_V (b := g0) (As := []) (C := RM) (rest := []) ⟨hx, hb, F.hml, F.hown, hw⟩ (cM_thrown_c l D (mA g0 b1 b2 b3 b4 b5) g0 b1 b2 b3 b4 b5 cA n 1 ed um.1 um.2.1 um.2.2.1 um.2.2.2) (cwV 0 hw (gV w2_120 w2_121 w2_122 w1_2 w2_123) rfl rfl rfl ⟨rfl, by decide, by decide, by decide +kernel⟩ ⟨Nat.le_of_ble_eq_true rfl, Nat.le_of_ble_eq_true rfl⟩) gB_blind (va_recv (q0 := 0) (ci := 1) F.Km P2 rfl rfl) (gB_at P2 F.Km _) rfl hl.1 rfl (Nat.le_of_ble_eq_true rfl) dL_law_301 ⟨hc, hs⟩ ?_
  refine lv_iload hx hb dL_law_304 (lv_at hl 1 rfl) ?_
  refine lv_icmp_eq (tgt := 311) hx hb dL_law_306 rfl (fun _ => ?_) (fun h9 => absurd rfl h9)
  refine lv_iload hx hb dL_law_311 (lv_at hl 1 rfl) ?_
  refine nv_if_ne (x := 1) (tgt := 335) hx hb dL_law_313 rfl (by decide) (fun _ => ?_) (fun h9 => absurd h9 (by decide))
  refine lv_goto (tgt := 822) hx hb dL_law_335 rfl ?_
  have hl := lv_sub hl (l' := [(0, .ref b), (1, .ref h), (2, .ref g0), (3, .ref o), (4, .int (nI i))]) [2, 3, 4, 5, 6] rfl
  exact kk _ _ _ _ _ _ _ _ ls ⟨T.R, P1, P2, S⟩ hl

set_option maxHeartbeats 4000000 in
set_option maxRecDepth 100000 in
theorem lc_part_n3 (F : LFix p l s m c b L xs D cA cL h a1 a2 a3 a4 o g0 b1 b2 b3 b4 b5) (T : LSt s D cA cL h a1 a2 a3 a4 o g0 b1 b2 b3 b4 b5 n nb u ft ed um H locs) (hi : i + 2 < L) (hc : cells + 1 ≤ 667068) (hs : slots + 6 ≤ 7094901) (kk : LK p l e room_1 s m below meth c Q D cA cL b h a1 a2 a3 a4 o g0 b1 b2 b3 b4 b5 i (cells + 1) (slots + 6)) (hl : lv_has ls 7 [(0, .ref b), (1, .ref h), (2, .ref g0), (3, .ref o), (4, .int (nI i))]) {v1 : Nat} (hz1 : xs (i + 1) = nI v1) (hz2 : xs (i + 2) = nI v1) (hu : v1 < n) : W p l e room_1 s m #[Value.ref b] below meth c H locs cells slots Q (F0 m 263 ls []) := by
  have hx := F.hx
  have hb := F.hb
  have hw := F.hw
  have hn := T.R.1
  have hnb := rel_lt T.R
  have hed1 := T.R.2.1
  have hed := rel_e9 T.R
  have hc0 : cells ≤ 667068 := by omega
  have hs0 : slots ≤ 7094901 := by omega
  have P1 := T.P1
  have P2 := T.P2
  have S := T.S
  refine lv_aload_n hx hb dL_law_263 rfl (lv_at hl 1 rfl) ?_
  refine lv_aload_n hx hb dL_law_264 rfl (lv_at hl 0 rfl) ?_
  refine lv_iload hx hb dL_law_265 (lv_at hl 4 rfl) ?_
  refine lv_iconst (v := nI 1) hx hb dL_law_267 (by decide) ?_
  refine nv_iadd (x := i) (y := 1) hx hb dL_law_268 ?_
  refine lw_sld (i := i + 1) F S hz1 (by omega) dL_law_269 ?_
  refine lv_aload_n hx hb dL_law_270 rfl (lv_at hl 0 rfl) ?_
  refine lv_iload hx hb dL_law_271 (lv_at hl 4 rfl) ?_
  refine lv_iconst (v := nI 2) hx hb dL_law_273 (by decide) ?_
  refine nv_iadd (x := i) (y := 2) hx hb dL_law_274 ?_
  refine lw_sld (i := i + 2) F S hz2 (by omega) dL_law_275 ?_
  refine lv_aload_n hx hb dL_law_276 rfl (lv_at hl 3 rfl) ?_
  refine lw_help (k9 := 4) (rest := []) (As := [.ref h, .int (nI v1), .int (nI v1), .ref o]) F P1 P2 S (hL_part_n3 l D (xo h a1 a2 a3 a4 o) h a1 a2 a3 a4 o cA cL n nb u v1 F.hst hn hu) w2_8 w2_6 w2_7 w1_0 ⟨by decide, by decide, by decide +kernel⟩ ⟨Nat.le_of_ble_eq_true rfl, Nat.le_of_ble_eq_true rfl⟩ rfl hl.1 rfl (Nat.le_of_ble_eq_true rfl) dL_law_277 ⟨hc, hs⟩ (fun r9 w9 H locs hpost9 P1 P2 S => ?_)
  obtain ⟨hr9, -⟩ := hpost9
  subst hr9
  refine lv_istore hx hb dL_law_280 hl (by decide) (lv' := [(5, .int (nI 2)), (0, .ref b), (1, .ref h), (2, .ref g0), (3, .ref o), (4, .int (nI i))]) rfl (fun ls hl => ?_)
  refine lv_aload_n hx hb dL_law_282 rfl (lv_at hl 3 rfl) ?_
  refine lv_aload_n hx hb dL_law_283 rfl (lv_at hl 1 rfl) ?_
  refine lv_iload hx hb dL_law_284 (lv_at hl 5 rfl) ?_
  refine lv_iconst (v := nI 1) hx hb dL_law_286 (by decide) ?_
  refine nv_iadd (x := i) (y := 1) hx hb dL_law_287 ?_
  refine lw_sld (i := i + 1) F S hz1 (by omega) dL_law_288 ?_
  refine lv_aload_n hx hb dL_law_289 rfl (lv_at hl 1 rfl) ?_
  refine lv_iload hx hb dL_law_290 (lv_at hl 5 rfl) ?_
  refine lv_iconst (v := nI 2) hx hb dL_law_292 (by decide) ?_
  refine nv_iadd (x := i) (y := 2) hx hb dL_law_293 ?_
  refine lw_sld (i := i + 2) F S hz2 (by omega) dL_law_294 ?_
  refine lw_mod (rest := []) (As := [.int (nI v1), .int (nI v1)]) (fun _ => um) F P1 P2 S (cM_part_b l D (mA g0 b1 b2 b3 b4 b5) g0 b1 b2 b3 b4 b5 cA n ft ed um.1 um.2.1 um.2.2.1 um.2.2.2 v1 hn hu) (fun _ _ h9 => h9) (cwV 2 hw (gV w2_144 w2_145 w2_146 w1_2 w2_147) rfl rfl rfl ⟨rfl, by decide, by decide, by decide +kernel⟩ ⟨Nat.le_of_ble_eq_true rfl, Nat.le_of_ble_eq_true rfl⟩) rfl hl.1 rfl (Nat.le_of_ble_eq_true rfl) dL_law_295 ⟨hc, hs⟩ (fun r8 w8 H locs hpost8 P1 P2 S => ?_)
  subst hpost8
  refine lv_istore hx hb dL_law_298 hl (by decide) (lv' := [(6, .int (bI false)), (5, .int (nI 2)), (0, .ref b), (1, .ref h), (2, .ref g0), (3, .ref o), (4, .int (nI i))]) rfl (fun ls hl => ?_)
  refine lv_aload_n hx hb dL_law_300 rfl (lv_at hl 4 rfl) ?_
  refine nr_V (b := g0) (As := []) (C := RM) (rest := []) ⟨hx, hb, F.hml, F.hown, hw⟩ (cM_thrown_c l D (mA g0 b1 b2 b3 b4 b5) g0 b1 b2 b3 b4 b5 cA n 2 ed um.1 um.2.1 um.2.2.1 um.2.2.2) (cwV 0 hw (gV w2_120 w2_121 w2_122 w1_2 w2_123) rfl rfl rfl ⟨rfl, by decide, by decide, by decide +kernel⟩ ⟨Nat.le_of_ble_eq_true rfl, Nat.le_of_ble_eq_true rfl⟩) gB_blind (va_recv (q0 := 0) (ci := 1) F.Km P2 rfl rfl) (gB_at P2 F.Km _) rfl hl.1 rfl (Nat.le_of_ble_eq_true rfl) dL_law_301 ⟨hc, hs⟩ ?_
  refine lv_iload hx hb dL_law_304 (lv_at hl 1 rfl) ?_
  refine lv_icmp_eq (tgt := 311) hx hb dL_law_306 rfl (fun _ => ?_) (fun h9 => absurd rfl h9)
  refine lv_iload hx hb dL_law_311 (lv_at hl 1 rfl) ?_
  refine nv_if_ne (x := 2) (tgt := 335) hx hb dL_law_313 rfl (by decide) (fun _ => ?_) (fun h9 => absurd h9 (by decide))
  refine lv_goto (tgt := 822) hx hb dL_law_335 rfl ?_
  have hl := lv_sub hl (l' := [(0, .ref b), (1, .ref h), (2, .ref g0), (3, .ref o), (4, .int (nI i))]) [2, 3, 4, 5, 6] rfl
  exact kk _ _ _ _ _ _ _ _ ls ⟨T.R, P1, P2, S⟩ hl

set_option maxHeartbeats 4000000 in
set_option maxRecDepth 100000 in
theorem lc_part_c (F : LFix p l s m c b L xs D cA cL h a1 a2 a3 a4 o g0 b1 b2 b3 b4 b5) (T : LSt s D cA cL h a1 a2 a3 a4 o g0 b1 b2 b3 b4 b5 n nb u ft ed um H locs) (hi : i + 2 < L) (hc : cells + 1 ≤ 667068) (hs : slots + 6 ≤ 7094901) (kk : LK p l e room_1 s m below meth c Q D cA cL b h a1 a2 a3 a4 o g0 b1 b2 b3 b4 b5 i (cells + 1) (slots + 6)) (hl : lv_has ls 7 [(0, .ref b), (1, .ref h), (2, .ref g0), (3, .ref o), (4, .int (nI i))]) {v1 v2 : Nat} (hz1 : xs (i + 1) = nI v1) (hz2 : xs (i + 2) = nI v2) (hu : v1 < n) (hv : v2 < n) (huv : v1 ≠ v2) (he : ed (8 * v1 + v2) = 0) : W p l e room_1 s m #[Value.ref b] below meth c H locs cells slots Q (F0 m 263 ls []) := by
  have hx := F.hx
  have hb := F.hb
  have hw := F.hw
  have hn := T.R.1
  have hnb := rel_lt T.R
  have hed1 := T.R.2.1
  have hed := rel_e9 T.R
  have hc0 : cells ≤ 667068 := by omega
  have hs0 : slots ≤ 7094901 := by omega
  have P1 := T.P1
  have P2 := T.P2
  have S := T.S
  refine lv_aload_n hx hb dL_law_263 rfl (lv_at hl 1 rfl) ?_
  refine lv_aload_n hx hb dL_law_264 rfl (lv_at hl 0 rfl) ?_
  refine lv_iload hx hb dL_law_265 (lv_at hl 4 rfl) ?_
  refine lv_iconst (v := nI 1) hx hb dL_law_267 (by decide) ?_
  refine nv_iadd (x := i) (y := 1) hx hb dL_law_268 ?_
  refine lw_sld (i := i + 1) F S hz1 (by omega) dL_law_269 ?_
  refine lv_aload_n hx hb dL_law_270 rfl (lv_at hl 0 rfl) ?_
  refine lv_iload hx hb dL_law_271 (lv_at hl 4 rfl) ?_
  refine lv_iconst (v := nI 2) hx hb dL_law_273 (by decide) ?_
  refine nv_iadd (x := i) (y := 2) hx hb dL_law_274 ?_
  refine lw_sld (i := i + 2) F S hz2 (by omega) dL_law_275 ?_
  refine lv_aload_n hx hb dL_law_276 rfl (lv_at hl 3 rfl) ?_
  refine lw_help (k9 := 4) (rest := []) (As := [.ref h, .int (nI v1), .int (nI v2), .ref o]) F P1 P2 S (hL_part_y l D (xo h a1 a2 a3 a4 o) h a1 a2 a3 a4 o cA cL n nb u v1 v2 hn hnb hu hv huv) w2_8 w2_6 w2_7 w1_0 ⟨by decide, by decide, by decide +kernel⟩ ⟨Nat.le_of_ble_eq_true rfl, Nat.le_of_ble_eq_true rfl⟩ rfl hl.1 rfl (Nat.le_of_ble_eq_true rfl) dL_law_277 ⟨hc, hs⟩ (fun r9 w9 H locs hpost9 P1 P2 S => ?_)
  obtain ⟨hr9, hval⟩ := hpost9
  subst hr9
  refine lv_istore hx hb dL_law_280 hl (by decide) (lv' := [(5, .int (nI 0)), (0, .ref b), (1, .ref h), (2, .ref g0), (3, .ref o), (4, .int (nI i))]) rfl (fun ls hl => ?_)
  refine lv_aload_n hx hb dL_law_282 rfl (lv_at hl 3 rfl) ?_
  refine lv_aload_n hx hb dL_law_283 rfl (lv_at hl 1 rfl) ?_
  refine lv_iload hx hb dL_law_284 (lv_at hl 5 rfl) ?_
  refine lv_iconst (v := nI 1) hx hb dL_law_286 (by decide) ?_
  refine nv_iadd (x := i) (y := 1) hx hb dL_law_287 ?_
  refine lw_sld (i := i + 1) F S hz1 (by omega) dL_law_288 ?_
  refine lv_aload_n hx hb dL_law_289 rfl (lv_at hl 1 rfl) ?_
  refine lv_iload hx hb dL_law_290 (lv_at hl 5 rfl) ?_
  refine lv_iconst (v := nI 2) hx hb dL_law_292 (by decide) ?_
  refine nv_iadd (x := i) (y := 2) hx hb dL_law_293 ?_
  refine lw_sld (i := i + 2) F S hz2 (by omega) dL_law_294 ?_
  refine lw_mod (rest := []) (As := [.int (nI v1), .int (nI v2)]) (fun _ => um) F P1 P2 S (cM_part_c l D (mA g0 b1 b2 b3 b4 b5) g0 b1 b2 b3 b4 b5 cA n ft ed um.1 um.2.1 um.2.2.1 um.2.2.2 v1 v2 hn hed1 hu hv huv he) (fun _ _ h9 => h9) (cwV 2 hw (gV w2_144 w2_145 w2_146 w1_2 w2_147) rfl rfl rfl ⟨rfl, by decide, by decide, by decide +kernel⟩ ⟨Nat.le_of_ble_eq_true rfl, Nat.le_of_ble_eq_true rfl⟩) rfl hl.1 rfl (Nat.le_of_ble_eq_true rfl) dL_law_295 ⟨hc, hs⟩ (fun r8 w8 H locs hpost8 P1 P2 S => ?_)
  subst hpost8
  refine lv_istore hx hb dL_law_298 hl (by decide) (lv' := [(6, .int (bI false)), (5, .int (nI 0)), (0, .ref b), (1, .ref h), (2, .ref g0), (3, .ref o), (4, .int (nI i))]) rfl (fun ls hl => ?_)
  refine lv_aload_n hx hb dL_law_300 rfl (lv_at hl 4 rfl) ?_
  refine nr_V (b := g0) (As := []) (C := RM) (rest := []) ⟨hx, hb, F.hml, F.hown, hw⟩ (cM_thrown_c l D (mA g0 b1 b2 b3 b4 b5) g0 b1 b2 b3 b4 b5 cA n 0 ed um.1 um.2.1 um.2.2.1 um.2.2.2) (cwV 0 hw (gV w2_120 w2_121 w2_122 w1_2 w2_123) rfl rfl rfl ⟨rfl, by decide, by decide, by decide +kernel⟩ ⟨Nat.le_of_ble_eq_true rfl, Nat.le_of_ble_eq_true rfl⟩) gB_blind (va_recv (q0 := 0) (ci := 1) F.Km P2 rfl rfl) (gB_at P2 F.Km _) rfl hl.1 rfl (Nat.le_of_ble_eq_true rfl) dL_law_301 ⟨hc, hs⟩ ?_
  refine lv_iload hx hb dL_law_304 (lv_at hl 1 rfl) ?_
  refine lv_icmp_eq (tgt := 311) hx hb dL_law_306 rfl (fun _ => ?_) (fun h9 => absurd rfl h9)
  refine lv_iload hx hb dL_law_311 (lv_at hl 1 rfl) ?_
  refine nv_if_ne (x := 0) (tgt := 335) hx hb dL_law_313 rfl (by decide) (fun h9 => absurd rfl h9) (fun _ => ?_)
  have e8 : (nb v1).testBit v2 = false := by rw [rel_bit T.R hu hv, decide_eq_false (show ¬ ed (8 * v1 + v2) = 1 by omega)]
  have e9 := hval
  rw [e8] at e9
  refine lv_aload_n hx hb dL_law_316 rfl (lv_at hl 5 rfl) ?_
  refine lv_iconst (v := nI 0) hx hb dL_law_317 (by decide) ?_
  refine nv_lald (f := w9.2) hx hb F.hK P1 5 1 rfl rfl dL_law_318 ?_
  refine lv_iload hx hb dL_law_319 (lv_at hl 0 rfl) ?_
  refine nv_b_eq (x := false) (tgt := 328) hx hb dL_law_321 rfl (fun hcc => ?_) (fun hcc => ?_)
  · refine lv_lconst (v := 0) hx hb dL_law_328 rfl ?_
    refine W.lcmp hx hb dL_law_329 ?_
    refine lv_if_eq (tgt := 335) hx hb dL_law_330 rfl (fun _ => ?_) (fun h9 => absurd ((lg_cmp_eq _ _).mpr (e9.trans (lif_f hcc).symm)) h9)
    refine lv_goto (tgt := 822) hx hb dL_law_335 rfl ?_
    have hl := lv_sub hl (l' := [(0, .ref b), (1, .ref h), (2, .ref g0), (3, .ref o), (4, .int (nI i))]) [2, 3, 4, 5, 6] rfl
    exact kk _ _ _ _ _ _ _ _ ls ⟨rel_ed (rel_part T.R hu hv huv) (fun k9 _ => by by_cases h8 : k9 = 8 * v2 + v1; (rw [h8, upN_s, ← T.R.2.2.1 v1 v2 (by omega) (by omega)]; exact he); (rw [upN_n _ _ h8]; by_cases h7 : k9 = 8 * v1 + v2; (rw [h7, upN_s]; exact he); (rw [upN_n _ _ h7]))), P1, P2, S⟩ hl
  · refine lv_lconst (v := 1) hx hb dL_law_324 rfl ?_
    refine lv_goto (tgt := 329) hx hb dL_law_325 rfl ?_
    refine W.lcmp hx hb dL_law_329 ?_
    refine lv_if_eq (tgt := 335) hx hb dL_law_330 rfl (fun _ => ?_) (fun h9 => absurd ((lg_cmp_eq _ _).mpr (e9.trans (lif_t hcc).symm)) h9)
    refine lv_goto (tgt := 822) hx hb dL_law_335 rfl ?_
    have hl := lv_sub hl (l' := [(0, .ref b), (1, .ref h), (2, .ref g0), (3, .ref o), (4, .int (nI i))]) [2, 3, 4, 5, 6] rfl
    exact kk _ _ _ _ _ _ _ _ ls ⟨rel_ed (rel_part T.R hu hv huv) (fun k9 _ => by by_cases h8 : k9 = 8 * v2 + v1; (rw [h8, upN_s, ← T.R.2.2.1 v1 v2 (by omega) (by omega)]; exact he); (rw [upN_n _ _ h8]; by_cases h7 : k9 = 8 * v1 + v2; (rw [h7, upN_s]; exact he); (rw [upN_n _ _ h7]))), P1, P2, S⟩ hl

set_option maxHeartbeats 4000000 in
set_option maxRecDepth 100000 in
theorem lc_part_d (F : LFix p l s m c b L xs D cA cL h a1 a2 a3 a4 o g0 b1 b2 b3 b4 b5) (T : LSt s D cA cL h a1 a2 a3 a4 o g0 b1 b2 b3 b4 b5 n nb u ft ed um H locs) (hi : i + 2 < L) (hc : cells + 1 ≤ 667068) (hs : slots + 6 ≤ 7094901) (kk : LK p l e room_1 s m below meth c Q D cA cL b h a1 a2 a3 a4 o g0 b1 b2 b3 b4 b5 i (cells + 1) (slots + 6)) (hl : lv_has ls 7 [(0, .ref b), (1, .ref h), (2, .ref g0), (3, .ref o), (4, .int (nI i))]) {v1 v2 : Nat} (hz1 : xs (i + 1) = nI v1) (hz2 : xs (i + 2) = nI v2) (hu : v1 < n) (hv : v2 < n) (huv : v1 ≠ v2) (he : ed (8 * v1 + v2) ≠ 0) : W p l e room_1 s m #[Value.ref b] below meth c H locs cells slots Q (F0 m 263 ls []) := by
  have hx := F.hx
  have hb := F.hb
  have hw := F.hw
  have hn := T.R.1
  have hnb := rel_lt T.R
  have hed1 := T.R.2.1
  have hed := rel_e9 T.R
  have hc0 : cells ≤ 667068 := by omega
  have hs0 : slots ≤ 7094901 := by omega
  have P1 := T.P1
  have P2 := T.P2
  have S := T.S
  refine lv_aload_n hx hb dL_law_263 rfl (lv_at hl 1 rfl) ?_
  refine lv_aload_n hx hb dL_law_264 rfl (lv_at hl 0 rfl) ?_
  refine lv_iload hx hb dL_law_265 (lv_at hl 4 rfl) ?_
  refine lv_iconst (v := nI 1) hx hb dL_law_267 (by decide) ?_
  refine nv_iadd (x := i) (y := 1) hx hb dL_law_268 ?_
  refine lw_sld (i := i + 1) F S hz1 (by omega) dL_law_269 ?_
  refine lv_aload_n hx hb dL_law_270 rfl (lv_at hl 0 rfl) ?_
  refine lv_iload hx hb dL_law_271 (lv_at hl 4 rfl) ?_
  refine lv_iconst (v := nI 2) hx hb dL_law_273 (by decide) ?_
  refine nv_iadd (x := i) (y := 2) hx hb dL_law_274 ?_
  refine lw_sld (i := i + 2) F S hz2 (by omega) dL_law_275 ?_
  refine lv_aload_n hx hb dL_law_276 rfl (lv_at hl 3 rfl) ?_
  refine lw_help (k9 := 4) (rest := []) (As := [.ref h, .int (nI v1), .int (nI v2), .ref o]) F P1 P2 S (hL_part_y l D (xo h a1 a2 a3 a4 o) h a1 a2 a3 a4 o cA cL n nb u v1 v2 hn hnb hu hv huv) w2_8 w2_6 w2_7 w1_0 ⟨by decide, by decide, by decide +kernel⟩ ⟨Nat.le_of_ble_eq_true rfl, Nat.le_of_ble_eq_true rfl⟩ rfl hl.1 rfl (Nat.le_of_ble_eq_true rfl) dL_law_277 ⟨hc, hs⟩ (fun r9 w9 H locs hpost9 P1 P2 S => ?_)
  obtain ⟨hr9, hval⟩ := hpost9
  subst hr9
  refine lv_istore hx hb dL_law_280 hl (by decide) (lv' := [(5, .int (nI 0)), (0, .ref b), (1, .ref h), (2, .ref g0), (3, .ref o), (4, .int (nI i))]) rfl (fun ls hl => ?_)
  refine lv_aload_n hx hb dL_law_282 rfl (lv_at hl 3 rfl) ?_
  refine lv_aload_n hx hb dL_law_283 rfl (lv_at hl 1 rfl) ?_
  refine lv_iload hx hb dL_law_284 (lv_at hl 5 rfl) ?_
  refine lv_iconst (v := nI 1) hx hb dL_law_286 (by decide) ?_
  refine nv_iadd (x := i) (y := 1) hx hb dL_law_287 ?_
  refine lw_sld (i := i + 1) F S hz1 (by omega) dL_law_288 ?_
  refine lv_aload_n hx hb dL_law_289 rfl (lv_at hl 1 rfl) ?_
  refine lv_iload hx hb dL_law_290 (lv_at hl 5 rfl) ?_
  refine lv_iconst (v := nI 2) hx hb dL_law_292 (by decide) ?_
  refine nv_iadd (x := i) (y := 2) hx hb dL_law_293 ?_
  refine lw_sld (i := i + 2) F S hz2 (by omega) dL_law_294 ?_
  refine lw_mod (rest := []) (As := [.int (nI v1), .int (nI v2)]) (fun _ => um) F P1 P2 S (cM_part_d l D (mA g0 b1 b2 b3 b4 b5) g0 b1 b2 b3 b4 b5 cA n ft ed um.1 um.2.1 um.2.2.1 um.2.2.2 v1 v2 hn hed1 hu hv huv he) (fun _ _ h9 => h9) (cwV 2 hw (gV w2_144 w2_145 w2_146 w1_2 w2_147) rfl rfl rfl ⟨rfl, by decide, by decide, by decide +kernel⟩ ⟨Nat.le_of_ble_eq_true rfl, Nat.le_of_ble_eq_true rfl⟩) rfl hl.1 rfl (Nat.le_of_ble_eq_true rfl) dL_law_295 ⟨hc, hs⟩ (fun r8 w8 H locs hpost8 P1 P2 S => ?_)
  subst hpost8
  refine lv_istore hx hb dL_law_298 hl (by decide) (lv' := [(6, .int (bI true)), (5, .int (nI 0)), (0, .ref b), (1, .ref h), (2, .ref g0), (3, .ref o), (4, .int (nI i))]) rfl (fun ls hl => ?_)
  refine lv_aload_n hx hb dL_law_300 rfl (lv_at hl 4 rfl) ?_
  refine nr_V (b := g0) (As := []) (C := RM) (rest := []) ⟨hx, hb, F.hml, F.hown, hw⟩ (cM_thrown_c l D (mA g0 b1 b2 b3 b4 b5) g0 b1 b2 b3 b4 b5 cA n 0 (upN (upN ed (8 * v1 + v2) 0) (8 * v2 + v1) 0) um.1 um.2.1 um.2.2.1 um.2.2.2) (cwV 0 hw (gV w2_120 w2_121 w2_122 w1_2 w2_123) rfl rfl rfl ⟨rfl, by decide, by decide, by decide +kernel⟩ ⟨Nat.le_of_ble_eq_true rfl, Nat.le_of_ble_eq_true rfl⟩) gB_blind (va_recv (q0 := 0) (ci := 1) F.Km P2 rfl rfl) (gB_at P2 F.Km _) rfl hl.1 rfl (Nat.le_of_ble_eq_true rfl) dL_law_301 ⟨hc, hs⟩ ?_
  refine lv_iload hx hb dL_law_304 (lv_at hl 1 rfl) ?_
  refine lv_icmp_eq (tgt := 311) hx hb dL_law_306 rfl (fun _ => ?_) (fun h9 => absurd rfl h9)
  refine lv_iload hx hb dL_law_311 (lv_at hl 1 rfl) ?_
  refine nv_if_ne (x := 0) (tgt := 335) hx hb dL_law_313 rfl (by decide) (fun h9 => absurd rfl h9) (fun _ => ?_)
  have e7 := hed1 (8 * v1 + v2) (by omega)
  have e8 : (nb v1).testBit v2 = true := by rw [rel_bit T.R hu hv, decide_eq_true (show ed (8 * v1 + v2) = 1 by omega)]
  have e9 := hval
  rw [e8] at e9
  refine lv_aload_n hx hb dL_law_316 rfl (lv_at hl 5 rfl) ?_
  refine lv_iconst (v := nI 0) hx hb dL_law_317 (by decide) ?_
  refine nv_lald (f := w9.2) hx hb F.hK P1 5 1 rfl rfl dL_law_318 ?_
  refine lv_iload hx hb dL_law_319 (lv_at hl 0 rfl) ?_
  refine nv_b_eq (x := true) (tgt := 328) hx hb dL_law_321 rfl (fun hcc => ?_) (fun hcc => ?_)
  · refine lv_lconst (v := 0) hx hb dL_law_328 rfl ?_
    refine W.lcmp hx hb dL_law_329 ?_
    refine lv_if_eq (tgt := 335) hx hb dL_law_330 rfl (fun _ => ?_) (fun h9 => absurd ((lg_cmp_eq _ _).mpr (e9.trans (lif_f hcc).symm)) h9)
    refine lv_goto (tgt := 822) hx hb dL_law_335 rfl ?_
    have hl := lv_sub hl (l' := [(0, .ref b), (1, .ref h), (2, .ref g0), (3, .ref o), (4, .int (nI i))]) [2, 3, 4, 5, 6] rfl
    exact kk _ _ _ _ _ _ _ _ ls ⟨rel_part T.R hu hv huv, P1, P2, S⟩ hl
  · refine lv_lconst (v := 1) hx hb dL_law_324 rfl ?_
    refine lv_goto (tgt := 329) hx hb dL_law_325 rfl ?_
    refine W.lcmp hx hb dL_law_329 ?_
    refine lv_if_eq (tgt := 335) hx hb dL_law_330 rfl (fun _ => ?_) (fun h9 => absurd ((lg_cmp_eq _ _).mpr (e9.trans (lif_t hcc).symm)) h9)
    refine lv_goto (tgt := 822) hx hb dL_law_335 rfl ?_
    have hl := lv_sub hl (l' := [(0, .ref b), (1, .ref h), (2, .ref g0), (3, .ref o), (4, .int (nI i))]) [2, 3, 4, 5, 6] rfl
    exact kk _ _ _ _ _ _ _ _ ls ⟨rel_part T.R hu hv huv, P1, P2, S⟩ hl

end LC
