theorem tn_in : ∀ w ∈ tn, w ∈ lw_tbl := by decide +kernel
theorem gI_blind {D : va_G} {cl : List vw_C} {A : Nat → Prop} {ws : va_W} {tys : List (ClassId × FieldType)} {av : List Value} : FrameBlind (va_Pc av (fun U => gW D cl A ws tys U ∧ ∀ q : Nat, U.heap.size ≤ q → A q)) := fun a U g mk q => ⟨q.1, (gW_blind (av := av) a U g mk ⟨q.1, q.2.1⟩).2, q.2.2⟩
theorem vd_weak {A B : Nat → Prop} {ws : va_W} (h : va_D A ws) (hAB : ∀ q, A q → B q) : va_D B ws := ⟨h.1, fun k q hk => hAB _ (h.2 k q hk)⟩
theorem vd_mem {A : Nat → Prop} {ws : va_W} (h : va_D A ws) {a : Nat} (ha : a ∈ ws.map (fun q => q.1)) : A a := by
  obtain ⟨q, hq, rfl⟩ := List.mem_map.mp ha
  obtain ⟨k, hk⟩ := List.getElem?_of_mem hq
  exact h.2 k q hk
theorem vp_mem {D : va_G} {cl : List vw_C} {ws : va_W} {H : Heap} (h : va_P D cl ws H) {a : Nat} (ha : a ∈ ws.map (fun q => q.1)) : a < H.size := by
  obtain ⟨q, hq, rfl⟩ := List.mem_map.mp ha
  obtain ⟨k, hk⟩ := List.getElem?_of_mem hq
  exact (h k q hk).lt
theorem str_of {s : State} {args : Array Value} {k : Nat} {tx : String} (h1 : (Cond.stringRef RX k tx).before args s = true) (h2 : (Cond.exactly (.string RX k) "java/lang/String").before args s = true) : ∃ a, vk_R RX k tx a s := by
  obtain ⟨a, c, cA, kA, q1, -⟩ := Cond.exactly_spec (args := args) (first := s) (o := none) (s := s) (idx := []) (t := .string RX k) (cls := "java/lang/String") h2
  exact ⟨a, vk_R.of h1 q1⟩
set_option maxRecDepth 100000 in
theorem tx_start {b : Nat} {s : State} (hts : ∀ w ∈ lw_tbl, w.before #[Value.ref b] s = true) (hgv : (Jvm.Cond.and given_1 narrow_1).before #[Value.ref b] s = true) : (∀ w ∈ tn, va_Nw w s) ∧ txQ Bundle.tN "UNASSIGNED_STACK" Bundle.steD s s.heap ∧ txQ Bundle.tN "SUPPRESSED_SENTINEL" Bundle.listD s s.heap ∧ txS s ∧ va_Nc cIAE cIOB s ∧ va_Nc cISE cIOB s := by
  have hf := flat_of_before _ hgv
  refine ⟨fun w hm => va_Nw.of (tn_ok w hm) (hts w (tn_in w hm)), ?_, ?_, ⟨?_, ?_, ?_, ?_, ?_, ?_⟩, ?_, ?_⟩
  · exact txQ.of (hts (Cond.laysStatic Bundle.tN "UNASSIGNED_STACK" Bundle.steD) (by decide +kernel)) (hf (Cond.isRef (.static Bundle.tN "UNASSIGNED_STACK" Bundle.steD)) (by decide +kernel))
  · exact txQ.of (hts (Cond.laysStatic Bundle.tN "SUPPRESSED_SENTINEL" Bundle.listD) (by decide +kernel)) (hf (Cond.isRef (.static Bundle.tN "SUPPRESSED_SENTINEL" Bundle.listD)) (by decide +kernel))
  · exact str_of (hts (Cond.stringRef RX 31 "no room for one more vertex") (by decide +kernel)) (hf (Cond.exactly (.string RX 31) "java/lang/String") (by decide +kernel))
  · exact str_of (hts (Cond.stringRef RX 36 "no vertex to take away") (by decide +kernel)) (hf (Cond.exactly (.string RX 36) "java/lang/String") (by decide +kernel))
  · exact str_of (hts (Cond.stringRef RX 92 "two different vertices are needed") (by decide +kernel)) (hf (Cond.exactly (.string RX 92) "java/lang/String") (by decide +kernel))
  · exact str_of (hts (Cond.stringRef RX 97 "no such vertex") (by decide +kernel)) (hf (Cond.exactly (.string RX 97) "java/lang/String") (by decide +kernel))
  · exact str_of (hts (Cond.stringRef RX 100 "it is no line graph") (by decide +kernel)) (hf (Cond.exactly (.string RX 100) "java/lang/String") (by decide +kernel))
  · exact str_of (hts (Cond.stringRef RX 76 "it is a line graph") (by decide +kernel)) (hf (Cond.exactly (.string RX 76) "java/lang/String") (by decide +kernel))
  · exact va_Nc.of (hf (Cond.not (.castable cIAE cIOB)) (by decide +kernel))
  · exact va_Nc.of (hf (Cond.not (.castable cISE cIOB)) (by decide +kernel))
theorem hK_start {b : Nat} {s : State} (hw : ∀ w ∈ bw, w.before #[Value.ref b] s = true) : ∃ D : va_G, va_K D vwCl [] s := by
  obtain ⟨c0, i0, hk0⟩ := u_known (C := RX) (T := TX) (N := 6) (n := 6) hw uX (hw _ w1_12)
  obtain ⟨c1, i1, hk1⟩ := u_known (C := RM) (T := TM) (N := 7) (n := 7) hw uM (hw _ w2_93)
  refine ⟨(fun k => match k with | 0 => c0 | _ => c1, fun k => match k with | 0 => i0 | _ => i1), fun c q hq => ?_, fun k q hk => by simp at hk⟩
  match c, hq with
  | 0, hq => cases hq; exact hk0
  | 1, hq => cases hq; exact hk1
  | c + 2, hq => simp [vwCl] at hq
set_option maxHeartbeats 4000000 in
set_option maxRecDepth 100000 in
/-- from the entry, for every script of at most 1536 ints, the law comes to its end with true -/
theorem whole_start {p : Program} {e : Env} {s : State} {m : MethodId} {below : List Frame} {meth : Method} {c : Code} (l : Launch) (hst : l.stackTraces = false) {b L : Nat} {xs : Nat → Int32} (hL : L ≤ 1536) (C0 : lw_At p s m meth c b L xs) : W p l e room_1 s m #[Value.ref b] below meth c s.heap [] 0 0 (lw_Z below #[Value.ref b] s) (entryFrame m ([Value.ref b] : List Value).toArray 7) := by
  obtain ⟨hx, hb, hr, hml, hown, hts, hX, hbl, hlocks, hgv⟩ := C0
  obtain ⟨t1, t2, t3, t4, t5, t6⟩ := tx_start hts hgv
  have hw : ∀ w ∈ bw, w.before #[Value.ref b] s = true := fun w h => hts w (List.mem_filter.mp h).1
  obtain ⟨D, hK⟩ := hK_start hw
  have hP : va_P D vwCl [] s.heap := fun k q h => by simp at h
  have hD : va_D (fun q => s.heap.size ≤ q) [] := ⟨fun i j p q h => by simp at h, fun k q h => by simp at h⟩
  have hS : va_S (fun q => s.heap.size ≤ q) s.heap s.heap [] := va_S.rf
  have hA : ∀ q : Nat, s.heap.size ≤ q → s.heap.size ≤ q := fun q h => h
  have hl := lv_entry ([.ref b]) (n := 7) (Nat.le_of_ble_eq_true rfl)
  rw [lg_entry_eq]
  generalize (lg_sl ([.ref b]) ++ List.replicate (7 - (lg_sl ([.ref b])).length) Slot.unset).toArray = ls at hl ⊢
  have hl : lv_has ls 7 [(0, .ref b)] := hl
  refine va_new (ci := 0) (fs := [.null, .int 0, .null, .null, .null, .int 0]) (C := RX) (T := TX) (N := 6) hx hb hw uX tyX tyX_ok hown (hw _ w1_11) (hw _ w1_12) (hw _ w1_1) hK hP hD hS hA rfl (fun j hj => by rcases (show j = 0 ∨ j = 1 ∨ j = 2 ∨ j = 3 ∨ j = 4 ∨ j = 5 by omega) with rfl | rfl | rfl | rfl | rfl | rfl <;> rfl) (Nat.le_of_ble_eq_true rfl) (Nat.le_of_ble_eq_true rfl) dL_law_0 (fun h H hP hD hS => ?_)
  have hP : va_P D vwCl [(h, .inr (0, [.null, .int 0, .null, .null, .null, .int 0]))] H := hP
  have hlt : h < H.size := (hP 0 _ rfl).lt
  have hge0 : s.heap.size ≤ h := hD.2 0 _ rfl
  have hDh : va_D (fun q => h ≤ q) [(h, .inr (0, [.null, .int 0, .null, .null, .null, .int 0]))] := vd_of (by simp) (fun a ha => by
    have ha : a ∈ [h] := ha
    simp at ha
    show h ≤ a
    omega)
  refine lv_dup hx hb dL_law_3 rfl ?_
  refine va_callv (va_runI (As := []) (rest := [.ref h]) ⟨hx, hb, hml, hown, hw⟩ (cX_init_c l D (fun q => h ≤ q) h) (cwI 0 hw (gC w1_15) rfl rfl rfl (hw _ w1_1) (hw _ w1_13) (hw _ w1_14) rfl ⟨by decide, by decide, by decide +kernel⟩ ⟨Nat.le_of_ble_eq_true rfl, Nat.le_of_ble_eq_true rfl⟩) ⟨gI_blind, fun U hU hW => ⟨rfl, ⟨by rw [hU]; exact hP, va_K.moved hW.alike hK, hDh⟩, fun q hq => by rw [hU] at hq; show h ≤ q; omega⟩⟩ rfl rfl hl.1 rfl (lv_room (Nat.le_of_ble_eq_true rfl)) dL_law_4 ⟨Nat.le_of_ble_eq_true rfl, Nat.le_of_ble_eq_true rfl⟩) hS (fun q _ h9 => Nat.le_trans hge0 h9) (fun q h9 => Nat.le_trans hge0 h9) (fun u9 t9 H locs ht9 hvm9 hpost9 hB9 hz9 hk9 hS => ?_)
  obtain ⟨a1, a2, a3, a4, cA⟩ := u9
  obtain ⟨hP1, hK1, hD1⟩ := hB9
  rw [ht9] at hP1
  have hK1 := va_K.moved hvm9.symm hK1
  have hK1 : va_K D vwCl [(cA, .int)] s := hK1
  have hP1 : va_P D vwCl (xW9 h a1 a2 a3 a4 cA 0 (fun _ => 0) ((fun _ => 0), (fun _ => 0), (fun _ => 0), 0)) H := hP1
  have hD1 : va_D (fun q => h ≤ q) (xW9 h a1 a2 a3 a4 cA 0 (fun _ => 0) ((fun _ => 0), (fun _ => 0), (fun _ => 0), 0)) := hD1
  have hD1 : va_D (fun q => s.heap.size ≤ q) (xW9 h a1 a2 a3 a4 cA 0 (fun _ => 0) ((fun _ => 0), (fun _ => 0), (fun _ => 0), 0)) := vd_weak hD1 (fun q h9 => Nat.le_trans hge0 h9)
  refine lv_astore_n hx hb dL_law_7 rfl hl (by decide) (lv' := [(1, .ref h), (0, .ref b)]) rfl (fun ls hl => ?_)
  refine va_new (ci := 1) (fs := [.int 0, .null, .int 0, .null, .null, .null, .null]) (C := RM) (T := TM) (N := 7) hx hb hw uM tyM tyM_ok hown (hw _ w2_92) (hw _ w2_93) (hw _ w1_2) hK1 hP1 hD1 hS hA rfl (fun j hj => by rcases (show j = 0 ∨ j = 1 ∨ j = 2 ∨ j = 3 ∨ j = 4 ∨ j = 5 ∨ j = 6 by omega) with rfl | rfl | rfl | rfl | rfl | rfl | rfl <;> rfl) (Nat.le_of_ble_eq_true rfl) (Nat.le_of_ble_eq_true rfl) dL_law_8 (fun g0 H hP2 hD2 hS => ?_)
  have hPx : va_P D vwCl (xW9 h a1 a2 a3 a4 cA 0 (fun _ => 0) ((fun _ => 0), (fun _ => 0), (fun _ => 0), 0)) H := hP2.sub [0, 1, 2, 3, 4] rfl
  have hPg : va_P D vwCl [(g0, .inr (1, [.int 0, .null, .int 0, .null, .null, .null, .null]))] H := hP2.sub [5] rfl
  have hge1 : s.heap.size ≤ g0 := hD2.2 5 _ rfl
  have hsz : s.heap.size ≤ H.size := hS.1
  have hn6 : ([h, a1, a2, a3, a4] ++ [g0]).Nodup := nd_of hD2
  have hgx : ∀ a, a ∈ [h, a1, a2, a3, a4] → a ≠ g0 := fun a ha => (List.nodup_append.mp hn6).2.2 a ha g0 (by simp)
  have hxlt : ∀ a, a ∈ [h, a1, a2, a3, a4] → a < H.size := fun a ha => vp_mem hPx ha
  have hDg : va_D (fun q => q = g0 ∨ H.size ≤ q) [(g0, .inr (1, [.int 0, .null, .int 0, .null, .null, .null, .null]))] := vd_of (by simp) (fun a ha => by
    have ha : a ∈ [g0] := ha
    simp at ha
    exact Or.inl ha)
  refine lv_dup hx hb dL_law_11 rfl ?_
  refine va_callv (va_runI (As := []) (rest := [.ref g0]) ⟨hx, hb, hml, hown, hw⟩ (cM_init_c l D (fun q => q = g0 ∨ H.size ≤ q) g0) (cwI 0 hw (gC w2_96) rfl rfl rfl (hw _ w1_2) (hw _ w2_94) (hw _ w2_95) rfl ⟨by decide, by decide, by decide +kernel⟩ ⟨Nat.le_of_ble_eq_true rfl, Nat.le_of_ble_eq_true rfl⟩) ⟨gI_blind, fun U hU hW => ⟨rfl, ⟨by rw [hU]; exact hPg, va_K.moved hW.alike hK, hDg⟩, fun q hq => by rw [hU] at hq; exact Or.inr hq⟩⟩ rfl rfl hl.1 rfl (lv_room (Nat.le_of_ble_eq_true rfl)) dL_law_12 ⟨Nat.le_of_ble_eq_true rfl, Nat.le_of_ble_eq_true rfl⟩) hS (fun q _ h9 => by show s.heap.size ≤ q; rcases h9 with h9 | h9 <;> omega) (fun q h9 => by show s.heap.size ≤ q; rcases h9 with h9 | h9 <;> omega) (fun u9 t9 H3 locs ht9 hvm9 hpost9 hB9 hz9 hk9 hS => ?_)
  obtain ⟨b1, b2, b3, b4, b5, cB⟩ := u9
  obtain ⟨hP3, hK3, hD3⟩ := hB9
  rw [ht9] at hP3
  have hK3 := va_K.moved hvm9.symm hK3
  have hK3 : va_K D vwCl [(cB, .int)] s := hK3
  have hcc : cA = cB := ty_eq (hK1.app hK3) (i := 0) (j := 1) rfl rfl
  subst hcc
  have hP3 : va_P D vwCl (mW9 g0 b1 b2 b3 b4 b5 cA 0 0 (fun _ => 0) ((fun _ => 0), (fun _ => 0), (fun _ => 0), (fun _ => 0))) H3 := hP3
  have hD3 : va_D (fun q => q = g0 ∨ H.size ≤ q) (mW9 g0 b1 b2 b3 b4 b5 cA 0 0 (fun _ => 0) ((fun _ => 0), (fun _ => 0), (fun _ => 0), (fun _ => 0))) := hD3
  have hPx3 := vp_kept (H1 := H3) hPx hk9 (fun a ha h9 => by
    have ha : a ∈ [h, a1, a2, a3, a4] := ha
    rcases h9 with h9 | h9
    · exact hgx a ha h9
    · have := hxlt a ha
      omega)
  have hn5 : [h, a1, a2, a3, a4].Nodup := (List.nodup_append.mp hn6).1
  have hnm : [g0, b1, b2, b3, b4, b5].Nodup := nd_of hD3
  have hm3 : ∀ a, a ∈ [g0, b1, b2, b3, b4, b5] → a = g0 ∨ H.size ≤ a := fun a ha => vd_mem hD3 ha
  have hn11 : ([h, a1, a2, a3, a4] ++ [g0, b1, b2, b3, b4, b5]).Nodup := List.nodup_append.mpr ⟨hn5, hnm, fun a ha q hq e9 => by
    have h1 := hgx a ha
    have h2 := hxlt a ha
    rcases hm3 q hq with h3 | h3 <;> omega⟩
  have hD4 : va_D (fun q => s.heap.size ≤ q) (xW9 h a1 a2 a3 a4 cA 0 (fun _ => 0) ((fun _ => 0), (fun _ => 0), (fun _ => 0), 0) ++ mW9 g0 b1 b2 b3 b4 b5 cA 0 0 (fun _ => 0) ((fun _ => 0), (fun _ => 0), (fun _ => 0), (fun _ => 0))) := by
    refine vd_of hn11 (fun a ha => ?_)
    have ha : a ∈ [h, a1, a2, a3, a4] ++ [g0, b1, b2, b3, b4, b5] := ha
    rcases List.mem_append.mp ha with ha | ha
    · exact vd_mem hD1 ha
    · show s.heap.size ≤ a
      rcases hm3 a ha with h3 | h3 <;> omega
  refine lv_astore_n hx hb dL_law_15 rfl hl (by decide) (lv' := [(2, .ref g0), (1, .ref h), (0, .ref b)]) rfl (fun ls hl => ?_)
  refine lv_iconst (v := nI 1) hx hb dL_law_16 (by decide) ?_
  refine va_newa (atype := .long) (ty := .long) (n := nI 1) (N' := 1) (a0 := (1, .inr (.inl (fun _ => 0)))) hx hb (hw _ w3_3) rfl hK1 (hPx3.app hP3) hD4 hS hA (fun _ => rfl) (by decide) (by decide) (Nat.le_of_ble_eq_true rfl) (Nat.le_of_ble_eq_true rfl) (Nat.le_of_ble_eq_true rfl) dL_law_17 (fun o cL H hK5 hP5 hD5 hS => ?_)
  have hK5 : va_K D vwCl [(cA, .int), (cL, .long)] s := hK5
  refine lv_astore_n hx hb dL_law_19 rfl hl (by decide) (lv' := [(3, .ref o), (2, .ref g0), (1, .ref h), (0, .ref b)]) rfl (fun ls hl => ?_)
  refine lv_iconst (v := nI 0) hx hb dL_law_20 (by decide) ?_
  refine lv_istore hx hb dL_law_21 hl (by decide) (lv' := [(4, .int (nI 0)), (3, .ref o), (2, .ref g0), (1, .ref h), (0, .ref b)]) rfl (fun ls hl => ?_)
  have hl := lv_sub hl (l' := [(0, .ref b), (1, .ref h), (2, .ref g0), (3, .ref o), (4, .int (nI 0))]) [4, 3, 2, 1, 0] rfl
  have P1 : va_P D vwCl (hW9 h a1 a2 a3 a4 o cA cL 0 (fun _ => 0) (((fun _ => 0), (fun _ => 0), (fun _ => 0), 0), fun _ => 0)) H := hP5.sub [0, 1, 2, 3, 4, 11] rfl
  have P2 : va_P D vwCl (mW9 g0 b1 b2 b3 b4 b5 cA 0 0 (fun _ => 0) ((fun _ => 0), (fun _ => 0), (fun _ => 0), (fun _ => 0))) H := hP5.sub [5, 6, 7, 8, 9, 10] rfl
  have hD6 : va_D (fun q => s.heap.size ≤ q) (hW9 h a1 a2 a3 a4 o cA cL 0 (fun _ => 0) (((fun _ => 0), (fun _ => 0), (fun _ => 0), 0), fun _ => 0) ++ mW9 g0 b1 b2 b3 b4 b5 cA 0 0 (fun _ => 0) ((fun _ => 0), (fun _ => 0), (fun _ => 0), (fun _ => 0))) := hD5.sub [0, 1, 2, 3, 4, 11, 5, 6, 7, 8, 9, 10] (by decide) rfl
  have F : LFix p l s m c b L xs D cA cL h a1 a2 a3 a4 o g0 b1 b2 b3 b4 b5 := ⟨hx, hb, hml, hown, hw, hX, hbl, hL, hK5, t1, t2, t3, t4, t5, t6, hst, nd_of hD6, fun q hq => vd_mem hD6 hq⟩
  exact lw_loop F hr hlocks _ 0 rfl (Nat.zero_le _) 0 (fun _ => 0) _ 0 (fun _ => 0) _ H _ ls _ _ (Nat.le_of_ble_eq_true rfl) (Nat.le_of_ble_eq_true rfl) ⟨rel_0, P1, P2, hS⟩ hl
set_option maxHeartbeats 4000000 in
theorem lw_walk (l : Launch) (hst : l.stackTraces = false) (b : Addr) (xs : List Int32) : MetFree l x (headSpec (Jvm.Cond.code x code maxLocals ret :: tables_1) room_1) (lw_P b xs) (fun _ _ _ _ _ => True) lw_Q := by
  refine MetFree.of_bodyS (code := code) (maxLocals := maxLocals) (ret := ret) (by decide) ?_ ?_
  · intro args s m h hn
    obtain ⟨meth, c, h1, h2, h3, h4, h5, h6, -, -⟩ := Cond.code_spec hn (atoms_spec (ws := Jvm.Cond.code x code maxLocals ret :: tables_1) h _ List.mem_cons_self)
    exact ⟨meth, c, h1, h2, h3, h4, h5, h6⟩
  · intro p e s m args below meth c s₁ B hml0 hP _
    obtain ⟨rfl, hx, hbd, hgv⟩ := hP
    obtain ⟨scr, harrAt, hlist, hof, hsmall⟩ := hx
    obtain ⟨hcb, hkn, -, -⟩ := State.arrayAt?_spec harrAt
    have hown : s.vm.findClass R_law = some m.cls := findClass_of_methodNamed B.named
    have hts0 : ∀ c ∈ (Jvm.Cond.code x code maxLocals ret :: tables_1), c.before #[Value.ref b] s = true := atoms_spec (ws := Jvm.Cond.code x code maxLocals ret :: tables_1) B.pre
    have hts : ∀ w ∈ lw_tbl, w.before #[Value.ref b] s = true := k2_hts_sels lw_privs (fun w hw => hts0 w (List.mem_cons_of_mem _ hw)) lw_privs_ok
    have hml : c.maxLocals = 7 := B.maxLocals_eq (hts0 _ List.mem_cons_self)
    have X₀ : Stand p l e room_1 s m #[Value.ref b] below meth c s₁ [] 0 0 := Stand.of_body B
    have hh0 : s₁.heap = s.heap := by rw [B.state]; rfl
    have hsz : scr.slots.size = xs.length := by rw [← Array.length_toList, hlist, List.length_map]
    have hval : ∀ j : Nat, j < xs.length → scr.slots[j]? = some (.int (xs.getD j 0)) := fun j hj => by
      rw [← Array.getElem?_toList, hlist]
      simp [hj]
    have hbl : b < s.heap.size := (Array.getElem?_eq_some_iff.mp hcb).1
    have hX : va_X b xs.length (fun j => xs.getD j 0) s s.heap := ⟨scr, hcb, hof, hkn, hsz, hval⟩
    have K : W p l e room_1 s m #[Value.ref b] below meth c s₁.heap [] 0 0 (lw_Z below #[Value.ref b] s) (entryFrame m ([Value.ref b] : List Value).toArray 7) := by
      rw [hh0]
      exact whole_start l hst hbd ⟨B.exec, B.bytes, B.returns, hml, hown, hts, hX, hbl, B.notSynchronized, hgv⟩
    obtain ⟨t, a1, o, b1, b2, b3⟩ := K s₁ rfl X₀
    exact ⟨t, o, a1, b1, b2, b3⟩
theorem lw_pre_spec {args : Array Value} {s : State} (h : (Jvm.Cond.and given_1 narrow_1).before args s = true) (hr : rest_1_c.before args s = true) : ∃ (b : Addr) (xs : List Int32), lw_P b xs args s := by
  have hs := flat_of_before _ h
  have hq := flat_of_before _ hr
  have hc : (Cond.count 1).before args s = true := hs _ (by decide +kernel)
  have harr : (Cond.arrayOf (.arg 0) .int).before args s = true := hs _ (by decide +kernel)
  have hle : (Cond.le (.length (.arg 0)) (.int 1536)).before args s = true := hs _ (by decide +kernel)
  have hlen : (Cond.isInt (.length (.arg 0))).before args s = true := hq _ (by decide +kernel)
  have hall : (Cond.all (.arg 0) (.isInt (.elem (.arg 0) (.index 0)))).before args s = true := hq _ (by decide +kernel)
  obtain ⟨b, xs, hb, hx⟩ := State.ints_of_pre rfl harr hlen hall
  have hsm : xs.length < 2 ^ 31 := hx.choose_spec.2.2.2
  have hev : (Term.length (.arg 0)).eval args s none [] s = some (.int xs.length.toInt32) := hx.length_eval hb
  have hv := Cond.le_ints hev (show (Term.int 1536).eval args s none [] s = some (.int 1536) from rfl)
  have hd : xs.length.toInt32 ≤ 1536 := by
    simpa [Cond.before, Cond.holds, hv] using hle
  have hN : xs.length ≤ 1536 := (Int32.ofNat_le_ofNat hsm (by decide)).mp (show Int32.ofNat xs.length ≤ Int32.ofNat 1536 from hd)
  exact ⟨b, xs, Cond.one_arg hc (show args[0]? = some (.ref b) from hb), hx, hN, h⟩
theorem lw_comes (l : Launch) (hst : l.stackTraces = false) : Comes l x (Jvm.Cond.code x code maxLocals ret :: tables_1) room_1 (fun tb e args s => Calls_1 tb e args s ∧ rest_1 tb e args s ∧ Pre_1 tb e args s)
    (fun _ _ args s o t => lw_Q args s o t) := by
  intro p e ha hc hk s m args below hf hfit hheap happ hpre
  obtain ⟨b, xs, hP⟩ := lw_pre_spec hpre.2.2 hpre.2.1
  obtain ⟨k, o, h1, h2, h3, hQ⟩ := lw_walk l hst b xs p e ha hc hk s m args below hf ((Spec.applies_iff_loose hf).mp happ).1 hP trivial
  exact ⟨k, o, h1, h2, h3, hQ⟩
theorem lw_frame {s t : State} {o : Outcome} {args : Array Value} (h : Framed s o t [] 667068 7094901) :
    Framed s o t (fieldLocs frame_1_writes args s ++ arrayLocs frame_1_arrays args s ++ staticLocs frame_1_statics s) 667068 7094901 := h
theorem lw_limb (L : Cond) (hL : ∀ (args : Array Value) (s t : State), L.after args s (.returned (some (.int 1))) t = true) :
    ArmFor flags0 classFile x code maxLocals ret World_1 tables_1 room_1 Calls_1 rest_1 Pre_1
      (fun tb e a s o t => postC L tb e a s o t ∧ Framed s o t (fieldLocs frame_1_writes a s ++ arrayLocs frame_1_arrays a s ++ staticLocs frame_1_statics s) 667068 7094901) := by
  intro l hfl _ _ p e ha hc hk s m args below hf hfit hheap happ hpre
  obtain ⟨k, o, h1, h2, h3, rfl, hF⟩ := lw_comes l (by unfold Launch.stackTraces; rw [hfl]; decide) p e ha hc hk s m args below hf hfit hheap happ hpre
  exact ⟨k, _, h1, h2, h3, hL args s _, lw_frame hF⟩
theorem i_vc : Claimed_1_1 ∧ Claimed_1_2 := ⟨lw_limb limb_1_1 (fun args s t => by simp [limb_1_1, Cond.after, Cond.holds, Cond.value]), lw_limb limb_1_2 (fun args s t => Cond.after_iff.mpr (by
  first | (rw [show limb_1_2 = Cond.eq .result (.int 1) from rfl, Cond.eq_ints (x := 1) (y := 1) rfl rfl]; simp; done) | (simp [limb_1_2, Cond.value, Term.eval]; done)))⟩
