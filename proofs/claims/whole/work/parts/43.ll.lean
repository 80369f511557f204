/-! THE CLAIM OUT OF ONE WALK OF THE LAW'S BODY. Your part is whole_start (and what it stands on); all else here is the same for every law, but numbers. -/
def R_law : String := "PairedEndsLaw"
def lw_P (b : Addr) (xs : List Int32) (args : Array Value) (s : State) : Prop := args = #[.ref b] ∧ s.IntsAt b xs ∧ xs.length ≤ 1536 ∧ (Jvm.Cond.and given_1 narrow_1).before args s = true
def lw_Q (_ : Array Value) (s : State) (o : Outcome) (t : State) : Prop := o = .returned (some (.int 1)) ∧ Framed s o t [] 667068 7094901
def lw_Z (below : List Frame) (a : Array Value) (s : State) : State → Prop := fun t => ∃ o, t.status = .running ∧ Ended t below o ∧ lw_Q a s o t
/-- the law's own end, with 1 on the stack, nothing written that was there before, its room as the claim has it -/
theorem lw_ret {p : Program} {l : Launch} {e : Env} {s : State} {m : MethodId} {below : List Frame} {meth : Method} {c : Code} {b : Nat} (hx : p.tables.exec = Jvm.exec) (hb : c.code = code) (hr : meth.sig.returnType = ret) (hlocks : meth.locks = false) {pc : Nat} {H : Heap} {ls : Array Slot} (hdg : decode code pc = .ok (.ireturn, 1)) : W p l e room_1 s m #[Value.ref b] below meth c H [] 667068 7094901 (lw_Z below #[Value.ref b] s) (F0 m pc ls [.int 1]) := by
  intro T hT X
  obtain ⟨fs, hret, hrun, hended, hW, hframe⟩ := X.leave (v := some (.int 1)) (hlocks := hlocks) (fun h => by rw [hr] at h; cases h)
  have hmeth' : T.vm.method? m = some meth := X.method'
  refine ⟨T.setFrames fs, ?_, .returned (some (.int 1)), hrun, hended, rfl, ⟨_, rfl⟩, hW, hframe⟩
  jvm_step X.here [X.here.top, hx, hb, hdg, hmeth', hr, ret, narrow_b1]
  (try refine ⟨rfl, ?_⟩); (try refine ⟨rfl, ?_⟩)
  first | (intro acts; rw [hret _ acts rfl rfl rfl]) | rw [hret _ _ rfl rfl rfl]
  exact Steps.refl _
/-- what holds at the law's entry: the machine, the code, the tables' words (any of lw_tbl by 'hts w (by decide +kernel)'), the script of L ints xs at the cell b, what the Statement gives of the start (any of its parts by flat_of_before) -/
def lw_At (p : Program) (s : State) (m : MethodId) (meth : Method) (c : Code) (b L : Nat) (xs : Nat → Int32) : Prop :=
  p.tables.exec = Jvm.exec ∧ c.code = code ∧ meth.sig.returnType = ret ∧ c.maxLocals = 7 ∧ s.vm.findClass R_law = some m.cls ∧ (∀ w ∈ lw_tbl, w.before #[Value.ref b] s = true) ∧ va_X b L xs s s.heap ∧ b < s.heap.size ∧ meth.locks = false ∧ (Jvm.Cond.and given_1 narrow_1).before #[Value.ref b] s = true
section LL
variable {p : Program} {l : Launch} {e : Env} {s : State} {m : MethodId} {below : List Frame} {meth : Method} {c : Code} {D : va_G}
variable {h a1 a2 a3 a4 o g0 b1 b2 b3 b4 b5 b L : Nat} {cA cL : ClassId} {xs : Nat → Int32}
theorem lt_sub {i L : Nat} (hL : L ≤ 1536) (hi : i ≤ 1536) : (nI L - nI 3 < nI i) ↔ L < i + 3 := by
  rw [Int32.lt_iff_toInt_lt, pk_sub_toInt (by omega) (by omega), nI_toInt (by omega)]
  omega
set_option maxHeartbeats 4000000 in
set_option maxRecDepth 100000 in
theorem lw_loop (F : LFix p l s m c b L xs D cA cL h a1 a2 a3 a4 o g0 b1 b2 b3 b4 b5) (hr : meth.sig.returnType = ret) (hlocks : meth.locks = false) : ∀ (k i : Nat), k = L - i → i ≤ L → ∀ (n : Nat) (nb : Nat → Nat) (u : hU) (ft : Nat) (ed : Nat → Nat) (um : UM) (H : Heap) (locs : List Loc) (ls : Array Slot) (cells slots : Nat), cells ≤ 20 + i → slots ≤ 400 + 6 * i → LSt s D cA cL h a1 a2 a3 a4 o g0 b1 b2 b3 b4 b5 n nb u ft ed um H locs → lv_has ls 7 [(0, .ref b), (1, .ref h), (2, .ref g0), (3, .ref o), (4, .int (nI i))] → W p l e room_1 s m #[Value.ref b] below meth c H locs cells slots (lw_Z below #[Value.ref b] s) (F0 m 23 ls []) := by
  intro k
  induction k using Nat.strongRecOn with
  | _ k ih =>
    intro i hk hiL n nb u ft ed um H locs ls cells slots hc hs T hl
    have hx := F.hx
    have hb := F.hb
    have hL := F.hL
    refine lv_iload hx hb dL_law_23 (lv_at hl 4 rfl) ?_
    refine lv_aload_n hx hb dL_law_25 rfl (lv_at hl 0 rfl) ?_
    refine va_slen hx hb F.hX F.hbl (fun h9 => absurd F.hbl (Nat.not_lt.mpr h9)) T.S dL_law_26 ?_
    refine lv_iconst (v := nI 3) hx hb dL_law_27 (by decide) ?_
    refine lv_isub hx hb dL_law_28 ?_
    refine lv_icmp_gt (tgt := 828) hx hb dL_law_29 rfl (fun h9 => ?_) (fun h9 => ?_)
    · refine lv_iconst (v := 1) hx hb dL_law_828 (by decide) ?_
      refine va_forget T.S.2.2 ?_
      refine W.widen (k := 667068) (n := 7094901) (by omega) (by omega) ?_
      exact lw_ret hx hb hr hlocks dL_law_829
    · have h8 : ¬ L < i + 3 := fun h7 => h9 ((lt_sub hL (by omega)).mpr h7)
      refine lv_aload_n hx hb dL_law_32 rfl (lv_at hl 0 rfl) ?_
      refine lv_iload hx hb dL_law_33 (lv_at hl 4 rfl) ?_
      refine lw_sld (i := i) F T.S rfl (by omega) dL_law_35 ?_
      refine lv_bipush (v := 31) hx hb dL_law_36 (by decide) ?_
      refine lv_iand hx hb dL_law_38 ?_
      obtain ⟨j, hj, ej⟩ := pk_andE (xs i) (m := 31) 5 (by decide)
      rw [ej]
      refine lw_disp F T (by omega) (by omega) (by omega) ?_ hl hj
      intro n nb u ft ed um H locs ls T hl
      refine lv_iinc (k := 4) hx hb dL_law_822 hl rfl (nI_add i 3) (by decide) (lv' := [(4, .int (nI (i + 3))), (0, .ref b), (1, .ref h), (2, .ref g0), (3, .ref o)]) rfl (fun ls hl => ?_)
      refine lv_goto (tgt := 23) hx hb dL_law_825 rfl ?_
      have hl := lv_sub hl (l' := [(0, .ref b), (1, .ref h), (2, .ref g0), (3, .ref o), (4, .int (nI (i + 3)))]) [1, 2, 3, 4, 0] rfl
      exact ih (L - (i + 3)) (by omega) (i + 3) rfl (by omega) n nb u ft ed um H locs ls (cells + 1) (slots + 6) (by omega) (by omega) T hl
end LL
