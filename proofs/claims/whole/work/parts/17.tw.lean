/-! Contracts of methods that throw, of methods that answer nothing. -/
section TXF
variable {p : Program} {l : Launch} {e : Env} {R : Room} {s : State} {m : MethodId} {args : Array Value} {below : List Frame} {meth : Method} {c : Code} {H : Heap} {locs : List Loc} {cells slots : Nat} {Q : State → Prop}
variable {cc : ByteArray} {pc : Nat} {ls : Array Slot} {rest : List Value}
variable {D : va_G} {cl : List vw_C} {tys : List (ClassId × FieldType)} {ws : va_W} {A : Nat → Prop}
def QcV : Array Value → State → Outcome → State → Prop := fun _ st o t => o = .returned none ∧ t.heap = st.heap
def RdV (l : Launch) (y : MethodName) (ws9 : List Cond) (rm : Room) (av : List Value) (B : State → Prop) : Prop := Met l y ws9 rm (va_Pc av B) QcV 0 0 (fun _ => False)
theorem nr_V0 {Ts ws9 : List Cond} {bytes : ByteArray} {nL maxL index n : Nat} {own C : String} {y : MethodName} {ret : Option FieldType} {rm : Room} {B : State → Prop} {b : Nat} {As st0 : List Value}
    (S : CallFix p m c cc nL s args Ts own) (hM : RdV l y ws9 rm (.ref b :: As) B) (cw : CallW R s args own C index y bytes maxL ret ws9 rm 0 0 n) (hbl : FrameBlind (va_Pc (.ref b :: As) B)) (hrecv : ∃ cell : Cell, H[b]? = some cell ∧ cell.vm.isStatics = false ∧ s.vm.findClass C = some cell.cls)
    (hpre : ∀ U : State, U.heap = H → s.WarmedH U.vm → va_Pc (.ref b :: As) B (Value.ref b :: As).toArray U) (hn : As.length = n) (hsize : ls.size = nL) (hstack : st0 = As.reverse ++ .ref b :: rest) (hW : (rest.map fun v => v.category).sum ≤ 8) (hdg : decode cc pc = .ok (.invokevirtual index, 3)) (hf : cells ≤ R.cells ∧ slots ≤ R.slots)
    (kk : W p l e R s m args below meth c H locs cells slots Q (F0 m (pc + 3) ls rest)) : W p l e R s m args below meth c H locs cells slots Q (F0 m pc ls st0) := by
  intro T hT X
  obtain ⟨v, st₀, t, T', L, h0, X', hL, e1, ⟨hv, hh⟩, st⟩ := W.runV (g := F0 m pc ls st0) (rest := rest) S hM cw ⟨hbl, hrecv, hpre⟩ rfl hn hsize hstack (lv_room hW) hdg hf T hT X
  cases hv
  obtain ⟨t2, a1, b1⟩ := kk T' (by rw [e1, hh, h0]) (Stand.forget X' (fun q h => (hL q h).elim))
  exact ⟨t2, st t2 a1, b1⟩
theorem nv_if_lt (hx : p.tables.exec = Jvm.exec) (hb : c.code = cc) {x : Nat} {off : Int} {tgt : Nat} (hd : decode cc pc = .ok (.ifCond .lt off, 3)) (ht : (pc : Int) + off = (tgt : Int)) (hx2 : x < 2 ^ 31) (kf : W p l e R s m args below meth c H locs cells slots Q (F0 m (pc + 3) ls rest)) : W p l e R s m args below meth c H locs cells slots Q (F0 m pc ls (.int (nI x) :: rest)) :=
  lv_if_lt hx hb hd ht (fun h => absurd h (nI_pos hx2)) (fun _ => kf)
theorem nv_if_ge (hx : p.tables.exec = Jvm.exec) (hb : c.code = cc) {x : Nat} {off : Int} {tgt : Nat} (hd : decode cc pc = .ok (.ifCond .ge off, 3)) (ht : (pc : Int) + off = (tgt : Int)) (hx2 : x < 2 ^ 31) (kt : W p l e R s m args below meth c H locs cells slots Q (F0 m tgt ls rest)) : W p l e R s m args below meth c H locs cells slots Q (F0 m pc ls (.int (nI x) :: rest)) :=
  lv_if_ge hx hb hd ht (fun _ => kt) (fun h => absurd (nI_pos' hx2) h)
def gE (D : va_G) (cl : List vw_C) (A : Nat → Prop) (ws : va_W) (tys : List (ClassId × FieldType)) (U : State) : Prop := gW D cl A ws tys U ∧ txE A U U.heap
theorem gE_blind {av : List Value} : FrameBlind (va_Pc av (gE D cl A ws tys)) := fun a U g mk q => ⟨q.1, (gW_blind (av := av) a U g mk ⟨q.1, q.2.1⟩).2, txE.warm (s := U) (U := U.calling g mk a) (State.WarmedH.refl U) q.2.2⟩
theorem gE_at (hP : va_P D cl ws H) (hK : va_K D cl tys s) (hD : va_D A ws) (hE : txE A s H) (av : List Value) : ∀ U : State, U.heap = H → s.WarmedH U.vm → va_Pc av (gE D cl A ws tys) av.toArray U := fun U hU hW => ⟨rfl, (gW_at hP hK hD av U hU hW).2, by rw [hU]; exact txE.warm hW hE⟩
theorem gW_mv {t t' : State} (h1 : t'.heap = t.heap) (h2 : t'.vm = t.vm) (h : gW D cl A ws tys t) : gW D cl A ws tys t' := ⟨by rw [h1]; exact h.1, va_K.moved (by rw [h2]; exact Vm.Alike.refl t.vm) h.2.1, h.2.2⟩
theorem txF {st t t' : State} (hS : va_S A s.heap H locs) (h1 : st.heap = H) (h2 : t'.heap = t.heap) (h : va_F A st t) : va_F A s t' := by
  obtain ⟨q1, q2, -⟩ := hS
  obtain ⟨f1, f2⟩ := h
  rw [h1] at f1 f2
  refine ⟨by rw [h2]; omega, fun q hq hA => ?_⟩
  rw [h2, f2 q (by omega) hA]
  exact q2 q hq hA
theorem txB {t : State} (hS : va_S A s.heap H locs) (hP : va_P D cl ws H) (hK : va_K D cl tys s) (hD : va_D A ws) (hal : s.vm.Alike t.vm) (hz : H.size ≤ t.heap.size) (hq : ∀ q : Nat, q < H.size → t.heap[q]? = H[q]?) : va_F A s t ∧ gW D cl A ws tys t := by
  obtain ⟨q1, q2, -⟩ := hS
  exact ⟨⟨by omega, fun q h hA => by rw [hq q (by omega)]; exact q2 q h hA⟩, hP.kept (fun k q hk => hq q.1 (hP k q hk).lt), va_K.moved hal hK, hD⟩
theorem txlk (hw : ∀ w ∈ bw, w.before args s = true) {ik : Nat} {cls : String} (m1 : Cond.classLink RX ik cls ∈ bw) (m2 : Cond.initialized cls ∈ bw) : ∀ s' : State, s'.vm = s.vm → (Cond.classLink RX ik cls).before args s' = true ∧ (Cond.initialized cls).before args s' = true := by
  intro s' hvm
  have hW : s.WarmedH s'.vm := by rw [hvm]; exact State.WarmedH.refl s
  exact ⟨word_at hW (good_of_word (List.mem_filter.mp m1).2) (hw _ m1), word_at hW (good_of_word (List.mem_filter.mp m2).2) (hw _ m2)⟩
def rmT (k : Nat) : Room := { frames := k, cells := 1, slots := 6, locals := 40 * k }
end TXF
