/-! Methods that throw: which end a call comes to is told ahead of it, so a contract either returns (Met) or throws (MetT). -/
section TXA
/-- the end of a method that throws: an object of the class E, nothing old changed but the slots L -/
def tx_End (E : String) (st : State) (o : Outcome) (t : State) (mc ms : Nat) (free : Addr → Prop) : Prop :=
  ∃ (q : Addr) (ce : Cell) (L : List Loc), o = .threw q ∧ t.heap[q]? = some ce ∧ ce.vm = .none ∧ st.vm.findClass E = some ce.cls ∧ st.WarmedH t.vm ∧ st.sameButNew ({ t with vm := st.vm } : State) L mc ms ∧ ∀ x ∈ L, free x.base
def MetT (l : Launch) (y : MethodName) (ws : List Cond) (rm : Room) (Pc : Array Value → State → Prop) (E : String) (B : State → State → Prop) (mc ms : Nat) (free : Addr → Prop) : Prop :=
  MetFree l y (headSpec ws rm) Pc (fun _ _ _ _ _ => True) (fun _ st o t => tx_End E st o t mc ms free ∧ B st t)
def tx_Z (below : List Frame) (E : String) (B : State → State → Prop) (s : State) (mc ms : Nat) (free : Addr → Prop) : State → Prop := fun t =>
  ∃ o, t.status = .running ∧ Ended t below o ∧ tx_End E s o t mc ms free ∧ B s t
theorem tx_ofW {l : Launch} {y : MethodName} {ws ws' : List Cond} {rm : Room} {Pc : Array Value → State → Prop} {E : String} {B : State → State → Prop} {mc ms : Nat} {free : Addr → Prop} {cc : ByteArray} {maxL : Nat} {ret : Option FieldType}
    (hy : plainName y.cls = true) (hw : ws = Cond.code y cc maxL ret :: ws')
    (body : ∀ p e s m args below meth c s₁, BodyLoose p l y (headSpec ws rm) cc maxL ret e s m args below meth c s₁ → c.maxLocals = maxL → Pc args s →
      W p l e (headSpec ws rm).room s m args below meth c s.heap [] 0 0 (tx_Z below E B s mc ms free) (entryFrame m args maxL)) : MetT l y ws rm Pc E B mc ms free := by
  refine MetFree.of_bodyS (code := cc) (maxLocals := maxL) (ret := ret) hy ?_ ?_
  · intro args s m h hn
    obtain ⟨meth, c, h1, h2, h3, h4, h5, h6, -, -⟩ := Cond.code_spec hn (atoms_spec (ws := ws) h _ (by rw [hw]; exact List.mem_cons_self))
    exact ⟨meth, c, h1, h2, h3, h4, h5, h6⟩
  · intro p e s m args below meth c s₁ B9 hml hP _
    have hh0 : s₁.heap = s.heap := by rw [B9.state]; rfl
    obtain ⟨t, a1, o, b1, b2, b3⟩ := body p e s m args below meth c s₁ B9 hml hP s₁ hh0 (Stand.of_body B9)
    exact ⟨t, o, a1, b1, b2, b3⟩
theorem tx_none {c : Code} (h : c.exceptionTable.isEmpty = true) (pc : Nat) : ∀ x ∈ c.exceptionTable.toList, covers x pc = false := by
  intro x hx
  have e : c.exceptionTable = #[] := by simpa using h
  rw [e] at hx
  simp at hx
end TXA
section TXB
variable {p : Program} {l : Launch} {e : Env} {R : Room} {s : State} {m : MethodId} {args : Array Value} {below : List Frame} {meth : Method} {c : Code} {H : Heap} {locs : List Loc} {cells slots : Nat} {Q : State → Prop}
variable {Ts ws : List Cond} {cc bytes : ByteArray} {nL maxL index n mc ms : Nat} {own C E : String} {y : MethodName} {ret : Option FieldType} {rm : Room} {Pc : Array Value → State → Prop} {B : State → State → Prop} {free : Addr → Prop}
variable {b : Addr} {As rest : List Value} {g : JFrame}
/-- a call of a method that throws, from the machine's own invocation on -/
theorem tx_back {U : State} {Ls : List Loc} {c0 s0 : Nat} (hM : MetT l y ws rm Pc E B mc ms free) (hbl : FrameBlind Pc) (cb : CallB R s args own index y bytes maxL ret ws rm mc ms n)
    (X : Stand p l e R s m args below meth c U Ls c0 s0) (hg : g.method = m) (hsize : g.locals.size = c.maxLocals) {ig : Instr} {len : Nat} (hdg : decode c.code g.pc = .ok (ig, len))
    (hW : 2 * g.monitorRoom + (g.stack.map fun v => v.category).sum ≤ 8) {mk : MethodId} {a : Array Value} (hn : U.methodNamed? y = some mk) (h4 : c0 + mc ≤ R.cells) (h5 : s0 + ms ≤ R.slots) (hp : Pc a U) :
    ∃ (q : Addr) (ce : Cell) (st t T' : State) (L : List Loc), st.heap = U.heap ∧ T'.heap = t.heap ∧ T'.vm = t.vm ∧ Stand p l e R s m args below meth c T' (Ls ++ L) (c0 + mc) (s0 + ms) ∧ (∀ x ∈ L, free x.base) ∧
      t.heap[q]? = some ce ∧ ce.vm = .none ∧ U.vm.findClass E = some ce.cls ∧ B st t ∧
      Steps p.tables e below (doInvoke e (U.setTop g) [] mk a).1 ((T'.setTop g).pushFrame (.throwing q)) := by
  obtain ⟨hrc, hrs, hfr, hlo, hws, hcw, -, hini, -⟩ := cb
  have h1 : (headSpec ws rm).pre.before a U = true := atoms_intro fun w hw => hws w hw _ _ X.warmed
  have h2 : (Cond.code y bytes maxL ret).before a U = true := hws _ hcw _ _ X.warmed
  have h3 : (Cond.initialized y.cls).before a U = true := word_at X.warmed (Or.inl (by first | rfl | simp [Cond.onTables, Cond.keeps, Cond.steady])) hini
  obtain ⟨methY, cY, hmY, hcY, -, hlY, -, -, -, -⟩ := Cond.code_spec hn h2
  obtain ⟨kY, hkY, -⟩ := className_of_methodNamed hn
  have hinitY : kY.init = .initialized := Cond.initialized_spec (findClass_of_methodNamed hn) hkY h3
  have h : At U g.method c below := by rw [hg]; exact X.here
  have happ : (headSpec ws rm).appliesLoose y e.platform (U.calling g mk a) = true :=
    Spec.appliesLoose_calling (g := g) h hdg hn hkY hinitY
      (X.room_calling (g := g) (R' := (headSpec ws rm).room) hsize hmY hcY hfr (by rw [hlY]; show _ + _ + rm.locals ≤ _; omega) (by show c0 + rm.cells ≤ _; rw [hrc]; exact h4) (by show s0 + rm.slots ≤ _; rw [hrs]; exact h5)) h1
  obtain ⟨mid, hmid⟩ := h.above
  have hfr9 : (U.setTop g).frames = (.java g :: mid) ++ below := by rw [State.frames_setTop' g h.top, hmid]; rfl
  obtain ⟨o, s₂, hsteps, -, hend, hq⟩ := Steps.callFree hM p X.admits X.cas X.clock (acts := []) hfr9 happ (hbl _ _ _ _ hp) trivial
  rw [State.frames_setTop' g h.top] at hend
  obtain ⟨⟨q, ce, L, rfl, hce, hvm, hcl, hW₂, hsm, hL⟩, hB⟩ := hq
  obtain ⟨e2, q2, q3, q4, q5, q6⟩ := id hsm
  have hf₂ : s₂.frames = .throwing q :: .java g :: U.frames.tail := hend
  have hW' : U.WarmedH s₂.vm := hW₂
  have e3 : s₂ = ({ (U.calling g mk a).setFrames s₂.frames with heap := s₂.heap, slotsUsed := s₂.slotsUsed } : State).setVm s₂.vm := by
    have : s₂ = ({ s₂ with vm := (U.calling g mk a).vm } : State).setVm s₂.vm := rfl
    rw [show ({ s₂ with vm := (U.calling g mk a).vm } : State) = _ from e2] at this
    exact this
  obtain ⟨g₀, hg0⟩ := Option.isSome_iff_exists.mp h.top
  obtain ⟨r, hr⟩ := State.topJava?_eq_some.mp hg0
  have hs₂ : s₂ = ((({ U with heap := s₂.heap, slotsUsed := s₂.slotsUsed } : State).setVm s₂.vm).setTop g).pushFrame (.throwing q) := by
    have hr' : (({ U with heap := s₂.heap, slotsUsed := s₂.slotsUsed } : State).setVm s₂.vm).frames = .java g₀ :: r := hr
    refine e3.trans ?_
    rw [hf₂, State.calling_eq h.top, State.setFrames_setFrames, State.pushFrame, State.frames_setTop _ hr', State.setTop_of_frames _ hr', State.setFrames_setFrames, hr]
    rfl
  have hsame : U.sameButNew ({ U with heap := s₂.heap, slotsUsed := s₂.slotsUsed } : State) L mc ms := by
    refine ⟨?_, q2, q3, q4, q5, q6⟩
    obtain ⟨t, ht, -⟩ := State.frames_cons hr
    show ({ U with heap := s₂.heap, slotsUsed := s₂.slotsUsed } : State) = { U.setFrames U.frames with heap := s₂.heap, slotsUsed := s₂.slotsUsed }
    rw [State.setFrames_self ht]
  subst hg
  refine ⟨q, ce, (U.setTop g).pushFrame (.invoking mk a), s₂, ({ U with heap := s₂.heap, slotsUsed := s₂.slotsUsed } : State).setVm s₂.vm, L, rfl, rfl, rfl,
    ⟨X.admits, X.cas, X.clock, X.frames, X.room, X.hears, X.method, X.code, (X.here.setHeapUsed s₂.heap s₂.slotsUsed).setVm hW'.alike, X.tail, State.WarmedH.trans X.warmed hW', X.limits, X.bytes, X.same.trans (hsame.setVm s.vm)⟩,
    hL, hce, hvm, hcl, hB, ?_⟩
  rw [← hs₂]
  exact hsteps
/-- .. by invokevirtual -/
theorem tx_callV {T : State} (X : Stand p l e R s m args below meth c T locs cells slots) (S : CallFix p m c cc nL s args Ts own) (hM : MetT l y ws rm Pc E B mc ms free) (cw : CallW R s args own C index y bytes maxL ret ws rm mc ms n) (hp : PreV s T.heap C b Pc As)
    (hg : g.method = m) (hn : As.length = n) (hsize : g.locals.size = nL) (hstack : g.stack = As.reverse ++ .ref b :: rest) (hW : 2 * g.monitorRoom + (rest.map fun v => v.category).sum ≤ 8) (hdg : decode cc g.pc = .ok (.invokevirtual index, 3)) (hf : cells + mc ≤ R.cells ∧ slots + ms ≤ R.slots) :
    ∃ (q : Addr) (ce : Cell) (st t T' : State) (L : List Loc), st.heap = T.heap ∧ T'.heap = t.heap ∧ T'.vm = t.vm ∧ Stand p l e R s m args below meth c T' (locs ++ L) (cells + mc) (slots + ms) ∧ (∀ x ∈ L, free x.base) ∧
      t.heap[q]? = some ce ∧ ce.vm = .none ∧ s.vm.findClass E = some ce.cls ∧ B st t ∧
      Steps p.tables e below (T.setTop g) ((T'.setTop { g with stack := rest }).pushFrame (.throwing q)) := by
  obtain ⟨hx, hb, hml, ho, -⟩ := S
  have cb := cw.1
  obtain ⟨⟨-, -, -, -, -, -, hcode, -, hy, hlen, hl⟩, hin, hse⟩ := cw
  obtain ⟨hbl, ⟨cellB, hcB, hoB, hclB⟩, hPc⟩ := hp
  obtain ⟨mk, methM, hnamed, hmethM, hstM, habM⟩ := Cond.instanceMethod_spec hin
  obtain ⟨methM', cM, hmethM', -, -, -, -, -, -, hsigM⟩ := Cond.code_spec hnamed hcode
  cases hmethM.symm.trans hmethM'
  obtain ⟨c2, r2, m2, q1, q2, q3, q4, kP, hkP, hkPi⟩ := Cond.selects_spec hse
  cases hclB.symm.trans q1
  cases (State.methodFound?_of_named hnamed hy).symm.trans q2
  cases hnamed.symm.trans q3
  have hselP : selectMethod e.platform s.vm cellB.cls mk = .method mk := by rw [Launch.admits_selectMethod X.admits]; exact q4
  obtain ⟨vm₁, X₁, hstep₁⟩ := X.invokevirtual hx ho hl hnamed hmethM hstM hkP hkPi hy (a := b) (cell := cellB) hcB
    (fun z h => by rw [h] at hoB; cases hoB) hselP hmethM habM hkP hkPi (g := g) hg (argsL := As) (rest := rest) (hn.trans (hlen _ hsigM)) hstack (by rw [hb]; exact hdg)
  obtain ⟨q, ce, st, t, T', L, h1, h2, h3, h4, h5, h6, h7, h8, h9, h10⟩ := tx_back (g := { g with stack := rest }) (a := (Value.ref b :: As).toArray) hM hbl cb X₁ hg (hsize.trans hml.symm) (by rw [hb]; exact hdg) hW (X₁.named hnamed) hf.1 hf.2 (hPc (T.setVm vm₁) rfl X₁.warmed)
  exact ⟨q, ce, st, t, T', L, h1, h2, h3, h4, h5, h6, h7, by rw [← X₁.warmed.alike.findClass]; exact h8, h9, hstep₁ _ fun acts => by rw [doInvoke_state]; exact h10⟩
variable {pc : Nat} {ls : Array Slot} {st0 : List Value} {E' : String} {B' : State → State → Prop} {free' : Addr → Prop}
/-- the callee throws, and the caller has no table: it throws too -/
theorem tx_pass (S : CallFix p m c cc nL s args Ts own) (hM : MetT l y ws rm Pc E B mc ms free) (cw : CallW R s args own C index y bytes maxL ret ws rm mc ms n) (hp : PreV s H C b Pc As)
    (hn : As.length = n) (hsize : ls.size = nL) (hstack : st0 = As.reverse ++ .ref b :: rest) (hW : (rest.map fun v => v.category).sum ≤ 8) (hdg : decode cc pc = .ok (.invokevirtual index, 3)) (hf : cells + mc ≤ R.cells ∧ slots + ms ≤ R.slots)
    (hno : c.exceptionTable.isEmpty = true) (hlocks : meth.locks = false) (hB : ∀ st t t' : State, st.heap = H → t'.heap = t.heap → s.vm.Alike t'.vm → t'.vm = t.vm → B st t → B' s t') (hfr : ∀ q, free q → free' q) (hl : ∀ x ∈ locs, free' x.base) :
    W p l e R s m args below meth c H locs cells slots (tx_Z below E B' s (cells + mc) (slots + ms) free') (F0 m pc ls st0) := by
  intro T hT X
  subst hT
  obtain ⟨q, ce, st, t, T', L, h1, h2, h3, X', h5, h6, h7, h8, h9, h10⟩ := tx_callV (g := F0 m pc ls st0) (rest := rest) X S hM cw hp rfl hn hsize hstack (by simpa [JFrame.monitorRoom] using hW) hdg hf
  obtain ⟨w1, w2, w3, w4, w5⟩ := X'.leaveThrown q (g := F0 m pc ls rest) rfl rfl rfl (tx_none hno pc) hlocks
  refine ⟨T'.setFrames (.throwing q :: below), h10.trans w1, .threw q, w2, w3, ⟨q, ce, locs ++ L, rfl, ?_, h7, h8, w4, w5, ?_⟩, ?_⟩
  · show T'.heap[q]? = some ce
    rw [h2]; exact h6
  · intro x hx
    rcases List.mem_append.mp hx with hx | hx
    · exact hl x hx
    · exact hfr _ (h5 x hx)
  · exact hB st t _ h1 h2 w4.alike h3 h9
end TXB
section TXC
variable {e : Env} {s : State} {f : JFrame} {a : Addr}
/-- the first row of a table that covers the pc, its class linked: the object is of it, or it isn't -/
theorem tx_goY {Q : Handler → Pre} {E : CtlPost} {d : Bool} {acts : List Action} {x : ExceptionTableEntry} {t : List ExceptionTableEntry} {c : ClassId} {cell : Cell} (hx : covers x f.pc = true) (h0 : x.catchType ≠ 0)
    (hl : s.vm.ClassLinks e.platform f.method.cls x.catchType c) (hcell : s.heap[a]? = some cell) (hobj : ∀ k, cell.vm ≠ .statics k) (hk : ∃ k, s.vm.classes[cell.cls]? = some k) (hc : ∃ k, s.vm.classes[c]? = some k) (hfit : s.vm.assignable cell.cls c = true) :
    wp (findHandler.go f a (x :: t)) Q E e d acts s ↔ Q (.found x.handlerPc) d acts (s.setVm (s.vm.noted f.method.cls x.catchType (.cls c))) := by
  simp only [covers] at hx
  obtain ⟨ha, ht⟩ := (resolveClass_links e.toSetting hl).op (op := VmOp.resolveClass f.method.cls x.catchType) rfl
  have hal : s.vm.Alike (s.vm.noted f.method.cls x.catchType (.cls c)) := (Vm.Alike.refl s.vm).noted _ _ _
  obtain ⟨k1, hk1⟩ := hk
  obtain ⟨k2, hk2⟩ := hc
  obtain ⟨k1', hk1', -⟩ := hal.2.2 _ _ hk1
  obtain ⟨k2', hk2', -⟩ := hal.2.2 _ _ hk2
  have hfit' : (s.vm.noted f.method.cls x.catchType (.cls c)).assignable cell.cls c = true := by rw [hal.assignable]; exact hfit
  simp [findHandler.go, hx, h0, ha, ht, hcell, hobj, hk1', hk2', hfit', VmOp.dirties, VmOp.acts]
theorem tx_goN {Q : Handler → Pre} {E : CtlPost} {d : Bool} {acts : List Action} {x : ExceptionTableEntry} {t : List ExceptionTableEntry} {c : ClassId} {cell : Cell} (hx : covers x f.pc = true) (h0 : x.catchType ≠ 0)
    (hl : s.vm.ClassLinks e.platform f.method.cls x.catchType c) (hcell : s.heap[a]? = some cell) (hobj : ∀ k, cell.vm ≠ .statics k) (hk : ∃ k, s.vm.classes[cell.cls]? = some k) (hc : ∃ k, s.vm.classes[c]? = some k) (hfit : s.vm.assignable cell.cls c = false) :
    wp (findHandler.go f a (x :: t)) Q E e d acts s ↔ wp (findHandler.go f a t) Q E e d acts (s.setVm (s.vm.noted f.method.cls x.catchType (.cls c))) := by
  simp only [covers] at hx
  obtain ⟨ha, ht⟩ := (resolveClass_links e.toSetting hl).op (op := VmOp.resolveClass f.method.cls x.catchType) rfl
  have hal : s.vm.Alike (s.vm.noted f.method.cls x.catchType (.cls c)) := (Vm.Alike.refl s.vm).noted _ _ _
  obtain ⟨k1, hk1⟩ := hk
  obtain ⟨k2, hk2⟩ := hc
  obtain ⟨k1', hk1', -⟩ := hal.2.2 _ _ hk1
  obtain ⟨k2', hk2', -⟩ := hal.2.2 _ _ hk2
  have hfit' : (s.vm.noted f.method.cls x.catchType (.cls c)).assignable cell.cls c = false := by rw [hal.assignable]; exact hfit
  simp [findHandler.go, hx, h0, ha, ht, hcell, hobj, hk1', hk2', hfit', VmOp.dirties, VmOp.acts]
/-- the search ends at the handler pc, the tables a little warmer -/
def tx_To (e : Env) (s : State) (f : JFrame) (a : Addr) (pc : Nat) (vm' : Vm) : Prop :=
  ∀ (Q : Handler → Pre) (E : CtlPost) (d : Bool) (acts : List Action), wp (findHandler f a) Q E e d acts s ↔ Q (.found pc) d acts (s.setVm vm')
theorem tx_step {r : List Frame} {pc : Nat} {vm' : Vm} (h : tx_To e s f a pc vm') :
    (stepThrowing e s a (.java f :: r)).Is ((s.setVm vm').setFrames (.java { f with pc := pc, stack := [.ref a] } :: r)) [] := by
  simp only [stepThrowing, searchFrame, vmDo]
  generalize hr : Sem.go _ e false [] s = res
  obtain ⟨as, rfl, ha⟩ := Sem.eq_ok_of hr (a := Handler.found pc) (s' := s.setVm vm') (acts' := []) (by simp [h _ _ _ _])
  exact ⟨rfl, ha⟩
theorem tx_caught {tb : Tables} {target : State} {g : JFrame} {c : Code} {below : List Frame} (h : At s g.method c below) {pc : Nat} {vm' : Vm}
    (hfind : tx_To e ((s.setTop g).pushFrame (.throwing a)) g a pc vm') (hrest : Steps tb e below ((s.setVm vm').setTop { g with pc := pc, stack := [.ref a] }) target) :
    Steps tb e below ((s.setTop g).pushFrame (.throwing a)) target := by
  obtain ⟨hgo, hw⟩ := h.throwing a
  refine Steps.head hgo hw ?_
  rw [stepThread_throwing (frames_entered h.top _), (tx_step (s := (s.setTop g).pushFrame (.throwing a)) hfind).1]
  obtain ⟨g₀, hg⟩ := Option.isSome_iff_exists.mp h.top
  obtain ⟨r, hr⟩ := State.topJava?_eq_some.mp hg
  have hr' : (s.setVm vm').frames = .java g₀ :: r := hr
  have e1 : ∀ (u : State) (F G : List Frame), ((u.setFrames F).setVm vm').setFrames G = (u.setVm vm').setFrames G := fun u F G => by
    show ((u.setVm vm').setFrames F).setFrames G = _
    rw [State.setFrames_setFrames]
  rw [State.setTop_of_frames _ hr'] at hrest
  rw [hr, List.tail_cons, State.pushFrame, e1, State.setTop_of_frames _ hr, e1]
  exact hrest
end TXC
section TXD
variable {p : Program} {l : Launch} {e : Env} {R : Room} {s : State} {m : MethodId} {args : Array Value} {below : List Frame} {meth : Method} {c : Code} {H : Heap} {locs : List Loc} {cells slots : Nat} {Q : State → Prop}
/-- the frame stands as if its method had been called here -/
theorem tx_anew {T : State} (X : Stand p l e R s m args below meth c T locs cells slots) {R' : Room} (hf : R'.frames ≤ R.frames) (hl : R'.locals ≤ R.locals) (hc : cells + R'.cells ≤ R.cells) (hs : slots + R'.slots ≤ R.slots) :
    Stand p l e R' ((T.setVm s.vm).setFrames (.invoking m args :: below)) m args below meth c T [] 0 0 := by
  have htop : (T.setVm s.vm).topJava?.isSome := X.here.top
  obtain ⟨g₀, hg0⟩ := Option.isSome_iff_exists.mp htop
  obtain ⟨r, hr⟩ := State.topJava?_eq_some.mp hg0
  obtain ⟨th, hth, -⟩ := State.frames_cons hr
  have hF : ((T.setVm s.vm).setFrames (.invoking m args :: below)).frames = .invoking m args :: below := State.frames_setFrames _ (State.cur_lt_of_top htop)
  have e1 : e.platform.stackLimits ((T.setVm s.vm).setFrames (.invoking m args :: below)).me = e.platform.stackLimits s.me := by rw [State.stackLimits_setFrames]; exact X.limits
  have e2 : ((T.setVm s.vm).setFrames (.invoking m args :: below)).me.stackBytes = s.me.stackBytes := by rw [State.stackBytes_setFrames]; exact X.bytes
  have e3 : ((T.setVm s.vm).setFrames (.invoking m args :: below)).localsInUse = s.localsInUse := by
    rw [State.localsInUse_invoking hF (meth := meth) (c := c) X.method X.code, State.localsInUse_invoking X.frames X.method X.code]
  have hd : T.heap.toList.drop T.heap.size = [] := List.drop_eq_nil_of_le (Nat.le_of_eq Array.length_toList)
  refine ⟨X.admits, X.cas, X.clock, hF, ?_, X.hears, X.method, X.code, X.here, X.tail, X.warmed, X.limits.trans e1.symm, X.bytes.trans e2.symm, ?_, Nat.le_refl _, Nat.le_refl _, ?_, ?_, fun a c9 h9 => ⟨c9, h9, rfl, rfl, fun _ _ => rfl⟩⟩
  · have h := X.room
    have q1 := X.heapSize
    have q2 := X.used
    simp only [State.hasRoom, Bool.and_eq_true, decide_eq_true_eq] at h ⊢
    obtain ⟨⟨⟨⟨h1, h2, h3, h4, h5, h6⟩, h7⟩, h8⟩, h9⟩ := h
    rw [X.frames, List.length_cons] at h2 h3
    rw [hF, e3, e1, e2, List.length_cons]
    refine ⟨⟨⟨⟨by omega, by omega, by omega, by omega, by omega, h6⟩, ?_⟩, ?_⟩, X.book⟩
    · show T.heap.size + R'.cells ≤ e.platform.maxCells
      omega
    · show T.slotsUsed + R'.slots ≤ e.platform.maxSlots
      omega
  · show T.setVm s.vm = { ((T.setVm s.vm).setFrames (.invoking m args :: below)).setFrames (T.setVm s.vm).frames with heap := T.heap, slotsUsed := T.slotsUsed }
    rw [State.setFrames_setFrames, State.setFrames_self hth]
    rfl
  · show T.slotsUsed = T.slotsUsed + ((T.heap.toList.drop T.heap.size).map (·.slots.size)).sum
    rw [hd]; rfl
  · show ((T.heap.toList.drop T.heap.size).map (·.slots.size)).sum ≤ 0
    rw [hd]; exact Nat.le_refl _
/-- 'throw new E("text")', where no row of a table covers it -/
theorem tx_throw {cc : ByteArray} {pc : Nat} {ls : Array Slot} {rest : List Value} (hx : p.tables.exec = Jvm.exec) (hb : c.code = cc) (hst : l.stackTraces = false) {own cls text : String} {names : List String} {ik is ic sa nL : Nat} {B : State → State → Prop} {free : Addr → Prop}
    (hown : s.vm.findClass own = some m.cls) (hcls : Bundle.fit cls = true) (hnames : ∀ n ∈ names, Bundle.fit n = true)
    (hat : ∀ s' : State, s'.vm = s.vm → s'.heap = H → ∀ w ∈ Bundle.ownAtoms own ic cls names, w.before args s' = true)
    (hlk : ∀ s' : State, s'.vm = s.vm → (Cond.classLink own ik cls).before args s' = true ∧ (Cond.initialized cls).before args s' = true) (hZ : vk_R own is text sa s)
    (hml : c.maxLocals = nL) (hsize : ls.size = nL) (hno : c.exceptionTable.isEmpty = true) (hlocks : meth.locks = false)
    (d0 : decode cc pc = .ok (.new ik, 3)) (d3 : decode cc (pc + 3) = .ok (.dup, 1)) (d4 : decode cc (pc + 4) = .ok (.ldc is, 2)) (d6 : decode cc (pc + 6) = .ok (.invokespecial ic, 3)) (d9 : decode cc (pc + 9) = .ok (.athrow, 1))
    (hfr : names.length + 3 < R.frames) (hlo : (rest.map fun v => v.category).sum + 1 + (13 * (names.length + 1) + 42) ≤ R.locals) (hc : cells + 1 ≤ R.cells) (hs : slots + 6 ≤ R.slots)
    (hB : ∀ t : State, s.vm.Alike t.vm → H.size ≤ t.heap.size → (∀ q : Nat, q < H.size → t.heap[q]? = H[q]?) → B s t) (hl : ∀ x ∈ locs, free x.base) :
    W p l e R s m args below meth c H locs cells slots (tx_Z below cls B s (cells + 1) (slots + 6) free) (F0 m pc ls rest) := by
  intro T hT X
  have X0 := tx_anew X (R' := { frames := R.frames, cells := 1, slots := 6, locals := R.locals }) (Nat.le_refl _) (Nat.le_refl _) hc hs
  have htr : e.platform.stackTraces = false := by rw [X.admits.platform]; exact hst
  generalize hs' : (T.setVm s.vm).setFrames (.invoking m args :: below) = s' at X0
  have hvm : s'.vm = s.vm := by rw [← hs']; rfl
  have hhp : s'.heap = T.heap := by rw [← hs']; rfl
  have hat' := hat s' hvm (by rw [hhp, hT])
  have hown' : s'.vm.findClass own = some m.cls := by rw [hvm]; exact hown
  have hZ' : vk_R own is text sa s' := vk_R.same hvm hZ
  have hins : (Cond.instantiable cls 6).before args s' = true := hat' _ (by simp [Bundle.ownAtoms])
  have K : W p l e { frames := R.frames, cells := 1, slots := 6, locals := R.locals } s' m args below meth c s'.heap [] 0 0 (fun U => ∃ (q : Addr) (ce : Cell), U.status = .running ∧ Ended U below (.threw q) ∧ U.heap[q]? = some ce ∧ ce.vm = .none ∧ s'.vm.findClass cls = some ce.cls ∧ s'.WarmedH U.vm ∧ s'.sameButNew ({ U with vm := s'.vm } : State) [] 1 6) (F0 m pc ls rest) := by
    refine W.newc hx hb hown' (hlk s' hvm).1 hins (hlk s' hvm).2 rfl d0 (Nat.le_refl _) (Nat.le_refl _) ?_
    intro cC kC h1 h2 h3 h4
    refine W.eq (g2 := F0 m (pc + 3) ls (.ref s'.heap.size :: rest)) rfl ?_
    refine lv_dup hx hb d3 rfl ?_
    refine va_ldcS hx hb hown' hZ' d4 ?_
    intro T2 hT2 X2
    have hcell : T2.heap[s'.heap.size]? = some (freshCell cC kC) := by
      rw [hT2, Array.getElem?_push_size]
    obtain ⟨U, hst9, hrun, hend, hW, hsame, ce, hce, hO⟩ := X2.ctorThrowS hx htr (own := own) (cls := cls) (names := names) (ic := ic) hown' hcls hnames hat' (fun x hx => nomatch hx) h1 h2 hcell (Nat.le_refl _) (msg := .ref sa) rfl
      (g := F0 m (pc + 6) ls (.ref sa :: .ref s'.heap.size :: .ref s'.heap.size :: rest)) rfl (hsize.trans hml.symm) rfl rfl (rest := rest) rfl (by rw [hb]; exact d6) (by rw [hb]; exact d9) (tx_none hno _) hfr
      (by
        have e0 : (F0 m (pc + 6) ls (.ref sa :: .ref s'.heap.size :: .ref s'.heap.size :: rest)).monitorRoom = 0 := rfl
        have e1 : ((Value.ref s'.heap.size :: rest).map fun v => v.category).sum = (rest.map fun v => v.category).sum + 1 := by simp [Value.category, Nat.add_comm]
        rw [e0, e1]
        show 2 * 0 + _ + _ ≤ R.locals
        omega) hlocks
    exact ⟨U, hst9, _, ce, hrun, hend, hce, hO.vm, hO.cls, hW, hsame⟩
  obtain ⟨U, hst1, q, ce, h1, h2, h3, h4, h5, h6, h7⟩ := K T hhp.symm X0
  have h8 : (T.setVm s.vm).sameButNew ({ U with vm := s.vm } : State) [] 1 6 := by
    obtain ⟨k1, k2, k3, k4, k5, k6⟩ := h7
    rw [hvm] at k1
    refine ⟨?_, by rw [hhp] at k2; exact k2, by rw [hhp] at k3; exact k3, ?_, ?_, ?_⟩
    · rw [← hs', State.setFrames_setFrames] at k1
      exact k1
    · rw [← hs'] at k4; exact k4
    · rw [← hs'] at k5; exact k5
    · rw [← hs'] at k6; exact k6
  have h9 := X.same.trans h8
  rw [List.append_nil] at h9
  have hW9 : s.WarmedH U.vm := by
    have := h6
    rw [← hs'] at this
    exact this
  refine ⟨U, hst1, .threw q, h1, h2, ⟨q, ce, locs, rfl, h3, h4, by rw [← hvm]; exact h5, hW9, h9, hl⟩, hB U hW9.alike ?_ ?_⟩
  · rw [← hT]; exact h8.2.1
  · intro q9 hq9
    rw [← hT] at hq9 ⊢
    have := h8.old_cell (Array.getElem?_eq_getElem hq9)
    rw [Array.getElem?_eq_getElem hq9]
    exact this
end TXD
section TXE
variable {p : Program} {l : Launch} {e : Env} {R : Room} {s : State} {m : MethodId} {args : Array Value} {below : List Frame} {meth : Method} {c : Code} {H : Heap} {locs : List Loc} {cells slots : Nat} {Q : State → Prop}
variable {Ts ws : List Cond} {cc bytes : ByteArray} {nL maxL index n mc ms : Nat} {own C E : String} {y : MethodName} {ret : Option FieldType} {rm : Room} {Pc : Array Value → State → Prop} {B : State → State → Prop} {free : Addr → Prop}
variable {b : Addr} {As rest st0 : List Value} {pc : Nat} {ls : Array Slot}
abbrev tx_row (h : ExceptionTableEntry) : Nat × Nat × Nat × Nat := (h.startPc, h.endPc, h.handlerPc, h.catchType)
/-- the table's first row catches -/
theorem tx_find1 {T : State} (X : Stand p l e R s m args below meth c T locs cells slots) (hown : s.vm.findClass own = some m.cls) {name : String} {q : Addr} {ce : Cell} {g : JFrame} (hg : g.method = m) {x : ExceptionTableEntry} {t : List ExceptionTableEntry}
    (htab : c.exceptionTable.toList = x :: t) (hcov : covers x g.pc = true) (h0 : x.catchType ≠ 0) (hlink : (Cond.classLink own x.catchType name).before args s = true) (hcast : (Cond.castable E name).before args s = true)
    (hcell : T.heap[q]? = some ce) (hv : ce.vm = .none) (hcl : s.vm.findClass E = some ce.cls) :
    ∃ vm', Stand p l e R s m args below meth c (T.setVm vm') locs cells slots ∧ Steps p.tables e below ((T.setTop g).pushFrame (.throwing q)) ((T.setVm vm').setTop { g with pc := x.handlerPc, stack := [.ref q] }) := by
  subst hg
  have hpl : e.platform.magicAccessors = ({} : Platform).magicAccessors := by rw [X.admits.platform]
  obtain ⟨c3, c4, hc3, hc4, hasg⟩ := Cond.castable_spec hcast
  cases Option.some.inj (hc3.symm.trans hcl)
  obtain ⟨c5, hc5, hlk⟩ := Cond.classLink_spec hown hlink e.platform hpl
  cases Option.some.inj (hc4.symm.trans hc5)
  obtain ⟨dk, _, _, kt, hd, _, _, _, _, hkt, _, hopen⟩ := hlk.here
  obtain ⟨kt', hkt', -⟩ := X.warmed.alike.2.2 _ _ hkt
  have hfit : T.vm.assignable ce.cls c4 = true := by rw [X.warmed.alike.assignable]; exact hasg
  refine ⟨_, X.noted (X.warmed.noted hd hopen (State.rightAt_cls hlk)), ?_⟩
  refine tx_caught (c := c) X.here (pc := x.handlerPc) (fun Q9 E9 d9 acts9 => ?_) (Steps.refl _)
  rw [W.findHandler_eq (s := (T.setTop g).pushFrame (.throwing q)) (f := g) (meth := meth) (code := c) X.method' X.code, htab]
  exact tx_goY hcov h0 (X.warmed.classLinks hlk) hcell (fun k h => by rw [hv] at h; cases h) (Vm.classAt_of_assignable hfit ⟨kt', hkt'⟩) ⟨kt', hkt'⟩ hfit
/-- its first row is of another class, its second catches -/
theorem tx_find2 {T : State} (X : Stand p l e R s m args below meth c T locs cells slots) (hown : s.vm.findClass own = some m.cls) {name nam1 : String} {q : Addr} {ce : Cell} {g : JFrame} (hg : g.method = m) {x z : ExceptionTableEntry} {t : List ExceptionTableEntry}
    (htab : c.exceptionTable.toList = z :: x :: t) (hcov1 : covers z g.pc = true) (h01 : z.catchType ≠ 0) (hlink1 : (Cond.classLink own z.catchType nam1).before args s = true) (hno : va_Nc E nam1 s)
    (hcov : covers x g.pc = true) (h0 : x.catchType ≠ 0) (hlink : (Cond.classLink own x.catchType name).before args s = true) (hcast : (Cond.castable E name).before args s = true)
    (hcell : T.heap[q]? = some ce) (hv : ce.vm = .none) (hcl : s.vm.findClass E = some ce.cls) :
    ∃ vm', Stand p l e R s m args below meth c (T.setVm vm') locs cells slots ∧ Steps p.tables e below ((T.setTop g).pushFrame (.throwing q)) ((T.setVm vm').setTop { g with pc := x.handlerPc, stack := [.ref q] }) := by
  subst hg
  have hpl : e.platform.magicAccessors = ({} : Platform).magicAccessors := by rw [X.admits.platform]
  obtain ⟨c3, c4, hc3, hc4, hasg⟩ := Cond.castable_spec hcast
  cases Option.some.inj (hc3.symm.trans hcl)
  obtain ⟨c5, hc5, hlk⟩ := Cond.classLink_spec hown hlink e.platform hpl
  cases Option.some.inj (hc4.symm.trans hc5)
  obtain ⟨c6, hc6, hlk1⟩ := Cond.classLink_spec hown hlink1 e.platform hpl
  obtain ⟨c7, c8, hc7, hc8, hna⟩ := hno
  cases Option.some.inj (hc7.symm.trans hcl)
  cases Option.some.inj (hc8.symm.trans hc6)
  obtain ⟨dk, _, _, kt, hd, _, _, _, _, hkt, _, hopen⟩ := hlk.here
  obtain ⟨dk1, _, _, kt1, hd1, _, _, _, _, hkt1, _, hopen1⟩ := hlk1.here
  have hW1 := X.warmed.noted hd1 hopen1 (State.rightAt_cls hlk1)
  have X1 := X.noted hW1
  obtain ⟨ka, hka, -⟩ := Vm.findClass_spec hcl
  obtain ⟨kt1', hkt1', -⟩ := X.warmed.alike.2.2 _ _ hkt1
  obtain ⟨ka', hka', -⟩ := X.warmed.alike.2.2 _ _ hka
  obtain ⟨kt', hkt', -⟩ := hW1.alike.2.2 _ _ hkt
  obtain ⟨ka2, hka2, -⟩ := hW1.alike.2.2 _ _ hka
  refine ⟨_, X1.noted (hW1.noted hd hopen (State.rightAt_cls hlk)), ?_⟩
  refine tx_caught (c := c) X.here (pc := x.handlerPc) (fun Q9 E9 d9 acts9 => ?_) (Steps.refl _)
  rw [W.findHandler_eq (s := (T.setTop g).pushFrame (.throwing q)) (f := g) (meth := meth) (code := c) X.method' X.code, htab,
    tx_goN (s := (T.setTop g).pushFrame (.throwing q)) hcov1 h01 (X.warmed.classLinks hlk1) hcell (fun k h => by rw [hv] at h; cases h) ⟨ka', hka'⟩ ⟨kt1', hkt1'⟩ (by show T.vm.assignable _ _ = false; rw [X.warmed.alike.assignable]; exact hna)]
  exact tx_goY hcov h0 (hW1.classLinks hlk) hcell (fun k h => by rw [hv] at h; cases h) ⟨ka2, hka2⟩ ⟨kt', hkt'⟩ (by show (T.vm.noted _ _ _).assignable _ _ = true; rw [hW1.alike.assignable]; exact hasg)
theorem tx_row1 {c : Code} {r : Nat × Nat × Nat × Nat} {t : List (Nat × Nat × Nat × Nat)} (h : c.exceptionTable.toList.map tx_row = r :: t) : ∃ x t', c.exceptionTable.toList = x :: t' ∧ tx_row x = r ∧ t'.map tx_row = t := by
  cases hl : c.exceptionTable.toList with
  | nil => rw [hl] at h; cases h
  | cons x t' =>
    rw [hl, List.map_cons] at h
    injection h with h1 h2
    exact ⟨x, t', rfl, h1, h2⟩
/-- a call whose callee throws: the first row of the caller's table catches it -/
theorem tx_catch1 (S : CallFix p m c cc nL s args Ts own) (hM : MetT l y ws rm Pc E B mc ms free) (cw : CallW R s args own C index y bytes maxL ret ws rm mc ms n) (hp : PreV s H C b Pc As)
    (hn : As.length = n) (hsize : ls.size = nL) (hstack : st0 = As.reverse ++ .ref b :: rest) (hW : (rest.map fun v => v.category).sum ≤ 8) (hdg : decode cc pc = .ok (.invokevirtual index, 3)) (hf : cells + mc ≤ R.cells ∧ slots + ms ≤ R.slots)
    {a1 b1 hp1 ct1 : Nat} {tl : List (Nat × Nat × Nat × Nat)} (htab : c.exceptionTable.toList.map tx_row = (a1, b1, hp1, ct1) :: tl) (hcov : (decide (a1 ≤ pc) && decide (pc < b1)) = true) (h0 : ct1 ≠ 0) {name : String} (hlink : (Cond.classLink own ct1 name).before args s = true) (hcast : (Cond.castable E name).before args s = true)
    (kk : ∀ (q : Addr) (st t : State) (H1 : Heap) (L : List Loc), st.heap = H → t.heap = H1 → s.vm.Alike t.vm → B st t → (∀ x ∈ L, free x.base) → W p l e R s m args below meth c H1 (locs ++ L) (cells + mc) (slots + ms) Q (F0 m hp1 ls [.ref q])) :
    W p l e R s m args below meth c H locs cells slots Q (F0 m pc ls st0) := by
  intro T hT X
  subst hT
  obtain ⟨q, ce, st, t, T', L, h1, h2, h3, X', h5, h6, h7, h8, h9, h10⟩ := tx_callV (g := F0 m pc ls st0) (rest := rest) X S hM cw hp rfl hn hsize hstack (by simpa [JFrame.monitorRoom] using hW) hdg hf
  obtain ⟨x, t', e1, e2, -⟩ := tx_row1 htab
  injection e2 with e21 e22
  injection e22 with e22 e23
  injection e23 with e23 e24
  obtain ⟨vm', X2, st2⟩ := tx_find1 (name := name) (E := E) (q := q) (ce := ce) (g := F0 m pc ls rest) X' S.2.2.2.1 rfl e1 (by show (decide (x.startPc ≤ pc) && decide (pc < x.endPc)) = true; rw [e21, e22]; exact hcov) (by rw [e24]; exact h0) (by rw [e24]; exact hlink) hcast (by rw [h2]; exact h6) h7 h8
  obtain ⟨t9, a9, b9⟩ := kk q st t t.heap L h1 rfl (by rw [← h3]; exact X'.warmed.alike) h9 h5 (T'.setVm vm') h2 X2
  rw [← e23] at a9
  exact ⟨t9, (h10.trans st2).trans a9, b9⟩
theorem tx_catch2 (S : CallFix p m c cc nL s args Ts own) (hM : MetT l y ws rm Pc E B mc ms free) (cw : CallW R s args own C index y bytes maxL ret ws rm mc ms n) (hp : PreV s H C b Pc As)
    (hn : As.length = n) (hsize : ls.size = nL) (hstack : st0 = As.reverse ++ .ref b :: rest) (hW : (rest.map fun v => v.category).sum ≤ 8) (hdg : decode cc pc = .ok (.invokevirtual index, 3)) (hf : cells + mc ≤ R.cells ∧ slots + ms ≤ R.slots)
    {a1 b1 hp1 ct1 a2 b2 hp2 ct2 : Nat} {tl : List (Nat × Nat × Nat × Nat)} (htab : c.exceptionTable.toList.map tx_row = (a1, b1, hp1, ct1) :: (a2, b2, hp2, ct2) :: tl) (hcov1 : (decide (a1 ≤ pc) && decide (pc < b1)) = true) (h01 : ct1 ≠ 0) {nam1 : String} (hlink1 : (Cond.classLink own ct1 nam1).before args s = true) (hno : va_Nc E nam1 s)
    (hcov : (decide (a2 ≤ pc) && decide (pc < b2)) = true) (h0 : ct2 ≠ 0) {name : String} (hlink : (Cond.classLink own ct2 name).before args s = true) (hcast : (Cond.castable E name).before args s = true)
    (kk : ∀ (q : Addr) (st t : State) (H1 : Heap) (L : List Loc), st.heap = H → t.heap = H1 → s.vm.Alike t.vm → B st t → (∀ x ∈ L, free x.base) → W p l e R s m args below meth c H1 (locs ++ L) (cells + mc) (slots + ms) Q (F0 m hp2 ls [.ref q])) :
    W p l e R s m args below meth c H locs cells slots Q (F0 m pc ls st0) := by
  intro T hT X
  subst hT
  obtain ⟨q, ce, st, t, T', L, h1, h2, h3, X', h5, h6, h7, h8, h9, h10⟩ := tx_callV (g := F0 m pc ls st0) (rest := rest) X S hM cw hp rfl hn hsize hstack (by simpa [JFrame.monitorRoom] using hW) hdg hf
  obtain ⟨z, t', e1, e2, e3⟩ := tx_row1 htab
  cases t' with
  | nil => cases e3
  | cons x t'' =>
    rw [List.map_cons] at e3
    injection e3 with e3 e4
    injection e2 with e21 e22
    injection e22 with e22 e23
    injection e23 with e23 e24
    injection e3 with f21 f22
    injection f22 with f22 f23
    injection f23 with f23 f24
    obtain ⟨vm', X2, st2⟩ := tx_find2 (name := name) (nam1 := nam1) (E := E) (q := q) (ce := ce) (g := F0 m pc ls rest) X' S.2.2.2.1 rfl e1 (by show (decide (z.startPc ≤ pc) && decide (pc < z.endPc)) = true; rw [e21, e22]; exact hcov1) (by rw [e24]; exact h01) (by rw [e24]; exact hlink1) hno
      (by show (decide (x.startPc ≤ pc) && decide (pc < x.endPc)) = true; rw [f21, f22]; exact hcov) (by rw [f24]; exact h0) (by rw [f24]; exact hlink) hcast (by rw [h2]; exact h6) h7 h8
    obtain ⟨t9, a9, b9⟩ := kk q st t t.heap L h1 rfl (by rw [← h3]; exact X'.warmed.alike) h9 h5 (T'.setVm vm') h2 X2
    rw [← f23] at a9
    exact ⟨t9, (h10.trans st2).trans a9, b9⟩
end TXE
