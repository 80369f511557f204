/-! The law's helpers: which cells are whose; calls of methods with a table. -/
def xA (h a1 a2 a3 a4 : Nat) : Nat → Prop := fun q => q = h ∨ q = a1 ∨ q = a2 ∨ q = a3 ∨ q = a4
def mA (g0 b1 b2 b3 b4 b5 : Nat) : Nat → Prop := fun q => q = g0 ∨ q = b1 ∨ q = b2 ∨ q = b3 ∨ q = b4 ∨ q = b5
theorem nd_idx : ∀ {l : List Nat}, l.Nodup → ∀ {i j a : Nat}, l[i]? = some a → l[j]? = some a → i = j := by
  intro l
  induction l with
  | nil => intro _ i j a h; simp at h
  | cons x t ih =>
    intro hn i j a hi hj
    rw [List.nodup_cons] at hn
    cases i with
    | zero =>
      cases j with
      | zero => rfl
      | succ j =>
        rw [List.getElem?_cons_zero] at hi
        rw [List.getElem?_cons_succ] at hj
        cases hi
        exact absurd (List.mem_of_getElem? hj) hn.1
    | succ i =>
      cases j with
      | zero =>
        rw [List.getElem?_cons_zero] at hj
        rw [List.getElem?_cons_succ] at hi
        cases hj
        exact absurd (List.mem_of_getElem? hi) hn.1
      | succ j =>
        rw [List.getElem?_cons_succ] at hi hj
        rw [ih hn.2 hi hj]
theorem nd_inj : ∀ {l : List Nat}, (∀ (i j a : Nat), l[i]? = some a → l[j]? = some a → i = j) → l.Nodup := by
  intro l
  induction l with
  | nil => intro _; exact List.nodup_nil
  | cons x t ih =>
    intro h
    rw [List.nodup_cons]
    refine ⟨fun hm => ?_, ih fun i j a hi hj => ?_⟩
    · obtain ⟨j, hj⟩ := List.getElem?_of_mem hm
      have h1 := h 0 (j + 1) x List.getElem?_cons_zero (by rw [List.getElem?_cons_succ]; exact hj)
      omega
    · have h1 := h (i + 1) (j + 1) a (by rw [List.getElem?_cons_succ]; exact hi) (by rw [List.getElem?_cons_succ]; exact hj)
      omega
theorem vd_of {A : Nat → Prop} {ws : va_W} (hn : (ws.map (fun q => q.1)).Nodup) (hA : ∀ a, a ∈ ws.map (fun q => q.1) → A a) : va_D A ws := by
  refine ⟨fun i j p q hi hj e => ?_, fun k q hk => hA _ (List.mem_map_of_mem (List.mem_of_getElem? hk))⟩
  refine nd_idx hn (a := p.1) ?_ ?_
  · rw [List.getElem?_map, hi]; rfl
  · rw [List.getElem?_map, hj, e]; rfl
theorem nd_of {A : Nat → Prop} {ws : va_W} (h : va_D A ws) : (ws.map (fun q => q.1)).Nodup := by
  apply nd_inj
  intro i j a hi hj
  rw [List.getElem?_map] at hi hj
  cases h1 : ws[i]? with
  | none => rw [h1] at hi; cases hi
  | some p =>
    cases h2 : ws[j]? with
    | none => rw [h2] at hj; cases hj
    | some q =>
      rw [h1] at hi
      rw [h2] at hj
      cases hi
      exact h.1 i j p q h1 h2 (Option.some.inj hj).symm
theorem vp_kept {D : va_G} {cl : List vw_C} {ws : va_W} {H H1 : Heap} {A1 : Nat → Prop} (hP : va_P D cl ws H) (hk : ∀ q : Nat, q < H.size → ¬ A1 q → H1[q]? = H[q]?) (ha : ∀ a, a ∈ ws.map (fun q => q.1) → ¬ A1 a) : va_P D cl ws H1 :=
  hP.kept fun k q hk9 => hk q.1 (hP k q hk9).lt (ha _ (List.mem_map_of_mem (List.mem_of_getElem? hk9)))
theorem nc_warm {C T : String} {s U : State} (hW : s.WarmedH U.vm) (h : va_Nc C T s) : va_Nc C T U := by
  obtain ⟨c, t, h1, h2, h3⟩ := h
  exact ⟨c, t, by rw [hW.alike.findClass]; exact h1, by rw [hW.alike.findClass]; exact h2, by rw [hW.alike.assignable]; exact h3⟩
section HB
variable {p : Program} {l : Launch} {e : Env} {R : Room} {s : State} {m : MethodId} {args : Array Value} {below : List Frame} {meth : Method} {c : Code} {H : Heap} {locs : List Loc} {cells slots : Nat} {Q : State → Prop}
variable {cc : ByteArray} {pc : Nat} {ls : Array Slot} {rest : List Value}
variable {D : va_G} {cl : List vw_C} {tys : List (ClassId × FieldType)} {ws : va_W} {A Ax : Nat → Prop}
def gL (D : va_G) (cl : List vw_C) (A Ax : Nat → Prop) (ws : va_W) (tys : List (ClassId × FieldType)) (U : State) : Prop := gW D cl A ws tys U ∧ txE Ax U U.heap ∧ va_Nc cIAE cIOB U ∧ va_Nc cISE cIOB U
theorem gL_blind {av : List Value} : FrameBlind (va_Pc av (gL D cl A Ax ws tys)) := fun a U g mk q => ⟨q.1, (gW_blind (av := av) a U g mk ⟨q.1, q.2.1⟩).2, txE.warm (s := U) (U := U.calling g mk a) (State.WarmedH.refl U) q.2.2.1, nc_warm (s := U) (U := U.calling g mk a) (State.WarmedH.refl U) q.2.2.2.1, nc_warm (s := U) (U := U.calling g mk a) (State.WarmedH.refl U) q.2.2.2.2⟩
theorem gL_at (hP : va_P D cl ws H) (hK : va_K D cl tys s) (hD : va_D A ws) (hE : txE Ax s H) (h1 : va_Nc cIAE cIOB s) (h2 : va_Nc cISE cIOB s) (av : List Value) : ∀ U : State, U.heap = H → s.WarmedH U.vm → va_Pc av (gL D cl A Ax ws tys) av.toArray U := fun U hU hW => ⟨rfl, (gW_at hP hK hD av U hU hW).2, by rw [hU]; exact txE.warm hW hE, nc_warm hW h1, nc_warm hW h2⟩
theorem tab_of {y : MethodName} {S : Spec} {code9 : ByteArray} {n9 : Nat} {ret9 : Option FieldType} {hh : List (Nat × Nat × Nat × Nat)} {s₁ : State} (B : BodyLoose p l y S code9 n9 ret9 e s m args below meth c s₁) (h : (Cond.codeWith y code9 n9 ret9 hh).before args s = true) : c.exceptionTable.toList.map tx_row = hh := by
  obtain ⟨m9, meth9, c9, hn9, hm9, hc9, -, -, ht9, -⟩ := Cond.codeWith_spec h
  cases B.named.symm.trans hn9
  cases B.method.symm.trans hm9
  cases (Stand.of_body B).code.symm.trans hc9
  exact ht9
theorem tx_S {H1 : Heap} {L : List Loc} {st t : State} (hS : va_S A s.heap H locs) (hA : ∀ q, Ax q → A q) (h1 : st.heap = H) (h2 : t.heap = H1) (hF : va_F Ax st t) (hL : ∀ x ∈ L, Ax x.base) : va_S A s.heap H1 (locs ++ L) := by
  obtain ⟨q1, q2, q3⟩ := hS
  obtain ⟨f1, f2⟩ := hF
  rw [h1, h2] at f1 f2
  refine ⟨by omega, fun q hq hn => ?_, fun x hx => ?_⟩
  · rw [f2 q (by omega) (fun h => hn (hA q h))]; exact q2 q hq hn
  · rcases List.mem_append.mp hx with hx | hx
    · exact q3 x hx
    · exact hA _ (hL x hx)
theorem tx_K {H1 : Heap} {st t : State} (h1 : st.heap = H) (h2 : t.heap = H1) (hF : va_F Ax st t) : ∀ q : Nat, q < H.size → ¬ Ax q → H1[q]? = H[q]? := fun q hq hn => by
  have := hF.2 q (by rw [h1]; exact hq) hn
  rw [h1, h2] at this
  exact this
variable {H0 : Heap} {a : Nat}
theorem nv_last (hx : p.tables.exec = Jvm.exec) (hb : c.code = cc) (hK : va_K D cl tys s) (hP : va_P D cl ws H) (hD : va_D A ws) (hS : va_S A H0 H locs) (q0 t0 : Nat) {cL : ClassId} {f : Nat → Int64} (ha : ws[q0]? = some (a, .inl (cL, 1, .inr (.inl f)))) (ht : tys[t0]? = some (cL, .long)) {x : Int64} (hd : decode cc pc = .ok (.lastore, 1))
    (kk : ∀ (H1 : Heap) (locs1 : List Loc), va_P D cl (ws.set q0 (a, .inl (cL, 1, .inr (.inl (vp_updL f 0 x))))) H1 → va_D A (ws.set q0 (a, .inl (cL, 1, .inr (.inl (vp_updL f 0 x))))) → va_S A H0 H1 locs1 → W p l e R s m args below meth c H1 locs1 cells slots Q (F0 m (pc + 1) ls rest)) : W p l e R s m args below meth c H locs cells slots Q (F0 m pc ls (.long x :: .int (nI 0) :: .ref a :: rest)) := by
  refine va_last hx hb hK hP hD hS q0 t0 ha ht (vp_in_nI (by omega) (by omega)) hd ?_
  rw [show (nI 0).toNatClampNeg = 0 from nI_clamp (by omega)]
  exact kk
theorem nv_lald (hx : p.tables.exec = Jvm.exec) (hb : c.code = cc) (hK : va_K D cl tys s) (hP : va_P D cl ws H) (q0 t0 : Nat) {cL : ClassId} {f : Nat → Int64} (ha : ws[q0]? = some (a, .inl (cL, 1, .inr (.inl f)))) (ht : tys[t0]? = some (cL, .long)) (hd : decode cc pc = .ok (.laload, 1))
    (kk : W p l e R s m args below meth c H locs cells slots Q (F0 m (pc + 1) ls (.long (f 0) :: rest))) : W p l e R s m args below meth c H locs cells slots Q (F0 m pc ls (.int (nI 0) :: .ref a :: rest)) := by
  refine va_lald hx hb hK hP q0 t0 ha ht (vp_in_nI (by omega) (by omega)) hd ?_
  rw [show (nI 0).toNatClampNeg = 0 from nI_clamp (by omega)]
  exact kk
/-- invokestatic of a method that has a table of its own -/
theorem nw_runS {y : MethodName} {bytes : ByteArray} {maxL nL mc ms n index : Nat} {ret : Option FieldType} {hh : List (Nat × Nat × Nat × Nat)} {ws9 : List Cond} {rm : Room} {Pc : Array Value → State → Prop} {Qc : Array Value → State → Outcome → State → Prop} {free : Addr → Prop} {Ts : List Cond} {own : String} {As : List Value} {g : JFrame}
    (S : CallFix p m c cc nL s args Ts own) (hM : Met l y ws9 rm Pc Qc mc ms free) (hG : GoodIn Ts ws9) (hcw : Cond.codeWith y bytes maxL ret hh ∈ ws9) (hrc : rm.cells = mc) (hrs : rm.slots = ms) (hl : (Cond.methodLink own index y).before args s = true) (hstt : (Cond.static y).before args s = true) (hini : (Cond.initialized y.cls).before args s = true)
    (hy : y.cls ≠ "java/lang/invoke/MethodHandle" ∧ y.cls ≠ "java/lang/invoke/VarHandle" ∧ (parseMethodDescriptor y.desc).map (fun d => d.parameters.length) = some n) (hR : rm.frames + 1 ≤ R.frames ∧ 8 + (maxL + 11) + rm.locals ≤ R.locals) (hp : PreS s H Pc As)
    (hg : g.method = m) (hn : As.length = n) (hsize : g.locals.size = nL) (hstack : g.stack = As.reverse ++ rest) (hW : 2 * g.monitorRoom + (rest.map fun v => v.category).sum ≤ 8) (hdg : decode cc g.pc = .ok (.invokestatic index, 3)) (hf : cells + mc ≤ R.cells ∧ slots + ms ≤ R.slots) :
    va_Run p l e R s m args below meth c H locs cells slots mc ms g rest (Qc As.toArray) free := by
  obtain ⟨hx, hb, hml, ho, hts⟩ := S
  have hcode : (Cond.codeWith y bytes maxL ret hh).before args s = true := hts _ (hG _ hcw).1
  have hK : Back l R p e below s args y 3 8 (PreOf R mc ms Pc) (PostOf Qc mc ms free) := va_backW hM hp.1 hrc hrs hR.1 hR.2 (pay_in hts hG) hcw (fun a' U hW9 => word_at hW9 (Or.inl (by first | rfl | simp [Cond.onTables, Cond.keeps, Cond.steady])) hini)
  intro T hT X
  obtain ⟨mk, methM, cM, hnamed, hmethM, -, -, -, -, -, -, hsigM⟩ := Cond.codeWith_spec hcode
  have hstatic : methM.isStatic = true := Cond.static_spec hnamed hmethM hstt
  obtain ⟨kP, hkP, -⟩ := className_of_methodNamed hnamed
  have hinitP : kP.init = .initialized := Cond.initialized_spec (findClass_of_methodNamed hnamed) hkP hini
  have hlen : As.length = methM.sig.parameters.length := by
    have h2 := hy.2.2
    rw [hsigM] at h2
    rw [hn]
    exact (Option.some.inj h2).symm
  obtain ⟨vm₁, X₁, hstep₁⟩ := X.invokestatic hx ho hl hnamed hmethM hstatic hkP hinitP ⟨hy.1, hy.2.1⟩ (g := g) hg (argsL := As) (rest := rest) hlen hstack (by rw [hb]; exact hdg)
  obtain ⟨v, B, X', hpost, hsteps⟩ := hK m meth c ⟨T.setVm vm₁, locs, cells, slots⟩ { g with stack := rest } (.invokestatic index) mk As.toArray X₁ hg (hsize.trans hml.symm) (by rw [hb]; exact hdg) hW (X₁.named hnamed) ⟨hf.1, hf.2, hp.2 (T.setVm vm₁) hT X₁.warmed⟩
  obtain ⟨U', l2, c2, s2⟩ := B
  obtain ⟨g', mk', t, L, e1, e2, hq, h1, hL, h2, h3⟩ := hpost
  dsimp only [Pt.U, Pt.locs, Pt.cells, Pt.slots] at X' e1 e2 h1 h2 h3 hsteps
  subst h1; subst h2; subst h3
  exact ⟨v, (T.setVm vm₁).calling g' mk' As.toArray, t, U', L, hT, X', hL, e1, e2, hq, fun tg hg9 => hstep₁ _ fun acts => by rw [doInvoke_state]; exact hsteps.trans hg9⟩
end HB
theorem gCW {y : MethodName} {bytes : ByteArray} {maxL : Nat} {ret : Option FieldType} {hh : List (Nat × Nat × Nat × Nat)} (h5 : Cond.codeWith y bytes maxL ret hh ∈ bw) : GoodIn bw (Cond.codeWith y bytes maxL ret hh :: bw) := by
  intro w hw
  have hm : w ∈ bw := by
    rcases List.mem_cons.mp hw with rfl | hw
    · exact h5
    · exact hw
  exact ⟨hm, good_of_word (List.mem_filter.mp hm).2⟩
