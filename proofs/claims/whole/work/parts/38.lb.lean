/-! The law's walk: what stays, what changes, its calls. -/
abbrev UM : Type := (Nat → Nat) × (Nat → Nat) × (Nat → Nat) × (Nat → Nat)
def xo (h a1 a2 a3 a4 o : Nat) : Nat → Prop := fun q => xA h a1 a2 a3 a4 q ∨ q = o
def LFix (p : Program) (l : Launch) (s : State) (m : MethodId) (c : Code) (b L : Nat) (xs : Nat → Int32) (D : va_G) (cA cL : ClassId) (h a1 a2 a3 a4 o g0 b1 b2 b3 b4 b5 : Nat) : Prop :=
  (p.tables.exec = Jvm.exec) ∧
  (c.code = cL_law) ∧
  (c.maxLocals = 7) ∧
  (s.vm.findClass "PairedEndsLaw" = some m.cls) ∧
  (∀ w ∈ bw, w.before #[Value.ref b] s = true) ∧
  (va_X b L xs s s.heap) ∧
  (b < s.heap.size) ∧
  (L ≤ 1536) ∧
  (va_K D vwCl [(cA, .int), (cL, .long)] s) ∧
  (∀ w ∈ tn, va_Nw w s) ∧
  (txQ Bundle.tN "UNASSIGNED_STACK" Bundle.steD s s.heap) ∧
  (txQ Bundle.tN "SUPPRESSED_SENTINEL" Bundle.listD s s.heap) ∧
  (txS s) ∧
  (va_Nc cIAE cIOB s) ∧
  (va_Nc cISE cIOB s) ∧
  (l.stackTraces = false) ∧
  ([h, a1, a2, a3, a4, o, g0, b1, b2, b3, b4, b5].Nodup) ∧
  (∀ q ∈ [h, a1, a2, a3, a4, o, g0, b1, b2, b3, b4, b5], s.heap.size ≤ q)
theorem LFix.hx {p : Program} {l : Launch} {s : State} {m : MethodId} {c : Code} {b L : Nat} {xs : Nat → Int32} {D : va_G} {cA cL : ClassId} {h a1 a2 a3 a4 o g0 b1 b2 b3 b4 b5 : Nat} (F : LFix p l s m c b L xs D cA cL h a1 a2 a3 a4 o g0 b1 b2 b3 b4 b5) : p.tables.exec = Jvm.exec := F.1
theorem LFix.hb {p : Program} {l : Launch} {s : State} {m : MethodId} {c : Code} {b L : Nat} {xs : Nat → Int32} {D : va_G} {cA cL : ClassId} {h a1 a2 a3 a4 o g0 b1 b2 b3 b4 b5 : Nat} (F : LFix p l s m c b L xs D cA cL h a1 a2 a3 a4 o g0 b1 b2 b3 b4 b5) : c.code = cL_law := F.2.1
theorem LFix.hml {p : Program} {l : Launch} {s : State} {m : MethodId} {c : Code} {b L : Nat} {xs : Nat → Int32} {D : va_G} {cA cL : ClassId} {h a1 a2 a3 a4 o g0 b1 b2 b3 b4 b5 : Nat} (F : LFix p l s m c b L xs D cA cL h a1 a2 a3 a4 o g0 b1 b2 b3 b4 b5) : c.maxLocals = 7 := F.2.2.1
theorem LFix.hown {p : Program} {l : Launch} {s : State} {m : MethodId} {c : Code} {b L : Nat} {xs : Nat → Int32} {D : va_G} {cA cL : ClassId} {h a1 a2 a3 a4 o g0 b1 b2 b3 b4 b5 : Nat} (F : LFix p l s m c b L xs D cA cL h a1 a2 a3 a4 o g0 b1 b2 b3 b4 b5) : s.vm.findClass "PairedEndsLaw" = some m.cls := F.2.2.2.1
theorem LFix.hw {p : Program} {l : Launch} {s : State} {m : MethodId} {c : Code} {b L : Nat} {xs : Nat → Int32} {D : va_G} {cA cL : ClassId} {h a1 a2 a3 a4 o g0 b1 b2 b3 b4 b5 : Nat} (F : LFix p l s m c b L xs D cA cL h a1 a2 a3 a4 o g0 b1 b2 b3 b4 b5) : ∀ w ∈ bw, w.before #[Value.ref b] s = true := F.2.2.2.2.1
theorem LFix.hX {p : Program} {l : Launch} {s : State} {m : MethodId} {c : Code} {b L : Nat} {xs : Nat → Int32} {D : va_G} {cA cL : ClassId} {h a1 a2 a3 a4 o g0 b1 b2 b3 b4 b5 : Nat} (F : LFix p l s m c b L xs D cA cL h a1 a2 a3 a4 o g0 b1 b2 b3 b4 b5) : va_X b L xs s s.heap := F.2.2.2.2.2.1
theorem LFix.hbl {p : Program} {l : Launch} {s : State} {m : MethodId} {c : Code} {b L : Nat} {xs : Nat → Int32} {D : va_G} {cA cL : ClassId} {h a1 a2 a3 a4 o g0 b1 b2 b3 b4 b5 : Nat} (F : LFix p l s m c b L xs D cA cL h a1 a2 a3 a4 o g0 b1 b2 b3 b4 b5) : b < s.heap.size := F.2.2.2.2.2.2.1
theorem LFix.hL {p : Program} {l : Launch} {s : State} {m : MethodId} {c : Code} {b L : Nat} {xs : Nat → Int32} {D : va_G} {cA cL : ClassId} {h a1 a2 a3 a4 o g0 b1 b2 b3 b4 b5 : Nat} (F : LFix p l s m c b L xs D cA cL h a1 a2 a3 a4 o g0 b1 b2 b3 b4 b5) : L ≤ 1536 := F.2.2.2.2.2.2.2.1
theorem LFix.hK {p : Program} {l : Launch} {s : State} {m : MethodId} {c : Code} {b L : Nat} {xs : Nat → Int32} {D : va_G} {cA cL : ClassId} {h a1 a2 a3 a4 o g0 b1 b2 b3 b4 b5 : Nat} (F : LFix p l s m c b L xs D cA cL h a1 a2 a3 a4 o g0 b1 b2 b3 b4 b5) : va_K D vwCl [(cA, .int), (cL, .long)] s := F.2.2.2.2.2.2.2.2.1
theorem LFix.hn {p : Program} {l : Launch} {s : State} {m : MethodId} {c : Code} {b L : Nat} {xs : Nat → Int32} {D : va_G} {cA cL : ClassId} {h a1 a2 a3 a4 o g0 b1 b2 b3 b4 b5 : Nat} (F : LFix p l s m c b L xs D cA cL h a1 a2 a3 a4 o g0 b1 b2 b3 b4 b5) : ∀ w ∈ tn, va_Nw w s := F.2.2.2.2.2.2.2.2.2.1
theorem LFix.hq1 {p : Program} {l : Launch} {s : State} {m : MethodId} {c : Code} {b L : Nat} {xs : Nat → Int32} {D : va_G} {cA cL : ClassId} {h a1 a2 a3 a4 o g0 b1 b2 b3 b4 b5 : Nat} (F : LFix p l s m c b L xs D cA cL h a1 a2 a3 a4 o g0 b1 b2 b3 b4 b5) : txQ Bundle.tN "UNASSIGNED_STACK" Bundle.steD s s.heap := F.2.2.2.2.2.2.2.2.2.2.1
theorem LFix.hq2 {p : Program} {l : Launch} {s : State} {m : MethodId} {c : Code} {b L : Nat} {xs : Nat → Int32} {D : va_G} {cA cL : ClassId} {h a1 a2 a3 a4 o g0 b1 b2 b3 b4 b5 : Nat} (F : LFix p l s m c b L xs D cA cL h a1 a2 a3 a4 o g0 b1 b2 b3 b4 b5) : txQ Bundle.tN "SUPPRESSED_SENTINEL" Bundle.listD s s.heap := F.2.2.2.2.2.2.2.2.2.2.2.1
theorem LFix.hS {p : Program} {l : Launch} {s : State} {m : MethodId} {c : Code} {b L : Nat} {xs : Nat → Int32} {D : va_G} {cA cL : ClassId} {h a1 a2 a3 a4 o g0 b1 b2 b3 b4 b5 : Nat} (F : LFix p l s m c b L xs D cA cL h a1 a2 a3 a4 o g0 b1 b2 b3 b4 b5) : txS s := F.2.2.2.2.2.2.2.2.2.2.2.2.1
theorem LFix.hN1 {p : Program} {l : Launch} {s : State} {m : MethodId} {c : Code} {b L : Nat} {xs : Nat → Int32} {D : va_G} {cA cL : ClassId} {h a1 a2 a3 a4 o g0 b1 b2 b3 b4 b5 : Nat} (F : LFix p l s m c b L xs D cA cL h a1 a2 a3 a4 o g0 b1 b2 b3 b4 b5) : va_Nc cIAE cIOB s := F.2.2.2.2.2.2.2.2.2.2.2.2.2.1
theorem LFix.hN2 {p : Program} {l : Launch} {s : State} {m : MethodId} {c : Code} {b L : Nat} {xs : Nat → Int32} {D : va_G} {cA cL : ClassId} {h a1 a2 a3 a4 o g0 b1 b2 b3 b4 b5 : Nat} (F : LFix p l s m c b L xs D cA cL h a1 a2 a3 a4 o g0 b1 b2 b3 b4 b5) : va_Nc cISE cIOB s := F.2.2.2.2.2.2.2.2.2.2.2.2.2.2.1
theorem LFix.hst {p : Program} {l : Launch} {s : State} {m : MethodId} {c : Code} {b L : Nat} {xs : Nat → Int32} {D : va_G} {cA cL : ClassId} {h a1 a2 a3 a4 o g0 b1 b2 b3 b4 b5 : Nat} (F : LFix p l s m c b L xs D cA cL h a1 a2 a3 a4 o g0 b1 b2 b3 b4 b5) : l.stackTraces = false := F.2.2.2.2.2.2.2.2.2.2.2.2.2.2.2.1
theorem LFix.hnd {p : Program} {l : Launch} {s : State} {m : MethodId} {c : Code} {b L : Nat} {xs : Nat → Int32} {D : va_G} {cA cL : ClassId} {h a1 a2 a3 a4 o g0 b1 b2 b3 b4 b5 : Nat} (F : LFix p l s m c b L xs D cA cL h a1 a2 a3 a4 o g0 b1 b2 b3 b4 b5) : [h, a1, a2, a3, a4, o, g0, b1, b2, b3, b4, b5].Nodup := F.2.2.2.2.2.2.2.2.2.2.2.2.2.2.2.2.1
theorem LFix.hge {p : Program} {l : Launch} {s : State} {m : MethodId} {c : Code} {b L : Nat} {xs : Nat → Int32} {D : va_G} {cA cL : ClassId} {h a1 a2 a3 a4 o g0 b1 b2 b3 b4 b5 : Nat} (F : LFix p l s m c b L xs D cA cL h a1 a2 a3 a4 o g0 b1 b2 b3 b4 b5) : ∀ q ∈ [h, a1, a2, a3, a4, o, g0, b1, b2, b3, b4, b5], s.heap.size ≤ q := F.2.2.2.2.2.2.2.2.2.2.2.2.2.2.2.2.2
def LSt (s : State) (D : va_G) (cA cL : ClassId) (h a1 a2 a3 a4 o g0 b1 b2 b3 b4 b5 : Nat) (n : Nat) (nb : Nat → Nat) (u : hU) (ft : Nat) (ed : Nat → Nat) (um : UM) (H : Heap) (locs : List Loc) : Prop :=
  (Rel n nb ed) ∧
  (va_P D vwCl (hW9 h a1 a2 a3 a4 o cA cL n nb u) H) ∧
  (va_P D vwCl (mW9 g0 b1 b2 b3 b4 b5 cA n ft ed um) H) ∧
  (va_S (fun q => s.heap.size ≤ q) s.heap H locs)
theorem LSt.R {s : State} {D : va_G} {cA cL : ClassId} {h a1 a2 a3 a4 o g0 b1 b2 b3 b4 b5 : Nat} {n : Nat} {nb : Nat → Nat} {u : hU} {ft : Nat} {ed : Nat → Nat} {um : UM} {H : Heap} {locs : List Loc} (F : LSt s D cA cL h a1 a2 a3 a4 o g0 b1 b2 b3 b4 b5 n nb u ft ed um H locs) : Rel n nb ed := F.1
theorem LSt.P1 {s : State} {D : va_G} {cA cL : ClassId} {h a1 a2 a3 a4 o g0 b1 b2 b3 b4 b5 : Nat} {n : Nat} {nb : Nat → Nat} {u : hU} {ft : Nat} {ed : Nat → Nat} {um : UM} {H : Heap} {locs : List Loc} (F : LSt s D cA cL h a1 a2 a3 a4 o g0 b1 b2 b3 b4 b5 n nb u ft ed um H locs) : va_P D vwCl (hW9 h a1 a2 a3 a4 o cA cL n nb u) H := F.2.1
theorem LSt.P2 {s : State} {D : va_G} {cA cL : ClassId} {h a1 a2 a3 a4 o g0 b1 b2 b3 b4 b5 : Nat} {n : Nat} {nb : Nat → Nat} {u : hU} {ft : Nat} {ed : Nat → Nat} {um : UM} {H : Heap} {locs : List Loc} (F : LSt s D cA cL h a1 a2 a3 a4 o g0 b1 b2 b3 b4 b5 n nb u ft ed um H locs) : va_P D vwCl (mW9 g0 b1 b2 b3 b4 b5 cA n ft ed um) H := F.2.2.1
theorem LSt.S {s : State} {D : va_G} {cA cL : ClassId} {h a1 a2 a3 a4 o g0 b1 b2 b3 b4 b5 : Nat} {n : Nat} {nb : Nat → Nat} {u : hU} {ft : Nat} {ed : Nat → Nat} {um : UM} {H : Heap} {locs : List Loc} (F : LSt s D cA cL h a1 a2 a3 a4 o g0 b1 b2 b3 b4 b5 n nb u ft ed um H locs) : va_S (fun q => s.heap.size ≤ q) s.heap H locs := F.2.2.2
section LAW
variable {p : Program} {l : Launch} {e : Env} {R : Room} {s : State} {m : MethodId} {below : List Frame} {meth : Method} {c : Code} {Q : State → Prop} {cells slots : Nat} {D : va_G} {H : Heap} {locs : List Loc} {ls : Array Slot} {pc : Nat} {rest : List Value}
variable {h a1 a2 a3 a4 o g0 b1 b2 b3 b4 b5 b L : Nat} {cA cL : ClassId} {xs : Nat → Int32}
variable {n ft : Nat} {nb ed : Nat → Nat} {u : hU} {um : UM}
theorem LFix.Dh (F : LFix p l s m c b L xs D cA cL h a1 a2 a3 a4 o g0 b1 b2 b3 b4 b5) (n : Nat) (nb : Nat → Nat) (u : hU) : va_D (xo h a1 a2 a3 a4 o) (hW9 h a1 a2 a3 a4 o cA cL n nb u) := by
  refine vd_of ?_ fun a ha => ?_
  · have h1 : ([h, a1, a2, a3, a4, o] ++ [g0, b1, b2, b3, b4, b5]).Nodup := F.hnd
    exact (List.nodup_append.mp h1).1
  · have ha : a ∈ [h, a1, a2, a3, a4, o] := ha
    simp only [List.mem_cons, List.not_mem_nil, or_false] at ha
    rcases ha with ha | ha | ha | ha | ha | ha
    · exact Or.inl (Or.inl ha)
    · exact Or.inl (Or.inr (Or.inl ha))
    · exact Or.inl (Or.inr (Or.inr (Or.inl ha)))
    · exact Or.inl (Or.inr (Or.inr (Or.inr (Or.inl ha))))
    · exact Or.inl (Or.inr (Or.inr (Or.inr (Or.inr ha))))
    · exact Or.inr ha
theorem LFix.Dm (F : LFix p l s m c b L xs D cA cL h a1 a2 a3 a4 o g0 b1 b2 b3 b4 b5) (n ft : Nat) (ed : Nat → Nat) (u : UM) : va_D (mA g0 b1 b2 b3 b4 b5) (mW9 g0 b1 b2 b3 b4 b5 cA n ft ed u) := by
  refine vd_of ?_ fun a ha => ?_
  · have h1 : ([h, a1, a2, a3, a4, o] ++ [g0, b1, b2, b3, b4, b5]).Nodup := F.hnd
    exact (List.nodup_append.mp h1).2.1
  · have ha : a ∈ [g0, b1, b2, b3, b4, b5] := ha
    simp only [List.mem_cons, List.not_mem_nil, or_false] at ha
    exact ha
theorem xo_mem {q : Nat} (hq : xo h a1 a2 a3 a4 o q) : q ∈ [h, a1, a2, a3, a4, o] := by
  simp only [List.mem_cons, List.not_mem_nil, or_false]
  rcases hq with (hq | hq | hq | hq | hq) | hq
  · exact Or.inl hq
  · exact Or.inr (Or.inl hq)
  · exact Or.inr (Or.inr (Or.inl hq))
  · exact Or.inr (Or.inr (Or.inr (Or.inl hq)))
  · exact Or.inr (Or.inr (Or.inr (Or.inr (Or.inl hq))))
  · exact Or.inr (Or.inr (Or.inr (Or.inr (Or.inr hq))))
theorem mA_mem {q : Nat} (hq : mA g0 b1 b2 b3 b4 b5 q) : q ∈ [g0, b1, b2, b3, b4, b5] := by
  simp only [List.mem_cons, List.not_mem_nil, or_false]
  exact hq
theorem LFix.ox (F : LFix p l s m c b L xs D cA cL h a1 a2 a3 a4 o g0 b1 b2 b3 b4 b5) (q : Nat) (hq : xo h a1 a2 a3 a4 o q) : s.heap.size ≤ q := F.hge q (List.mem_append_left (as := [h, a1, a2, a3, a4, o]) [g0, b1, b2, b3, b4, b5] (xo_mem hq))
theorem LFix.om (F : LFix p l s m c b L xs D cA cL h a1 a2 a3 a4 o g0 b1 b2 b3 b4 b5) (q : Nat) (hq : mA g0 b1 b2 b3 b4 b5 q) : s.heap.size ≤ q := F.hge q (List.mem_append_right [h, a1, a2, a3, a4, o] (mA_mem hq))
theorem LFix.ap (F : LFix p l s m c b L xs D cA cL h a1 a2 a3 a4 o g0 b1 b2 b3 b4 b5) {q : Nat} (h1 : xo h a1 a2 a3 a4 o q) (h2 : mA g0 b1 b2 b3 b4 b5 q) : False := by
  have h3 : ([h, a1, a2, a3, a4, o] ++ [g0, b1, b2, b3, b4, b5]).Nodup := F.hnd
  exact (List.nodup_append.mp h3).2.2 q (xo_mem h1) q (mA_mem h2) rfl
theorem LFix.km (F : LFix p l s m c b L xs D cA cL h a1 a2 a3 a4 o g0 b1 b2 b3 b4 b5) {H1 : Heap} (hP : va_P D vwCl (mW9 g0 b1 b2 b3 b4 b5 cA n ft ed um) H) (hk : ∀ q : Nat, q < H.size → ¬ xo h a1 a2 a3 a4 o q → H1[q]? = H[q]?) : va_P D vwCl (mW9 g0 b1 b2 b3 b4 b5 cA n ft ed um) H1 :=
  vp_kept hP hk fun a ha h1 => F.ap h1 (by
    have ha : a ∈ [g0, b1, b2, b3, b4, b5] := ha
    simp only [List.mem_cons, List.not_mem_nil, or_false] at ha
    exact ha)
theorem LFix.kh (F : LFix p l s m c b L xs D cA cL h a1 a2 a3 a4 o g0 b1 b2 b3 b4 b5) {H1 : Heap} (hP : va_P D vwCl (hW9 h a1 a2 a3 a4 o cA cL n nb u) H) (hk : ∀ q : Nat, q < H.size → ¬ mA g0 b1 b2 b3 b4 b5 q → H1[q]? = H[q]?) : va_P D vwCl (hW9 h a1 a2 a3 a4 o cA cL n nb u) H1 :=
  vp_kept hP hk fun a ha h1 => by
    obtain ⟨q, hq, rfl⟩ := List.mem_map.mp ha
    obtain ⟨k, hk9⟩ := List.getElem?_of_mem hq
    exact F.ap ((F.Dh n nb u).2 k q hk9) h1
theorem LFix.E (F : LFix p l s m c b L xs D cA cL h a1 a2 a3 a4 o g0 b1 b2 b3 b4 b5) (hP : va_P D vwCl (hW9 h a1 a2 a3 a4 o cA cL n nb u) H) (hS : va_S (fun q => s.heap.size ≤ q) s.heap H locs) : txE (xA h a1 a2 a3 a4) s H := by
  have kp : ∀ (a : Nat) (cell : Cell), s.heap[a]? = some cell → cell.vm.isStatics = true → H[a]? = some cell := by
    intro a cell hc _
    have hlt := (Array.getElem?_eq_some_iff.mp hc).1
    rw [hS.2.1 a hlt (fun h9 => by omega)]
    exact hc
  refine ⟨F.hn, F.hq1.kept kp, F.hq2.kept kp, ?_, F.hS⟩
  intro q cell hq hc
  rcases hq with rfl | rfl | rfl | rfl | rfl
  · obtain ⟨q', h1, cell', g1, g2, g3, -⟩ := hP 0 _ rfl
    rw [g1] at hc
    cases hc
    rw [g3]; rfl
  all_goals
    first
    | (have g1 := hP 1 _ rfl; rw [show H[_]? = _ from g1] at hc; cases hc; rfl)
    | (have g1 := hP 2 _ rfl; rw [show H[_]? = _ from g1] at hc; cases hc; rfl)
    | (have g1 := hP 3 _ rfl; rw [show H[_]? = _ from g1] at hc; cases hc; rfl)
    | (have g1 := hP 4 _ rfl; rw [show H[_]? = _ from g1] at hc; cases hc; rfl)
theorem LFix.Km (F : LFix p l s m c b L xs D cA cL h a1 a2 a3 a4 o g0 b1 b2 b3 b4 b5) : va_K D vwCl [(cA, .int)] s := F.hK.sub [0] rfl
/-- a call of a helper -/
theorem lw_help {y : MethodName} {bytes : ByteArray} {maxL k9 index : Nat} {ret9 : Option FieldType} {hh : List (Nat × Nat × Nat × Nat)} {As : List Value} {post : Int32 → hU → Prop} {n1 : Nat} {nb1 : Nat → Nat} {st0 : List Value}
    (F : LFix p l s m c b L xs D cA cL h a1 a2 a3 a4 o g0 b1 b2 b3 b4 b5) (P1 : va_P D vwCl (hW9 h a1 a2 a3 a4 o cA cL n nb u) H) (P2 : va_P D vwCl (mW9 g0 b1 b2 b3 b4 b5 cA n ft ed um) H) (S : va_S (fun q => s.heap.size ≤ q) s.heap H locs)
    (hM : Met l y (Cond.codeWith y bytes maxL ret9 hh :: bw) (rmT 20) (va_Pc As (gL D vwCl (xo h a1 a2 a3 a4 o) (xA h a1 a2 a3 a4) (hW9 h a1 a2 a3 a4 o cA cL n nb u) [(cA, .int), (cL, .long)])) (va_Qi post (fun w => gW D vwCl (xo h a1 a2 a3 a4 o) (hW9 h a1 a2 a3 a4 o cA cL n1 nb1 w) [(cA, .int), (cL, .long)]) (xo h a1 a2 a3 a4 o)) 1 6 (xo h a1 a2 a3 a4 o))
    (hcw : Cond.codeWith y bytes maxL ret9 hh ∈ bw) (hl : Cond.methodLink "PairedEndsLaw" index y ∈ bw) (hst : Cond.static y ∈ bw) (hini : Cond.initialized y.cls ∈ bw) (hy : y.cls ≠ "java/lang/invoke/MethodHandle" ∧ y.cls ≠ "java/lang/invoke/VarHandle" ∧ (parseMethodDescriptor y.desc).map (fun d => d.parameters.length) = some k9)
    (hR : 21 ≤ R.frames ∧ 8 + (maxL + 11) + 800 ≤ R.locals) (hn9 : As.length = k9) (hsize : ls.size = 7) (hstack : st0 = As.reverse ++ rest) (hW : (rest.map fun v => v.category).sum ≤ 8) (hd : decode cL_law pc = .ok (.invokestatic index, 3)) (hf : cells + 1 ≤ R.cells ∧ slots + 6 ≤ R.slots)
    (kk : ∀ (r : Int32) (w : hU) (H1 : Heap) (locs1 : List Loc), post r w → va_P D vwCl (hW9 h a1 a2 a3 a4 o cA cL n1 nb1 w) H1 → va_P D vwCl (mW9 g0 b1 b2 b3 b4 b5 cA n ft ed um) H1 → va_S (fun q => s.heap.size ≤ q) s.heap H1 locs1 → W p l e R s m #[Value.ref b] below meth c H1 locs1 (cells + 1) (slots + 6) Q (F0 m (pc + 3) ls (.int r :: rest))) :
    W p l e R s m #[Value.ref b] below meth c H locs cells slots Q (F0 m pc ls st0) := by
  refine va_calli (nw_runS (As := As) (rest := rest) ⟨F.hx, F.hb, F.hml, F.hown, F.hw⟩ hM (gCW hcw) List.mem_cons_self rfl rfl (F.hw _ hl) (F.hw _ hst) (F.hw _ hini) hy ⟨hR.1, hR.2⟩ ⟨gL_blind, gL_at P1 F.hK (F.Dh n nb u) (F.E P1 S) F.hN1 F.hN2 _⟩ rfl hn9 hsize hstack (lv_room hW) hd hf) S (fun q _ h9 => F.ox q h9) (fun q h9 => F.ox q h9) (fun r9 w9 t9 H1 locs1 ht9 hvm9 hpost9 hB9 hz9 hk9 hS => ?_)
  obtain ⟨hPy, -, -⟩ := hB9
  rw [ht9] at hPy
  exact kk r9 w9 H1 locs1 hpost9 hPy (F.km P2 hk9) hS
/-- a call of the reference that answers an int -/
theorem lw_mod {y : MethodName} {bytes : ByteArray} {maxL k9 index lv9 : Nat} {ret9 : Option FieldType} {As : List Value} {S9 : Type} {post : Int32 → S9 → Prop} {B9 : S9 → State → Prop} {n0 n1 ft1 : Nat} {ed1 : Nat → Nat} {st0 : List Value} (wf : S9 → UM)
    (F : LFix p l s m c b L xs D cA cL h a1 a2 a3 a4 o g0 b1 b2 b3 b4 b5) (P1 : va_P D vwCl (hW9 h a1 a2 a3 a4 o cA cL n0 nb u) H) (P2 : va_P D vwCl (mW9 g0 b1 b2 b3 b4 b5 cA n ft ed um) H) (S : va_S (fun q => s.heap.size ≤ q) s.heap H locs)
    (hM : Met l y (Cond.code y bytes maxL ret9 :: bw) (rmL lv9) (va_Pc (.ref g0 :: As) (gW D vwCl (mA g0 b1 b2 b3 b4 b5) (mW9 g0 b1 b2 b3 b4 b5 cA n ft ed um) [(cA, .int)])) (va_Qi post B9 (mA g0 b1 b2 b3 b4 b5)) 0 0 (mA g0 b1 b2 b3 b4 b5))
    (hB : ∀ (w : S9) (t : State), B9 w t → gW D vwCl (mA g0 b1 b2 b3 b4 b5) (mW9 g0 b1 b2 b3 b4 b5 cA n1 ft1 ed1 (wf w)) [(cA, .int)] t)
    (cw : CallW R s #[Value.ref b] "PairedEndsLaw" RM index y bytes maxL ret9 (Cond.code y bytes maxL ret9 :: bw) (rmL lv9) 0 0 k9)
    (hn9 : As.length = k9) (hsize : ls.size = 7) (hstack : st0 = As.reverse ++ .ref g0 :: rest) (hW : (rest.map fun v => v.category).sum ≤ 8) (hd : decode cL_law pc = .ok (.invokevirtual index, 3)) (hf : cells ≤ R.cells ∧ slots ≤ R.slots)
    (kk : ∀ (r : Int32) (w : S9) (H1 : Heap) (locs1 : List Loc), post r w → va_P D vwCl (hW9 h a1 a2 a3 a4 o cA cL n0 nb u) H1 → va_P D vwCl (mW9 g0 b1 b2 b3 b4 b5 cA n1 ft1 ed1 (wf w)) H1 → va_S (fun q => s.heap.size ≤ q) s.heap H1 locs1 → W p l e R s m #[Value.ref b] below meth c H1 locs1 cells slots Q (F0 m (pc + 3) ls (.int r :: rest))) :
    W p l e R s m #[Value.ref b] below meth c H locs cells slots Q (F0 m pc ls st0) := by
  refine va_calli (va_runV (C := RM) (As := As) (rest := rest) ⟨F.hx, F.hb, F.hml, F.hown, F.hw⟩ hM cw ⟨gW_blind, va_recv (q0 := 0) (ci := 1) F.Km P2 rfl rfl, gW_at P2 F.Km (F.Dm n ft ed um) _⟩ rfl hn9 hsize hstack (lv_room hW) hd hf) S (fun q _ h9 => F.om q h9) (fun q h9 => F.om q h9) (fun r9 w9 t9 H1 locs1 ht9 hvm9 hpost9 hB9 hz9 hk9 hS => ?_)
  obtain ⟨hPy, -, -⟩ := hB w9 t9 hB9
  rw [ht9] at hPy
  exact kk r9 w9 H1 locs1 hpost9 (F.kh P1 hk9) hPy hS
/-- a call of the reference that answers nothing -/
theorem lw_modv {y : MethodName} {bytes : ByteArray} {maxL k9 index lv9 : Nat} {ret9 : Option FieldType} {As : List Value} {S9 : Type} {post : S9 → Prop} {B9 : S9 → State → Prop} {n0 n1 ft1 : Nat} {ed1 : Nat → Nat} {st0 : List Value} (wf : S9 → UM)
    (F : LFix p l s m c b L xs D cA cL h a1 a2 a3 a4 o g0 b1 b2 b3 b4 b5) (P1 : va_P D vwCl (hW9 h a1 a2 a3 a4 o cA cL n0 nb u) H) (P2 : va_P D vwCl (mW9 g0 b1 b2 b3 b4 b5 cA n ft ed um) H) (S : va_S (fun q => s.heap.size ≤ q) s.heap H locs)
    (hM : Met l y (Cond.code y bytes maxL ret9 :: bw) (rmL lv9) (va_Pc (.ref g0 :: As) (gW D vwCl (mA g0 b1 b2 b3 b4 b5) (mW9 g0 b1 b2 b3 b4 b5 cA n ft ed um) [(cA, .int)])) (va_Qv post B9 (mA g0 b1 b2 b3 b4 b5)) 0 0 (mA g0 b1 b2 b3 b4 b5))
    (hB : ∀ (w : S9) (t : State), B9 w t → gW D vwCl (mA g0 b1 b2 b3 b4 b5) (mW9 g0 b1 b2 b3 b4 b5 cA n1 ft1 ed1 (wf w)) [(cA, .int)] t)
    (cw : CallW R s #[Value.ref b] "PairedEndsLaw" RM index y bytes maxL ret9 (Cond.code y bytes maxL ret9 :: bw) (rmL lv9) 0 0 k9)
    (hn9 : As.length = k9) (hsize : ls.size = 7) (hstack : st0 = As.reverse ++ .ref g0 :: rest) (hW : (rest.map fun v => v.category).sum ≤ 8) (hd : decode cL_law pc = .ok (.invokevirtual index, 3)) (hf : cells ≤ R.cells ∧ slots ≤ R.slots)
    (kk : ∀ (w : S9) (H1 : Heap) (locs1 : List Loc), post w → va_P D vwCl (hW9 h a1 a2 a3 a4 o cA cL n0 nb u) H1 → va_P D vwCl (mW9 g0 b1 b2 b3 b4 b5 cA n1 ft1 ed1 (wf w)) H1 → va_S (fun q => s.heap.size ≤ q) s.heap H1 locs1 → W p l e R s m #[Value.ref b] below meth c H1 locs1 cells slots Q (F0 m (pc + 3) ls rest)) :
    W p l e R s m #[Value.ref b] below meth c H locs cells slots Q (F0 m pc ls st0) := by
  refine va_callv (va_runV (C := RM) (As := As) (rest := rest) ⟨F.hx, F.hb, F.hml, F.hown, F.hw⟩ hM cw ⟨gW_blind, va_recv (q0 := 0) (ci := 1) F.Km P2 rfl rfl, gW_at P2 F.Km (F.Dm n ft ed um) _⟩ rfl hn9 hsize hstack (lv_room hW) hd hf) S (fun q _ h9 => F.om q h9) (fun q h9 => F.om q h9) (fun w9 t9 H1 locs1 ht9 hvm9 hpost9 hB9 hz9 hk9 hS => ?_)
  obtain ⟨hPy, -, -⟩ := hB w9 t9 hB9
  rw [ht9] at hPy
  exact kk w9 H1 locs1 hpost9 (F.kh P1 hk9) hPy hS
/-- an int of the script -/
theorem lw_sld (F : LFix p l s m c b L xs D cA cL h a1 a2 a3 a4 o g0 b1 b2 b3 b4 b5) (S : va_S (fun q => s.heap.size ≤ q) s.heap H locs) {i : Nat} {z : Int32} (hz : xs i = z) (hi : i < L) (hd : decode cL_law pc = .ok (.iaload, 1))
    (kk : W p l e R s m #[Value.ref b] below meth c H locs cells slots Q (F0 m (pc + 1) ls (.int z :: rest))) : W p l e R s m #[Value.ref b] below meth c H locs cells slots Q (F0 m pc ls (.int (nI i) :: .ref b :: rest)) := by
  have hL := F.hL
  refine va_sld F.hx F.hb F.hX F.hbl (fun h9 => absurd F.hbl (Nat.not_lt.mpr h9)) S (vp_in_nI hi (by omega)) hd ?_
  rw [nI_clamp (by omega), hz]
  exact kk
def LK (p : Program) (l : Launch) (e : Env) (R : Room) (s : State) (m : MethodId) (below : List Frame) (meth : Method) (c : Code) (Q : State → Prop) (D : va_G) (cA cL : ClassId) (b h a1 a2 a3 a4 o g0 b1 b2 b3 b4 b5 i cells slots : Nat) : Prop :=
  ∀ (n : Nat) (nb : Nat → Nat) (u : hU) (ft : Nat) (ed : Nat → Nat) (um : UM) (H : Heap) (locs : List Loc) (ls : Array Slot), LSt s D cA cL h a1 a2 a3 a4 o g0 b1 b2 b3 b4 b5 n nb u ft ed um H locs → lv_has ls 7 [(0, .ref b), (1, .ref h), (2, .ref g0), (3, .ref o), (4, .int (nI i))] → W p l e R s m #[Value.ref b] below meth c H locs cells slots Q (F0 m 822 ls [])
theorem rel_e9 (hR : Rel n nb ed) : ∀ v j, v < n → j < v → (fun v j => ed (8 * v + j)) v j = if (nb v).testBit j = true then 1 else 0 := by
  intro v j hv hj
  obtain ⟨h1, h2, -, -, -, h6⟩ := hR
  have h9 := h6 v hv j
  have h8 := h2 (8 * v + j) (by omega)
  rw [h9]
  have hj8 : decide (j < 8) = true := decide_eq_true (by omega)
  rw [hj8, Bool.true_and]
  by_cases h7 : ed (8 * v + j) = 1
  · show ed (8 * v + j) = _
    rw [h7]; rfl
  · show ed (8 * v + j) = _
    rw [decide_eq_false h7]
    show _ = 0
    omega
theorem rel_bit (hR : Rel n nb ed) {v j : Nat} (hv : v < n) (hj : j < n) : (nb v).testBit j = decide (ed (8 * v + j) = 1) := by
  obtain ⟨h1, h2, -, -, -, h6⟩ := hR
  rw [h6 v hv j, decide_eq_true (show j < 8 by omega), Bool.true_and]
end LAW
