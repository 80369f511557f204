/-! What a throw asks of the start: two statics of Throwable, six texts, words that no call's list may hold. -/
abbrev cISE : String := "java/lang/IllegalStateException"
abbrev cIOB : String := "java/lang/IndexOutOfBoundsException"
abbrev cIAE : String := "java/lang/IllegalArgumentException"
abbrev nmE : List String := ["java/lang/RuntimeException", "java/lang/Exception"]
def txQ (C n d : String) (U : State) (H : Heap) : Prop := ∃ (c : ClassId) (k : Class) (i : Nat) (f : Field) (a : Nat) (cell : Cell) (v : Value), U.vm.findClass C = some c ∧ U.fieldFound? C n d = some (c, k, i, f) ∧ f.isStatic = true ∧ k.statics = some a ∧ H[a]? = some cell ∧ cell.vm.isStatics = true ∧ cell.cls = c ∧ f.slot < cell.slots.size ∧ k.staticTypes[f.slot]? = some f.type ∧ cell.slots[f.slot]? = some v ∧ v.isRef = true
theorem txQ.moved {C n d : String} {u U : State} {H : Heap} (hvm : u.vm.Alike U.vm) (h : txQ C n d u H) : txQ C n d U H := by
  obtain ⟨c, k, i, f, a, cell, v, h1, h2, h3, h4, h5, h6, h7, h8, h9, h10, h11⟩ := h
  obtain ⟨k', hi', he⟩ := State.fieldFound?_setVm hvm h2
  exact ⟨c, k', i, f, a, cell, v, by rw [hvm.findClass]; exact h1, hi', h3, by rw [he]; exact h4, h5, h6, h7, h8, by rw [he]; exact h9, h10, h11⟩
theorem txQ.kept {C n d : String} {U : State} {H H1 : Heap} (h : txQ C n d U H) (hq : ∀ (a : Nat) (cell : Cell), H[a]? = some cell → cell.vm.isStatics = true → H1[a]? = some cell) : txQ C n d U H1 := by
  obtain ⟨c, k, i, f, a, cell, v, h1, h2, h3, h4, h5, h6, h7, h8, h9, h10, h11⟩ := h
  exact ⟨c, k, i, f, a, cell, v, h1, h2, h3, h4, hq a cell h5 h6, h6, h7, h8, h9, h10, h11⟩
theorem txQ.word1 {C n d : String} {s : State} {args : Array Value} (h : txQ C n d s s.heap) : (Cond.laysStatic C n d).before args s = true := by
  obtain ⟨c, k, i, f, a, cell, v, h1, h2, h3, h4, h5, h6, h7, h8, h9, h10, h11⟩ := h
  show (Cond.laysStatic C n d).holds args s none s [] = true
  exact Cond.laysStatic_of h1 h2 h3 h4 h5 h6 h7 h8 h9
theorem txQ.word2 {C n d : String} {s : State} {args : Array Value} (h : txQ C n d s s.heap) : (Cond.isRef (.static C n d)).before args s = true := by
  obtain ⟨c, k, i, f, a, cell, v, h1, h2, h3, h4, h5, h6, h7, h8, h9, h10, h11⟩ := h
  have hv : (Term.static C n d).eval args s none [] s = some v := by
    simp [Term.eval, State.fieldNamed?, h2, h3, h4, h5, h6, h10]
  show (Cond.isRef (.static C n d)).holds args s none s [] = true
  cases v with
  | null => simp [Cond.holds, Cond.value, hv]
  | ref t => simp [Cond.holds, Cond.value, hv]
  | _ => cases h11
theorem txQ.of {args : Array Value} {s : State} {C n d : String} (hl : (Cond.laysStatic C n d).before args s = true) (h : (Cond.isRef (.static C n d)).before args s = true) : txQ C n d s s.heap := by
  obtain ⟨c, k, i, f, a, cell, h1, h2, h3, h4, h5, h6, h7, h8, h9⟩ := Cond.laysStatic_spec hl
  have he : (Term.static C n d).eval args s none [] s = cell.slots[f.slot]? := by
    simp [Term.eval, State.fieldNamed?, h2, h3, h4, h5, h6]
  have hs : cell.slots[f.slot]? = some cell.slots[f.slot] := Array.getElem?_eq_getElem h8
  rw [hs] at he
  refine ⟨c, k, i, f, a, cell, cell.slots[f.slot], h1, h2, h3, h4, h5, h6, h7, h8, h9, hs, ?_⟩
  have h' : (Cond.isRef (.static C n d)).holds args s none s [] = true := h
  cases hv : cell.slots[f.slot] with
  | null => rfl
  | ref t => rfl
  | _ => rw [hv] at he; simp [Cond.holds, Cond.value, he] at h'
/-- the words of a throw that no call's list may hold -/
def tn : List Cond := [Cond.declares ⟨"java/lang/RuntimeException", "<init>", "(Ljava/lang/String;)V"⟩, Cond.declares ⟨"java/lang/Exception", "<init>", "(Ljava/lang/String;)V"⟩, Cond.declares ⟨"java/lang/Throwable", "<init>", "(Ljava/lang/String;)V"⟩, Cond.castable cISE cISE, Cond.castable cIOB cIOB, Cond.castable cIAE cIAE]
def th : List Cond := [Cond.isRef (.static Bundle.tN "UNASSIGNED_STACK" Bundle.steD), Cond.isRef (.static Bundle.tN "SUPPRESSED_SENTINEL" Bundle.listD), Cond.laysStatic Bundle.tN "UNASSIGNED_STACK" Bundle.steD, Cond.laysStatic Bundle.tN "SUPPRESSED_SENTINEL" Bundle.listD]
theorem tn_ok : ∀ w ∈ tn, w.onTables = true := by decide
theorem tn_warm {s U : State} (hW : s.WarmedH U.vm) (h : ∀ w ∈ tn, va_Nw w s) : ∀ w ∈ tn, va_Nw w U :=
  List.forall_mem_cons.mpr ⟨va_Nw.warmD hW (h _ (by simp [tn])), List.forall_mem_cons.mpr ⟨va_Nw.warmD hW (h _ (by simp [tn])), List.forall_mem_cons.mpr ⟨va_Nw.warmD hW (h _ (by simp [tn])), List.forall_mem_cons.mpr ⟨va_Nw.warmC hW (h _ (by simp [tn])), List.forall_mem_cons.mpr ⟨va_Nw.warmC hW (h _ (by simp [tn])), List.forall_mem_cons.mpr ⟨va_Nw.warmC hW (h _ (by simp [tn])), fun _ h => absurd h List.not_mem_nil⟩⟩⟩⟩⟩⟩
/-- the texts -/
def txS (U : State) : Prop := (∃ a, vk_R RX 31 "no room for one more vertex" a U) ∧ (∃ a, vk_R RX 36 "no vertex to take away" a U) ∧ (∃ a, vk_R RX 92 "two different vertices are needed" a U) ∧ (∃ a, vk_R RX 97 "no such vertex" a U) ∧ (∃ a, vk_R RX 100 "it is no line graph" a U) ∧ ∃ a, vk_R RX 76 "it is a line graph" a U
theorem txS.warm {s U : State} (hW : s.WarmedH U.vm) (h : txS s) : txS U := by
  obtain ⟨⟨b1, h1⟩, ⟨b2, h2⟩, ⟨b3, h3⟩, ⟨b4, h4⟩, ⟨b5, h5⟩, ⟨b6, h6⟩⟩ := h
  exact ⟨⟨b1, vk_R.warm hW h1⟩, ⟨b2, vk_R.warm hW h2⟩, ⟨b3, vk_R.warm hW h3⟩, ⟨b4, vk_R.warm hW h4⟩, ⟨b5, vk_R.warm hW h5⟩, ⟨b6, vk_R.warm hW h6⟩⟩
def txE (A : Nat → Prop) (U : State) (H : Heap) : Prop := (∀ w ∈ tn, va_Nw w U) ∧ txQ Bundle.tN "UNASSIGNED_STACK" Bundle.steD U H ∧ txQ Bundle.tN "SUPPRESSED_SENTINEL" Bundle.listD U H ∧ (∀ (q : Nat) (cell : Cell), A q → H[q]? = some cell → cell.vm.isStatics = false) ∧ txS U
theorem txE.warm {A : Nat → Prop} {s U : State} {H : Heap} (hW : s.WarmedH U.vm) (h : txE A s H) : txE A U H := ⟨tn_warm hW h.1, h.2.1.moved hW.alike, h.2.2.1.moved hW.alike, h.2.2.2.1, h.2.2.2.2.warm hW⟩
/-- a throw's words, behind writes to A's cells alone -/
theorem txE.words {A : Nat → Prop} {s : State} {H : Heap} {args : Array Value} {L : List Cond} (hL : ∀ w ∈ L, w ∈ bw ∨ w ∈ tn ∨ w ∈ th) (hw : ∀ w ∈ bw, w.before args s = true) (h : txE A s s.heap) (hk : ∀ q : Nat, q < s.heap.size → ¬ A q → H[q]? = s.heap[q]?) :
    ∀ s' : State, s'.vm = s.vm → s'.heap = H → ∀ w ∈ L, w.before args s' = true := by
  intro s' hvm hH w hwL
  have hW : s.WarmedH s'.vm := by rw [hvm]; exact State.WarmedH.refl s
  obtain ⟨h1, h2, h3, h4, h5⟩ := h
  have kp : ∀ (a : Nat) (cell : Cell), s.heap[a]? = some cell → cell.vm.isStatics = true → s'.heap[a]? = some cell := by
    intro a cell hc hs
    have hlt := (Array.getElem?_eq_some_iff.mp hc).1
    rw [hH, hk a hlt (fun hA => by rw [h4 a cell hA hc] at hs; cases hs)]
    exact hc
  have g2 : txQ Bundle.tN "UNASSIGNED_STACK" Bundle.steD s' s'.heap := (h2.moved hW.alike).kept kp
  have g3 : txQ Bundle.tN "SUPPRESSED_SENTINEL" Bundle.listD s' s'.heap := (h3.moved hW.alike).kept kp
  rcases hL w hwL with hm | hm | hm
  · exact word_at hW (good_of_word (List.mem_filter.mp hm).2) (hw w hm)
  · exact va_Nw.use (tn_ok w hm) (va_Nw.same (tn_ok w hm) hvm.symm (h1 w hm))
  · simp only [th, List.mem_cons, List.not_mem_nil, or_false] at hm
    rcases hm with rfl | rfl | rfl | rfl
    · exact g2.word2
    · exact g3.word2
    · exact g2.word1
    · exact g3.word1
set_option maxRecDepth 100000 in
theorem at_ISE : ∀ w ∈ Bundle.ownAtoms RX 33 cISE nmE, w ∈ bw ∨ w ∈ tn ∨ w ∈ th := by decide +kernel
set_option maxRecDepth 100000 in
theorem at_IOB : ∀ w ∈ Bundle.ownAtoms RX 99 cIOB nmE, w ∈ bw ∨ w ∈ tn ∨ w ∈ th := by decide +kernel
set_option maxRecDepth 100000 in
theorem at_IAE : ∀ w ∈ Bundle.ownAtoms RX 94 cIAE nmE, w ∈ bw ∨ w ∈ tn ∨ w ∈ th := by decide +kernel
