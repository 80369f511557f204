/-! The search's rows against what has been named. -/
def HR (nm : List (Nat × Nat × Nat)) (ho : Nat → Nat) : Prop := ∀ e, e < 16 → ∀ j, (ho e).testBit j = nm.any (fun q => q.1 == j && (q.2.1 == e || q.2.2 == e))
def KC (v set : Nat) (nm : List (Nat × Nat × Nat)) : Prop := (∀ j, nm.any (fun q => q.1 == j) = (decide (j < v) && set.testBit j)) ∧ (nm.map (fun q => q.1)).Nodup
def NM (nm : List (Nat × Nat × Nat)) (lo hi : Nat → Nat) : Prop := ∀ q, q ∈ nm → lo q.1 = q.2.1 ∧ hi q.1 = q.2.2
theorem nd_eq : ∀ {nm : List (Nat × Nat × Nat)}, (nm.map (fun q => q.1)).Nodup → ∀ {q r : Nat × Nat × Nat}, q ∈ nm → r ∈ nm → q.1 = r.1 → q = r := by
  intro nm
  induction nm with
  | nil => intro _ q r hq; cases hq
  | cons x t ih =>
    intro hn q r hq hr e
    rw [List.map_cons, List.nodup_cons] at hn
    rcases List.mem_cons.mp hq with h1 | h1
    · rcases List.mem_cons.mp hr with h2 | h2
      · rw [h1, h2]
      · exact absurd (by rw [← h1, e]; exact List.mem_map_of_mem h2) hn.1
    · rcases List.mem_cons.mp hr with h2 | h2
      · exact absurd (by rw [← h2, ← e]; exact List.mem_map_of_mem h1) hn.1
      · exact ih hn.2 h1 h2 e
theorem nd_any {nm : List (Nat × Nat × Nat)} (hn : (nm.map (fun q => q.1)).Nodup) {q : Nat × Nat × Nat} (hq : q ∈ nm) (P : Nat × Nat × Nat → Bool) : nm.any (fun r => r.1 == q.1 && P r) = P q := by
  cases h : P q with
  | true => exact List.any_eq_true.mpr ⟨q, hq, by simp [h]⟩
  | false =>
    apply Bool.eq_false_iff.mpr
    intro h2
    obtain ⟨r, hr, h3⟩ := List.any_eq_true.mp h2
    simp only [Bool.and_eq_true, beq_iff_eq] at h3
    have e := nd_eq hn hr hq h3.1
    rw [e, h] at h3
    exact absurd h3.2 (by decide)
theorem kc_of {v set : Nat} {nm : List (Nat × Nat × Nat)} (h : KC v set nm) {q : Nat × Nat × Nat} (hq : q ∈ nm) : q.1 < v ∧ set.testBit q.1 = true := by
  have h1 : nm.any (fun r => r.1 == q.1) = true := List.any_eq_true.mpr ⟨q, hq, by simp⟩
  rw [h.1] at h1
  simpa using h1
theorem kc_no {v set : Nat} {nm : List (Nat × Nat × Nat)} (h : KC v set nm) {j : Nat} (hj : (decide (j < v) && set.testBit j) = false) (P : Nat × Nat × Nat → Bool) : nm.any (fun r => r.1 == j && P r) = false := by
  apply Bool.eq_false_iff.mpr
  intro h2
  obtain ⟨r, hr, h3⟩ := List.any_eq_true.mp h2
  simp only [Bool.and_eq_true, beq_iff_eq] at h3
  have h4 := kc_of h hr
  rw [h3.1] at h4
  rw [h4.2, decide_eq_true h4.1] at hj
  exact absurd hj (by decide)
theorem kc_get {v set : Nat} {nm : List (Nat × Nat × Nat)} (h : KC v set nm) {j : Nat} (hj : (decide (j < v) && set.testBit j) = true) : ∃ q, q ∈ nm ∧ q.1 = j := by
  have h1 := h.1 j
  rw [hj] at h1
  obtain ⟨q, hq, h2⟩ := List.any_eq_true.mp h1
  exact ⟨q, hq, by simpa using h2⟩
/-- what the class asks of a pair is what the document asks -/
theorem fit_ok {ed : Nat → Nat → Nat} {nb : Nat → Nat} {set v : Nat} {nm : List (Nat × Nat × Nat)} {ho : Nat → Nat} {a b : Nat} (hHR : HR nm ho) (hKC : KC v set nm) (ha : a < 16) (hb : b < 16)
    (hed : ∀ j, j < v → ed v j = if (nb v).testBit j = true then 1 else 0) :
    (decide (ho a ||| ho b = nb v &&& set &&& (2 ^ v - 1)) && decide (ho a &&& ho b = 0)) = okN ed v nm a b := by
  have key : ∀ q, q ∈ nm → (ho a).testBit q.1 = (q.2.1 == a || q.2.2 == a) ∧ (ho b).testBit q.1 = (q.2.1 == b || q.2.2 == b) := fun q hq =>
    ⟨by rw [hHR a ha]; exact nd_any hKC.2 hq _, by rw [hHR b hb]; exact nd_any hKC.2 hq _⟩
  have sh : ∀ x y : Nat, shN a b x y = (if (x == a || y == a) = true then 1 else 0) + (if (x == b || y == b) = true then 1 else 0) := by
    intro x y
    unfold shN
    congr 1
    · by_cases h1 : a = x
      · simp [h1]
      · by_cases h2 : a = y
        · simp [h2]
        · simp [h1, h2, Ne.symm h1, Ne.symm h2]
    · by_cases h1 : b = x
      · simp [h1]
      · by_cases h2 : b = y
        · simp [h2]
        · simp [h1, h2, Ne.symm h1, Ne.symm h2]
  apply Bool.eq_iff_iff.mpr
  constructor
  · intro h
    simp only [Bool.and_eq_true, decide_eq_true_eq] at h
    obtain ⟨h1, h2⟩ := h
    apply List.all_eq_true.mpr
    intro q hq
    obtain ⟨ka, kb⟩ := key q hq
    obtain ⟨hv, hs⟩ := kc_of hKC hq
    have b1 := congrArg (fun z => z.testBit q.1) h1
    have b2 := congrArg (fun z => z.testBit q.1) h2
    simp only [Nat.testBit_or, Nat.testBit_and, Nat.testBit_two_pow_sub_one, Nat.zero_testBit, hs, hv, decide_true, Bool.and_true] at b1 b2
    rw [ka, kb] at b1 b2
    rw [decide_eq_true_eq, sh, hed q.1 hv, ← b1]
    cases h3 : (q.2.1 == a || q.2.2 == a) <;> cases h4 : (q.2.1 == b || q.2.2 == b) <;> simp_all
  · intro h
    have h := List.all_eq_true.mp h
    have bits : ∀ j, (ho a).testBit j = true → (ho b).testBit j = true → False := by
      intro j h1 h2
      cases hj : (decide (j < v) && set.testBit j) with
      | false =>
        rw [hHR a ha, kc_no hKC hj] at h1
        cases h1
      | true =>
        obtain ⟨q, hq, rfl⟩ := kc_get hKC hj
        obtain ⟨ka, kb⟩ := key q hq
        have h3 := h q hq
        rw [decide_eq_true_eq, sh, ← ka, ← kb, h1, h2, hed q.1 (kc_of hKC hq).1] at h3
        by_cases h9 : (nb v).testBit q.1 = true
        · simp [h9] at h3
        · simp [h9] at h3
    simp only [Bool.and_eq_true, decide_eq_true_eq]
    constructor
    · apply Nat.eq_of_testBit_eq
      intro j
      rw [Nat.testBit_or, Nat.testBit_and, Nat.testBit_and, Nat.testBit_two_pow_sub_one]
      cases hj : (decide (j < v) && set.testBit j) with
      | false =>
        rw [hHR a ha, hHR b hb, kc_no hKC hj, kc_no hKC hj]
        cases h5 : decide (j < v) <;> cases h6 : set.testBit j <;> simp_all
      | true =>
        obtain ⟨q, hq, rfl⟩ := kc_get hKC hj
        obtain ⟨ka, kb⟩ := key q hq
        obtain ⟨hv, hs⟩ := kc_of hKC hq
        have h3 := h q hq
        rw [decide_eq_true_eq, sh, ← ka, ← kb, hed q.1 hv] at h3
        rw [hs, decide_eq_true hv]
        cases h4 : (ho a).testBit q.1 <;> cases h5 : (ho b).testBit q.1 <;> cases h6 : (nb v).testBit q.1 <;> simp_all
    · apply Nat.eq_of_testBit_eq
      intro j
      rw [Nat.testBit_and, Nat.zero_testBit]
      cases h1 : (ho a).testBit j with
      | false => rfl
      | true =>
        cases h2 : (ho b).testBit j with
        | false => rfl
        | true => exact (bits j h1 h2).elim
theorem kc_skip {v set : Nat} {nm : List (Nat × Nat × Nat)} (h : KC v set nm) (hv : set.testBit v = false) : KC (v + 1) set nm := by
  refine ⟨fun j => ?_, h.2⟩
  rw [h.1 j]
  by_cases e : j = v
  · subst e; simp [hv]
  · have : decide (j < v + 1) = decide (j < v) := by
      apply Bool.eq_iff_iff.mpr
      simp only [decide_eq_true_eq]
      omega
    rw [this]
theorem kc_add {v set : Nat} {nm : List (Nat × Nat × Nat)} (h : KC v set nm) (hv : set.testBit v = true) (a b : Nat) : KC (v + 1) set ((v, a, b) :: nm) := by
  constructor
  · intro j
    rw [List.any_cons, h.1 j]
    by_cases e : j = v
    · subst e; simp [hv]
    · have h1 : decide (j < v + 1) = decide (j < v) := by
        apply Bool.eq_iff_iff.mpr
        simp only [decide_eq_true_eq]
        omega
      have h2 : (v == j) = false := by simpa using fun h => e h.symm
      rw [h1]
      show ((v == j) || _) = _
      rw [h2, Bool.false_or]
  · rw [List.map_cons, List.nodup_cons]
    refine ⟨fun hm => ?_, h.2⟩
    obtain ⟨q, hq, e⟩ := List.mem_map.mp hm
    have := (kc_of h hq).1
    omega
theorem hr_add {v set : Nat} {nm : List (Nat × Nat × Nat)} {ho : Nat → Nat} (h : HR nm ho) {a b : Nat} (hab : a < b) : HR ((v, a, b) :: nm) (upN (upN ho a (ho a ||| 2 ^ v)) b (upN ho a (ho a ||| 2 ^ v) b ||| 2 ^ v)) := by
  intro e he j
  rw [List.any_cons]
  show _ = (((v == j) && ((a == e) || (b == e))) || _)
  rw [← h e he j]
  by_cases e1 : e = b
  · subst e1
    rw [upN_s, upN_n _ _ (by omega), Nat.testBit_or, Nat.testBit_two_pow]
    have h1 : (a == e) = false := by simpa using by omega
    by_cases h2 : v = j
    · simp [h2]
    · simp [h2]
  · rw [upN_n _ _ e1]
    by_cases e2 : e = a
    · subst e2
      rw [upN_s, Nat.testBit_or, Nat.testBit_two_pow]
      by_cases h2 : v = j
      · simp [h2]
      · simp [h2]
    · rw [upN_n _ _ e2]
      have h1 : (a == e) = false := by simpa using fun h => e2 h.symm
      have h2 : (b == e) = false := by simpa using fun h => e1 h.symm
      simp [h1, h2]
theorem hr_nil {ho : Nat → Nat} (h : ∀ e, e < 16 → ho e = 0) : HR [] ho := by
  intro e he j
  rw [h e he, Nat.zero_testBit]
  rfl
/-- a bit laid and taken back -/
theorem bit_back {x v : Nat} (hx : x < 4294967296) (h32 : v < 32) (hv : x.testBit v = false) : (x ||| 2 ^ v) &&& ntN (2 ^ v) = x := by
  apply Nat.eq_of_testBit_eq
  intro i
  have e : (4294967295 : Nat) = 2 ^ 32 - 1 := by decide
  unfold ntN
  rw [Nat.testBit_and, Nat.testBit_or, Nat.testBit_xor, e, Nat.testBit_two_pow_sub_one, Nat.testBit_two_pow]
  by_cases h1 : v = i
  · subst h1
    simp [hv, h32]
  · by_cases h2 : i < 32
    · simp [h1, h2]
    · have h3 : x.testBit i = false := Nat.testBit_lt_two_pow (Nat.lt_of_lt_of_le hx (by rw [show (4294967296 : Nat) = 2 ^ 32 by decide]; exact Nat.pow_le_pow_right (by omega) (by omega)))
      simp [h1, h2, h3]
