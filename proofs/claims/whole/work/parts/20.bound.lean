/-! What a found naming holds: every member has a pair, the numbers are small. -/
theorem scB_some {β : Type} {t : Nat → Nat → Option β} {a : Nat} {r : β} : ∀ {c b : Nat}, scB t a c b = some r → ∃ b', b ≤ b' ∧ b' < b + c ∧ t a b' = some r
  | 0, b, h => by cases h
  | c + 1, b, h => by
    have h : (match t a b with | some r => some r | none => scB t a c (b + 1)) = some r := h
    cases ht : t a b with
    | some x => rw [ht] at h; exact ⟨b, Nat.le_refl _, by omega, by rw [ht]; exact h⟩
    | none =>
      rw [ht] at h
      obtain ⟨b', h1, h2, h3⟩ := scB_some (c := c) (b := b + 1) h
      exact ⟨b', by omega, by omega, h3⟩
theorem scA_some {β : Type} {t : Nat → Nat → Option β} {us : Nat} {r : β} : ∀ {c a : Nat}, scA t us c a = some r → ∃ a' b', a ≤ a' ∧ a' < a + c ∧ a' < b' ∧ b' ≤ max us (a' + 1) ∧ t a' b' = some r
  | 0, a, h => by cases h
  | c + 1, a, h => by
    have h : (match scB t a (max us (a + 1) - a) (a + 1) with | some r => some r | none => scA t us c (a + 1)) = some r := h
    cases hb : scB t a (max us (a + 1) - a) (a + 1) with
    | some x =>
      rw [hb] at h
      obtain ⟨b', h1, h2, h3⟩ := scB_some hb
      exact ⟨a, b', Nat.le_refl _, by omega, by omega, by omega, by rw [h3]; exact h⟩
    | none =>
      rw [hb] at h
      obtain ⟨a', b', h1, h2, h3⟩ := scA_some (c := c) (a := a + 1) h
      exact ⟨a', b', by omega, by omega, h3⟩
theorem sr_bound {ed : Nat → Nat → Nat} : ∀ {rest : List Nat} {nm : List (Nat × Nat × Nat)} {us : Nat} {x : List (Nat × Nat × Nat) × Nat}, srN ed rest nm us = some x →
    (∀ q, q ∈ nm → q ∈ x.1) ∧ (∀ v, v ∈ rest → ∃ q, q ∈ x.1 ∧ q.1 = v) ∧ us ≤ x.2 ∧ x.2 ≤ us + 2 * rest.length ∧ ∀ q, q ∈ x.1 → q ∈ nm ∨ (q.2.1 < x.2 ∧ q.2.2 < x.2)
  | [], nm, us, x, h => by
    have h : some (nm, us) = some x := h
    cases h
    exact ⟨fun q hq => hq, (fun v hv => by cases hv), Nat.le_refl _, by simp, fun q hq => Or.inl hq⟩
  | v :: r, nm, us, x, h => by
    have h : scA (fun a b => if okN ed v nm a b = true then srN ed r ((v, a, b) :: nm) (max us (b + 1)) else none) us (us + 1) 0 = some x := h
    obtain ⟨a, b, h1, h2, h3, h4, h5⟩ := scA_some h
    have h5 : (if okN ed v nm a b = true then srN ed r ((v, a, b) :: nm) (max us (b + 1)) else none) = some x := h5
    by_cases hok : okN ed v nm a b = true
    · rw [if_pos hok] at h5
      obtain ⟨k1, k2, k3, k4, k5⟩ := sr_bound h5
      refine ⟨fun q hq => k1 q (List.mem_cons_of_mem _ hq), fun w hw => ?_, by omega, by rw [List.length_cons]; omega, fun q hq => ?_⟩
      · rcases List.mem_cons.mp hw with rfl | hw
        · exact ⟨(w, a, b), k1 _ List.mem_cons_self, rfl⟩
        · exact k2 w hw
      · rcases k5 q hq with hq | hq
        · rcases List.mem_cons.mp hq with rfl | hq
          · exact Or.inr ⟨by show a < x.2; omega, by show b < x.2; omega⟩
          · exact Or.inl hq
        · exact Or.inr hq
    · rw [if_neg hok] at h5
      cases h5
theorem me_mem {set w : Nat} : ∀ {k v : Nat}, w ∈ meN set k v ↔ v ≤ w ∧ w < v + k ∧ set.testBit w = true
  | 0, v => by
    constructor
    · intro h; cases h
    · rintro ⟨h1, h2, -⟩; omega
  | k + 1, v => by
    have ih := me_mem (set := set) (w := w) (k := k) (v := v + 1)
    have e : meN set (k + 1) v = if set.testBit v = true then v :: meN set k (v + 1) else meN set k (v + 1) := rfl
    rw [e]
    by_cases hb : set.testBit v = true
    · rw [if_pos hb, List.mem_cons, ih]
      constructor
      · rintro (rfl | ⟨h1, h2, h3⟩)
        · exact ⟨Nat.le_refl _, by omega, hb⟩
        · exact ⟨by omega, by omega, h3⟩
      · rintro ⟨h1, h2, h3⟩
        by_cases hw : w = v
        · exact Or.inl hw
        · exact Or.inr ⟨by omega, by omega, h3⟩
    · rw [if_neg hb, ih]
      constructor
      · rintro ⟨h1, h2, h3⟩
        exact ⟨by omega, by omega, h3⟩
      · rintro ⟨h1, h2, h3⟩
        by_cases hw : w = v
        · subst hw; exact absurd h3 hb
        · exact ⟨by omega, by omega, h3⟩
theorem me_len {set : Nat} : ∀ {k v : Nat}, (meN set k v).length ≤ k
  | 0, v => Nat.le_refl _
  | k + 1, v => by
    have ih := me_len (set := set) (k := k) (v := v + 1)
    have e : meN set (k + 1) v = if set.testBit v = true then v :: meN set k (v + 1) else meN set k (v + 1) := rfl
    rw [e]
    split
    · rw [List.length_cons]; omega
    · omega
/-- the naming of all: each vertex has its pair, all below the number of ends, that at most 16 -/
theorem sr_all {ed : Nat → Nat → Nat} {n : Nat} {x : List (Nat × Nat × Nat) × Nat} {lo hi : Nat → Nat} (hn : n ≤ 8) (h : srN ed (meN (2 ^ n - 1) n 0) [] 0 = some x) (hm : NM x.1 lo hi) : x.2 ≤ 16 ∧ ∀ v, v < n → (lo v < 16 ∧ hi v < 16) ∧ ∃ q, q ∈ x.1 ∧ q.1 = v ∧ lo v = q.2.1 ∧ hi v = q.2.2 := by
  obtain ⟨-, k2, -, k4, k5⟩ := sr_bound h
  have hl := me_len (set := 2 ^ n - 1) (k := n) (v := 0)
  refine ⟨by omega, fun v hv => ?_⟩
  obtain ⟨q, hq, rfl⟩ := k2 v (me_mem.mpr ⟨Nat.zero_le _, by omega, by rw [Nat.testBit_two_pow_sub_one, decide_eq_true hv]⟩)
  obtain ⟨e1, e2⟩ := hm q hq
  rcases k5 q hq with h9 | h9
  · cases h9
  · exact ⟨⟨by rw [e1]; omega, by rw [e2]; omega⟩, q, hq, rfl, e1, e2⟩
/-- the spoiler's greedy loop, k steps of it -/
def jSp (L : Nat → Bool) (a k : Nat) : Nat := jF (fun v left => if L (left &&& ntN (2 ^ v)) = true then left else left &&& ntN (2 ^ v)) a k
theorem jSp_lt {L : Nat → Bool} {a N : Nat} (h : a < N) : ∀ k, jSp L a k < N
  | 0 => h
  | k + 1 => by
    have ih := jSp_lt (L := L) h k
    have e : jSp L a (k + 1) = if L (jSp L a k &&& ntN (2 ^ k)) = true then jSp L a k else jSp L a k &&& ntN (2 ^ k) := rfl
    rw [e]
    split
    · exact ih
    · exact and_lt ih
/-- is the set a line set -/
def isL (ed : Nat → Nat → Nat) (n set : Nat) : Bool := (srN ed (meN set n 0) [] 0).isSome
theorem kc_nil (set : Nat) : KC 0 set [] := ⟨fun j => by rw [decide_eq_false (by omega)]; rfl, List.nodup_nil⟩
def fnP (res : Option (List (Nat × Nat × Nat) × Nat)) (r : Int32) (u : (Nat → Nat) × (Nat → Nat) × (Nat → Nat) × Nat) : Prop :=
  r = bI res.isSome ∧ ∀ x, res = some x → u.2.2.2 = x.2 ∧ NM x.1 u.1 u.2.1
