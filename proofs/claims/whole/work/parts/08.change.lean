/-! the graph changes: grow, shrink, join, part -/
theorem rel_0 : Rel 0 (fun _ => 0) (fun _ => 0) :=
  ⟨by omega, fun _ _ => Nat.zero_le _, fun _ _ _ _ => rfl, fun _ _ => rfl, fun _ _ _ _ _ => rfl, fun u hu => by omega⟩
theorem rel_ed {n : Nat} {nb ed ed' : Nat → Nat} (h : Rel n nb ed) (he : ∀ k, k < 64 → ed' k = ed k) : Rel n nb ed' := by
  obtain ⟨q1, q2, q3, q4, q5, q6⟩ := h
  refine ⟨q1, fun k hk => by rw [he k hk]; exact q2 k hk, fun u v hu hv => by rw [he _ (by omega), he _ (by omega)]; exact q3 u v hu hv, fun u hu => by rw [he _ (by omega)]; exact q4 u hu, fun u v hu hv hn => by rw [he _ (by omega)]; exact q5 u v hu hv hn, fun u hu v => ?_⟩
  rw [q6 u hu v]
  by_cases hv : v < 8
  · rw [he _ (by omega)]
  · rw [decide_eq_false hv]; rfl
theorem rel_nb {n : Nat} {nb nb' ed : Nat → Nat} (h : Rel n nb ed) (he : ∀ u, u < n → nb' u = nb u) : Rel n nb' ed := by
  obtain ⟨q1, q2, q3, q4, q5, q6⟩ := h
  exact ⟨q1, q2, q3, q4, q5, fun u hu v => by rw [he u hu]; exact q6 u hu v⟩
theorem rel_lt {n : Nat} {nb ed : Nat → Nat} (h : Rel n nb ed) : ∀ u, u < n → nb u < 256 := by
  obtain ⟨q1, q2, q3, q4, q5, q6⟩ := h
  intro u hu
  show nb u < 2 ^ 8
  apply lt_bits
  intro i hi
  rw [q6 u hu, Bool.and_eq_true, decide_eq_true_eq] at hi
  exact hi.1
theorem rel_grow {n : Nat} {nb ed : Nat → Nat} (h : Rel n nb ed) (hn : n < 8) : Rel (n + 1) (upN nb n 0) ed := by
  obtain ⟨q1, q2, q3, q4, q5, q6⟩ := h
  refine ⟨by omega, q2, q3, q4, fun u v hu hv hn => q5 u v hu hv (by omega), fun u hu v => ?_⟩
  by_cases e : u = n
  · subst e
    rw [upN_s, Nat.zero_testBit]
    by_cases hv : v < 8
    · rw [q5 u v hn hv (Nat.le_refl _)]; simp
    · rw [decide_eq_false hv]; rfl
  · rw [upN_n _ _ e]
    exact q6 u (by omega) v
/-- the reference's row behind shrink, k rounds of it -/
def mSh (ed : Nat → Nat) (n k : Nat) : Nat → Nat := jF (fun v e => upN (upN e (8 * n + v) 0) (8 * v + n) 0) ed k
theorem mSh_at {ed : Nat → Nat} {n j : Nat} : ∀ k, mSh ed n k j = if (∃ v, v < k ∧ (j = 8 * n + v ∨ j = 8 * v + n)) then 0 else ed j
  | 0 => by
    rw [if_neg (by rintro ⟨v, hv, -⟩; omega)]
    rfl
  | k + 1 => by
    have ih := mSh_at (ed := ed) (n := n) (j := j) k
    show upN (upN (mSh ed n k) (8 * n + k) 0) (8 * k + n) 0 j = _
    by_cases h1 : j = 8 * k + n
    · rw [h1, upN_s, if_pos ⟨k, by omega, Or.inr rfl⟩]
    · rw [upN_n _ _ h1]
      by_cases h2 : j = 8 * n + k
      · rw [h2, upN_s, if_pos ⟨k, by omega, Or.inl rfl⟩]
      · rw [upN_n _ _ h2, ih]
        by_cases h3 : ∃ v, v < k ∧ (j = 8 * n + v ∨ j = 8 * v + n)
        · obtain ⟨v, hv, h4⟩ := h3
          rw [if_pos ⟨v, hv, h4⟩, if_pos ⟨v, by omega, h4⟩]
        · rw [if_neg h3, if_neg]
          rintro ⟨v, hv, h4⟩
          by_cases e : v = k
          · subst e
            rcases h4 with h4 | h4
            · exact h2 h4
            · exact h1 h4
          · exact h3 ⟨v, by omega, h4⟩
/-- the class's rows behind shrink, k rounds of it -/
def jSh (nb : Nat → Nat) (n k : Nat) : Nat → Nat := jF (fun v f => upN f v (f v &&& ntN (2 ^ n))) nb k
theorem jSh_at {nb : Nat → Nat} {n j : Nat} : ∀ k, jSh nb n k j = if j < k then nb j &&& ntN (2 ^ n) else nb j
  | 0 => by rw [if_neg (by omega)]; rfl
  | k + 1 => by
    have ih := jSh_at (nb := nb) (n := n) (j := j) k
    show upN (jSh nb n k) k (jSh nb n k k &&& ntN (2 ^ n)) j = _
    by_cases e : j = k
    · subst e
      rw [upN_s, if_pos (by omega), ih, if_neg (by omega)]
    · rw [upN_n _ _ e, ih]
      by_cases h : j < k
      · rw [if_pos h, if_pos (by omega)]
      · rw [if_neg h, if_neg (by omega)]
theorem rel_shrink {n : Nat} {nb ed : Nat → Nat} (h : Rel (n + 1) nb ed) : Rel n (jSh nb n n) (mSh ed n 8) := by
  obtain ⟨q1, q2, q3, q4, q5, q6⟩ := h
  have val : ∀ u v, u < 8 → v < 8 → mSh ed n 8 (8 * u + v) = if u = n ∨ v = n then 0 else ed (8 * u + v) := by
    intro u v hu hv
    rw [mSh_at]
    by_cases h1 : u = n ∨ v = n
    · rw [if_pos h1]
      rcases h1 with h1 | h1
      · rw [if_pos ⟨v, hv, Or.inl (by omega)⟩]
      · rw [if_pos ⟨u, hu, Or.inr (by omega)⟩]
    · rw [if_neg h1, if_neg]
      rintro ⟨w, hw, h2⟩
      omega
  refine ⟨by omega, fun k hk => ?_, fun u v hu hv => ?_, fun u hu => ?_, fun u v hu hv hn => ?_, fun u hu v => ?_⟩
  · have e8 : k = 8 * (k / 8) + k % 8 := by omega
    rw [e8, val _ _ (by omega) (by omega)]
    split
    · omega
    · exact q2 _ (by omega)
  · rw [val u v hu hv, val v u hv hu]
    by_cases h1 : u = n ∨ v = n
    · rw [if_pos h1, if_pos (Or.comm.mp h1)]
    · rw [if_neg h1, if_neg (fun h => h1 (Or.comm.mp h))]
      exact q3 u v hu hv
  · rw [val u u hu hu]
    split
    · rfl
    · exact q4 u hu
  · rw [val u v hu hv]
    by_cases h1 : u = n ∨ v = n
    · rw [if_pos h1]
    · rw [if_neg h1]
      exact q5 u v hu hv (by omega)
  · rw [jSh_at, if_pos hu, Nat.testBit_and, q6 u (by omega) v]
    by_cases hv : v < 8
    · rw [nt_bit (by omega), Nat.testBit_two_pow, val u v (by omega) hv, decide_eq_true hv]
      by_cases e : v = n
      · subst e; simp
      · rw [if_neg (by omega)]
        simp [Ne.symm e]
    · rw [decide_eq_false hv]; rfl
theorem rel_set {n : Nat} {nb nb' ed : Nat → Nat} {u v t : Nat} (h : Rel n nb ed) (hu : u < n) (hv : v < n) (huv : u ≠ v) (ht : t ≤ 1)
    (h1 : ∀ w, (nb' u).testBit w = if w = v then decide (t = 1) else (nb u).testBit w) (h2 : ∀ w, (nb' v).testBit w = if w = u then decide (t = 1) else (nb v).testBit w) (h3 : ∀ x, x ≠ u → x ≠ v → nb' x = nb x) :
    Rel n nb' (upN (upN ed (8 * u + v) t) (8 * v + u) t) := by
  obtain ⟨q1, q2, q3, q4, q5, q6⟩ := h
  have val : ∀ a b, a < 8 → b < 8 → upN (upN ed (8 * u + v) t) (8 * v + u) t (8 * a + b) = if (a = u ∧ b = v) ∨ (a = v ∧ b = u) then t else ed (8 * a + b) := by
    intro a b ha hb
    by_cases e1 : a = v ∧ b = u
    · rw [e1.1, e1.2, upN_s, if_pos (Or.inr ⟨rfl, rfl⟩)]
    · rw [upN_n _ _ (by omega)]
      by_cases e2 : a = u ∧ b = v
      · rw [e2.1, e2.2, upN_s, if_pos (Or.inl ⟨rfl, rfl⟩)]
      · rw [upN_n _ _ (by omega), if_neg (fun h => h.elim e2 e1)]
  refine ⟨q1, fun k hk => ?_, fun a b ha hb => ?_, fun a ha => ?_, fun a b ha hb hn => ?_, fun a ha b => ?_⟩
  · have e8 : k = 8 * (k / 8) + k % 8 := by omega
    rw [e8, val _ _ (by omega) (by omega)]
    split
    · exact ht
    · exact q2 _ (by omega)
  · rw [val a b ha hb, val b a hb ha]
    by_cases e : (a = u ∧ b = v) ∨ (a = v ∧ b = u)
    · rw [if_pos e, if_pos (by omega)]
    · rw [if_neg e, if_neg (by omega)]
      exact q3 a b ha hb
  · rw [val a a ha ha, if_neg (by omega)]
    exact q4 a ha
  · rw [val a b ha hb, if_neg (by omega)]
    exact q5 a b ha hb hn
  · by_cases hb : b < 8
    · rw [val a b (by omega) hb, decide_eq_true hb, Bool.true_and]
      by_cases e1 : a = u
      · subst e1
        rw [h1 b]
        by_cases e2 : b = v
        · rw [if_pos e2, if_pos (Or.inl ⟨rfl, e2⟩)]
        · rw [if_neg e2, if_neg (by omega), q6 a ha b, decide_eq_true hb, Bool.true_and]
      · by_cases e3 : a = v
        · subst e3
          rw [h2 b]
          by_cases e2 : b = u
          · rw [if_pos e2, if_pos (Or.inr ⟨rfl, e2⟩)]
          · rw [if_neg e2, if_neg (by omega), q6 a ha b, decide_eq_true hb, Bool.true_and]
        · rw [h3 a e1 e3, if_neg (by omega), q6 a ha b, decide_eq_true hb, Bool.true_and]
    · rw [decide_eq_false hb, Bool.false_and]
      by_cases e1 : a = u
      · subst e1
        rw [h1 b, if_neg (by omega), q6 a ha b, decide_eq_false hb, Bool.false_and]
      · by_cases e3 : a = v
        · subst e3
          rw [h2 b, if_neg (by omega), q6 a ha b, decide_eq_false hb, Bool.false_and]
        · rw [h3 a e1 e3, q6 a ha b, decide_eq_false hb, Bool.false_and]
def jJo (nb : Nat → Nat) (u v : Nat) : Nat → Nat := upN (upN nb u (nb u ||| 2 ^ v)) v (upN nb u (nb u ||| 2 ^ v) v ||| 2 ^ u)
def jPt (nb : Nat → Nat) (u v : Nat) : Nat → Nat := upN (upN nb u (nb u &&& ntN (2 ^ v))) v (upN nb u (nb u &&& ntN (2 ^ v)) v &&& ntN (2 ^ u))
theorem rel_join {n : Nat} {nb ed : Nat → Nat} {u v : Nat} (h : Rel n nb ed) (hu : u < n) (hv : v < n) (huv : u ≠ v) : Rel n (jJo nb u v) (upN (upN ed (8 * u + v) 1) (8 * v + u) 1) := by
  refine rel_set h hu hv huv (by omega) (fun w => ?_) (fun w => ?_) (fun x h1 h2 => ?_)
  · unfold jJo
    rw [upN_n _ _ huv, upN_s, Nat.testBit_or, Nat.testBit_two_pow]
    by_cases e : w = v
    · subst e; simp
    · simp [e, Ne.symm e]
  · unfold jJo
    rw [upN_s, upN_n _ _ (Ne.symm huv), Nat.testBit_or, Nat.testBit_two_pow]
    by_cases e : w = u
    · subst e; simp
    · simp [e, Ne.symm e]
  · unfold jJo
    rw [upN_n _ _ h2, upN_n _ _ h1]
theorem rel_part {n : Nat} {nb ed : Nat → Nat} {u v : Nat} (h : Rel n nb ed) (hu : u < n) (hv : v < n) (huv : u ≠ v) : Rel n (jPt nb u v) (upN (upN ed (8 * u + v) 0) (8 * v + u) 0) := by
  have hlt := rel_lt h
  have key : ∀ x k w, x < 256 → k < 8 → (x &&& ntN (2 ^ k)).testBit w = if w = k then false else x.testBit w := by
    intro x k w hx hk
    rw [Nat.testBit_and]
    by_cases hw : w < 32
    · rw [nt_bit hw, Nat.testBit_two_pow]
      by_cases e : w = k
      · subst e; simp
      · simp [e, Ne.symm e]
    · have hx8 : x.testBit w = false := Nat.testBit_lt_two_pow (Nat.lt_of_lt_of_le hx (Nat.le_trans (show 256 ≤ 2 ^ 32 by decide) (Nat.pow_le_pow_right (by omega) (by omega))))
      rw [hx8]
      split <;> rfl
  have h8 := h.1
  refine rel_set h hu hv huv (by omega) (fun w => ?_) (fun w => ?_) (fun x h1 h2 => ?_)
  · unfold jPt
    rw [upN_n _ _ huv, upN_s, key _ _ _ (hlt u hu) (by omega)]
    rfl
  · unfold jPt
    rw [upN_s, upN_n _ _ (Ne.symm huv), key _ _ _ (hlt v hv) (by omega)]
    rfl
  · unfold jPt
    rw [upN_n _ _ h2, upN_n _ _ h1]
