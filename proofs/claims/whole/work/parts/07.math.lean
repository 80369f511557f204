/-! The class's numbers and the reference's: the same answers. ed k: the reference's row of 64 edges. -/
def Rel (n : Nat) (nb ed : Nat → Nat) : Prop :=
  n ≤ 8 ∧ (∀ k, k < 64 → ed k ≤ 1) ∧ (∀ u v, u < 8 → v < 8 → ed (8 * u + v) = ed (8 * v + u)) ∧ (∀ u, u < 8 → ed (8 * u + u) = 0) ∧
  (∀ u v, u < 8 → v < 8 → n ≤ u → ed (8 * u + v) = 0) ∧ ∀ u, u < n → ∀ v, (nb u).testBit v = (decide (v < 8) && decide (ed (8 * u + v) = 1))
theorem jF_congr {α : Type} {f g : Nat → α → α} {a : α} : ∀ {n : Nat}, (∀ k x, k < n → f k x = g k x) → jF f a n = jF g a n
  | 0, _ => rfl
  | n + 1, h => by
    rw [jF_s, jF_s, jF_congr (n := n) (fun k x hk => h k x (by omega)), h n _ (by omega)]
theorem jF_eight (f : Nat → Nat) : ∀ r : Nat, jF (fun k s => s + f k) 0 (8 * r) = jF (fun u s => s + jF (fun v s => s + f (8 * u + v)) 0 8) 0 r
  | 0 => rfl
  | r + 1 => by
    have ih := jF_eight f r
    show jF (fun k s => s + f k) 0 (8 * r + 8) = _
    rw [jF_s (fun u s => s + jF (fun v s => s + f (8 * u + v)) 0 8), ← ih]
    show jF (fun k s => s + f k) 0 (8 * r) + f (8 * r) + f (8 * r + 1) + f (8 * r + 2) + f (8 * r + 3) + f (8 * r + 4) + f (8 * r + 5) + f (8 * r + 6) + f (8 * r + 7) = jF (fun k s => s + f k) 0 (8 * r) + (0 + f (8 * r + 0) + f (8 * r + 1) + f (8 * r + 2) + f (8 * r + 3) + f (8 * r + 4) + f (8 * r + 5) + f (8 * r + 6) + f (8 * r + 7))
    have : f (8 * r + 0) = f (8 * r) := rfl
    omega
theorem jF_zero {f : Nat → Nat} {a : Nat} : ∀ {n k : Nat}, (∀ j, n ≤ j → j < n + k → f j = 0) → jF (fun j s => s + f j) a (n + k) = jF (fun j s => s + f j) a n
  | n, 0, _ => rfl
  | n, k + 1, h => by
    show jF (fun j s => s + f j) a (n + k) + f (n + k) = _
    rw [h (n + k) (by omega) (by omega), jF_zero (n := n) (k := k) (fun j h1 h2 => h j h1 (by omega))]
    rfl
theorem bit_num (a k : Nat) : a >>> k &&& 1 = if a.testBit k = true then 1 else 0 := by
  rw [Nat.and_one_is_mod, Nat.testBit_eq_decide_div_mod_eq, Nat.shiftRight_eq_div_pow]
  have : a / 2 ^ k % 2 < 2 := Nat.mod_lt _ (by omega)
  by_cases h : a / 2 ^ k % 2 = 1
  · simp [h]
  · have h0 : a / 2 ^ k % 2 = 0 := by omega
    simp [h0]
theorem pcN_row {n : Nat} {nb ed : Nat → Nat} (h : Rel n nb ed) {u : Nat} (hu : u < n) : pcN (nb u) = jF (fun v s => s + ed (8 * u + v)) 0 8 := by
  obtain ⟨h1, h2, h3, h4, h5, h6⟩ := h
  unfold pcN
  rw [show (16 : Nat) = 8 + 8 from rfl, jF_zero (f := fun k => nb u >>> k &&& 1) (n := 8) (k := 8) (fun j j1 j2 => by
    rw [bit_num, h6 u hu j, decide_eq_false (by omega)]; rfl)]
  refine jF_congr (fun k x hk => ?_)
  have h7 := h2 (8 * u + k) (by omega)
  rw [bit_num, h6 u hu k, decide_eq_true (by omega), Bool.true_and]
  by_cases h8 : ed (8 * u + k) = 1
  · simp [h8]
  · have h9 : ed (8 * u + k) = 0 := by omega
    simp [h9]
/-- edges: the sums are one -/
theorem sum_eq {n : Nat} {nb ed : Nat → Nat} (h : Rel n nb ed) : jSu nb n = jF (fun k s => s + ed k) 0 64 := by
  have hh := h
  obtain ⟨h1, h2, h3, h4, h5, h6⟩ := h
  rw [show (64 : Nat) = 8 * 8 from rfl, jF_eight ed 8]
  have e : ∀ j, n ≤ j → j < 8 → ∀ m, m ≤ 8 → jF (fun v s => s + ed (8 * j + v)) 0 m = 0 := by
    intro j j1 j2 m
    induction m with
    | zero => intro _; rfl
    | succ m ih =>
      intro hm
      show jF (fun v s => s + ed (8 * j + v)) 0 m + ed (8 * j + m) = 0
      rw [ih (by omega), h5 j m (by omega) (by omega) j1]
  have e9 : jF (fun u s => s + jF (fun v s => s + ed (8 * u + v)) 0 8) 0 8 = jF (fun u s => s + jF (fun v s => s + ed (8 * u + v)) 0 8) 0 n := by
    obtain ⟨k, hk⟩ : ∃ k, 8 = n + k := ⟨8 - n, by omega⟩
    have h9 := jF_zero (f := fun u => jF (fun v s => s + ed (8 * u + v)) 0 8) (a := 0) (n := n) (k := k) (fun j j1 j2 => e j j1 (by omega) 8 (Nat.le_refl _))
    rw [← hk] at h9
    exact h9
  rw [e9]
  unfold jSu
  refine jF_congr (fun u x hu => ?_)
  rw [pcN_row hh hu]
theorem jNo_bit {nb : Nat → Nat} {set w : Nat} : ∀ {n : Nat}, (jNo nb set n).testBit w = true ↔ ∃ u, u < n ∧ set.testBit u = true ∧ (nb u).testBit w = true
  | 0 => by
    constructor
    · intro h
      have : (0 : Nat).testBit w = true := h
      rw [Nat.zero_testBit] at this
      cases this
    · rintro ⟨u, hu, -⟩
      omega
  | n + 1 => by
    have ih := jNo_bit (nb := nb) (set := set) (w := w) (n := n)
    have e : jNo nb set (n + 1) = if set.testBit n = true then jNo nb set n ||| nb n else jNo nb set n := rfl
    rw [e]
    by_cases hs : set.testBit n = true
    · rw [if_pos hs, Nat.testBit_or, Bool.or_eq_true, ih]
      constructor
      · rintro (⟨u, h1, h2, h3⟩ | h)
        · exact ⟨u, by omega, h2, h3⟩
        · exact ⟨n, by omega, hs, h⟩
      · rintro ⟨u, h1, h2, h3⟩
        by_cases hu : u = n
        · subst hu; exact Or.inr h3
        · exact Or.inl ⟨u, by omega, h2, h3⟩
    · rw [if_neg hs, ih]
      constructor
      · rintro ⟨u, h1, h2, h3⟩
        exact ⟨u, by omega, h2, h3⟩
      · rintro ⟨u, h1, h2, h3⟩
        by_cases hu : u = n
        · subst hu; exact absurd h2 hs
        · exact ⟨u, by omega, h2, h3⟩
/-! the component of a vertex: both searches stop at the same set -/
def pcM (a m : Nat) : Nat := jF (fun k c => c + (a >>> k &&& 1)) 0 m
theorem pcM_s (a m : Nat) : pcM a (m + 1) = pcM a m + (if a.testBit m = true then 1 else 0) := by
  rw [← bit_num]; rfl
theorem pcM_le {a b : Nat} (h : ∀ i, a.testBit i = true → b.testBit i = true) : ∀ m, pcM a m ≤ pcM b m
  | 0 => Nat.le_refl _
  | m + 1 => by
    have ih := pcM_le h m
    rw [pcM_s, pcM_s]
    by_cases h1 : a.testBit m = true
    · rw [if_pos h1, if_pos (h m h1)]; omega
    · rw [if_neg h1]
      split <;> omega
theorem pcM_lt {a b : Nat} (h : ∀ i, a.testBit i = true → b.testBit i = true) {i : Nat} (hb : b.testBit i = true) (ha : ¬ a.testBit i = true) : ∀ m, i < m → pcM a m < pcM b m
  | 0, hm => by omega
  | m + 1, hm => by
    rw [pcM_s, pcM_s]
    by_cases e : i = m
    · subst e
      have := pcM_le h i
      rw [if_neg ha, if_pos hb]; omega
    · have ih := pcM_lt h hb ha m (by omega)
      by_cases h1 : a.testBit m = true
      · rw [if_pos h1, if_pos (h m h1)]; omega
      · rw [if_neg h1]
        split <;> omega
theorem pcM_top {a : Nat} : ∀ m, pcM a m ≤ m
  | 0 => Nat.le_refl _
  | m + 1 => by
    have ih := pcM_top (a := a) m
    rw [pcM_s]
    split <;> omega
theorem fix_it {F : Nat → Nat} {n : Nat} (hin : ∀ r, r < 2 ^ n → F r < 2 ^ n) (hsub : ∀ r i, r.testBit i = true → (F r).testBit i = true) {r0 : Nat} (h0 : r0 < 2 ^ n) {i0 : Nat} (hi : r0.testBit i0 = true) :
    ∀ k, n ≤ k + 1 → F (jF (fun _ r => F r) r0 k) = jF (fun _ r => F r) r0 k := by
  have lt : ∀ k, jF (fun _ r => F r) r0 k < 2 ^ n := by
    intro k
    induction k with
    | zero => exact h0
    | succ k ih => exact hin _ ih
  have bits : ∀ r i, r < 2 ^ n → r.testBit i = true → i < n := by
    intro r i hr hb
    rcases Nat.lt_or_ge i n with h | h
    · exact h
    · rw [Nat.testBit_lt_two_pow (Nat.lt_of_lt_of_le hr (Nat.pow_le_pow_right (by omega) h))] at hb
      cases hb
  have grow : ∀ r, r < 2 ^ n → F r ≠ r → pcM r n < pcM (F r) n := by
    intro r hr hne
    by_cases hx : ∃ i, (F r).testBit i = true ∧ ¬ r.testBit i = true
    · obtain ⟨i, h1, h2⟩ := hx
      exact pcM_lt (hsub r) h1 h2 n (bits _ _ (hin r hr) h1)
    · exfalso
      apply hne
      apply Nat.eq_of_testBit_eq
      intro i
      cases h1 : (F r).testBit i with
      | false =>
        cases h2 : r.testBit i with
        | false => rfl
        | true => rw [hsub r i h2] at h1; cases h1
      | true =>
        cases h2 : r.testBit i with
        | false => exact absurd ⟨i, h1, by rw [h2]; decide⟩ hx
        | true => rfl
  have main : ∀ k, F (jF (fun _ r => F r) r0 k) = jF (fun _ r => F r) r0 k ∨ k + 1 ≤ pcM (jF (fun _ r => F r) r0 k) n := by
    intro k
    induction k with
    | zero =>
      right
      have hlt := bits r0 i0 h0 hi
      have := pcM_lt (a := 0) (b := r0) (fun i h => by rw [Nat.zero_testBit] at h; cases h) hi (by rw [Nat.zero_testBit]; decide) n hlt
      show 0 + 1 ≤ pcM r0 n
      omega
    | succ k ih =>
      have e : jF (fun _ r => F r) r0 (k + 1) = F (jF (fun _ r => F r) r0 k) := rfl
      rcases ih with h | h
      · left; rw [e, h, h]
      · by_cases hf : F (jF (fun _ r => F r) r0 k) = jF (fun _ r => F r) r0 k
        · left; rw [e, hf, hf]
        · right
          have := grow _ (lt k) hf
          rw [e]; omega
  intro k hk
  rcases main k with h | h
  · exact h
  · by_cases hf : F (jF (fun _ r => F r) r0 k) = jF (fun _ r => F r) r0 k
    · exact hf
    · exfalso
      have h1 := grow _ (lt k) hf
      have h2 := pcM_top (a := F (jF (fun _ r => F r) r0 k)) n
      omega
def Cl (n : Nat) (nb : Nat → Nat) (r : Nat) : Prop := ∀ u w, u < n → r.testBit u = true → (nb u).testBit w = true → r.testBit w = true
def Sb (a b : Nat) : Prop := ∀ i, a.testBit i = true → b.testBit i = true
theorem Sb.eq {a b : Nat} (h1 : Sb a b) (h2 : Sb b a) : a = b := by
  apply Nat.eq_of_testBit_eq
  intro i
  cases ha : a.testBit i with
  | true => rw [h1 i ha]
  | false =>
    cases hb : b.testBit i with
    | false => rfl
    | true => rw [h2 i hb] at ha; cases ha
theorem re_min {n : Nat} {nb : Nat → Nat} {S v : Nat} (hS : Cl n nb S) (hv : S.testBit v = true) : ∀ k, Sb (jRe nb n v k) S
  | 0 => by
    intro i hi
    have hi : (2 ^ v).testBit i = true := hi
    rw [Nat.testBit_two_pow, decide_eq_true_eq] at hi
    subst hi; exact hv
  | k + 1 => by
    intro i hi
    have hi : (jRe nb n v k ||| jNo nb (jRe nb n v k) n).testBit i = true := hi
    rw [Nat.testBit_or, Bool.or_eq_true] at hi
    rcases hi with hi | hi
    · exact re_min hS hv k i hi
    · obtain ⟨u, h1, h2, h3⟩ := jNo_bit.mp hi
      exact hS u i h1 (re_min hS hv k u h2) h3
/-- one round of the reference's search for the component, k places long -/
def mRo (ed : Nat → Nat) (r k : Nat) : Nat := jF (fun k r => if ed k = 1 ∧ (r >>> (k / 8) &&& 1) = 1 then r ||| 2 ^ (k % 8) else r) r k
theorem mRo_s (ed : Nat → Nat) (r k : Nat) : mRo ed r (k + 1) = if ed k = 1 ∧ (mRo ed r k >>> (k / 8) &&& 1) = 1 then mRo ed r k ||| 2 ^ (k % 8) else mRo ed r k := rfl
theorem mRo_up {ed : Nat → Nat} {r : Nat} : ∀ k, Sb r (mRo ed r k)
  | 0 => fun _ h => h
  | k + 1 => by
    intro i hi
    have ih := mRo_up (ed := ed) (r := r) k i hi
    rw [mRo_s]
    split
    · rw [Nat.testBit_or, ih]; rfl
    · exact ih
theorem mRo_mono {ed : Nat → Nat} {r j : Nat} : ∀ k, Sb (mRo ed r j) (mRo ed r (j + k))
  | 0 => fun _ h => h
  | k + 1 => by
    intro i hi
    have ih := mRo_mono (ed := ed) (r := r) (j := j) k i hi
    show (mRo ed r ((j + k) + 1)).testBit i = true
    rw [mRo_s]
    split
    · rw [Nat.testBit_or, ih]; rfl
    · exact ih
theorem mRo_has {ed : Nat → Nat} {r u w : Nat} (hu : u < 8) (hw : w < 8) (h : r.testBit u = true) (he : ed (8 * u + w) = 1) : (mRo ed r 64).testBit w = true := by
  have h1 : (mRo ed r (8 * u + w + 1)).testBit w = true := by
    rw [mRo_s, show (8 * u + w) / 8 = u by omega, show (8 * u + w) % 8 = w by omega, if_pos ⟨he, by rw [bit_num, if_pos (mRo_up _ u h)]⟩, Nat.testBit_or, Nat.testBit_two_pow_self]
    simp
  obtain ⟨k, hk⟩ : ∃ k, 64 = (8 * u + w + 1) + k := ⟨64 - (8 * u + w + 1), by omega⟩
  rw [hk]
  exact mRo_mono k w h1
theorem mRo_in {n : Nat} {nb ed : Nat → Nat} (hR : Rel n nb ed) {S r : Nat} (hS : Cl n nb S) (hr : Sb r S) : ∀ k, k ≤ 64 → Sb (mRo ed r k) S
  | 0, _ => hr
  | k + 1, hk => by
    intro i hi
    have ih := mRo_in hR hS hr k (by omega)
    rw [mRo_s] at hi
    split at hi
    · rename_i hc
      rw [Nat.testBit_or, Bool.or_eq_true] at hi
      rcases hi with hi | hi
      · exact ih i hi
      · rw [Nat.testBit_two_pow, decide_eq_true_eq] at hi
        obtain ⟨h1, h2⟩ := hc
        obtain ⟨q1, q2, q3, q4, q5, q6⟩ := hR
        have hb : (mRo ed r k).testBit (k / 8) = true := by
          rw [bit_num] at h2
          split at h2
          · assumption
          · cases h2
        have e8 : 8 * (k / 8) + k % 8 = k := by omega
        have hu : k / 8 < n := by
          rcases Nat.lt_or_ge (k / 8) n with h | h
          · exact h
          · have := q5 (k / 8) (k % 8) (by omega) (by omega) h
            rw [e8] at this
            omega
        refine hS (k / 8) i hu (ih _ hb) ?_
        rw [q6 _ hu, ← hi, e8, h1, decide_eq_true (by omega)]
        rfl
    · exact ih i hi
def mRe (ed : Nat → Nat) (v k : Nat) : Nat := jF (fun _ r => mRo ed r 64) (2 ^ v) k
theorem lt_bits {a n : Nat} (h : ∀ i, a.testBit i = true → i < n) : a < 2 ^ n := by
  apply Nat.lt_pow_two_of_testBit
  intro i hi
  cases hb : a.testBit i with
  | false => rfl
  | true => have := h i hb; omega
theorem full_cl {n : Nat} {nb ed : Nat → Nat} (hR : Rel n nb ed) : Cl n nb (2 ^ n - 1) := by
  obtain ⟨q1, q2, q3, q4, q5, q6⟩ := hR
  intro u w hu _ hw
  rw [Nat.testBit_two_pow_sub_one, decide_eq_true_eq]
  rw [q6 u hu, Bool.and_eq_true, decide_eq_true_eq, decide_eq_true_eq] at hw
  rcases Nat.lt_or_ge w n with h | h
  · exact h
  · have h1 := q5 w u hw.1 (by omega) h
    have h2 := q3 w u hw.1 (by omega)
    omega
theorem sb_full {r n : Nat} (h : r < 2 ^ n) : Sb r (2 ^ n - 1) := by
  intro i hi
  rw [Nat.testBit_two_pow_sub_one, decide_eq_true_eq]
  rcases Nat.lt_or_ge i n with h1 | h1
  · exact h1
  · rw [Nat.testBit_lt_two_pow (Nat.lt_of_lt_of_le h (Nat.pow_le_pow_right (by omega) h1))] at hi
    cases hi
theorem full_lt {r n : Nat} (h : Sb r (2 ^ n - 1)) : r < 2 ^ n := lt_bits fun i hi => by
  have := h i hi
  rw [Nat.testBit_two_pow_sub_one, decide_eq_true_eq] at this
  exact this
/-- the two searches for the component end at one set -/
theorem re_eq {n : Nat} {nb ed : Nat → Nat} (hR : Rel n nb ed) {v : Nat} (hv : v < n) : jRe nb n v (n - 1) = mRe ed v n := by
  have hv2 : 2 ^ v < 2 ^ n := Nat.pow_lt_pow_right (by omega) hv
  have hself : (2 ^ v).testBit v = true := Nat.testBit_two_pow_self
  have hfull := full_cl hR
  have inC : ∀ r, r < 2 ^ n → r ||| jNo nb r n < 2 ^ n := fun r hr => full_lt fun i hi => by
    rw [Nat.testBit_or, Bool.or_eq_true] at hi
    rcases hi with hi | hi
    · exact sb_full hr i hi
    · obtain ⟨u, h1, h2, h3⟩ := jNo_bit.mp hi
      exact hfull u i h1 (sb_full hr u h2) h3
  have fC : jRe nb n v (n - 1) ||| jNo nb (jRe nb n v (n - 1)) n = jRe nb n v (n - 1) :=
    fix_it (F := fun r => r ||| jNo nb r n) (n := n) inC (fun r i h => by show (r ||| jNo nb r n).testBit i = true; rw [Nat.testBit_or, h]; rfl) hv2 hself (n - 1) (by omega)
  have fM : mRo ed (mRe ed v n) 64 = mRe ed v n :=
    fix_it (F := fun r => mRo ed r 64) (n := n) (fun r hr => full_lt (mRo_in hR hfull (sb_full hr) 64 (Nat.le_refl _))) (fun r i h => mRo_up 64 i h) hv2 hself n (by omega)
  have upC : ∀ k, (jRe nb n v k).testBit v = true := by
    intro k
    induction k with
    | zero => exact hself
    | succ k ih =>
      show (jRe nb n v k ||| _).testBit v = true
      rw [Nat.testBit_or, ih]; rfl
  have upM : ∀ k, (mRe ed v k).testBit v = true := by
    intro k
    induction k with
    | zero => exact hself
    | succ k ih => exact mRo_up 64 v ih
  have cC : Cl n nb (jRe nb n v (n - 1)) := by
    intro u w hu h1 h2
    rw [← fC, Nat.testBit_or, jNo_bit.mpr ⟨u, hu, h1, h2⟩, Bool.or_true]
  have cM : Cl n nb (mRe ed v n) := by
    intro u w hu h1 h2
    obtain ⟨q1, q2, q3, q4, q5, q6⟩ := hR
    rw [q6 u hu, Bool.and_eq_true, decide_eq_true_eq, decide_eq_true_eq] at h2
    rw [← fM]
    exact mRo_has (by omega) h2.1 h1 h2.2
  refine Sb.eq (re_min cM (upM n) _) ?_
  have : ∀ k, Sb (mRe ed v k) (jRe nb n v (n - 1)) := by
    intro k
    induction k with
    | zero =>
      intro i hi
      have hi : (2 ^ v).testBit i = true := hi
      rw [Nat.testBit_two_pow, decide_eq_true_eq] at hi
      subst hi; exact upC _
    | succ k ih => exact mRo_in hR cC ih 64 (Nat.le_refl _)
  exact this n
/-! sets that are apart, sets that are close -/
def mAlr (ed : Nat → Nat) (set how u k : Nat) (g : Bool) : Bool := jF (fun v g => g && (!set.testBit u || !set.testBit v || decide (ed (8 * u + v) = how))) g k
def mAl (ed : Nat → Nat) (set how n : Nat) : Bool := jF (fun u g => mAlr ed set how u u g) true n
theorem jF_and {p : Nat → Bool} {g : Bool} : ∀ {k : Nat}, jF (fun v g => g && p v) g k = true ↔ g = true ∧ ∀ v, v < k → p v = true
  | 0 => ⟨fun h => ⟨h, fun v hv => by omega⟩, fun h => h.1⟩
  | k + 1 => by
    have ih := jF_and (p := p) (g := g) (k := k)
    show (jF (fun v g => g && p v) g k && p k) = true ↔ _
    rw [Bool.and_eq_true, ih]
    constructor
    · rintro ⟨⟨h1, h2⟩, h3⟩
      exact ⟨h1, fun v hv => by
        by_cases e : v = k
        · subst e; exact h3
        · exact h2 v (by omega)⟩
    · rintro ⟨h1, h2⟩
      exact ⟨⟨h1, fun v hv => h2 v (by omega)⟩, h2 k (by omega)⟩
theorem mAl_iff {ed : Nat → Nat} {set how : Nat} : ∀ {n : Nat}, mAl ed set how n = true ↔ ∀ u v, u < n → v < u → set.testBit u = true → set.testBit v = true → ed (8 * u + v) = how
  | 0 => ⟨fun _ u v hu => by omega, fun _ => rfl⟩
  | n + 1 => by
    have ih := mAl_iff (ed := ed) (set := set) (how := how) (n := n)
    show mAlr ed set how n n (mAl ed set how n) = true ↔ _
    unfold mAlr
    rw [jF_and, ih]
    have one : ∀ v, ((!set.testBit n || !set.testBit v || decide (ed (8 * n + v) = how)) = true) ↔ (set.testBit n = true → set.testBit v = true → ed (8 * n + v) = how) := by
      intro v
      cases set.testBit n <;> cases set.testBit v <;> simp
    constructor
    · rintro ⟨h1, h2⟩ u v hu hv h3 h4
      by_cases e : u = n
      · subst e; exact (one v).mp (h2 v hv) h3 h4
      · exact h1 u v (by omega) hv h3 h4
    · intro h
      exact ⟨fun u v hu hv => h u v (by omega) hv, fun v hv => (one v).mpr (h n v (by omega) hv)⟩
theorem bit_in {set n w : Nat} (h : set < 2 ^ n) (hw : set.testBit w = true) : w < n := by
  have := sb_full h w hw
  rw [Nat.testBit_two_pow_sub_one, decide_eq_true_eq] at this
  exact this
theorem ap_eq {n : Nat} {nb ed : Nat → Nat} (hR : Rel n nb ed) {set : Nat} (hs : set < 2 ^ n) : jAp nb n set = mAl ed set 0 n := by
  obtain ⟨q1, q2, q3, q4, q5, q6⟩ := hR
  apply Bool.eq_iff_iff.mpr
  rw [mAl_iff]
  unfold jAp
  rw [decide_eq_true_eq]
  constructor
  · intro h u v hu hv h1 h2
    have h3 : (jNo nb set n &&& set).testBit v = false := by rw [h, Nat.zero_testBit]
    rw [Nat.testBit_and, h2, Bool.and_true] at h3
    have h4 := q2 (8 * u + v) (by omega)
    rcases Nat.lt_or_ge 0 (ed (8 * u + v)) with h5 | h5
    · exfalso
      have h6 : (jNo nb set n).testBit v = true := jNo_bit.mpr ⟨u, hu, h1, by rw [q6 u hu, decide_eq_true (by omega), decide_eq_true (by omega)]; rfl⟩
      rw [h6] at h3; cases h3
    · omega
  · intro h
    apply Nat.eq_of_testBit_eq
    intro w
    rw [Nat.testBit_and, Nat.zero_testBit]
    cases hw : set.testBit w with
    | false => rw [Bool.and_false]
    | true =>
      rw [Bool.and_true]
      cases hx : (jNo nb set n).testBit w with
      | false => rfl
      | true =>
        exfalso
        obtain ⟨u, h1, h2, h3⟩ := jNo_bit.mp hx
        rw [q6 u h1, Bool.and_eq_true, decide_eq_true_eq, decide_eq_true_eq] at h3
        have hwn := bit_in hs hw
        rcases Nat.lt_trichotomy u w with h4 | h4 | h4
        · have := h w u hwn h4 hw h2
          have := q3 w u h3.1 (by omega)
          omega
        · subst h4
          have := q4 u (by omega)
          omega
        · have := h u w h1 h4 h2 hw
          omega
theorem nt_bit {x w : Nat} (hw : w < 32) : (ntN x).testBit w = !x.testBit w := by
  unfold ntN
  rw [Nat.testBit_xor, show (4294967295 : Nat) = 2 ^ 32 - 1 by decide, Nat.testBit_two_pow_sub_one, decide_eq_true hw]
  cases x.testBit w <;> rfl
theorem cl_iff {nb : Nat → Nat} {set : Nat} : ∀ {n : Nat}, jCl nb set n = true ↔ ∀ v, v < n → set.testBit v = true → set &&& ntN (2 ^ v) &&& ntN (nb v) = 0
  | 0 => ⟨fun _ v hv => by omega, fun _ => rfl⟩
  | n + 1 => by
    have ih := cl_iff (nb := nb) (set := set) (n := n)
    show (jCl nb set n && !(set.testBit n && decide (¬ set &&& ntN (2 ^ n) &&& ntN (nb n) = 0))) = true ↔ _
    rw [Bool.and_eq_true, ih]
    have one : ((!(set.testBit n && decide (¬ set &&& ntN (2 ^ n) &&& ntN (nb n) = 0))) = true) ↔ (set.testBit n = true → set &&& ntN (2 ^ n) &&& ntN (nb n) = 0) := by
      by_cases h : set &&& ntN (2 ^ n) &&& ntN (nb n) = 0
      · simp [h]
      · cases set.testBit n <;> simp [h]
    constructor
    · rintro ⟨h1, h2⟩ v hv h3
      by_cases e : v = n
      · subst e; exact one.mp h2 h3
      · exact h1 v (by omega) h3
    · intro h
      exact ⟨fun v hv => h v (by omega), one.mpr (h n (by omega))⟩
theorem cl_eq {n : Nat} {nb ed : Nat → Nat} (hR : Rel n nb ed) {set : Nat} (hs : set < 2 ^ n) : jCl nb set n = mAl ed set 1 n := by
  obtain ⟨q1, q2, q3, q4, q5, q6⟩ := hR
  apply Bool.eq_iff_iff.mpr
  rw [mAl_iff, cl_iff]
  constructor
  · intro h u v hu hv h1 h2
    have h3 : (set &&& ntN (2 ^ u) &&& ntN (nb u)).testBit v = false := by rw [h u hu h1, Nat.zero_testBit]
    rw [Nat.testBit_and, Nat.testBit_and, nt_bit (by omega), nt_bit (by omega), h2, Nat.testBit_two_pow, decide_eq_false (by omega), q6 u hu, decide_eq_true (by omega : v < 8)] at h3
    simpa using h3
  · intro h v hv h1
    apply Nat.eq_of_testBit_eq
    intro w
    rw [Nat.testBit_and, Nat.testBit_and, Nat.zero_testBit]
    cases hw : set.testBit w with
    | false => rfl
    | true =>
      have hwn := bit_in hs hw
      rw [nt_bit (by omega), nt_bit (by omega), Nat.testBit_two_pow]
      rcases Nat.lt_trichotomy v w with h4 | h4 | h4
      · have h5 := h w v hwn h4 hw h1
        have h6 := q3 w v (by omega) (by omega)
        rw [q6 v hv, decide_eq_true (by omega : w < 8), ← h6, h5]
        simp
      · subst h4
        simp
      · have h5 := h v w hv h4 h1 hw
        rw [q6 v hv, decide_eq_true (by omega : w < 8), h5]
        simp
theorem best_eq {P Q : Nat → Bool} {N : Nat} (h : ∀ k, k < N → P k = Q k) : jBest P N = jBest Q N := jF_congr fun k x hk => by rw [h k hk]
