/-! loose ends and the barrier, of one naming -/
def mEn (lo hi : Nat → Nat) (set n : Nat) : Nat := jF (fun v acc => if set.testBit v = true then acc ||| 2 ^ lo v ||| 2 ^ hi v else acc) 0 n
def mLo (ed lo hi : Nat → Nat) (n us g k : Nat) : Nat := jF (fun set acc => if pcN set = g ∧ mAl ed set 0 n = true then acc ||| ((2 ^ us - 1) &&& ntN (mEn lo hi set n)) else acc) 0 k
theorem en_eq {lo hi lo' hi' : Nat → Nat} {set n : Nat} (h : ∀ v, v < n → lo v = lo' v ∧ hi v = hi' v) : jEn lo hi set n = mEn lo' hi' set n := by
  refine jF_congr fun v x hv => ?_
  unfold jPa
  rw [(h v hv).1, (h v hv).2, Nat.or_assoc]
theorem lo_eq {n us g : Nat} {nb ed lo hi lo' hi' : Nat → Nat} (hR : Rel n nb ed) (h : ∀ v, v < n → lo v = lo' v ∧ hi v = hi' v) {k : Nat} (hk : k ≤ 2 ^ n) : jLo nb lo hi n us g k = mLo ed lo' hi' n us g k := by
  refine jF_congr fun set x hs => ?_
  rw [ap_eq hR (Nat.lt_of_lt_of_le hs hk), en_eq h]
def mBa (lo hi : Nat → Nat) (x n : Nat) : Nat := jF (fun v acc => (fun acc => if 2 ^ hi v &&& x = 0 then acc else acc ||| 2 ^ lo v) (if 2 ^ lo v &&& x = 0 then acc else acc ||| 2 ^ hi v)) 0 n
theorem bit_z {x k : Nat} : (2 ^ k &&& x = 0) ↔ x.testBit k = false := by
  rw [Nat.and_comm]; exact nb_bit x k
theorem ba_bits {lo hi : Nat → Nat} {x w : Nat} (hw : x.testBit w = false) : ∀ n, (jBa lo hi x n).testBit w = (mBa lo hi x n).testBit w
  | 0 => rfl
  | n + 1 => by
    have ih := ba_bits (lo := lo) (hi := hi) hw n
    have e1 : jBa lo hi x (n + 1) = if jPa lo hi n &&& x = 0 then jBa lo hi x n else jBa lo hi x n ||| jPa lo hi n := rfl
    have e2 : mBa lo hi x (n + 1) = (fun acc => if 2 ^ hi n &&& x = 0 then acc else acc ||| 2 ^ lo n) (if 2 ^ lo n &&& x = 0 then mBa lo hi x n else mBa lo hi x n ||| 2 ^ hi n) := rfl
    have e3 : (jPa lo hi n &&& x = 0) ↔ (x.testBit (lo n) = false ∧ x.testBit (hi n) = false) := by
      unfold jPa
      rw [Nat.and_or_distrib_right]
      constructor
      · intro h
        exact ⟨bit_z.mp (Nat.or_eq_zero_iff.mp h).1, bit_z.mp (Nat.or_eq_zero_iff.mp h).2⟩
      · intro h
        rw [bit_z.mpr h.1, bit_z.mpr h.2]
        rfl
    rw [e1, e2]
    show _ = (if 2 ^ hi n &&& x = 0 then (if 2 ^ lo n &&& x = 0 then mBa lo hi x n else mBa lo hi x n ||| 2 ^ hi n) else (if 2 ^ lo n &&& x = 0 then mBa lo hi x n else mBa lo hi x n ||| 2 ^ hi n) ||| 2 ^ lo n).testBit w
    by_cases h1 : x.testBit (lo n) = false
    · by_cases h2 : x.testBit (hi n) = false
      · rw [if_pos (e3.mpr ⟨h1, h2⟩), if_pos (bit_z.mpr h2), if_pos (bit_z.mpr h1)]
        exact ih
      · rw [if_neg (fun h => h2 (e3.mp h).2), if_neg (fun h => h2 (bit_z.mp h)), if_pos (bit_z.mpr h1)]
        unfold jPa
        rw [Nat.testBit_or, Nat.testBit_or, Nat.testBit_or, ih, Nat.testBit_two_pow, Nat.testBit_two_pow]
        have : hi n ≠ w := fun h => by subst h; exact h2 hw
        simp [this]
    · by_cases h2 : x.testBit (hi n) = false
      · rw [if_neg (fun h => h1 (e3.mp h).1), if_pos (bit_z.mpr h2), if_neg (fun h => h1 (bit_z.mp h))]
        unfold jPa
        rw [Nat.testBit_or, Nat.testBit_or, Nat.testBit_or, ih, Nat.testBit_two_pow, Nat.testBit_two_pow]
        have : lo n ≠ w := fun h => by subst h; exact h1 hw
        simp [this]
      · rw [if_neg (fun h => h1 (e3.mp h).1), if_neg (fun h => h2 (bit_z.mp h)), if_neg (fun h => h1 (bit_z.mp h))]
        unfold jPa
        rw [Nat.testBit_or, Nat.testBit_or, Nat.testBit_or, Nat.testBit_or, ih, Nat.testBit_two_pow, Nat.testBit_two_pow]
        have h3 : lo n ≠ w := fun h => by subst h; exact h1 hw
        have h4 : hi n ≠ w := fun h => by subst h; exact h2 hw
        simp [h3, h4]
theorem jBa_congr {lo hi lo' hi' : Nat → Nat} {x n : Nat} (h : ∀ v, v < n → lo v = lo' v ∧ hi v = hi' v) : jBa lo hi x n = jBa lo' hi' x n := by
  refine jF_congr fun v a hv => ?_
  unfold jPa
  rw [(h v hv).1, (h v hv).2]
theorem ba_eq {lo hi lo' hi' : Nat → Nat} {x n : Nat} (h : ∀ v, v < n → lo v = lo' v ∧ hi v = hi' v) (hl : ∀ v, v < n → lo v < 16 ∧ hi v < 16) (hx : x < 65536) : jBa lo hi x n &&& ntN x = mBa lo' hi' x n &&& ntN x := by
  rw [jBa_congr h]
  apply Nat.eq_of_testBit_eq
  intro w
  rw [Nat.testBit_and, Nat.testBit_and]
  cases hw : x.testBit w with
  | false => rw [ba_bits hw n]
  | true =>
    have h32 : w < 32 := by
      rcases Nat.lt_or_ge w 32 with h | h
      · exact h
      · rw [Nat.testBit_lt_two_pow (Nat.lt_of_lt_of_le hx (Nat.le_trans (show 65536 ≤ 2 ^ 32 by decide) (Nat.pow_le_pow_right (by omega) h)))] at hw
        cases hw
    rw [nt_bit h32, hw]
    simp
