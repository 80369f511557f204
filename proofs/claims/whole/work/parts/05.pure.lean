/-! What the class's methods answer, in numbers alone. n: the vertices; nb v: the neighbours of v as a mask; lo, hi, ho, us: the rows of the search. -/
def ntN (a : Nat) : Nat := a ^^^ 4294967295
/-- how many members, as the reference counts them -/
def pcN (a : Nat) : Nat := jF (fun k c => c + (a >>> k &&& 1)) 0 16
/-- the least member at k or behind it -/
def tzG (a : Nat) : Nat → Nat → Nat
  | 0, k => k
  | f + 1, k => if a.testBit k = true then k else tzG a f (k + 1)
def tzN (a : Nat) : Nat := tzG a 8 0
def jNo (nb : Nat → Nat) (set n : Nat) : Nat := jF (fun v acc => if set.testBit v = true then acc ||| nb v else acc) 0 n
def jAp (nb : Nat → Nat) (n set : Nat) : Bool := decide (jNo nb set n &&& set = 0)
def jCl (nb : Nat → Nat) (set n : Nat) : Bool := jF (fun v b => b && !(set.testBit v && decide (¬ set &&& ntN (2 ^ v) &&& ntN (nb v) = 0))) true n
def jSu (nb : Nat → Nat) (n : Nat) : Nat := jF (fun v c => c + pcN (nb v)) 0 n
def jRe (nb : Nat → Nat) (n v k : Nat) : Nat := jF (fun _ r => r ||| jNo nb r n) (2 ^ v) k
def jBest (P : Nat → Bool) (k : Nat) : Nat := jF (fun set best => if pcN best < pcN set ∧ P set = true then set else best) 0 k
def jPa (lo hi : Nat → Nat) (v : Nat) : Nat := 2 ^ lo v ||| 2 ^ hi v
def jEn (lo hi : Nat → Nat) (set n : Nat) : Nat := jF (fun v acc => if set.testBit v = true then acc ||| jPa lo hi v else acc) 0 n
def jLo (nb lo hi : Nat → Nat) (n us g k : Nat) : Nat := jF (fun set acc => if pcN set = g ∧ jAp nb n set = true then acc ||| ((2 ^ us - 1) &&& ntN (jEn lo hi set n)) else acc) 0 k
def jBa (lo hi : Nat → Nat) (x n : Nat) : Nat := jF (fun v acc => if jPa lo hi v &&& x = 0 then acc else acc ||| jPa lo hi v) 0 n
theorem jNo_lt {nb : Nat → Nat} {set : Nat} : ∀ {n : Nat}, (∀ v, v < n → nb v < 256) → jNo nb set n < 256
  | 0, _ => by show (0 : Nat) < 256; omega
  | n + 1, h => by
    have ih := jNo_lt (nb := nb) (set := set) (n := n) (fun v hv => h v (by omega))
    have e : jNo nb set (n + 1) = if set.testBit n = true then jNo nb set n ||| nb n else jNo nb set n := rfl
    rw [e]
    split
    · exact Nat.or_lt_two_pow (n := 8) ih (h n (by omega))
    · exact ih
theorem pcN_le (a : Nat) : pcN a ≤ 16 := by
  have h : ∀ n, jF (fun k c => c + (a >>> k &&& 1)) 0 n ≤ n := by
    intro n
    induction n with
    | zero => exact Nat.le_refl _
    | succ n ih =>
      have h1 : (a >>> n &&& 1) ≤ 1 := Nat.and_le_right
      show jF (fun k c => c + (a >>> k &&& 1)) 0 n + (a >>> n &&& 1) ≤ n + 1
      omega
  exact h 16
theorem jSu_le {nb : Nat → Nat} : ∀ n, jSu nb n ≤ 16 * n
  | 0 => Nat.le_refl _
  | n + 1 => by
    have ih := jSu_le (nb := nb) n
    have h1 := pcN_le (nb n)
    show jSu nb n + pcN (nb n) ≤ 16 * (n + 1)
    omega
theorem jRe_lt {nb : Nat → Nat} {n v : Nat} (hn : ∀ u, u < n → nb u < 256) (hv : v < 8) : ∀ k, jRe nb n v k < 256
  | 0 => by
    show 2 ^ v < 2 ^ 8
    exact Nat.pow_lt_pow_right (by omega) hv
  | k + 1 => Nat.or_lt_two_pow (n := 8) (jRe_lt hn hv k) (jNo_lt hn)
theorem jBest_lt {P : Nat → Bool} : ∀ k, k ≤ 256 → jBest P k < 256
  | 0, _ => by show (0 : Nat) < 256; omega
  | k + 1, h => by
    have ih := jBest_lt (P := P) k (by omega)
    have e : jBest P (k + 1) = if pcN (jBest P k) < pcN k ∧ P k = true then k else jBest P k := rfl
    rw [e]
    split
    · omega
    · exact ih
theorem ntN_lt {a : Nat} (h : a < 4294967296) : ntN a < 4294967296 := Nat.xor_lt_two_pow (n := 32) h (by omega)
theorem pw_lt {k b : Nat} (h : k < b) : 2 ^ k < 2 ^ b := Nat.pow_lt_pow_right (by omega) h
theorem pw_le {k b : Nat} (h : k ≤ b) : 2 ^ k ≤ 2 ^ b := Nat.pow_le_pow_right (by omega) h
theorem pw_8 {k : Nat} (h : k ≤ 8) : 2 ^ k ≤ 256 := pw_le h
theorem pw_7 {k : Nat} (h : k < 8) : 2 ^ k < 256 := pw_lt (b := 8) h
theorem pw_16 {k : Nat} (h : k < 16) : 2 ^ k < 65536 := pw_lt (b := 16) h
theorem and_lt {a b N : Nat} (h : a < N) : a &&& b < N := Nat.lt_of_le_of_lt Nat.and_le_left h
theorem or_8 {a b : Nat} (ha : a < 256) (hb : b < 256) : a ||| b < 256 := Nat.or_lt_two_pow (n := 8) ha hb
theorem or_16 {a b : Nat} (ha : a < 65536) (hb : b < 65536) : a ||| b < 65536 := Nat.or_lt_two_pow (n := 16) ha hb
/-! the search: candidates in their order; nm: what has been named, the last one first -/
def scB {β : Type} (t : Nat → Nat → Option β) (a : Nat) : Nat → Nat → Option β
  | 0, _ => none
  | c + 1, b => match t a b with
    | some r => some r
    | none => scB t a c (b + 1)
def scA {β : Type} (t : Nat → Nat → Option β) (us : Nat) : Nat → Nat → Option β
  | 0, _ => none
  | c + 1, a => match scB t a (max us (a + 1) - a) (a + 1) with
    | some r => some r
    | none => scA t us c (a + 1)
def shN (a b x y : Nat) : Nat := (if a = x ∨ a = y then 1 else 0) + (if b = x ∨ b = y then 1 else 0)
def okN (ed : Nat → Nat → Nat) (v : Nat) (nm : List (Nat × Nat × Nat)) (a b : Nat) : Bool := nm.all (fun q => decide (shN a b q.2.1 q.2.2 = ed v q.1))
def srN (ed : Nat → Nat → Nat) : List Nat → List (Nat × Nat × Nat) → Nat → Option (List (Nat × Nat × Nat) × Nat)
  | [], nm, us => some (nm, us)
  | v :: r, nm, us => scA (fun a b => if okN ed v nm a b = true then srN ed r ((v, a, b) :: nm) (max us (b + 1)) else none) us (us + 1) 0
/-- the members of a set at v or behind it, k numbers long -/
def meN (set : Nat) : Nat → Nat → List Nat
  | 0, _ => []
  | k + 1, v => if set.testBit v = true then v :: meN set k (v + 1) else meN set k (v + 1)
