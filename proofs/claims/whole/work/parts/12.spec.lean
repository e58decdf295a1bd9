/-! pure words -/
def lp {σ : Type} (f : Nat → σ → σ) : Nat → σ → σ
  | 0, s => s
  | n + 1, s => f n (lp f n s)
def updN (f : Nat → Nat) (k x : Nat) : Nat → Nat := fun j => if j = k then x else f j
theorem updN_I (f : Nat → Nat) (k x : Nat) : upd (fun j => nI (f j)) k (nI x) = fun j => nI (updN f k x j) := by
  funext j
  unfold upd updN
  split <;> rfl
theorem updN_s (f : Nat → Nat) (k x : Nat) : updN f k x k = x := by simp [updN]
theorem updN_n (f : Nat → Nat) (k x : Nat) {j : Nat} (h : j ≠ k) : updN f k x j = f j := by simp [updN, h]
/-- a bit of a row of bytes, the highest of each first; n bits from a place on -/
def bitAt (T : Nat → Nat) (q : Nat) : Nat := T (q / 8) / 2 ^ (7 - q % 8) % 2
def bitsV (T : Nat → Nat) (P n : Nat) : Nat := lp (fun i x => 2 * x + bitAt T (P + i)) n 0
theorem bitAt_lt (T : Nat → Nat) (q : Nat) : bitAt T q < 2 := Nat.mod_lt _ (by omega)
theorem bitsV_s (T : Nat → Nat) (P n : Nat) : bitsV T P (n + 1) = 2 * bitsV T P n + bitAt T (P + n) := rfl
theorem bitsV_lt (T : Nat → Nat) (P n : Nat) : bitsV T P n < 2 ^ n := by
  induction n with
  | zero => exact Nat.one_pos
  | succ n ih => rw [bitsV_s]; have := bitAt_lt T (P + n); rw [Nat.pow_succ]; omega
theorem nI_or (a b : Nat) : nI a ||| nI b = nI (a ||| b) := by
  apply Int32.toBitVec_inj.mp
  show BitVec.ofNat 32 a ||| BitVec.ofNat 32 b = BitVec.ofNat 32 (a ||| b)
  exact (BitVec.ofNat_or).symm
theorem or1 (v b : Nat) (h : b < 2) : nI (v * 2) ||| nI b = nI (2 * v + b) := by
  rw [nI_or]
  congr 1
  have e := Nat.shiftLeft_add_eq_or_of_lt (i := 1) (b := b) (by omega) v
  rw [Nat.shiftLeft_eq, show v * 2 ^ 1 = v * 2 from rfl] at e
  omega
def tkV (T : Nat → Nat) (P lim pos cnt : Nat) : Nat := if pos + cnt ≤ lim then bitsV T (P + pos) cnt else 0
def tkP (lim pos cnt : Nat) : Nat := if pos + cnt ≤ lim then pos + cnt else pos
def tkB (lim pos cnt b : Nat) : Nat := if pos + cnt ≤ lim then b else 1
theorem tkP_le {lim pos cnt : Nat} (h : pos ≤ lim) : tkP lim pos cnt ≤ lim := by unfold tkP; split <;> omega
theorem tkB_lt {lim pos cnt b : Nat} (h : b < 2) : tkB lim pos cnt b < 2 := by unfold tkB; split <;> omega
theorem tkV_lt (T : Nat → Nat) (P lim pos cnt : Nat) : tkV T P lim pos cnt < 2 ^ cnt := by unfold tkV; split; exact bitsV_lt _ _ _; exact Nat.two_pow_pos _
theorem max_nI {a b : Nat} (ha : a < 2 ^ 31) (hb : b < 2 ^ 31) : (if nI a < nI b then nI b else nI a) = nI (max a b) := by
  by_cases h : a < b
  · rw [if_pos ((nI_ltI ha hb).mpr h), Nat.max_eq_right (Nat.le_of_lt h)]
  · rw [if_neg (fun q => h ((nI_ltI ha hb).mp q)), Nat.max_eq_left (Nat.le_of_not_lt h)]
theorem min_nI {a b : Nat} (ha : a < 2 ^ 31) (hb : b < 2 ^ 31) : (if nI b < nI a then nI b else nI a) = nI (min a b) := by
  by_cases h : b < a
  · rw [if_pos ((nI_ltI hb ha).mpr h), Nat.min_eq_right (Nat.le_of_lt h)]
  · rw [if_neg (fun q => h ((nI_ltI hb ha).mp q)), Nat.min_eq_left (Nat.le_of_not_lt h)]
