/-! the reference's read, whole -/
def jB (AL SE ST FA CO : Nat → Nat → Nat) : Prop := (∀ i j, AL i j < 16) ∧ (∀ i j, SE i j < 4) ∧ (∀ i j, stOK (ST i j)) ∧ (∀ i j, FA i j < 64) ∧ ∀ i j, CO i j < 65536
def qA (T : Nat → Nat) (fi sz ly bn ch bd pr : Nat) (AL : Nat → Nat → Nat) : RS := lp (rAb T (8 * (fi + sz)) ly (fT bn) bd ch) bn (8 * fi + (if pr = 0 then 32 else 48), 0, crcB T (8 * fi + 16) 16 65535, AL)
def qS (T : Nat → Nat) (fi sz ly bn ch bd pr : Nat) (AL SE : Nat → Nat → Nat) : RS := lp (rSb T (8 * (fi + sz)) (qA T fi sz ly bn ch bd pr AL).2.2.2 ch) (if ly = 2 then bn else 0) ((qA T fi sz ly bn ch bd pr AL).1, (qA T fi sz ly bn ch bd pr AL).2.1, (qA T fi sz ly bn ch bd pr AL).2.2.1, SE)
noncomputable def qT (T : Nat → Nat) (fi sz ly bn ch bd pr : Nat) (AL ST : Nat → Nat → Nat) : Nat → Nat → Nat := lp (rTc ly (fT bn) bn (qA T fi sz ly bn ch bd pr AL).2.2.2) ch ST
noncomputable def qF (T : Nat → Nat) (fi sz ly bn ch bd pr : Nat) (AL SE ST FA : Nat → Nat → Nat) : RS := lp (rFb T (8 * (fi + sz)) ly (qT T fi sz ly bn ch bd pr AL ST) (qS T fi sz ly bn ch bd pr AL SE).2.2.2 ch) bn ((qS T fi sz ly bn ch bd pr AL SE).1, (qS T fi sz ly bn ch bd pr AL SE).2.1, 1, FA)
noncomputable def qC (T : Nat → Nat) (fi sz ly bn ch bd pr : Nat) (AL SE ST FA CO : Nat → Nat → Nat) : RS :=
  if ly = 1 then lp (rO1t T (8 * (fi + sz)) (qT T fi sz ly bn ch bd pr AL ST) bd ch bn) k12 ((qF T fi sz ly bn ch bd pr AL SE ST FA).1, (qF T fi sz ly bn ch bd pr AL SE ST FA).2.1, 1, CO)
  else lp (rO2t T (8 * (fi + sz)) (qT T fi sz ly bn ch bd pr AL ST) bd ch bn) k12 ((qF T fi sz ly bn ch bd pr AL SE ST FA).1, (qF T fi sz ly bn ch bd pr AL SE ST FA).2.1, 1, CO)
theorem rT_at {ly ft bn ch : Nat} {AL ST : Nat → Nat → Nat} {c b : Nat} (hc : c < ch) (hb : b < 32) : lp (rTc ly ft bn AL) ch ST c b = stepL ly ft b (if b < bn then AL c b else 0) := by
  have h32 := k32_eq
  have h : ∀ i j, i < ch → j < 32 → lp (rTc ly ft bn AL) ch ST i j = stepL ly ft j (if j < bn then AL i j else 0) :=
    lp_invN (fun c (ST : Nat → Nat → Nat) => ∀ i j, i < c → j < 32 → ST i j = stepL ly ft j (if j < bn then AL i j else 0)) (fun i j h _ => by omega) (fun c ST _ h => by
      have k : ∀ i j, (i < c ∧ j < 32) ∨ (i = c ∧ j < k32) → lp (rTb ly ft bn AL c) k32 ST i j = stepL ly ft j (if j < bn then AL i j else 0) :=
        lp_invN (fun b (ST : Nat → Nat → Nat) => ∀ i j, (i < c ∧ j < 32) ∨ (i = c ∧ j < b) → ST i j = stepL ly ft j (if j < bn then AL i j else 0)) (fun i j q => by
          rcases q with q | q
          · exact h i j q.1 q.2
          · omega) (fun b ST _ h i j q => by
          unfold rTb
          rw [updN2_at]
          split
          · next z => rw [z.1, z.2]
          · exact h i j (by omega))
      intro i j hi hj
      exact k i j (by omega))
  exact h c b hc hb
