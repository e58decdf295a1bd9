/-- what the reference's read tells -/
def rdP (T : Nat → Nat) (fi sz ly bn ch bd pr : Nat) (AL SE ST FA CO : Nat → Nat → Nat) (oq : Nat) (ST1 FA1 CO1 : Nat → Nat → Nat) : Prop :=
  ((qS T fi sz ly bn ch bd pr AL SE).2.1 ≠ 0 ∧ oq = 2) ∨
  ((qS T fi sz ly bn ch bd pr AL SE).2.1 = 0 ∧ ¬ (pr = 0 ∨ (if pr = 0 then 0 else bitsV T (8 * fi + 32) 16) = (qS T fi sz ly bn ch bd pr AL SE).2.2.1) ∧ oq = 1) ∨
  ((qS T fi sz ly bn ch bd pr AL SE).2.1 = 0 ∧ (pr = 0 ∨ (if pr = 0 then 0 else bitsV T (8 * fi + 32) 16) = (qS T fi sz ly bn ch bd pr AL SE).2.2.1) ∧ (ly = 1 ∧ ∃ i j, i < ch ∧ j < bn ∧ (qA T fi sz ly bn ch bd pr AL).2.2.2 i j = 15) ∧ oq = 2) ∨
  ((qS T fi sz ly bn ch bd pr AL SE).2.1 = 0 ∧ (pr = 0 ∨ (if pr = 0 then 0 else bitsV T (8 * fi + 32) 16) = (qS T fi sz ly bn ch bd pr AL SE).2.2.1) ∧ (ly = 1 → ∀ i j, i < ch → j < bn → (qA T fi sz ly bn ch bd pr AL).2.2.2 i j ≠ 15) ∧ ¬ ((qF T fi sz ly bn ch bd pr AL SE ST FA).2.2.1 ≠ 0 ∧ (qC T fi sz ly bn ch bd pr AL SE ST FA CO).2.2.1 ≠ 0 ∧ (qC T fi sz ly bn ch bd pr AL SE ST FA CO).2.1 = 0) ∧ oq = 2) ∨
  ((qS T fi sz ly bn ch bd pr AL SE).2.1 = 0 ∧ (pr = 0 ∨ (if pr = 0 then 0 else bitsV T (8 * fi + 32) 16) = (qS T fi sz ly bn ch bd pr AL SE).2.2.1) ∧ (ly = 1 → ∀ i j, i < ch → j < bn → (qA T fi sz ly bn ch bd pr AL).2.2.2 i j ≠ 15) ∧ ((qF T fi sz ly bn ch bd pr AL SE ST FA).2.2.1 ≠ 0 ∧ (qC T fi sz ly bn ch bd pr AL SE ST FA CO).2.2.1 ≠ 0 ∧ (qC T fi sz ly bn ch bd pr AL SE ST FA CO).2.1 = 0) ∧ oq = 0 ∧ ST1 = qT T fi sz ly bn ch bd pr AL ST ∧ FA1 = (qF T fi sz ly bn ch bd pr AL SE ST FA).2.2.2 ∧ CO1 = (qC T fi sz ly bn ch bd pr AL SE ST FA CO).2.2.2)
theorem Wd.blkA {g : GT} {A : Nat → Prop} {H0 : Heap} {a b : va_W} {bs b1 b2 : List va_W} {H : Heap} {locs : List Loc} (hw : Wd g A H0 ((a ++ b) ++ bs.flatten) H locs) (n : Nat) (hn : bs.length = n) (is : List Nat) (hp : is.isPerm (List.range n) = true) (hs : is.map (fun i => bs[i]?) = (b1 ++ b2).map some) : Wd g A H0 ((a ++ b1.flatten) ++ (b ++ b2.flatten)) H locs := by
  subst hn
  refine hw.perm ?_
  have h1 := (isp is hp hs).flatten
  rw [List.flatten_append] at h1
  refine (List.Perm.append_left (a ++ b) h1).trans ?_
  rw [List.append_assoc, List.append_assoc]
  refine List.Perm.append_left a ?_
  rw [← List.append_assoc, ← List.append_assoc]
  exact List.Perm.append_right b2.flatten List.perm_append_comm
theorem Wd.blkB {g : GT} {A : Nat → Prop} {H0 : Heap} {a b : va_W} {bs b1 b2 : List va_W} {H : Heap} {locs : List Loc} (hw : Wd g A H0 ((a ++ b1.flatten) ++ (b ++ b2.flatten)) H locs) (n : Nat) (hn : bs.length = n) (is : List Nat) (hp : is.isPerm (List.range n) = true) (hs : is.map (fun i => bs[i]?) = (b1 ++ b2).map some) : Wd g A H0 ((a ++ b) ++ bs.flatten) H locs := by
  subst hn
  refine hw.perm ?_
  have h1 := (isp is hp hs).flatten
  rw [List.flatten_append] at h1
  refine List.Perm.trans ?_ (List.Perm.append_left (a ++ b) h1.symm)
  rw [List.append_assoc, List.append_assoc]
  refine List.Perm.append_left a ?_
  rw [← List.append_assoc, ← List.append_assoc]
  exact List.Perm.append_right b2.flatten List.perm_append_comm
