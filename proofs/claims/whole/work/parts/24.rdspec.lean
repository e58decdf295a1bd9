/-! loops with a state -/
section LSS
variable {p : Program} {l : Launch} {e : Env} {R : Room} {s : State} {m : MethodId} {args : Array Value} {below : List Frame} {meth : Method} {c : Code} {H : Heap} {locs : List Loc} {cells slots : Nat} {Q : State → Prop} {pc : Nat} {ls : Array Slot} {rest : List Value}
theorem lps {σ : Type} (F : Nat → σ → σ) (J : Nat → σ → Prop) (I : Nat → σ → Heap → List Loc → Array Slot → Prop) (N : Nat) (x0 : σ)
    (ex : ∀ x : σ, J N x → x = lp F N x0 → ∀ (H : Heap) (locs : List Loc) (ls : Array Slot), I N x H locs ls → W p l e R s m args below meth c H locs cells slots Q (F0 m pc ls rest))
    (st : ∀ (i : Nat) (x : σ), i < N → J i x → x = lp F i x0 → ∀ (H : Heap) (locs : List Loc) (ls : Array Slot), I i x H locs ls → (J (i + 1) (F i x) → ∀ (H : Heap) (locs : List Loc) (ls : Array Slot), I (i + 1) (F i x) H locs ls → W p l e R s m args below meth c H locs cells slots Q (F0 m pc ls rest)) → W p l e R s m args below meth c H locs cells slots Q (F0 m pc ls rest))
    (h0 : J 0 x0) (hI : I 0 x0 H locs ls) : W p l e R s m args below meth c H locs cells slots Q (F0 m pc ls rest) := by
  refine lpw (I := fun i H locs ls => J i (lp F i x0) ∧ I i (lp F i x0) H locs ls) N ?_ ?_ 0 (Nat.zero_le _) ⟨h0, hI⟩
  · intro H locs ls h
    exact ex _ h.1 rfl H locs ls h.2
  · intro i H locs ls hi h K
    exact st i _ hi h.1 rfl H locs ls h.2 (fun hJ H locs ls h2 => K H locs ls ⟨hJ, h2⟩)
end LSS
/-! which table, how many bits, which steps -/
def stepT (ft b : Nat) : Nat := if ft = 0 then (if b < 2 then 6 else 7) else if b < 11 then (if b < 3 then 2 else 3) else if b < 23 then 4 else 5
theorem stepT_in (ft b : Nat) : 2 ≤ stepT ft b ∧ stepT ft b ≤ 7 := by unfold stepT; (repeat' split) <;> omega
def aBits (ly ft b : Nat) : Nat := if ly = 1 then 4 else if ft = 0 then (if b < 2 then 4 else 3) else if b < 11 then 4 else if b < 23 then 3 else 2
theorem aBits_le (ly ft b : Nat) : aBits ly ft b ≤ 4 := by unfold aBits; (repeat' split) <;> omega
theorem six {P : Nat → Prop} (h2 : P 2) (h3 : P 3) (h4 : P 4) (h5 : P 5) (h6 : P 6) (h7 : P 7) {k : Nat} (h : 2 ≤ k ∧ k ≤ 7) : P k := by
  obtain rfl | rfl | rfl | rfl | rfl | rfl : k = 2 ∨ k = 3 ∨ k = 4 ∨ k = 5 ∨ k = 6 ∨ k = 7 := by omega
  all_goals assumption
theorem tab_nn {k : Nat} (h : 2 ≤ k ∧ k ≤ 7) : (tab k).all (fun x => decide (0 ≤ x)) = true := six (P := fun k => (tab k).all (fun x => decide (0 ≤ x)) = true) (by decide) (by decide) (by decide) (by decide) (by decide) (by decide) h
theorem tab_16 {k : Nat} (h : 2 ≤ k ∧ k ≤ 7) : (tab k).all (fun x => decide (x ≤ ((16 : Nat) : Int))) = true := six (P := fun k => (tab k).all (fun x => decide (x ≤ ((16 : Nat) : Int))) = true) (by decide) (by decide) (by decide) (by decide) (by decide) (by decide) h
theorem tab_len {k : Nat} (h : 2 ≤ k ∧ k ≤ 7) : (tab k).length ≤ 15 := six (P := fun k => (tab k).length ≤ 15) (by decide) (by decide) (by decide) (by decide) (by decide) (by decide) h
theorem aBits_bc (ft b : Nat) : bcI (nI (tab (stepT ft b)).length) = nI (if ft = 0 then (if b < 2 then 4 else 3) else if b < 11 then 4 else if b < 23 then 3 else 2) := by
  unfold stepT
  (repeat' split) <;> first | omega | decide +kernel
def stN (n : Nat) : Nat := if n < 4 then 2 * n + 3 else 2 ^ n - 1
def stepL (ly ft b al : Nat) : Nat := if al = 0 then 0 else if ly = 1 then (if al < 15 then 2 ^ (al + 1) - 1 else 0) else if al ≤ (tab (stepT ft b)).length then stN (tN (stepT ft b) (al - 1)) else 0
def stepB (ly ft b al : Nat) : Nat := if al = 0 then 0 else if ly = 1 then (if al < 15 then 0 else 1) else if al ≤ (tab (stepT ft b)).length then 0 else 1
def stOK (x : Nat) : Prop := x = 5 ∨ x = 9 ∨ ∃ k, k ≤ 16 ∧ x = 2 ^ k - 1
theorem stOK_le {x : Nat} (h : stOK x) : x ≤ 65535 := by
  rcases h with rfl | rfl | ⟨k, hk, rfl⟩
  · omega
  · omega
  · have := Nat.pow_le_pow_right (n := 2) (by omega) hk; omega
theorem stN_OK {n : Nat} (h : n ≤ 16) : stOK (stN n) := by
  unfold stN
  split
  · obtain rfl | rfl | rfl | rfl : n = 0 ∨ n = 1 ∨ n = 2 ∨ n = 3 := by omega
    · exact Or.inr (Or.inr ⟨2, by omega, rfl⟩)
    · exact Or.inl rfl
    · exact Or.inr (Or.inr ⟨3, by omega, rfl⟩)
    · exact Or.inr (Or.inl rfl)
  · exact Or.inr (Or.inr ⟨n, h, rfl⟩)
theorem stOK0 : stOK 0 := Or.inr (Or.inr ⟨0, by omega, rfl⟩)
theorem stepL_OK (ly ft b al : Nat) : stOK (stepL ly ft b al) := by
  unfold stepL
  split
  · exact stOK0
  · split
    · split
      · exact Or.inr (Or.inr ⟨al + 1, by omega, rfl⟩)
      · exact stOK0
    · split
      · exact stN_OK (tN_le _ (tab_16 (stepT_in ft b)))
      · exact stOK0
theorem stepB_le (ly ft b al : Nat) : stepB ly ft b al ≤ 1 := by unfold stepB; (repeat' split) <;> omega
def bcN (x : Nat) : Nat := (bcI (nI x)).toNatClampNeg
theorem bcN_ok {x : Nat} (h : stOK x) : bcI (nI x) = nI (bcN x) ∧ bcN x ≤ 16 := by
  rcases h with rfl | rfl | ⟨k, hk, rfl⟩
  · decide +kernel
  · decide +kernel
  · unfold bcN
    rw [bcP hk, nI_clamp (by omega)]
    exact ⟨rfl, hk⟩
theorem bcN_pow {k : Nat} (h : k ≤ 16) : bcN (2 ^ k - 1) = k := by unfold bcN; rw [bcP h, nI_clamp (by omega)]
/-! what reading does: (position, beyond, bad, ..) -/
def alC (T : Nat → Nat) (P lim ly ft ch b : Nat) (c : Nat) (x : Nat × Nat × Nat × (Nat → Nat)) : Nat × Nat × Nat × (Nat → Nat) :=
  (tkP lim x.1 (aBits ly ft b), tkB lim x.1 (aBits ly ft b) x.2.1, (if stepB ly ft b (tkV T P lim x.1 (aBits ly ft b)) = 1 then 1 else x.2.2.1), lp (fun i st => updN st ((c + i) * 32 + b) (stepL ly ft b (tkV T P lim x.1 (aBits ly ft b)))) (ch - c) x.2.2.2)
def alB (T : Nat → Nat) (P lim ly ft ch bd : Nat) (b : Nat) (x : Nat × Nat × Nat × (Nat → Nat)) : Nat × Nat × Nat × (Nat → Nat) := lp (alC T P lim ly ft ch b) (if b < bd then ch else 1) x
def seC (T : Nat → Nat) (P lim : Nat) (st : Nat → Nat) (b : Nat) (c : Nat) (x : Nat × Nat × (Nat → Nat)) : Nat × Nat × (Nat → Nat) :=
  if st (c * 32 + b) = 0 then x else (tkP lim x.1 2, tkB lim x.1 2 x.2.1, updN x.2.2 (c * 32 + b) (tkV T P lim x.1 2))
def seB (T : Nat → Nat) (P lim : Nat) (st : Nat → Nat) (ch : Nat) (b : Nat) (x : Nat × Nat × (Nat → Nat)) : Nat × Nat × (Nat → Nat) := lp (seC T P lim st b) ch x
def ckF (T : Nat → Nat) (P lim : Nat) (_ : Nat) (x : Nat × Nat × Nat) : Nat × Nat × Nat :=
  (tkP lim x.1 1, tkB lim x.1 1 x.2.1, if x.2.2 / 32768 = tkV T P lim x.1 1 then x.2.2 * 2 % 65536 else (x.2.2 * 2 % 65536) ^^^ 32773)
def fa1 (T : Nat → Nat) (P lim : Nat) (x : Nat × Nat × Nat) : Nat × Nat × Nat := (tkP lim x.1 6, tkB lim x.1 6 x.2.1, if tkV T P lim x.1 6 = 63 then 1 else x.2.2)
def faV (T : Nat → Nat) (P lim : Nat) (x : Nat × Nat × Nat) : Nat := tkV T P lim x.1 6
/-- a band's three factors by its selection: the reader behind them, and the three -/
def thX (T : Nat → Nat) (P lim sel : Nat) (x : Nat × Nat × Nat) : (Nat × Nat × Nat) × Nat × Nat × Nat :=
  let x1 := fa1 T P lim x
  let f1 := faV T P lim x
  let x2 := if sel = 0 ∨ sel = 3 then fa1 T P lim x1 else x1
  let f2 := if sel = 0 ∨ sel = 3 then faV T P lim x1 else f1
  let x3 := if sel = 0 ∨ sel = 1 then fa1 T P lim x2 else x2
  let f3 := if sel = 0 ∨ sel = 1 then faV T P lim x2 else f2
  (x3, f1, f2, f3)
def put3 (f : Nat → Nat) (a f1 f2 f3 : Nat) : Nat → Nat := updN (updN (updN f a f1) (a + 1) f2) (a + 2) f3
def fcC (T : Nat → Nat) (P lim : Nat) (st sel : Nat → Nat) (b : Nat) (c : Nat) (x : (Nat × Nat × Nat) × (Nat → Nat)) : (Nat × Nat × Nat) × (Nat → Nat) :=
  if st (c * 32 + b) = 0 then x else
  let z := thX T P lim (sel (c * 32 + b)) x.1
  (z.1, put3 x.2 ((c * 32 + b) * 3) z.2.1 z.2.2.1 z.2.2.2)
def fcB (T : Nat → Nat) (P lim : Nat) (st sel : Nat → Nat) (ch : Nat) (b : Nat) (x : (Nat × Nat × Nat) × (Nat → Nat)) : (Nat × Nat × Nat) × (Nat → Nat) := lp (fcC T P lim st sel b) ch x
def gB (x : Nat) : Nat := if x = 3 then 5 else if x = 5 then 7 else if x = 9 then 10 else 0
/-- codes of a band: (position, beyond, bad, codes) -/
def cd1 (T : Nat → Nat) (P lim L : Nat) (i : Nat) (x : Nat × Nat × Nat × (Nat → Nat)) : Nat × Nat × Nat × (Nat → Nat) :=
  (tkP lim x.1 (bcN L), tkB lim x.1 (bcN L) x.2.1, (if tkV T P lim x.1 (bcN L) = L then 1 else x.2.2.1), updN x.2.2.2 i (tkV T P lim x.1 (bcN L)))
def cdG (T : Nat → Nat) (P lim L : Nat) (x : Nat × Nat × Nat × (Nat → Nat)) : Nat × Nat × Nat × (Nat → Nat) :=
  let v := tkV T P lim x.1 (gB L)
  (tkP lim x.1 (gB L), tkB lim x.1 (gB L) x.2.1, (if v < L * L * L then x.2.2.1 else 1), updN (updN (updN x.2.2.2 0 (v % L)) 1 (v / L % L)) 2 (v / L / L % L))
def cdA (T : Nat → Nat) (P lim at1 L : Nat) (x : Nat × Nat × Nat × (Nat → Nat)) : Nat × Nat × Nat × (Nat → Nat) :=
  if at1 = 3 ∧ gB L > 0 then cdG T P lim L x else lp (cd1 T P lim L) at1 x
theorem stepL_bad {ly ft b al : Nat} (h : stepB ly ft b al = 1) : stepL ly ft b al = 0 := by
  unfold stepB at h
  unfold stepL
  by_cases h1 : al = 0
  · rw [if_pos h1]
  · rw [if_neg h1] at h ⊢
    by_cases h2 : ly = 1
    · rw [if_pos h2] at h ⊢
      by_cases h3 : al < 15
      · rw [if_pos h3] at h; omega
      · rw [if_neg h3]
    · rw [if_neg h2] at h ⊢
      by_cases h3 : al ≤ (tab (stepT ft b)).length
      · rw [if_pos h3] at h; omega
      · rw [if_neg h3]
