def z64 (f : Nat → Nat) : Nat → Nat := fun j => if j < 64 then 0 else f j
def z192 (f : Nat → Nat) : Nat → Nat := fun j => if j < 192 then 0 else f j
def t64 (f : Nat → Nat) : Nat → Nat := fun j => if j < 64 then 2 else f j
def zsm (f : Nat → Int32) : Nat → Int32 := fun j => if j < 2304 then nI 0 else f j
/-- allocations, selections -/
def rdX1 (T : Nat → Nat) (P lim ly ft ch bd bn ck : Nat) (st0 : Nat → Nat) : Nat × Nat × Nat × (Nat → Nat) := lp (alB T P lim ly ft ch bd) bn ((if ck = 0 then 32 else 48), 0, 0, z64 st0)
def rdS1 (T : Nat → Nat) (P lim ly ft ch bd bn ck : Nat) (st0 se0 : Nat → Nat) : Nat × Nat × (Nat → Nat) :=
  seA T P lim (rdX1 T P lim ly ft ch bd bn ck st0).2.2.2 ch ly bn ((rdX1 T P lim ly ft ch bd bn ck st0).1, (rdX1 T P lim ly ft ch bd bn ck st0).2.1, t64 se0)
/-- the check of the bits up to a place: (position, beyond, check) -/
def ckB (T : Nat → Nat) (P lim K : Nat) (x : Nat × Nat) : Nat × Nat × Nat :=
  lp (ckF T P lim) (x.1 - 48) (48, (lp (ckF T P lim) K (16, x.2, 65535)).2.1, (lp (ckF T P lim) K (16, x.2, 65535)).2.2)
def rdP2 (T : Nat → Nat) (P lim K ck : Nat) (x : Nat × Nat) : Nat × Nat := if ck = 0 then x else ((ckB T P lim K x).1, (ckB T P lim K x).2.1)
/-- factors, samples: behind the check, at place x -/
def rdX2 (T : Nat → Nat) (P lim ch bn : Nat) (x : Nat × Nat × Nat) (st se fa0 : Nat → Nat) : (Nat × Nat × Nat) × (Nat → Nat) := lp (fcB T P lim st se ch) bn (x, z192 fa0)
def rdX3 (T : Nat → Nat) (P lim G ly ch bd bn : Nat) (y : (Nat × Nat × Nat) × (Nat → Nat)) (st co0 : Nat → Nat) (sm0 : Nat → Int32) : Nat × Nat × Nat × (Nat → Nat) × (Nat → Int32) :=
  lp (tbG T P lim st y.2 ly ch bd bn) G (y.1.1, y.1.2.1, y.1.2.2, co0, zsm sm0)
def rdT (T : Nat → Nat) (P lim K ly ft ch bd bn ck : Nat) (st0 se0 : Nat → Nat) : Nat × Nat × Nat :=
  let S := rdS1 T P lim ly ft ch bd bn ck st0 se0
  ((rdP2 T P lim K ck (S.1, S.2.1)).1, (rdP2 T P lim K ck (S.1, S.2.1)).2, (rdX1 T P lim ly ft ch bd bn ck st0).2.2.1)
def rdF (T : Nat → Nat) (P lim K ly ft ch bd bn ck : Nat) (st0 se0 fa0 : Nat → Nat) : (Nat × Nat × Nat) × (Nat → Nat) :=
  rdX2 T P lim ch bn (rdT T P lim K ly ft ch bd bn ck st0 se0) (rdX1 T P lim ly ft ch bd bn ck st0).2.2.2 (rdS1 T P lim ly ft ch bd bn ck st0 se0).2.2 fa0
def rdM (T : Nat → Nat) (P lim K G ly ft ch bd bn ck : Nat) (st0 se0 fa0 co0 : Nat → Nat) (sm0 : Nat → Int32) : Nat × Nat × Nat × (Nat → Nat) × (Nat → Int32) :=
  rdX3 T P lim G ly ch bd bn (rdF T P lim K ly ft ch bd bn ck st0 se0 fa0) (rdX1 T P lim ly ft ch bd bn ck st0).2.2.2 co0 sm0
def rdO (T : Nat → Nat) (P lim K G ly ft ch bd bn ck : Nat) (st0 se0 fa0 co0 : Nat → Nat) (sm0 : Nat → Int32) : Nat :=
  if (rdS1 T P lim ly ft ch bd bn ck st0 se0).2.1 ≠ 0 then 2
  else if ck ≠ 0 ∧ bitsV T (P + 32) 16 ≠ (ckB T P lim K ((rdS1 T P lim ly ft ch bd bn ck st0 se0).1, (rdS1 T P lim ly ft ch bd bn ck st0 se0).2.1)).2.2 then 1
  else if (rdM T P lim K G ly ft ch bd bn ck st0 se0 fa0 co0 sm0).2.2.1 = 0 ∧ (rdM T P lim K G ly ft ch bd bn ck st0 se0 fa0 co0 sm0).2.1 = 0 then 0 else 2
theorem z64_OK {f : Nat → Nat} (h : ∀ j, stOK (f j)) : ∀ j, stOK (z64 f j) := fun j => by unfold z64; split; exact stOK0; exact h j
theorem z192_lt {f : Nat → Nat} (h : ∀ j, f j < 64) : ∀ j, z192 f j < 64 := fun j => by unfold z192; split; omega; exact h j
theorem t64_le {f : Nat → Nat} (h : ∀ j, f j ≤ 3) : ∀ j, t64 f j ≤ 3 := fun j => by unfold t64; split; omega; exact h j
theorem rdX1_j {T : Nat → Nat} {P lim ly ft ch bd bn ck : Nat} {st0 : Nat → Nat} (hl : 48 ≤ lim) (h : ∀ j, stOK (st0 j)) : jA lim (rdX1 T P lim ly ft ch bd bn ck st0) :=
  alA_j ⟨by show (if ck = 0 then 32 else 48) ≤ lim; split <;> omega, Nat.zero_le _, Nat.zero_le _, z64_OK h⟩
theorem rdS1_j {T : Nat → Nat} {P lim ly ft ch bd bn ck : Nat} {st0 se0 : Nat → Nat} (hl : 48 ≤ lim) (h : ∀ j, stOK (st0 j)) (he : ∀ j, se0 j ≤ 3) : jS lim (rdS1 T P lim ly ft ch bd bn ck st0 se0) :=
  seA_j ⟨(rdX1_j hl h).1, (rdX1_j hl h).2.1, t64_le he⟩
theorem ckB_j {T : Nat → Nat} {P lim K : Nat} {x : Nat × Nat} (hl : 48 ≤ lim) (h : x.2 ≤ 1) : jK lim (ckB T P lim K x) := by
  have h1 : jK lim (lp (ckF T P lim) K (16, x.2, 65535)) := lp_inv (jK lim) ⟨by show 16 ≤ lim; omega, h, by show 65535 < 65536; omega⟩ (fun i _ _ h => ckF_j (i := i) h)
  exact lp_inv (jK lim) ⟨hl, h1.2.1, h1.2.2⟩ (fun i _ _ h => ckF_j (i := i) h)
theorem rdT_j {T : Nat → Nat} {P lim K ly ft ch bd bn ck : Nat} {st0 se0 : Nat → Nat} (hl : 48 ≤ lim) (h : ∀ j, stOK (st0 j)) (he : ∀ j, se0 j ≤ 3) : jR lim (rdT T P lim K ly ft ch bd bn ck st0 se0) := by
  have hS := rdS1_j (T := T) (P := P) (ly := ly) (ft := ft) (ch := ch) (bd := bd) (bn := bn) (ck := ck) hl h he
  have hX := rdX1_j (T := T) (P := P) (ly := ly) (ft := ft) (ch := ch) (bd := bd) (bn := bn) (ck := ck) hl h
  have hC := ckB_j (T := T) (P := P) (K := K) (x := ((rdS1 T P lim ly ft ch bd bn ck st0 se0).1, (rdS1 T P lim ly ft ch bd bn ck st0 se0).2.1)) hl hS.2.1
  unfold rdT rdP2
  dsimp only
  split
  · exact ⟨hS.1, hS.2.1, hX.2.2.1⟩
  · exact ⟨hC.1, hC.2.1, hX.2.2.1⟩
theorem rdF_j {T : Nat → Nat} {P lim K ly ft ch bd bn ck : Nat} {st0 se0 fa0 : Nat → Nat} (hl : 48 ≤ lim) (h : ∀ j, stOK (st0 j)) (he : ∀ j, se0 j ≤ 3) (hf : ∀ j, fa0 j < 64) : jF lim (rdF T P lim K ly ft ch bd bn ck st0 se0 fa0) :=
  fcA_j ⟨rdT_j hl h he, z192_lt hf⟩
theorem rdM_j {T : Nat → Nat} {P lim K G ly ft ch bd bn ck : Nat} {st0 se0 fa0 co0 : Nat → Nat} {sm0 : Nat → Int32} (hl : 48 ≤ lim) (h : ∀ j, stOK (st0 j)) (he : ∀ j, se0 j ≤ 3) (hf : ∀ j, fa0 j < 64) (hc : ∀ j, co0 j < 65536) : jT lim (rdM T P lim K G ly ft ch bd bn ck st0 se0 fa0 co0 sm0) := by
  have hF := rdF_j (T := T) (P := P) (K := K) (ly := ly) (ft := ft) (ch := ch) (bd := bd) (bn := bn) (ck := ck) hl h he hf
  exact lp_inv (jT lim) ⟨hF.1.1, hF.1.2.1, hF.1.2.2, hc⟩ (fun _ _ _ h' => tbG_j (rdX1_j hl h).2.2.2 h')
theorem rdT_0 {T : Nat → Nat} {P lim K ly ft ch bd bn ck : Nat} {st0 se0 : Nat → Nat} (h : ck = 0) : rdT T P lim K ly ft ch bd bn ck st0 se0 = ((rdS1 T P lim ly ft ch bd bn ck st0 se0).1, (rdS1 T P lim ly ft ch bd bn ck st0 se0).2.1, (rdX1 T P lim ly ft ch bd bn ck st0).2.2.1) := by
  unfold rdT rdP2
  dsimp only
  rw [if_pos h]
theorem rdT_1 {T : Nat → Nat} {P lim K ly ft ch bd bn ck : Nat} {st0 se0 : Nat → Nat} (h : ¬ ck = 0) : rdT T P lim K ly ft ch bd bn ck st0 se0 = ((ckB T P lim K ((rdS1 T P lim ly ft ch bd bn ck st0 se0).1, (rdS1 T P lim ly ft ch bd bn ck st0 se0).2.1)).1, (ckB T P lim K ((rdS1 T P lim ly ft ch bd bn ck st0 se0).1, (rdS1 T P lim ly ft ch bd bn ck st0 se0).2.1)).2.1, (rdX1 T P lim ly ft ch bd bn ck st0).2.2.1) := by
  unfold rdT rdP2
  dsimp only
  rw [if_neg h]
