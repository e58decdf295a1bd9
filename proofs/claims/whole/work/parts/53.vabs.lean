/-! the voices by their logical numbers -/
theorem lp_congr {σ : Type} {F G : Nat → σ → σ} {n : Nat} {x : σ} (h : ∀ i s, i < n → F i s = G i s) : lp F n x = lp G n x := by
  induction n with
  | zero => rfl
  | succ n ih =>
    show F n (lp F n x) = G n (lp G n x)
    rw [ih (fun i s hi => h i s (by omega)), h n _ (by omega)]
theorem lp_rel {σ τ : Type} {F : Nat → σ → σ} {G : Nat → τ → τ} (R : σ → τ → Prop) {n : Nat} {x : σ} {y : τ} (h0 : R x y) (hs : ∀ i x y, i < n → R x y → R (F i x) (G i y)) : R (lp F n x) (lp G n y) := by
  induction n with
  | zero => exact h0
  | succ n ih => exact hs n _ _ (by omega) (ih (fun i x y h => hs i x y (by omega)))
noncomputable def rowA (row : Nat → Int32) (fi : Nat) (V : Nat → Int32) : Nat → Int32 := fun i => if i < 64 then vS row fi i else V (i - 64)
def pcT2 (V : Nat → Int32) (j : Nat) (i : Nat) (s : Int64) : Int64 :=
  s + (winA ((64 * i + j) % 512)).toInt64 * (V (128 * i + j)).toInt64 + (winA (((64 * i + j) % 512 + 32) % 512)).toInt64 * (V (128 * i + j + 96)).toInt64
noncomputable def pcA (V : Nat → Int32) (j : Nat) : Int32 := clipL (lp (pcT2 V j) k8 1048576 >>> ((nI 21).toInt64 &&& 63))
def RV (x : Nat × (Nat → Int32)) (V : Nat → Int32) : Prop := x.1 < 1024 ∧ ∀ i, i < 1024 → x.2 ((x.1 + i) % 1024) = V i
theorem nu_at {row : Nat → Int32} {fi nw n i : Nat} {f : Nat → Int32} (hi : i < 1024) (hn : n ≤ 64) : lp (nuF row fi nw) n f ((nw + i) % 1024) = if i < n then vS row fi i else f ((nw + i) % 1024) := by
  induction n with
  | zero => rfl
  | succ n ih =>
    show upd (lp (nuF row fi nw) n f) ((nw + n) % 1024) (vS row fi n) ((nw + i) % 1024) = _
    unfold upd
    by_cases e : i = n
    · subst e
      rw [if_pos rfl, if_pos (by omega)]
    · rw [if_neg (by omega), ih (by omega)]
      by_cases q : i < n
      · rw [if_pos q, if_pos (by omega)]
      · rw [if_neg q, if_neg (by omega)]
theorem RV_row {x : Nat × (Nat → Int32)} {V : Nat → Int32} (row : Nat → Int32) (fi : Nat) (h : RV x V) : RV (rowS row fi x) (rowA row fi V) := by
  have h64 := k64_eq
  refine ⟨rowS_lt _ _ _, fun i hi => ?_⟩
  show lp (nuF row fi ((x.1 + 960) % 1024)) k64 x.2 (((x.1 + 960) % 1024 + i) % 1024) = _
  rw [nu_at hi (by omega)]
  unfold rowA
  by_cases q : i < 64
  · rw [if_pos (by omega), if_pos q]
  · rw [if_neg (by omega), if_neg q, ← h.2 (i - 64) (by omega)]
    exact congrArg x.2 (by omega)
theorem RV_pc {x : Nat × (Nat → Int32)} {V : Nat → Int32} (h : RV x V) {j : Nat} (hj : j < 32) : pcS x j = pcA V j := by
  have h8 := k8_eq
  unfold pcS pcA
  rw [lp_congr (G := pcT2 V j)]
  intro i s hi
  unfold pcT pcT2
  rw [← h.2 (128 * i + j) (by omega), ← h.2 (128 * i + j + 96) (by omega)]
  rw [show x.1 + 128 * i + j = x.1 + (128 * i + j) by omega, show x.1 + (128 * i + j) + 96 = x.1 + (128 * i + j + 96) by omega]
noncomputable def sdA (row : Nat → Int32) (c : Nat) (t : Nat) (V : Nat → Int32) : Nat → Int32 := rowA row ((c * 36 + t) * 32) V
theorem RV_sd {x : Nat × (Nat → Int32)} {V : Nat → Int32} (row : Nat → Int32) (c n : Nat) (h : RV x V) : RV (lp (sdF row c) n x) (lp (sdA row c) n V) :=
  lp_rel RV h (fun _ _ _ _ h => RV_row row _ h)
theorem vS_congr {row row2 : Nat → Int32} {fi fi2 j : Nat} (h : ∀ k, k < 32 → row (fi + k) = row2 (fi2 + k)) : vS row fi j = vS row2 fi2 j := by
  have h32 := k32_eq
  unfold vS
  rw [lp_congr (G := vT row2 fi2 j)]
  intro k s hk
  unfold vT
  rw [h k (by omega)]
theorem sdA_congr {row row2 : Nat → Int32} {c n : Nat} {V : Nat → Int32} (hc : c ≤ 1) (hn : n ≤ 36) (h : ∀ j, j < 2304 → row j = row2 j) : lp (sdA row c) n V = lp (sdA row2 c) n V := by
  apply lp_congr
  intro t s ht
  unfold sdA rowA
  funext i
  split
  · exact vS_congr (fun k hk => h _ (by omega))
  · rfl
