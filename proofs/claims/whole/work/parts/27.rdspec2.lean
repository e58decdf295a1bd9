theorem nI_xor (a b : Nat) : nI a ^^^ nI b = nI (a ^^^ b) := by
  apply Int32.toBitVec_inj.mp
  show BitVec.ofNat 32 a ^^^ BitVec.ofNat 32 b = BitVec.ofNat 32 (a ^^^ b)
  exact (BitVec.ofNat_xor).symm
theorem c_fillN (l : Launch) (g : GT) (sz : Nat) (a n : Nat) (f : Nat → Nat) (x : Nat) (hn : n < 2 ^ 31) : CtV l g yJ7_fill_53178 wsJ7_fill_53178 rm_c_fillI [.ref a, .int (nI x)] [(a, aI g n (fun j => nI (f j)))] sz (fun _ => True) (fun u => u = [(a, aI g n (fun j => nI (if j < n then x else f j)))]) 0 0 := by
  have h := c_fillI l g sz a n (fun j => nI (f j)) (nI x) hn
  have e : (fun j => if j < n then nI x else nI (f j)) = fun j => nI (if j < n then x else f j) := by
    funext j
    split <;> rfl
  rw [e] at h
  exact h
theorem updP {P : Nat → Prop} {f : Nat → Nat} {k x : Nat} (h : ∀ j, P (f j)) (hx : P x) : ∀ j, P (updN f k x j) := by
  intro j
  unfold updN
  split
  · exact hx
  · exact h j
theorem lp_inv {σ : Type} {F : Nat → σ → σ} (P : σ → Prop) {n : Nat} {x : σ} (h0 : P x) (hs : ∀ i x, i < n → P x → P (F i x)) : P (lp F n x) := by
  induction n with
  | zero => exact h0
  | succ n ih => exact hs n _ (by omega) (ih (fun i x h => hs i x (by omega)))
def jR (lim : Nat) (x : Nat × Nat × Nat) : Prop := x.1 ≤ lim ∧ x.2.1 ≤ 1 ∧ x.2.2 ≤ 1
theorem tkB_le {lim pos cnt b : Nat} (h : b ≤ 1) : tkB lim pos cnt b ≤ 1 := by unfold tkB; split <;> omega
theorem ite_le {c : Prop} [Decidable c] {a b n : Nat} (ha : a ≤ n) (hb : b ≤ n) : (if c then a else b) ≤ n := by split <;> assumption
theorem fa1_j {T : Nat → Nat} {P lim : Nat} {x : Nat × Nat × Nat} (h : jR lim x) : jR lim (fa1 T P lim x) := ⟨tkP_le h.1, tkB_le h.2.1, ite_le (by omega) h.2.2⟩
theorem faV_lt (T : Nat → Nat) (P lim : Nat) (x : Nat × Nat × Nat) : faV T P lim x < 64 := tkV_lt T P lim x.1 6
theorem thX_j {T : Nat → Nat} {P lim sel : Nat} {x : Nat × Nat × Nat} (h : jR lim x) : jR lim (thX T P lim sel x).1 := by
  unfold thX
  dsimp only
  (repeat' split) <;> first | exact fa1_j (fa1_j (fa1_j h)) | exact fa1_j (fa1_j h) | exact fa1_j h
theorem thX_v {T : Nat → Nat} {P lim sel : Nat} {x : Nat × Nat × Nat} : (thX T P lim sel x).2.1 < 64 ∧ (thX T P lim sel x).2.2.1 < 64 ∧ (thX T P lim sel x).2.2.2 < 64 := by
  unfold thX
  dsimp only
  refine ⟨faV_lt _ _ _ _, ?_, ?_⟩ <;> (repeat' split) <;> exact faV_lt _ _ _ _
def seA (T : Nat → Nat) (P lim : Nat) (st : Nat → Nat) (ch ly bn : Nat) (x : Nat × Nat × (Nat → Nat)) : Nat × Nat × (Nat → Nat) := if ly = 1 then x else lp (seB T P lim st ch) bn x
def jS (lim : Nat) (x : Nat × Nat × (Nat → Nat)) : Prop := x.1 ≤ lim ∧ x.2.1 ≤ 1 ∧ ∀ j, x.2.2 j ≤ 3
def jA (lim : Nat) (x : Nat × Nat × Nat × (Nat → Nat)) : Prop := x.1 ≤ lim ∧ x.2.1 ≤ 1 ∧ x.2.2.1 ≤ 1 ∧ ∀ j, stOK (x.2.2.2 j)
def jC (lim : Nat) (x : Nat × Nat × Nat × (Nat → Nat)) : Prop := x.1 ≤ lim ∧ x.2.1 ≤ 1 ∧ x.2.2.1 ≤ 1 ∧ ∀ j, x.2.2.2 j < 65536
theorem lp_updP {P : Nat → Prop} {k : Nat → Nat} {v n : Nat} {f : Nat → Nat} (h : ∀ j, P (f j)) (hv : P v) : ∀ j, P (lp (fun i st => updN st (k i) v) n f j) := lp_inv (fun f : Nat → Nat => ∀ j, P (f j)) h (fun _ _ _ h => updP h hv)
theorem alC_j {T : Nat → Nat} {P lim ly ft ch b c : Nat} {x : Nat × Nat × Nat × (Nat → Nat)} (h : jA lim x) : jA lim (alC T P lim ly ft ch b c x) := ⟨tkP_le h.1, tkB_le h.2.1, ite_le (by omega) h.2.2.1, lp_updP h.2.2.2 (stepL_OK _ _ _ _)⟩
theorem seC_j {T : Nat → Nat} {P lim : Nat} {st : Nat → Nat} {b c : Nat} {x : Nat × Nat × (Nat → Nat)} (h : jS lim x) : jS lim (seC T P lim st b c x) := by
  unfold seC
  split
  · exact h
  · exact ⟨tkP_le h.1, tkB_le h.2.1, updP (P := fun v => v ≤ 3) h.2.2 (Nat.le_of_lt_succ (tkV_lt T P lim x.1 2))⟩
theorem seA_j {T : Nat → Nat} {P lim : Nat} {st : Nat → Nat} {ch ly bn : Nat} {x : Nat × Nat × (Nat → Nat)} (h : jS lim x) : jS lim (seA T P lim st ch ly bn x) := by
  unfold seA
  split
  · exact h
  · exact lp_inv (jS lim) h (fun i x _ h => lp_inv (jS lim) h (fun _ _ _ h => seC_j h))
theorem alA_j {T : Nat → Nat} {P lim ly ft ch bd bn : Nat} {x : Nat × Nat × Nat × (Nat → Nat)} (h : jA lim x) : jA lim (lp (alB T P lim ly ft ch bd) bn x) := lp_inv (jA lim) h (fun i x _ h => lp_inv (jA lim) h (fun _ _ _ h => alC_j h))
def jK (lim : Nat) (x : Nat × Nat × Nat) : Prop := x.1 ≤ lim ∧ x.2.1 ≤ 1 ∧ x.2.2 < 65536
theorem ckF_j {T : Nat → Nat} {P lim i : Nat} {x : Nat × Nat × Nat} (h : jK lim x) : jK lim (ckF T P lim i x) := by
  refine ⟨tkP_le h.1, tkB_le h.2.1, ?_⟩
  show (if _ then _ else _) < 65536
  split
  · exact Nat.mod_lt _ (by omega)
  · exact Nat.xor_lt_two_pow (n := 16) (Nat.mod_lt _ (by omega)) (by omega)
def jF (lim : Nat) (x : (Nat × Nat × Nat) × (Nat → Nat)) : Prop := jR lim x.1 ∧ ∀ j, x.2 j < 64
theorem fcC_j {T : Nat → Nat} {P lim : Nat} {st sel : Nat → Nat} {b c : Nat} {x : (Nat × Nat × Nat) × (Nat → Nat)} (h : jF lim x) : jF lim (fcC T P lim st sel b c x) := by
  unfold fcC
  split
  · exact h
  · exact ⟨thX_j h.1, updP (P := fun v => v < 64) (updP (P := fun v => v < 64) (updP (P := fun v => v < 64) h.2 thX_v.1) thX_v.2.1) thX_v.2.2⟩
theorem fcA_j {T : Nat → Nat} {P lim : Nat} {st sel : Nat → Nat} {ch bn : Nat} {x : (Nat × Nat × Nat) × (Nat → Nat)} (h : jF lim x) : jF lim (lp (fcB T P lim st sel ch) bn x) := lp_inv (jF lim) h (fun i x _ h => lp_inv (jF lim) h (fun _ _ _ h => fcC_j h))
/-- a sample -/
def smp (c L f : Nat) : Int32 := if L = 0 then 0 else (((nI (2 * c + 1) - nI L).toInt64 * (nI (tN 8 (f % 3) / 2 ^ (f / 3))).toInt64) / (nI L).toInt64).toInt32
def plF (co : Nat → Nat) (L f ch gr at1 b : Nat) (i : Nat) (sm : Nat → Int32) : Nat → Int32 := upd sm ((ch * 36 + (gr * at1 + i)) * 32 + b) (smp (co i) L f)
theorem cdA_j {T : Nat → Nat} {P lim at1 L : Nat} {x : Nat × Nat × Nat × (Nat → Nat)} (hL : stOK L) (h : jC lim x) : jC lim (cdA T P lim at1 L x) := by
  unfold cdA
  split
  · next hg =>
    have hb := hg.2
    have h9 : 0 < L ∧ L ≤ 9 := by unfold gB at hb; (repeat' split at hb) <;> omega
    have key : ∀ z : Nat, z % L < 65536 := fun z => Nat.lt_of_lt_of_le (Nat.mod_lt _ h9.1) (by omega)
    exact ⟨tkP_le h.1, tkB_le h.2.1, ite_le h.2.2.1 (by omega), updP (P := fun v => v < 65536) (updP (P := fun v => v < 65536) (updP (P := fun v => v < 65536) h.2.2.2 (key _)) (key _)) (key _)⟩
  · refine lp_inv (jC lim) h (fun i x _ h => ⟨tkP_le h.1, tkB_le h.2.1, ite_le (by omega) h.2.2.1, updP (P := fun v => v < 65536) h.2.2.2 ?_⟩)
    have := tkV_lt T P lim x.1 (bcN L)
    have h2 := Nat.pow_le_pow_right (n := 2) (by omega) (bcN_ok hL).2
    omega
/-- a band's codes and samples: (position, beyond, bad, codes, samples) -/
def tbC (T : Nat → Nat) (P lim : Nat) (st fa : Nat → Nat) (ly ch bd gr b : Nat) (c : Nat) (x : Nat × Nat × Nat × (Nat → Nat) × (Nat → Int32)) : Nat × Nat × Nat × (Nat → Nat) × (Nat → Int32) :=
  if st (c * 32 + b) = 0 then x else
  let at1 := if ly = 1 then 1 else 3
  let y := cdA T P lim at1 (st (c * 32 + b)) (x.1, x.2.1, x.2.2.1, x.2.2.2.1)
  (y.1, y.2.1, y.2.2.1, y.2.2.2, lp (fun i sm => lp (plF y.2.2.2 (st ((c + i) * 32 + b)) (fa (((c + i) * 32 + b) * 3 + gr / 4)) (c + i) gr at1 b) at1 sm) ((if (if b < bd then ch else 1) < ch then ch - 1 else c) + 1 - c) x.2.2.2.2)
def tbB (T : Nat → Nat) (P lim : Nat) (st fa : Nat → Nat) (ly ch bd gr : Nat) (b : Nat) (x : Nat × Nat × Nat × (Nat → Nat) × (Nat → Int32)) : Nat × Nat × Nat × (Nat → Nat) × (Nat → Int32) := lp (tbC T P lim st fa ly ch bd gr b) (if b < bd then ch else 1) x
def tbG (T : Nat → Nat) (P lim : Nat) (st fa : Nat → Nat) (ly ch bd bn : Nat) (gr : Nat) (x : Nat × Nat × Nat × (Nat → Nat) × (Nat → Int32)) : Nat × Nat × Nat × (Nat → Nat) × (Nat → Int32) :=
  if x.2.2.1 = 0 ∧ x.2.1 = 0 then lp (tbB T P lim st fa ly ch bd gr) bn x else x
def jT (lim : Nat) (x : Nat × Nat × Nat × (Nat → Nat) × (Nat → Int32)) : Prop := jC lim (x.1, x.2.1, x.2.2.1, x.2.2.2.1)
theorem tbC_j {T : Nat → Nat} {P lim : Nat} {st fa : Nat → Nat} {ly ch bd gr b c : Nat} {x : Nat × Nat × Nat × (Nat → Nat) × (Nat → Int32)} (hs : ∀ j, stOK (st j)) (h : jT lim x) : jT lim (tbC T P lim st fa ly ch bd gr b c x) := by
  unfold tbC
  split
  · exact h
  · exact cdA_j (hs _) h
theorem tbB_j {T : Nat → Nat} {P lim : Nat} {st fa : Nat → Nat} {ly ch bd gr b : Nat} {x : Nat × Nat × Nat × (Nat → Nat) × (Nat → Int32)} (hs : ∀ j, stOK (st j)) (h : jT lim x) : jT lim (tbB T P lim st fa ly ch bd gr b x) := lp_inv (jT lim) h (fun _ _ _ h => tbC_j hs h)
theorem tbG_j {T : Nat → Nat} {P lim : Nat} {st fa : Nat → Nat} {ly ch bd bn gr : Nat} {x : Nat × Nat × Nat × (Nat → Nat) × (Nat → Int32)} (hs : ∀ j, stOK (st j)) (h : jT lim x) : jT lim (tbG T P lim st fa ly ch bd bn gr x) := by
  unfold tbG
  split
  · exact lp_inv (jT lim) h (fun _ _ _ h => tbB_j hs h)
  · exact h
theorem tbG_lost {T : Nat → Nat} {P lim : Nat} {st fa : Nat → Nat} {ly ch bd bn i n : Nat} {x : Nat × Nat × Nat × (Nat → Nat) × (Nat → Int32)} (hi : i ≤ n) (h : ¬ ((lp (tbG T P lim st fa ly ch bd bn) i x).2.2.1 = 0 ∧ (lp (tbG T P lim st fa ly ch bd bn) i x).2.1 = 0)) : lp (tbG T P lim st fa ly ch bd bn) n x = lp (tbG T P lim st fa ly ch bd bn) i x := by
  induction n with
  | zero => have : i = 0 := by omega
            subst this; rfl
  | succ n ih =>
    rcases Nat.lt_or_ge n i with q | q
    · have : i = n + 1 := by omega
      subst this; rfl
    · have e := ih q
      show tbG T P lim st fa ly ch bd bn n (lp (tbG T P lim st fa ly ch bd bn) n x) = _
      rw [e]
      exact if_neg h
