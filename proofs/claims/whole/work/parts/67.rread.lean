/-! the reference's reading, pure: (at, isOver, crc or good, a grid) -/
noncomputable def k3 : Nat := Classical.choose (⟨3, rfl⟩ : ∃ n : Nat, n = 3)
theorem k3_eq : k3 = 3 := Classical.choose_spec (⟨3, rfl⟩ : ∃ n : Nat, n = 3)
noncomputable def k2_ : Nat := Classical.choose (⟨2, rfl⟩ : ∃ n : Nat, n = 2)
theorem k2__eq : k2_ = 2 := Classical.choose_spec (⟨2, rfl⟩ : ∃ n : Nat, n = 2)
abbrev RS : Type := Nat × Nat × Nat × (Nat → Nat → Nat)
def rAc (T : Nat → Nat) (en ly ft bd b : Nat) (c : Nat) (x : RS) : RS :=
  if c = 1 ∧ bd ≤ b then (x.1, x.2.1, x.2.2.1, updN2 x.2.2.2 c b (x.2.2.2 0 b))
  else (bkP x.1 en (aBits ly ft b), bkO x.1 en (aBits ly ft b) x.2.1, ckV T x.1 en (aBits ly ft b) x.2.1 x.2.2.1, updN2 x.2.2.2 c b (bkV T x.1 en (aBits ly ft b)))
def rAb (T : Nat → Nat) (en ly ft bd ch : Nat) (b : Nat) (x : RS) : RS := lp (rAc T en ly ft bd b) ch x
def rSc (T : Nat → Nat) (en : Nat) (AL : Nat → Nat → Nat) (b : Nat) (c : Nat) (x : RS) : RS :=
  if AL c b = 0 then (x.1, x.2.1, x.2.2.1, updN2 x.2.2.2 c b 2)
  else (bkP x.1 en 2, bkO x.1 en 2 x.2.1, ckV T x.1 en 2 x.2.1 x.2.2.1, updN2 x.2.2.2 c b (bkV T x.1 en 2))
def rSb (T : Nat → Nat) (en : Nat) (AL : Nat → Nat → Nat) (ch : Nat) (b : Nat) (x : RS) : RS := lp (rSc T en AL b) ch x
def rTb (ly ft bn : Nat) (AL : Nat → Nat → Nat) (c : Nat) (b : Nat) (ST : Nat → Nat → Nat) : Nat → Nat → Nat := updN2 ST c b (stepL ly ft b (if b < bn then AL c b else 0))
noncomputable def rTc (ly ft bn : Nat) (AL : Nat → Nat → Nat) (c : Nat) (ST : Nat → Nat → Nat) : Nat → Nat → Nat := lp (rTb ly ft bn AL c) k32 ST
def selR (ly : Nat) (SE : Nat → Nat → Nat) (c b : Nat) : Nat := if ly = 1 then 2 else SE c b
/-- (at, isOver, one, two, three) -/
def rF1 (T : Nat → Nat) (en s at_ ov : Nat) : Nat × Nat × Nat × Nat × Nat :=
  if s = 2 then (bkP at_ en 6, bkO at_ en 6 ov, bkV T at_ en 6, bkV T at_ en 6, bkV T at_ en 6)
  else if s = 0 then (bkP (bkP (bkP at_ en 6) en 6) en 6, bkO (bkP (bkP at_ en 6) en 6) en 6 (bkO (bkP at_ en 6) en 6 (bkO at_ en 6 ov)), bkV T at_ en 6, bkV T (bkP at_ en 6) en 6, bkV T (bkP (bkP at_ en 6) en 6) en 6)
  else (bkP (bkP at_ en 6) en 6, bkO (bkP at_ en 6) en 6 (bkO at_ en 6 ov), bkV T at_ en 6, bkV T (bkP at_ en 6) en 6, bkV T (bkP at_ en 6) en 6)
def rF2 (s gd r : Nat) (FA : Nat → Nat → Nat) (z : Nat × Nat × Nat × Nat × Nat) : RS :=
  (z.1, z.2.1, (if gd ≠ 0 ∧ z.2.2.1 ≠ 63 ∧ z.2.2.2.1 ≠ 63 ∧ z.2.2.2.2 ≠ 63 then 1 else 0), updN2 (updN2 (updN2 FA r 0 z.2.2.1) r 1 (if s = 1 then z.2.2.1 else z.2.2.2.1)) r 2 z.2.2.2.2)
def rFc (T : Nat → Nat) (en ly : Nat) (ST SE : Nat → Nat → Nat) (b : Nat) (c : Nat) (x : RS) : RS :=
  if ST c b = 0 then x else rF2 (selR ly SE c b) x.2.2.1 (c * 32 + b) x.2.2.2 (rF1 T en (selR ly SE c b) x.1 x.2.1)
def rFb (T : Nat → Nat) (en ly : Nat) (ST SE : Nat → Nat → Nat) (ch : Nat) (b : Nat) (x : RS) : RS := lp (rFc T en ly ST SE b) ch x
def rO1 (T : Nat → Nat) (en : Nat) (ST : Nat → Nat → Nat) (bd t b : Nat) (c : Nat) (x : RS) : RS :=
  if ST c b = 0 then x
  else if c = 1 ∧ bd ≤ b then (x.1, x.2.1, (if x.2.2.1 ≠ 0 ∧ x.2.2.2 (0 * 36 + t) b ≠ ST c b then 1 else 0), updN2 x.2.2.2 (c * 36 + t) b (x.2.2.2 (0 * 36 + t) b))
  else (bkP x.1 en (bcN (ST c b)), bkO x.1 en (bcN (ST c b)) x.2.1, (if x.2.2.1 ≠ 0 ∧ bkV T x.1 en (bcN (ST c b)) ≠ ST c b then 1 else 0), updN2 x.2.2.2 (c * 36 + t) b (bkV T x.1 en (bcN (ST c b))))
def rO1b (T : Nat → Nat) (en : Nat) (ST : Nat → Nat → Nat) (bd ch t : Nat) (b : Nat) (x : RS) : RS := lp (rO1 T en ST bd t b) ch x
def rO1t (T : Nat → Nat) (en : Nat) (ST : Nat → Nat → Nat) (bd ch bn : Nat) (t : Nat) (x : RS) : RS := lp (rO1b T en ST bd ch t) bn x
def r3k (T : Nat → Nat) (en L c t b : Nat) (k : Nat) (x : RS) : RS :=
  (bkP x.1 en (bcN L), bkO x.1 en (bcN L) x.2.1, (if x.2.2.1 ≠ 0 ∧ bkV T x.1 en (bcN L) ≠ L then 1 else 0), updN2 x.2.2.2 (c * 36 + (t + k)) b (bkV T x.1 en (bcN L)))
noncomputable def r3 (T : Nat → Nat) (en L c t b at_ ov : Nat) (CO : Nat → Nat → Nat) : RS :=
  if gB L = 0 then lp (r3k T en L c t b) k3 (at_, ov, 1, CO)
  else (bkP at_ en (gB L), bkO at_ en (gB L) ov, (if bkV T at_ en (gB L) < L * L * L then 1 else 0), updN2 (updN2 (updN2 CO (c * 36 + t) b (bkV T at_ en (gB L) % L)) (c * 36 + (t + 1)) b (bkV T at_ en (gB L) / L % L)) (c * 36 + (t + 2)) b (bkV T at_ en (gB L) / L / L))
noncomputable def rO2 (T : Nat → Nat) (en : Nat) (ST : Nat → Nat → Nat) (bd t b : Nat) (c : Nat) (x : RS) : RS :=
  if ST c b = 0 then x
  else if c = 1 ∧ bd ≤ b then (x.1, x.2.1, x.2.2.1, lp (fun k CO => updN2 CO (1 * 36 + (3 * t + k)) b (CO (0 * 36 + (3 * t + k)) b)) k3 x.2.2.2)
  else ((r3 T en (ST c b) c (3 * t) b x.1 x.2.1 x.2.2.2).1, (r3 T en (ST c b) c (3 * t) b x.1 x.2.1 x.2.2.2).2.1, (if (r3 T en (ST c b) c (3 * t) b x.1 x.2.1 x.2.2.2).2.2.1 ≠ 0 ∧ x.2.2.1 ≠ 0 then 1 else 0), (r3 T en (ST c b) c (3 * t) b x.1 x.2.1 x.2.2.2).2.2.2)
noncomputable def rO2b (T : Nat → Nat) (en : Nat) (ST : Nat → Nat → Nat) (bd ch t : Nat) (b : Nat) (x : RS) : RS := lp (rO2 T en ST bd t b) ch x
noncomputable def rO2t (T : Nat → Nat) (en : Nat) (ST : Nat → Nat → Nat) (bd ch bn : Nat) (t : Nat) (x : RS) : RS := lp (rO2b T en ST bd ch t) bn x
/-! bounds -/
theorem updP2 {P : Nat → Prop} {F : Nat → Nat → Nat} {i j x : Nat} (h : ∀ a b, P (F a b)) (hx : P x) : ∀ a b, P (updN2 F i j x a b) := by
  intro a b
  rw [updN2_at]
  split
  · exact hx
  · exact h a b
def jX (en m n : Nat) (x : RS) : Prop := x.1 ≤ en ∧ x.2.1 ≤ 1 ∧ x.2.2.1 < m ∧ ∀ i j, x.2.2.2 i j < n
theorem bk_lt {T : Nat → Nat} {at_ en n m : Nat} (h : 2 ^ n ≤ m) : bkV T at_ en n < m := Nat.lt_of_lt_of_le (bkV_lt T at_ en n) h
theorem ite01 {c : Prop} [Decidable c] : (if c then 1 else 0) < 2 := by split <;> omega
theorem rAc_j {T : Nat → Nat} {en ly ft bd b c : Nat} {x : RS} (h : jX en 65536 16 x) : jX en 65536 16 (rAc T en ly ft bd b c x) := by
  unfold rAc
  split
  · exact ⟨h.1, h.2.1, h.2.2.1, updP2 (P := fun v => v < 16) h.2.2.2 (h.2.2.2 0 b)⟩
  · exact ⟨bkP_le, bkO_le h.2.1, ckV_lt h.2.2.1, updP2 (P := fun v => v < 16) h.2.2.2 (bk_lt (Nat.pow_le_pow_right (n := 2) (by omega) (aBits_le ly ft b)))⟩
theorem rSc_j {T : Nat → Nat} {en b c : Nat} {AL : Nat → Nat → Nat} {x : RS} (h : jX en 65536 4 x) : jX en 65536 4 (rSc T en AL b c x) := by
  unfold rSc
  split
  · exact ⟨h.1, h.2.1, h.2.2.1, updP2 (P := fun v => v < 4) h.2.2.2 (by omega)⟩
  · exact ⟨bkP_le, bkO_le h.2.1, ckV_lt h.2.2.1, updP2 (P := fun v => v < 4) h.2.2.2 (bk_lt (Nat.le_refl 4))⟩
theorem rF1_j {T : Nat → Nat} {en s at_ ov : Nat} (h2 : ov ≤ 1) : (rF1 T en s at_ ov).1 ≤ en ∧ (rF1 T en s at_ ov).2.1 ≤ 1 ∧ (rF1 T en s at_ ov).2.2.1 < 64 ∧ (rF1 T en s at_ ov).2.2.2.1 < 64 ∧ (rF1 T en s at_ ov).2.2.2.2 < 64 := by
  unfold rF1
  (repeat' split)
  · exact ⟨bkP_le, bkO_le h2, bk_lt (Nat.le_refl 64), bk_lt (Nat.le_refl 64), bk_lt (Nat.le_refl 64)⟩
  · exact ⟨bkP_le, bkO_le (bkO_le (bkO_le h2)), bk_lt (Nat.le_refl 64), bk_lt (Nat.le_refl 64), bk_lt (Nat.le_refl 64)⟩
  · exact ⟨bkP_le, bkO_le (bkO_le h2), bk_lt (Nat.le_refl 64), bk_lt (Nat.le_refl 64), bk_lt (Nat.le_refl 64)⟩
theorem rFc_j {T : Nat → Nat} {en ly b c : Nat} {ST SE : Nat → Nat → Nat} {x : RS} (h : jX en 2 64 x) : jX en 2 64 (rFc T en ly ST SE b c x) := by
  unfold rFc
  split
  · exact h
  · have k := rF1_j (T := T) (en := en) (s := selR ly SE c b) (at_ := x.1) h.2.1
    refine ⟨k.1, k.2.1, ite01, updP2 (P := fun v => v < 64) (updP2 (P := fun v => v < 64) (updP2 (P := fun v => v < 64) h.2.2.2 k.2.2.1) ?_) k.2.2.2.2⟩
    split
    · exact k.2.2.1
    · exact k.2.2.2.1
theorem bcN16 {L : Nat} (h : stOK L) : 2 ^ bcN L ≤ 65536 := pow16 (bcN_ok h).2
theorem rO1_j {T : Nat → Nat} {en bd t b c : Nat} {ST : Nat → Nat → Nat} {x : RS} (hs : ∀ i j, stOK (ST i j)) (h : jX en 2 65536 x) : jX en 2 65536 (rO1 T en ST bd t b c x) := by
  unfold rO1
  by_cases q : ST c b = 0
  · rw [if_pos q]; exact h
  · rw [if_neg q]
    by_cases z : c = 1 ∧ bd ≤ b
    · rw [if_pos z]; exact ⟨h.1, h.2.1, ite01, updP2 (P := fun v => v < 65536) h.2.2.2 (h.2.2.2 _ _)⟩
    · rw [if_neg z]; exact ⟨bkP_le, bkO_le h.2.1, ite01, updP2 (P := fun v => v < 65536) h.2.2.2 (bk_lt (bcN16 (hs c b)))⟩
theorem gB_or (L : Nat) : (gB L = 0 ∧ L ≠ 3 ∧ L ≠ 5 ∧ L ≠ 9) ∨ (gB L = 5 ∧ L = 3) ∨ (gB L = 7 ∧ L = 5) ∨ (gB L = 10 ∧ L = 9) := by
  unfold gB
  (repeat' split) <;> omega
theorem r3k_j {T : Nat → Nat} {en L c t b k : Nat} {x : RS} (hL : stOK L) (h : jX en 2 65536 x) : jX en 2 65536 (r3k T en L c t b k x) :=
  ⟨bkP_le, bkO_le h.2.1, ite01, updP2 (P := fun v => v < 65536) h.2.2.2 (bk_lt (bcN16 hL))⟩
theorem g10 {T : Nat → Nat} {at_ en L : Nat} : bkV T at_ en (gB L) < 1024 := by
  have := gB_or L
  exact bk_lt (show 2 ^ gB L ≤ 2 ^ 10 from Nat.pow_le_pow_right (by omega) (by omega))
theorem r3_j {T : Nat → Nat} {en L c t b at_ ov : Nat} {CO : Nat → Nat → Nat} (hL : stOK L) (h0 : at_ ≤ en) (h1 : ov ≤ 1) (h : ∀ i j, CO i j < 65536) : jX en 2 65536 (r3 T en L c t b at_ ov CO) := by
  unfold r3
  split
  · exact lp_inv (jX en 2 65536) ⟨h0, h1, by show 1 < 2; omega, h⟩ (fun _ _ _ q => r3k_j hL q)
  · have hv := g10 (T := T) (at_ := at_) (en := en) (L := L)
    refine ⟨bkP_le, bkO_le h1, ite01, updP2 (P := fun v => v < 65536) (updP2 (P := fun v => v < 65536) (updP2 (P := fun v => v < 65536) h ?_) ?_) ?_⟩
    · exact Nat.lt_of_le_of_lt (Nat.mod_le _ _) (by omega)
    · exact Nat.lt_of_le_of_lt (Nat.mod_le _ _) (Nat.lt_of_le_of_lt (Nat.div_le_self _ _) (by omega))
    · exact Nat.lt_of_le_of_lt (Nat.div_le_self _ _) (Nat.lt_of_le_of_lt (Nat.div_le_self _ _) (by omega))
theorem rO2_j {T : Nat → Nat} {en bd t b c : Nat} {ST : Nat → Nat → Nat} {x : RS} (hs : ∀ i j, stOK (ST i j)) (h : jX en 2 65536 x) : jX en 2 65536 (rO2 T en ST bd t b c x) := by
  unfold rO2
  by_cases q : ST c b = 0
  · rw [if_pos q]; exact h
  rw [if_neg q]
  by_cases z : c = 1 ∧ bd ≤ b
  · rw [if_pos z]; exact ⟨h.1, h.2.1, h.2.2.1, lp_inv (fun F : Nat → Nat → Nat => ∀ i j, F i j < 65536) h.2.2.2 (fun _ _ _ q => updP2 (P := fun v => v < 65536) q (q _ _))⟩
  · rw [if_neg z]
    have k := r3_j (T := T) (en := en) (L := ST c b) (c := c) (t := 3 * t) (b := b) (at_ := x.1) (ov := x.2.1) (hs c b) h.1 h.2.1 h.2.2.2
    exact ⟨k.1, k.2.1, ite01, k.2.2.2⟩
/-- the allocations told are within their bits -/
def jAl (ly ft ch b c : Nat) (AL : Nat → Nat → Nat) : Prop := ∀ i j, i < ch → (j < b ∨ (j = b ∧ i < c)) → AL i j < 2 ^ aBits ly ft j
theorem rAc_al {T : Nat → Nat} {en ly ft bd ch b c : Nat} {x : RS} (h : jAl ly ft ch b c x.2.2.2) (hch : ch ≤ 2) : jAl ly ft ch b (c + 1) (rAc T en ly ft bd b c x).2.2.2 := by
  intro i j hi hj
  unfold rAc
  split
  · next q =>
    show updN2 _ _ _ _ i j < _
    rw [updN2_at]
    split
    · next z => rw [z.2]; exact h 0 b (by omega) (Or.inr ⟨rfl, by omega⟩)
    · exact h i j hi (by omega)
  · show updN2 _ _ _ _ i j < _
    rw [updN2_at]
    split
    · next z => rw [z.2]; exact bkV_lt _ _ _ _
    · exact h i j hi (by omega)
theorem lp_invN {σ : Type} {F : Nat → σ → σ} (P : Nat → σ → Prop) {n : Nat} {x : σ} (h0 : P 0 x) (hs : ∀ i x, i < n → P i x → P (i + 1) (F i x)) : P n (lp F n x) := by
  induction n with
  | zero => exact h0
  | succ n ih => exact hs n _ (by omega) (ih (fun i x h => hs i x (by omega)))
theorem rA_al {T : Nat → Nat} {en ly ft bd ch bn : Nat} {x : RS} (hch : ch ≤ 2) : ∀ c b, c < ch → b < bn → (lp (rAb T en ly ft bd ch) bn x).2.2.2 c b < 2 ^ aBits ly ft b := by
  have h : jAl ly ft ch bn 0 (lp (rAb T en ly ft bd ch) bn x).2.2.2 :=
    lp_invN (fun b (x : RS) => jAl ly ft ch b 0 x.2.2.2) (fun i j _ hj => by omega) (fun b x hb h => by
      have k : jAl ly ft ch b ch (lp (rAc T en ly ft bd b) ch x).2.2.2 := lp_invN (fun c (x : RS) => jAl ly ft ch b c x.2.2.2) h (fun c x hc h => rAc_al h hch)
      intro i j hi hj
      exact k i j hi (by omega))
  exact fun c b hc hb => h c b hc (Or.inl hb)
theorem rTb_ok {ly ft bn c b : Nat} {AL ST : Nat → Nat → Nat} (h : ∀ i j, stOK (ST i j)) : ∀ i j, stOK (rTb ly ft bn AL c b ST i j) := updP2 h (stepL_OK _ _ _ _)
theorem stepL1 {ft b al : Nat} : stepL 1 ft b al ≠ 5 ∧ stepL 1 ft b al ≠ 9 := by
  unfold stepL
  by_cases h : al = 0
  · rw [if_pos h]; omega
  · rw [if_neg h, if_pos rfl]
    by_cases q : al < 15
    · rw [if_pos q]
      exact (by decide : ∀ a : Fin 15, 2 ^ (a.val + 1) - 1 ≠ 5 ∧ 2 ^ (a.val + 1) - 1 ≠ 9) ⟨al, q⟩
    · rw [if_neg q]; omega
theorem c_bitsOfL (l : Launch) (g : GT) (sz : Nat) (L : Nat) (hL : stOK L) (h5 : L ≠ 5) (h9 : L ≠ 9) : CtI l g yX7_bitsOf wsX7_bitsOf rm_c_bitsOf [.int (nI L)] [] sz (fun _ => True) (fun rr u => rr = nI (bcN L) ∧ u = []) 0 0 := by
  rcases hL with h | h | ⟨k, hk, rfl⟩
  · exact absurd h h5
  · exact absurd h h9
  · rw [bcN_pow hk]
    exact c_bitsOf l g sz k hk
