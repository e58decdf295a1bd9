/-! the reference's reading against the class's: allocations, selections, check -/
theorem rk_fit {T : Nat → Nat} {P lim pos n : Nat} (h : pos + n ≤ lim) : tkP lim pos n = pos + n ∧ (∀ b, tkB lim pos n b = b) ∧ tkV T P lim pos n = bitsV T (P + pos) n ∧ bkP (P + pos) (P + lim) n = P + (pos + n) ∧ (∀ b, bkO (P + pos) (P + lim) n b = b) ∧ bkV T (P + pos) (P + lim) n = bitsV T (P + pos) n := by
  have h2 : P + pos + n ≤ P + lim := by omega
  unfold tkP tkB tkV bkP bkO bkV
  refine ⟨if_pos h, fun b => if_pos h, if_pos h, ?_, fun b => if_pos h2, if_pos h2⟩
  rw [if_pos h2]; omega
theorem rk_no {P lim pos n : Nat} (h : ¬ pos + n ≤ lim) (b : Nat) : tkB lim pos n b = 1 ∧ bkO (P + pos) (P + lim) n b = 1 := by
  unfold tkB bkO
  exact ⟨if_neg h, if_neg (by omega)⟩
theorem tkB_n0 {lim pos n b : Nat} (h : b ≠ 0) : tkB lim pos n b ≠ 0 := by unfold tkB; split <;> omega
theorem bkO_nn {at_ en n ov : Nat} (h : ov ≠ 0) : bkO at_ en n ov ≠ 0 := by unfold bkO; split <;> omega
theorem lp_relN {σ τ : Type} {F : Nat → σ → σ} {G : Nat → τ → τ} (R : Nat → σ → τ → Prop) {n : Nat} {x : σ} {y : τ} (h0 : R 0 x y) (hs : ∀ i x y, i < n → R i x y → R (i + 1) (F i x) (G i y)) : R n (lp F n x) (lp G n y) := by
  induction n with
  | zero => exact h0
  | succ n ih => exact hs n _ _ (by omega) (ih (fun i x y h => hs i x y (by omega)))
theorem lpw_at {c b v n : Nat} {f : Nat → Nat} (hb : b < 32) (i j : Nat) (hj : j < 32) : lp (fun q st => updN st ((c + q) * 32 + b) v) n f (i * 32 + j) = if j = b ∧ c ≤ i ∧ i < c + n then v else f (i * 32 + j) := by
  induction n with
  | zero => rw [if_neg (by omega)]; rfl
  | succ n ih =>
    show updN (lp (fun q st => updN st ((c + q) * 32 + b) v) n f) ((c + n) * 32 + b) v (i * 32 + j) = _
    unfold updN
    by_cases h : i * 32 + j = (c + n) * 32 + b
    · rw [if_pos h, if_pos (by omega)]
    · rw [if_neg h]
      unfold updN at ih
      rw [ih]
      by_cases q : j = b ∧ c ≤ i ∧ i < c + n
      · rw [if_pos q, if_pos (by omega)]
      · rw [if_neg q, if_neg (by omega)]
abbrev XA : Type := Nat × Nat × Nat × (Nat → Nat)
def EA (T : Nat → Nat) (P lim p0 c0 ly ft ch bd b c : Nat) (x : XA) (y : RS) : Prop :=
  x.2.1 = 0 ∧ y.2.1 = 0 ∧ y.1 = P + x.1 ∧ (p0 ≤ x.1 ∧ x.1 ≤ lim) ∧ y.2.2.1 = crcB T (P + p0) (x.1 - p0) c0 ∧
  (∀ i j, i < ch → j < 32 → (j < b ∨ (j = b ∧ i < c)) → x.2.2.2 (i * 32 + j) = stepL ly ft j (y.2.2.2 i j)) ∧
  (x.2.2.1 = 0 ↔ ∀ i j, i < ch → j < 32 → (j < b ∨ (j = b ∧ i < c)) → stepB ly ft j (y.2.2.2 i j) = 0) ∧
  (∀ i j, i < 2 → j < 32 → (b < j ∨ (j = b ∧ c = 0)) → x.2.2.2 (i * 32 + j) = 0) ∧
  (∀ j, j < 32 → (j < b ∨ (j = b ∧ c = 2)) → bd ≤ j → ch = 2 → y.2.2.2 1 j = y.2.2.2 0 j)
def RA (T : Nat → Nat) (P lim p0 c0 ly ft ch bd b c : Nat) (x : XA) (y : RS) : Prop := (x.2.1 ≠ 0 ∧ y.2.1 ≠ 0) ∨ EA T P lim p0 c0 ly ft ch bd b c x y
theorem stepB_or (ly ft b al : Nat) : stepB ly ft b al = 0 ∨ stepB ly ft b al = 1 := by have := stepB_le ly ft b al; omega
theorem crc_go {T : Nat → Nat} {P p0 x n c0 : Nat} (h : p0 ≤ x) : crcB T (P + x) n (crcB T (P + p0) (x - p0) c0) = crcB T (P + p0) (x + n - p0) c0 := by
  rw [show x + n - p0 = (x - p0) + n by omega, crcB_app, show P + p0 + (x - p0) = P + x by omega]
theorem RA_read {T : Nat → Nat} {P lim p0 c0 ly ft ch bd b c : Nat} {x : XA} {y : RS} (hb : b < 32) (hc : c < ch) (hch : ch ≤ 2) (hn : ¬ (c = 1 ∧ bd ≤ b)) (h : RA T P lim p0 c0 ly ft ch bd b c x y) : RA T P lim p0 c0 ly ft ch bd b (c + 1) (alC T P lim ly ft ch b c x) (rAc T (P + lim) ly ft bd b c y) := by
  have ey : rAc T (P + lim) ly ft bd b c y = (bkP y.1 (P + lim) (aBits ly ft b), bkO y.1 (P + lim) (aBits ly ft b) y.2.1, ckV T y.1 (P + lim) (aBits ly ft b) y.2.1 y.2.2.1, updN2 y.2.2.2 c b (bkV T y.1 (P + lim) (aBits ly ft b))) := if_neg hn
  rw [ey]
  rcases h with ⟨h1, h2⟩ | ⟨h1, h2, h3, h4, h5, h6, h7, h8, h9⟩
  · exact Or.inl ⟨tkB_n0 h1, bkO_nn h2⟩
  · rw [h3]
    by_cases hf : x.1 + aBits ly ft b ≤ lim
    · obtain ⟨f1, f2, f3, f4, f5, f6⟩ := rk_fit (T := T) (P := P) hf
      obtain ⟨V, hV⟩ : ∃ V, V = bitsV T (P + x.1) (aBits ly ft b) := ⟨_, rfl⟩
      rw [← hV] at f3 f6
      have ex : alC T P lim ly ft ch b c x = (x.1 + aBits ly ft b, 0, (if stepB ly ft b V = 1 then 1 else x.2.2.1), lp (fun i st => updN st ((c + i) * 32 + b) (stepL ly ft b V)) (ch - c) x.2.2.2) := by
        unfold alC
        rw [f1, f2, f3, h1]
      have ec : ckV T (P + x.1) (P + lim) (aBits ly ft b) y.2.1 y.2.2.1 = crcB T (P + p0) (x.1 + aBits ly ft b - p0) c0 := by
        unfold ckV
        rw [if_pos ⟨by omega, h2⟩, h5, crc_go h4.1]
      rw [ex, f4, f5, f6, ec]
      refine Or.inr ⟨rfl, h2, rfl, ⟨by show p0 ≤ x.1 + _; omega, hf⟩, rfl, ?_, ?_, ?_, ?_⟩
      · intro i j hi hj hq
        show (lp (σ := Nat → Nat) _ _ _) (i * 32 + j) = stepL ly ft j (updN2 y.2.2.2 c b V i j)
        rw [lpw_at hb i j hj, updN2_at]
        by_cases z : i = c ∧ j = b
        · rw [if_pos (by omega), if_pos z, z.2]
        · rw [if_neg (by omega), if_neg z]
          exact h6 i j hi hj (by omega)
      · show (if stepB ly ft b V = 1 then 1 else x.2.2.1) = 0 ↔ ∀ i j, i < ch → j < 32 → (j < b ∨ (j = b ∧ i < c + 1)) → stepB ly ft j (updN2 y.2.2.2 c b V i j) = 0
        constructor
        · intro q i j hi hj hq
          rw [updN2_at]
          by_cases z : i = c ∧ j = b
          · rw [if_pos z, z.2]
            rcases stepB_or ly ft b V with w | w
            · exact w
            · rw [if_pos w] at q; omega
          · rw [if_neg z]
            refine h7.mp ?_ i j hi hj (by omega)
            rcases stepB_or ly ft b V with w | w
            · rw [if_neg (by omega)] at q; exact q
            · rw [if_pos w] at q; omega
        · intro q
          have q1 := q c b hc hb (Or.inr ⟨rfl, by omega⟩)
          rw [updN2_at, if_pos ⟨rfl, rfl⟩] at q1
          rw [if_neg (by omega)]
          refine h7.mpr (fun i j hi hj hq => ?_)
          have q2 := q i j hi hj (by omega)
          rw [updN2_at, if_neg (by omega)] at q2
          exact q2
      · intro i j hi hj hq
        show (lp (σ := Nat → Nat) _ _ _) (i * 32 + j) = 0
        rw [lpw_at hb i j hj, if_neg (by omega)]
        exact h8 i j hi hj (by omega)
      · intro j hj hq hbd hc2
        show updN2 y.2.2.2 c b V 1 j = updN2 y.2.2.2 c b V 0 j
        rw [updN2_at, updN2_at, if_neg (by omega), if_neg (by omega)]
        exact h9 j hj (by omega) hbd hc2
    · exact Or.inl ⟨by show tkB _ _ _ _ ≠ 0; rw [(rk_no (P := P) hf x.2.1).1]; omega, by show bkO _ _ _ _ ≠ 0; rw [(rk_no (P := P) hf y.2.1).2]; omega⟩
theorem alC_both {T : Nat → Nat} {P lim ly ft b : Nat} {x : XA} (hb : b < 32) : (alC T P lim ly ft 2 b 0 x).2.2.2 (1 * 32 + b) = (alC T P lim ly ft 2 b 0 x).2.2.2 (0 * 32 + b) := by
  show (lp (σ := Nat → Nat) _ _ _) (1 * 32 + b) = (lp (σ := Nat → Nat) _ _ _) (0 * 32 + b)
  rw [lpw_at hb 1 b hb, lpw_at hb 0 b hb, if_pos (by omega), if_pos (by omega)]
theorem RA_copy {T : Nat → Nat} {P lim p0 c0 ly ft bd b : Nat} {x : XA} {y : RS} (hb : b < 32) (hbd : bd ≤ b) (h : RA T P lim p0 c0 ly ft 2 bd b 0 x y) : RA T P lim p0 c0 ly ft 2 bd b 2 (alC T P lim ly ft 2 b 0 x) (rAc T (P + lim) ly ft bd b 1 (rAc T (P + lim) ly ft bd b 0 y)) := by
  have k := RA_read (c := 0) hb (by omega) (Nat.le_refl 2) (by omega) h
  have e9 := alC_both (T := T) (P := P) (lim := lim) (ly := ly) (ft := ft) (x := x) hb
  generalize alC T P lim ly ft 2 b 0 x = x1 at k e9
  generalize rAc T (P + lim) ly ft bd b 0 y = y1 at k
  have ey : rAc T (P + lim) ly ft bd b 1 y1 = (y1.1, y1.2.1, y1.2.2.1, updN2 y1.2.2.2 1 b (y1.2.2.2 0 b)) := if_pos ⟨rfl, hbd⟩
  rw [ey]
  rcases k with ⟨h1, h2⟩ | ⟨h1, h2, h3, h4, h5, h6, h7, h8, h9⟩
  · exact Or.inl ⟨h1, h2⟩
  · have hu : ∀ i j, updN2 y1.2.2.2 1 b (y1.2.2.2 0 b) i j = if i = 1 ∧ j = b then y1.2.2.2 0 b else y1.2.2.2 i j := fun i j => updN2_at _ _ _ _ _ _
    refine Or.inr ⟨h1, h2, h3, h4, h5, fun i j hi hj hq => ?_, ?_, fun i j hi hj hq => h8 i j hi hj (by omega), fun j hj hq hb2 _ => ?_⟩
    · dsimp only
      rw [hu]
      by_cases z : i = 1 ∧ j = b
      · rw [if_pos z, z.1, z.2, e9]
        exact h6 0 b (by omega) hb (Or.inr ⟨rfl, by omega⟩)
      · rw [if_neg z]
        exact h6 i j hi hj (by omega)
    · refine h7.trans ⟨fun q i j hi hj hq => ?_, fun q i j hi hj hq => ?_⟩
      · dsimp only
        rw [hu]
        by_cases z : i = 1 ∧ j = b
        · rw [if_pos z, z.2]; exact q 0 b (by omega) hb (Or.inr ⟨rfl, by omega⟩)
        · rw [if_neg z]; exact q i j hi hj (by omega)
      · have q2 := q i j hi hj (by omega)
        dsimp only at q2
        rw [hu, if_neg (by omega)] at q2
        exact q2
    · dsimp only
      rw [hu, hu, if_neg (show ¬ (0 = 1 ∧ j = b) by omega)]
      by_cases z : j = b
      · rw [if_pos ⟨rfl, z⟩, z]
      · rw [if_neg (by omega)]
        exact h9 j hj (by omega) hb2 rfl
theorem RA_next {T : Nat → Nat} {P lim p0 c0 ly ft ch bd b : Nat} {x : XA} {y : RS} (h : RA T P lim p0 c0 ly ft ch bd b ch x y) : RA T P lim p0 c0 ly ft ch bd (b + 1) 0 x y := by
  rcases h with h | ⟨h1, h2, h3, h4, h5, h6, h7, h8, h9⟩
  · exact Or.inl h
  · refine Or.inr ⟨h1, h2, h3, h4, h5, fun i j hi hj hq => h6 i j hi hj (by omega), h7.trans ⟨fun q i j hi hj hq => q i j hi hj (by omega), fun q i j hi hj hq => q i j hi hj (by omega)⟩, fun i j hi hj hq => h8 i j hi hj (by omega), fun j hj hq hb2 hc2 => h9 j hj (by omega) hb2 hc2⟩
theorem RA_band {T : Nat → Nat} {P lim p0 c0 ly ft ch bd b : Nat} {x : XA} {y : RS} (hb : b < 32) (h1 : 1 ≤ ch) (hch : ch ≤ 2) (h : RA T P lim p0 c0 ly ft ch bd b 0 x y) : RA T P lim p0 c0 ly ft ch bd (b + 1) 0 (alB T P lim ly ft ch bd b x) (rAb T (P + lim) ly ft bd ch b y) := by
  apply RA_next
  unfold alB rAb
  by_cases q : b < bd ∨ ch = 1
  · have e : (if b < bd then ch else 1) = ch := by split <;> omega
    rw [e]
    exact lp_relN (fun c => RA T P lim p0 c0 ly ft ch bd b c) h (fun c x y hc hr => RA_read hb hc hch (by omega) hr)
  · have e : (if b < bd then ch else 1) = 1 := by split <;> omega
    have e2 : ch = 2 := by omega
    rw [e, e2]
    rw [e2] at h
    exact RA_copy hb (by omega) h
/-- allocations -/
theorem RA_all {T : Nat → Nat} {P lim p0 c0 ly ft ch bd bn : Nat} {st0 : Nat → Nat} {AL : Nat → Nat → Nat} (hbn : bn ≤ 32) (h1 : 1 ≤ ch) (hch : ch ≤ 2) (hp : p0 ≤ lim) : RA T P lim p0 c0 ly ft ch bd bn 0 (lp (alB T P lim ly ft ch bd) bn (p0, 0, 0, z64 st0)) (lp (rAb T (P + lim) ly ft bd ch) bn (P + p0, 0, c0, AL)) := by
  refine lp_relN (fun b => RA T P lim p0 c0 ly ft ch bd b 0) (Or.inr ⟨rfl, rfl, rfl, ⟨Nat.le_refl _, hp⟩, ?_, fun i j _ _ hq => by omega, ⟨fun _ i j _ _ hq => by omega, fun _ => rfl⟩, fun i j hi hj _ => ?_, fun j _ hq => by omega⟩) (fun b x y hb hr => RA_band (by omega) h1 hch hr)
  · show c0 = crcB T (P + p0) (p0 - p0) c0
    rw [Nat.sub_self]
    rfl
  · show z64 st0 (i * 32 + j) = 0
    unfold z64
    rw [if_pos (by omega)]
/-! selections -/
theorem stN_pos (n : Nat) : 3 ≤ stN n := by
  unfold stN
  split
  · omega
  · have : 2 ^ 2 ≤ 2 ^ n := Nat.pow_le_pow_right (by omega) (by omega)
    omega
theorem stepL2_0 {ft b al : Nat} (h : al < 2 ^ aBits 2 ft b) : stepL 2 ft b al = 0 ↔ al = 0 := by
  unfold stepL
  by_cases q : al = 0
  · rw [if_pos q]; omega
  · rw [if_neg q, if_neg (by omega), if_pos (alen h)]
    have := stN_pos (tN (stepT ft b) (al - 1))
    omega
def ES (T : Nat → Nat) (P lim p0 c0 ch b c : Nat) (x : Nat × Nat × (Nat → Nat)) (y : RS) : Prop :=
  x.2.1 = 0 ∧ y.2.1 = 0 ∧ y.1 = P + x.1 ∧ (p0 ≤ x.1 ∧ x.1 ≤ lim) ∧ y.2.2.1 = crcB T (P + p0) (x.1 - p0) c0 ∧
  (∀ i j, i < ch → j < 32 → (j < b ∨ (j = b ∧ i < c)) → x.2.2 (i * 32 + j) = y.2.2.2 i j) ∧
  (∀ i j, i < 2 → j < 32 → (b < j ∨ (j = b ∧ c ≤ i)) → x.2.2 (i * 32 + j) = 2)
def RSl (T : Nat → Nat) (P lim p0 c0 ch b c : Nat) (x : Nat × Nat × (Nat → Nat)) (y : RS) : Prop := (x.2.1 ≠ 0 ∧ y.2.1 ≠ 0) ∨ ES T P lim p0 c0 ch b c x y
theorem RS_step {T : Nat → Nat} {P lim p0 c0 ch b c : Nat} {st : Nat → Nat} {AL : Nat → Nat → Nat} {x : Nat × Nat × (Nat → Nat)} {y : RS} (hb : b < 32) (hc : c < ch) (hch : ch ≤ 2) (hst : st (c * 32 + b) = 0 ↔ AL c b = 0) (h : RSl T P lim p0 c0 ch b c x y) : RSl T P lim p0 c0 ch b (c + 1) (seC T P lim st b c x) (rSc T (P + lim) AL b c y) := by
  by_cases q : AL c b = 0
  · have ex : seC T P lim st b c x = x := if_pos (hst.mpr q)
    have ey : rSc T (P + lim) AL b c y = (y.1, y.2.1, y.2.2.1, updN2 y.2.2.2 c b 2) := if_pos q
    rw [ex, ey]
    rcases h with h | ⟨h1, h2, h3, h4, h5, h6, h7⟩
    · exact Or.inl h
    · refine Or.inr ⟨h1, h2, h3, h4, h5, fun i j hi hj hq => ?_, fun i j hi hj hq => h7 i j hi hj (by omega)⟩
      show x.2.2 (i * 32 + j) = updN2 y.2.2.2 c b 2 i j
      rw [updN2_at]
      by_cases z : i = c ∧ j = b
      · rw [if_pos z]; exact h7 i j (by omega) hj (by omega)
      · rw [if_neg z]; exact h6 i j hi hj (by omega)
  · have ex : seC T P lim st b c x = (tkP lim x.1 2, tkB lim x.1 2 x.2.1, updN x.2.2 (c * 32 + b) (tkV T P lim x.1 2)) := if_neg (fun z => q (hst.mp z))
    have ey : rSc T (P + lim) AL b c y = (bkP y.1 (P + lim) 2, bkO y.1 (P + lim) 2 y.2.1, ckV T y.1 (P + lim) 2 y.2.1 y.2.2.1, updN2 y.2.2.2 c b (bkV T y.1 (P + lim) 2)) := if_neg q
    rw [ex, ey]
    rcases h with ⟨h1, h2⟩ | ⟨h1, h2, h3, h4, h5, h6, h7⟩
    · exact Or.inl ⟨tkB_n0 h1, bkO_nn h2⟩
    · rw [h3]
      by_cases hf : x.1 + 2 ≤ lim
      · obtain ⟨f1, f2, f3, f4, f5, f6⟩ := rk_fit (T := T) (P := P) hf
        have ec : ckV T (P + x.1) (P + lim) 2 y.2.1 y.2.2.1 = crcB T (P + p0) (x.1 + 2 - p0) c0 := by
          unfold ckV
          rw [if_pos ⟨by omega, h2⟩, h5, crc_go h4.1]
        rw [f1, f2, f3, f4, f5, f6, ec]
        refine Or.inr ⟨h1, h2, rfl, ⟨by show p0 ≤ x.1 + 2; omega, hf⟩, rfl, fun i j hi hj hq => ?_, fun i j hi hj hq => ?_⟩
        · show updN x.2.2 (c * 32 + b) _ (i * 32 + j) = updN2 y.2.2.2 c b _ i j
          rw [updN2_at]
          unfold updN
          by_cases z : i = c ∧ j = b
          · rw [if_pos z, if_pos (by omega)]
          · rw [if_neg z, if_neg (by omega)]; exact h6 i j hi hj (by omega)
        · show updN x.2.2 (c * 32 + b) _ (i * 32 + j) = 2
          unfold updN
          rw [if_neg (by omega)]
          exact h7 i j hi hj (by omega)
      · exact Or.inl ⟨by show tkB _ _ _ _ ≠ 0; rw [(rk_no (P := P) hf x.2.1).1]; omega, by show bkO _ _ _ _ ≠ 0; rw [(rk_no (P := P) hf y.2.1).2]; omega⟩
theorem RS_next {T : Nat → Nat} {P lim p0 c0 ch b : Nat} {x : Nat × Nat × (Nat → Nat)} {y : RS} (hch : ch ≤ 2) (h : RSl T P lim p0 c0 ch b ch x y) : RSl T P lim p0 c0 ch (b + 1) 0 x y := by
  rcases h with h | ⟨h1, h2, h3, h4, h5, h6, h7⟩
  · exact Or.inl h
  · exact Or.inr ⟨h1, h2, h3, h4, h5, fun i j hi hj hq => h6 i j hi hj (by omega), fun i j hi hj hq => h7 i j hi hj (by omega)⟩
theorem RS_all {T : Nat → Nat} {P lim p0 c0 ch bn : Nat} {st : Nat → Nat} {AL : Nat → Nat → Nat} {x : Nat × Nat × (Nat → Nat)} {y : RS} (hbn : bn ≤ 32) (hch : ch ≤ 2) (hst : ∀ c b, c < ch → b < bn → (st (c * 32 + b) = 0 ↔ AL c b = 0)) (h : RSl T P lim p0 c0 ch 0 0 x y) : RSl T P lim p0 c0 ch bn 0 (lp (seB T P lim st ch) bn x) (lp (rSb T (P + lim) AL ch) bn y) :=
  lp_relN (fun b => RSl T P lim p0 c0 ch b 0) h (fun b x y hb hr => RS_next hch (lp_relN (fun c => RSl T P lim p0 c0 ch b c) hr (fun c x y hc hr => RS_step (by omega) hc hch (hst c b hc hb) hr)))
theorem se_over {T : Nat → Nat} {P lim ch bn : Nat} {st : Nat → Nat} {x : Nat × Nat × (Nat → Nat)} (h : x.2.1 ≠ 0) : (lp (seB T P lim st ch) bn x).2.1 ≠ 0 :=
  lp_inv (fun x : Nat × Nat × (Nat → Nat) => x.2.1 ≠ 0) h (fun b x _ h => lp_inv (fun x : Nat × Nat × (Nat → Nat) => x.2.1 ≠ 0) h (fun c x _ h => by
    unfold seC
    split
    · exact h
    · exact tkB_n0 h))
theorem rs_over {T : Nat → Nat} {en ch bn : Nat} {AL : Nat → Nat → Nat} {y : RS} (h : y.2.1 ≠ 0) : (lp (rSb T en AL ch) bn y).2.1 ≠ 0 :=
  lp_inv (fun y : RS => y.2.1 ≠ 0) h (fun b y _ h => lp_inv (fun y : RS => y.2.1 ≠ 0) h (fun c y _ h => by
    unfold rSc
    split
    · exact h
    · exact bkO_nn h))
/-! the check -/
theorem ckF_run {T : Nat → Nat} {P lim a bey c : Nat} (n : Nat) (h : a + n ≤ lim) : lp (ckF T P lim) n (a, bey, c) = (a + n, bey, crcB T (P + a) n c) := by
  induction n with
  | zero => rfl
  | succ n ih =>
    show ckF T P lim n (lp (ckF T P lim) n (a, bey, c)) = _
    rw [ih (by omega)]
    obtain ⟨f1, f2, f3, -, -, -⟩ := rk_fit (T := T) (P := P) (lim := lim) (pos := a + n) (n := 1) (by omega)
    have e1 : bitsV T (P + (a + n)) 1 = bitAt T (P + a + n) := by
      rw [bitsV_s]
      show 2 * 0 + bitAt T (P + (a + n) + 0) = _
      rw [show P + (a + n) + 0 = P + a + n by omega]
      omega
    unfold ckF
    dsimp only
    rw [f1, f2, f3, e1]
    rfl
