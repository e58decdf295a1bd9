/-! the whole reading -/
def zN : Nat → Nat := fun _ => 0
def zI : Nat → Int32 := fun _ => 0
theorem aBits1 (ft ft2 b : Nat) : aBits 1 ft b = aBits 1 ft2 b := by unfold aBits; rw [if_pos rfl, if_pos rfl]
theorem stepL1_ft (ft ft2 b al : Nat) : stepL 1 ft b al = stepL 1 ft2 b al := by unfold stepL; (repeat' split) <;> first | rfl | omega
theorem stepB1_ft (ft ft2 b al : Nat) : stepB 1 ft b al = stepB 1 ft2 b al := by unfold stepB; (repeat' split) <;> first | rfl | omega
theorem alC_ft {T : Nat → Nat} {P lim ft ft2 ch b : Nat} : alC T P lim 1 ft ch b = alC T P lim 1 ft2 ch b := by
  funext c x
  unfold alC
  rw [aBits1 ft ft2 b, stepB1_ft ft ft2, stepL1_ft ft ft2]
theorem rdX1_ft {T : Nat → Nat} {P lim ly ft ft2 ch bd bn ck : Nat} {st0 : Nat → Nat} (h : ly = 1 ∨ ft = ft2) : rdX1 T P lim ly ft ch bd bn ck st0 = rdX1 T P lim ly ft2 ch bd bn ck st0 := by
  rcases h with rfl | rfl
  · unfold rdX1
    have e : alB T P lim 1 ft ch bd = alB T P lim 1 ft2 ch bd := by
      funext b x
      unfold alB
      rw [alC_ft (ft2 := ft2)]
    rw [e]
  · rfl
theorem stepB_15 {ly ft b al : Nat} (hly : ly = 1 ∨ ly = 2) (h : al < 2 ^ aBits ly ft b) : stepB ly ft b al = 0 ↔ ¬ (ly = 1 ∧ al = 15) := by
  have h16 := al16 h
  unfold stepB
  by_cases q : al = 0
  · rw [if_pos q]; omega
  · rw [if_neg q]
    rcases hly with rfl | rfl
    · rw [if_pos rfl]; split <;> omega
    · rw [if_neg (by omega), if_pos (alen h)]; omega
/-- allocations, selections: both over, or the same -/
theorem eq_sel {T : Nat → Nat} {fi sz ly bn ch bd pr : Nat} {AL SE : Nat → Nat → Nat} (hly : ly = 1 ∨ ly = 2) (hbn : bn ≤ 32) (h1 : 1 ≤ ch) (hch : ch ≤ 2) (hsz : 32 ≤ sz) (hSE : ∀ i j, SE i j < 4) :
    ((rdS1 T (8 * fi) (8 * sz) ly (fT bn) ch bd bn pr zN zN).2.1 ≠ 0 ∧ (qS T fi sz ly bn ch bd pr AL SE).2.1 ≠ 0) ∨
    (EA T (8 * fi) (8 * sz) (if pr = 0 then 32 else 48) (crcB T (8 * fi + 16) 16 65535) ly (fT bn) ch bd bn 0 (rdX1 T (8 * fi) (8 * sz) ly (fT bn) ch bd bn pr zN) (qA T fi sz ly bn ch bd pr AL) ∧
      (rdS1 T (8 * fi) (8 * sz) ly (fT bn) ch bd bn pr zN zN).2.1 = 0 ∧ (qS T fi sz ly bn ch bd pr AL SE).2.1 = 0 ∧ (qS T fi sz ly bn ch bd pr AL SE).1 = 8 * fi + (rdS1 T (8 * fi) (8 * sz) ly (fT bn) ch bd bn pr zN zN).1 ∧
      ((if pr = 0 then 32 else 48) ≤ (rdS1 T (8 * fi) (8 * sz) ly (fT bn) ch bd bn pr zN zN).1 ∧ (rdS1 T (8 * fi) (8 * sz) ly (fT bn) ch bd bn pr zN zN).1 ≤ 8 * sz) ∧
      (qS T fi sz ly bn ch bd pr AL SE).2.2.1 = crcB T (8 * fi + (if pr = 0 then 32 else 48)) ((rdS1 T (8 * fi) (8 * sz) ly (fT bn) ch bd bn pr zN zN).1 - (if pr = 0 then 32 else 48)) (crcB T (8 * fi + 16) 16 65535) ∧
      ∀ c b, c < ch → b < bn → (rdS1 T (8 * fi) (8 * sz) ly (fT bn) ch bd bn pr zN zN).2.2 (c * 32 + b) = selR ly (qS T fi sz ly bn ch bd pr AL SE).2.2.2 c b ∧ selR ly (qS T fi sz ly bn ch bd pr AL SE).2.2.2 c b ≤ 3) := by
  obtain ⟨p0, hp0⟩ : ∃ z, z = (if pr = 0 then 32 else 48) := ⟨_, rfl⟩
  have hp9 : p0 ≤ 48 := by rw [hp0]; split <;> omega
  obtain ⟨c0, hc0⟩ : ∃ z, z = crcB T (8 * fi + 16) 16 65535 := ⟨_, rfl⟩
  rw [← hp0, ← hc0]
  have hen : 8 * (fi + sz) = 8 * fi + 8 * sz := Nat.mul_add 8 fi sz
  have eA : qA T fi sz ly bn ch bd pr AL = lp (rAb T (8 * fi + 8 * sz) ly (fT bn) bd ch) bn (8 * fi + p0, 0, c0, AL) := by
    unfold qA
    rw [hen, ← hp0, ← hc0]
  have eX : rdX1 T (8 * fi) (8 * sz) ly (fT bn) ch bd bn pr zN = lp (alB T (8 * fi) (8 * sz) ly (fT bn) ch bd) bn (p0, 0, 0, z64 zN) := by
    unfold rdX1
    rw [← hp0]
  have hR := RA_all (T := T) (P := 8 * fi) (lim := 8 * sz) (p0 := p0) (c0 := c0) (ly := ly) (ft := fT bn) (ch := ch) (bd := bd) (bn := bn) (st0 := zN) (AL := AL) hbn h1 hch (by omega)
  rw [← eX, ← eA] at hR
  have hal : ∀ c b, c < ch → b < bn → (qA T fi sz ly bn ch bd pr AL).2.2.2 c b < 2 ^ aBits ly (fT bn) b := by rw [eA]; exact rA_al hch
  have eS : qS T fi sz ly bn ch bd pr AL SE = lp (rSb T (8 * fi + 8 * sz) (qA T fi sz ly bn ch bd pr AL).2.2.2 ch) (if ly = 2 then bn else 0) ((qA T fi sz ly bn ch bd pr AL).1, (qA T fi sz ly bn ch bd pr AL).2.1, (qA T fi sz ly bn ch bd pr AL).2.2.1, SE) := by
    unfold qS
    rw [hen]
  have eR : rdS1 T (8 * fi) (8 * sz) ly (fT bn) ch bd bn pr zN zN = seA T (8 * fi) (8 * sz) (rdX1 T (8 * fi) (8 * sz) ly (fT bn) ch bd bn pr zN).2.2.2 ch ly bn ((rdX1 T (8 * fi) (8 * sz) ly (fT bn) ch bd bn pr zN).1, (rdX1 T (8 * fi) (8 * sz) ly (fT bn) ch bd bn pr zN).2.1, t64 zN) := rfl
  rw [eS, eR]
  generalize rdX1 T (8 * fi) (8 * sz) ly (fT bn) ch bd bn pr zN = X at hR
  generalize qA T fi sz ly bn ch bd pr AL = Y at hR hal
  have t2 : ∀ q, q < 64 → t64 zN q = 2 := fun q hq => by unfold t64; rw [if_pos hq]
  rcases hR with ⟨r1, r2⟩ | hE
  · refine Or.inl ⟨?_, rs_over r2⟩
    unfold seA
    split
    · exact r1
    · exact se_over r1
  · rcases hly with rfl | rfl
    · have e1 : ∀ x, seA T (8 * fi) (8 * sz) X.2.2.2 ch 1 bn x = x := fun x => if_pos rfl
      rw [e1, if_neg (show ¬ (1 : Nat) = 2 by omega)]
      refine Or.inr ⟨hE, hE.1, hE.2.1, hE.2.2.1, hE.2.2.2.1, hE.2.2.2.2.1, fun c b hc hb => ⟨?_, ?_⟩⟩
      · show t64 zN (c * 32 + b) = selR 1 SE c b
        rw [t2 _ (by omega)]
        rfl
      · show selR 1 SE c b ≤ 3
        unfold selR
        rw [if_pos rfl]; omega
    · have e1 : ∀ x, seA T (8 * fi) (8 * sz) X.2.2.2 ch 2 bn x = lp (seB T (8 * fi) (8 * sz) X.2.2.2 ch) bn x := fun x => if_neg (by omega)
      rw [e1, if_pos rfl]
      have hst : ∀ c b, c < ch → b < bn → (X.2.2.2 (c * 32 + b) = 0 ↔ Y.2.2.2 c b = 0) := fun c b hc hb => by
        rw [hE.2.2.2.2.2.1 c b hc (by omega) (Or.inl hb)]
        exact stepL2_0 (hal c b hc hb)
      have k := RS_all (T := T) (P := 8 * fi) (lim := 8 * sz) (p0 := p0) (c0 := c0) (ch := ch) (bn := bn) (st := X.2.2.2) (AL := Y.2.2.2) (x := (X.1, X.2.1, t64 zN)) (y := (Y.1, Y.2.1, Y.2.2.1, SE)) hbn hch hst (Or.inr ⟨hE.1, hE.2.1, hE.2.2.1, hE.2.2.2.1, hE.2.2.2.2.1, fun i j _ _ hq => by omega, fun i j hi hj _ => t2 _ (by omega)⟩)
      have hb4 : ∀ i j, (lp (rSb T (8 * fi + 8 * sz) Y.2.2.2 ch) bn (Y.1, Y.2.1, Y.2.2.1, SE)).2.2.2 i j < 4 :=
        lp_inv (fun y : RS => ∀ i j, y.2.2.2 i j < 4) hSE (fun b y _ h => lp_inv (fun y : RS => ∀ i j, y.2.2.2 i j < 4) h (fun c y _ h => by
          unfold rSc
          split
          · exact updP2 (P := fun v => v < 4) h (by omega)
          · exact updP2 (P := fun v => v < 4) h (bk_lt (Nat.le_refl 4))))
      rcases k with k | ⟨k1, k2, k3, k4, k5, k6, k7⟩
      · exact Or.inl k
      · refine Or.inr ⟨hE, k1, k2, k3, k4, k5, fun c b hc hb => ⟨?_, ?_⟩⟩
        · rw [k6 c b hc (by omega) (Or.inl hb)]
          unfold selR
          rw [if_neg (by omega)]
        · unfold selR
          rw [if_neg (by omega)]
          have := hb4 c b
          omega
theorem rdT_eq {T : Nat → Nat} {P lim ly ft ch bd bn ck : Nat} {st0 se0 : Nat → Nat} (h0 : (rdS1 T P lim ly ft ch bd bn ck st0 se0).2.1 = 0) (h1 : (if ck = 0 then 32 else 48) ≤ (rdS1 T P lim ly ft ch bd bn ck st0 se0).1) (h2 : (rdS1 T P lim ly ft ch bd bn ck st0 se0).1 ≤ lim) (h3 : 48 ≤ lim) : rdT T P lim k16 ly ft ch bd bn ck st0 se0 = ((rdS1 T P lim ly ft ch bd bn ck st0 se0).1, 0, (rdX1 T P lim ly ft ch bd bn ck st0).2.2.1) ∧ (ck ≠ 0 → (ckB T P lim k16 ((rdS1 T P lim ly ft ch bd bn ck st0 se0).1, (rdS1 T P lim ly ft ch bd bn ck st0 se0).2.1)).2.2 = crcB T (P + 48) ((rdS1 T P lim ly ft ch bd bn ck st0 se0).1 - 48) (crcB T (P + 16) 16 65535)) := by
  have h16 := k16_eq
  by_cases q : ck = 0
  · rw [rdT_0 q, h0]
    exact ⟨rfl, fun z => absurd q z⟩
  · rw [if_neg q] at h1
    have e : ckB T P lim k16 ((rdS1 T P lim ly ft ch bd bn ck st0 se0).1, (rdS1 T P lim ly ft ch bd bn ck st0 se0).2.1) = ((rdS1 T P lim ly ft ch bd bn ck st0 se0).1, 0, crcB T (P + 48) ((rdS1 T P lim ly ft ch bd bn ck st0 se0).1 - 48) (crcB T (P + 16) 16 65535)) := by
      unfold ckB
      dsimp only
      rw [h0, h16, ckF_run 16 (by omega)]
      dsimp only
      rw [ckF_run _ (by omega)]
      rw [show 48 + ((rdS1 T P lim ly ft ch bd bn ck st0 se0).1 - 48) = (rdS1 T P lim ly ft ch bd bn ck st0 se0).1 by omega]
    rw [rdT_1 q, e]
    exact ⟨rfl, fun _ => rfl⟩
/-- what is asked of the contents read -/
def CTR (T : Nat → Nat) (fi sz ly bn ch bd pr : Nat) (ST1 FA1 CO1 : Nat → Nat → Nat) : Prop := ∀ c b, c < ch → b < 32 →
  ST1 c b = (rdX1 T (8 * fi) (8 * sz) ly (fT bn) ch bd bn pr zN).2.2.2 (c * 32 + b) ∧
  (ST1 c b ≠ 0 → ∀ k, k < 3 → FA1 (c * 32 + b) k = (rdF T (8 * fi) (8 * sz) k16 ly (fT bn) ch bd bn pr zN zN zN).2 ((c * 32 + b) * 3 + k)) ∧
  ∀ t, t < 12 * (if ly = 1 then 1 else 3) → smp (CO1 (c * 36 + t) b) (ST1 c b) (FA1 (c * 32 + b) (t * 3 / (12 * (if ly = 1 then 1 else 3)))) = (rdM T (8 * fi) (8 * sz) k16 k12 ly (fT bn) ch bd bn pr zN zN zN zN zI).2.2.2.2 ((c * 36 + t) * 32 + b)
theorem rd_eq0 {T : Nat → Nat} {fi sz ly bn ch bd pr oq : Nat} {AL SE ST FA CO ST1 FA1 CO1 : Nat → Nat → Nat} (hly : ly = 1 ∨ ly = 2) (hbn : bn ≤ 32) (h1 : 1 ≤ ch) (hch : ch ≤ 2) (hsz : 32 ≤ sz) (hjb : jB AL SE ST FA CO) (h : rdP T fi sz ly bn ch bd pr AL SE ST FA CO oq ST1 FA1 CO1) :
    oq = rdO T (8 * fi) (8 * sz) k16 k12 ly (fT bn) ch bd bn pr zN zN zN zN zI ∧ (oq = 0 → CTR T fi sz ly bn ch bd pr ST1 FA1 CO1) := by
  have h12 := k12_eq
  rcases eq_sel (T := T) (fi := fi) (sz := sz) (ly := ly) (bn := bn) (ch := ch) (bd := bd) (pr := pr) (AL := AL) (SE := SE) hly hbn h1 hch hsz hjb.2.1 with ⟨o1, o2⟩ | ⟨hE, s1, s2, s3, s4, s5, s6⟩
  · have e2 : oq = 2 := by
      rcases h with h | h | h | h | h
      · exact h.2
      all_goals exact absurd h.1 o2
    refine ⟨?_, fun z => by omega⟩
    unfold rdO
    rw [if_pos o1, e2]
  · obtain ⟨t1, t2⟩ := rdT_eq (T := T) (P := 8 * fi) (lim := 8 * sz) s1 s4.1 s4.2 (by omega)
    have hen : 8 * (fi + sz) = 8 * fi + 8 * sz := Nat.mul_add 8 fi sz
    have hcrc : (pr ≠ 0 ∧ bitsV T (8 * fi + 32) 16 ≠ (ckB T (8 * fi) (8 * sz) k16 ((rdS1 T (8 * fi) (8 * sz) ly (fT bn) ch bd bn pr zN zN).1, (rdS1 T (8 * fi) (8 * sz) ly (fT bn) ch bd bn pr zN zN).2.1)).2.2) ↔ ¬ (pr = 0 ∨ (if pr = 0 then 0 else bitsV T (8 * fi + 32) 16) = (qS T fi sz ly bn ch bd pr AL SE).2.2.1) := by
      by_cases q : pr = 0
      · exact ⟨fun z => absurd q z.1, fun z => absurd (Or.inl q) z⟩
      · rw [t2 q, if_neg q, s5, if_neg q]
        exact ⟨fun z w => by rcases w with w | w; exact q w; exact z.2 w, fun z => ⟨q, fun w => z (Or.inr w)⟩⟩
    have hal : ∀ c b, c < ch → b < bn → (qA T fi sz ly bn ch bd pr AL).2.2.2 c b < 2 ^ aBits ly (fT bn) b := by unfold qA; exact rA_al hch
    by_cases hq : ¬ (pr = 0 ∨ (if pr = 0 then 0 else bitsV T (8 * fi + 32) 16) = (qS T fi sz ly bn ch bd pr AL SE).2.2.1)
    · have e1 : oq = 1 := by
        rcases h with h | h | h | h | h
        · exact absurd s2 h.1
        · exact h.2.2
        all_goals exact absurd h.2.1 hq
      refine ⟨?_, fun z => by omega⟩
      unfold rdO
      rw [if_neg (fun z => z s1), if_pos (hcrc.mpr hq), e1]
    · have hO : rdO T (8 * fi) (8 * sz) k16 k12 ly (fT bn) ch bd bn pr zN zN zN zN zI = if (rdM T (8 * fi) (8 * sz) k16 k12 ly (fT bn) ch bd bn pr zN zN zN zN zI).2.2.1 = 0 ∧ (rdM T (8 * fi) (8 * sz) k16 k12 ly (fT bn) ch bd bn pr zN zN zN zN zI).2.1 = 0 then 0 else 2 := by
        unfold rdO
        rw [if_neg (fun z => z s1), if_neg (fun z => hq (hcrc.mp z))]
      obtain ⟨X, hX⟩ : ∃ X, X = rdX1 T (8 * fi) (8 * sz) ly (fT bn) ch bd bn pr zN := ⟨_, rfl⟩
      have hF0 : rdF T (8 * fi) (8 * sz) k16 ly (fT bn) ch bd bn pr zN zN zN = lp (fcB T (8 * fi) (8 * sz) X.2.2.2 (rdS1 T (8 * fi) (8 * sz) ly (fT bn) ch bd bn pr zN zN).2.2 ch) bn (((rdS1 T (8 * fi) (8 * sz) ly (fT bn) ch bd bn pr zN zN).1, 0, X.2.2.1), z192 zN) := by
        unfold rdF rdX2
        rw [t1, hX]
      have hM0 : rdM T (8 * fi) (8 * sz) k16 k12 ly (fT bn) ch bd bn pr zN zN zN zN zI = lp (tbG T (8 * fi) (8 * sz) X.2.2.2 (rdF T (8 * fi) (8 * sz) k16 ly (fT bn) ch bd bn pr zN zN zN).2 ly ch bd bn) k12 ((rdF T (8 * fi) (8 * sz) k16 ly (fT bn) ch bd bn pr zN zN zN).1.1, (rdF T (8 * fi) (8 * sz) k16 ly (fT bn) ch bd bn pr zN zN zN).1.2.1, (rdF T (8 * fi) (8 * sz) k16 ly (fT bn) ch bd bn pr zN zN zN).1.2.2, zN, zsm zI) := by
        unfold rdM rdX3
        rw [hX]
      have hlost : LT (rdM T (8 * fi) (8 * sz) k16 k12 ly (fT bn) ch bd bn pr zN zN zN zN zI) → rdO T (8 * fi) (8 * sz) k16 k12 ly (fT bn) ch bd bn pr zN zN zN zN zI = 2 := fun z => by
        rw [hO, if_neg (fun w => by rcases z with z | z; exact z w.2; exact z w.1)]
      rw [← hX] at hE
      have hbad := hE.2.2.2.2.2.2.1
      by_cases h15 : ly = 1 ∧ ∃ i j, i < ch ∧ j < bn ∧ (qA T fi sz ly bn ch bd pr AL).2.2.2 i j = 15
      · have hb : X.2.2.1 ≠ 0 := fun z => by
          obtain ⟨i, j, hi, hj, he⟩ := h15.2
          have := (stepB_15 hly (hal i j hi hj)).mp (hbad.mp z i j hi (by omega) (Or.inl hj))
          exact this ⟨h15.1, he⟩
        have e2 : oq = 2 := by
          rcases h with h | h | h | h | h
          · exact h.2
          · exact absurd h.2.1 hq
          · exact h.2.2.2
          · exact h.2.2.2.2
          · obtain ⟨i, j, hi, hj, he⟩ := h15.2
            exact absurd he (h.2.2.1 h15.1 i j hi hj)
        refine ⟨?_, fun z => by omega⟩
        rw [e2]
        refine (hlost ?_).symm
        rw [hM0]
        apply tb_L
        have : LX (rdF T (8 * fi) (8 * sz) k16 ly (fT bn) ch bd bn pr zN zN zN) := by
          rw [hF0]
          exact fc_L (Or.inr hb)
        exact this
      · have hb : X.2.2.1 = 0 := hbad.mpr (fun i j hi hj hq2 => (stepB_15 hly (hal i j hi (by omega))).mpr (fun z => h15 ⟨z.1, i, j, hi, by omega, z.2⟩))
        have hST : ∀ c b, c < ch → b < 32 → qT T fi sz ly bn ch bd pr AL ST c b = X.2.2.2 (c * 32 + b) := fun c b hc hb2 => by
          unfold qT
          rw [rT_at hc hb2]
          by_cases w : b < bn
          · rw [if_pos w, hE.2.2.2.2.2.1 c b hc hb2 (Or.inl w)]
          · rw [if_neg w, hE.2.2.2.2.2.2.2.1 c b (by omega) hb2 (by omega)]
            unfold stepL
            rw [if_pos rfl]
        have hFF : RF (8 * fi) (8 * sz) ch X.2.2.2 bn 0 (rdF T (8 * fi) (8 * sz) k16 ly (fT bn) ch bd bn pr zN zN zN) (qF T fi sz ly bn ch bd pr AL SE ST FA) := by
          rw [hF0]
          unfold qF
          rw [hen, hb]
          exact RF_all hbn (fun c b hc hb2 => hST c b hc (by omega)) (fun c b hc hb2 => s6 c b hc hb2) (Or.inr ⟨rfl, rfl, s2, by show 1 ≠ 0; omega, s3, s4.2, fun i j k _ _ hq2 => by omega⟩)
        have hCeq : ∀ y0 : RS, (if ly = 1 then lp (rO1t T (8 * (fi + sz)) (qT T fi sz ly bn ch bd pr AL ST) bd ch bn) k12 y0 else lp (rO2t T (8 * (fi + sz)) (qT T fi sz ly bn ch bd pr AL ST) bd ch bn) k12 y0) = lp (fun t y => lp (fun b y => lp (RO (qT T fi sz ly bn ch bd pr AL ST) bd (if ly = 1 then rd1 T (8 * fi + 8 * sz) (qT T fi sz ly bn ch bd pr AL ST) else rd2 T (8 * fi + 8 * sz) (qT T fi sz ly bn ch bd pr AL ST)) (if ly = 1 then cp1 (qT T fi sz ly bn ch bd pr AL ST) else cp2) t b) ch y) bn y) k12 y0 := fun y0 => by
          rw [hen]
          by_cases w : ly = 1
          · rw [if_pos w, if_pos w, if_pos w]
            apply lp_fun
            funext t y
            unfold rO1t
            apply lp_fun
            funext b y
            unfold rO1b
            rw [rO1_RO]
          · rw [if_neg w, if_neg w, if_neg w]
            apply lp_fun
            funext t y
            unfold rO2t
            apply lp_fun
            funext b y
            unfold rO2b
            rw [rO2_RO]
        have hlay : LAY T (8 * fi) (8 * sz) (if ly = 1 then 1 else 3) bn ch (qT T fi sz ly bn ch bd pr AL ST) (if ly = 1 then rd1 T (8 * fi + 8 * sz) (qT T fi sz ly bn ch bd pr AL ST) else rd2 T (8 * fi + 8 * sz) (qT T fi sz ly bn ch bd pr AL ST)) (if ly = 1 then cp1 (qT T fi sz ly bn ch bd pr AL ST) else cp2) := by
          by_cases w : ly = 1
          · rw [if_pos w, if_pos w, if_pos w]; exact LAY1
          · rw [if_neg w, if_neg w, if_neg w]; exact LAY2
        have hqC : qC T fi sz ly bn ch bd pr AL SE ST FA CO = lp (fun t y => lp (fun b y => lp (RO (qT T fi sz ly bn ch bd pr AL ST) bd (if ly = 1 then rd1 T (8 * fi + 8 * sz) (qT T fi sz ly bn ch bd pr AL ST) else rd2 T (8 * fi + 8 * sz) (qT T fi sz ly bn ch bd pr AL ST)) (if ly = 1 then cp1 (qT T fi sz ly bn ch bd pr AL ST) else cp2) t b) ch y) bn y) k12 ((qF T fi sz ly bn ch bd pr AL SE ST FA).1, (qF T fi sz ly bn ch bd pr AL SE ST FA).2.1, 1, CO) := by
          rw [← hCeq]
          rfl
        have fin2 : ¬ ((qF T fi sz ly bn ch bd pr AL SE ST FA).2.2.1 ≠ 0 ∧ (qC T fi sz ly bn ch bd pr AL SE ST FA CO).2.2.1 ≠ 0 ∧ (qC T fi sz ly bn ch bd pr AL SE ST FA CO).2.1 = 0) → oq = 2 := fun hng => by
          rcases h with h | h | h | h | h
          · exact h.2
          · exact absurd h.2.1 hq
          · exact h.2.2.2
          · exact h.2.2.2.2
          · exact absurd h.2.2.2.1 hng
        rcases hFF with ⟨l1, l2⟩ | hEF
        · have e2 : oq = 2 := fin2 (fun w => by
            rcases l2 with l2 | l2
            · have : LY (qC T fi sz ly bn ch bd pr AL SE ST FA CO) := by
                rw [hqC]
                exact lp_inv LY (Or.inl l2) (fun t y _ h => lp_inv LY h (fun b y _ h => lp_inv LY h (fun c y _ h => RO_L hlay h)))
              rcases this with z | z
              · exact z w.2.2
              · exact w.2.1 z
            · exact w.1 l2)
          refine ⟨?_, fun z => by omega⟩
          rw [e2]
          refine (hlost ?_).symm
          rw [hM0]
          apply tb_L
          exact l1
        · have hCC : RC (8 * fi) (8 * sz) ch bn (if ly = 1 then 1 else 3) X.2.2.2 (rdF T (8 * fi) (8 * sz) k16 ly (fT bn) ch bd bn pr zN zN zN).2 k12 0 0 (rdM T (8 * fi) (8 * sz) k16 k12 ly (fT bn) ch bd bn pr zN zN zN zN zI) (qC T fi sz ly bn ch bd pr AL SE ST FA CO) := by
            rw [hM0, hqC]
            refine RC_all h12 hlay rfl hbn h1 hch (fun c b hc hb2 => hST c b hc (by omega)) (fun b hb2 hbd2 hc2 => ?_) (Or.inr ⟨hEF.1, hEF.2.1, hEF.2.2.1, by show 1 ≠ 0; omega, hEF.2.2.2.2.1, hEF.2.2.2.2.2.1, fun i j g r _ _ _ _ hq2 => by omega, fun i j t hi hj ht _ => ?_⟩)
            · rw [hE.2.2.2.2.2.1 1 b (by omega) (by omega) (Or.inl hb2), hE.2.2.2.2.2.1 0 b (by omega) (by omega) (Or.inl hb2), hE.2.2.2.2.2.2.2.2 b (by omega) (Or.inl hb2) hbd2 hc2]
            · show zsm zI ((i * 36 + t) * 32 + j) = 0
              unfold zsm
              rw [if_pos (by omega)]
              rfl
          rcases hCC with ⟨l1, l2⟩ | hEC
          · have e2 : oq = 2 := fin2 (fun w => by
              rcases l2 with z | z
              · exact z w.2.2
              · exact w.2.1 z)
            exact ⟨by rw [e2]; exact (hlost l1).symm, fun z => by omega⟩
          · have hgood : (qF T fi sz ly bn ch bd pr AL SE ST FA).2.2.1 ≠ 0 ∧ (qC T fi sz ly bn ch bd pr AL SE ST FA CO).2.2.1 ≠ 0 ∧ (qC T fi sz ly bn ch bd pr AL SE ST FA CO).2.1 = 0 := ⟨hEF.2.2.2.1, hEC.2.2.2.1, hEC.2.2.1⟩
            have hfin : oq = 0 ∧ ST1 = qT T fi sz ly bn ch bd pr AL ST ∧ FA1 = (qF T fi sz ly bn ch bd pr AL SE ST FA).2.2.2 ∧ CO1 = (qC T fi sz ly bn ch bd pr AL SE ST FA CO).2.2.2 := by
              rcases h with h | h | h | h | h
              · exact absurd s2 h.1
              · exact absurd h.2.1 hq
              · exact absurd h.2.2.1 h15
              · exact absurd hgood h.2.2.2.1
              · exact h.2.2.2.2
            obtain ⟨e0, eST, eFA, eCO⟩ := hfin
            refine ⟨by rw [e0, hO, if_pos ⟨hEC.2.1, hEC.1⟩], fun _ c b hc hb2 => ?_⟩
            have a1 : ST1 c b = X.2.2.2 (c * 32 + b) := by rw [eST]; exact hST c b hc hb2
            have hlt : ST1 c b ≠ 0 → b < bn := fun w => by
              apply Classical.byContradiction
              intro v
              exact w (by rw [a1]; exact hE.2.2.2.2.2.2.2.1 c b (by omega) hb2 (by omega))
            have a2 : ST1 c b ≠ 0 → ∀ k, k < 3 → FA1 (c * 32 + b) k = (rdF T (8 * fi) (8 * sz) k16 ly (fT bn) ch bd bn pr zN zN zN).2 ((c * 32 + b) * 3 + k) := fun w k hk => by
              rw [eFA]
              exact (hEF.2.2.2.2.2.2 c b k hc hb2 (Or.inl (hlt w)) hk (by rw [← a1]; exact w)).symm
            rw [← hX]
            refine ⟨a1, a2, fun t ht => ?_⟩
            by_cases w : ST1 c b = 0
            · rw [w, hEC.2.2.2.2.2.2.2 c b t (by omega) hb2 (by revert ht; split <;> omega) (by rw [← a1]; exact w)]
              rfl
            · have hbn2 := hlt w
              rcases hly with rfl | rfl
              · rw [if_pos rfl] at ht ⊢
                rw [a2 w _ (by omega)]
                have k := hEC.2.2.2.2.2.2.1 c b t 0 hc hbn2 (by omega) (by rw [if_pos rfl]; omega) (Or.inl (by omega)) (by rw [← a1]; exact w)
                rw [if_pos rfl, ← eCO, ← a1, show t * 1 + 0 = t by omega] at k
                rw [k, show t * 3 / (12 * 1) = t / 4 by omega]
              · rw [if_neg (by omega)] at ht ⊢
                rw [a2 w _ (by omega)]
                have k := hEC.2.2.2.2.2.2.1 c b (t / 3) (t % 3) hc hbn2 (by omega) (by rw [if_neg (by omega)]; omega) (Or.inl (by omega)) (by rw [← a1]; exact w)
                rw [if_neg (by omega), ← eCO, ← a1, show t / 3 * 3 + t % 3 = t by omega] at k
                rw [k, show t * 3 / (12 * 3) = t / 3 / 4 by omega]
