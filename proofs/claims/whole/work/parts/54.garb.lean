/-! old contents don't matter -/
def agr (n : Nat) (f g : Nat → Nat) : Prop := ∀ j, j < n → f j = g j
theorem agr_upd {n k v : Nat} {f g : Nat → Nat} (h : agr n f g) : agr n (updN f k v) (updN g k v) := by
  intro j hj
  unfold updN
  split
  · rfl
  · exact h j hj
def gA (x y : Nat × Nat × Nat × (Nat → Nat)) : Prop := x.1 = y.1 ∧ x.2.1 = y.2.1 ∧ x.2.2.1 = y.2.2.1 ∧ agr 64 x.2.2.2 y.2.2.2
theorem alC_g {T : Nat → Nat} {P lim ly ft ch b c : Nat} {x y : Nat × Nat × Nat × (Nat → Nat)} (h : gA x y) : gA (alC T P lim ly ft ch b c x) (alC T P lim ly ft ch b c y) := by
  obtain ⟨h1, h2, h3, h4⟩ := h
  unfold alC
  refine ⟨by dsimp only; rw [h1], by dsimp only; rw [h1, h2], by dsimp only; rw [h1, h3], ?_⟩
  dsimp only
  rw [h1]
  exact lp_rel (agr 64) h4 (fun _ _ _ _ h => agr_upd h)
theorem z64_g (f g : Nat → Nat) : agr 64 (z64 f) (z64 g) := fun j hj => by unfold z64; rw [if_pos hj, if_pos hj]
theorem z192_g (f g : Nat → Nat) : agr 192 (z192 f) (z192 g) := fun j hj => by unfold z192; rw [if_pos hj, if_pos hj]
theorem t64_g (f g : Nat → Nat) : agr 64 (t64 f) (t64 g) := fun j hj => by unfold t64; rw [if_pos hj, if_pos hj]
theorem rdX1_g (T : Nat → Nat) (P lim ly ft ch bd bn ck : Nat) (s1 s2 : Nat → Nat) : gA (rdX1 T P lim ly ft ch bd bn ck s1) (rdX1 T P lim ly ft ch bd bn ck s2) :=
  lp_rel gA ⟨rfl, rfl, rfl, z64_g s1 s2⟩ (fun _ _ _ _ h => lp_rel gA h (fun _ _ _ _ h => alC_g h))
def gS (x y : Nat × Nat × (Nat → Nat)) : Prop := x.1 = y.1 ∧ x.2.1 = y.2.1 ∧ agr 64 x.2.2 y.2.2
theorem seC_g {T : Nat → Nat} {P lim b c : Nat} {st st2 : Nat → Nat} {x y : Nat × Nat × (Nat → Nat)} (hst : agr 64 st st2) (hb : b < 32) (hc : c < 2) (h : gS x y) : gS (seC T P lim st b c x) (seC T P lim st2 b c y) := by
  unfold seC
  rw [hst (c * 32 + b) (by omega)]
  obtain ⟨h1, h2, h3⟩ := h
  split
  · exact ⟨h1, h2, h3⟩
  · refine ⟨by dsimp only; rw [h1], by dsimp only; rw [h1, h2], ?_⟩
    dsimp only
    rw [h1]
    exact agr_upd h3
theorem seA_g {T : Nat → Nat} {P lim ch ly bn : Nat} {st st2 : Nat → Nat} {x y : Nat × Nat × (Nat → Nat)} (hst : agr 64 st st2) (hb : bn ≤ 32) (hc : ch ≤ 2) (h : gS x y) : gS (seA T P lim st ch ly bn x) (seA T P lim st2 ch ly bn y) := by
  unfold seA
  split
  · exact h
  · exact lp_rel gS h (fun b _ _ hb' h => lp_rel gS h (fun c _ _ hc' h => seC_g hst (by omega) (by omega) h))
theorem rdS1_g (T : Nat → Nat) (P lim ly ft ch bd bn ck : Nat) (s1 s2 e1 e2 : Nat → Nat) (hb : bn ≤ 32) (hc : ch ≤ 2) : gS (rdS1 T P lim ly ft ch bd bn ck s1 e1) (rdS1 T P lim ly ft ch bd bn ck s2 e2) := by
  have h := rdX1_g T P lim ly ft ch bd bn ck s1 s2
  exact seA_g h.2.2.2 hb hc ⟨h.1, h.2.1, t64_g e1 e2⟩
def gF (x y : (Nat × Nat × Nat) × (Nat → Nat)) : Prop := x.1 = y.1 ∧ agr 192 x.2 y.2
theorem fcC_g {T : Nat → Nat} {P lim b c : Nat} {st st2 se se2 : Nat → Nat} {x y : (Nat × Nat × Nat) × (Nat → Nat)} (hst : agr 64 st st2) (hse : agr 64 se se2) (hb : b < 32) (hc : c < 2) (h : gF x y) : gF (fcC T P lim st se b c x) (fcC T P lim st2 se2 b c y) := by
  unfold fcC
  rw [hst (c * 32 + b) (by omega), hse (c * 32 + b) (by omega)]
  obtain ⟨h1, h2⟩ := h
  split
  · exact ⟨h1, h2⟩
  · dsimp only
    rw [h1]
    exact ⟨rfl, agr_upd (agr_upd (agr_upd h2))⟩
theorem rdT_g (T : Nat → Nat) (P lim K ly ft ch bd bn ck : Nat) (s1 s2 e1 e2 : Nat → Nat) (hb : bn ≤ 32) (hc : ch ≤ 2) : rdT T P lim K ly ft ch bd bn ck s1 e1 = rdT T P lim K ly ft ch bd bn ck s2 e2 := by
  have h := rdX1_g T P lim ly ft ch bd bn ck s1 s2
  have h2 := rdS1_g T P lim ly ft ch bd bn ck s1 s2 e1 e2 hb hc
  unfold rdT
  dsimp only
  rw [h.2.2.1, h2.1, h2.2.1]
theorem rdF_g (T : Nat → Nat) (P lim K ly ft ch bd bn ck : Nat) (s1 s2 e1 e2 f1 f2 : Nat → Nat) (hb : bn ≤ 32) (hc : ch ≤ 2) : gF (rdF T P lim K ly ft ch bd bn ck s1 e1 f1) (rdF T P lim K ly ft ch bd bn ck s2 e2 f2) := by
  have h := rdX1_g T P lim ly ft ch bd bn ck s1 s2
  have h2 := rdS1_g T P lim ly ft ch bd bn ck s1 s2 e1 e2 hb hc
  exact lp_rel gF ⟨rdT_g T P lim K ly ft ch bd bn ck s1 s2 e1 e2 hb hc, z192_g f1 f2⟩ (fun b _ _ hb' h' => lp_rel gF h' (fun c _ _ hc' h' => fcC_g h.2.2.2 h2.2.2 (by omega) (by omega) h'))
/-- codes: what is read is the same; the first at1 codes are the same whatever stood there -/
def gC (n : Nat) (x y : Nat × Nat × Nat × (Nat → Nat)) : Prop := x.1 = y.1 ∧ x.2.1 = y.2.1 ∧ x.2.2.1 = y.2.2.1 ∧ agr n x.2.2.2 y.2.2.2
theorem cd_g {T : Nat → Nat} {P lim L : Nat} {x y : Nat × Nat × Nat × (Nat → Nat)} (h1 : x.1 = y.1) (h2 : x.2.1 = y.2.1) (h3 : x.2.2.1 = y.2.2.1) (n : Nat) : gC n (lp (cd1 T P lim L) n x) (lp (cd1 T P lim L) n y) := by
  induction n with
  | zero => exact ⟨h1, h2, h3, fun j hj => by omega⟩
  | succ n ih =>
    obtain ⟨a1, a2, a3, a4⟩ := ih
    show gC (n + 1) (cd1 T P lim L n (lp (cd1 T P lim L) n x)) (cd1 T P lim L n (lp (cd1 T P lim L) n y))
    unfold cd1
    unfold cd1 at a1 a2 a3 a4
    refine ⟨by dsimp only; rw [a1], by dsimp only; rw [a1, a2], by dsimp only; rw [a1, a3], ?_⟩
    dsimp only
    rw [a1]
    intro j hj
    unfold updN
    by_cases e : j = n
    · rw [if_pos e, if_pos e]
    · rw [if_neg e, if_neg e]
      exact a4 j (by omega)
theorem cdA_g {T : Nat → Nat} {P lim at1 L : Nat} {x y : Nat × Nat × Nat × (Nat → Nat)} (h1 : x.1 = y.1) (h2 : x.2.1 = y.2.1) (h3 : x.2.2.1 = y.2.2.1) : gC at1 (cdA T P lim at1 L x) (cdA T P lim at1 L y) := by
  unfold cdA
  split
  · next hg =>
    unfold cdG
    dsimp only
    refine ⟨by dsimp only; rw [h1], by dsimp only; rw [h1, h2], by dsimp only; rw [h1, h3], ?_⟩
    dsimp only
    rw [h1, hg.1]
    intro j hj
    unfold updN
    rcases (show j = 0 ∨ j = 1 ∨ j = 2 by omega) with rfl | rfl | rfl <;> simp
  · exact cd_g h1 h2 h3 at1
def agrI (n : Nat) (f g : Nat → Int32) : Prop := ∀ j, j < n → f j = g j
theorem agrI_upd {n k : Nat} {v : Int32} {f g : Nat → Int32} (h : agrI n f g) : agrI n (upd f k v) (upd g k v) := by
  intro j hj
  unfold upd
  split
  · rfl
  · exact h j hj
def gT (x y : Nat × Nat × Nat × (Nat → Nat) × (Nat → Int32)) : Prop := x.1 = y.1 ∧ x.2.1 = y.2.1 ∧ x.2.2.1 = y.2.2.1 ∧ agrI 2304 x.2.2.2.2 y.2.2.2.2
theorem tbC_g {T : Nat → Nat} {P lim ly ch bd gr b c : Nat} {st st2 fa fa2 : Nat → Nat} {x y : Nat × Nat × Nat × (Nat → Nat) × (Nat → Int32)} (hst : agr 64 st st2) (hfa : agr 192 fa fa2) (hb : b < 32) (hc : c < 2) (hch : ch ≤ 2) (hgr : gr < 12) (h : gT x y) : gT (tbC T P lim st fa ly ch bd gr b c x) (tbC T P lim st2 fa2 ly ch bd gr b c y) := by
  unfold tbC
  rw [hst (c * 32 + b) (by omega)]
  obtain ⟨h1, h2, h3, h4⟩ := h
  split
  · exact ⟨h1, h2, h3, h4⟩
  · dsimp only
    have k := cdA_g (T := T) (P := P) (lim := lim) (at1 := if ly = 1 then 1 else 3) (L := st2 (c * 32 + b)) (x := (x.1, x.2.1, x.2.2.1, x.2.2.2.1)) (y := (y.1, y.2.1, y.2.2.1, y.2.2.2.1)) h1 h2 h3
    refine ⟨k.1, k.2.1, k.2.2.1, ?_⟩
    refine lp_rel (agrI 2304) h4 (fun i s s2 hi hs => ?_)
    have hci : c + i < 2 := by
      have : (if (if b < bd then ch else 1) < ch then ch - 1 else c) ≤ 1 := by (repeat' split) <;> omega
      omega
    refine lp_rel (agrI 2304) hs (fun q u u2 hq hu => ?_)
    unfold plF
    rw [hst ((c + i) * 32 + b) (by omega), hfa (((c + i) * 32 + b) * 3 + gr / 4) (by omega), k.2.2.2 q hq]
    exact agrI_upd hu
theorem tbG_g {T : Nat → Nat} {P lim ly ch bd bn gr : Nat} {st st2 fa fa2 : Nat → Nat} {x y : Nat × Nat × Nat × (Nat → Nat) × (Nat → Int32)} (hst : agr 64 st st2) (hfa : agr 192 fa fa2) (hb : bn ≤ 32) (hch : ch ≤ 2) (hgr : gr < 12) (h : gT x y) : gT (tbG T P lim st fa ly ch bd bn gr x) (tbG T P lim st2 fa2 ly ch bd bn gr y) := by
  unfold tbG
  rw [h.2.1, h.2.2.1]
  split
  · refine lp_rel gT h (fun b u u2 hb' hu => ?_)
    refine lp_rel gT hu (fun c w w2 hc hw => ?_)
    have : (if b < bd then ch else 1) ≤ 2 := by split <;> omega
    exact tbC_g hst hfa (by omega) (by omega) hch hgr hw
  · exact h
theorem rdM_g (T : Nat → Nat) (P lim K G ly ft ch bd bn ck : Nat) (s1 s2 e1 e2 f1 f2 c1 c2 : Nat → Nat) (m1 m2 : Nat → Int32) (hG : G = 12) (hb : bn ≤ 32) (hc : ch ≤ 2) : gT (rdM T P lim K G ly ft ch bd bn ck s1 e1 f1 c1 m1) (rdM T P lim K G ly ft ch bd bn ck s2 e2 f2 c2 m2) := by
  have h := rdX1_g T P lim ly ft ch bd bn ck s1 s2
  have h2 := rdF_g T P lim K ly ft ch bd bn ck s1 s2 e1 e2 f1 f2 hb hc
  unfold rdM rdX3
  refine lp_rel gT ⟨by dsimp only; rw [h2.1], by dsimp only; rw [h2.1], by dsimp only; rw [h2.1], fun j hj => by dsimp only; unfold zsm; rw [if_pos hj, if_pos hj]⟩ (fun gr u u2 hg hu => tbG_g h.2.2.2 h2.2 hb hc (by omega) hu)
theorem rdO_g (T : Nat → Nat) (P lim K G ly ft ch bd bn ck : Nat) (s1 s2 e1 e2 f1 f2 c1 c2 : Nat → Nat) (m1 m2 : Nat → Int32) (hG : G = 12) (hb : bn ≤ 32) (hc : ch ≤ 2) : rdO T P lim K G ly ft ch bd bn ck s1 e1 f1 c1 m1 = rdO T P lim K G ly ft ch bd bn ck s2 e2 f2 c2 m2 := by
  have h2 := rdS1_g T P lim ly ft ch bd bn ck s1 s2 e1 e2 hb hc
  have h3 := rdM_g T P lim K G ly ft ch bd bn ck s1 s2 e1 e2 f1 f2 c1 c2 m1 m2 hG hb hc
  unfold rdO
  rw [h2.1, h2.2.1, h3.2.1, h3.2.2.1]
