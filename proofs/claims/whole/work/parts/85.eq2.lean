/-! factors -/
theorem thX_0 {T : Nat → Nat} {P lim : Nat} (x : Nat × Nat × Nat) : thX T P lim 0 x = (fa1 T P lim (fa1 T P lim (fa1 T P lim x)), faV T P lim x, faV T P lim (fa1 T P lim x), faV T P lim (fa1 T P lim (fa1 T P lim x))) := by simp [thX]
theorem thX_1 {T : Nat → Nat} {P lim : Nat} (x : Nat × Nat × Nat) : thX T P lim 1 x = (fa1 T P lim (fa1 T P lim x), faV T P lim x, faV T P lim x, faV T P lim (fa1 T P lim x)) := by simp [thX]
theorem thX_2 {T : Nat → Nat} {P lim : Nat} (x : Nat × Nat × Nat) : thX T P lim 2 x = (fa1 T P lim x, faV T P lim x, faV T P lim x, faV T P lim x) := by simp [thX]
theorem thX_3 {T : Nat → Nat} {P lim : Nat} (x : Nat × Nat × Nat) : thX T P lim 3 x = (fa1 T P lim (fa1 T P lim x), faV T P lim x, faV T P lim (fa1 T P lim x), faV T P lim (fa1 T P lim x)) := by simp [thX]
theorem fa_fit {T : Nat → Nat} {P lim pos bad : Nat} (h : pos + 6 ≤ lim) : fa1 T P lim (pos, 0, bad) = (pos + 6, 0, if bitsV T (P + pos) 6 = 63 then 1 else bad) ∧ faV T P lim (pos, 0, bad) = bitsV T (P + pos) 6 := by
  obtain ⟨f1, f2, f3, -, -, -⟩ := rk_fit (T := T) (P := P) h
  unfold fa1 faV
  dsimp only
  rw [f1, f2, f3]
  exact ⟨rfl, rfl⟩
theorem fa_no {T : Nat → Nat} {P lim : Nat} {x : Nat × Nat × Nat} (h : ¬ x.1 + 6 ≤ lim) : (fa1 T P lim x).2.1 ≠ 0 := by
  show tkB lim x.1 6 x.2.1 ≠ 0
  rw [(rk_no (P := P) h x.2.1).1]
  omega
theorem fa_ov {T : Nat → Nat} {P lim : Nat} {x : Nat × Nat × Nat} (h : x.2.1 ≠ 0) : (fa1 T P lim x).2.1 ≠ 0 := tkB_n0 h
theorem fa_L {T : Nat → Nat} {P lim : Nat} {x : Nat × Nat × Nat} (h : x.2.1 ≠ 0 ∨ x.2.2 ≠ 0) : (fa1 T P lim x).2.1 ≠ 0 ∨ (fa1 T P lim x).2.2 ≠ 0 := by
  rcases h with h | h
  · exact Or.inl (fa_ov h)
  · right
    show (if _ then 1 else x.2.2) ≠ 0
    split <;> omega
theorem thX_L {T : Nat → Nat} {P lim s : Nat} {x : Nat × Nat × Nat} (h : x.2.1 ≠ 0 ∨ x.2.2 ≠ 0) : (thX T P lim s x).1.2.1 ≠ 0 ∨ (thX T P lim s x).1.2.2 ≠ 0 := by
  unfold thX
  dsimp only
  (repeat' split) <;> first | exact fa_L (fa_L (fa_L h)) | exact fa_L (fa_L h) | exact fa_L h
theorem rF1_ov {T : Nat → Nat} {en s at_ ov : Nat} (h : ov ≠ 0) : (rF1 T en s at_ ov).2.1 ≠ 0 := by
  unfold rF1
  (repeat' split)
  · exact bkO_nn h
  · exact bkO_nn (bkO_nn (bkO_nn h))
  · exact bkO_nn (bkO_nn h)
theorem b_fit {T : Nat → Nat} {P lim pos : Nat} (h : pos + 6 ≤ lim) : bkP (P + pos) (P + lim) 6 = P + (pos + 6) ∧ bkO (P + pos) (P + lim) 6 0 = 0 ∧ bkV T (P + pos) (P + lim) 6 = bitsV T (P + pos) 6 := by
  obtain ⟨-, -, -, f4, f5, f6⟩ := rk_fit (T := T) (P := P) h
  exact ⟨f4, f5 0, f6⟩
theorem b_no {P lim pos : Nat} (h : ¬ pos + 6 ≤ lim) (b : Nat) : bkO (P + pos) (P + lim) 6 b ≠ 0 := by rw [(rk_no (P := P) h b).2]; omega
theorem ite63 {V b : Nat} : (if V = 63 then 1 else b) = 0 ↔ V ≠ 63 ∧ b = 0 := by split <;> omega
def TH (P lim s : Nat) (z : (Nat × Nat × Nat) × Nat × Nat × Nat) (w : Nat × Nat × Nat × Nat × Nat) : Prop :=
  (z.1.2.1 ≠ 0 ∧ w.2.1 ≠ 0) ∨ (z.1.2.1 = 0 ∧ w.2.1 = 0 ∧ w.1 = P + z.1.1 ∧ z.1.1 ≤ lim ∧ (z.1.2.2 = 0 ↔ (w.2.2.1 ≠ 63 ∧ w.2.2.2.1 ≠ 63 ∧ w.2.2.2.2 ≠ 63)) ∧ z.2.1 = w.2.2.1 ∧ z.2.2.1 = (if s = 1 then w.2.2.1 else w.2.2.2.1) ∧ z.2.2.2 = w.2.2.2.2)
theorem TH_all {T : Nat → Nat} {P lim s pos : Nat} (hs : s ≤ 3) : TH P lim s (thX T P lim s (pos, 0, 0)) (rF1 T (P + lim) s (P + pos) 0) := by
  have r0 : rF1 T (P + lim) 0 (P + pos) 0 = (bkP (bkP (bkP (P + pos) (P + lim) 6) (P + lim) 6) (P + lim) 6, bkO (bkP (bkP (P + pos) (P + lim) 6) (P + lim) 6) (P + lim) 6 (bkO (bkP (P + pos) (P + lim) 6) (P + lim) 6 (bkO (P + pos) (P + lim) 6 0)), bkV T (P + pos) (P + lim) 6, bkV T (bkP (P + pos) (P + lim) 6) (P + lim) 6, bkV T (bkP (bkP (P + pos) (P + lim) 6) (P + lim) 6) (P + lim) 6) := by
    unfold rF1; rw [if_neg (by omega), if_pos rfl]
  have r2 : rF1 T (P + lim) 2 (P + pos) 0 = (bkP (P + pos) (P + lim) 6, bkO (P + pos) (P + lim) 6 0, bkV T (P + pos) (P + lim) 6, bkV T (P + pos) (P + lim) 6, bkV T (P + pos) (P + lim) 6) := by
    unfold rF1; rw [if_pos rfl]
  have rx : ∀ s, s = 1 ∨ s = 3 → rF1 T (P + lim) s (P + pos) 0 = (bkP (bkP (P + pos) (P + lim) 6) (P + lim) 6, bkO (bkP (P + pos) (P + lim) 6) (P + lim) 6 (bkO (P + pos) (P + lim) 6 0), bkV T (P + pos) (P + lim) 6, bkV T (bkP (P + pos) (P + lim) 6) (P + lim) 6, bkV T (bkP (P + pos) (P + lim) 6) (P + lim) 6) := fun s h => by
    unfold rF1; rw [if_neg (by omega), if_neg (by omega)]
  by_cases h1 : pos + 6 ≤ lim
  · obtain ⟨a1, a2⟩ := fa_fit (T := T) (P := P) (bad := 0) h1
    obtain ⟨b1, b2, b3⟩ := b_fit (T := T) (P := P) h1
    by_cases h2 : s = 2
    · subst h2
      rw [thX_2, r2, a1, a2, b1, b2, b3]
      exact Or.inr ⟨rfl, rfl, rfl, h1, ite63.trans ⟨fun q => ⟨q.1, q.1, q.1⟩, fun q => ⟨q.1, rfl⟩⟩, rfl, rfl, rfl⟩
    · by_cases h3 : pos + 6 + 6 ≤ lim
      · obtain ⟨a3, a4⟩ := fa_fit (T := T) (P := P) (bad := if bitsV T (P + pos) 6 = 63 then 1 else 0) h3
        obtain ⟨b4, b5, b6⟩ := b_fit (T := T) (P := P) h3
        by_cases h4 : s = 0
        · subst h4
          by_cases h5 : pos + 6 + 6 + 6 ≤ lim
          · obtain ⟨a5, a6⟩ := fa_fit (T := T) (P := P) (bad := if bitsV T (P + (pos + 6)) 6 = 63 then 1 else if bitsV T (P + pos) 6 = 63 then 1 else 0) h5
            obtain ⟨b7, b8, b9⟩ := b_fit (T := T) (P := P) h5
            rw [thX_0, r0, a1, a2, b1, b2, b3, a3, a4, b4, b5, b6, a5, a6, b7, b8, b9]
            exact Or.inr ⟨rfl, rfl, rfl, h5, ite63.trans ⟨fun q => ⟨(ite63.mp (ite63.mp q.2).2).1, (ite63.mp q.2).1, q.1⟩, fun q => ⟨q.2.2, ite63.mpr ⟨q.2.1, ite63.mpr ⟨q.1, rfl⟩⟩⟩⟩, rfl, rfl, rfl⟩
          · rw [thX_0, r0, a1, b1, b2, a3, b4, b5]
            exact Or.inl ⟨fa_no h5, b_no h5 _⟩
        · have hx := rx s (by omega)
          have ht : thX T P lim s (pos, 0, 0) = (fa1 T P lim (fa1 T P lim (pos, 0, 0)), faV T P lim (pos, 0, 0), (if s = 1 then faV T P lim (pos, 0, 0) else faV T P lim (fa1 T P lim (pos, 0, 0))), faV T P lim (fa1 T P lim (pos, 0, 0))) := by
            rcases (show s = 1 ∨ s = 3 by omega) with rfl | rfl
            · rw [thX_1, if_pos rfl]
            · rw [thX_3, if_neg (by omega)]
          rw [ht, hx, a1, a2, b1, b2, b3, a3, a4, b4, b5, b6]
          exact Or.inr ⟨rfl, rfl, rfl, h3, ite63.trans ⟨fun q => ⟨(ite63.mp q.2).1, q.1, q.1⟩, fun q => ⟨q.2.1, ite63.mpr ⟨q.1, rfl⟩⟩⟩, rfl, rfl, rfl⟩
      · rcases (show s = 0 ∨ s = 1 ∨ s = 3 by omega) with rfl | rfl | rfl
        · rw [thX_0, r0, a1, b1, b2]; exact Or.inl ⟨fa_ov (fa_no h3), bkO_nn (b_no h3 _)⟩
        · rw [thX_1, rx 1 (by omega), a1, b1, b2]; exact Or.inl ⟨fa_no h3, b_no h3 _⟩
        · rw [thX_3, rx 3 (by omega), a1, b1, b2]; exact Or.inl ⟨fa_no h3, b_no h3 _⟩
  · rcases (show s = 0 ∨ s = 1 ∨ s = 2 ∨ s = 3 by omega) with rfl | rfl | rfl | rfl
    · rw [thX_0, r0]; exact Or.inl ⟨fa_ov (fa_ov (fa_no h1)), bkO_nn (bkO_nn (b_no h1 _))⟩
    · rw [thX_1, rx 1 (by omega)]; exact Or.inl ⟨fa_ov (fa_no h1), bkO_nn (b_no h1 _)⟩
    · rw [thX_2, r2]; exact Or.inl ⟨fa_no h1, b_no h1 _⟩
    · rw [thX_3, rx 3 (by omega)]; exact Or.inl ⟨fa_ov (fa_no h1), bkO_nn (b_no h1 _)⟩
abbrev XF : Type := (Nat × Nat × Nat) × (Nat → Nat)
def LX (x : XF) : Prop := x.1.2.1 ≠ 0 ∨ x.1.2.2 ≠ 0
def LY (y : RS) : Prop := y.2.1 ≠ 0 ∨ y.2.2.1 = 0
def EF (P lim ch : Nat) (st : Nat → Nat) (b c : Nat) (x : XF) (y : RS) : Prop :=
  x.1.2.1 = 0 ∧ x.1.2.2 = 0 ∧ y.2.1 = 0 ∧ y.2.2.1 ≠ 0 ∧ y.1 = P + x.1.1 ∧ x.1.1 ≤ lim ∧
  ∀ i j k, i < ch → j < 32 → (j < b ∨ (j = b ∧ i < c)) → k < 3 → st (i * 32 + j) ≠ 0 → x.2 ((i * 32 + j) * 3 + k) = y.2.2.2 (i * 32 + j) k
def RF (P lim ch : Nat) (st : Nat → Nat) (b c : Nat) (x : XF) (y : RS) : Prop := (LX x ∧ LY y) ∨ EF P lim ch st b c x y
theorem put3_at (f : Nat → Nat) (a f1 f2 f3 q : Nat) : put3 f a f1 f2 f3 q = if q = a + 2 then f3 else if q = a + 1 then f2 else if q = a then f1 else f q := by
  unfold put3 updN
  rfl
theorem RF_step {T : Nat → Nat} {P lim ly ch b c : Nat} {st sel : Nat → Nat} {ST SE : Nat → Nat → Nat} {x : XF} {y : RS} (hb : b < 32) (hc : c < ch) (hST : ST c b = st (c * 32 + b)) (hsel : sel (c * 32 + b) = selR ly SE c b) (hs3 : selR ly SE c b ≤ 3) (h : RF P lim ch st b c x y) : RF P lim ch st b (c + 1) (fcC T P lim st sel b c x) (rFc T (P + lim) ly ST SE b c y) := by
  by_cases q : st (c * 32 + b) = 0
  · have ex : fcC T P lim st sel b c x = x := if_pos q
    have ey : rFc T (P + lim) ly ST SE b c y = y := if_pos (by rw [hST]; exact q)
    rw [ex, ey]
    rcases h with h | ⟨h1, h2, h3, h4, h5, h6, h7⟩
    · exact Or.inl h
    · refine Or.inr ⟨h1, h2, h3, h4, h5, h6, fun i j k hi hj hq hk hn => h7 i j k hi hj ?_ hk hn⟩
      by_cases z : i = c ∧ j = b
      · rw [z.1, z.2] at hn; exact absurd q hn
      · omega
  · have ex : fcC T P lim st sel b c x = ((thX T P lim (selR ly SE c b) x.1).1, put3 x.2 ((c * 32 + b) * 3) (thX T P lim (selR ly SE c b) x.1).2.1 (thX T P lim (selR ly SE c b) x.1).2.2.1 (thX T P lim (selR ly SE c b) x.1).2.2.2) := by
      unfold fcC
      rw [if_neg q, hsel]
    have ey : rFc T (P + lim) ly ST SE b c y = rF2 (selR ly SE c b) y.2.2.1 (c * 32 + b) y.2.2.2 (rF1 T (P + lim) (selR ly SE c b) y.1 y.2.1) := if_neg (by rw [hST]; exact q)
    rw [ex, ey]
    generalize selR ly SE c b = s at hs3
    rcases h with ⟨h1, h2⟩ | ⟨h1, h2, h3, h4, h5, h6, h7⟩
    · refine Or.inl ⟨thX_L h1, ?_⟩
      rcases h2 with h2 | h2
      · exact Or.inl (rF1_ov h2)
      · right
        show (if y.2.2.1 ≠ 0 ∧ _ then 1 else 0) = 0
        rw [if_neg (fun z => z.1 h2)]
    · have e1 : x.1 = (x.1.1, 0, 0) := Prod.ext rfl (Prod.ext h1 h2)
      have k := TH_all (T := T) (P := P) (lim := lim) (s := s) (pos := x.1.1) hs3
      rw [← e1, ← h5, ← h3] at k
      generalize thX T P lim s x.1 = z at k
      generalize rF1 T (P + lim) s y.1 y.2.1 = w at k
      rcases k with ⟨k1, k2⟩ | ⟨k1, k2, k3, k4, k5, k6, k7, k8⟩
      · exact Or.inl ⟨Or.inl k1, Or.inl k2⟩
      · by_cases hbad : z.1.2.2 = 0
        · have hw := k5.mp hbad
          refine Or.inr ⟨k1, hbad, k2, ?_, k3, k4, fun i j kk hi hj hq hk hn => ?_⟩
          · show (if y.2.2.1 ≠ 0 ∧ _ then 1 else 0) ≠ 0
            rw [if_pos ⟨h4, hw⟩]; omega
          · show put3 x.2 _ _ _ _ _ = updN2 (updN2 (updN2 y.2.2.2 (c * 32 + b) 0 w.2.2.1) (c * 32 + b) 1 _) (c * 32 + b) 2 w.2.2.2.2 (i * 32 + j) kk
            rw [put3_at, updN2_at, updN2_at, updN2_at, k6, k7, k8]
            generalize (if s = 1 then w.2.2.1 else w.2.2.2.1) = fv
            by_cases zz : i = c ∧ j = b
            · rw [zz.1, zz.2]
              rcases (show kk = 0 ∨ kk = 1 ∨ kk = 2 by omega) with rfl | rfl | rfl
              · rw [if_neg (by omega), if_neg (by omega), if_pos (by omega), if_neg (by omega), if_neg (by omega), if_pos ⟨rfl, rfl⟩]
              · rw [if_neg (by omega), if_pos (by omega), if_neg (by omega), if_pos ⟨rfl, rfl⟩]
              · rw [if_pos (by omega), if_pos ⟨rfl, rfl⟩]
            · rw [if_neg (by omega), if_neg (by omega), if_neg (by omega), if_neg (by omega), if_neg (by omega), if_neg (by omega)]
              exact h7 i j kk hi hj (by omega) hk hn
        · refine Or.inl ⟨Or.inr hbad, Or.inr ?_⟩
          show (if y.2.2.1 ≠ 0 ∧ _ then 1 else 0) = 0
          rw [if_neg (fun zz => hbad (k5.mpr zz.2))]
theorem RF_next {P lim ch b : Nat} {st : Nat → Nat} {x : XF} {y : RS} (h : RF P lim ch st b ch x y) : RF P lim ch st (b + 1) 0 x y := by
  rcases h with h | ⟨h1, h2, h3, h4, h5, h6, h7⟩
  · exact Or.inl h
  · exact Or.inr ⟨h1, h2, h3, h4, h5, h6, fun i j k hi hj hq hk hn => h7 i j k hi hj (by omega) hk hn⟩
theorem RF_all {T : Nat → Nat} {P lim ly ch bn : Nat} {st sel : Nat → Nat} {ST SE : Nat → Nat → Nat} {x : XF} {y : RS} (hbn : bn ≤ 32) (hST : ∀ c b, c < ch → b < bn → ST c b = st (c * 32 + b)) (hsel : ∀ c b, c < ch → b < bn → sel (c * 32 + b) = selR ly SE c b ∧ selR ly SE c b ≤ 3) (h : RF P lim ch st 0 0 x y) : RF P lim ch st bn 0 (lp (fcB T P lim st sel ch) bn x) (lp (rFb T (P + lim) ly ST SE ch) bn y) :=
  lp_relN (fun b => RF P lim ch st b 0) h (fun b x y hb hr => RF_next (lp_relN (fun c => RF P lim ch st b c) hr (fun c x y hc hr => RF_step (by omega) hc (hST c b hc hb) (hsel c b hc hb).1 (hsel c b hc hb).2 hr)))
theorem fc_L {T : Nat → Nat} {P lim ch bn : Nat} {st sel : Nat → Nat} {x : XF} (h : LX x) : LX (lp (fcB T P lim st sel ch) bn x) :=
  lp_inv LX h (fun b x _ h => lp_inv LX h (fun c x _ h => by
    unfold fcC
    split
    · exact h
    · exact thX_L h))
