/-! codes and samples -/
theorem pl_at1 {co : Nat → Nat} {L f cc gr a1 b n : Nat} {sm : Nat → Int32} {i t j : Nat} (ht : t < 36) (hj : j < 32) (hb : b < 32) (hn : gr * a1 + n ≤ 36) : lp (plF co L f cc gr a1 b) n sm ((i * 36 + t) * 32 + j) = if j = b ∧ i = cc ∧ gr * a1 ≤ t ∧ t < gr * a1 + n then smp (co (t - gr * a1)) L f else sm ((i * 36 + t) * 32 + j) := by
  induction n with
  | zero => rw [if_neg (by omega)]; rfl
  | succ n ih =>
    show upd (lp (plF co L f cc gr a1 b) n sm) ((cc * 36 + (gr * a1 + n)) * 32 + b) (smp (co n) L f) ((i * 36 + t) * 32 + j) = _
    unfold upd
    rw [ih (by omega)]
    generalize gr * a1 = G at hn
    by_cases h : (i * 36 + t) * 32 + j = (cc * 36 + (G + n)) * 32 + b
    · rw [if_pos h, if_pos (by omega), show t - G = n by omega]
    · rw [if_neg h]
      by_cases q : j = b ∧ i = cc ∧ G ≤ t ∧ t < G + n
      · rw [if_pos q, if_pos (by omega)]
      · rw [if_neg q, if_neg (by omega)]
theorem pl_at2 {co st fa : Nat → Nat} {c gr a1 b m : Nat} {sm : Nat → Int32} {i t j : Nat} (ht : t < 36) (hj : j < 32) (hb : b < 32) (hn : gr * a1 + a1 ≤ 36) : lp (fun i sm => lp (plF co (st ((c + i) * 32 + b)) (fa (((c + i) * 32 + b) * 3 + gr / 4)) (c + i) gr a1 b) a1 sm) m sm ((i * 36 + t) * 32 + j) = if j = b ∧ (c ≤ i ∧ i < c + m) ∧ gr * a1 ≤ t ∧ t < gr * a1 + a1 then smp (co (t - gr * a1)) (st (i * 32 + b)) (fa ((i * 32 + b) * 3 + gr / 4)) else sm ((i * 36 + t) * 32 + j) := by
  induction m with
  | zero => rw [if_neg (by omega)]; rfl
  | succ m ih =>
    show lp (plF co (st ((c + m) * 32 + b)) (fa (((c + m) * 32 + b) * 3 + gr / 4)) (c + m) gr a1 b) a1 (lp _ m sm) ((i * 36 + t) * 32 + j) = _
    rw [pl_at1 ht hj hb hn, ih]
    by_cases h : j = b ∧ i = c + m ∧ gr * a1 ≤ t ∧ t < gr * a1 + a1
    · rw [if_pos h, if_pos ⟨h.1, by omega, h.2.2⟩, h.2.1]
    · rw [if_neg h]
      by_cases q : j = b ∧ (c ≤ i ∧ i < c + m) ∧ gr * a1 ≤ t ∧ t < gr * a1 + a1
      · rw [if_pos q, if_pos ⟨q.1, by omega, q.2.2⟩]
      · rw [if_neg q, if_neg (fun z => by
          by_cases w : i = c + m
          · exact h ⟨z.1, w, z.2.2⟩
          · exact q ⟨z.1, by omega, z.2.2⟩)]
abbrev XT : Type := Nat × Nat × Nat × (Nat → Nat) × (Nat → Int32)
def LT (x : XT) : Prop := x.2.1 ≠ 0 ∨ x.2.2.1 ≠ 0
def LA (x : XA) : Prop := x.2.1 ≠ 0 ∨ x.2.2.1 ≠ 0
theorem cd1_L {T : Nat → Nat} {P lim L i : Nat} {x : XA} (h : LA x) : LA (cd1 T P lim L i x) := by
  rcases h with h | h
  · exact Or.inl (tkB_n0 h)
  · right
    show (if _ then 1 else x.2.2.1) ≠ 0
    split <;> omega
theorem cdA_L {T : Nat → Nat} {P lim a1 L : Nat} {x : XA} (h : LA x) : LA (cdA T P lim a1 L x) := by
  unfold cdA
  split
  · rcases h with h | h
    · exact Or.inl (tkB_n0 h)
    · right
      show (if _ then x.2.2.1 else 1) ≠ 0
      split <;> omega
  · exact lp_inv LA h (fun _ _ _ h => cd1_L h)
theorem tbC_L {T : Nat → Nat} {P lim ly ch bd gr b c : Nat} {st fa : Nat → Nat} {x : XT} (h : LT x) : LT (tbC T P lim st fa ly ch bd gr b c x) := by
  unfold tbC
  split
  · exact h
  · exact cdA_L (x := (x.1, x.2.1, x.2.2.1, x.2.2.2.1)) h
def EC (P lim ch bn a1 : Nat) (st fa : Nat → Nat) (gr b c : Nat) (x : XT) (y : RS) : Prop :=
  x.2.1 = 0 ∧ x.2.2.1 = 0 ∧ y.2.1 = 0 ∧ y.2.2.1 ≠ 0 ∧ y.1 = P + x.1 ∧ x.1 ≤ lim ∧
  (∀ i j g r, i < ch → j < bn → g < 12 → r < a1 → (g < gr ∨ (g = gr ∧ (j < b ∨ (j = b ∧ i < c)))) → st (i * 32 + j) ≠ 0 → x.2.2.2.2 ((i * 36 + (g * a1 + r)) * 32 + j) = smp (y.2.2.2 (i * 36 + (g * a1 + r)) j) (st (i * 32 + j)) (fa ((i * 32 + j) * 3 + g / 4))) ∧
  (∀ i j t, i < 2 → j < 32 → t < 36 → st (i * 32 + j) = 0 → x.2.2.2.2 ((i * 36 + t) * 32 + j) = 0)
def RC (P lim ch bn a1 : Nat) (st fa : Nat → Nat) (gr b c : Nat) (x : XT) (y : RS) : Prop := (LT x ∧ LY y) ∨ EC P lim ch bn a1 st fa gr b c x y
theorem EC_put {P lim ch bn a1 gr b c m : Nat} {st fa : Nat → Nat} {x : XT} {y y' : RS} {z : XA} (ha : a1 = 1 ∨ a1 = 3) (hbn : bn ≤ 32) (hb : b < bn) (hg : gr < 12) (hcm : c + m ≤ ch) (hch : ch ≤ 2)
    (h : EC P lim ch bn a1 st fa gr b c x y) (z1 : z.2.1 = 0) (z2 : z.2.2.1 = 0) (y1 : y'.2.1 = 0) (y2 : y'.2.2.1 ≠ 0) (y3 : y'.1 = P + z.1) (y4 : z.1 ≤ lim) (hv : ∀ i r, c ≤ i → i < c + m → r < a1 → z.2.2.2 r = y'.2.2.2 (i * 36 + (gr * a1 + r)) b) (hst : ∀ i, c ≤ i → i < c + m → st (i * 32 + b) ≠ 0)
    (hun : ∀ q j, (∀ i, c ≤ i → i < c + m → ¬ (j = b ∧ i * 36 + gr * a1 ≤ q ∧ q < i * 36 + gr * a1 + a1)) → y'.2.2.2 q j = y.2.2.2 q j) :
    EC P lim ch bn a1 st fa gr b (c + m) (z.1, z.2.1, z.2.2.1, z.2.2.2, lp (fun i sm => lp (plF z.2.2.2 (st ((c + i) * 32 + b)) (fa (((c + i) * 32 + b) * 3 + gr / 4)) (c + i) gr a1 b) a1 sm) m x.2.2.2.2) y' := by
  obtain ⟨h1, h2, h3, h4, h5, h6, h7, h8⟩ := h
  have hG : gr * a1 + a1 ≤ 36 := by rcases ha with rfl | rfl <;> omega
  refine ⟨z1, z2, y1, y2, y3, y4, fun i j g r hi hj hg2 hr hq hn => ?_, fun i j t hi hj ht hz => ?_⟩
  · have ht : g * a1 + r < 36 := by rcases ha with rfl | rfl <;> omega
    show (lp (σ := Nat → Int32) _ _ _) ((i * 36 + (g * a1 + r)) * 32 + j) = _
    rw [pl_at2 ht (by omega) (by omega) hG]
    by_cases w : j = b ∧ g = gr ∧ c ≤ i ∧ i < c + m
    · obtain ⟨w1, w2, w3, w4⟩ := w
      subst w1; subst w2
      rw [if_pos ⟨rfl, ⟨w3, w4⟩, by omega, by omega⟩, show g * a1 + r - g * a1 = r by omega, hv i r w3 w4 hr]
    · rw [if_neg (fun v => w ⟨v.1, by rcases ha with rfl | rfl <;> omega, v.2.1⟩), hun _ _ (fun i' w3 w4 v => by
        apply w
        rcases ha with rfl | rfl
        · exact ⟨v.1, by omega, by omega⟩
        · exact ⟨v.1, by omega, by omega⟩)]
      exact h7 i j g r hi hj hg2 hr (by omega) hn
  · show (lp (σ := Nat → Int32) _ _ _) ((i * 36 + t) * 32 + j) = _
    rw [pl_at2 ht hj (by omega) hG, if_neg (fun v => by
      have := hst i v.2.1.1 v.2.1.2
      rw [v.1] at hz
      exact this hz)]
    exact h8 i j t hi hj ht hz
def CRD (P lim a1 t b c : Nat) (z : XA) (y y' : RS) : Prop :=
  (LA z ∧ LY y') ∨ (z.2.1 = 0 ∧ z.2.2.1 = 0 ∧ y'.2.1 = 0 ∧ y'.2.2.1 ≠ 0 ∧ y'.1 = P + z.1 ∧ z.1 ≤ lim ∧ (∀ r, r < a1 → z.2.2.2 r = y'.2.2.2 (c * 36 + (t * a1 + r)) b) ∧ ∀ q j, ¬ (j = b ∧ c * 36 + t * a1 ≤ q ∧ q < c * 36 + t * a1 + a1) → y'.2.2.2 q j = y.2.2.2 q j)
def CPY (a1 t b : Nat) (y y' : RS) : Prop :=
  y'.1 = y.1 ∧ y'.2.1 = y.2.1 ∧ y'.2.2.1 ≠ 0 ∧ (∀ r, r < a1 → y'.2.2.2 (1 * 36 + (t * a1 + r)) b = y.2.2.2 (0 * 36 + (t * a1 + r)) b) ∧ ∀ q j, ¬ (j = b ∧ 1 * 36 + t * a1 ≤ q ∧ q < 1 * 36 + t * a1 + a1) → y'.2.2.2 q j = y.2.2.2 q j
def RO (ST : Nat → Nat → Nat) (bd : Nat) (rd cp : Nat → Nat → Nat → RS → RS) (t b c : Nat) (y : RS) : RS := if ST c b = 0 then y else if c = 1 ∧ bd ≤ b then cp t b c y else rd t b c y
/-- what a layer's reading of codes must keep -/
def LAY (T : Nat → Nat) (P lim a1 bn ch : Nat) (ST : Nat → Nat → Nat) (rd cp : Nat → Nat → Nat → RS → RS) : Prop :=
  (∀ t b c y, LY y → LY (rd t b c y)) ∧ (∀ t b c y, LY y → LY (cp t b c y)) ∧
  (∀ t b c pos co y, t < 12 → b < bn → c < ch → ST c b ≠ 0 → y.2.1 = 0 → y.2.2.1 ≠ 0 → y.1 = P + pos → pos ≤ lim → CRD P lim a1 t b c (cdA T P lim a1 (ST c b) (pos, 0, 0, co)) y (rd t b c y)) ∧
  (∀ t b y, t < 12 → b < bn → ST 0 b ≠ 0 → ST 1 b = ST 0 b → y.2.1 = 0 → (rd t b 0 y).2.1 = 0 → (rd t b 0 y).2.2.1 ≠ 0 → CPY a1 t b (rd t b 0 y) (cp t b 1 (rd t b 0 y)))
theorem RO_L {T : Nat → Nat} {P lim a1 bn ch bd t b c : Nat} {ST : Nat → Nat → Nat} {rd cp : Nat → Nat → Nat → RS → RS} {y : RS} (hl : LAY T P lim a1 bn ch ST rd cp) (h : LY y) : LY (RO ST bd rd cp t b c y) := by
  unfold RO
  (repeat' split)
  · exact h
  · exact hl.2.1 t b c y h
  · exact hl.1 t b c y h
theorem tbC_eq {T : Nat → Nat} {P lim ly ch bd gr b c : Nat} {st fa : Nat → Nat} {x : XT} (hs : st (c * 32 + b) ≠ 0) (h1 : x.2.1 = 0) (h2 : x.2.2.1 = 0) : tbC T P lim st fa ly ch bd gr b c x = ((cdA T P lim (if ly = 1 then 1 else 3) (st (c * 32 + b)) (x.1, 0, 0, x.2.2.2.1)).1, (cdA T P lim (if ly = 1 then 1 else 3) (st (c * 32 + b)) (x.1, 0, 0, x.2.2.2.1)).2.1, (cdA T P lim (if ly = 1 then 1 else 3) (st (c * 32 + b)) (x.1, 0, 0, x.2.2.2.1)).2.2.1, (cdA T P lim (if ly = 1 then 1 else 3) (st (c * 32 + b)) (x.1, 0, 0, x.2.2.2.1)).2.2.2, lp (fun i sm => lp (plF (cdA T P lim (if ly = 1 then 1 else 3) (st (c * 32 + b)) (x.1, 0, 0, x.2.2.2.1)).2.2.2 (st ((c + i) * 32 + b)) (fa (((c + i) * 32 + b) * 3 + gr / 4)) (c + i) gr (if ly = 1 then 1 else 3) b) (if ly = 1 then 1 else 3) sm) ((if (if b < bd then ch else 1) < ch then ch - 1 else c) + 1 - c) x.2.2.2.2) := by
  unfold tbC
  rw [if_neg hs]
  dsimp only
  rw [h1, h2]
theorem RC_read {T : Nat → Nat} {P lim ly a1 bn ch bd gr b c : Nat} {st fa : Nat → Nat} {ST : Nat → Nat → Nat} {rd cp : Nat → Nat → Nat → RS → RS} {x : XT} {y : RS} (hl : LAY T P lim a1 bn ch ST rd cp) (hly : a1 = if ly = 1 then 1 else 3) (hbn : bn ≤ 32) (hb : b < bn) (hc : c < ch) (hch : ch ≤ 2) (hg : gr < 12) (hST : ST c b = st (c * 32 + b)) (htold : b < bd ∨ ch = 1) (h : RC P lim ch bn a1 st fa gr b c x y) : RC P lim ch bn a1 st fa gr b (c + 1) (tbC T P lim st fa ly ch bd gr b c x) (RO ST bd rd cp gr b c y) := by
  have ha : a1 = 1 ∨ a1 = 3 := by rw [hly]; split <;> omega
  rcases h with ⟨h1, h2⟩ | h
  · exact Or.inl ⟨tbC_L h1, RO_L hl h2⟩
  · by_cases q : st (c * 32 + b) = 0
    · have ex : tbC T P lim st fa ly ch bd gr b c x = x := if_pos q
      have ey : RO ST bd rd cp gr b c y = y := if_pos (by rw [hST]; exact q)
      rw [ex, ey]
      obtain ⟨h1, h2, h3, h4, h5, h6, h7, h8⟩ := h
      refine Or.inr ⟨h1, h2, h3, h4, h5, h6, fun i j g r hi hj hg2 hr hq hn => h7 i j g r hi hj hg2 hr ?_ hn, h8⟩
      by_cases z : i = c ∧ j = b
      · rw [z.1, z.2] at hn; exact absurd q hn
      · omega
    · have ey : RO ST bd rd cp gr b c y = rd gr b c y := by unfold RO; rw [if_neg (by rw [hST]; exact q), if_neg (by omega)]
      have hm : (if (if b < bd then ch else 1) < ch then ch - 1 else c) + 1 - c = 1 := by
        have : (if b < bd then ch else 1) = ch := by split <;> omega
        rw [this, if_neg (by omega)]; omega
      have k := hl.2.2.1 gr b c x.1 x.2.2.2.1 y hg hb hc (by rw [hST]; exact q) h.2.2.1 h.2.2.2.1 h.2.2.2.2.1 h.2.2.2.2.2.1
      rw [tbC_eq q h.1 h.2.1, ey, hm, ← hly]
      rw [hST] at k
      generalize cdA T P lim a1 (st (c * 32 + b)) (x.1, 0, 0, x.2.2.2.1) = z at k
      rcases k with ⟨k1, k2⟩ | ⟨k1, k2, k3, k4, k5, k6, k7, k8⟩
      · exact Or.inl ⟨k1, k2⟩
      · refine Or.inr (EC_put (m := 1) ha hbn hb hg (by omega) hch h k1 k2 k3 k4 k5 k6 (fun i r w1 w2 hr => ?_) (fun i w1 w2 => ?_) (fun q2 j hh => k8 q2 j (hh c (Nat.le_refl _) (by omega))))
        · rw [show i = c by omega]; exact k7 r hr
        · rw [show i = c by omega]; exact q
theorem RC_both {T : Nat → Nat} {P lim ly a1 bn bd gr b : Nat} {st fa : Nat → Nat} {ST : Nat → Nat → Nat} {rd cp : Nat → Nat → Nat → RS → RS} {x : XT} {y : RS} (hl : LAY T P lim a1 bn 2 ST rd cp) (hly : a1 = if ly = 1 then 1 else 3) (hbn : bn ≤ 32) (hb : b < bn) (hg : gr < 12) (hST : ST 0 b = st (0 * 32 + b)) (hST1 : ST 1 b = st (1 * 32 + b)) (heq : st (1 * 32 + b) = st (0 * 32 + b)) (hbd : bd ≤ b) (h : RC P lim 2 bn a1 st fa gr b 0 x y) : RC P lim 2 bn a1 st fa gr b 2 (tbC T P lim st fa ly 2 bd gr b 0 x) (RO ST bd rd cp gr b 1 (RO ST bd rd cp gr b 0 y)) := by
  have ha : a1 = 1 ∨ a1 = 3 := by rw [hly]; split <;> omega
  rcases h with ⟨h1, h2⟩ | h
  · exact Or.inl ⟨tbC_L h1, RO_L hl (RO_L hl h2)⟩
  · by_cases q : st (0 * 32 + b) = 0
    · have ex : tbC T P lim st fa ly 2 bd gr b 0 x = x := if_pos q
      have ey : RO ST bd rd cp gr b 0 y = y := if_pos (by rw [hST]; exact q)
      have ey1 : RO ST bd rd cp gr b 1 y = y := if_pos (by rw [hST1, heq]; exact q)
      rw [ex, ey, ey1]
      obtain ⟨h1, h2, h3, h4, h5, h6, h7, h8⟩ := h
      refine Or.inr ⟨h1, h2, h3, h4, h5, h6, fun i j g r hi hj hg2 hr hq hn => h7 i j g r hi hj hg2 hr ?_ hn, h8⟩
      by_cases z : j = b
      · rw [z] at hn
        rcases (show i = 0 ∨ i = 1 by omega) with w | w
        · rw [w] at hn; exact absurd q hn
        · rw [w, heq] at hn; exact absurd q hn
      · omega
    · have ey : RO ST bd rd cp gr b 0 y = rd gr b 0 y := by unfold RO; rw [if_neg (by rw [hST]; exact q), if_neg (by omega)]
      have ey1 : ∀ y, RO ST bd rd cp gr b 1 y = cp gr b 1 y := fun y => by unfold RO; rw [if_neg (by rw [hST1, heq]; exact q), if_pos ⟨rfl, hbd⟩]
      have hm : (if (if b < bd then 2 else 1) < 2 then 2 - 1 else 0) + 1 - 0 = 2 := by rw [if_neg (show ¬ b < bd by omega)]; rfl
      have k := hl.2.2.1 gr b 0 x.1 x.2.2.2.1 y hg hb (by omega) (by rw [hST]; exact q) h.2.2.1 h.2.2.2.1 h.2.2.2.2.1 h.2.2.2.2.2.1
      have k9 := hl.2.2.2 gr b y hg hb (by rw [hST]; exact q) (by rw [hST1, hST, heq]) h.2.2.1
      rw [tbC_eq q h.1 h.2.1, ey, ey1, hm, ← hly]
      rw [hST] at k
      generalize cdA T P lim a1 (st (0 * 32 + b)) (x.1, 0, 0, x.2.2.2.1) = z at k
      rcases k with ⟨k1, k2⟩ | ⟨k1, k2, k3, k4, k5, k6, k7, k8⟩
      · exact Or.inl ⟨k1, hl.2.1 _ _ _ _ k2⟩
      · obtain ⟨c1, c2, c3, c4, c5⟩ := k9 k3 k4
        refine Or.inr (EC_put (m := 2) ha hbn hb hg (by omega) (Nat.le_refl 2) h k1 k2 (by rw [c2]; exact k3) c3 (by rw [c1]; exact k5) k6 (fun i r w1 w2 hr => ?_) (fun i w1 w2 => ?_) (fun q2 j hh => ?_))
        · rcases (show i = 0 ∨ i = 1 by omega) with w | w
          · rw [w, c5 _ _ (fun v => by rcases ha with rfl | rfl <;> omega)]; exact k7 r hr
          · rw [w, c4 r hr]; exact k7 r hr
        · rcases (show i = 0 ∨ i = 1 by omega) with w | w
          · rw [w]; exact q
          · rw [w, heq]; exact q
        · rw [c5 q2 j (hh 1 (by omega) (by omega)), k8 q2 j (hh 0 (by omega) (by omega))]
theorem RC_next {P lim ch bn a1 gr b : Nat} {st fa : Nat → Nat} {x : XT} {y : RS} (h : RC P lim ch bn a1 st fa gr b ch x y) : RC P lim ch bn a1 st fa gr (b + 1) 0 x y := by
  rcases h with h | ⟨h1, h2, h3, h4, h5, h6, h7, h8⟩
  · exact Or.inl h
  · exact Or.inr ⟨h1, h2, h3, h4, h5, h6, fun i j g r hi hj hg hr hq hn => h7 i j g r hi hj hg hr (by omega) hn, h8⟩
theorem RC_nextG {P lim ch bn a1 gr : Nat} {st fa : Nat → Nat} {x : XT} {y : RS} (h : RC P lim ch bn a1 st fa gr bn 0 x y) : RC P lim ch bn a1 st fa (gr + 1) 0 0 x y := by
  rcases h with h | ⟨h1, h2, h3, h4, h5, h6, h7, h8⟩
  · exact Or.inl h
  · exact Or.inr ⟨h1, h2, h3, h4, h5, h6, fun i j g r hi hj hg hr hq hn => h7 i j g r hi hj hg hr (by omega) hn, h8⟩
theorem RC_all {T : Nat → Nat} {P lim ly a1 bn ch bd G : Nat} {st fa : Nat → Nat} {ST : Nat → Nat → Nat} {rd cp : Nat → Nat → Nat → RS → RS} {x : XT} {y : RS} (hG : G = 12) (hl : LAY T P lim a1 bn ch ST rd cp) (hly : a1 = if ly = 1 then 1 else 3) (hbn : bn ≤ 32) (h1 : 1 ≤ ch) (hch : ch ≤ 2) (hST : ∀ c b, c < ch → b < bn → ST c b = st (c * 32 + b)) (heq : ∀ b, b < bn → bd ≤ b → ch = 2 → st (1 * 32 + b) = st (0 * 32 + b)) (h : RC P lim ch bn a1 st fa 0 0 0 x y) : RC P lim ch bn a1 st fa G 0 0 (lp (tbG T P lim st fa ly ch bd bn) G x) (lp (fun t y => lp (fun b y => lp (RO ST bd rd cp t b) ch y) bn y) G y) := by
  refine lp_relN (fun g => RC P lim ch bn a1 st fa g 0 0) h (fun g x y hg hr => ?_)
  apply RC_nextG
  unfold tbG
  by_cases q : x.2.2.1 = 0 ∧ x.2.1 = 0
  · rw [if_pos q]
    refine lp_relN (fun b => RC P lim ch bn a1 st fa g b 0) hr (fun b x y hb hr => ?_)
    apply RC_next
    unfold tbB
    by_cases w : b < bd ∨ ch = 1
    · have e : (if b < bd then ch else 1) = ch := by split <;> omega
      rw [e]
      exact lp_relN (fun c => RC P lim ch bn a1 st fa g b c) hr (fun c x y hc hr => RC_read hl hly hbn hb hc hch (by omega) (hST c b hc hb) w hr)
    · have e : (if b < bd then ch else 1) = 1 := by split <;> omega
      have e2 : ch = 2 := by omega
      rw [e]
      subst e2
      exact RC_both hl hly hbn hb (by omega) (hST 0 b (by omega) hb) (hST 1 b (by omega) hb) (heq b hb (by omega) rfl) (by omega) hr
  · rw [if_neg q]
    rcases hr with ⟨h1, h2⟩ | h9
    · exact Or.inl ⟨h1, lp_inv LY h2 (fun b y _ h => lp_inv LY h (fun c y _ h => RO_L hl h))⟩
    · exact absurd ⟨h9.2.1, h9.1⟩ q
theorem tb_L {T : Nat → Nat} {P lim ly ch bd bn G : Nat} {st fa : Nat → Nat} {x : XT} (h : LT x) : LT (lp (tbG T P lim st fa ly ch bd bn) G x) :=
  lp_inv LT h (fun g x _ h => by
    unfold tbG
    split
    · exact lp_inv LT h (fun b x _ h => lp_inv LT h (fun c x _ h => tbC_L h))
    · exact h)
