/-! the two layers' codes -/
def rd1 (T : Nat → Nat) (en : Nat) (ST : Nat → Nat → Nat) (t b c : Nat) (y : RS) : RS := (bkP y.1 en (bcN (ST c b)), bkO y.1 en (bcN (ST c b)) y.2.1, (if y.2.2.1 ≠ 0 ∧ bkV T y.1 en (bcN (ST c b)) ≠ ST c b then 1 else 0), updN2 y.2.2.2 (c * 36 + t) b (bkV T y.1 en (bcN (ST c b))))
def cp1 (ST : Nat → Nat → Nat) (t b c : Nat) (y : RS) : RS := (y.1, y.2.1, (if y.2.2.1 ≠ 0 ∧ y.2.2.2 (0 * 36 + t) b ≠ ST c b then 1 else 0), updN2 y.2.2.2 (c * 36 + t) b (y.2.2.2 (0 * 36 + t) b))
theorem rO1_RO (T : Nat → Nat) (en : Nat) (ST : Nat → Nat → Nat) (bd t b : Nat) : rO1 T en ST bd t b = RO ST bd (rd1 T en ST) (cp1 ST) t b := by
  funext c y
  rfl
theorem LAY1 {T : Nat → Nat} {P lim bn ch : Nat} {ST : Nat → Nat → Nat} : LAY T P lim 1 bn ch ST (rd1 T (P + lim) ST) (cp1 ST) := by
  refine ⟨fun t b c y h => ?_, fun t b c y h => ?_, fun t b c pos co y ht hb hc hs h1 h2 h3 h4 => ?_, fun t b y ht hb hs he h1 h2 h3 => ?_⟩
  · rcases h with h | h
    · exact Or.inl (bkO_nn h)
    · right
      show (if y.2.2.1 ≠ 0 ∧ _ then 1 else 0) = 0
      rw [if_neg (fun z => z.1 h)]
  · rcases h with h | h
    · exact Or.inl h
    · right
      show (if y.2.2.1 ≠ 0 ∧ _ then 1 else 0) = 0
      rw [if_neg (fun z => z.1 h)]
  · have ez : cdA T P lim 1 (ST c b) (pos, 0, 0, co) = (tkP lim pos (bcN (ST c b)), tkB lim pos (bcN (ST c b)) 0, (if tkV T P lim pos (bcN (ST c b)) = ST c b then 1 else 0), updN co 0 (tkV T P lim pos (bcN (ST c b)))) := by
      unfold cdA
      rw [if_neg (by omega)]
      rfl
    rw [ez]
    unfold rd1
    rw [h3, h1]
    by_cases hf : pos + bcN (ST c b) ≤ lim
    · obtain ⟨f1, f2, f3, f4, f5, f6⟩ := rk_fit (T := T) (P := P) hf
      rw [f1, f2, f3, f4, f5, f6]
      by_cases q : bitsV T (P + pos) (bcN (ST c b)) = ST c b
      · refine Or.inl ⟨Or.inr ?_, Or.inr ?_⟩
        · show (if _ then 1 else 0) ≠ 0
          rw [if_pos q]; omega
        · show (if _ then 1 else 0) = 0
          rw [if_neg (fun z => z.2 q)]
      · refine Or.inr ⟨rfl, by show (if _ then 1 else 0) = 0; rw [if_neg q], rfl, by show (if _ then 1 else 0) ≠ 0; rw [if_pos ⟨h2, q⟩]; omega, rfl, hf, fun r hr => ?_, fun q2 j hq => ?_⟩
        · show updN co 0 _ r = updN2 _ _ _ _ (c * 36 + (t * 1 + r)) b
          rw [show r = 0 by omega, updN2_at, if_pos ⟨by omega, rfl⟩]
          rfl
        · show updN2 _ _ _ _ q2 j = _
          rw [updN2_at, if_neg (by omega)]
    · exact Or.inl ⟨Or.inl (by show tkB _ _ _ _ ≠ 0; rw [(rk_no (P := P) hf 0).1]; omega), Or.inl (by show bkO _ _ _ _ ≠ 0; rw [(rk_no (P := P) hf 0).2]; omega)⟩
  · generalize hV : bkV T y.1 (P + lim) (bcN (ST 0 b)) = V
    have hr : rd1 T (P + lim) ST t b 0 y = (bkP y.1 (P + lim) (bcN (ST 0 b)), bkO y.1 (P + lim) (bcN (ST 0 b)) y.2.1, (if y.2.2.1 ≠ 0 ∧ V ≠ ST 0 b then 1 else 0), updN2 y.2.2.2 (0 * 36 + t) b V) := by rw [← hV]; rfl
    rw [hr] at h3 ⊢
    have hn : V ≠ ST 0 b := fun z => h3 (if_neg (fun q => q.2 z))
    have e0 : updN2 y.2.2.2 (0 * 36 + t) b V (0 * 36 + t) b = V := by rw [updN2_at, if_pos ⟨rfl, rfl⟩]
    refine ⟨rfl, rfl, ?_, fun r hr => ?_, fun q2 j hq => ?_⟩
    · show (if (if y.2.2.1 ≠ 0 ∧ V ≠ ST 0 b then 1 else 0) ≠ 0 ∧ updN2 y.2.2.2 (0 * 36 + t) b V (0 * 36 + t) b ≠ ST 1 b then 1 else 0) ≠ 0
      rw [if_pos ⟨h3, by rw [e0, he]; exact hn⟩]
      omega
    · show updN2 (updN2 y.2.2.2 (0 * 36 + t) b V) (1 * 36 + t) b (updN2 y.2.2.2 (0 * 36 + t) b V (0 * 36 + t) b) (1 * 36 + (t * 1 + r)) b = updN2 y.2.2.2 (0 * 36 + t) b V (0 * 36 + (t * 1 + r)) b
      rw [show r = 0 by omega, show 1 * 36 + (t * 1 + 0) = 1 * 36 + t by omega, show 0 * 36 + (t * 1 + 0) = 0 * 36 + t by omega, updN2_at, if_pos ⟨rfl, rfl⟩]
    · show updN2 (updN2 y.2.2.2 (0 * 36 + t) b V) (1 * 36 + t) b _ q2 j = _
      rw [updN2_at, if_neg (by omega)]
noncomputable def rd2 (T : Nat → Nat) (en : Nat) (ST : Nat → Nat → Nat) (t b c : Nat) (y : RS) : RS := ((r3 T en (ST c b) c (3 * t) b y.1 y.2.1 y.2.2.2).1, (r3 T en (ST c b) c (3 * t) b y.1 y.2.1 y.2.2.2).2.1, (if (r3 T en (ST c b) c (3 * t) b y.1 y.2.1 y.2.2.2).2.2.1 ≠ 0 ∧ y.2.2.1 ≠ 0 then 1 else 0), (r3 T en (ST c b) c (3 * t) b y.1 y.2.1 y.2.2.2).2.2.2)
noncomputable def cp2 (t b _ : Nat) (y : RS) : RS := (y.1, y.2.1, y.2.2.1, lp (fun k CO => updN2 CO (1 * 36 + (3 * t + k)) b (CO (0 * 36 + (3 * t + k)) b)) k3 y.2.2.2)
theorem rO2_RO (T : Nat → Nat) (en : Nat) (ST : Nat → Nat → Nat) (bd t b : Nat) : rO2 T en ST bd t b = RO ST bd (rd2 T en ST) cp2 t b := by
  funext c y
  rfl
theorem r3_ov {T : Nat → Nat} {en L c t b at_ ov : Nat} {CO : Nat → Nat → Nat} (h : ov ≠ 0) : (r3 T en L c t b at_ ov CO).2.1 ≠ 0 := by
  unfold r3
  split
  · exact lp_inv (fun y : RS => y.2.1 ≠ 0) h (fun _ _ _ h => bkO_nn h)
  · exact bkO_nn h
theorem cp_at {t b n : Nat} {CO : Nat → Nat → Nat} (h : 3 * t + n ≤ 36) (q j : Nat) : lp (fun k (CO : Nat → Nat → Nat) => updN2 CO (1 * 36 + (3 * t + k)) b (CO (0 * 36 + (3 * t + k)) b)) n CO q j = if j = b ∧ 36 + 3 * t ≤ q ∧ q < 36 + 3 * t + n then CO (q - 36) b else CO q j := by
  induction n generalizing q j with
  | zero => rw [if_neg (by omega)]; rfl
  | succ n ih =>
    show updN2 (lp _ n CO) (1 * 36 + (3 * t + n)) b ((lp (σ := Nat → Nat → Nat) _ n CO) (0 * 36 + (3 * t + n)) b) q j = _
    rw [updN2_at, ih (by omega), ih (by omega)]
    by_cases w : q = 1 * 36 + (3 * t + n) ∧ j = b
    · rw [if_pos w, if_neg (by omega), if_pos (by omega), show 0 * 36 + (3 * t + n) = q - 36 by omega]
    · rw [if_neg w]
      by_cases z : j = b ∧ 36 + 3 * t ≤ q ∧ q < 36 + 3 * t + n
      · rw [if_pos z, if_pos (by omega)]
      · rw [if_neg z, if_neg (by omega)]
def E3 (P lim t b c : Nat) (CO : Nat → Nat → Nat) (k : Nat) (z : XA) (y : RS) : Prop :=
  (LA z ∧ LY y) ∨ (z.2.1 = 0 ∧ z.2.2.1 = 0 ∧ y.2.1 = 0 ∧ y.2.2.1 ≠ 0 ∧ y.1 = P + z.1 ∧ z.1 ≤ lim ∧ (∀ r, r < k → z.2.2.2 r = y.2.2.2 (c * 36 + (3 * t + r)) b) ∧ ∀ q j, ¬ (j = b ∧ c * 36 + 3 * t ≤ q ∧ q < c * 36 + 3 * t + 3) → y.2.2.2 q j = CO q j)
theorem E3_step {T : Nat → Nat} {P lim L t b c k : Nat} {CO : Nat → Nat → Nat} {z : XA} {y : RS} (hk : k < 3) (h : E3 P lim t b c CO k z y) : E3 P lim t b c CO (k + 1) (cd1 T P lim L k z) (r3k T (P + lim) L c (3 * t) b k y) := by
  rcases h with ⟨h1, h2⟩ | ⟨h1, h2, h3, h4, h5, h6, h7, h8⟩
  · refine Or.inl ⟨cd1_L h1, ?_⟩
    rcases h2 with h2 | h2
    · exact Or.inl (bkO_nn h2)
    · right
      show (if y.2.2.1 ≠ 0 ∧ _ then 1 else 0) = 0
      rw [if_neg (fun w => w.1 h2)]
  · unfold cd1 r3k
    rw [h5]
    by_cases hf : z.1 + bcN L ≤ lim
    · obtain ⟨f1, f2, f3, f4, f5, f6⟩ := rk_fit (T := T) (P := P) hf
      rw [f1, f2, f3, f4, f5, f6]
      by_cases q : bitsV T (P + z.1) (bcN L) = L
      · refine Or.inl ⟨Or.inr ?_, Or.inr ?_⟩
        · show (if _ then 1 else _) ≠ 0
          rw [if_pos q]; omega
        · show (if _ then 1 else 0) = 0
          rw [if_neg (fun w => w.2 q)]
      · refine Or.inr ⟨h1, by show (if _ then 1 else z.2.2.1) = 0; rw [if_neg q]; exact h2, h3, by show (if _ then 1 else 0) ≠ 0; rw [if_pos ⟨h4, q⟩]; omega, rfl, hf, fun r hr => ?_, fun q2 j hq => ?_⟩
        · show updN z.2.2.2 k _ r = updN2 _ _ _ _ (c * 36 + (3 * t + r)) b
          rw [updN2_at]
          unfold updN
          by_cases w : r = k
          · rw [if_pos w, if_pos ⟨by omega, rfl⟩]
          · rw [if_neg w, if_neg (by omega)]
            exact h7 r (by omega)
        · show updN2 _ _ _ _ q2 j = _
          rw [updN2_at, if_neg (by omega)]
          exact h8 q2 j hq
    · exact Or.inl ⟨Or.inl (by show tkB _ _ _ _ ≠ 0; rw [(rk_no (P := P) hf z.2.1).1]; omega), Or.inl (by show bkO _ _ _ _ ≠ 0; rw [(rk_no (P := P) hf y.2.1).2]; omega)⟩
theorem LAY2 {T : Nat → Nat} {P lim bn ch : Nat} {ST : Nat → Nat → Nat} : LAY T P lim 3 bn ch ST (rd2 T (P + lim) ST) cp2 := by
  have hk3 := k3_eq
  refine ⟨fun t b c y h => ?_, fun t b c y h => h, fun t b c pos co y ht hb hc hs h1 h2 h3 h4 => ?_, fun t b y ht hb hs he h1 h2 h3 => ?_⟩
  · rcases h with h | h
    · exact Or.inl (r3_ov h)
    · right
      show (if _ ∧ y.2.2.1 ≠ 0 then 1 else 0) = 0
      rw [if_neg (fun z => z.2 h)]
  · unfold rd2
    rw [h3, h1]
    generalize hL : ST c b = L at hs
    have hd : E3 P lim t b c y.2.2.2 3 (cdA T P lim 3 L (pos, 0, 0, co)) (r3 T (P + lim) L c (3 * t) b (P + pos) 0 y.2.2.2) := by
      have hgb := gB_or L
      by_cases hg : gB L = 0
      · have ez : cdA T P lim 3 L (pos, 0, 0, co) = lp (cd1 T P lim L) 3 (pos, 0, 0, co) := by unfold cdA; rw [if_neg (by omega)]
        have er : r3 T (P + lim) L c (3 * t) b (P + pos) 0 y.2.2.2 = lp (r3k T (P + lim) L c (3 * t) b) 3 (P + pos, 0, 1, y.2.2.2) := by unfold r3; rw [if_pos hg, hk3]
        rw [ez, er]
        exact lp_relN (fun k => E3 P lim t b c y.2.2.2 k) (Or.inr ⟨rfl, rfl, rfl, by show 1 ≠ 0; omega, rfl, h4, fun r hr => by omega, fun _ _ _ => rfl⟩) (fun k z y hk hr => E3_step hk hr)
      · have ez : cdA T P lim 3 L (pos, 0, 0, co) = cdG T P lim L (pos, 0, 0, co) := by unfold cdA; rw [if_pos ⟨rfl, by omega⟩]
        rw [ez]
        unfold r3 cdG
        rw [if_neg hg]
        dsimp only
        by_cases hf : pos + gB L ≤ lim
        · obtain ⟨f1, f2, f3, f4, f5, f6⟩ := rk_fit (T := T) (P := P) hf
          rw [f1, f2, f3, f4, f5, f6]
          generalize bitsV T (P + pos) (gB L) = V
          by_cases q : V < L * L * L
          · have hd2 : V / L / L < L := Nat.div_lt_of_lt_mul (Nat.div_lt_of_lt_mul (by rw [← Nat.mul_assoc]; exact q))
            refine Or.inr ⟨rfl, if_pos q, rfl, by show (if _ then 1 else 0) ≠ 0; rw [if_pos q]; omega, rfl, hf, fun r hr => ?_, fun q2 j hq => ?_⟩
            · show updN (updN (updN co 0 _) 1 _) 2 _ r = updN2 (updN2 (updN2 _ _ _ _) _ _ _) _ _ _ (c * 36 + (3 * t + r)) b
              rw [updN2_at, updN2_at, updN2_at, Nat.mod_eq_of_lt hd2]
              unfold updN
              rcases (show r = 0 ∨ r = 1 ∨ r = 2 by omega) with w | w | w
              · rw [if_neg (by omega), if_neg (by omega), if_pos w, if_neg (by omega), if_neg (by omega), if_pos ⟨by omega, rfl⟩]
              · rw [if_neg (by omega), if_pos w, if_neg (by omega), if_pos ⟨by omega, rfl⟩]
              · rw [if_pos w, if_pos ⟨by omega, rfl⟩]
            · show updN2 (updN2 (updN2 _ _ _ _) _ _ _) _ _ _ q2 j = _
              rw [updN2_at, updN2_at, updN2_at, if_neg (by omega), if_neg (by omega), if_neg (by omega)]
          · refine Or.inl ⟨Or.inr ?_, Or.inr ?_⟩
            · show (if _ then 0 else 1) ≠ 0
              rw [if_neg q]; omega
            · show (if _ then 1 else 0) = 0
              rw [if_neg q]
        · exact Or.inl ⟨Or.inl (by show tkB _ _ _ _ ≠ 0; rw [(rk_no (P := P) hf 0).1]; omega), Or.inl (by show bkO _ _ _ _ ≠ 0; rw [(rk_no (P := P) hf 0).2]; omega)⟩
    generalize cdA T P lim 3 L (pos, 0, 0, co) = z at hd
    generalize r3 T (P + lim) L c (3 * t) b (P + pos) 0 y.2.2.2 = w at hd
    rcases hd with ⟨k1, k2⟩ | ⟨k1, k2, k3, k4, k5, k6, k7, k8⟩
    · refine Or.inl ⟨k1, ?_⟩
      rcases k2 with k2 | k2
      · exact Or.inl k2
      · right
        show (if _ then 1 else 0) = 0
        rw [if_neg (fun v => v.1 k2)]
    · refine Or.inr ⟨k1, k2, k3, by show (if _ then 1 else 0) ≠ 0; rw [if_pos ⟨k4, h2⟩]; omega, k5, k6, fun r hr => ?_, fun q j hq => k8 q j (by omega)⟩
      rw [show t * 3 + r = 3 * t + r by omega]
      exact k7 r hr
  · refine ⟨rfl, rfl, h3, fun r hr => ?_, fun q j hq => ?_⟩
    · show (lp (σ := Nat → Nat → Nat) _ k3 _) (1 * 36 + (t * 3 + r)) b = _
      rw [cp_at (by omega), if_pos (by omega), show 1 * 36 + (t * 3 + r) - 36 = 0 * 36 + (t * 3 + r) by omega]
    · show (lp (σ := Nat → Nat → Nat) _ k3 _) q j = _
      rw [cp_at (by omega), if_neg (by omega)]
