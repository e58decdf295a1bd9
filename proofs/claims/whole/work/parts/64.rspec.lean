/-! the reference's own words, pure -/
def bkV (T : Nat → Nat) (at_ en n : Nat) : Nat := if at_ + n ≤ en then bitsV T at_ n else 0
def bkP (at_ en n : Nat) : Nat := if at_ + n ≤ en then at_ + n else en
def bkO (at_ en n ov : Nat) : Nat := if at_ + n ≤ en then ov else 1
theorem bkP_le {at_ en n : Nat} : bkP at_ en n ≤ en := by unfold bkP; split <;> omega
theorem bkO_le {at_ en n ov : Nat} (h : ov ≤ 1) : bkO at_ en n ov ≤ 1 := by unfold bkO; split <;> omega
theorem bkV_lt (T : Nat → Nat) (at_ en n : Nat) : bkV T at_ en n < 2 ^ n := by unfold bkV; split; exact bitsV_lt _ _ _; exact Nat.two_pow_pos _
theorem bitsV_app (T : Nat → Nat) (P a n : Nat) : bitsV T P (a + n) = bitsV T P a * 2 ^ n + bitsV T (P + a) n := by
  induction n with
  | zero => show bitsV T P a = bitsV T P a * 2 ^ 0 + 0; rw [Nat.pow_zero]; omega
  | succ n ih =>
    rw [← Nat.add_assoc, bitsV_s, bitsV_s, ih, Nat.pow_succ, Nat.add_assoc P a n]
    generalize bitsV T P a = x
    generalize bitsV T (P + a) n = y
    generalize bitAt T (P + (a + n)) = z
    have : x * (2 ^ n * 2) = 2 * (x * 2 ^ n) := by rw [← Nat.mul_assoc, Nat.mul_comm]
    omega
theorem bitsV_bit (T : Nat → Nat) (P : Nat) {n i : Nat} (h : i < n) : bitsV T P n / 2 ^ (n - 1 - i) % 2 = bitAt T (P + i) := by
  have e : n = (i + 1) + (n - 1 - i) := by omega
  have h1 := bitsV_app T P (i + 1) (n - 1 - i)
  rw [← e] at h1
  have h2 := bitsV_lt T (P + (i + 1)) (n - 1 - i)
  rw [h1, Nat.mul_comm, Nat.mul_add_div (Nat.two_pow_pos _), Nat.div_eq_of_lt h2, Nat.add_zero, bitsV_s]
  have := bitAt_lt T (P + i)
  omega
def crcS (c b : Nat) : Nat := if c / 32768 = b then c * 2 % 65536 else (c * 2 % 65536) ^^^ 32773
def crcB (T : Nat → Nat) (at_ n c : Nat) : Nat := lp (fun i c => crcS c (bitAt T (at_ + i))) n c
theorem crcS_lt {c b : Nat} : crcS c b < 65536 := by
  unfold crcS
  split
  · exact Nat.mod_lt _ (by omega)
  · exact Nat.xor_lt_two_pow (n := 16) (Nat.mod_lt _ (by omega)) (by omega)
theorem crcB_lt {T : Nat → Nat} {at_ n c : Nat} (h : c < 65536) : crcB T at_ n c < 65536 := lp_inv (fun c => c < 65536) h (fun _ _ _ _ => crcS_lt)
theorem crcB_s (T : Nat → Nat) (at_ n c : Nat) : crcB T at_ (n + 1) c = crcS (crcB T at_ n c) (bitAt T (at_ + n)) := rfl
theorem crcB_app (T : Nat → Nat) (at_ n m c : Nat) : crcB T at_ (n + m) c = crcB T (at_ + n) m (crcB T at_ n c) := by
  induction m with
  | zero => rfl
  | succ m ih => rw [← Nat.add_assoc, crcB_s, crcB_s, ih, Nat.add_assoc at_ n m]
theorem xor01 {a b : Nat} (ha : a < 2) (hb : b < 2) : nI a ^^^ nI b = nI (if a = b then 0 else 1) := by
  obtain rfl | rfl : a = 0 ∨ a = 1 := by omega
  all_goals obtain rfl | rfl : b = 0 ∨ b = 1 := by omega
  all_goals decide
theorem crc_ne {c b : Nat} (hc : c < 65536) (h : (if c / 32768 % 2 = b then 0 else 1) ≠ 1) : nI (c * 2 % 65536) ^^^ nI 0 = nI (crcS c b) := by
  have e : c / 32768 = b := by
    by_cases q : c / 32768 % 2 = b
    · omega
    · rw [if_neg q] at h; exact absurd rfl h
  rw [nI_xor, Nat.xor_zero]
  unfold crcS
  rw [if_pos e]
theorem crc_eq {c b : Nat} (hc : c < 65536) (h : (if c / 32768 % 2 = b then 0 else 1) = 1) : nI (c * 2 % 65536) ^^^ nI 32773 = nI (crcS c b) := by
  have e : ¬ c / 32768 = b := by
    intro q
    rw [if_pos (by omega)] at h
    omega
  rw [nI_xor]
  unfold crcS
  rw [if_neg e]
def ckV (T : Nat → Nat) (at_ en n ov cr : Nat) : Nat := if at_ + n ≤ en ∧ ov = 0 then crcB T at_ n cr else cr
theorem ckV_lt {T : Nat → Nat} {at_ en n ov cr : Nat} (h : cr < 65536) : ckV T at_ en n ov cr < 65536 := by unfold ckV; split; exact crcB_lt h; exact h
theorem bkO_0 {at_ en n ov : Nat} (h : bkO at_ en n ov = 0) : at_ + n ≤ en ∧ ov = 0 := by
  unfold bkO at h
  split at h
  · exact ⟨by assumption, h⟩
  · omega
theorem bkO_n0 {at_ en n ov : Nat} (h : ¬ bkO at_ en n ov = 0) : ¬ (at_ + n ≤ en ∧ ov = 0) := by
  intro q
  unfold bkO at h
  rw [if_pos q.1] at h
  exact h q.2
theorem dec_I (x : Nat) : nI x + Int32.ofInt (-1) = nI x - nI 1 := by
  rw [Int32.sub_eq_add_neg]
  rfl
/-! tables -/
def fT (bn : Nat) : Nat := if 12 < bn then 1 else 0
theorem fT_le (bn : Nat) : fT bn ≤ 1 := by unfold fT; split <;> omega
def clsR (ft b al : Nat) : Nat := if ft = 0 then (if al < 3 then al - 1 else al) else if b < 3 then (if al = 1 then 0 else if al = 2 then 2 else al + 1) else if b < 11 then (if al = 15 then 16 else al - 1) else if b < 23 then (if al = 7 then 16 else al - 1) else if al = 3 then 16 else al - 1
theorem cls_t2 : ∀ al : Fin 16, 1 ≤ al.val → (if al.val = 1 then 0 else if al.val = 2 then 2 else al.val + 1) = tN 2 (al.val - 1) := by decide
theorem cls_t3 : ∀ al : Fin 16, 1 ≤ al.val → (if al.val = 15 then 16 else al.val - 1) = tN 3 (al.val - 1) := by decide
theorem cls_t4 : ∀ al : Fin 8, 1 ≤ al.val → (if al.val = 7 then 16 else al.val - 1) = tN 4 (al.val - 1) := by decide
theorem cls_t5 : ∀ al : Fin 4, 1 ≤ al.val → (if al.val = 3 then 16 else al.val - 1) = tN 5 (al.val - 1) := by decide
theorem cls_t6 : ∀ al : Fin 16, 1 ≤ al.val → (if al.val < 3 then al.val - 1 else al.val) = tN 6 (al.val - 1) := by decide
theorem cls_t7 : ∀ al : Fin 8, 1 ≤ al.val → (if al.val < 3 then al.val - 1 else al.val) = tN 7 (al.val - 1) := by decide
theorem cls_ok {ft b al : Nat} (h1 : 1 ≤ al) (h2 : al < 2 ^ aBits 2 ft b) : clsR ft b al = tN (stepT ft b) (al - 1) := by
  unfold aBits at h2
  rw [if_neg (show ¬ (2 : Nat) = 1 by omega)] at h2
  unfold clsR stepT
  by_cases h : ft = 0
  · rw [if_pos h] at h2
    rw [if_pos h, if_pos h]
    by_cases q : b < 2
    · rw [if_pos q] at h2 ⊢; exact cls_t6 ⟨al, h2⟩ h1
    · rw [if_neg q] at h2 ⊢; exact cls_t7 ⟨al, h2⟩ h1
  · rw [if_neg h] at h2
    rw [if_neg h, if_neg h]
    by_cases q : b < 11
    · rw [if_pos q] at h2
      rw [if_pos q, if_pos q]
      by_cases z : b < 3
      · rw [if_pos z, if_pos z]; exact cls_t2 ⟨al, h2⟩ h1
      · rw [if_neg z, if_neg z]; exact cls_t3 ⟨al, h2⟩ h1
    · rw [if_neg q] at h2
      rw [if_neg q, if_neg q, if_neg (by omega)]
      by_cases z : b < 23
      · rw [if_pos z] at h2; rw [if_pos z, if_pos z]; exact cls_t4 ⟨al, h2⟩ h1
      · rw [if_neg z] at h2; rw [if_neg z, if_neg z]; exact cls_t5 ⟨al, h2⟩ h1
theorem tlen {ft b : Nat} : (tab (stepT ft b)).length + 1 = 2 ^ aBits 2 ft b := by
  unfold stepT aBits
  rw [if_neg (show ¬ (2 : Nat) = 1 by omega)]
  (repeat' split) <;> first | omega | decide
theorem alen {ft b al : Nat} (h : al < 2 ^ aBits 2 ft b) : al ≤ (tab (stepT ft b)).length := by
  have := tlen (ft := ft) (b := b)
  omega
theorem al16 {ly ft b al : Nat} (h : al < 2 ^ aBits ly ft b) : al < 16 := Nat.lt_of_lt_of_le h (Nat.pow_le_pow_right (by omega) (aBits_le ly ft b))
theorem pow_al {al : Nat} (h : al < 16) : 2 ^ (al + 1) ≤ 65536 := Nat.pow_le_pow_right (n := 2) (by omega) (show al + 1 ≤ 16 by omega)
theorem tN16 (ft b j : Nat) : tN (stepT ft b) j ≤ 16 := tN_le _ (tab_16 (stepT_in ft b))
theorem pow16 {k : Nat} (h : k ≤ 16) : 2 ^ k ≤ 65536 := Nat.pow_le_pow_right (n := 2) (by omega) h
/-! a HEADER's bits -/
theorem byte_bits {T : Nat → Nat} (hT : ∀ j, T j < 256) (p : Nat) : bitsV T (8 * p) 8 = T p := by
  have e : ∀ i, i < 8 → bitAt T (8 * p + i) = T p / 2 ^ (7 - i) % 2 := fun i hi => by
    unfold bitAt
    rw [show (8 * p + i) / 8 = p by omega, show (8 * p + i) % 8 = i by omega]
  rw [bitsV_s, bitsV_s, bitsV_s, bitsV_s, bitsV_s, bitsV_s, bitsV_s, bitsV_s, e 0 (by omega), e 1 (by omega), e 2 (by omega), e 3 (by omega), e 4 (by omega), e 5 (by omega), e 6 (by omega), e 7 (by omega)]
  have h := hT p
  show 2 * (2 * (2 * (2 * (2 * (2 * (2 * (2 * 0 + T p / 128 % 2) + T p / 64 % 2) + T p / 32 % 2) + T p / 16 % 2) + T p / 8 % 2) + T p / 4 % 2) + T p / 2 % 2) + T p / 1 % 2 = T p
  exact (by decide +kernel : ∀ x : Fin 256, 2 * (2 * (2 * (2 * (2 * (2 * (2 * (2 * 0 + x.val / 128 % 2) + x.val / 64 % 2) + x.val / 32 % 2) + x.val / 16 % 2) + x.val / 8 % 2) + x.val / 4 % 2) + x.val / 2 % 2) + x.val / 1 % 2 = x.val) ⟨T p, h⟩
theorem word_bits {T : Nat → Nat} (hT : ∀ j, T j < 256) (p : Nat) : bitsV T (8 * p) 32 = wdS T p := by
  have h1 := bitsV_app T (8 * p) 8 24
  have h2 := bitsV_app T (8 * p + 8) 8 16
  have h3 := bitsV_app T (8 * p + 8 + 8) 8 8
  rw [byte_bits hT p] at h1
  rw [show 8 * p + 8 = 8 * (p + 1) by omega, byte_bits hT (p + 1)] at h2
  rw [show 8 * p + 8 + 8 = 8 * (p + 2) by omega, byte_bits hT (p + 2)] at h3
  rw [show 8 * p + 8 = 8 * (p + 1) by omega] at h1
  rw [show 8 * (p + 1) + 8 = 8 * (p + 2) by omega] at h2
  rw [show 8 * (p + 2) + 8 = 8 * (p + 3) by omega, byte_bits hT (p + 3)] at h3
  have h4 : bitsV T (8 * p) 32 = T p * 16777216 + bitsV T (8 * (p + 1)) 24 := h1
  have h5 : bitsV T (8 * (p + 1)) 24 = T (p + 1) * 65536 + bitsV T (8 * (p + 2)) 16 := h2
  have h6 : bitsV T (8 * (p + 2)) 16 = T (p + 2) * 256 + T (p + 3) := h3
  unfold wdS
  rw [h4, h5, h6, Nat.add_assoc, Nat.add_assoc]
theorem wd_bits {T : Nat → Nat} (hT : ∀ j, T j < 256) (p a n m : Nat) (h : a + (n + m) = 32) : bitsV T (8 * p + a) n = wdS T p / 2 ^ m % 2 ^ n := by
  have h1 := bitsV_app T (8 * p) a (n + m)
  have h2 := bitsV_app T (8 * p + a) n m
  rw [h, word_bits hT p, h2] at h1
  have hB := bitsV_lt T (8 * p + a) n
  have hC := bitsV_lt T (8 * p + a + n) m
  rw [h1, Nat.pow_add, ← Nat.mul_assoc, ← Nat.add_assoc, ← Nat.add_mul, Nat.mul_comm _ (2 ^ m), Nat.mul_add_div (Nat.two_pow_pos _), Nat.div_eq_of_lt hC, Nat.add_zero, Nat.mul_comm _ (2 ^ n), Nat.mul_add_mod, Nat.mod_eq_of_lt hB]
def mainS (w : Nat) : Prop := w / 1048576 = 4095 ∧ w / 524288 % 2 = 1 ∧ 2 ≤ w / 131072 % 4 ∧ 1 ≤ w / 4096 % 16 ∧ w / 4096 % 16 ≤ 14 ∧ w / 1024 % 4 ≠ 3 ∧ w % 4 ≠ 2
theorem tN0_pos : ∀ t : Fin 15, 1 ≤ t.val → tN 0 t.val ≠ 0 := by decide
theorem tN1_pos : ∀ t : Fin 3, tN 1 t.val = (if t.val = 0 then 44100 else if t.val = 1 then 48000 else 32000) := by decide
theorem samp_of {w : Nat} (h : w / 1024 % 4 ≠ 3) : sampS w = (if w / 1024 % 4 = 0 then 44100 else if w / 1024 % 4 = 1 then 48000 else 32000) := by
  unfold sampS
  rw [if_pos (by omega)]
  exact tN1_pos ⟨w / 1024 % 4, by omega⟩
theorem samp_3' {w : Nat} : w / 1024 % 4 = 3 → sampS w = 0 := fun h => by unfold sampS; rw [if_neg (by omega)]
theorem rate_of {w : Nat} (h : mainS w) : rateS w = (if layerS w = 1 then 32 * (w / 4096 % 16) else tN 0 (w / 4096 % 16)) := by
  unfold rateS
  rw [if_pos (by have := h.2.2.2.2.1; omega)]
theorem rate_n0 {w : Nat} (h : mainS w) : rateS w ≠ 0 := by
  have h1 := h.2.2.2.1
  have h2 := h.2.2.2.2.1
  rw [rate_of h]
  split
  · omega
  · exact tN0_pos ⟨w / 4096 % 16, by omega⟩ h1
theorem rate_0 {w : Nat} (h : ¬ (1 ≤ w / 4096 % 16 ∧ w / 4096 % 16 ≤ 14)) : rateS w = 0 := by
  unfold rateS
  by_cases q : w / 4096 % 16 < 15
  · have e : w / 4096 % 16 = 0 := by omega
    rw [if_pos q, e]
    split <;> rfl
  · rw [if_neg q]
theorem layer_of {w : Nat} (h : 2 ≤ w / 131072 % 4) : layerS w = 4 - w / 131072 % 4 := by unfold layerS; rw [if_neg (by omega)]
theorem layer_0 {w : Nat} (h : ¬ 2 ≤ w / 131072 % 4) : layerS w = 0 := by unfold layerS; rw [if_pos (by omega)]
theorem good_bad {w : Nat} (h : ¬ mainS w) : goodS w = 0 := by
  unfold goodS
  by_cases q : w / 1048576 = 4095 ∧ w / 524288 % 2 = 1 ∧ layerS w ≠ 0 ∧ sampS w ≠ 0 ∧ w % 4 ≠ 2
  · rw [if_pos q]
    by_cases z : rateS w = 0
    · rw [if_pos z]
    · exfalso
      apply h
      refine ⟨q.1, q.2.1, Classical.byContradiction fun c => q.2.2.1 (layer_0 c), Classical.byContradiction fun c => z (rate_0 (fun t => c t.1)), Classical.byContradiction fun c => z (rate_0 (fun t => c t.2)), fun c => q.2.2.2.1 (samp_3' c), q.2.2.2.2⟩
  · rw [if_neg q]
theorem good_main {w : Nat} (h : mainS w) : goodS w = if layerS w = 1 then 1 else suitS (rateS w) (modeS w) := by
  have hs : sampS w ≠ 0 := by rw [samp_of h.2.2.2.2.2.1]; (repeat' split) <;> omega
  have hl : layerS w ≠ 0 := by rw [layer_of h.2.2.1]; omega
  unfold goodS
  rw [if_pos ⟨h.1, h.2.1, hl, hs, h.2.2.2.2.2.2⟩, if_neg (rate_n0 h)]
theorem good_le (w : Nat) : goodS w ≤ 1 := by unfold goodS; (repeat' split) <;> first | omega | exact suit_le _ _
theorem main_of {w : Nat} (h : goodS w ≠ 0) : mainS w := Classical.byContradiction fun c => h (good_bad c)
def lowS (r : Nat) : Nat := if r = 32 ∨ r = 48 ∨ r = 56 ∨ r = 80 then 1 else 0
theorem lowS_or (r : Nat) : (lowS r = 1 ∧ (r = 32 ∨ r = 48 ∨ r = 56 ∨ r = 80)) ∨ (lowS r = 0 ∧ ¬ (r = 32 ∨ r = 48 ∨ r = 56 ∨ r = 80)) := by
  unfold lowS
  by_cases h : r = 32 ∨ r = 48 ∨ r = 56 ∨ r = 80
  · rw [if_pos h]; exact Or.inl ⟨rfl, h⟩
  · rw [if_neg h]; exact Or.inr ⟨rfl, h⟩
theorem suit_or (r m : Nat) : (suitS r m = 1 ∧ (lowS r = 1 → m = 3) ∧ (lowS r = 0 → r < 224 ∨ m ≠ 3)) ∨ (suitS r m = 0 ∧ ((lowS r = 1 ∧ m ≠ 3) ∨ (lowS r = 0 ∧ 224 ≤ r ∧ m = 3))) := by
  have h := lowS_or r
  unfold suitS
  (repeat' split) <;> omega
theorem cr_tab : ∀ t : Fin 15, (tN 0 t.val < 56 ∨ tN 0 t.val ≤ 80 ∨ 96 ≤ tN 0 t.val) ∧ (tN 0 t.val / 2 < 56 ∨ tN 0 t.val / 2 ≤ 80 ∨ 96 ≤ tN 0 t.val / 2) := by decide
theorem cr_gap {w : Nat} (h : mainS w) (hl : layerS w ≠ 1) : crS w < 56 ∨ crS w ≤ 80 ∨ 96 ≤ crS w := by
  have h9 := h.2.2.2.2.1
  unfold crS
  rw [rate_of h, if_neg hl]
  have k := cr_tab ⟨w / 4096 % 16, by omega⟩
  dsimp only at k
  unfold chS
  split
  · rw [Nat.div_one]; exact k.1
  · exact k.2
theorem fT_ft {w : Nat} (hl : layerS w ≠ 1) : fT (bandS w) = ftS w := by
  unfold fT bandS ftS twoB
  rw [if_neg hl]
  (repeat' split) <;> omega
