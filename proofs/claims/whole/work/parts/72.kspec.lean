/-! keep, row, sound: pure -/
theorem nI64 {n : Nat} (h : n < 2 ^ 31) : (nI n).toInt64.toInt = n := by rw [i64_of, nI_toInt h]
theorem i64_ne0 {L : Nat} (h : 0 < L) (h2 : L < 2 ^ 31) : (nI L).toInt64 ≠ 0 := by
  intro q
  have := congrArg Int64.toInt q
  rw [nI64 h2] at this
  have e : (0 : Int64).toInt = 0 := by decide
  omega
theorem nI_sub_int {a b : Nat} (ha : a < 2 ^ 30) (hb : b < 2 ^ 30) : (nI a - nI b).toInt = (a : Int) - b := by
  rw [Int32.toInt_sub, nI_toInt (by omega), nI_toInt (by omega)]
  apply Int.bmod_eq_of_le <;> omega
theorem smp_long {c L : Nat} (hc : c < 65536) (hL : L ≤ 65535) : 2 * (nI c).toInt64 + 1 - (nI L).toInt64 = (nI (2 * c + 1) - nI L).toInt64 := by
  apply Int64.toInt_inj.mp
  have e2 : (2 : Int64).toInt = 2 := by decide
  have e1 : (1 : Int64).toInt = 1 := by decide
  rw [i64_of, nI_sub_int (by omega) (by omega), Int64.toInt_sub, Int64.toInt_add, Int64.toInt_mul, nI64 (by omega), nI64 (by omega), e2, e1]
  have k1 : Int.bmod (2 * (c : Int)) (2 ^ 64) = 2 * c := by apply Int.bmod_eq_of_le <;> omega
  rw [k1]
  have k2 : Int.bmod (2 * (c : Int) + 1) (2 ^ 64) = 2 * c + 1 := by apply Int.bmod_eq_of_le <;> omega
  rw [k2]
  have k3 : Int.bmod (2 * (c : Int) + 1 - L) (2 ^ 64) = 2 * c + 1 - L := by apply Int.bmod_eq_of_le <;> omega
  rw [k3]
  omega
abbrev KS : Type := (Nat → Nat → Nat) × (Nat → Nat → Nat) × (Nat → Nat → Int32)
def kpT (ST FA CO : Nat → Nat → Nat) (rw_ c b : Nat) (t : Nat) (SM : Nat → Nat → Int32) : Nat → Nat → Int32 := upd2 SM (c * 36 + t) b (smp (CO (c * 36 + t) b) (ST c b) (FA (c * 32 + b) (t * 3 / rw_)))
def kpK (FA : Nat → Nat → Nat) (c b : Nat) (k : Nat) (OF : Nat → Nat → Nat) : Nat → Nat → Nat := updN2 OF (c * 32 + b) k (FA (c * 32 + b) k)
noncomputable def kpB (ST FA CO : Nat → Nat → Nat) (rw_ c : Nat) (b : Nat) (x : KS) : KS := (updN2 x.1 c b (ST c b), lp (kpK FA c b) k3 x.2.1, lp (kpT ST FA CO rw_ c b) rw_ x.2.2)
noncomputable def kpC (ST FA CO : Nat → Nat → Nat) (rw_ : Nat) (c : Nat) (x : KS) : KS := lp (kpB ST FA CO rw_ c) k32 x
theorem tN8 {f : Nat} : (f % 3 = 0 → tN 8 (f % 3) = 2097152) ∧ (f % 3 = 1 → tN 8 (f % 3) = 1664511) ∧ (f % 3 = 2 → tN 8 (f % 3) = 1321123) := by
  refine ⟨fun h => ?_, fun h => ?_, fun h => ?_⟩ <;> rw [h] <;> decide
theorem tN8_le (j : Nat) : tN 8 j ≤ 2097152 := tN_le 8 (by decide)
theorem kpT_at {ST FA CO : Nat → Nat → Nat} {rw_ c b n : Nat} {SM : Nat → Nat → Int32} (i j : Nat) : lp (kpT ST FA CO rw_ c b) n SM i j = if j = b ∧ c * 36 ≤ i ∧ i < c * 36 + n then smp (CO i b) (ST c b) (FA (c * 32 + b) ((i - c * 36) * 3 / rw_)) else SM i j := by
  induction n with
  | zero => rw [if_neg (by omega)]; rfl
  | succ n ih =>
    show upd2 (lp (kpT ST FA CO rw_ c b) n SM) (c * 36 + n) b _ i j = _
    rw [upd2_at, ih]
    by_cases h : i = c * 36 + n ∧ j = b
    · rw [if_pos h, if_pos (by omega), h.1, Nat.add_sub_cancel_left]
    · rw [if_neg h]
      by_cases q : j = b ∧ c * 36 ≤ i ∧ i < c * 36 + n
      · rw [if_pos q, if_pos (by omega)]
      · rw [if_neg q, if_neg (by omega)]
theorem kpK_at {FA : Nat → Nat → Nat} {c b n : Nat} {OF : Nat → Nat → Nat} (i j : Nat) : lp (kpK FA c b) n OF i j = if i = c * 32 + b ∧ j < n then FA i j else OF i j := by
  induction n with
  | zero => rw [if_neg (by omega)]; rfl
  | succ n ih =>
    show updN2 (lp (kpK FA c b) n OF) (c * 32 + b) n _ i j = _
    rw [updN2_at, ih]
    by_cases h : i = c * 32 + b ∧ j = n
    · rw [if_pos h, if_pos (by omega), h.1, h.2]
    · rw [if_neg h]
      by_cases q : i = c * 32 + b ∧ j < n
      · rw [if_pos q, if_pos (by omega)]
      · rw [if_neg q, if_neg (by omega)]
/-- what keep leaves: the parts that are asked for -/
def kept (ST FA CO : Nat → Nat → Nat) (rw_ ch : Nat) (x : KS) : Prop := ∀ c b, c < ch → b < 32 → x.1 c b = ST c b ∧ (∀ k, k < 3 → x.2.1 (c * 32 + b) k = FA (c * 32 + b) k) ∧ ∀ t, t < rw_ → x.2.2 (c * 36 + t) b = smp (CO (c * 36 + t) b) (ST c b) (FA (c * 32 + b) (t * 3 / rw_))
theorem keep_at {ST FA CO : Nat → Nat → Nat} {rw_ ch : Nat} {x : KS} (hr : rw_ ≤ 36) : kept ST FA CO rw_ ch (lp (kpC ST FA CO rw_) ch x) := by
  have h3 := k3_eq
  have h32 := k32_eq
  refine lp_invN (fun n (x : KS) => kept ST FA CO rw_ n x) (fun c b hc _ => by omega) (fun n x _ h => ?_)
  have k : ∀ c b, ((c < n ∧ b < 32) ∨ (c = n ∧ b < k32)) → (lp (kpB ST FA CO rw_ n) k32 x).1 c b = ST c b ∧ (∀ k, k < 3 → (lp (kpB ST FA CO rw_ n) k32 x).2.1 (c * 32 + b) k = FA (c * 32 + b) k) ∧ ∀ t, t < rw_ → (lp (kpB ST FA CO rw_ n) k32 x).2.2 (c * 36 + t) b = smp (CO (c * 36 + t) b) (ST c b) (FA (c * 32 + b) (t * 3 / rw_)) := by
    have g : ∀ m, m ≤ 32 → ∀ c b, ((c < n ∧ b < 32) ∨ (c = n ∧ b < m)) → (lp (kpB ST FA CO rw_ n) m x).1 c b = ST c b ∧ (∀ k, k < 3 → (lp (kpB ST FA CO rw_ n) m x).2.1 (c * 32 + b) k = FA (c * 32 + b) k) ∧ ∀ t, t < rw_ → (lp (kpB ST FA CO rw_ n) m x).2.2 (c * 36 + t) b = smp (CO (c * 36 + t) b) (ST c b) (FA (c * 32 + b) (t * 3 / rw_)) := by
      intro m
      induction m with
      | zero =>
        intro _ c b q
        rcases q with q | q
        · exact h c b q.1 q.2
        · omega
      | succ m ih =>
        intro hm c b q
        obtain ⟨y, ey⟩ : ∃ y, y = lp (kpB ST FA CO rw_ n) m x := ⟨_, rfl⟩
        have ih := ih (by omega)
        rw [← ey] at ih
        show (kpB ST FA CO rw_ n m (lp (kpB ST FA CO rw_ n) m x)).1 c b = _ ∧ _
        rw [show lp (kpB ST FA CO rw_ n) (m + 1) x = kpB ST FA CO rw_ n m (lp (kpB ST FA CO rw_ n) m x) from rfl, ← ey]
        unfold kpB
        dsimp only
        refine ⟨?_, fun k hk => ?_, fun t ht => ?_⟩
        · rw [updN2_at]
          split
          · next z => rw [z.1, z.2]
          · exact (ih c b (by omega)).1
        · rw [kpK_at]
          split
          · rfl
          · exact (ih c b (by omega)).2.1 k hk
        · rw [kpT_at]
          split
          · next z =>
            have e1 : c = n := by omega
            subst e1
            rw [z.1, Nat.add_sub_cancel_left]
          · exact (ih c b (by omega)).2.2 t ht
    rw [h32]
    exact g 32 (Nat.le_refl _)
  intro c b hc hb
  exact k c b (by omega)
/-! row -/
def vSh (V : Nat → Nat → Int32) (cc n : Nat) : Nat → Nat → Int32 := fun a j => if a = cc ∧ 1023 - n < j ∧ j < 1024 then V a (j - 64) else V a j
theorem vSh_0 (V : Nat → Nat → Int32) (cc : Nat) : vSh V cc 0 = V := by
  funext a j
  unfold vSh
  rw [if_neg (by omega)]
theorem vSh_s (V : Nat → Nat → Int32) (cc : Nat) {n : Nat} (h : n < 960) : upd2 (vSh V cc n) cc (1023 - n) (vSh V cc n cc (1023 - n - 64)) = vSh V cc (n + 1) := by
  funext a j
  rw [upd2_at]
  unfold vSh
  by_cases q : a = cc ∧ j = 1023 - n
  · rw [if_pos q, if_neg (by omega), if_pos (by omega), q.1, q.2]
  · rw [if_neg q]
    by_cases z : a = cc ∧ 1023 - n < j ∧ j < 1024
    · rw [if_pos z, if_pos (by omega)]
    · rw [if_neg z, if_neg (by omega)]
def vU (row : Nat → Int32) (j : Nat) (k : Nat) (s : Int64) : Int64 := s + (cosA ((16 + j) * (2 * k + 1) % 128)).toInt64 * (row k).toInt64
noncomputable def vS2 (row : Nat → Int32) (j : Nat) : Int32 := (lp (vU row j) k32 8192 >>> ((nI 14).toInt64 &&& 63)).toInt32
noncomputable def vRw (V : Nat → Nat → Int32) (cc : Nat) (row : Nat → Int32) (n : Nat) : Nat → Nat → Int32 := fun a j => if a = cc ∧ j < n then vS2 row j else if a = cc ∧ 64 ≤ j ∧ j < 1024 then V a (j - 64) else V a j
theorem vRw_0 (V : Nat → Nat → Int32) (cc : Nat) (row : Nat → Int32) : vSh V cc 960 = vRw V cc row 0 := by
  funext a j
  unfold vSh vRw
  rw [if_neg (show ¬ (a = cc ∧ j < 0) by omega)]
  by_cases q : a = cc ∧ 64 ≤ j ∧ j < 1024
  · rw [if_pos q, if_pos (by omega)]
  · rw [if_neg q, if_neg (by omega)]
theorem vRw_s (V : Nat → Nat → Int32) (cc : Nat) (row : Nat → Int32) (n : Nat) : upd2 (vRw V cc row n) cc n (vS2 row n) = vRw V cc row (n + 1) := by
  funext a j
  rw [upd2_at]
  unfold vRw
  by_cases q : a = cc ∧ j = n
  · rw [if_pos q, if_pos (by omega), q.2]
  · rw [if_neg q]
    by_cases z : a = cc ∧ j < n
    · rw [if_pos z, if_pos (by omega)]
    · rw [if_neg z, if_neg (show ¬ (a = cc ∧ j < n + 1) by omega)]
def pU (W_ : Nat → Int32) (j : Nat) (i : Nat) (s : Int64) : Int64 := s + ((winA (64 * i + j)).toInt64 * (W_ (128 * i + j)).toInt64 + (winA (64 * i + 32 + j)).toInt64 * (W_ (128 * i + 96 + j)).toInt64)
def clipR (z : Int64) : Int32 := if z < -32768 then -32768 else if 32767 < z then 32767 else z.toInt32
noncomputable def pcR (W_ : Nat → Int32) (j : Nat) : Int32 := clipR (lp (pU W_ j) k8 1048576 >>> ((nI 21).toInt64 &&& 63))
noncomputable def pRw (P : Nat → Nat → Int32) (cc to : Nat) (W_ : Nat → Int32) (n : Nat) : Nat → Nat → Int32 := fun a q => if a = cc ∧ to ≤ q ∧ q < to + n then pcR W_ (q - to) else P a q
theorem pRw_0 (P : Nat → Nat → Int32) (cc to : Nat) (W_ : Nat → Int32) : P = pRw P cc to W_ 0 := by
  funext a j
  unfold pRw
  rw [if_neg (by omega)]
theorem pRw_s (P : Nat → Nat → Int32) (cc to : Nat) (W_ : Nat → Int32) (n : Nat) : upd2 (pRw P cc to W_ n) cc (to + n) (pcR W_ n) = pRw P cc to W_ (n + 1) := by
  funext a j
  rw [upd2_at]
  unfold pRw
  by_cases q : a = cc ∧ j = to + n
  · rw [if_pos q, if_pos (by omega), q.2, Nat.add_sub_cancel_left]
  · rw [if_neg q]
    by_cases z : a = cc ∧ to ≤ j ∧ j < to + n
    · rw [if_pos z, if_pos (by omega)]
    · rw [if_neg z, if_neg (by omega)]
theorem lgg {a b : Int64} : 0 ≤ lg_cmp a b ↔ b ≤ a := by
  unfold lg_cmp
  by_cases h : a > b
  · rw [if_pos h]
    exact ⟨fun _ => Int64.le_of_lt h, fun _ => by decide⟩
  · rw [if_neg h]
    by_cases e : a = b
    · rw [if_pos e]; exact ⟨fun _ => by rw [e]; exact Int64.le_refl _, fun _ => by decide⟩
    · rw [if_neg e]
      exact ⟨fun q => absurd q (by decide), fun q => absurd (Int64.le_antisymm (Int64.not_lt.mp h) q) e⟩
theorem clip_a {z : Int64} (h : ¬ 0 ≤ lg_cmp z (-32768)) : (-32768 : Int32) = clipR z := by
  unfold clipR
  rw [if_pos (Int64.not_le.mp (fun q => h (lgg.mpr q)))]
theorem clip_b {z : Int64} (h : 0 ≤ lg_cmp z (-32768)) (h2 : ¬ lg_cmp z 32767 ≤ 0) : nI 32767 = clipR z := by
  unfold clipR
  rw [if_neg (Int64.not_lt.mpr (lgg.mp h)), if_pos (Int64.not_le.mp (fun q => h2 (lgc.mpr q)))]
  rfl
theorem clip_c {z : Int64} (h : 0 ≤ lg_cmp z (-32768)) (h2 : lg_cmp z 32767 ≤ 0) : z.toInt32 = clipR z := by
  unfold clipR
  rw [if_neg (Int64.not_lt.mpr (lgg.mp h)), if_neg (Int64.not_lt.mpr (lgc.mp h2))]
/-! sound -/
abbrev SDS : Type := (Nat → Nat → Int32) × (Nat → Nat → Int32) × (Nat → Nat)
noncomputable def sdC (SM : Nat → Nat → Int32) (t : Nat) (c : Nat) (x : SDS) : SDS := (vRw x.1 c (SM (c * 36 + t)) 64, pRw x.2.1 c (x.2.2 c) (vRw x.1 c (SM (c * 36 + t)) 64 c) 32, updN x.2.2 c (x.2.2 c + 32))
noncomputable def sdT (SM : Nat → Nat → Int32) (oc : Nat) (t : Nat) (x : SDS) : SDS := lp (sdC SM t) oc x
def jP (PS : Nat → Nat) (t c : Nat) (x : SDS) : Prop := ∀ i, x.2.2 i ≤ PS i + 32 * (t + (if i < c then 1 else 0))
theorem sdC_j {SM : Nat → Nat → Int32} {PS : Nat → Nat} {t c : Nat} {x : SDS} (h : jP PS t c x) : jP PS t (c + 1) (sdC SM t c x) := by
  intro i
  have k := h i
  show updN x.2.2 c (x.2.2 c + 32) i ≤ _
  unfold updN
  by_cases q : i = c
  · subst q
    rw [if_pos rfl, if_pos (by omega)]
    rw [if_neg (by omega)] at k
    omega
  · rw [if_neg q]
    by_cases z : i < c
    · rw [if_pos z] at k; rw [if_pos (by omega)]; exact k
    · rw [if_neg z] at k; rw [if_neg (by omega)]; exact k
theorem jP_up {PS : Nat → Nat} {t c : Nat} {x : SDS} (h : jP PS t c x) : jP PS (t + 1) 0 x := by
  intro i
  have k := h i
  have e : (if i < c then 1 else 0) ≤ 1 := by split <;> omega
  rw [if_neg (by omega)]
  omega
