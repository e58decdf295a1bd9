/-! the reference's questions and clear, pure -/
def vZ (V : Nat → Nat → Int32) (c n : Nat) : Nat → Nat → Int32 := fun a j => if (a < c ∧ j < 1024) ∨ (a = c ∧ j < n) then 0 else V a j
theorem vZ_0 (V : Nat → Nat → Int32) : vZ V 0 0 = V := by
  funext a j
  unfold vZ
  rw [if_neg (by omega)]
theorem vZ_s (V : Nat → Nat → Int32) (c n : Nat) : upd2 (vZ V c n) c n (nI 0) = vZ V c (n + 1) := by
  funext a j
  rw [upd2_at]
  unfold vZ
  by_cases q : a = c ∧ j = n
  · rw [if_pos q, if_pos (by omega)]; rfl
  · rw [if_neg q]
    by_cases z : (a < c ∧ j < 1024) ∨ (a = c ∧ j < n)
    · rw [if_pos z, if_pos (by omega)]
    · rw [if_neg z, if_neg (by omega)]
theorem vZ_u (V : Nat → Nat → Int32) (c : Nat) : vZ V c 1024 = vZ V (c + 1) 0 := by
  funext a j
  unfold vZ
  by_cases z : (a < c ∧ j < 1024) ∨ (a = c ∧ j < 1024)
  · rw [if_pos z, if_pos (by omega)]
  · rw [if_neg z, if_neg (by omega)]
def pZ (PS : Nat → Nat) (c : Nat) : Nat → Nat := fun j => if j < c then 0 else PS j
theorem pZ_0 (PS : Nat → Nat) : pZ PS 0 = PS := by
  funext j
  unfold pZ
  rw [if_neg (by omega)]
theorem pZ_s (PS : Nat → Nat) (c : Nat) : updN (pZ PS c) c 0 = pZ PS (c + 1) := by
  funext j
  unfold updN pZ
  by_cases q : j = c
  · rw [if_pos q, if_pos (by omega)]
  · rw [if_neg q]
    by_cases z : j < c
    · rw [if_pos z, if_pos (by omega)]
    · rw [if_neg z, if_neg (by omega)]
def sqf (SM : Nat → Nat → Int32) : Nat → Int32 := fun q => SM (q / 32) (q % 32)
def sqN (OS : Nat → Nat → Nat) : Nat → Nat := fun q => OS (q / 32) (q % 32)
def sq3 (OF : Nat → Nat → Nat) : Nat → Nat := fun q => OF (q / 3) (q % 3)
theorem sqf_at (SM : Nat → Nat → Int32) {r b : Nat} (h : b < 32) : sqf SM (r * 32 + b) = SM r b := by
  unfold sqf
  rw [show (r * 32 + b) / 32 = r by omega, show (r * 32 + b) % 32 = b by omega]
theorem sqN_at (SM : Nat → Nat → Nat) {r b : Nat} (h : b < 32) : sqN SM (r * 32 + b) = SM r b := by
  unfold sqN
  rw [show (r * 32 + b) / 32 = r by omega, show (r * 32 + b) % 32 = b by omega]
theorem sq3_at (SM : Nat → Nat → Nat) {r b : Nat} (h : b < 3) : sq3 SM (r * 3 + b) = SM r b := by
  unfold sq3
  rw [show (r * 3 + b) / 3 = r by omega, show (r * 3 + b) % 3 = b by omega]
def smF (f : Int32 → Int32) (a : Nat) (k : Nat) (s : Int32) : Int32 := s + f (nI (a + k)) * nI (k + 1)
/-- terms beyond the made ones are nothing -/
theorem smF_min {sm : Nat → Int32} {md a : Nat} (n : Nat) (h : a + n < 2 ^ 31) : lp (smF (fun y => selX y md sm 0) a) n 0 = lp (wsF sm a) (min (a + n) md - a) 0 := by
  induction n with
  | zero => rw [show min (a + 0) md - a = 0 by omega]; rfl
  | succ n ih =>
    have ih := ih (by omega)
    show smF (fun y => selX y md sm 0) a n (lp (smF (fun y => selX y md sm 0) a) n 0) = _
    rw [ih]
    unfold smF
    dsimp only
    by_cases q : a + n < md
    · rw [show min (a + (n + 1)) md - a = n + 1 by omega, show min (a + n) md - a = n by omega]
      show _ = wsF sm a n (lp (wsF sm a) n 0)
      unfold wsF
      unfold selX
      rw [nI_toInt (by omega), if_pos (by omega), nI_clamp (by omega)]
    · rw [show min (a + (n + 1)) md - a = min (a + n) md - a by omega]
      rw [selX_out (by rw [nI_toInt (by omega)]; omega), Int32.zero_mul, Int32.add_zero]
theorem smF_0 {a : Nat} (n : Nat) : lp (smF (fun _ => 0) a) n 0 = 0 := by
  induction n with
  | zero => rfl
  | succ n ih =>
    show smF (fun _ => 0) a n (lp (smF (fun _ => 0) a) n 0) = 0
    rw [ih]
    unfold smF
    rw [Int32.zero_mul]
    rfl
theorem lp_fun {σ : Type} {F G : Nat → σ → σ} (h : F = G) (n : Nat) (x : σ) : lp F n x = lp G n x := by rw [h]
theorem sum_ref {md md2 : Nat} {sm sm2 : Nat → Int32} (x : Int32) {a b : Nat} (hab : a ≤ b) (hb : b < 2 ^ 31) (h2 : b - a ≤ 2000) : lp (smF (fun y => pcmA md md2 sm sm2 x y) a) (b - a) 0 = sumA md md2 sm sm2 x (nI a) (nI b) := by
  have k : ∀ (m : Nat) (s : Nat → Int32), lp (smF (fun y => selX y m s 0) a) (b - a) 0 = sum1 m s (nI a) (nI b) := fun m s => by
    rw [smF_min (b - a) (by omega), show a + (b - a) = b by omega]
    unfold sum1
    rw [nI_toInt (by omega), nI_toInt (by omega), if_pos (by omega), nI_clamp (by omega), nI_clamp (by omega)]
  unfold sumA pcmA
  by_cases h : x = 0
  · rw [if_pos h]
    rw [show (fun y => if x = 0 then selX y md sm 0 else if x = nI 1 then selX y md2 sm2 0 else 0) = (fun y => selX y md sm 0) from funext fun y => if_pos h]
    exact k md sm
  · rw [if_neg h]
    by_cases q : x = nI 1
    · rw [if_pos q]
      rw [show (fun y => if x = 0 then selX y md sm 0 else if x = nI 1 then selX y md2 sm2 0 else 0) = (fun y => selX y md2 sm2 0) from funext fun y => by rw [if_neg h, if_pos q]]
      exact k md2 sm2
    · rw [if_neg q]
      rw [show (fun y => if x = 0 then selX y md sm 0 else if x = nI 1 then selX y md2 sm2 0 else 0) = (fun _ => (0 : Int32)) from funext fun y => by rw [if_neg h, if_neg q]]
      exact smF_0 _
theorem pcm_out {md md2 : Nat} {sm sm2 : Nat → Int32} {x y : Int32} (h : x.toInt < 0 ∨ 1 < x.toInt) : pcmA md md2 sm sm2 x y = 0 := by
  unfold pcmA
  rw [if_neg (fun q => by rw [q] at h; exact absurd h (by decide)), if_neg (fun q => by rw [q] at h; exact absurd h (by decide))]
theorem pcm_at {md : Nat → Nat} {sm : Nat → Nat → Int32} {c : Nat} (y : Int32) (h : c < 2) : pcmA (md 0) (md 1) (sm 0) (sm 1) (nI c) y = selX y (md c) (sm c) 0 := by
  unfold pcmA
  obtain rfl | rfl : c = 0 ∨ c = 1 := by omega
  · rw [if_pos (by decide)]
  · rw [if_neg (by decide), if_pos rfl]
theorem sum_out {md md2 : Nat} {sm sm2 : Nat → Int32} {x y z : Int32} (h : y.toInt < 0 ∨ z.toInt < y.toInt ∨ y.toInt + 2000 < z.toInt) : sumA md md2 sm sm2 x y z = 0 := by
  have k : ∀ (m : Nat) (s : Nat → Int32), sum1 m s y z = 0 := fun m s => by
    unfold sum1
    by_cases q : 0 ≤ y.toInt ∧ 0 ≤ z.toInt ∧ z.toInt ≤ y.toInt + 2000
    · rw [if_pos q]
      obtain ⟨a, ha, rfl, hae⟩ := nat_of (x := y) q.1
      obtain ⟨b, hb, rfl, hbe⟩ := nat_of (x := z) q.2.1
      rw [nI_clamp ha, nI_clamp hb, show min b m - a = 0 by omega]
      rfl
    · rw [if_neg q]
  unfold sumA
  rw [k, k]
  (repeat' split) <;> rfl
