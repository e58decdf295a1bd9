/-! the reference's reading and sounding against the abstract state -/
theorem rdS1_ft {T : Nat → Nat} {P lim ly ft ft2 ch bd bn ck : Nat} {s e : Nat → Nat} (h : ly = 1 ∨ ft = ft2) : rdS1 T P lim ly ft ch bd bn ck s e = rdS1 T P lim ly ft2 ch bd bn ck s e := by
  unfold rdS1
  rw [rdX1_ft h]
theorem rdT_ft {T : Nat → Nat} {P lim K ly ft ft2 ch bd bn ck : Nat} {s e : Nat → Nat} (h : ly = 1 ∨ ft = ft2) : rdT T P lim K ly ft ch bd bn ck s e = rdT T P lim K ly ft2 ch bd bn ck s e := by
  unfold rdT
  rw [rdS1_ft h, rdX1_ft h]
theorem rdF_ft {T : Nat → Nat} {P lim K ly ft ft2 ch bd bn ck : Nat} {s e f : Nat → Nat} (h : ly = 1 ∨ ft = ft2) : rdF T P lim K ly ft ch bd bn ck s e f = rdF T P lim K ly ft2 ch bd bn ck s e f := by
  unfold rdF
  rw [rdT_ft h, rdS1_ft h, rdX1_ft h]
theorem rdM_ft {T : Nat → Nat} {P lim K G ly ft ft2 ch bd bn ck : Nat} {s e f c : Nat → Nat} {m : Nat → Int32} (h : ly = 1 ∨ ft = ft2) : rdM T P lim K G ly ft ch bd bn ck s e f c m = rdM T P lim K G ly ft2 ch bd bn ck s e f c m := by
  unfold rdM
  rw [rdF_ft h, rdX1_ft h]
theorem rdO_ft {T : Nat → Nat} {P lim K G ly ft ft2 ch bd bn ck : Nat} {s e f c : Nat → Nat} {m : Nat → Int32} (h : ly = 1 ∨ ft = ft2) : rdO T P lim K G ly ft ch bd bn ck s e f c m = rdO T P lim K G ly ft2 ch bd bn ck s e f c m := by
  unfold rdO
  rw [rdM_ft h, rdS1_ft h]
theorem ft_or (w : Nat) : layerS w = 1 ∨ fT (bandS w) = ftS w := by
  by_cases q : layerS w = 1
  · exact Or.inl q
  · exact Or.inr (fT_ft q)
theorem lay_or {w : Nat} (h : goodS w ≠ 0) : layerS w = 1 ∨ layerS w = 2 := by
  have := (good_parts h).1
  have := layer_le w
  omega
/-- what is asked of the contents kept -/
def CTQ (ct : CTn) (OS OF : Nat → Nat → Nat) (SM : Nat → Nat → Int32) : Prop := ∀ c b, c < ct.1 → b < 32 → OS c b = ct.2.2.1 (c * 32 + b) ∧ (OS c b ≠ 0 → ∀ k, k < 3 → OF (c * 32 + b) k = ct.2.2.2.1 ((c * 32 + b) * 3 + k)) ∧ ∀ t, t < ct.2.1 → SM (c * 36 + t) b = ct.2.2.2.2 ((c * 36 + t) * 32 + b)
theorem ref_read {T : Nat → Nat} {a w oq rw_ : Nat} {AL SE ST FA CO ST1 FA1 CO1 : Nat → Nat → Nat} (hg : goodS w ≠ 0) (hrw : rw_ = if layerS w = 1 then 12 else 36) (hjb : jB AL SE ST FA CO) (h : rdP T a (byS w) (layerS w) (bandS w) (chS w) (boundS w) (chkS w) AL SE ST FA CO oq ST1 FA1 CO1) :
    oq = ocN T a w ∧ rw_ = rowsS w ∧ (oq = 0 → ∀ y1 : KS, kept ST1 FA1 CO1 rw_ (chS w) y1 → CTQ (ctN T a w) y1.1 y1.2.1 y1.2.2) := by
  have hr : rw_ = rowsS w := by
    rw [hrw]
    unfold rowsS
    split <;> rfl
  have k := rd_eq0 (lay_or hg) (band_le w).2 (ch_le w).1 (ch_le w).2 (by_ge hg) hjb h
  refine ⟨?_, hr, fun h0 y1 hk c b hc hb => ?_⟩
  · rw [k.1]
    unfold ocN rdoF
    exact rdO_ft (ft_or w)
  · have hct := k.2 h0 c b hc hb
    have hkp := hk c b hc hb
    obtain ⟨c1, c2, c3⟩ := hct
    obtain ⟨k1, k2, k3⟩ := hkp
    rw [rdX1_ft (ft_or w)] at c1
    rw [rdF_ft (ft_or w)] at c2
    rw [rdM_ft (ft_or w)] at c3
    refine ⟨by rw [k1]; exact c1, fun hn q hq => by rw [k2 q hq]; exact c2 (by rw [← k1]; exact hn) q hq, fun t ht => ?_⟩
    have ht2 : t < rowsS w := ht
    rw [k3 t (by rw [hr]; exact ht2), hr]
    exact c3 t ht2
/-! one channel -/
theorem lp_vU {row sm : Nat → Int32} {fi j : Nat} (h : ∀ k, k < 32 → row k = sm (fi + k)) : ∀ n, n ≤ 32 → lp (vU row j) n 8192 = lp (vT sm fi j) n 0 + 8192 := by
  intro n
  induction n with
  | zero => intro _; show (8192 : Int64) = 0 + 8192; rw [Int64.zero_add]
  | succ n ih =>
    intro hn
    show vU row j n (lp (vU row j) n 8192) = vT sm fi j n (lp (vT sm fi j) n 0) + 8192
    rw [ih (by omega)]
    unfold vU vT
    rw [h n (by omega), Int64.add_assoc, Int64.add_assoc, Int64.add_comm 8192]
theorem vS2_eq {row sm : Nat → Int32} {fi j : Nat} (h : ∀ k, k < 32 → row k = sm (fi + k)) : vS2 row j = vS sm fi j := by
  unfold vS2 vS
  rw [lp_vU h k32 (by rw [k32_eq]; omega)]
theorem clip_eq (z : Int64) : clipR z = clipL z := by
  unfold clipR clipL
  have e1 : (-32768 : Int64).toInt32 = -32768 := by decide
  have e2 : (32767 : Int64).toInt32 = 32767 := by decide
  by_cases h1 : z < -32768
  · have h2 : z < 32767 := Int64.lt_trans h1 (by decide)
    rw [if_pos h1, if_pos h2, if_pos h1, e1]
  · rw [if_neg h1]
    by_cases h2 : z < 32767
    · rw [if_neg (fun q => Int64.lt_irrefl (Int64.lt_trans h2 q)), if_pos h2, if_neg h1]
    · rw [if_neg h2]
      rw [if_neg (show ¬ ((32767 : Int64) < -32768) by decide)]
      by_cases h3 : 32767 < z
      · rw [if_pos h3, e2]
      · rw [if_neg h3, Int64.le_antisymm (Int64.not_lt.mp h3) (Int64.not_lt.mp h2)]
theorem pcR_eq {W_ V : Nat → Int32} {j : Nat} (hj : j < 32) (h : ∀ i, i < 1024 → W_ i = V i) : pcR W_ j = pcA V j := by
  have h8 := k8_eq
  unfold pcR pcA
  rw [clip_eq, lp_congr (G := pcT2 V j)]
  intro i s hi
  unfold pU pcT2
  rw [h (128 * i + j) (by omega), h (128 * i + 96 + j) (by omega)]
  rw [show (64 * i + j) % 512 = 64 * i + j by omega, show (64 * i + j + 32) % 512 = 64 * i + 32 + j by omega, show 128 * i + j + 96 = 128 * i + 96 + j by omega, ← Int64.add_assoc]
abbrev CHS : Type := (Nat → Int32) × (Nat → Int32) × Nat
def chan (x : SDS) (a : Nat) : CHS := (x.1 a, x.2.1 a, x.2.2 a)
noncomputable def v1W (row : Nat → Int32) (v : Nat → Int32) : Nat → Int32 := fun j => if j < 64 then vS2 row j else if 64 ≤ j ∧ j < 1024 then v (j - 64) else v j
noncomputable def stp (row : Nat → Int32) (z : CHS) : CHS := (v1W row z.1, (fun q => if z.2.2 ≤ q ∧ q < z.2.2 + 32 then pcR (v1W row z.1) (q - z.2.2) else z.2.1 q), z.2.2 + 32)
theorem chan_C (SM : Nat → Nat → Int32) (t c : Nat) (x : SDS) (a : Nat) : chan (sdC SM t c x) a = if a = c then stp (SM (a * 36 + t)) (chan x a) else chan x a := by
  by_cases q : a = c
  · subst q
    rw [if_pos rfl]
    have e1 : vRw x.1 a (SM (a * 36 + t)) 64 a = v1W (SM (a * 36 + t)) (x.1 a) := by
      funext j
      unfold vRw v1W
      by_cases z : j < 64
      · rw [if_pos ⟨rfl, z⟩, if_pos z]
      · rw [if_neg (fun w => z w.2), if_neg z]
        by_cases y : 64 ≤ j ∧ j < 1024
        · rw [if_pos ⟨rfl, y⟩, if_pos y]
        · rw [if_neg (fun w => y w.2), if_neg y]
    have e2 : pRw x.2.1 a (x.2.2 a) (vRw x.1 a (SM (a * 36 + t)) 64 a) 32 a = fun q => if x.2.2 a ≤ q ∧ q < x.2.2 a + 32 then pcR (v1W (SM (a * 36 + t)) (x.1 a)) (q - x.2.2 a) else x.2.1 a q := by
      funext j
      unfold pRw
      rw [e1]
      by_cases z : x.2.2 a ≤ j ∧ j < x.2.2 a + 32
      · rw [if_pos ⟨rfl, z⟩, if_pos z]
      · rw [if_neg (fun w => z w.2), if_neg z]
    have e3 : updN x.2.2 a (x.2.2 a + 32) a = x.2.2 a + 32 := by unfold updN; rw [if_pos rfl]
    exact Prod.ext e1 (Prod.ext e2 e3)
  · rw [if_neg q]
    have e1 : vRw x.1 c (SM (c * 36 + t)) 64 a = x.1 a := by
      funext j
      unfold vRw
      rw [if_neg (fun w => q w.1), if_neg (fun w => q w.1)]
    have e2 : pRw x.2.1 c (x.2.2 c) (vRw x.1 c (SM (c * 36 + t)) 64 c) 32 a = x.2.1 a := by
      funext j
      unfold pRw
      rw [if_neg (fun w => q w.1)]
    have e3 : updN x.2.2 c (x.2.2 c + 32) a = x.2.2 a := by unfold updN; rw [if_neg q]
    exact Prod.ext e1 (Prod.ext e2 e3)
theorem chan_T (SM : Nat → Nat → Int32) (t : Nat) (x : SDS) (a : Nat) : ∀ n, chan (lp (sdC SM t) n x) a = if a < n then stp (SM (a * 36 + t)) (chan x a) else chan x a := by
  intro n
  induction n with
  | zero => rw [if_neg (by omega)]; rfl
  | succ n ih =>
    show chan (sdC SM t n (lp (sdC SM t) n x)) a = _
    rw [chan_C, ih]
    by_cases q : a = n
    · rw [if_pos q, if_neg (by omega), if_pos (by omega)]
    · rw [if_neg q]
      by_cases z : a < n
      · rw [if_pos z, if_pos (by omega)]
      · rw [if_neg z, if_neg (by omega)]
theorem chan_S (SM : Nat → Nat → Int32) (ch : Nat) (x : SDS) (a : Nat) : ∀ n, chan (lp (sdT SM ch) n x) a = if a < ch then lp (fun t z => stp (SM (a * 36 + t)) z) n (chan x a) else chan x a := by
  intro n
  induction n with
  | zero => split <;> rfl
  | succ n ih =>
    show chan (lp (sdC SM n) ch (lp (sdT SM ch) n x)) a = _
    rw [chan_T, ih]
    by_cases z : a < ch
    · rw [if_pos z, if_pos z, if_pos z]; rfl
    · rw [if_neg z, if_neg z, if_neg z]
def VR (z : CHS) (v : VCe) : Prop := (∀ j, j < 1024 → z.1 j = v.1 j) ∧ z.2.2 = v.2.1 ∧ ∀ j, j < v.2.1 → z.2.1 j = v.2.2 j
theorem VR_st {row sm : Nat → Int32} {c t : Nat} {z : CHS} {v : VCe} (hr : ∀ b, b < 32 → row b = sm ((c * 36 + t) * 32 + b)) (h : VR z (vNx sm c t v)) : VR (stp row z) (vNx sm c (t + 1) v) := by
  obtain ⟨h1, h2, h3⟩ := h
  have h2 : z.2.2 = v.2.1 + 32 * t := h2
  have e1 : ∀ j, j < 1024 → v1W row z.1 j = lp (sdA sm c) (t + 1) v.1 j := by
    intro j hj
    show _ = rowA sm ((c * 36 + t) * 32) (lp (sdA sm c) t v.1) j
    unfold v1W rowA
    by_cases q : j < 64
    · rw [if_pos q, if_pos q]; exact vS2_eq hr
    · rw [if_neg q, if_neg q, if_pos (by omega)]; exact h1 (j - 64) (by omega)
  refine ⟨e1, by show z.2.2 + 32 = v.2.1 + 32 * (t + 1); omega, fun j hj => ?_⟩
  have hj : j < v.2.1 + 32 * (t + 1) := hj
  show (if z.2.2 ≤ j ∧ j < z.2.2 + 32 then pcR (v1W row z.1) (j - z.2.2) else z.2.1 j) = if j < v.2.1 then v.2.2 j else pcA (lp (sdA sm c) ((j - v.2.1) / 32 + 1) v.1) ((j - v.2.1) % 32)
  by_cases q : z.2.2 ≤ j ∧ j < z.2.2 + 32
  · rw [if_pos q, if_neg (by omega), pcR_eq (by omega) e1]
    rw [show (j - v.2.1) / 32 = t by omega, show (j - v.2.1) % 32 = j - z.2.2 by omega]
  · rw [if_neg q]
    exact h3 j (by show j < v.2.1 + 32 * t; omega)
theorem vNx_0 (sm : Nat → Int32) (c : Nat) {z : CHS} {v : VCe} (h : VR z v) : VR z (vNx sm c 0 v) := by
  obtain ⟨h1, h2, h3⟩ := h
  refine ⟨h1, h2, fun j hj => ?_⟩
  have hj : j < v.2.1 + 32 * 0 := hj
  show _ = if j < v.2.1 then v.2.2 j else _
  rw [if_pos (by omega)]
  exact h3 j (by omega)
theorem VR_sd {SM : Nat → Nat → Int32} {sm : Nat → Int32} {ch c rows : Nat} {x : SDS} {v : VCe} (hc : c < ch) (hr : ∀ t, t < rows → ∀ b, b < 32 → SM (c * 36 + t) b = sm ((c * 36 + t) * 32 + b)) (h : VR (chan x c) v) : VR (chan (lp (sdT SM ch) rows x) c) (vNx sm c rows v) := by
  rw [chan_S, if_pos hc]
  exact lp_invN (fun n (z : CHS) => VR z (vNx sm c n v)) (vNx_0 sm c h) (fun t z ht hz => VR_st (hr t ht) hz)
theorem VR_id {SM : Nat → Nat → Int32} {ch c rows : Nat} {x : SDS} {v : VCe} (hc : ¬ c < ch) (h : VR (chan x c) v) : VR (chan (lp (sdT SM ch) rows x) c) v := by
  rw [chan_S, if_neg hc]
  exact h
/-! the reference's picture of the abstract state -/
def tellQ (q : FrD) : Nat → Int32 := tellS q.2.1 (layerS q.1) (rateS q.1) (sampS q.1) (byS q.1) (modeS q.1) (chS q.1) (boundS q.1) q.2.2
def refP (T : Nat → Nat) (len : Nat) (x : SSt) (N : Nat → Nat) (M : Nat → Nat → Nat → Nat) (SM V PC : Nat → Nat → Int32) (PS : Nat → Nat) : Prop :=
  (∀ j, T j < 256) ∧ SOK len x ∧ (N 1 = len ∧ N 2 = x.1 ∧ N 3 = x.2.1.length ∧ N 4 = x.2.2.1 ∧ N 5 = (if 0 < x.2.2.1 then 1 else 0)) ∧ (N 6 ≤ 2 ∧ N 7 ≤ 36 ∧ ∀ i j, i < N 6 → j < 32 → M 5 i j < 2 ^ 31) ∧ jB (M 0) (M 1) (M 2) (M 3) (M 4) ∧ (∀ i q, x.2.1[i]? = some q → ∀ j, j < 10 → nI (M 7 i j) = tellQ q j) ∧ (0 < x.2.2.1 → N 6 = x.2.2.2.1.1 ∧ N 7 = x.2.2.2.1.2.1 ∧ CTQ x.2.2.2.1 (M 5) (M 6) SM) ∧ VR (chan (V, PC, PS) 0) x.2.2.2.2.1 ∧ VR (chan (V, PC, PS) 1) x.2.2.2.2.2
theorem bandR {T : Nat → Nat} {len : Nat} {x : SSt} {N : Nat → Nat} {M : Nat → Nat → Nat → Nat} {SM V PC : Nat → Nat → Int32} {PS : Nat → Nat} (h : refP T len x N M SM V PC PS) (u v w : Int32) : bandA (N 5) (N 6) (N 7) (sqf SM) u v w = bandA x.2.2.1 x.2.2.2.1.1 x.2.2.2.1.2.1 x.2.2.2.1.2.2.2.2 u v w := by
  obtain ⟨-, hS, ⟨-, -, -, -, e5⟩, -, -, -, hc, -⟩ := h
  by_cases q : 0 < x.2.2.1
  · obtain ⟨e6, e7, hq⟩ := hc q
    rw [e5, if_pos q, e6, e7]
    rw [bandA_congr (sm2 := x.2.2.2.1.2.2.2.2) hS.2.2.2.2.2.1.1 hS.2.2.2.2.2.1.2 (fun _ c t b h1 h2 h3 => by rw [sqf_at SM h3]; exact (hq c b h1 h3).2.2 t h2)]
    unfold bandA
    simp only [q, show (0 : Nat) < 1 by omega, true_and]
  · rw [e5, if_neg q]
    unfold bandA
    rw [if_neg (by omega), if_neg (by omega)]
theorem stepR {T : Nat → Nat} {len : Nat} {x : SSt} {N : Nat → Nat} {M : Nat → Nat → Nat → Nat} {SM V PC : Nat → Nat → Int32} {PS : Nat → Nat} (h : refP T len x N M SM V PC PS) (u v : Int32) : stepA (N 5) (N 6) (sqN (M 5)) u v = stepA x.2.2.1 x.2.2.2.1.1 x.2.2.2.1.2.2.1 u v := by
  obtain ⟨-, hS, ⟨-, -, -, -, e5⟩, -, -, -, hc, -⟩ := h
  by_cases q : 0 < x.2.2.1
  · obtain ⟨e6, e7, hq⟩ := hc q
    rw [e5, if_pos q, e6]
    rw [stepA_congr (st2 := x.2.2.2.1.2.2.1) (fun _ c b h1 h2 => by rw [sqN_at _ h2]; exact (hq c b h1 h2).1)]
    unfold stepA
    simp only [q, show (0 : Nat) < 1 by omega, true_and]
  · rw [e5, if_neg q]
    unfold stepA
    rw [if_neg (by omega), if_neg (by omega)]
theorem factR {T : Nat → Nat} {len : Nat} {x : SSt} {N : Nat → Nat} {M : Nat → Nat → Nat → Nat} {SM V PC : Nat → Nat → Int32} {PS : Nat → Nat} (h : refP T len x N M SM V PC PS) (u v w : Int32) : factA (N 5) (N 6) (sqN (M 5)) (sq3 (M 6)) u v w = factA x.2.2.1 x.2.2.2.1.1 x.2.2.2.1.2.2.1 x.2.2.2.1.2.2.2.1 u v w := by
  obtain ⟨-, hS, ⟨-, -, -, -, e5⟩, -, -, -, hc, -⟩ := h
  by_cases q : 0 < x.2.2.1
  · obtain ⟨e6, e7, hq⟩ := hc q
    rw [e5, if_pos q, e6]
    rw [factA_congr (st2 := x.2.2.2.1.2.2.1) (fa2 := x.2.2.2.1.2.2.2.1) (fun _ c b h1 h2 => by rw [sqN_at _ h2]; exact (hq c b h1 h2).1) (fun _ c b k h1 h2 h3 h4 => by
      rw [sqN_at _ h2] at h4
      rw [sq3_at _ h3]
      exact (hq c b h1 h2).2.1 h4 k h3)]
    unfold factA
    simp only [q, show (0 : Nat) < 1 by omega, true_and]
  · rw [e5, if_neg q]
    unfold factA
    rw [if_neg (by omega), if_neg (by omega)]
theorem frameR {T : Nat → Nat} {len : Nat} {x : SSt} {N : Nat → Nat} {M : Nat → Nat → Nat → Nat} {SM V PC : Nat → Nat → Int32} {PS : Nat → Nat} (h : refP T len x N M SM V PC PS) (u v : Int32) : selX u (N 3) (fun i => selX v 10 (fun j => nI (M 7 i j)) (-1)) (-1) = selX u x.2.1.length (frB x.2.1 v) (-1) := by
  obtain ⟨-, hS, ⟨-, -, e3, -, -⟩, -, -, hf, -⟩ := h
  rw [e3]
  apply selX_congr
  intro i hi
  unfold frB
  have e : x.2.1[i]? = some x.2.1[i] := List.getElem?_eq_getElem hi
  rw [e]
  exact selX_congr (fun j hj => hf i _ e j hj)
