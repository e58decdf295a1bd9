/-! the state that both show: (place, frames, decoded, content, voice, voice) -/
abbrev CTn : Type := Nat × Nat × (Nat → Nat) × (Nat → Nat) × (Nat → Int32)
abbrev VCe : Type := (Nat → Int32) × Nat × (Nat → Int32)
abbrev SSt : Type := Nat × List FrD × Nat × CTn × VCe × VCe
abbrev CPS : Type := Nat × Nat × Nat
noncomputable def vNx (sm : Nat → Int32) (c rows : Nat) (v : VCe) : VCe := (lp (sdA sm c) rows v.1, v.2.1 + 32 * rows, fun j => if j < v.2.1 then v.2.2 j else pcA (lp (sdA sm c) ((j - v.2.1) / 32 + 1) v.1) ((j - v.2.1) % 32))
noncomputable def ocN (T : Nat → Nat) (at_ w : Nat) : Nat := rdoF T at_ w zN zN zN zN zI
noncomputable def ctN (T : Nat → Nat) (at_ w : Nat) : CTn := (chS w, rowsS w, rdSt T at_ w zN, rdFa T at_ w zN zN zN, rdSm T at_ w zN zN zN zN zI)
def fdS (T : Nat → Nat) (len : Nat) (x : SSt) : Nat := fndS T x.1 (len - 3 - x.1)
noncomputable def nxS (T : Nat → Nat) (at_ w : Nat) (x : SSt) : SSt :=
  if ocN T at_ w = 0 then (at_ + byS w, x.2.1 ++ [(w, at_, ocN T at_ w)], x.2.2.1 + 1, ctN T at_ w, vNx (ctN T at_ w).2.2.2.2 0 (rowsS w) x.2.2.2.2.1, if chS w = 2 then vNx (ctN T at_ w).2.2.2.2 1 (rowsS w) x.2.2.2.2.2 else x.2.2.2.2.2)
  else (at_ + byS w, x.2.1 ++ [(w, at_, ocN T at_ w)], x.2.2.1, x.2.2.2)
def stS (T : Nat → Nat) (len : Nat) (x : SSt) : SSt := ((if fdS T len x + 4 ≤ len then fdS T len x else max x.1 (len - 3)), x.2)
noncomputable def decS (T : Nat → Nat) (len : Nat) : Nat → SSt → Nat × SSt
  | 0, x => (0, x)
  | n + 1, x => if fdS T len x + 4 ≤ len ∧ byS (wdS T (fdS T len x)) ≤ len - fdS T len x then ((decS T len n (nxS T (fdS T len x) (wdS T (fdS T len x)) x)).1 + 1, (decS T len n (nxS T (fdS T len x) (wdS T (fdS T len x)) x)).2) else (0, stS T len x)
noncomputable def cpN (T : Nat → Nat) (at_ w : Nat) (x : SSt) (k : CPS) : CPS := (growS k.1 x.2.1.length, (if ocN T at_ w = 0 then capS x.2.2.2.2.1.2.1 (rowsS w * 32) k.2.1 else k.2.1), if ocN T at_ w = 0 then cxS (chS w) (rowsS w) x.2.2.2.2.2.2.1 k.2.2 else k.2.2)
noncomputable def decK (T : Nat → Nat) (len : Nat) : Nat → SSt → CPS → CPS
  | 0, _, k => k
  | n + 1, x, k => if fdS T len x + 4 ≤ len ∧ byS (wdS T (fdS T len x)) ≤ len - fdS T len x then decK T len n (nxS T (fdS T len x) (wdS T (fdS T len x)) x) (cpN T (fdS T len x) (wdS T (fdS T len x)) x k) else k
def Phi (k : CPS) : Nat := 4 * k.1 + 2 * k.2.1 + 2 * k.2.2
def COK (k : CPS) : Prop := k.1 ≤ 400 ∧ k.2.1 ≤ 96000 ∧ k.2.2 ≤ 96000
theorem Phi_le {k : CPS} (h : COK k) : Phi k ≤ 385600 := by unfold Phi; have := h.1; have := h.2.1; have := h.2.2; omega
def SOK (len : Nat) (x : SSt) : Prop := (x.1 ≤ len ∧ len ≤ 4000) ∧ 32 * x.2.1.length ≤ x.1 ∧ x.2.2.1 ≤ x.2.1.length ∧ x.2.2.2.2.1.2.1 ≤ 12 * x.1 ∧ x.2.2.2.2.2.2.1 ≤ 12 * x.1 ∧ (x.2.2.2.1.1 ≤ 2 ∧ x.2.2.2.1.2.1 ≤ 36) ∧ ∀ q ∈ x.2.1, q.2.2 ≤ 2
theorem rows_by {w : Nat} (h : goodS w ≠ 0) : 32 * rowsS w ≤ 12 * byS w := by
  obtain ⟨h1, h2, h3⟩ := good_parts h
  have h4 := rate_ge h3
  unfold rowsS byS bytesS
  rw [if_neg h2]
  by_cases q : layerS w = 1
  · rw [if_pos q, if_pos q]
    rcases samp_3 h2 with e | e | e <;> rw [e] <;> omega
  · rw [if_neg q, if_neg q]
    rcases samp_3 h2 with e | e | e <;> rw [e] <;> omega
theorem fd_good {T : Nat → Nat} {len : Nat} {x : SSt} (h : fdS T len x + 4 ≤ len) (h0 : x.1 ≤ len) : goodS (wdS T (fdS T len x)) ≠ 0 ∧ x.1 ≤ fdS T len x := by
  have k := fndS_le T (len - 3 - x.1) x.1
  unfold fdS at h ⊢
  exact ⟨fndS_good (len - 3 - x.1) x.1 (by omega), k.1⟩
theorem ocN_le (T : Nat → Nat) (at_ w : Nat) : ocN T at_ w ≤ 2 := rdoF_le _ _ _ _ _ _ _ _
theorem SOK_nx {T : Nat → Nat} {len : Nat} {x : SSt} (h : SOK len x) (h1 : fdS T len x + 4 ≤ len) (h2 : byS (wdS T (fdS T len x)) ≤ len - fdS T len x) : SOK len (nxS T (fdS T len x) (wdS T (fdS T len x)) x) := by
  obtain ⟨hg, hp⟩ := fd_good h1 h.1.1
  have hb := by_ge hg
  have hr := rows_by hg
  generalize wdS T (fdS T len x) = w at *
  generalize fdS T len x = a at *
  obtain ⟨⟨a1, a2⟩, a3, a4, a5, a6, a7, a8⟩ := h
  have hc := ch_le w
  have hr2 := rows_le w
  have ho := ocN_le T a w
  unfold nxS
  by_cases q : ocN T a w = 0
  · rw [if_pos q]
    refine ⟨⟨by show a + byS w ≤ len; omega, a2⟩, ?_, ?_, ?_, ?_, ⟨hc.2, hr2⟩, ?_⟩
    · show 32 * (x.2.1 ++ [(w, a, ocN T a w)]).length ≤ a + byS w
      rw [List.length_append]; show 32 * (x.2.1.length + 1) ≤ _; omega
    · show x.2.2.1 + 1 ≤ (x.2.1 ++ [(w, a, ocN T a w)]).length
      rw [List.length_append]; show _ ≤ x.2.1.length + 1; omega
    · show x.2.2.2.2.1.2.1 + 32 * rowsS w ≤ 12 * (a + byS w); omega
    · show (if chS w = 2 then vNx (ctN T a w).2.2.2.2 1 (rowsS w) x.2.2.2.2.2 else x.2.2.2.2.2).2.1 ≤ 12 * (a + byS w)
      split
      · show x.2.2.2.2.2.2.1 + 32 * rowsS w ≤ _; omega
      · omega
    · intro z hz
      rcases List.mem_append.mp hz with hz | hz
      · exact a8 z hz
      · rw [List.mem_singleton.mp hz]; exact ho
  · rw [if_neg q]
    refine ⟨⟨by show a + byS w ≤ len; omega, a2⟩, ?_, ?_, by show x.2.2.2.2.1.2.1 ≤ 12 * (a + byS w); omega, by show x.2.2.2.2.2.2.1 ≤ 12 * (a + byS w); omega, a7, ?_⟩
    · show 32 * (x.2.1 ++ [(w, a, ocN T a w)]).length ≤ a + byS w
      rw [List.length_append]; show 32 * (x.2.1.length + 1) ≤ _; omega
    · show x.2.2.1 ≤ (x.2.1 ++ [(w, a, ocN T a w)]).length
      rw [List.length_append]; show _ ≤ x.2.1.length + 1; omega
    · intro z hz
      rcases List.mem_append.mp hz with hz | hz
      · exact a8 z hz
      · rw [List.mem_singleton.mp hz]; exact ho
theorem SOK_st {T : Nat → Nat} {len : Nat} {x : SSt} (h : SOK len x) : SOK len (stS T len x) := by
  obtain ⟨⟨a1, a2⟩, a3, a4, a5, a6, a7, a8⟩ := h
  have hp : x.1 ≤ (stS T len x).1 ∧ (stS T len x).1 ≤ len := by
    show x.1 ≤ (if _ then _ else _) ∧ (if _ then _ else _) ≤ len
    by_cases q : fdS T len x + 4 ≤ len
    · rw [if_pos q]
      have := (fd_good q a1).2
      omega
    · rw [if_neg q]; omega
  exact ⟨⟨hp.2, a2⟩, by show 32 * x.2.1.length ≤ _; omega, a4, by show x.2.2.2.2.1.2.1 ≤ _; omega, by show x.2.2.2.2.2.2.1 ≤ _; omega, a7, a8⟩
theorem grow_ok {k n : Nat} (h : k ≤ 400) (hn : n ≤ 125) : k ≤ growS k n ∧ growS k n ≤ 400 := by
  unfold growS
  by_cases q : n = k
  · rw [if_pos q]
    by_cases z : k = 0
    · rw [if_pos z]; omega
    · rw [if_neg z]
      unfold growC
      omega
  · rw [if_neg q]; omega
theorem cap_ok {m r k : Nat} (h : k ≤ 96000) (hm : m + r * 32 ≤ 48000) : k ≤ capS m (r * 32) k ∧ capS m (r * 32) k ≤ 96000 := by
  unfold capS
  split <;> omega
theorem cx_ok {c m r k : Nat} (h : k ≤ 96000) (hm : m + r * 32 ≤ 48000) : k ≤ cxS c r m k ∧ cxS c r m k ≤ 96000 := by
  unfold cxS
  split
  · exact cap_ok h hm
  · omega
theorem cpN_ok {T : Nat → Nat} {len : Nat} {x : SSt} {k : CPS} (h : SOK len x) (hk : COK k) (h1 : fdS T len x + 4 ≤ len) (h2 : byS (wdS T (fdS T len x)) ≤ len - fdS T len x) : COK (cpN T (fdS T len x) (wdS T (fdS T len x)) x k) ∧ Phi k ≤ Phi (cpN T (fdS T len x) (wdS T (fdS T len x)) x k) := by
  obtain ⟨hg, hp⟩ := fd_good h1 h.1.1
  have hr := rows_by hg
  generalize wdS T (fdS T len x) = w at *
  generalize fdS T len x = a at *
  obtain ⟨⟨a1, a2⟩, a3, a4, a5, a6, a7, a8⟩ := h
  have k1 := grow_ok (n := x.2.1.length) hk.1 (by omega)
  have k2 := cap_ok (m := x.2.2.2.2.1.2.1) (r := rowsS w) hk.2.1 (by omega)
  have k3 := cx_ok (c := chS w) (m := x.2.2.2.2.2.2.1) (r := rowsS w) hk.2.2 (by omega)
  unfold cpN COK Phi
  dsimp only
  by_cases q : ocN T a w = 0
  · rw [if_pos q, if_pos q]
    exact ⟨⟨k1.2, k2.2, k3.2⟩, by omega⟩
  · rw [if_neg q, if_neg q]
    exact ⟨⟨k1.2, hk.2.1, hk.2.2⟩, by omega⟩
theorem decK_ok {T : Nat → Nat} {len : Nat} : ∀ (n : Nat) (x : SSt) (k : CPS), SOK len x → COK k → COK (decK T len n x k) ∧ Phi k ≤ Phi (decK T len n x k) := by
  intro n
  induction n with
  | zero => intro x k _ hk; exact ⟨hk, Nat.le_refl _⟩
  | succ n ih =>
    intro x k hx hk
    unfold decK
    by_cases q : fdS T len x + 4 ≤ len ∧ byS (wdS T (fdS T len x)) ≤ len - fdS T len x
    · rw [if_pos q]
      have a := cpN_ok hx hk q.1 q.2
      have b := ih _ _ (SOK_nx hx q.1 q.2) a.1
      exact ⟨b.1, Nat.le_trans a.2 b.2⟩
    · rw [if_neg q]; exact ⟨hk, Nat.le_refl _⟩
/-! what is answered -/
def frB (fs : List FrD) (y : Int32) (i : Nat) : Int32 := match fs[i]? with
  | some q => selX y 10 (tellS q.2.1 (layerS q.1) (rateS q.1) (sampS q.1) (byS q.1) (modeS q.1) (chS q.1) (boundS q.1) q.2.2) (-1)
  | none => -1
theorem frA_B (frs : List (Nat × FrD)) (y : Int32) : frA frs y = frB (frs.map (fun q => q.2)) y := by
  funext i
  unfold frA frB
  rw [List.getElem?_map]
  cases frs[i]? <;> rfl
theorem bandA_congr {dec kc kr : Nat} {sm sm2 : Nat → Int32} {x y z : Int32} (hk : kc ≤ 2) (hr : kr ≤ 36) (h : 0 < dec → ∀ c t b, c < kc → t < kr → b < 32 → sm ((c * 36 + t) * 32 + b) = sm2 ((c * 36 + t) * 32 + b)) : bandA dec kc kr sm x y z = bandA dec kc kr sm2 x y z := by
  unfold bandA
  by_cases q : (0 < dec ∧ (0 ≤ x.toInt ∧ x.toInt < kc) ∧ (0 ≤ y.toInt ∧ y.toInt < 32)) ∧ 0 ≤ z.toInt ∧ z.toInt < kr
  · rw [if_pos q, if_pos q]
    obtain ⟨c, hc, rfl, hce⟩ := nat_of (x := x) q.1.2.1.1
    obtain ⟨b, hb, rfl, hbe⟩ := nat_of (x := y) q.1.2.2.1
    obtain ⟨t, ht, rfl, hte⟩ := nat_of (x := z) q.2.1
    rw [hce, hbe, hte] at q
    rw [nI_clamp hc, nI_clamp hb, nI_clamp ht]
    exact h q.1.1 c t b (by omega) (by omega) (by omega)
  · rw [if_neg q, if_neg q]
theorem stepA_congr {dec kc : Nat} {st st2 : Nat → Nat} {x y : Int32} (h : 0 < dec → ∀ c b, c < kc → b < 32 → st (c * 32 + b) = st2 (c * 32 + b)) : stepA dec kc st x y = stepA dec kc st2 x y := by
  unfold stepA
  by_cases q : 0 < dec ∧ (0 ≤ x.toInt ∧ x.toInt < kc) ∧ (0 ≤ y.toInt ∧ y.toInt < 32)
  · rw [if_pos q, if_pos q]
    obtain ⟨c, hc, rfl, hce⟩ := nat_of (x := x) q.2.1.1
    obtain ⟨b, hb, rfl, hbe⟩ := nat_of (x := y) q.2.2.1
    rw [hce, hbe] at q
    rw [nI_clamp hc, nI_clamp hb, h q.1 c b (by omega) (by omega)]
  · rw [if_neg q, if_neg q]
theorem factA_congr {dec kc : Nat} {st st2 fa fa2 : Nat → Nat} {x y z : Int32} (h : 0 < dec → ∀ c b, c < kc → b < 32 → st (c * 32 + b) = st2 (c * 32 + b)) (h2 : 0 < dec → ∀ c b k, c < kc → b < 32 → k < 3 → st (c * 32 + b) ≠ 0 → fa ((c * 32 + b) * 3 + k) = fa2 ((c * 32 + b) * 3 + k)) : factA dec kc st fa x y z = factA dec kc st2 fa2 x y z := by
  unfold factA
  by_cases q : (0 < dec ∧ (0 ≤ x.toInt ∧ x.toInt < kc) ∧ (0 ≤ y.toInt ∧ y.toInt < 32)) ∧ (0 ≤ z.toInt ∧ z.toInt < 3)
  · obtain ⟨c, hc, rfl, hce⟩ := nat_of (x := x) q.1.2.1.1
    obtain ⟨b, hb, rfl, hbe⟩ := nat_of (x := y) q.1.2.2.1
    obtain ⟨k, hk, rfl, hke⟩ := nat_of (x := z) q.2.1
    rw [nI_clamp hc, nI_clamp hb, nI_clamp hk]
    have q2 := q
    rw [hce, hbe, hke] at q2
    have e := h q2.1.1 c b (by omega) (by omega)
    by_cases w : st (c * 32 + b) = 0
    · rw [if_neg (fun v => v.2.2 w), if_neg (fun v => v.2.2 (by rw [← e]; exact w))]
    · rw [if_pos ⟨q.1, q.2, w⟩, if_pos ⟨q.1, q.2, by rw [← e]; exact w⟩, h2 q2.1.1 c b k (by omega) (by omega) (by omega) w]
  · rw [if_neg (fun v => q ⟨v.1, v.2.1⟩), if_neg (fun v => q ⟨v.1, v.2.1⟩)]
theorem selX_congr {y : Int32} {n : Nat} {f f2 : Nat → Int32} {d : Int32} (h : ∀ j, j < n → f j = f2 j) : selX y n f d = selX y n f2 d := by
  unfold selX
  by_cases q : 0 ≤ y.toInt ∧ y.toInt < n
  · rw [if_pos q, if_pos q]
    obtain ⟨c, hc, rfl, hce⟩ := nat_of (x := y) q.1
    rw [hce] at q
    rw [nI_clamp hc]
    exact h c (by omega)
  · rw [if_neg q, if_neg q]
theorem pcmA_congr {m1 m2 : Nat} {a b a2 b2 : Nat → Int32} {x y : Int32} (h : ∀ j, j < m1 → a j = a2 j) (h2 : ∀ j, j < m2 → b j = b2 j) : pcmA m1 m2 a b x y = pcmA m1 m2 a2 b2 x y := by
  unfold pcmA
  rw [selX_congr h, selX_congr h2]
theorem sum1_congr {m : Nat} {a a2 : Nat → Int32} {y z : Int32} (h : ∀ j, j < m → a j = a2 j) : sum1 m a y z = sum1 m a2 y z := by
  unfold sum1
  by_cases q : 0 ≤ y.toInt ∧ 0 ≤ z.toInt ∧ z.toInt ≤ y.toInt + 2000
  · rw [if_pos q, if_pos q]
    apply lp_congr
    intro i s hi
    unfold wsF
    rw [h _ (by omega)]
  · rw [if_neg q, if_neg q]
theorem sumA_congr {m1 m2 : Nat} {a b a2 b2 : Nat → Int32} {x y z : Int32} (h : ∀ j, j < m1 → a j = a2 j) (h2 : ∀ j, j < m2 → b j = b2 j) : sumA m1 m2 a b x y z = sumA m1 m2 a2 b2 x y z := by
  unfold sumA
  rw [sum1_congr h, sum1_congr h2]
theorem memA_congr {nw nw2 : Nat} {num num2 a b : Nat → Int32} {x y : Int32} (h : RV (nw, num) a) (h2 : RV (nw2, num2) b) : memA nw nw2 num num2 x y = pcmA 1024 1024 a b x y := by
  unfold memA pcmA
  rw [selX_congr (f := fun i => num ((nw + i) % 1024)) (f2 := a) (fun j hj => h.2 j hj), selX_congr (f := fun i => num2 ((nw2 + i) % 1024)) (f2 := b) (fun j hj => h2.2 j hj)]
/-! worlds in another order -/
theorem pmA {E E1 E2 tl : va_W} (n : Nat) (hn : E.length = n) (is : List Nat) (hp : is.isPerm (List.range n) = true) (hs : is.map (fun i => E[i]?) = (E1 ++ E2).map some) : (E ++ tl).Perm (E1 ++ (E2 ++ tl)) := by
  subst hn
  rw [← List.append_assoc]
  exact List.Perm.append_right tl (isp is hp hs)
theorem pmB {E E1 E2 tl : va_W} (n : Nat) (hn : E.length = n) (is : List Nat) (hp : is.isPerm (List.range n) = true) (hs : is.map (fun i => E[i]?) = (E1 ++ E2).map some) : (E ++ tl).Perm ((E1 ++ tl) ++ E2) := by
  refine (pmA n hn is hp hs).trans ?_
  rw [List.append_assoc]
  exact List.Perm.append_left E1 List.perm_append_comm
theorem pmC {E E1 E2 : va_W} {bs b1 b2 : List va_W} (n : Nat) (hn : E.length = n) (is : List Nat) (hp : is.isPerm (List.range n) = true) (hs : is.map (fun i => E[i]?) = (E1 ++ E2).map some) (n2 : Nat) (hn2 : bs.length = n2) (is2 : List Nat) (hp2 : is2.isPerm (List.range n2) = true) (hs2 : is2.map (fun i => bs[i]?) = (b1 ++ b2).map some) : (E ++ bs.flatten).Perm ((E1 ++ b1.flatten) ++ (E2 ++ b2.flatten)) := by
  subst hn
  subst hn2
  have k1 := isp is hp hs
  have k2 := (isp is2 hp2 hs2).flatten
  rw [List.flatten_append] at k2
  refine (List.Perm.append k1 k2).trans ?_
  rw [List.append_assoc, List.append_assoc]
  refine List.Perm.append_left E1 ?_
  rw [← List.append_assoc, ← List.append_assoc]
  exact List.Perm.append_right b2.flatten List.perm_append_comm
