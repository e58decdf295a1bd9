theorem lt0 {x : Int32} : x < 0 ↔ x.toInt < 0 := by
  rw [Int32.lt_iff_toInt_lt]
  rfl
theorem nle {x : Int32} {n : Nat} (hn : n < 2 ^ 31) : nI n ≤ x ↔ (n : Int) ≤ x.toInt := by rw [Int32.le_iff_toInt_le, nI_toInt hn]
theorem len_ {x : Int32} {n : Nat} (hn : n < 2 ^ 31) : x ≤ nI n ↔ x.toInt ≤ n := by rw [Int32.le_iff_toInt_le, nI_toInt hn]
theorem ltn {x : Int32} {n : Nat} (hn : n < 2 ^ 31) : x < nI n ↔ x.toInt < n := by rw [Int32.lt_iff_toInt_lt, nI_toInt hn]
theorem nlt {x : Int32} {n : Nat} (hn : n < 2 ^ 31) : nI n < x ↔ (n : Int) < x.toInt := by rw [Int32.lt_iff_toInt_lt, nI_toInt hn]
theorem nat_of {x : Int32} (h : 0 ≤ x.toInt) : ∃ j : Nat, j < 2 ^ 31 ∧ x = nI j ∧ x.toInt = j := by
  obtain ⟨j, hj, rfl⟩ := nI_of (x := x) (fun q => by rw [lt0] at q; omega)
  exact ⟨j, hj, rfl, nI_toInt hj⟩
theorem word_of (x : Int32) : ∃ n : Nat, n < 2 ^ 32 ∧ x = nI n := ⟨x.toBitVec.toNat, x.toBitVec.isLt, by
  apply Int32.toBitVec_inj.mp
  show x.toBitVec = BitVec.ofNat 32 x.toBitVec.toNat
  simp⟩
/-! the TAPE -/
def putW (T : Nat → Nat) (len w : Nat) : Nat → Nat := updN (updN (updN (updN T len (w / 16777216)) (len + 1) (w / 65536 % 256)) (len + 2) (w / 256 % 256)) (len + 3) (w % 256)
theorem putW_lt {T : Nat → Nat} {len w : Nat} (h : ∀ j, T j < 256) (hw : w < 2 ^ 32) : ∀ j, putW T len w j < 256 :=
  updP (P := fun v => v < 256) (updP (P := fun v => v < 256) (updP (P := fun v => v < 256) (updP (P := fun v => v < 256) h (by omega)) (by omega)) (by omega)) (by omega)
def feedT (T : Nat → Nat) (len a b c d e : Nat) : Nat → Nat := putW (putW (putW (putW (putW T len a) (len + 4) b) (len + 8) c) (len + 12) d) (len + 16) e
def endC (x : Int32) (pl len : Nat) : Option Nat := if (pl : Int) ≤ x.toInt ∧ x.toInt ≤ len then some x.toInt.toNat else none
def setC (x : Int32) (pl len : Nat) : Option Nat := if (pl : Int) ≤ x.toInt ∧ x.toInt < len then some x.toInt.toNat else none
def optI (o : Option Nat) : Int32 := match o with | some j => nI j | none => -1
def setT (T : Nat → Nat) (o : Option Nat) (b : Nat) : Nat → Nat := match o with | some j => updN T j b | none => T
def hbS (dec kc : Nat) (x y : Int32) : Nat := if 0 < dec ∧ (0 ≤ x.toInt ∧ x.toInt < kc) ∧ (0 ≤ y.toInt ∧ y.toInt < 32) then 1 else 0
theorem hbS_le (dec kc : Nat) (x y : Int32) : hbS dec kc x y ≤ 1 := by unfold hbS; split <;> omega
theorem hbS_pos {dec kc : Nat} {x y : Int32} (h : 0 < hbS dec kc x y) : 0 < dec ∧ (0 ≤ x.toInt ∧ x.toInt < kc) ∧ (0 ≤ y.toInt ∧ y.toInt < 32) := by
  unfold hbS at h
  split at h
  · assumption
  · omega
theorem hbS_0 {dec kc : Nat} {x y : Int32} (h : hbS dec kc x y = 0) : ¬ (0 < dec ∧ (0 ≤ x.toInt ∧ x.toInt < kc) ∧ (0 ≤ y.toInt ∧ y.toInt < 32)) := by
  intro q
  unfold hbS at h
  rw [if_pos q] at h
  omega
def bandA (dec kc kr : Nat) (sm : Nat → Int32) (x y z : Int32) : Int32 := if (0 < dec ∧ (0 ≤ x.toInt ∧ x.toInt < kc) ∧ (0 ≤ y.toInt ∧ y.toInt < 32)) ∧ 0 ≤ z.toInt ∧ z.toInt < kr then sm ((x.toNatClampNeg * 36 + z.toNatClampNeg) * 32 + y.toNatClampNeg) else 0
def stepA (dec kc : Nat) (st : Nat → Nat) (x y : Int32) : Int32 := if 0 < dec ∧ (0 ≤ x.toInt ∧ x.toInt < kc) ∧ (0 ≤ y.toInt ∧ y.toInt < 32) then nI (st (x.toNatClampNeg * 32 + y.toNatClampNeg)) else -1
def factA (dec kc : Nat) (st fa : Nat → Nat) (x y z : Int32) : Int32 := if (0 < dec ∧ (0 ≤ x.toInt ∧ x.toInt < kc) ∧ (0 ≤ y.toInt ∧ y.toInt < 32)) ∧ (0 ≤ z.toInt ∧ z.toInt < 3) ∧ st (x.toNatClampNeg * 32 + y.toNatClampNeg) ≠ 0 then nI (fa ((x.toNatClampNeg * 32 + y.toNatClampNeg) * 3 + z.toNatClampNeg)) else -1
def pcmA (md md2 : Nat) (sm sm2 : Nat → Int32) (x y : Int32) : Int32 := if x = 0 then selX y md sm 0 else if x = nI 1 then selX y md2 sm2 0 else 0
def memA (nw nw2 : Nat) (num num2 : Nat → Int32) (x y : Int32) : Int32 := if x = 0 then selX y 1024 (fun i => num ((nw + i) % 1024)) 0 else if x = nI 1 then selX y 1024 (fun i => num2 ((nw2 + i) % 1024)) 0 else 0
def sum1 (md : Nat) (sm : Nat → Int32) (y z : Int32) : Int32 := if 0 ≤ y.toInt ∧ 0 ≤ z.toInt ∧ z.toInt ≤ y.toInt + 2000 then lp (wsF sm y.toNatClampNeg) (min z.toNatClampNeg md - y.toNatClampNeg) 0 else 0
def sumA (md md2 : Nat) (sm sm2 : Nat → Int32) (x y z : Int32) : Int32 := if x = 0 then sum1 md sm y z else if x = nI 1 then sum1 md2 sm2 y z else 0
def countA (len pl nf dec md md2 : Nat) : Nat → Int32 := fun k => nI (match k with | 0 => len | 1 => pl | 2 => nf | 3 => dec | 4 => md | _ => md2)
/-- four bytes as a word -/
def wdS (T : Nat → Nat) (at_ : Nat) : Nat := T at_ * 16777216 + T (at_ + 1) * 65536 + T (at_ + 2) * 256 + T (at_ + 3)
theorem wdS_lt {T : Nat → Nat} (h : ∀ j, T j < 256) (a : Nat) : wdS T a < 2 ^ 32 := by
  unfold wdS
  have := h a; have := h (a + 1); have := h (a + 2); have := h (a + 3)
  omega
theorem or_sum (a k b : Nat) (h : b < 2 ^ k) : nI (a * 2 ^ k) ||| nI b = nI (a * 2 ^ k + b) := by
  rw [nI_or]
  congr 1
  have e := Nat.shiftLeft_add_eq_or_of_lt h a
  rw [Nat.shiftLeft_eq] at e
  exact e.symm
theorem wd_or {a b c d : Nat} (hb : b < 256) (hc : c < 256) (hd : d < 256) : ((nI (a * 16777216) ||| nI (b * 65536)) ||| nI (c * 256)) ||| nI d = nI (a * 16777216 + b * 65536 + c * 256 + d) := by
  have e1 := or_sum a 24 (b * 65536) (by omega)
  rw [show a * 2 ^ 24 = a * 16777216 from rfl] at e1
  rw [e1]
  have e2 := or_sum (a * 256 + b) 16 (c * 256) (by omega)
  rw [show (a * 256 + b) * 2 ^ 16 = a * 16777216 + b * 65536 by omega] at e2
  rw [e2]
  have e3 := or_sum (a * 65536 + b * 256 + c) 8 d (by omega)
  rw [show (a * 65536 + b * 256 + c) * 2 ^ 8 = a * 16777216 + b * 65536 + c * 256 by omega] at e3
  rw [e3]
/-- the first place from p on, within n places, where a GOOD HEADER stands: p + n without one -/
def fndS (T : Nat → Nat) (p : Nat) : Nat → Nat
  | 0 => p
  | n + 1 => if goodS (wdS T p) = 0 then fndS T (p + 1) n else p
theorem fndS_le (T : Nat → Nat) : ∀ (n p : Nat), p ≤ fndS T p n ∧ fndS T p n ≤ p + n := by
  intro n
  induction n with
  | zero => intro p; exact ⟨Nat.le_refl _, Nat.le_refl _⟩
  | succ n ih =>
    intro p
    unfold fndS
    split
    · have := ih (p + 1); omega
    · omega
theorem fndS_skip {T : Nat → Nat} {p n i : Nat} (hi : i ≤ n) (h : ∀ j, j < i → goodS (wdS T (p + j)) = 0) : fndS T p n = fndS T (p + i) (n - i) := by
  induction i with
  | zero => rfl
  | succ i ih =>
    rw [ih (by omega) (fun j hj => h j (by omega))]
    obtain ⟨m, hm⟩ : ∃ m, n - i = m + 1 := ⟨n - i - 1, by omega⟩
    rw [hm, show n - (i + 1) = m by omega]
    show (if goodS (wdS T (p + i)) = 0 then fndS T (p + i + 1) m else p + i) = _
    rw [if_pos (h i (by omega))]
    rfl
theorem fndS_hit {T : Nat → Nat} {p n : Nat} (hn : 0 < n) (h : goodS (wdS T p) ≠ 0) : fndS T p n = p := by
  obtain ⟨m, rfl⟩ : ∃ m, n = m + 1 := ⟨n - 1, by omega⟩
  show (if goodS (wdS T p) = 0 then fndS T (p + 1) m else p) = p
  rw [if_neg h]
theorem fndS_none {T : Nat → Nat} {p n : Nat} (h : ∀ j, j < n → goodS (wdS T (p + j)) = 0) : fndS T p n = p + n := by
  rw [fndS_skip (Nat.le_refl n) h, Nat.sub_self]
  rfl
theorem narZ {n : Nat} (h : n ≤ 1) : narrow .boolean (.int (nI n)) = .int (nI n) := by
  rcases (show n = 0 ∨ n = 1 by omega) with rfl | rfl <;> decide
theorem fitZ {n : Nat} (h : n ≤ 1) : fits .boolean (.int (nI n)) = true := by
  rcases (show n = 0 ∨ n = 1 by omega) with rfl | rfl <;> decide
theorem i64_of (x : Int32) : x.toInt64.toInt = x.toInt := Int32.toInt_toInt64 x
theorem lgc {a b : Int64} : lg_cmp a b ≤ 0 ↔ a ≤ b := by
  unfold lg_cmp
  by_cases h : a > b
  · rw [if_pos h]
    exact ⟨fun q => absurd q (by decide), fun q => absurd (Int64.lt_of_lt_of_le h q) (Int64.lt_irrefl)⟩
  · rw [if_neg h]
    have h2 : a ≤ b := Int64.not_lt.mp h
    by_cases e : a = b
    · rw [if_pos e]; exact ⟨fun _ => h2, fun _ => by decide⟩
    · rw [if_neg e]; exact ⟨fun _ => h2, fun _ => by decide⟩
theorem i64_2000 (y : Int32) : (y.toInt64 + 2000).toInt = y.toInt + 2000 := by
  have h1 := y.minValue_le_toInt
  have h2 := y.toInt_lt
  rw [Int64.toInt_add, i64_of]
  have e : (2000 : Int64).toInt = 2000 := by decide
  rw [e]
  have h3 : Int32.minValue.toInt = -2147483648 := by decide
  rw [h3] at h1
  apply Int.bmod_eq_of_le <;> omega
theorem sumcmp {y z : Int32} : lg_cmp z.toInt64 (y.toInt64 + 2000) ≤ 0 ↔ z.toInt ≤ y.toInt + 2000 := by
  rw [lgc, Int64.le_iff_toInt_le, i64_2000, i64_of]
theorem Wd.perm {g : GT} {A : Nat → Prop} {H0 : Heap} {a b : va_W} {H : Heap} {locs : List Loc} (h : a.Perm b) (hw : Wd g A H0 a H locs) : Wd g A H0 b H locs := by
  have hP : ∀ q ∈ a, va_at g.1 cls9 q H := fun q hq => by obtain ⟨k, hk⟩ := List.getElem?_of_mem hq; exact hw.1 k q hk
  have hA : ∀ q ∈ a, A q.1 := fun q hq => by obtain ⟨k, hk⟩ := List.getElem?_of_mem hq; exact hw.2.1.2 k q hk
  have hN : (a.map (fun q => q.1)).Nodup := by
    refine List.pairwise_iff_getElem.mpr (fun i j hi hj hij he => ?_)
    rw [List.length_map] at hi hj
    rw [List.getElem_map, List.getElem_map] at he
    have := hw.2.1.1 i j a[i] a[j] (List.getElem?_eq_getElem hi) (List.getElem?_eq_getElem hj) he
    omega
  have hN2 : (b.map (fun q => q.1)).Nodup := (h.map _).nodup_iff.mp hN
  have key : ∀ (i j : Nat) (x y : Nat × va_E), i < j → b[i]? = some x → b[j]? = some y → x.1 ≠ y.1 := by
    intro i j x y hij hi hj
    obtain ⟨li, ei⟩ := List.getElem?_eq_some_iff.mp hi
    obtain ⟨lj, ej⟩ := List.getElem?_eq_some_iff.mp hj
    have h9 := List.pairwise_iff_getElem.mp hN2 i j (by rw [List.length_map]; exact li) (by rw [List.length_map]; exact lj) hij
    rw [List.getElem_map, List.getElem_map, ei, ej] at h9
    exact h9
  refine ⟨fun k q hk => hP q (h.mem_iff.mpr (List.mem_of_getElem? hk)), ⟨fun i j x y hi hj e => ?_, fun k q hk => hA q (h.mem_iff.mpr (List.mem_of_getElem? hk))⟩, hw.2.2⟩
  rcases Nat.lt_trichotomy i j with q | q | q
  · exact absurd e (key i j x y q hi hj)
  · exact q
  · exact absurd e.symm (key j i y x q hj hi)
section NE
variable {p : Program} {l : Launch} {e : Env} {R : Room} {s : State} {m : MethodId} {args : Array Value} {below : List Frame} {meth : Method} {c : Code} {H : Heap} {locs : List Loc} {cells slots : Nat} {Q : State → Prop}
variable {cc : ByteArray} {pc : Nat} {ls : Array Slot} {rest st0 : List Value} {g : GT} {A : Nat → Prop} {b : Nat} {nL : Nat} {ret : Option FieldType} {Ts : List Cond} {own host : String}
variable {y : MethodName} {bytes : ByteArray} {maxL mc ms n index : Nat} {rty : Option FieldType} {wy : List Cond} {rm : Room} {w wr : va_W} {B : State → Prop} {As : List Value}
theorem kN_Iv {Post : va_W → Prop} (C : Cx p s m args meth c cc nL ret Ts own g A) (hw : Wd g A s.heap (w ++ wr) H locs) (hM : CtV l g y wy rm (.ref b :: As) w H.size B Post mc ms) (cw : va_CN R s args own index y host bytes maxL none wy rm mc ms n ∧ y.name = "<init>" ∧ (Cond.instanceMethod y).before args s = true) (hBb : Bl B) (hB : ∀ U : State, U.heap = H → s.WarmedH U.vm → B U)
    (hlen : As.length = n) (hsize : ls.size = nL) (hst : st0 = As.reverse ++ .ref b :: rest) (hro : (rest.map fun v => v.category).sum ≤ 8) (hdg : decode cc pc = .ok (.invokespecial index, 3)) (hf : cells + mc ≤ R.cells ∧ slots + ms ≤ R.slots)
    (kk : ∀ (u : va_W) (H1 : Heap) (locs1 : List Loc), Post u → Wd g A s.heap (u ++ wr) H1 locs1 → W p l e R s m args below meth c H1 locs1 (cells + mc) (slots + ms) Q (F0 m (pc + 3) ls rest)) : W p l e R s m args below meth c H locs cells slots Q (F0 m pc ls st0) := by
  subst hst
  have hF := wd_freeP (ws := []) C hw
  exact va_callv (va_runIN (As := As) (rest := rest) ⟨C.1, C.2.1, C.2.2.1, C.2.2.2.1, C.2.2.2.2.1⟩ hM cw ⟨pre0_blind hBb, wd_preP C hw hB⟩ rfl hlen hsize rfl (lv_room hro) hdg hf) hw.2.2 (fun q _ h => hF q h) hF (fun u t H1 locs1 ht hvm hp hB hz hk hS => kk u H1 locs1 hp (wd_joinP hw hF ht hB hk hS))
theorem r_castF {ws : va_W} {a : Nat} (C : Cx p s m args meth c cc nL ret Ts own g A) (hw : Wd g A s.heap ws H locs) (q0 : Nat) {fs : List Value} (he : ws[q0]? = some (a, .inr (2, fs))) {index : Nat} (hlink : (Cond.classLink own index RX2).before args s = true) (hdg : decode cc pc = .ok (.checkcast index, 3))
    (k : W p l e R s m args below meth c H locs cells slots Q (F0 m (pc + 3) ls (.ref a :: rest))) : W p l e R s m args below meth c H locs cells slots Q (F0 m pc ls (.ref a :: rest)) :=
  va_castS C.1 C.2.1 C.2.2.2.1 hlink (C.2.2.2.2.2.1.1 2 (RX2, TX2, 12) rfl).2 (va_recv C.2.2.2.2.2.1 hw.1 (ci := 2) (q := (RX2, TX2, 12)) rfl he) hdg k
end NE
/-- the tail's second part is forgotten -/
theorem Wd.dropT {g : GT} {A : Nat → Prop} {H0 : Heap} {E a b : va_W} {H : Heap} {locs : List Loc} (hw : Wd g A H0 (E ++ (a ++ b)) H locs) : Wd g A H0 (E ++ (a ++ [])) H locs := by
  rw [← List.append_assoc] at hw
  rw [List.append_nil]
  exact hw.app_l
theorem fpl_nil : fpl [] = [] := rfl
/-- a new frame's cell goes among the pooled ones -/
theorem Wd.pool {g : GT} {A : Nat → Prop} {H0 : Heap} {E a : va_W} {frs : List (Nat × FrD)} {x : Nat} {xd : FrD} {H : Heap} {locs : List Loc} (hw : Wd g A H0 ((E ++ [(x, .inr (2, frL xd))]) ++ (a ++ fpl frs)) H locs) : Wd g A H0 (E ++ (a ++ fpl (frs ++ [(x, xd)]))) H locs := by
  have h := hw.swT
  rw [fpl_add]
  rw [List.append_assoc E, List.append_assoc a] at h
  exact h
