/-! the reference's ground: bytes, grids of rows, blocks of a world, contracts over a larger world -/
def nB (x : Nat) : Int32 := (nI x).toInt8.toInt32
theorem nB_bit {x s : Nat} (hx : x < 256) (hs : s < 8) : (nB x >>> (nI s &&& 31)) &&& nI 1 = nI (x / 2 ^ s % 2) :=
  (by decide +kernel : ∀ (x : Fin 256) (s : Fin 8), (nB x.val >>> (nI s.val &&& 31)) &&& nI 1 = nI (x.val / 2 ^ s.val % 2)) ⟨x, hx⟩ ⟨s, hs⟩
theorem nB_and {x : Nat} (hx : x < 256) : nB x &&& nI 255 = nI x := (by decide +kernel : ∀ x : Fin 256, nB x.val &&& nI 255 = nI x.val) ⟨x, hx⟩
theorem nB_fits (x : Nat) : (nB x).toInt8.toInt32 = nB x := by
  unfold nB
  rw [Int8.toInt8_toInt32]
theorem nB_of (x : Int32) (y : Nat) (h : ∀ i, i < 8 → x.toBitVec.getLsbD i = y.testBit i) : x.toInt8.toInt32 = nB (y % 256) := by
  unfold nB
  congr 1
  apply Int8.toBitVec_inj.mp
  show x.toBitVec.signExtend 8 = (BitVec.ofNat 32 (y % 256)).signExtend 8
  rw [BitVec.signExtend_eq_setWidth_of_le _ (by omega), BitVec.signExtend_eq_setWidth_of_le _ (by omega)]
  apply BitVec.eq_of_getLsbD_eq
  intro i hi
  rw [BitVec.getLsbD_setWidth, BitVec.getLsbD_setWidth, h i hi, BitVec.getLsbD_ofNat, show (256 : Nat) = 2 ^ 8 from rfl, Nat.testBit_mod_two_pow]
  simp [hi, show i < 32 by omega]
theorem nB_shr24 (w : Nat) : ((nI w) >>> (nI 24 &&& 31)).toInt8.toInt32 = nB (w / 16777216 % 256) := by
  refine nB_of _ _ (fun i hi => ?_)
  show ((BitVec.ofNat 32 w).sshiftRight 24).getLsbD i = _
  rw [BitVec.getLsbD_sshiftRight, BitVec.getLsbD_ofNat, show (16777216 : Nat) = 2 ^ 24 from rfl, ← Nat.shiftRight_eq_div_pow, Nat.testBit_shiftRight]
  simp [show ¬ 32 ≤ i by omega, show 24 + i < 32 by omega]
theorem nB_shr16 (w : Nat) : ((nI w) >>> (nI 16 &&& 31)).toInt8.toInt32 = nB (w / 65536 % 256) := by
  refine nB_of _ _ (fun i hi => ?_)
  show ((BitVec.ofNat 32 w).sshiftRight 16).getLsbD i = _
  rw [BitVec.getLsbD_sshiftRight, BitVec.getLsbD_ofNat, show (65536 : Nat) = 2 ^ 16 from rfl, ← Nat.shiftRight_eq_div_pow, Nat.testBit_shiftRight]
  simp [show ¬ 32 ≤ i by omega, show 16 + i < 32 by omega]
theorem nB_shr8 (w : Nat) : ((nI w) >>> (nI 8 &&& 31)).toInt8.toInt32 = nB (w / 256 % 256) := by
  refine nB_of _ _ (fun i hi => ?_)
  show ((BitVec.ofNat 32 w).sshiftRight 8).getLsbD i = _
  rw [BitVec.getLsbD_sshiftRight, BitVec.getLsbD_ofNat, show (256 : Nat) = 2 ^ 8 from rfl, ← Nat.shiftRight_eq_div_pow, Nat.testBit_shiftRight]
  simp [show ¬ 32 ≤ i by omega, show 8 + i < 32 by omega]
theorem nB_shr0 (w : Nat) : ((nI w) >>> (nI 0 &&& 31)).toInt8.toInt32 = nB (w % 256) := by
  refine nB_of _ _ (fun i hi => ?_)
  show ((BitVec.ofNat 32 w).sshiftRight 0).getLsbD i = _
  rw [BitVec.getLsbD_sshiftRight, BitVec.getLsbD_ofNat]
  simp [show ¬ 32 ≤ i by omega, show i < 32 by omega]
theorem nB_low (w : Nat) : (nI w).toInt8.toInt32 = nB (w % 256) := by
  refine nB_of _ _ (fun i hi => ?_)
  show (BitVec.ofNat 32 w).getLsbD i = _
  rw [BitVec.getLsbD_ofNat]
  simp [show i < 32 by omega]
theorem updB (T : Nat → Nat) (k x : Nat) : upd (fun j => nB (T j)) k ((nB x).toInt8.toInt32) = fun j => nB (updN T k x j) := by
  rw [nB_fits]
  funext j
  unfold upd updN
  split <;> rfl
def ptr (n : Nat) (r : Nat → Nat) : Nat → Option Nat := fun i => if i < n then some (r i) else none
theorem ptr_at {n i : Nat} (r : Nat → Nat) (h : i < n) : ptr n r i = some (r i) := if_pos h
def grd (g : GT) (r : Nat → Nat) (n k : Nat) (M : Nat → Nat → Int32) : va_W := (List.range n).map (fun i => (r i, aI g k (M i)))
def pgr (g : GT) (q : Nat → Nat) (n k : Nat) (R : Nat → Nat → Nat) : va_W := (List.range n).map (fun i => (q i, aII g k (ptr k (R i))))
def upd2 (M : Nat → Nat → Int32) (i j : Nat) (x : Int32) : Nat → Nat → Int32 := fun a => if a = i then upd (M i) j x else M a
def updN2 (F : Nat → Nat → Nat) (i j x : Nat) : Nat → Nat → Nat := fun a => if a = i then updN (F i) j x else F a
def mN (F : Nat → Nat → Nat) : Nat → Nat → Int32 := fun i j => nI (F i j)
theorem upd2_N (F : Nat → Nat → Nat) (i j x : Nat) : upd2 (mN F) i j (nI x) = mN (updN2 F i j x) := by
  funext a b
  unfold upd2 updN2 mN
  dsimp only
  by_cases h : a = i
  · subst h
    rw [if_pos rfl, if_pos rfl]
    unfold upd updN
    split <;> rfl
  · rw [if_neg h, if_neg h]
theorem updN2_at (F : Nat → Nat → Nat) (i j x a b : Nat) : updN2 F i j x a b = if a = i ∧ b = j then x else F a b := by
  unfold updN2
  by_cases h : a = i
  · subst h
    rw [if_pos rfl]
    unfold updN
    by_cases h2 : b = j
    · rw [if_pos h2, if_pos ⟨rfl, h2⟩]
    · rw [if_neg h2, if_neg (fun q => h2 q.2)]
  · rw [if_neg h, if_neg (fun q => h q.1)]
theorem upd2_at (F : Nat → Nat → Int32) (i j : Nat) (x : Int32) (a b : Nat) : upd2 F i j x a b = if a = i ∧ b = j then x else F a b := by
  unfold upd2
  by_cases h : a = i
  · subst h
    rw [if_pos rfl]
    unfold upd
    by_cases h2 : b = j
    · rw [if_pos h2, if_pos ⟨rfl, h2⟩]
    · rw [if_neg h2, if_neg (fun q => h2 q.2)]
  · rw [if_neg h, if_neg (fun q => h q.1)]
theorem grd_at {g : GT} {r : Nat → Nat} {n k i : Nat} {M : Nat → Nat → Int32} (h : i < n) : (grd g r n k M)[i]? = some (r i, aI g k (M i)) := by
  unfold grd
  rw [List.getElem?_map, List.getElem?_range h]
  rfl
theorem pgr_at {g : GT} {q : Nat → Nat} {n k i : Nat} {R : Nat → Nat → Nat} (h : i < n) : (pgr g q n k R)[i]? = some (q i, aII g k (ptr k (R i))) := by
  unfold pgr
  rw [List.getElem?_map, List.getElem?_range h]
  rfl
theorem grd_len (g : GT) (r : Nat → Nat) (n k : Nat) (M : Nat → Nat → Int32) : (grd g r n k M).length = n := by unfold grd; rw [List.length_map, List.length_range]
theorem grd_set {g : GT} {r : Nat → Nat} {n k i j : Nat} {x : Int32} {M : Nat → Nat → Int32} (h : i < n) : (grd g r n k M).set i (r i, aI g k (upd (M i) j x)) = grd g r n k (upd2 M i j x) := by
  apply List.ext_getElem?
  intro q
  rw [List.getElem?_set, grd_len]
  by_cases e : i = q
  · subst e
    rw [if_pos rfl, if_pos h, grd_at h]
    unfold upd2
    rw [if_pos rfl]
  · rw [if_neg e]
    by_cases hq : q < n
    · rw [grd_at hq, grd_at hq]
      unfold upd2
      rw [if_neg (fun z => e z.symm)]
    · rw [List.getElem?_eq_none (by rw [grd_len]; omega), List.getElem?_eq_none (by rw [grd_len]; omega)]
theorem grdN_set {g : GT} {r : Nat → Nat} {n k i j x : Nat} {F : Nat → Nat → Nat} (h : i < n) : (grd g r n k (mN F)).set i (r i, aI g k (upd (mN F i) j (nI x))) = grd g r n k (mN (updN2 F i j x)) := by
  rw [grd_set h, upd2_N]
theorem at_l {A B : va_W} {i : Nat} {x : Nat × va_E} (h : A[i]? = some x) : (A ++ B)[i]? = some x := by
  rw [List.getElem?_append_left (List.getElem?_eq_some_iff.mp h).1]; exact h
theorem at_r {A B : va_W} {i : Nat} {x : Nat × va_E} (h : B[i]? = some x) : (A ++ B)[A.length + i]? = some x := by
  rw [List.getElem?_append_right (by omega), Nat.add_sub_cancel_left]; exact h
theorem set_l {A A' B : va_W} {i : Nat} {v x : Nat × va_E} (h0 : A[i]? = some x) (h : A.set i v = A') : (A ++ B).set i v = A' ++ B := by
  rw [List.set_append_left i v (List.getElem?_eq_some_iff.mp h0).1, h]
theorem set_r {A B B' : va_W} {i : Nat} {v : Nat × va_E} (h : B.set i v = B') : (A ++ B).set (A.length + i) v = A ++ B' := by
  rw [List.set_append_right (A.length + i) v (by omega), Nat.add_sub_cancel_left, h]
theorem isp {α : Type} {bs bs' : List α} (is : List Nat) (hp : is.isPerm (List.range bs.length) = true) (hs : is.map (fun i => bs[i]?) = bs'.map some) : bs.Perm bs' := by
  have h1 := List.isPerm_iff.mp hp
  have h2 : (is.map (fun i => bs[i]?)).Perm ((List.range bs.length).map (fun i => bs[i]?)) := h1.map _
  have h3 : (List.range bs.length).map (fun i => bs[i]?) = bs.map some := by
    apply List.ext_getElem?
    intro q
    rw [List.getElem?_map, List.getElem?_map]
    by_cases hq : q < bs.length
    · rw [List.getElem?_range hq, List.getElem?_eq_getElem hq]
      show some bs[q]? = some (some bs[q])
      rw [List.getElem?_eq_getElem hq]
    · rw [List.getElem?_eq_none (by rw [List.length_range]; omega), List.getElem?_eq_none (by omega)]
      rfl
  rw [hs, h3] at h2
  have h4 := h2.filterMap id
  have e : ∀ l : List α, (l.map some).filterMap id = l := fun l => by rw [List.filterMap_map]; exact List.filterMap_some
  rw [e, e] at h4
  exact h4.symm
theorem Wd.blk {g : GT} {A : Nat → Prop} {H0 : Heap} {bs bs1 bs2 : List va_W} {H : Heap} {locs : List Loc} (hw : Wd g A H0 bs.flatten H locs) (is : List Nat) (hp : is.isPerm (List.range bs.length) = true) (hs : is.map (fun i => bs[i]?) = (bs1 ++ bs2).map some) : Wd g A H0 (bs1.flatten ++ bs2.flatten) H locs := by
  rw [← List.flatten_append]
  exact hw.perm (isp is hp hs).flatten
theorem Wd.blk2 {g : GT} {A : Nat → Prop} {H0 : Heap} {bs bs1 bs2 : List va_W} {H : Heap} {locs : List Loc} (hw : Wd g A H0 (bs1.flatten ++ bs2.flatten) H locs) (is : List Nat) (hp : is.isPerm (List.range (bs1 ++ bs2).length) = true) (hs : is.map (fun i => (bs1 ++ bs2)[i]?) = bs.map some) : Wd g A H0 bs.flatten H locs := by
  rw [← List.flatten_append] at hw
  exact hw.perm (isp is hp hs).flatten
section RB
variable {p : Program} {l : Launch} {e : Env} {R : Room} {s : State} {m : MethodId} {args : Array Value} {below : List Frame} {meth : Method} {c : Code} {H : Heap} {locs : List Loc} {cells slots : Nat} {Q : State → Prop}
variable {cc : ByteArray} {pc : Nat} {ls : Array Slot} {rest : List Value} {g : GT} {A : Nat → Prop} {a : Nat} {ws : va_W} {nL : Nat} {ret : Option FieldType} {Ts : List Cond} {own : String}
theorem r_bast (C : Cx p s m args meth c cc nL ret Ts own g A) (hw : Wd g A s.heap ws H locs) (q0 : Nat) {n i : Nat} {x : Int32} {f f' : Nat → Int32} (ha : ws[q0]? = some (a, aB g n f)) (hi : i < n) (hn : n < 2 ^ 31) (hf : upd f i (x.toInt8.toInt32) = f') {ws' : va_W} (hws : ws.set q0 (a, aB g n f') = ws') (hdg : decode cc pc = .ok (.bastore, 1))
    (kk : ∀ (H1 : Heap) (locs1 : List Loc), Wd g A s.heap ws' H1 locs1 → W p l e R s m args below meth c H1 locs1 cells slots Q (F0 m (pc + 1) ls rest)) : W p l e R s m args below meth c H locs cells slots Q (F0 m pc ls (.int x :: .int (nI i) :: .ref a :: rest)) := by
  subst hws
  subst hf
  refine va_bast C.1 C.2.1 C.2.2.2.2.2.1 hw.1 hw.2.1 hw.2.2 q0 2 ha rfl (vp_in_nI hi hn) hdg ?_
  rw [nI_clamp (Nat.lt_trans hi hn)]
  exact fun H1 locs1 h1 h2 h3 => kk H1 locs1 ⟨h1, h2, h3⟩
theorem r_aldII (C : Cx p s m args meth c cc nL ret Ts own g A) (hw : Wd g A s.heap ws H locs) (q0 : Nat) {n i y : Nat} {f : Nat → Option Nat} (ha : ws[q0]? = some (a, aII g n f)) (hi : i < n) (hn : n < 2 ^ 31) (hy : f i = some y) (hdg : decode cc pc = .ok (.aaload, 1))
    (kk : W p l e R s m args below meth c H locs cells slots Q (F0 m (pc + 1) ls (.ref y :: rest))) : W p l e R s m args below meth c H locs cells slots Q (F0 m pc ls (.int (nI i) :: .ref a :: rest)) := by
  have hin := vp_in_nI hi hn
  have hcl : (nI i).toNatClampNeg = i := nI_clamp (Nat.lt_trans hi hn)
  refine W.aald (v := .ref y) (ty := .array .int) C.1 C.2.1 (hw.1 q0 _ ha) ((C.2.2.2.2.2.1.2 4 (cII g, .array .int) rfl).1 n (fun j => va_rf (f j))) rfl (fun q => by cases q) (by show ¬ (nI i < 0 ∨ (arrV _ _ _).slots.size ≤ _); rw [arrV_size]; exact hin) (by show (arrV _ _ _).slots[_]? = _; rw [hcl, arrV_read _ _ hi, hy]; rfl) rfl rfl hdg kk
theorem r_aldIII (C : Cx p s m args meth c cc nL ret Ts own g A) (hw : Wd g A s.heap ws H locs) (q0 : Nat) {n i y : Nat} {f : Nat → Option Nat} (ha : ws[q0]? = some (a, aIII g n f)) (hi : i < n) (hn : n < 2 ^ 31) (hy : f i = some y) (hdg : decode cc pc = .ok (.aaload, 1))
    (kk : W p l e R s m args below meth c H locs cells slots Q (F0 m (pc + 1) ls (.ref y :: rest))) : W p l e R s m args below meth c H locs cells slots Q (F0 m pc ls (.int (nI i) :: .ref a :: rest)) := by
  have hin := vp_in_nI hi hn
  have hcl : (nI i).toNatClampNeg = i := nI_clamp (Nat.lt_trans hi hn)
  refine W.aald (v := .ref y) (ty := .array (.array .int)) C.1 C.2.1 (hw.1 q0 _ ha) ((C.2.2.2.2.2.1.2 5 (cIII g, .array (.array .int)) rfl).1 n (fun j => va_rf (f j))) rfl (fun q => by cases q) (by show ¬ (nI i < 0 ∨ (arrV _ _ _).slots.size ≤ _); rw [arrV_size]; exact hin) (by show (arrV _ _ _).slots[_]? = _; rw [hcl, arrV_read _ _ hi, hy]; rfl) rfl rfl hdg kk
end RB
/-! a contract over a larger world -/
section CF
variable {l : Launch} {g : GT} {y : MethodName} {wy : List Cond} {rm : Room} {av : List Value} {w wr : va_W} {sz : Nat} {B B' : State → Prop} {mc ms : Nat}
theorem va_A_app {q : Nat} (h : va_A w sz q) : va_A (w ++ wr) sz q := by
  rcases h with ⟨k, e, h⟩ | h
  · exact Or.inl ⟨k, e, at_l h⟩
  · exact Or.inr h
theorem pre0_app (hB : ∀ U : State, U.heap.size = sz → B' U → B U) {a : Array Value} {U : State} (h : pre0 g av (w ++ wr) sz B' a U) : pre0 g av w sz B a U := by
  obtain ⟨h1, h2, h3, h4, h5, h6⟩ := h
  exact ⟨h1, h2, fun k q hk => h3 k q (at_l hk), h4, ⟨fun i j p q hi hj e => h5.1 i j p q (at_l hi) (at_l hj) e, fun _ _ _ => trivial⟩, hB U h2 h6⟩
theorem post0_app {a : Array Value} {U t : State} {u : va_W} (h : pre0 g av (w ++ wr) sz B' a U) (hF : va_F (va_A w sz) U t) (hu : post0 g w sz u t) : post0 g (w ++ wr) sz (u ++ wr) t := by
  obtain ⟨h1, h2, h3, h4, h5, h6⟩ := h
  obtain ⟨u1, u2, u3⟩ := hu
  have hout : ∀ (k : Nat) (q : Nat × va_E), wr[k]? = some q → q.1 < sz ∧ ¬ va_A w sz q.1 := by
    intro k q hq
    have hl : q.1 < sz := by rw [← h2]; exact (h3 _ q (at_r hq)).lt
    refine ⟨hl, fun z => ?_⟩
    rcases z with ⟨k2, e, z⟩ | z
    · have := h5.1 _ _ _ _ (at_l z) (at_r hq) rfl
      have := (List.getElem?_eq_some_iff.mp z).1
      omega
    · omega
  refine ⟨va_P.app u1 (fun k q hq => (h3 _ q (at_r hq)).kept (hF.2 q.1 (by rw [h2]; exact (hout k q hq).1) (hout k q hq).2)), u2, va_D.app (u3.weaken (fun _ _ _ z => va_A_app z)) ⟨fun i j p q hi hj e => ?_, fun k q hk => va_A.in (at_r hk)⟩ (fun i j p q hi hj e => (hout j q hj).2 (by rw [← e]; exact u3.2 i p hi))⟩
  have := h5.1 _ _ p q (at_r hi) (at_r hj) e
  omega
theorem va_F_app {U t : State} (hF : va_F (va_A w sz) U t) : va_F (va_A (w ++ wr) sz) U t := ⟨hF.1, fun q h1 h2 => hF.2 q h1 (fun z => h2 (va_A_app z))⟩
theorem ct_frI {Post : Int32 → va_W → Prop} (h : CtI l g y wy rm av w sz B Post mc ms) (hB : ∀ U : State, U.heap.size = sz → B' U → B U) : CtI l g y wy rm av (w ++ wr) sz B' (fun r u => ∃ u', u = u' ++ wr ∧ Post r u') mc ms := by
  refine Jvm.Free.MetFree.mono h (fun a U hp => pre0_app hB hp) (fun _ _ _ _ _ z => z) ?_
  rintro a U o t hp ⟨⟨⟨r, u, e, hq, hu⟩, hF⟩, L, hL1, hL2⟩
  exact ⟨⟨⟨r, u ++ wr, e, ⟨u, rfl, hq⟩, post0_app hp hF hu⟩, va_F_app hF⟩, L, hL1, fun q hq => va_A_app (hL2 q hq)⟩
theorem ct_frV {Post : va_W → Prop} (h : CtV l g y wy rm av w sz B Post mc ms) (hB : ∀ U : State, U.heap.size = sz → B' U → B U) : CtV l g y wy rm av (w ++ wr) sz B' (fun u => ∃ u', u = u' ++ wr ∧ Post u') mc ms := by
  refine Jvm.Free.MetFree.mono h (fun a U hp => pre0_app hB hp) (fun _ _ _ _ _ z => z) ?_
  rintro a U o t hp ⟨⟨⟨u, e, hq, hu⟩, hF⟩, L, hL1, hL2⟩
  exact ⟨⟨⟨u ++ wr, e, ⟨u, rfl, hq⟩, post0_app hp hF hu⟩, va_F_app hF⟩, L, hL1, fun q hq => va_A_app (hL2 q hq)⟩
theorem va_A_perm {w2 : va_W} (hp : w.Perm w2) {q : Nat} (h : va_A w sz q) : va_A w2 sz q := by
  rcases h with ⟨k, e, h⟩ | h
  · obtain ⟨k2, h2⟩ := List.getElem?_of_mem (hp.mem_iff.mp (List.mem_of_getElem? h))
    exact Or.inl ⟨k2, e, h2⟩
  · exact Or.inr h
theorem va_PD_perm {w2 : va_W} {A : Nat → Prop} {H : Heap} (hp : w.Perm w2) (hP : va_P g.1 cls9 w H) (hD : va_D A w) : va_P g.1 cls9 w2 H ∧ va_D A w2 := by
  have h := Wd.perm (g := g) (A := A) (H0 := H) (locs := []) hp ⟨hP, hD, Nat.le_refl _, fun _ _ _ => rfl, fun _ h => absurd h List.not_mem_nil⟩
  exact ⟨h.1, h.2.1⟩
theorem pre0_perm {w2 : va_W} (hp : w.Perm w2) (hB : ∀ U : State, U.heap.size = sz → B' U → B U) {a : Array Value} {U : State} (h : pre0 g av w2 sz B' a U) : pre0 g av w sz B a U := by
  obtain ⟨h1, h2, h3, h4, h5, h6⟩ := h
  have k := va_PD_perm hp.symm h3 h5
  exact ⟨h1, h2, k.1, h4, k.2, hB U h2 h6⟩
theorem ct_pmI {w2 : va_W} {Post : Int32 → va_W → Prop} (hp : w.Perm w2) (h : CtI l g y wy rm av w sz B Post mc ms) (hB : ∀ U : State, U.heap.size = sz → B' U → B U) : CtI l g y wy rm av w2 sz B' Post mc ms := by
  refine Jvm.Free.MetFree.mono h (fun a U hq => pre0_perm hp hB hq) (fun _ _ _ _ _ z => z) ?_
  rintro a U o t hq ⟨⟨⟨r, u, e, hq, u1, u2, u3⟩, hF⟩, L, hL1, hL2⟩
  exact ⟨⟨⟨r, u, e, hq, u1, u2, u3.weaken (fun _ _ _ z => va_A_perm hp z)⟩, ⟨hF.1, fun q h1 h2 => hF.2 q h1 (fun z => h2 (va_A_perm hp z))⟩⟩, L, hL1, fun q hq => va_A_perm hp (hL2 q hq)⟩
theorem ct_pmV {w2 : va_W} {Post : va_W → Prop} (hp : w.Perm w2) (h : CtV l g y wy rm av w sz B Post mc ms) (hB : ∀ U : State, U.heap.size = sz → B' U → B U) : CtV l g y wy rm av w2 sz B' Post mc ms := by
  refine Jvm.Free.MetFree.mono h (fun a U hq => pre0_perm hp hB hq) (fun _ _ _ _ _ z => z) ?_
  rintro a U o t hq ⟨⟨⟨u, e, hq, u1, u2, u3⟩, hF⟩, L, hL1, hL2⟩
  exact ⟨⟨⟨u, e, hq, u1, u2, u3.weaken (fun _ _ _ z => va_A_perm hp z)⟩, ⟨hF.1, fun q h1 h2 => hF.2 q h1 (fun z => h2 (va_A_perm hp z))⟩⟩, L, hL1, fun q hq => va_A_perm hp (hL2 q hq)⟩
/-- another post; the world behind may be given in another order -/
theorem ct_poI {Post Post' : Int32 → va_W → Prop} (h : CtI l g y wy rm av w sz B Post mc ms) (hq : ∀ r u, Post r u → ∃ u2, u.Perm u2 ∧ Post' r u2) : CtI l g y wy rm av w sz B Post' mc ms := by
  refine Jvm.Free.MetFree.mono h (fun _ _ z => z) (fun _ _ _ _ _ z => z) ?_
  rintro a U o t - ⟨⟨⟨r, u, e, hp, u1, u2, u3⟩, hF⟩, hL⟩
  obtain ⟨v, hv, hP⟩ := hq r u hp
  have k := va_PD_perm hv u1 u3
  exact ⟨⟨⟨r, v, e, hP, k.1, u2, k.2⟩, hF⟩, hL⟩
theorem ct_poV {Post Post' : va_W → Prop} (h : CtV l g y wy rm av w sz B Post mc ms) (hq : ∀ u, Post u → ∃ u2, u.Perm u2 ∧ Post' u2) : CtV l g y wy rm av w sz B Post' mc ms := by
  refine Jvm.Free.MetFree.mono h (fun _ _ z => z) (fun _ _ _ _ _ z => z) ?_
  rintro a U o t - ⟨⟨⟨u, e, hp, u1, u2, u3⟩, hF⟩, hL⟩
  obtain ⟨v, hv, hP⟩ := hq u hp
  have k := va_PD_perm hv u1 u3
  exact ⟨⟨⟨v, e, hP, k.1, u2, k.2⟩, hF⟩, hL⟩
theorem sx_app {tb : Nat → Nat} : ∀ U : State, U.heap.size = sz → Sx tb (va_A (w ++ wr) sz) U U.heap → Sx tb (va_A w sz) U U.heap := fun _ _ h => h.narrow (fun _ z => va_A_app z)
theorem sx_pm {tb : Nat → Nat} {w2 : va_W} (hp : w.Perm w2) : ∀ U : State, U.heap.size = sz → Sx tb (va_A w2 sz) U U.heap → Sx tb (va_A w sz) U U.heap := fun _ _ h => h.narrow (fun _ z => va_A_perm hp z)
end CF
