section LI
variable {p : Program} {l : Launch} {e : Env} {R : Room} {s : State} {m : MethodId} {args : Array Value} {below : List Frame} {meth : Method} {c : Code} {H : Heap} {locs : List Loc} {cells slots : Nat} {Q : State → Prop}
variable {cc : ByteArray} {pc : Nat} {ls : Array Slot} {rest : List Value} {g : GT} {A : Nat → Prop} {a : Nat} {ws : va_W} {nL : Nat} {ret : Option FieldType} {Ts : List Cond} {own : String} {tb : Nat → Nat}
theorem r_get2 (C : Cx p s m args meth c cc nL ret Ts own g A) (hw : Wd g A s.heap ws H locs) {K ref : String} {T : u_T} {N ci index : Nat} (hin : ∀ w ∈ u_ws K T N, w ∈ Ts) (q0 : Nat) {fs : List Value} (he : ws[q0]? = some (a, .inr (ci, fs))) (hc : cls9[ci]? = some (K, T, N)) (k : Nat) (hk : k < N) (hlink : (Cond.fieldLink own index ref (T k).2.1 (T k).2.2.1).before args s = true) (hsm : (Cond.sameField ref (T k).1 (T k).2.1 (T k).2.2.1).before args s = true) {v : Value} (hv : fs[k]? = some v) (hdg : decode cc pc = .ok (.getfield index, 3))
    (kk : W p l e R s m args below meth c H locs cells slots Q (F0 m (pc + 3) ls (v :: rest))) : W p l e R s m args below meth c H locs cells slots Q (F0 m pc ls (.ref a :: rest)) :=
  va_get C.1 C.2.1 C.2.2.2.2.1 hin C.2.2.2.1 C.2.2.2.2.2.1 hw.1 q0 he hc k hk hlink (fun x h => u_same hsm x h) hv hdg kk
theorem r_put2 (C : Cx p s m args meth c cc nL ret Ts own g A) (hw : Wd g A s.heap ws H locs) {K ref : String} {T : u_T} {N ci index : Nat} (hin : ∀ w ∈ u_ws K T N, w ∈ Ts) {ty0 : Nat → FieldType} (hty : ∀ k, k < N → parseFieldDescriptor (T k).2.2.1 = some (ty0 k)) (hnm : ∀ a, a < N → ∀ b, b < N → a ≠ b → (T a).2.1 ≠ (T b).2.1) (q0 : Nat) {fs : List Value} (he : ws[q0]? = some (a, .inr (ci, fs))) (hc : cls9[ci]? = some (K, T, N)) (k : Nat) (hk : k < N) (hlink : (Cond.fieldLink own index ref (T k).2.1 (T k).2.2.1).before args s = true) (hsm : (Cond.sameField ref (T k).1 (T k).2.1 (T k).2.2.1).before args s = true) (hfin : (T k).2.2.2 = false) {v : Value} (hn : narrow (ty0 k) v = v) (hfit : fits (ty0 k) v = true) (hl : k < fs.length) {ws' : va_W} (hws : ws.set q0 (a, .inr (ci, fs.set k v)) = ws') (hdg : decode cc pc = .ok (.putfield index, 3))
    (kk : ∀ (H1 : Heap) (locs1 : List Loc), Wd g A s.heap ws' H1 locs1 → W p l e R s m args below meth c H1 locs1 cells slots Q (F0 m (pc + 3) ls rest)) : W p l e R s m args below meth c H locs cells slots Q (F0 m pc ls (v :: .ref a :: rest)) := by
  subst hws
  exact va_put C.1 C.2.1 C.2.2.2.2.1 hin ty0 hty hnm C.2.2.2.1 C.2.2.2.2.2.1 hw.1 hw.2.1 hw.2.2 q0 he hc k hk hlink (fun x h => u_same hsm x h) hfin (hty k hk) hn hfit hl hdg (fun H1 locs1 h1 h2 h3 => kk H1 locs1 ⟨h1, h2, h3⟩)
theorem r_gsE (C : Cx p s m args meth c cc nL ret Ts own g A) (hw : Wd g A s.heap ws H locs) (hx : Sx tb A s s.heap) {index : Nat} (hlink : (Cond.fieldLink own index sE "DEFAULTCAPACITY_EMPTY_ELEMENTDATA" "[Ljava/lang/Object;").before args s = true) (hdg : decode cc pc = .ok (.getstatic index, 3)) (kk : W p l e R s m args below meth c H locs cells slots Q (F0 m (pc + 3) ls (.ref (tb 11) :: rest))) : W p l e R s m args below meth c H locs cells slots Q (F0 m pc ls rest) :=
  va_gets C.1 C.2.1 hx.2.1 hw.2.2 C.2.2.2.1 hlink (fun _ h => h) hdg kk
theorem r_tlenE (C : Cx p s m args meth c cc nL ret Ts own g A) (hw : Wd g A s.heap ws H locs) (hx : Sx tb A s s.heap) (hdg : decode cc pc = .ok (.arraylength, 1)) (kk : W p l e R s m args below meth c H locs cells slots Q (F0 m (pc + 1) ls (.int (nI 0) :: rest))) : W p l e R s m args below meth c H locs cells slots Q (F0 m pc ls (.ref (tb 11) :: rest)) :=
  va_tlen C.1 C.2.1 hx.2.2.1 hw.2.2 rfl hdg kk
theorem cx_sameO (C : Cx p s m args meth c cc nL ret Ts own g A) {cA : ClassId} {q : String} (hK : va_K g.1 cls9 (tys6 g ++ [(cA, .object q)]) s) (hq : q = "java/lang/Object") : cA = cO g := by
  subst hq
  have h1 := (C.2.2.2.2.2.1.2 3 (cO g, .object "java/lang/Object") rfl).2
  have h2 := (hK.2 6 (cA, .object "java/lang/Object") rfl).2
  obtain ⟨_, _, _, _, _, h3⟩ := h1
  obtain ⟨_, _, _, _, _, h4⟩ := h2
  exact Option.some.inj (h4.symm.trans h3)
theorem r_newO (C : Cx p s m args meth c cc nL ret Ts own g A) (hw : Wd g A s.heap ws H locs) (hx : Sx tb A s s.heap) {index : Nat} (hcl : (Cond.classLink own index "java/lang/Object").before args s = true) {n : Nat} (hn : n ≤ 134217728) (hcells : cells + 1 ≤ R.cells) (hslots : slots + n ≤ R.slots) (hdg : decode cc pc = .ok (.anewarray index, 3))
    (kk : ∀ (q : Nat) (H1 : Heap), Wd g A s.heap (ws ++ [(q, aO g n (fun _ => none))]) H1 locs → W p l e R s m args below meth c H1 locs (cells + 1) (slots + n) Q (F0 m (pc + 3) ls (.ref q :: rest))) : W p l e R s m args below meth c H locs cells slots Q (F0 m pc ls (.int (nI n) :: rest)) := by
  refine va_newq (N' := n) C.1 C.2.1 C.2.2.2.1 hcl hx.2.2.2.2.2.1 C.2.2.2.2.2.1 hw.1 hw.2.1 hw.2.2 C.2.2.2.2.2.2.1 (nI_pos (by omega)) (nI_clamp (by omega)) (by omega) hcells hslots hdg ?_
  intro q cA H1 hK hP hD hS
  have e := cx_sameO C hK rfl
  subst e
  exact kk q H1 ⟨hP, hD, hS⟩
theorem r_aldO (C : Cx p s m args meth c cc nL ret Ts own g A) (hw : Wd g A s.heap ws H locs) (q0 : Nat) {n i y : Nat} {f : Nat → Option Nat} (ha : ws[q0]? = some (a, aO g n f)) (hi : i < n) (hn : n < 2 ^ 31) (hy : f i = some y) (hdg : decode cc pc = .ok (.aaload, 1))
    (kk : W p l e R s m args below meth c H locs cells slots Q (F0 m (pc + 1) ls (.ref y :: rest))) : W p l e R s m args below meth c H locs cells slots Q (F0 m pc ls (.int (nI i) :: .ref a :: rest)) :=
  va_aldq C.1 C.2.1 C.2.2.2.2.2.1 hw.1 q0 3 ha rfl (vp_in_nI hi hn) hdg (by rw [nI_clamp (Nat.lt_trans hi hn), hy]; exact kk)
theorem r_astF (C : Cx p s m args meth c cc nL ret Ts own g A) (hw : Wd g A s.heap ws H locs) (hx : Sx tb A s s.heap) (q0 qk : Nat) {n i v : Nat} {f : Nat → Option Nat} {fs : List Value} (ha : ws[q0]? = some (a, aO g n f)) (hv : ws[qk]? = some (v, .inr (2, fs))) (hi : i < n) (hn : n < 2 ^ 31) {ws' : va_W} (hws : ws.set q0 (a, aO g n (va_up f i (some v))) = ws') (hdg : decode cc pc = .ok (.aastore, 1))
    (kk : ∀ (H1 : Heap) (locs1 : List Loc), Wd g A s.heap ws' H1 locs1 → W p l e R s m args below meth c H1 locs1 cells slots Q (F0 m (pc + 1) ls rest)) : W p l e R s m args below meth c H locs cells slots Q (F0 m pc ls (.ref v :: .int (nI i) :: .ref a :: rest)) := by
  subst hws
  refine vb_astq (E := "java/lang/Object") (C := RX2) C.1 C.2.1 C.2.2.2.2.2.1 hw.1 hw.2.1 hw.2.2 q0 3 ha rfl (va_recv C.2.2.2.2.2.1 hw.1 (ci := 2) (q := (RX2, TX2, 12)) rfl hv) (vb_asgC hx.2.2.2.2.2.2.1) (vp_in_nI hi hn) hdg ?_
  rw [nI_clamp (Nat.lt_trans hi hn)]
  exact fun H1 locs1 h1 h2 h3 => kk H1 locs1 ⟨h1, h2, h3⟩
theorem r_astN (C : Cx p s m args meth c cc nL ret Ts own g A) (hw : Wd g A s.heap ws H locs) (q0 : Nat) {n i : Nat} {f : Nat → Option Nat} (ha : ws[q0]? = some (a, aO g n f)) (hi : i < n) (hn : n < 2 ^ 31) {ws' : va_W} (hws : ws.set q0 (a, aO g n (va_up f i none)) = ws') (hdg : decode cc pc = .ok (.aastore, 1))
    (kk : ∀ (H1 : Heap) (locs1 : List Loc), Wd g A s.heap ws' H1 locs1 → W p l e R s m args below meth c H1 locs1 cells slots Q (F0 m (pc + 1) ls rest)) : W p l e R s m args below meth c H locs cells slots Q (F0 m pc ls (.null :: .int (nI i) :: .ref a :: rest)) := by
  subst hws
  refine va_astqN C.1 C.2.1 C.2.2.2.2.2.1 hw.1 hw.2.1 hw.2.2 q0 3 ha rfl (vp_in_nI hi hn) hdg ?_
  rw [nI_clamp (Nat.lt_trans hi hn)]
  exact fun H1 locs1 h1 h2 h3 => kk H1 locs1 ⟨h1, h2, h3⟩
theorem r_copyO (C : Cx p s m args meth c cc nL ret Ts own g A) (hw : Wd g A s.heap ws H locs) (hx : Sx tb A s s.heap) (hml : c.maxLocals = ls.size) {index : Nat} (hlink : (Cond.methodLink own index arraycopyName).before args s = true) (hnat : (Cond.native arraycopyName).before args s = true) (hstat : (Cond.static arraycopyName).before args s = true) (hini : (Cond.initialized "java/lang/System").before args s = true) (q0 q1 : Nat) {a0 n0 n1 n : Nat} {f f1 : Nat → Option Nat} (ha0 : ws[q0]? = some (a0, aO g n0 f)) (ha1 : ws[q1]? = some (a, aO g n1 f1)) (h4 : n ≤ n0) (h5 : n ≤ n1) (hn : n < 2 ^ 31) (hel : ∀ i, i < n → ∀ y, f i = some y → ∃ fs, (y, .inr (2, fs)) ∈ ws) (hframes : 1 ≤ R.frames) (hlocals : (rest.map fun v => v.category).sum + (nativeFrameWords "java/lang/System" "arraycopy" 5 + 11) ≤ R.locals) (hdg : decode cc pc = .ok (.invokestatic index, 3)) {ws' : va_W} (hws : ws.set q1 (a, aO g n1 (va_cpy f f1 0 0 n)) = ws')
    (kk : ∀ (H1 : Heap) (locs1 : List Loc), Wd g A s.heap ws' H1 locs1 → W p l e R s m args below meth c H1 locs1 cells slots Q (F0 m (pc + 3) ls rest)) : W p l e R s m args below meth c H locs cells slots Q (F0 m pc ls (.int (nI n) :: .int (nI 0) :: .ref a :: .int (nI 0) :: .ref a0 :: rest)) := by
  subst hws
  have e0 : (nI 0).toNatClampNeg = 0 := nI_clamp (by omega)
  have en : (nI n).toNatClampNeg = n := nI_clamp hn
  refine va_copyq (E0 := "java/lang/Object") (E1 := "java/lang/Object") (C := RX2) C.1 C.2.1 hml C.2.2.2.1 hlink hnat hstat hini C.2.2.2.2.2.1 hw.1 hw.2.1 hw.2.2 q0 q1 3 3 ha0 ha1 rfl rfl (nI_pos (by omega)) (nI_pos (by omega)) (nI_pos hn) (by rw [e0, en]; omega) (by rw [e0, en]; omega) ?_ (vb_asgC hx.2.2.2.2.2.2.1) hframes hlocals hdg ?_
  · rw [e0, en]
    intro i hi y hy
    rw [Nat.zero_add] at hy
    obtain ⟨fs, hm⟩ := hel i hi y hy
    obtain ⟨k, hk⟩ := List.getElem?_of_mem hm
    exact va_recv C.2.2.2.2.2.1 hw.1 (ci := 2) (q := (RX2, TX2, 12)) rfl hk
  · rw [e0, en]
    exact fun H1 locs1 h1 h2 h3 => kk H1 locs1 ⟨h1, h2, h3⟩
theorem r_getC (C : Cx p s m args meth c cc nL ret Ts own g A) (hw : Wd g A s.heap ws H locs) (hx : Sx tb A s s.heap) (hml : c.maxLocals = ls.size) {index : Nat} (hlink : (Cond.methodLink own index ⟨"java/lang/Object", "getClass", "()Ljava/lang/Class;"⟩).before args s = true) (hsel : (Cond.selects "[Ljava/lang/Object;" ⟨"java/lang/Object", "getClass", "()Ljava/lang/Class;"⟩ ⟨"java/lang/Object", "getClass", "()Ljava/lang/Class;"⟩).before args s = true) (hinst : (Cond.instanceMethod ⟨"java/lang/Object", "getClass", "()Ljava/lang/Class;"⟩).before args s = true) (hnat : (Cond.native ⟨"java/lang/Object", "getClass", "()Ljava/lang/Class;"⟩).before args s = true) (q0 : Nat) {n : Nat} {f : Nat → Option Nat} (ha : ws[q0]? = some (a, aO g n f)) (hframes : 1 ≤ R.frames) (hlocals : (rest.map fun v => v.category).sum + 14 ≤ R.locals) (hdg : decode cc pc = .ok (.invokevirtual index, 3))
    (k : W p l e R s m args below meth c H locs cells slots Q (F0 m (pc + 3) ls (.ref (tb 12) :: rest))) : W p l e R s m args below meth c H locs cells slots Q (F0 m pc ls (.ref a :: rest)) := by
  refine va_getC C.1 C.2.1 hml C.2.2.2.1 hlink (va_Dc.use hx.2.2.2.2.1) hsel hinst hnat hx.2.2.2.1 ⟨_, hw.1 q0 _ ha, rfl, ?_⟩ hframes hlocals hdg k
  exact va_nmO (C.2.2.2.2.2.1.2 3 (cO g, .object "java/lang/Object") rfl).2 rfl
end LI
/-! frames of a list: addresses and what they hold -/
abbrev FrD : Type := Nat × Nat × Nat
abbrev frL (x : FrD) : List Value := [.int (nI x.2.1), .int (nI (layerS x.1)), .int (nI (chkS x.1)), .int (nI (rateS x.1)), .int (nI (sampS x.1)), .int (nI (byS x.1)), .int (nI (modeS x.1)), .int (nI (chS x.1)), .int (nI (bandS x.1)), .int (nI (ftS x.1)), .int (nI (boundS x.1)), .int (nI x.2.2)]
def fpl (frs : List (Nat × FrD)) : va_W := frs.map (fun x => (x.1, .inr (2, frL x.2)))
theorem fpl_add (frs : List (Nat × FrD)) (x : Nat × FrD) : fpl (frs ++ [x]) = fpl frs ++ [(x.1, .inr (2, frL x.2))] := by unfold fpl; rw [List.map_append]; rfl
def lsF (frs : List (Nat × FrD)) (cap : Nat) (f : Nat → Option Nat) : Prop := ∀ i, i < cap → f i = (frs[i]?).map (fun x => x.1)
theorem lsF_mem {frs : List (Nat × FrD)} {cap : Nat} {f : Nat → Option Nat} (h : lsF frs cap f) {i y : Nat} (hi : i < cap) (hy : f i = some y) : ∃ fs, (y, .inr (2, fs)) ∈ fpl frs := by
  rw [h i hi] at hy
  cases hg : frs[i]? with
  | none => rw [hg] at hy; cases hy
  | some x =>
    rw [hg] at hy
    cases hy
    exact ⟨frL x.2, List.mem_map.mpr ⟨x, List.mem_of_getElem? hg, rfl⟩⟩
theorem lsF_add {frs : List (Nat × FrD)} {cap : Nat} {f : Nat → Option Nat} (h : lsF frs cap f) (x : Nat × FrD) {n : Nat} (hn : frs.length = n) : lsF (frs ++ [x]) cap (va_up f n (some x.1)) := by
  subst hn
  intro i hi
  unfold va_up
  by_cases e : i = frs.length
  · rw [if_pos e, e, List.getElem?_append_right (Nat.le_refl _), Nat.sub_self]
    rfl
  · rw [if_neg e, h i hi]
    by_cases q : i < frs.length
    · rw [List.getElem?_append_left q]
    · rw [List.getElem?_eq_none (by omega), List.getElem?_eq_none (by rw [List.length_append]; show frs.length + 1 ≤ i; omega)]
theorem lsF_cpy {frs : List (Nat × FrD)} {cap cap2 n : Nat} {f : Nat → Option Nat} (h : lsF frs cap f) (hl : frs.length ≤ cap) (hn : n = cap) : lsF frs cap2 (va_cpy f (fun _ => none) 0 0 n) := by
  subst hn
  intro i hi
  by_cases q : i < n
  · rw [pk_cpy_in (Nat.zero_le _) (by omega), Nat.sub_zero, Nat.zero_add]
    exact h i q
  · rw [pk_cpy_out (by omega), List.getElem?_eq_none (by omega)]
    rfl
theorem lsF_none (cap : Nat) : lsF [] cap (fun _ => none) := fun i _ => rfl
theorem lsF_clear {frs : List (Nat × FrD)} {cap n : Nat} {f : Nat → Option Nat} (h : lsF frs cap f) (hn : frs.length = n) : lsF [] cap (fun j => if j < n then none else f j) := by
  intro i hi
  show (if i < n then none else f i) = none
  split
  · rfl
  · rw [h i hi, List.getElem?_eq_none (by omega)]
    rfl
theorem nullF_s {f : Nat → Option Nat} (i : Nat) : va_up (fun j => if j < i then none else f j) i none = fun j => if j < i + 1 then none else f j := by
  funext j
  unfold va_up
  by_cases h1 : j = i
  · subst h1; simp
  · have h2 : (j < i + 1) = (j < i) := propext ⟨fun h => by omega, fun h => by omega⟩
    simp only [h1, if_false, h2]
def growC (cap : Nat) : Nat := cap + max 1 (cap / 2)
def growS (cap n : Nat) : Nat := if n = cap then (if cap = 0 then 10 else growC cap) else cap
/-- the list's row: none of its own as long as nothing came, else an array -/
def LsOK (tb : Nat → Nat) (g : GT) (ed : Nat) (edT : va_W) (frs : List (Nat × FrD)) (cap : Nat) : Prop :=
  (edT = [] ∧ ed = tb 11 ∧ cap = 0 ∧ frs = []) ∨ ∃ f, edT = [(ed, aO g cap f)] ∧ 0 < cap ∧ frs.length ≤ cap ∧ lsF frs cap f
