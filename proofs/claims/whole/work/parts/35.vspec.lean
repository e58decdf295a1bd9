/-! numbers that stay closed -/
noncomputable def k12 : Nat := Classical.choose (⟨12, rfl⟩ : ∃ n : Nat, n = 12)
theorem k12_eq : k12 = 12 := Classical.choose_spec (⟨12, rfl⟩ : ∃ n : Nat, n = 12)
noncomputable def k16 : Nat := Classical.choose (⟨16, rfl⟩ : ∃ n : Nat, n = 16)
theorem k16_eq : k16 = 16 := Classical.choose_spec (⟨16, rfl⟩ : ∃ n : Nat, n = 16)
noncomputable def k32 : Nat := Classical.choose (⟨32, rfl⟩ : ∃ n : Nat, n = 32)
theorem k32_eq : k32 = 32 := Classical.choose_spec (⟨32, rfl⟩ : ∃ n : Nat, n = 32)
noncomputable def k64 : Nat := Classical.choose (⟨64, rfl⟩ : ∃ n : Nat, n = 64)
theorem k64_eq : k64 = 64 := Classical.choose_spec (⟨64, rfl⟩ : ∃ n : Nat, n = 64)
noncomputable def k8 : Nat := Classical.choose (⟨8, rfl⟩ : ∃ n : Nat, n = 8)
theorem k8_eq : k8 = 8 := Classical.choose_spec (⟨8, rfl⟩ : ∃ n : Nat, n = 8)
theorem tabI_s {f h : Nat → Int32} (i : Nat) : upd (fun j => if j < i then h j else f j) i (h i) = fun j => if j < i + 1 then h j else f j := by
  funext j
  unfold upd
  by_cases h1 : j = i
  · subst h1; simp
  · have h2 : (j < i + 1) = (j < i) := propext ⟨fun h => by omega, fun h => by omega⟩
    simp only [h1, if_false, h2]
theorem tabJ_s {f h : Nat → Int64} (i : Nat) : vp_updL (fun j => if j < i then h j else f j) i (h i) = fun j => if j < i + 1 then h j else f j := by
  funext j
  unfold vp_updL
  by_cases h1 : j = i
  · subst h1; simp
  · have h2 : (j < i + 1) = (j < i) := propext ⟨fun h => by omega, fun h => by omega⟩
    simp only [h1, if_false, h2]
theorem tabZ {α : Type} {f h : Nat → α} : (fun j => if j < 0 then h j else f j) = f := by funext j; simp
theorem dead_sw {x : Int32} {n : Nat} (hn : n < 2 ^ 31) (h1 : ¬ x < 0) (h2 : ¬ nI n ≤ x) (hno : ¬ (0 ≤ x.toInt ∧ x.toInt < n)) : False := by
  obtain ⟨j, hj, rfl⟩ := nI_of h1
  have h3 : j < n := Nat.lt_of_not_le (fun q => h2 ((nI_leI hn hj).mpr q))
  exact hno ⟨by rw [nI_toInt hj]; omega, by rw [nI_toInt hj]; omega⟩
/-! C and W -/
def cosW (n : Nat) : Int32 := if n ≤ 64 then (if n ≤ 32 then nI (tN 9 n) else -nI (tN 9 (64 - n))) else (if 128 - n ≤ 32 then nI (tN 9 (128 - n)) else -nI (tN 9 (64 - (128 - n))))
def winW (n : Nat) : Int32 := if n ≤ 256 then sV 10 n else if n % 64 = 0 then sV 10 (512 - n) else -sV 10 (512 - n)
def cosA : Nat → Int32 := fun j => if j < 128 then cosW j else 0
def winA : Nat → Int32 := fun j => if j < 512 then winW j else 0
/-! v and PCM -/
def adF (row : Nat → Int32) (fi : Nat) (k : Nat) (su : Nat → Int64) : Nat → Int64 := fun j => if j < 64 then su j + (cosA ((16 + j) * (2 * k + 1) % 128)).toInt64 * (row (fi + k)).toInt64 else su j
def vT (row : Nat → Int32) (fi j : Nat) (k : Nat) (s : Int64) : Int64 := s + (cosA ((16 + j) * (2 * k + 1) % 128)).toInt64 * (row (fi + k)).toInt64
noncomputable def vS (row : Nat → Int32) (fi j : Nat) : Int32 := ((lp (vT row fi j) k32 0 + 8192) >>> ((nI 14).toInt64 &&& 63)).toInt32
theorem adF_at (row : Nat → Int32) (fi : Nat) {j : Nat} (hj : j < 64) (n : Nat) (su : Nat → Int64) : lp (adF row fi) n su j = lp (vT row fi j) n (su j) := by
  induction n with
  | zero => rfl
  | succ n ih =>
    show adF row fi n (lp (adF row fi) n su) j = vT row fi j n (lp (vT row fi j) n (su j))
    have e : ∀ z : Nat → Int64, adF row fi n z j = vT row fi j n (z j) := fun z => if_pos hj
    rw [e, ih]
noncomputable def nuF (row : Nat → Int32) (fi nw : Nat) (i : Nat) (nu : Nat → Int32) : Nat → Int32 := upd nu ((nw + i) % 1024) (vS row fi i)
/-- a row: (newest, numbers) -/
noncomputable def rowS (row : Nat → Int32) (fi : Nat) (x : Nat × (Nat → Int32)) : Nat × (Nat → Int32) := ((x.1 + 960) % 1024, lp (nuF row fi ((x.1 + 960) % 1024)) k64 x.2)
theorem sub64 {n : Nat} (h : n < 1024) : (nI n - nI 64) &&& nI 1023 = nI ((n + 960) % 1024) := (by decide +kernel : ∀ n : Fin 1024, (nI n.val - nI 64) &&& nI 1023 = nI ((n.val + 960) % 1024)) ⟨n, h⟩
def pcT (nw j : Nat) (nu : Nat → Int32) (i : Nat) (s : Int64) : Int64 :=
  s + (winA ((64 * i + j) % 512)).toInt64 * (nu ((nw + 128 * i + j) % 1024)).toInt64 + (winA (((64 * i + j) % 512 + 32) % 512)).toInt64 * (nu ((nw + 128 * i + j + 96) % 1024)).toInt64
def clipL (z : Int64) : Int32 := (if (if z < 32767 then z else 32767) < -32768 then -32768 else (if z < 32767 then z else 32767)).toInt32
noncomputable def pcS (x : Nat × (Nat → Int32)) (j : Nat) : Int32 := clipL (lp (pcT x.1 j x.2) k8 1048576 >>> ((nI 21).toInt64 &&& 63))
def wsF (sm : Nat → Int32) (a : Nat) (k : Nat) (s : Int32) : Int32 := s + sm (a + k) * nI (k + 1)
section CPY
variable {p : Program} {l : Launch} {e : Env} {R : Room} {s : State} {m : MethodId} {args : Array Value} {below : List Frame} {meth : Method} {c : Code} {H : Heap} {locs : List Loc} {cells slots : Nat} {Q : State → Prop}
variable {cc : ByteArray} {pc : Nat} {ls : Array Slot} {rest : List Value} {g : GT} {A : Nat → Prop} {a : Nat} {ws : va_W} {nL : Nat} {ret : Option FieldType} {Ts : List Cond} {own : String}
theorem r_copyI (C : Cx p s m args meth c cc nL ret Ts own g A) (hw : Wd g A s.heap ws H locs) (hml : c.maxLocals = ls.size) {index : Nat} (hlink : (Cond.methodLink own index arraycopyName).before args s = true) (hnat : (Cond.native arraycopyName).before args s = true) (hstat : (Cond.static arraycopyName).before args s = true) (hini : (Cond.initialized "java/lang/System").before args s = true) (q0 q1 : Nat) {a0 n0 n1 n : Nat} {f f1 : Nat → Int32} (ha0 : ws[q0]? = some (a0, aI g n0 f)) (ha1 : ws[q1]? = some (a, aI g n1 f1)) (h4 : n ≤ n0) (h5 : n ≤ n1) (hn : n < 2 ^ 31) (hframes : 1 ≤ R.frames) (hlocals : (rest.map fun v => v.category).sum + (nativeFrameWords "java/lang/System" "arraycopy" 5 + 11) ≤ R.locals) (hdg : decode cc pc = .ok (.invokestatic index, 3)) {ws' : va_W} (hws : ws.set q1 (a, aI g n1 (va_cpy f f1 0 0 n)) = ws')
    (kk : ∀ (H1 : Heap) (locs1 : List Loc), Wd g A s.heap ws' H1 locs1 → W p l e R s m args below meth c H1 locs1 cells slots Q (F0 m (pc + 3) ls rest)) : W p l e R s m args below meth c H locs cells slots Q (F0 m pc ls (.int (nI n) :: .int (nI 0) :: .ref a :: .int (nI 0) :: .ref a0 :: rest)) := by
  subst hws
  have e0 : (nI 0).toNatClampNeg = 0 := nI_clamp (by omega)
  have en : (nI n).toNatClampNeg = n := nI_clamp hn
  refine va_copyi (ty := .int) C.1 C.2.1 hml C.2.2.2.1 hlink hnat hstat hini C.2.2.2.2.2.1 hw.1 hw.2.1 hw.2.2 q0 q1 0 0 ha0 ha1 rfl rfl rfl (nI_pos (by omega)) (nI_pos (by omega)) (nI_pos hn) (by rw [e0, en]; omega) (by rw [e0, en]; omega) (fun _ _ => rfl) hframes hlocals hdg ?_
  rw [e0, en]
  exact fun H1 locs1 h1 h2 h3 => kk H1 locs1 ⟨h1, h2, h3⟩
end CPY
theorem adZ {x : Int32} {q : Nat} {su : Nat → Int64} (h : x = 0) : (fun j => if j < 64 then su j + (cosA ((16 + j) * q % 128)).toInt64 * x.toInt64 else su j) = su := by
  funext j
  rw [h]
  split
  · rw [show (0 : Int32).toInt64 = 0 from rfl, Int64.mul_zero, Int64.add_zero]
  · rfl
def capS (md more cap : Nat) : Nat := if md + more ≤ cap then cap else max (md + more) (2 * cap)
theorem capS_ge (md more cap : Nat) : cap ≤ capS md more cap ∧ md + more ≤ capS md more cap := by unfold capS; split <;> omega
theorem capS_le {md more cap M : Nat} (h1 : md + more ≤ M) (h2 : cap ≤ 2 * M) : capS md more cap ≤ 4 * M := by unfold capS; split <;> omega
theorem mk_lo {b n j : Nat} {h f : Nat → Int32} (hj : j < b ∨ b + n ≤ j) : lp (fun i f => upd f (b + i) (h i)) n f j = f j := by
  induction n with
  | zero => rfl
  | succ n ih =>
    show upd (lp (fun i f => upd f (b + i) (h i)) n f) (b + n) (h n) j = f j
    unfold upd
    rw [if_neg (by omega)]
    exact ih (by omega)
theorem mk_in {b n j : Nat} {h f : Nat → Int32} (hj : j < n) : lp (fun i f => upd f (b + i) (h i)) n f (b + j) = h j := by
  induction n with
  | zero => omega
  | succ n ih =>
    show upd (lp (fun i f => upd f (b + i) (h i)) n f) (b + n) (h n) (b + j) = h j
    unfold upd
    by_cases e : j = n
    · subst e; rw [if_pos rfl]
    · rw [if_neg (by omega)]; exact ih (by omega)
noncomputable def sdF (row : Nat → Int32) (c : Nat) (t : Nat) (x : Nat × (Nat → Int32)) : Nat × (Nat → Int32) := rowS row ((c * 36 + t) * 32) x
theorem rowS_lt (row : Nat → Int32) (fi : Nat) (x : Nat × (Nat → Int32)) : (rowS row fi x).1 < 1024 := Nat.mod_lt _ (by omega)
theorem sd_step {row : Nat → Int32} {c md i nw : Nat} {num sm sm1 : Nat → Int32} {x : Nat × (Nat → Int32)} (hxe : x = lp (sdF row c) i (nw, num)) (hE : (∀ j, j < md → sm1 j = sm j) ∧ ∀ t, t < i → ∀ j, j < 32 → sm1 (md + 32 * t + j) = pcS (lp (sdF row c) (t + 1) (nw, num)) j) :
    (∀ j, j < md → lp (fun i_ f => upd f (md + 32 * i + i_) (pcS ((rowS row ((c * 36 + i) * 32) x).1, (rowS row ((c * 36 + i) * 32) x).2) i_)) k32 sm1 j = sm j) ∧ ∀ t, t < i + 1 → ∀ j, j < 32 → lp (fun i_ f => upd f (md + 32 * i + i_) (pcS ((rowS row ((c * 36 + i) * 32) x).1, (rowS row ((c * 36 + i) * 32) x).2) i_)) k32 sm1 (md + 32 * t + j) = pcS (lp (sdF row c) (t + 1) (nw, num)) j := by
  refine ⟨fun j hj => by rw [mk_lo (Or.inl (by omega))]; exact hE.1 j hj, fun t ht j hj => ?_⟩
  rcases Nat.lt_or_ge t i with q | q
  · rw [mk_lo (Or.inl (by omega))]
    exact hE.2 t q j hj
  · have e9 : t = i := by omega
    subst e9
    have h32 := k32_eq
    rw [mk_in (show j < k32 by omega)]
    show _ = pcS (sdF row c t (lp (sdF row c) t (nw, num))) j
    rw [← hxe]
    rfl
