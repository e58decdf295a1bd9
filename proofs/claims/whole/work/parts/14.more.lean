theorem sV_N (k : Nat) {j : Nat} (h : (tab k).all (fun x => decide (0 ≤ x)) = true) : sV k j = nI ((tab k).getD j 0).toNat := by
  have h0 : 0 ≤ (tab k).getD j 0 := by
    rw [List.getD_eq_getElem?_getD]
    cases hg : (tab k)[j]? with
    | none => exact Int.le_refl 0
    | some x => exact of_decide_eq_true (List.all_eq_true.mp h x (List.mem_of_getElem? hg))
  unfold sV nI
  generalize (tab k).getD j 0 = z at h0
  obtain ⟨n, rfl⟩ := Int.eq_ofNat_of_zero_le h0
  rfl
def tN (k j : Nat) : Nat := ((tab k).getD j 0).toNat
def selX (x : Int32) (n : Nat) (f : Nat → Int32) (d : Int32) : Int32 := if 0 ≤ x.toInt ∧ x.toInt < n then f x.toNatClampNeg else d
theorem selX_in {k n : Nat} {f : Nat → Int32} {d : Int32} (h : k < n) (hn : n < 2 ^ 31) : selX (nI k) n f d = f k := by
  unfold selX
  rw [if_pos ⟨by rw [nI_toInt (by omega)]; omega, by rw [nI_toInt (by omega)]; omega⟩, nI_clamp (by omega)]
theorem selX_out {x : Int32} {n : Nat} {f : Nat → Int32} {d : Int32} (h : ¬ (0 ≤ x.toInt ∧ x.toInt < n)) : selX x n f d = d := if_neg h
theorem swx (x : Int32) (n : Nat) (hn : n < 2 ^ 31) : (∃ k, k < n ∧ x = nI k) ∨ ¬ (0 ≤ x.toInt ∧ x.toInt < n) := by
  by_cases h : 0 ≤ x.toInt ∧ x.toInt < n
  · obtain ⟨j, hj, e⟩ := vp_in_of (vp_in_iff.mpr h) hn
    exact Or.inl ⟨j, hj, e⟩
  · exact Or.inr h
section BD
variable {p : Program} {l : Launch} {e : Env} {R : Room} {s : State} {m : MethodId} {args : Array Value} {below : List Frame} {meth : Method} {c : Code} {H : Heap} {locs : List Loc} {cells slots : Nat} {Q : State → Prop}
variable {cc : ByteArray} {pc : Nat} {ls : Array Slot} {rest : List Value} {g : GT} {A : Nat → Prop} {a : Nat} {ws : va_W} {nL : Nat} {ret : Option FieldType} {Ts : List Cond} {own : String}
theorem cx_same (C : Cx p s m args meth c cc nL ret Ts own g A) {cA : ClassId} {ty : FieldType} (hK : va_K g.1 cls9 (tys6 g ++ [(cA, ty)]) s) (t0 : Nat) {c0 : ClassId} (ht : (tys6 g)[t0]? = some (c0, ty)) (hno : ∀ q : String, ty ≠ .object q) : cA = c0 := by
  have h1 := (C.2.2.2.2.2.1.2 t0 _ ht).2
  have h2 := (hK.2 6 (cA, ty) rfl).2
  cases ty with
  | object q => exact absurd rfl (hno q)
  | _ => exact Option.some.inj (h2.symm.trans h1)
theorem r_newI (C : Cx p s m args meth c cc nL ret Ts own g A) (hw : Wd g A s.heap ws H locs) (harr : (Cond.arrayClass .int).before args s = true) {n : Nat} (hn : n ≤ 134217728) (hcells : cells + 1 ≤ R.cells) (hslots : slots + n ≤ R.slots) (hdg : decode cc pc = .ok (.newarray .int, 2))
    (kk : ∀ (q : Nat) (H1 : Heap), Wd g A s.heap (ws ++ [(q, aI g n (fun _ => 0))]) H1 locs → W p l e R s m args below meth c H1 locs (cells + 1) (slots + n) Q (F0 m (pc + 2) ls (.ref q :: rest))) : W p l e R s m args below meth c H locs cells slots Q (F0 m pc ls (.int (nI n) :: rest)) := by
  refine va_newa (atype := .int) (ty := .int) (N' := n) (a0 := (n, .inl (fun _ => 0))) C.1 C.2.1 harr rfl C.2.2.2.2.2.1 hw.1 hw.2.1 hw.2.2 C.2.2.2.2.2.2.1 (fun cA => by rw [vp_cell_i]; rfl) (nI_pos (by omega)) (nI_clamp (by omega)) (show n * 4 ≤ _ by omega) hcells hslots hdg ?_
  intro q cA H1 hK hP hD hS
  have e := cx_same C hK 0 rfl (fun _ h => by cases h)
  subst e
  exact kk q H1 ⟨hP, hD, hS⟩
theorem r_newJ (C : Cx p s m args meth c cc nL ret Ts own g A) (hw : Wd g A s.heap ws H locs) (harr : (Cond.arrayClass .long).before args s = true) {n : Nat} (hn : n ≤ 67108864) (hcells : cells + 1 ≤ R.cells) (hslots : slots + n ≤ R.slots) (hdg : decode cc pc = .ok (.newarray .long, 2))
    (kk : ∀ (q : Nat) (H1 : Heap), Wd g A s.heap (ws ++ [(q, aJ g n (fun _ => 0))]) H1 locs → W p l e R s m args below meth c H1 locs (cells + 1) (slots + n) Q (F0 m (pc + 2) ls (.ref q :: rest))) : W p l e R s m args below meth c H locs cells slots Q (F0 m pc ls (.int (nI n) :: rest)) := by
  refine va_newa (atype := .long) (ty := .long) (N' := n) (a0 := (n, .inr (.inl (fun _ => 0)))) C.1 C.2.1 harr rfl C.2.2.2.2.2.1 hw.1 hw.2.1 hw.2.2 C.2.2.2.2.2.2.1 (fun cA => by rw [vp_cell_l]; rfl) (nI_pos (by omega)) (nI_clamp (by omega)) (show n * 8 ≤ _ by omega) hcells hslots hdg ?_
  intro q cA H1 hK hP hD hS
  have e := cx_same C hK 1 rfl (fun _ h => by cases h)
  subst e
  exact kk q H1 ⟨hP, hD, hS⟩
theorem r_newB (C : Cx p s m args meth c cc nL ret Ts own g A) (hw : Wd g A s.heap ws H locs) (harr : (Cond.arrayClass .byte).before args s = true) {n : Nat} (hn : n ≤ 134217728) (hcells : cells + 1 ≤ R.cells) (hslots : slots + n ≤ R.slots) (hdg : decode cc pc = .ok (.newarray .byte, 2))
    (kk : ∀ (q : Nat) (H1 : Heap), Wd g A s.heap (ws ++ [(q, aB g n (fun _ => 0))]) H1 locs → W p l e R s m args below meth c H1 locs (cells + 1) (slots + n) Q (F0 m (pc + 2) ls (.ref q :: rest))) : W p l e R s m args below meth c H locs cells slots Q (F0 m pc ls (.int (nI n) :: rest)) := by
  refine va_newa (atype := .byte) (ty := .byte) (N' := n) (a0 := (n, .inl (fun _ => 0))) C.1 C.2.1 harr rfl C.2.2.2.2.2.1 hw.1 hw.2.1 hw.2.2 C.2.2.2.2.2.2.1 (fun cA => by rw [vp_cell_i]; rfl) (nI_pos (by omega)) (nI_clamp (by omega)) (show n * 1 ≤ _ by omega) hcells hslots hdg ?_
  intro q cA H1 hK hP hD hS
  have e := cx_same C hK 2 rfl (fun _ h => by cases h)
  subst e
  exact kk q H1 ⟨hP, hD, hS⟩
theorem r_new (C : Cx p s m args meth c cc nL ret Ts own g A) (hw : Wd g A s.heap ws H locs) {K : String} {T : u_T} {N ci index : Nat} (hin : ∀ w ∈ u_ws K T N, w ∈ Ts) {ty : Nat → FieldType} (hty : ∀ k, k < N → parseFieldDescriptor (T k).2.2.1 = some (ty k)) (hcl : (Cond.classLink own index K).before args s = true) (hinst : (Cond.instantiable K N).before args s = true) (hini : (Cond.initialized K).before args s = true) (hc : cls9[ci]? = some (K, T, N)) (fs : List Value) (hfs : ∀ j, j < N → defaultValue (ty j) = vp_V fs j) (hcells : cells + 1 ≤ R.cells) (hslots : slots + N ≤ R.slots) (hdg : decode cc pc = .ok (.new index, 3))
    (kk : ∀ (q : Nat) (H1 : Heap), Wd g A s.heap (ws ++ [(q, .inr (ci, fs))]) H1 locs → W p l e R s m args below meth c H1 locs (cells + 1) (slots + N) Q (F0 m (pc + 3) ls (.ref q :: rest))) : W p l e R s m args below meth c H locs cells slots Q (F0 m pc ls rest) :=
  va_new C.1 C.2.1 C.2.2.2.2.1 hin ty hty C.2.2.2.1 hcl hinst hini C.2.2.2.2.2.1 hw.1 hw.2.1 hw.2.2 C.2.2.2.2.2.2.1 hc hfs hcells hslots hdg (fun q H1 h1 h2 h3 => kk q H1 ⟨h1, h2, h3⟩)
end BD
