/-! new int[n][k], new int[2][m][k] over worlds -/
def OvA (t : FieldType) (U : State) : Prop := ∃ (comp c : ClassId) (k : Class), U.vm.findClass (FieldType.array t).toString = some comp ∧ U.vm.classes[c]? = some k ∧ k.kind = .array comp (.array t) ∧ U.vm.findClass ("[" ++ (FieldType.array t).toString) = some c
theorem OvA.moved {t : FieldType} {u U : State} (hvm : u.vm.Alike U.vm) (h : OvA t u) : OvA t U := by
  obtain ⟨comp, c, k, h1, h2, h3, h4⟩ := h
  obtain ⟨k', hk', he⟩ := hvm.2.2 _ _ h2
  exact ⟨comp, c, k', by rw [hvm.findClass]; exact h1, hk', by rw [he]; exact h3, by rw [hvm.findClass]; exact h4⟩
def OvB (U : State) : Prop := OvA .int U ∧ OvA (.array .int) U ∧ (Cond.classLink RX7 29 "[[[I").before #[] U = true
theorem ovb_bl : Bl OvB := fun a U f mk h => ⟨h.1, h.2.1, va_tabs (u := U) (U := U.calling f mk a) rfl rfl h.2.2⟩
theorem OvB.warm {s U : State} (hW : s.WarmedH U.vm) (h : OvB s) : OvB U := ⟨h.1.moved hW.alike, h.2.1.moved hW.alike, word_at hW (Or.inl (by decide)) h.2.2⟩
theorem Wd.add {g : GT} {A : Nat → Prop} {H0 : Heap} {ws new : va_W} {H H1 : Heap} {locs : List Loc} (hw : Wd g A H0 ws H locs) (hA : ∀ q : Nat, H0.size ≤ q → A q) (z : H.size ≤ H1.size) (o1 : ∀ a : Nat, a < H.size → H1[a]? = H[a]?) (hP : va_P g.1 cls9 new H1) (hn : ∀ (k : Nat) (x : Nat × va_E), new[k]? = some x → H.size ≤ x.1) (hi : ∀ (i j : Nat) (x y : Nat × va_E), new[i]? = some x → new[j]? = some y → x.1 = y.1 → i = j) : Wd g A H0 (ws ++ new) H1 locs := by
  refine ⟨(hw.1.kept (fun k x hx => o1 x.1 ((hw.1 k x hx).lt))).app hP, hw.2.1.app ⟨hi, fun k x hx => hA x.1 (Nat.le_trans hw.2.2.1 (hn k x hx))⟩ (fun i j x y hx hy e => ?_), Nat.le_trans hw.2.2.1 z, fun x h1 h2 => (o1 x (Nat.lt_of_lt_of_le h1 hw.2.2.1)).trans (hw.2.2.2.1 x h1 h2), hw.2.2.2.2⟩
  have h1 := (hw.1 i x hx).lt
  have h2 := hn j y hy
  omega
theorem app_at {A B : va_W} {k : Nat} {x : Nat × va_E} (h : (A ++ B)[k]? = some x) : (k < A.length ∧ A[k]? = some x) ∨ (A.length ≤ k ∧ B[k - A.length]? = some x) := by
  by_cases q : k < A.length
  · rw [List.getElem?_append_left q] at h; exact Or.inl ⟨q, h⟩
  · rw [List.getElem?_append_right (by omega)] at h; exact Or.inr ⟨by omega, h⟩
theorem grd_of {g : GT} {r : Nat → Nat} {n k i : Nat} {M : Nat → Nat → Int32} {x : Nat × va_E} (h : (grd g r n k M)[i]? = some x) : i < n ∧ x = (r i, aI g k (M i)) := by
  have hi : i < n := by have := (List.getElem?_eq_some_iff.mp h).1; rw [grd_len] at this; exact this
  rw [grd_at hi] at h
  exact ⟨hi, (Option.some.inj h).symm⟩
theorem pgr_of {g : GT} {q : Nat → Nat} {n k i : Nat} {R : Nat → Nat → Nat} {x : Nat × va_E} (h : (pgr g q n k R)[i]? = some x) : i < n ∧ x = (q i, aII g k (ptr k (R i))) := by
  have hi : i < n := by have := (List.getElem?_eq_some_iff.mp h).1; unfold pgr at this; rw [List.length_map, List.length_range] at this; exact this
  rw [pgr_at hi] at h
  exact ⟨hi, (Option.some.inj h).symm⟩
theorem nil_of {k : Nat} {x : Nat × va_E} (h : ([] : va_W)[k]? = some x) : False := by cases h
theorem one_of {k : Nat} {y x : Nat × va_E} (h : ([y] : va_W)[k]? = some x) : k = 0 ∧ x = y := by
  have hk : k < 1 := (List.getElem?_eq_some_iff.mp h).1
  rw [show k = 0 by omega] at h
  exact ⟨by omega, (Option.some.inj h).symm⟩
section MW
variable {p : Program} {l : Launch} {e : Env} {R : Room} {s : State} {m : MethodId} {args : Array Value} {below : List Frame} {meth : Method} {c : Code} {H : Heap} {locs : List Loc} {cells slots : Nat} {Q : State → Prop}
variable {cc : ByteArray} {pc : Nat} {ls : Array Slot} {rest : List Value} {g : GT} {A : Nat → Prop} {ws : va_W} {nL : Nat} {ret : Option FieldType} {Ts : List Cond} {own : String}
theorem cls_I (C : Cx p s m args meth c cc nL ret Ts own g A) (harr : (Cond.arrayClass .int).before args s = true) : s.vm.findClass (FieldType.array .int).toString = some (cI g) ∧ ∃ (k : Class) (c2 : ClassId), s.vm.classes[cI g]? = some k ∧ k.kind = .array c2 .int := by
  obtain ⟨c1, k, c2, h1, h2, h3⟩ := Cond.arrayClass_spec harr
  have h4 : s.vm.findClass ("[" ++ FieldType.int.toString) = some (cI g) := (C.2.2.2.2.2.1.2 0 (cI g, .int) rfl).2
  have e : c1 = cI g := Option.some.inj (h1.symm.trans h4)
  subst e
  exact ⟨h1, k, c2, h2, h3⟩
theorem cls_II (C : Cx p s m args meth c cc nL ret Ts own g A) (ho : OvA .int s) (harr : (Cond.arrayClass .int).before args s = true) : s.vm.findClass (FieldType.array (.array .int)).toString = some (cII g) ∧ ∃ k : Class, s.vm.classes[cII g]? = some k ∧ k.kind = .array (cI g) (.array .int) := by
  obtain ⟨comp, c1, k, h1, h2, h3, h4⟩ := ho
  have h5 : s.vm.findClass ("[" ++ (FieldType.array .int).toString) = some (cII g) := (C.2.2.2.2.2.1.2 4 (cII g, .array .int) rfl).2
  have e : c1 = cII g := Option.some.inj (h4.symm.trans h5)
  subst e
  have e2 : comp = cI g := Option.some.inj (h1.symm.trans (cls_I C harr).1)
  subst e2
  exact ⟨h4, k, h2, h3⟩
theorem cls_III (C : Cx p s m args meth c cc nL ret Ts own g A) (ho : OvA .int s) (ho2 : OvA (.array .int) s) (harr : (Cond.arrayClass .int).before args s = true) : s.vm.findClass (FieldType.array (.array (.array .int))).toString = some (cIII g) ∧ ∃ k : Class, s.vm.classes[cIII g]? = some k ∧ k.kind = .array (cII g) (.array (.array .int)) := by
  obtain ⟨comp, c1, k, h1, h2, h3, h4⟩ := ho2
  have h5 : s.vm.findClass ("[" ++ (FieldType.array (.array .int)).toString) = some (cIII g) := (C.2.2.2.2.2.1.2 5 (cIII g, .array (.array .int)) rfl).2
  have e : c1 = cIII g := Option.some.inj (h4.symm.trans h5)
  subst e
  have e2 : comp = cII g := Option.some.inj (h1.symm.trans (cls_II C ho harr).1)
  subst e2
  exact ⟨h4, k, h2, h3⟩
theorem kind_at {v : Vm} {s : State} {c1 c2 : ClassId} {k : Class} {ty : FieldType} (hal : s.vm.Alike v) (h1 : s.vm.classes[c1]? = some k) (h2 : k.kind = .array c2 ty) : ∃ k' : Class, v.classes[c1]? = some k' ∧ k'.kind = .array c2 ty := by
  obtain ⟨k', hk', he⟩ := hal.2.2 _ _ h1
  exact ⟨k', hk', by rw [he]; exact h2⟩
def zC (c1 : ClassId) (k : Nat) : Cell := { cls := c1, slots := Array.replicate k (defaultValue .int), vm := .none }
theorem zC_size (c1 : ClassId) (k : Nat) : (zC c1 k).slots.size = k := by simp [zC]
theorem zC_eq (g : GT) (k : Nat) : zC (cI g) k = vp_cell (cI g) (k, .inl (fun _ => 0)) := by
  unfold zC
  rw [arrV_new, vp_cell_i]
  rfl
theorem zC_Bd (c1 : ClassId) (k : Nat) : Bd (fun t => t.pushCell (zC c1 k)) 1 k (fun _ _ => zC c1 k) := by
  have h := b1_Bd (zC c1 k)
  rw [zC_size] at h
  exact h
theorem zC_stand (c1 : ClassId) (k : Nat) (t : State) (cells slots : Nat) (X : Stand p l e R s m args below meth c t locs cells slots) : Stand p l e R s m args below meth c (t.pushCell (zC c1 k)) locs (cells + 1) (slots + k) := by
  have h := b1_stand (zC c1 k) t cells slots X
  rw [zC_size] at h
  exact h
theorem oC_ptr (c1 : ClassId) (N h K : Nat) (r : Nat → Nat) (hr : ∀ j, j < N → r j = h + 1 + j * K) : oC c1 N h K N = vp_cell c1 (N, .inr (.inr (.inr (.inr (ptr N r))))) := by
  rw [oC_eq, vp_cell_q]
  refine congrArg (arrV c1 N) (funext fun j => ?_)
  unfold ptr
  by_cases q : j < N
  · rw [if_pos q, if_pos q, hr j q]
  · rw [if_neg q, if_neg q]
theorem r_mna2 (C : Cx p s m args meth c cc nL ret Ts own g A) (hw : Wd g A s.heap ws H locs) (ho : OvA .int s) {index : Nat} (hclink : (Cond.classLink own index "[[I").before args s = true) (harr : (Cond.arrayClass .int).before args s = true) {n k : Nat} (hn : n ≤ 1000000) (hk : k ≤ 1000000) (hcells : cells + (1 + n * 1) ≤ R.cells) (hslots : slots + (n + n * k) ≤ R.slots) (hdg : decode cc pc = .ok (.multianewarray index 2, 4))
    (kk : ∀ (q : Nat) (r : Nat → Nat) (H1 : Heap), Wd g A s.heap (ws ++ ([(q, aII g n (ptr n r))] ++ (grd g r n k (fun _ _ => 0) ++ []))) H1 locs → W p l e R s m args below meth c H1 locs (cells + (1 + n * 1)) (slots + (n + n * k)) Q (F0 m (pc + 4) ls (.ref q :: rest))) : W p l e R s m args below meth c H locs cells slots Q (F0 m pc ls (.int (nI k) :: .int (nI n) :: rest)) := by
  obtain ⟨f1, k1, c2, f2, f3⟩ := cls_I C harr
  obtain ⟨g1, k2, g2, g3⟩ := cls_II C ho harr
  have hnc : (nI n).toNatClampNeg = n := nI_clamp (by omega)
  have hkc : (nI k).toNatClampNeg = k := nI_clamp (by omega)
  refine w_mna2 (nm := "[[I") (cA := cII g) C.1 C.2.1 C.2.2.2.1 hclink g1 (bN_Bd (zC_Bd (cI g) k) (cII g) n) (fun t cells slots X => bN_stand (zC_Bd (cI g) k) (zC_stand (cI g) k) (cII g) n t cells slots X n) (fun v hal l1 l2 => ?_) hdg hcells hslots (fun H1 z1 o1 c1 => ?_)
  · obtain ⟨k1', a1, a2⟩ := kind_at hal f2 f3
    obtain ⟨k2', b1, b2⟩ := kind_at hal g2 g3
    have hb := mk_base (e := e) (n := nI k) a1 a2 (nI_pos (by omega)) (by rw [hkc]; omega) (by rw [hkc]; show k * 4 ≤ _; omega) rfl rfl
    rw [hkc] at hb
    have hs := mk_step (e := e) (n := nI n) (m := nI k) (rest := []) (c := cII g) (zC_Bd (cI g) k) hb (by simp [nI_pos (show k < 2 ^ 31 by omega)]) b1 b2 rfl (nI_pos (by omega)) (by rw [hnc]; omega) (by rw [hnc]; show n * 4 ≤ _; omega)
    rw [hnc] at hs
    exact hs
  · refine kk H.size (fun i => H.size + 1 + i) H1 (hw.add C.2.2.2.2.2.2.1 (by omega) o1 ?_ ?_ ?_)
    · intro i x hx
      rcases app_at hx with ⟨-, hx⟩ | ⟨h0, hx⟩
      · obtain ⟨rfl, rfl⟩ := one_of hx
        have h9 := c1 0 (by omega)
        rw [if_pos rfl, oC_ptr (cII g) n H.size 1 (fun i => H.size + 1 + i) (fun j _ => by show H.size + 1 + j = _; omega)] at h9
        exact h9
      · rcases app_at hx with ⟨-, hx⟩ | ⟨-, hx⟩
        · obtain ⟨hi, rfl⟩ := grd_of hx
          obtain ⟨j, hj⟩ : ∃ j, j = i - [((H.size : Nat), aII g n (ptr n (fun i => H.size + 1 + i)))].length := ⟨_, rfl⟩
          rw [← hj] at hi ⊢
          have h9 := c1 (1 + j) (by omega)
          rw [if_neg (by omega), zC_eq] at h9
          rw [show H.size + (1 + j) = H.size + 1 + j by omega] at h9
          exact h9
        · exact (nil_of hx).elim
    · intro i x hx
      rcases app_at hx with ⟨-, hx⟩ | ⟨h0, hx⟩
      · obtain ⟨-, rfl⟩ := one_of hx; exact Nat.le_refl _
      · rcases app_at hx with ⟨-, hx⟩ | ⟨-, hx⟩
        · obtain ⟨hi, rfl⟩ := grd_of hx; show H.size ≤ H.size + 1 + _; omega
        · exact (nil_of hx).elim
    · have key : ∀ (i : Nat) (x : Nat × va_E), ([((H.size : Nat), aII g n (ptr n (fun i => H.size + 1 + i)))] ++ (grd g (fun i => H.size + 1 + i) n k (fun _ _ => 0) ++ []))[i]? = some x → x.1 = H.size + i := by
        intro i x hx
        rcases app_at hx with ⟨-, hx⟩ | ⟨h0, hx⟩
        · obtain ⟨rfl, rfl⟩ := one_of hx; rfl
        · rcases app_at hx with ⟨-, hx⟩ | ⟨-, hx⟩
          · obtain ⟨hi, rfl⟩ := grd_of hx
            have h0 : 1 ≤ i := h0
            show H.size + 1 + (i - 1) = _
            omega
          · exact (nil_of hx).elim
      intro i j x y hx hy e
      have := key i x hx
      have := key j y hy
      omega
theorem r_mna3 (C : Cx p s m args meth c cc nL ret Ts own g A) (hw : Wd g A s.heap ws H locs) (hov : OvB s) {index : Nat} (hclink : (Cond.classLink own index "[[[I").before args s = true) (harr : (Cond.arrayClass .int).before args s = true) {n o k : Nat} (hn : n = 2) (ho1 : o = 36 ∨ o = 32) (hk : k ≤ 1000) (hcells : cells + (1 + n * (1 + o * 1)) ≤ R.cells) (hslots : slots + (n + n * (o + o * k)) ≤ R.slots) (hdg : decode cc pc = .ok (.multianewarray index 3, 4))
    (kk : ∀ (q : Nat) (qf rf : Nat → Nat) (H1 : Heap), Wd g A s.heap (ws ++ ([(q, aIII g n (ptr n qf))] ++ (pgr g qf n o (fun c t => rf (c * o + t)) ++ (grd g rf (n * o) k (fun _ _ => 0) ++ [])))) H1 locs → W p l e R s m args below meth c H1 locs (cells + (1 + n * (1 + o * 1))) (slots + (n + n * (o + o * k))) Q (F0 m (pc + 4) ls (.ref q :: rest))) : W p l e R s m args below meth c H locs cells slots Q (F0 m pc ls (.int (nI k) :: .int (nI o) :: .int (nI n) :: rest)) := by
  obtain ⟨f1, k1, c2, f2, f3⟩ := cls_I C harr
  obtain ⟨g1, k2, g2, g3⟩ := cls_II C hov.1 harr
  obtain ⟨i1, k3, i2, i3⟩ := cls_III C hov.1 hov.2.1 harr
  have hnc : (nI n).toNatClampNeg = n := nI_clamp (by omega)
  have hoc : (nI o).toNatClampNeg = o := nI_clamp (by omega)
  have hkc : (nI k).toNatClampNeg = k := nI_clamp (by omega)
  refine w_mna3 (nm := "[[[I") (cA := cIII g) C.1 C.2.1 C.2.2.2.1 hclink i1 (bN_Bd (bN_Bd (zC_Bd (cI g) k) (cII g) o) (cIII g) n) (fun t cells slots X => bN_stand (bN_Bd (zC_Bd (cI g) k) (cII g) o) (fun t cells slots X => bN_stand (zC_Bd (cI g) k) (zC_stand (cI g) k) (cII g) o t cells slots X o) (cIII g) n t cells slots X n) (fun v hal l1 l2 => ?_) hdg hcells hslots (fun H1 z1 o1 c1 => ?_)
  · obtain ⟨k1', a1, a2⟩ := kind_at hal f2 f3
    obtain ⟨k2', b1, b2⟩ := kind_at hal g2 g3
    obtain ⟨k3', d1, d2⟩ := kind_at hal i2 i3
    have hb := mk_base (e := e) (n := nI k) a1 a2 (nI_pos (by omega)) (by rw [hkc]; omega) (by rw [hkc]; show k * 4 ≤ _; omega) rfl rfl
    rw [hkc] at hb
    have hs := mk_step (e := e) (n := nI o) (m := nI k) (rest := []) (c := cII g) (zC_Bd (cI g) k) hb (by simp [nI_pos (show k < 2 ^ 31 by omega)]) b1 b2 rfl (nI_pos (by omega)) (by rw [hoc]; omega) (by rw [hoc]; show o * 4 ≤ _; omega)
    rw [hoc] at hs
    have hs3 := mk_step (e := e) (n := nI n) (m := nI o) (rest := [nI k]) (c := cIII g) (bN_Bd (zC_Bd (cI g) k) (cII g) o) hs (by simp [nI_pos (show k < 2 ^ 31 by omega), nI_pos (show o < 2 ^ 31 by omega)]) d1 d2 rfl (nI_pos (by omega)) (by rw [hnc]; omega) (by rw [hnc]; show n * 4 ≤ _; omega)
    rw [hnc] at hs3
    exact hs3
  · obtain ⟨qf, hqf⟩ : ∃ qf : Nat → Nat, qf = fun c => H.size + 1 + c * (1 + o * 1) := ⟨_, rfl⟩
    obtain ⟨rf, hrf⟩ : ∃ rf : Nat → Nat, rf = fun q => H.size + 1 + (q / o) * (1 + o * 1) + 1 + q % o := ⟨_, rfl⟩
    have hq : ∀ c, qf c = H.size + 1 + c * (1 + o * 1) := fun c => by rw [hqf]
    have hr : ∀ q, rf q = H.size + 1 + (q / o) * (1 + o * 1) + 1 + q % o := fun q => by rw [hrf]
    subst hn
    have key : ∀ (i : Nat) (x : Nat × va_E), ([((H.size : Nat), aIII g 2 (ptr 2 qf))] ++ (pgr g qf 2 o (fun c t => rf (c * o + t)) ++ (grd g rf (2 * o) k (fun _ _ => 0) ++ [])))[i]? = some x → (i = 0 ∧ x = (H.size, aIII g 2 (ptr 2 qf))) ∨ (1 ≤ i ∧ i < 3 ∧ x = (qf (i - 1), aII g o (ptr o (fun t => rf ((i - 1) * o + t))))) ∨ (3 ≤ i ∧ i < 3 + 2 * o ∧ x = (rf (i - 3), aI g k (fun _ => 0))) := by
      intro i x hx
      rcases app_at hx with ⟨-, hx⟩ | ⟨h0, hx⟩
      · obtain ⟨rfl, rfl⟩ := one_of hx; exact Or.inl ⟨rfl, rfl⟩
      · have h0 : 1 ≤ i := h0
        rcases app_at hx with ⟨-, hx⟩ | ⟨h1, hx⟩
        · obtain ⟨hi, rfl⟩ := pgr_of hx
          have hi : i - 1 < 2 := hi
          exact Or.inr (Or.inl ⟨h0, by omega, rfl⟩)
        · have e2 : (pgr g qf 2 o (fun c t => rf (c * o + t))).length = 2 := rfl
          rw [e2] at h1 hx
          have h1 : 2 ≤ i - 1 := h1
          rcases app_at hx with ⟨-, hx⟩ | ⟨-, hx⟩
          · obtain ⟨hi, rfl⟩ := grd_of hx
            have hi : i - 1 - 2 < 2 * o := hi
            refine Or.inr (Or.inr ⟨by omega, by omega, ?_⟩)
            show (rf (i - 1 - 2), _) = (rf (i - 3), _)
            rw [show i - 1 - 2 = i - 3 by omega]
          · exact (nil_of hx).elim
    refine kk H.size qf rf H1 (hw.add C.2.2.2.2.2.2.1 (by omega) o1 ?_ ?_ ?_)
    · intro i x hx
      rcases key i x hx with ⟨rfl, rfl⟩ | ⟨h1, h2, rfl⟩ | ⟨h1, h2, rfl⟩
      · have h9 := c1 0 (by omega)
        rw [if_pos rfl, oC_ptr (cIII g) 2 H.size (1 + o * 1) qf (fun j _ => hq j)] at h9
        exact h9
      · obtain ⟨ci, hci⟩ : ∃ z, z = i - 1 := ⟨_, rfl⟩
        rw [← hci]
        have h9 := c1 (1 + ci * (1 + o * 1)) (by rcases ho1 with rfl | rfl <;> omega)
        rw [if_neg (by omega), show 1 + ci * (1 + o * 1) - 1 = ci * (1 + o * 1) by omega, Nat.mul_div_cancel _ (by omega), Nat.mul_mod_left, if_pos rfl] at h9
        rw [oC_ptr (cII g) o (H.size + 1 + ci * (1 + o * 1)) 1 (fun t => rf (ci * o + t)) (fun j hj => by
          show rf (ci * o + j) = _
          rw [hr]
          rcases ho1 with rfl | rfl <;> omega)] at h9
        show H1[qf ci]? = _
        rw [hq, show H.size + 1 + ci * (1 + o * 1) = H.size + (1 + ci * (1 + o * 1)) by omega]
        exact h9
      · obtain ⟨ri, hri⟩ : ∃ z, z = i - 3 := ⟨_, rfl⟩
        rw [← hri]
        have hb : ri < 2 * o := by omega
        have h9 := c1 (1 + ((ri / o) * (1 + o * 1) + (1 + ri % o))) (by rcases ho1 with rfl | rfl <;> omega)
        have e1 : (1 + ((ri / o) * (1 + o * 1) + (1 + ri % o)) - 1) / (1 + o * 1) = ri / o := by rcases ho1 with rfl | rfl <;> omega
        have e2 : (1 + ((ri / o) * (1 + o * 1) + (1 + ri % o)) - 1) % (1 + o * 1) = 1 + ri % o := by rcases ho1 with rfl | rfl <;> omega
        rw [if_neg (by omega), e1, e2, if_neg (by omega), zC_eq] at h9
        show H1[rf ri]? = _
        rw [hr, show H.size + 1 + (ri / o) * (1 + o * 1) + 1 + ri % o = H.size + (1 + ((ri / o) * (1 + o * 1) + (1 + ri % o))) by omega]
        exact h9
    · intro i x hx
      rcases key i x hx with ⟨rfl, rfl⟩ | ⟨h1, h2, rfl⟩ | ⟨h1, h2, rfl⟩
      · exact Nat.le_refl _
      · show H.size ≤ qf _; rw [hq]; omega
      · show H.size ≤ rf _; rw [hr]; omega
    · intro i j x y hx hy e1
      rcases key i x hx with ⟨h0, h3⟩ | ⟨h1, h2, h3⟩ | ⟨h1, h2, h3⟩ <;> rcases key j y hy with ⟨j0, j3⟩ | ⟨j1, j2, j3⟩ | ⟨j1, j2, j3⟩ <;> rw [h3, j3] at e1 <;> dsimp only at e1 <;> (try rw [hq] at e1) <;> (try rw [hr] at e1) <;> (try rw [hq] at e1) <;> (try rw [hr] at e1) <;> rcases ho1 with rfl | rfl <;> omega
theorem r_tst (C : Cx p s m args meth c cc nL ret Ts own g A) {q n i : Nat} {h : Nat → Int32} (hw : Wd g A s.heap (ws ++ [(q, aI g n (fun j => if j < i then h j else 0))]) H locs) (hi : i < n) (hn : n < 2 ^ 31) {v : Int32} (hv : v = h i) (hdg : decode cc pc = .ok (.iastore, 1))
    (kk : ∀ (H1 : Heap) (locs1 : List Loc), Wd g A s.heap (ws ++ [(q, aI g n (fun j => if j < i + 1 then h j else 0))]) H1 locs1 → W p l e R s m args below meth c H1 locs1 cells slots Q (F0 m (pc + 1) ls rest)) : W p l e R s m args below meth c H locs cells slots Q (F0 m pc ls (.int v :: .int (nI i) :: .ref q :: rest)) := by
  subst hv
  refine r_iast C hw _ (at_r (i := 0) rfl) hi hn (set_r (i := 0) (by rw [tabI_s]; rfl)) hdg kk
end MW
/-- new cells, an outer array and its blocks, into their places -/
theorem Wd.mnaF {g : GT} {A : Nat → Prop} {H0 : Heap} {E O : va_W} {bs nb : List va_W} {H : Heap} {locs : List Loc} (hw : Wd g A H0 ((E ++ bs.flatten) ++ (O ++ nb.flatten)) H locs) : Wd g A H0 ((E ++ O) ++ (bs ++ nb).flatten) H locs := by
  refine hw.perm ?_
  rw [List.flatten_append, List.append_assoc, List.append_assoc]
  refine List.Perm.append_left E ?_
  rw [← List.append_assoc, ← List.append_assoc]
  exact List.Perm.append_right nb.flatten List.perm_append_comm
