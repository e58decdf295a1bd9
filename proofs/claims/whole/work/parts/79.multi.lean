/-! arrays of arrays, made at once: a builder makes an array and all that hangs on it, dimension by dimension -/
def oC (c : ClassId) (N h K : Nat) : Nat → Cell
  | 0 => { cls := c, slots := Array.replicate N .null, vm := .none }
  | i + 1 => (oC c N h K i).setSlot i (.ref (h + 1 + i * K))
theorem oC_eq (c : ClassId) (N h K : Nat) : ∀ i, oC c N h K i = arrV c N (fun j => va_rf (if j < i then some (h + 1 + j * K) else none)) := by
  intro i
  induction i with
  | zero =>
    show ({ cls := c, slots := Array.replicate N .null, vm := .none } : Cell) = _
    rw [arrV_new]
    refine congrArg (arrV c N) (funext fun j => ?_)
    rw [if_neg (by omega)]
    rfl
  | succ i ih =>
    show (oC c N h K i).setSlot i (.ref (h + 1 + i * K)) = _
    rw [ih, arrV_store]
    refine congrArg (arrV c N) (funext fun j => ?_)
    unfold updV
    by_cases e : j = i
    · subst e
      rw [if_pos rfl, if_pos (by omega)]
      rfl
    · rw [if_neg e]
      dsimp only
      by_cases q : j < i
      · rw [if_pos q, if_pos (by omega)]
      · rw [if_neg q, if_neg (by omega)]
theorem oC_cls (c : ClassId) (N h K i : Nat) : (oC c N h K i).cls = c ∧ (oC c N h K i).vm = .none ∧ (oC c N h K i).slots.size = N := by
  rw [oC_eq]
  exact ⟨rfl, rfl, arrV_size _ _ _⟩
def bN (f : State → State) (c : ClassId) (N K : Nat) : Nat → State → State
  | 0, t => t.pushCell (oC c N t.heap.size K 0)
  | i + 1, t => (f (bN f c N K i t)).setCell t.heap.size (oC c N t.heap.size K (i + 1))
def Bd (f : State → State) (K M : Nat) (cont : Nat → Nat → Cell) : Prop :=
  (∀ t : State, (f t).heap.size = t.heap.size + K) ∧ (∀ t : State, (f t).vm = t.vm) ∧ (∀ t : State, (f t).slotsUsed = t.slotsUsed + M) ∧ (∀ (t : State) (a : Nat), a < t.heap.size → (f t).heap[a]? = t.heap[a]?) ∧ (∀ (t : State) (g : JFrame), f (t.setTop g) = (f t).setTop g) ∧ ∀ (t : State) (j : Nat), j < K → (f t).heap[t.heap.size + j]? = some (cont t.heap.size j)
theorem b1_Bd (cell : Cell) : Bd (fun t => t.pushCell cell) 1 cell.slots.size (fun _ _ => cell) := by
  refine ⟨fun t => by simp, fun t => rfl, fun t => by simp, fun t a ha => State.heap_pushCell_of_lt _ _ ha, fun t g => State.pushCell_setTop .., fun t j hj => ?_⟩
  rw [show j = 0 by omega]
  exact State.heap_pushCell_size _ _
theorem setC_size (t : State) (a : Nat) (cell : Cell) : (t.setCell a cell).heap.size = t.heap.size := by simp [State.setCell]
theorem bN_facts {f : State → State} {K M : Nat} {cont : Nat → Nat → Cell} (h : Bd f K M cont) (c : ClassId) (N : Nat) (t : State) : ∀ i, (bN f c N K i t).heap.size = t.heap.size + 1 + i * K ∧ (bN f c N K i t).heap[t.heap.size]? = some (oC c N t.heap.size K i) ∧ (bN f c N K i t).vm = t.vm ∧ (bN f c N K i t).slotsUsed = t.slotsUsed + N + i * M ∧ (∀ a, a < t.heap.size → (bN f c N K i t).heap[a]? = t.heap[a]?) ∧ ∀ q r, q < i → r < K → (bN f c N K i t).heap[t.heap.size + 1 + q * K + r]? = some (cont (t.heap.size + 1 + q * K) r) := by
  intro i
  induction i with
  | zero =>
    refine ⟨by simp [bN], State.heap_pushCell_size _ _, rfl, ?_, fun a ha => State.heap_pushCell_of_lt _ _ ha, fun q r hq => by omega⟩
    show (t.pushCell (oC c N t.heap.size K 0)).slotsUsed = _
    have e := (oC_cls c N t.heap.size K 0).2.2
    simp [e]
  | succ i ih =>
    obtain ⟨u, eu⟩ : ∃ u, u = bN f c N K i t := ⟨_, rfl⟩
    rw [← eu] at ih
    obtain ⟨a1, a2, a3, a4, a5, a6⟩ := ih
    have hb : (f u).heap[t.heap.size]? = some (oC c N t.heap.size K i) := by rw [h.2.2.2.1 u _ (by rw [a1]; omega)]; exact a2
    have es : (i + 1) * K = i * K + K := Nat.succ_mul i K
    have eM : (i + 1) * M = i * M + M := Nat.succ_mul i M
    have e0 : bN f c N K (i + 1) t = (f u).setCell t.heap.size (oC c N t.heap.size K (i + 1)) := by rw [eu]; rfl
    rw [e0]
    refine ⟨?_, State.heap_setCell_self hb, ?_, ?_, fun a ha => ?_, fun q r hq hr => ?_⟩
    · rw [setC_size, h.1, a1]; omega
    · show (f u).vm = t.vm
      rw [h.2.1, a3]
    · have e1 : ((f u).setCell t.heap.size (oC c N t.heap.size K (i + 1))).slotsUsed = (f u).slotsUsed := by simp
      rw [e1, h.2.2.1, a4]; omega
    · rw [State.heap_setCell_other (Nat.ne_of_gt ha), h.2.2.2.1 u a (by rw [a1]; omega)]
      exact a5 a ha
    · rw [State.heap_setCell_other (show t.heap.size ≠ t.heap.size + 1 + q * K + r by omega)]
      rcases Nat.lt_or_ge q i with z | z
      · have z2 : q * K + K ≤ i * K := by
          have := Nat.mul_le_mul_right K (show q + 1 ≤ i from z)
          rw [Nat.succ_mul] at this
          exact this
        rw [h.2.2.2.1 u _ (by rw [a1]; omega)]
        exact a6 q r z hr
      · have e2 : q = i := by omega
        subst e2
        have := h.2.2.2.2.2 u r hr
        rw [a1] at this
        exact this
theorem bN_top {f : State → State} {K M : Nat} {cont : Nat → Nat → Cell} (h : Bd f K M cont) (c : ClassId) (N : Nat) (t : State) (g : JFrame) : ∀ i, bN f c N K i (t.setTop g) = (bN f c N K i t).setTop g := by
  intro i
  induction i with
  | zero => simp only [bN, State.heap_setTop, State.pushCell_setTop]
  | succ i ih => simp only [bN, ih, h.2.2.2.2.1, State.heap_setTop, State.setCell_setTop]
theorem bN_Bd {f : State → State} {K M : Nat} {cont : Nat → Nat → Cell} (h : Bd f K M cont) (c : ClassId) (N : Nat) : Bd (bN f c N K N) (1 + N * K) (N + N * M) (fun h j => if j = 0 then oC c N h K N else cont (h + 1 + (j - 1) / K * K) ((j - 1) % K)) := by
  refine ⟨fun t => by rw [(bN_facts h c N t N).1]; omega, fun t => (bN_facts h c N t N).2.2.1, fun t => by rw [(bN_facts h c N t N).2.2.2.1]; omega, fun t a ha => (bN_facts h c N t N).2.2.2.2.1 a ha, fun t g => bN_top h c N t g N, fun t j hj => ?_⟩
  dsimp only
  by_cases q : j = 0
  · rw [if_pos q, q]
    exact (bN_facts h c N t N).2.1
  · rw [if_neg q]
    have hK : 0 < K := Nat.pos_of_ne_zero (fun z => by rw [z, Nat.mul_zero] at hj; omega)
    have h1 : (j - 1) / K < N := Nat.div_lt_of_lt_mul (by rw [Nat.mul_comm]; omega)
    have h2 := (bN_facts h c N t N).2.2.2.2.2 ((j - 1) / K) ((j - 1) % K) h1 (Nat.mod_lt _ hK)
    have h3 : (j - 1) / K * K + (j - 1) % K = j - 1 := by rw [Nat.mul_comm]; exact Nat.div_add_mod _ _
    rw [show t.heap.size + j = t.heap.size + 1 + (j - 1) / K * K + (j - 1) % K by omega]
    exact h2
section MUS
variable {p : Program} {l : Launch} {e : Env} {R : Room} {s : State} {m : MethodId} {args : Array Value} {below : List Frame} {meth : Method} {c : Code} {locs : List Loc}
theorem bN_stand {f : State → State} {K M : Nat} {cont : Nat → Nat → Cell} (h : Bd f K M cont) (hf : ∀ (t : State) (cells slots : Nat), Stand p l e R s m args below meth c t locs cells slots → Stand p l e R s m args below meth c (f t) locs (cells + K) (slots + M)) (cA : ClassId) (N : Nat) (t : State) (cells slots : Nat) (X : Stand p l e R s m args below meth c t locs cells slots) : ∀ i, Stand p l e R s m args below meth c (bN f cA N K i t) locs (cells + (1 + i * K)) (slots + (N + i * M)) := by
  intro i
  induction i with
  | zero =>
    have k := X.pushed (oC cA N t.heap.size K 0)
    rw [(oC_cls cA N t.heap.size K 0).2.2] at k
    rw [show cells + (1 + 0 * K) = cells + 1 by omega, show slots + (N + 0 * M) = slots + N by omega]
    exact k
  | succ i ih =>
    obtain ⟨a1, a2, -, -, -, -⟩ := bN_facts h cA N t i
    have hb : (f (bN f cA N K i t)).heap[t.heap.size]? = some (oC cA N t.heap.size K i) := by rw [h.2.2.2.1 _ _ (by rw [a1]; omega)]; exact a2
    have k := ((hf _ _ _ ih).stored hb i (.ref (t.heap.size + 1 + i * K))).dropFresh (fun x hx => by
      rw [List.mem_singleton.mp hx]
      exact X.heapGrown)
    rw [show cells + (1 + (i + 1) * K) = cells + (1 + i * K) + K by rw [Nat.succ_mul]; omega, show slots + (N + (i + 1) * M) = slots + (N + i * M) + M by rw [Nat.succ_mul]; omega]
    exact k
theorem b1_stand (cell : Cell) (t : State) (cells slots : Nat) (X : Stand p l e R s m args below meth c t locs cells slots) : Stand p l e R s m args below meth c (t.pushCell cell) locs (cells + 1) (slots + cell.slots.size) := X.pushed cell
end MUS
/-- an action makes what a builder lays -/
def Mk (e : Env) (v0 : Vm) (act : Sem Addr) (f : State → State) (K M : Nat) : Prop := ∀ (E : CtlPost) (d : Bool) (acts : List Action) (t : State) (Q : Addr → Pre), t.vm = v0 → t.heap.size + K ≤ e.platform.maxCells → t.slotsUsed + M ≤ e.platform.maxSlots → (∀ d' acts', Q t.heap.size d' acts' (f t)) → wp act Q E e d acts t
theorem mk_new {e : Env} {v0 : Vm} {c comp : ClassId} {k : Class} {ty : FieldType} {len : Nat} {x : Value} (hk : v0.classes[c]? = some k) (hkind : k.kind = .array comp ty) (h1 : len ≤ e.platform.arrayLengthLimit) (h2 : len * componentBytes ty ≤ e.platform.maxHeapBytes) (hf : fits ty x = true) (hd : x.isDefault = true) : Mk e v0 (newArray c len x) (fun t => t.pushCell { cls := c, slots := Array.replicate len x, vm := .none }) 1 len := by
  intro E d acts t Q hv hc hs hq
  subst hv
  have hfit : ∀ i v, (Array.replicate len x)[i]? = some v → t.fitsSlot c .none i v = true := fun i v q => by
    rw [Array.getElem?_replicate] at q
    split at q
    · cases q
      simp [State.fitsSlot, State.slotType?, hk, hkind, hf]
    · cases q
  have hacts : allocActs (Array.replicate len x) t.heap.size acts = acts := by
    unfold allocActs
    rw [if_pos (by rw [Array.all_replicate]; split <;> simp [hd])]
  simp only [newArray, arrayFits, wp_bind', W.ask, W.ite, wp_pure', W.theClass, hk, hkind, W.alloc, W.stop, Option.some.injEq, exists_eq_left', Array.size_replicate, hacts]
  rw [if_neg (by omega), if_neg (by omega), if_neg (by omega)]
  exact ⟨by omega, by omega, hfit, hq _ _⟩
theorem mk_base {e : Env} {v0 : Vm} {c comp : ClassId} {k : Class} {ty : FieldType} {n : Int32} (hk : v0.classes[c]? = some k) (hkind : k.kind = .array comp ty) (hn : ¬ n < 0) (h1 : n.toNatClampNeg ≤ e.platform.arrayLengthLimit) (h2 : n.toNatClampNeg * componentBytes ty ≤ e.platform.maxHeapBytes) (hf : fits ty (defaultValue ty) = true) (hd : (defaultValue ty).isDefault = true) : Mk e v0 (multianewarray.make c [n]) (fun t => t.pushCell { cls := c, slots := Array.replicate n.toNatClampNeg (defaultValue ty), vm := .none }) 1 n.toNatClampNeg := by
  intro E d acts t Q hv hc hs hq
  have hk' : t.vm.classes[c]? = some k := by rw [hv]; exact hk
  rw [multianewarray.make]
  simp only [wp_bind', W.ite, hn, if_false, wp_pure', W.theClass, hk', hkind, Option.some.injEq, exists_eq_left']
  exact mk_new hk hkind h1 h2 hf hd E d acts t Q hv hc hs hq
theorem ref_fits {ty : FieldType} (h : ty.isReference = true) {v : Value} (hv : v = .null ∨ ∃ a, v = .ref a) : fits ty v = true := by
  rcases hv with rfl | ⟨a, rfl⟩ <;> cases ty <;> first | rfl | (simp [FieldType.isReference] at h)
theorem mk_step {e : Env} {v0 : Vm} {c comp : ClassId} {k : Class} {ty : FieldType} {n m : Int32} {rest : List Int32} {f : State → State} {K M : Nat} {cont : Nat → Nat → Cell} (hB : Bd f K M cont) (hin : Mk e v0 (multianewarray.make comp (m :: rest)) f K M) (hneg : (m :: rest).find? (· < 0) = none) (hk : v0.classes[c]? = some k) (hkind : k.kind = .array comp ty) (href : ty.isReference = true) (hn : ¬ n < 0) (h1 : n.toNatClampNeg ≤ e.platform.arrayLengthLimit) (h2 : n.toNatClampNeg * componentBytes ty ≤ e.platform.maxHeapBytes) : Mk e v0 (multianewarray.make c (n :: m :: rest)) (bN f c n.toNatClampNeg K n.toNatClampNeg) (1 + n.toNatClampNeg * K) (n.toNatClampNeg + n.toNatClampNeg * M) := by
  intro E d acts t Q hv hc hs hq
  have hk' : t.vm.classes[c]? = some k := by rw [hv]; exact hk
  generalize hN : n.toNatClampNeg = N at h1 h2 hc hs hq
  rw [multianewarray.make]
  simp only [wp_bind', W.ite, hn, if_false, wp_pure', W.theClass, hk', hkind, Option.some.injEq, exists_eq_left', hN]
  refine mk_new hk hkind h1 h2 (ref_fits href (Or.inl rfl)) rfl E d acts t _ hv (by omega) (by omega) (fun d' acts' => ?_)
  simp only [hneg]
  rw [ite_self, wp_bind', Std.Legacy.Range.forIn_eq_forIn_range', show ([:N] : Std.Legacy.Range).size = N by simp [Std.Legacy.Range.size]]
  show wp (forIn (List.range' 0 N 1) PUnit.unit _) _ E e d' acts' _
  refine wp_forIn_inv (fun left t' => ∃ i, i ≤ N ∧ left = List.range' i (N - i) ∧ t' = bN f c N K i t) _ _ ⟨0, Nat.zero_le _, rfl, rfl⟩ ?_ ?_
  · rintro x left t' d2 acts2 Q2 ⟨i, hi, hl, rfl⟩ hnext
    have hlt : i < N := by
      rcases Nat.lt_or_ge i N with z | z
      · exact z
      · rw [show N - i = 0 by omega] at hl
        cases hl
    rw [show N - i = (N - (i + 1)) + 1 by omega, List.range'_succ] at hl
    obtain ⟨rfl, hleft⟩ : x = i ∧ left = List.range' (i + 1) (N - (i + 1)) := ⟨(List.cons.inj hl).1, (List.cons.inj hl).2⟩
    obtain ⟨a1, a2, a3, a4, -, -⟩ := bN_facts hB c N t x
    obtain ⟨o1, o2, o3⟩ := oC_cls c N t.heap.size K x
    have hmK : x * K + K ≤ N * K := by
      have := Nat.mul_le_mul_right K (show x + 1 ≤ N from hlt)
      rw [Nat.succ_mul] at this; exact this
    have hmM : x * M + M ≤ N * M := by
      have := Nat.mul_le_mul_right M (show x + 1 ≤ N from hlt)
      rw [Nat.succ_mul] at this; exact this
    simp only [wp_bind']
    refine hin E d2 acts2 _ _ (by rw [a3]; exact hv) (by rw [a1]; omega) (by rw [a4]; omega) (fun d3 acts3 => ?_)
    have hself : (f (bN f c N K x t)).heap[t.heap.size]? = some (oC c N t.heap.size K x) := by rw [hB.2.2.2.1 _ _ (by rw [a1]; omega)]; exact a2
    simp only [wp_bind', W.writeLoc, wp_pure']
    refine ⟨oC c N t.heap.size K x, hself, by rw [o2]; simp, by rw [o3]; exact hlt, ?_, hnext _ _ _ ⟨x + 1, hlt, hleft, ?_⟩⟩
    · rw [o1, o2]
      have hvm : (f (bN f c N K x t)).vm = t.vm := by rw [hB.2.1, a3]
      simp [State.fitsSlot, State.slotType?, hvm, hk', hkind, ref_fits href (Or.inr ⟨_, rfl⟩)]
    · rw [a1]
      rfl
  · rintro t' d2 acts2 ⟨i, hi, hl, rfl⟩
    have hiN : i = N := by
      rcases Nat.lt_or_ge i N with z | z
      · rw [show N - i = (N - (i + 1)) + 1 by omega, List.range'_succ] at hl
        cases hl
      · omega
    subst hiN
    simp only [wp_pure']
    exact hq _ _
/-! the rows -/
theorem over_spec {args : Array Value} {s : State} {t : FieldType} (h : (Cond.arrayOver (.array t)).before args s = true) : ∃ (comp c : ClassId) (k : Class), s.vm.findClass (FieldType.array t).toString = some comp ∧ s.vm.classes[c]? = some k ∧ k.kind = .array comp (.array t) ∧ s.vm.findClass ("[" ++ (FieldType.array t).toString) = some c := by
  unfold Cond.before at h
  simp only [Cond.holds, Cond.value, beq_iff_eq] at h
  obtain ⟨b, hb⟩ : ∃ b, b = s.vm.findClass (FieldType.array t).toString := ⟨_, rfl⟩
  rw [← hb] at h
  cases b with
  | none => simp at h
  | some comp =>
    simp only [Option.bind_some, Option.bind_eq_some_iff, Option.map_eq_some_iff] at h
    obtain ⟨c, hi, k, hk, hq⟩ := h
    obtain ⟨hlt, hp, -⟩ := Array.findIdx?_eq_some_iff_getElem.mp hi
    rw [(Array.getElem?_eq_some_iff.mp hk).2] at hp
    cases hkind : k.kind with
    | array component ty =>
      rw [hkind] at hq hp
      simp at hq hp
      exact ⟨comp, c, k, hb.symm, hk, by rw [hkind, hp, hq.1], hq.2⟩
    | _ => rw [hkind] at hq; simp at hq
section MUR
variable {p : Program} {l : Launch} {e : Env} {R : Room} {s : State} {m : MethodId} {args : Array Value} {below : List Frame} {meth : Method} {c : Code} {H : Heap} {locs : List Loc} {cells slots : Nat} {Q : State → Prop}
variable {cc : ByteArray} {pc : Nat} {ls : Array Slot} {rest : List Value} {own : String}
theorem w_mna2 (hexec : p.tables.exec = Jvm.exec) (hb : c.code = cc) {index : Nat} {nm : String} {cA : ClassId} (hown : s.vm.findClass own = some m.cls) (hclink : (Cond.classLink own index nm).before args s = true) (hnm : s.vm.findClass nm = some cA) {n k : Int32} {f : State → State} {K M : Nat} {cont : Nat → Nat → Cell} (hB : Bd f K M cont) (hst : ∀ (t : State) (cells slots : Nat), Stand p l e R s m args below meth c t locs cells slots → Stand p l e R s m args below meth c (f t) locs (cells + K) (slots + M)) (hmk : ∀ v : Vm, s.vm.Alike v → e.platform.arrayLengthLimit ≥ 536870912 → e.platform.maxHeapBytes ≥ 536870912 → Mk e v (multianewarray.make cA [n, k]) f K M) (hdg : decode cc pc = .ok (.multianewarray index 2, 4)) (hcells : cells + K ≤ R.cells) (hslots : slots + M ≤ R.slots)
    (kk : ∀ H1 : Heap, H1.size = H.size + K → (∀ a : Nat, a < H.size → H1[a]? = H[a]?) → (∀ j : Nat, j < K → H1[H.size + j]? = some (cont H.size j)) → W p l e R s m args below meth c H1 locs (cells + K) (slots + M) Q (F0 m (pc + 4) ls (.ref H.size :: rest))) : W p l e R s m args below meth c H locs cells slots Q (F0 m pc ls (.int k :: .int n :: rest)) := by
  intro T hT X
  have hpl : e.platform.magicAccessors = ({} : Platform).magicAccessors := by rw [X.admits.platform]
  obtain ⟨c0, hfc0, hcl⟩ := Cond.classLink_spec hown hclink e.platform hpl
  cases hnm.symm.trans hfc0
  obtain ⟨hg1, hwarm, -⟩ := State.classEntry (e := e) X.warmed hcl
  generalize T.vm.noted m.cls index (.cls cA) = v1 at hg1 hwarm
  have X1 := hst _ _ _ (X.noted hwarm)
  obtain ⟨hr1, hr2⟩ := X.roomAbove hcells hslots
  have hTh : (T.setVm v1).heap = H := hT
  have f1 := hB.1 (T.setVm v1)
  have f2 := hB.2.2.2.1 (T.setVm v1)
  have f3 := hB.2.2.2.2.2 (T.setVm v1)
  rw [hTh] at f1 f2 f3
  obtain ⟨t, st, q⟩ := kk _ f1 f2 f3 (f (T.setVm v1)) rfl X1
  refine ⟨t, ?_, q⟩
  jvm_step X.here [hexec, hb, hdg]
  simp only [multianewarray.sem, wp_bind', W.resolveClassAt_links (State.method?_setTop (F0 m pc ls (.int k :: .int n :: rest)) X.here.top) hg1]
  rw [W.popN, if_neg (by decide)]
  refine ⟨F0 m pc ls (.int k :: .int n :: rest), State.topJava?_setTop' (s := T.setVm v1) _ X.here.top, [.int n, .int k], rest, rfl, rfl, ?_⟩
  simp only [List.mapM_cons, List.mapM_nil, wp_bind', wp_pure']
  refine hmk v1 hwarm.alike (by rw [Launch.admits_arrayLengthLimit X.admits]; omega) (by rw [Launch.admits_maxHeapBytes X.admits]; omega) _ _ _ _ _ rfl (by show T.heap.size + K ≤ _; omega) (by show T.slotsUsed + M ≤ _; omega) (fun d' acts' => ?_)
  have eS : ((T.setTop (F0 m pc ls (.int k :: .int n :: rest))).setVm v1).setTop { F0 m pc ls (.int k :: .int n :: rest) with stack := rest } = (T.setVm v1).setTop { F0 m pc ls (.int k :: .int n :: rest) with stack := rest } := by
    show ((T.setVm v1).setTop _).setTop _ = _
    rw [State.setTop_setTop]
  rw [eS, hB.2.2.2.2.1]
  simp only [wp_bind', W.mark, W.pushRef, State.topJava?_setTop' _ X1.here.top, Option.some.injEq, exists_eq_left', State.setTop_setTop, State.heap_setTop]
  intro acts
  simp [jvm, X1.here.top]
  rw [← hTh] at st
  exact st
theorem w_mna3 (hexec : p.tables.exec = Jvm.exec) (hb : c.code = cc) {index : Nat} {nm : String} {cA : ClassId} (hown : s.vm.findClass own = some m.cls) (hclink : (Cond.classLink own index nm).before args s = true) (hnm : s.vm.findClass nm = some cA) {n o k : Int32} {f : State → State} {K M : Nat} {cont : Nat → Nat → Cell} (hB : Bd f K M cont) (hst : ∀ (t : State) (cells slots : Nat), Stand p l e R s m args below meth c t locs cells slots → Stand p l e R s m args below meth c (f t) locs (cells + K) (slots + M)) (hmk : ∀ v : Vm, s.vm.Alike v → e.platform.arrayLengthLimit ≥ 536870912 → e.platform.maxHeapBytes ≥ 536870912 → Mk e v (multianewarray.make cA [n, o, k]) f K M) (hdg : decode cc pc = .ok (.multianewarray index 3, 4)) (hcells : cells + K ≤ R.cells) (hslots : slots + M ≤ R.slots)
    (kk : ∀ H1 : Heap, H1.size = H.size + K → (∀ a : Nat, a < H.size → H1[a]? = H[a]?) → (∀ j : Nat, j < K → H1[H.size + j]? = some (cont H.size j)) → W p l e R s m args below meth c H1 locs (cells + K) (slots + M) Q (F0 m (pc + 4) ls (.ref H.size :: rest))) : W p l e R s m args below meth c H locs cells slots Q (F0 m pc ls (.int k :: .int o :: .int n :: rest)) := by
  intro T hT X
  have hpl : e.platform.magicAccessors = ({} : Platform).magicAccessors := by rw [X.admits.platform]
  obtain ⟨c0, hfc0, hcl⟩ := Cond.classLink_spec hown hclink e.platform hpl
  cases hnm.symm.trans hfc0
  obtain ⟨hg1, hwarm, -⟩ := State.classEntry (e := e) X.warmed hcl
  generalize T.vm.noted m.cls index (.cls cA) = v1 at hg1 hwarm
  have X1 := hst _ _ _ (X.noted hwarm)
  obtain ⟨hr1, hr2⟩ := X.roomAbove hcells hslots
  have hTh : (T.setVm v1).heap = H := hT
  have f1 := hB.1 (T.setVm v1)
  have f2 := hB.2.2.2.1 (T.setVm v1)
  have f3 := hB.2.2.2.2.2 (T.setVm v1)
  rw [hTh] at f1 f2 f3
  obtain ⟨t, st, q⟩ := kk _ f1 f2 f3 (f (T.setVm v1)) rfl X1
  refine ⟨t, ?_, q⟩
  jvm_step X.here [hexec, hb, hdg]
  simp only [multianewarray.sem, wp_bind', W.resolveClassAt_links (State.method?_setTop (F0 m pc ls (.int k :: .int o :: .int n :: rest)) X.here.top) hg1]
  rw [W.popN, if_neg (by decide)]
  refine ⟨F0 m pc ls (.int k :: .int o :: .int n :: rest), State.topJava?_setTop' (s := T.setVm v1) _ X.here.top, [.int n, .int o, .int k], rest, rfl, rfl, ?_⟩
  simp only [List.mapM_cons, List.mapM_nil, wp_bind', wp_pure']
  refine hmk v1 hwarm.alike (by rw [Launch.admits_arrayLengthLimit X.admits]; omega) (by rw [Launch.admits_maxHeapBytes X.admits]; omega) _ _ _ _ _ rfl (by show T.heap.size + K ≤ _; omega) (by show T.slotsUsed + M ≤ _; omega) (fun d' acts' => ?_)
  have eS : ((T.setTop (F0 m pc ls (.int k :: .int o :: .int n :: rest))).setVm v1).setTop { F0 m pc ls (.int k :: .int o :: .int n :: rest) with stack := rest } = (T.setVm v1).setTop { F0 m pc ls (.int k :: .int o :: .int n :: rest) with stack := rest } := by
    show ((T.setVm v1).setTop _).setTop _ = _
    rw [State.setTop_setTop]
  rw [eS, hB.2.2.2.2.1]
  simp only [wp_bind', W.mark, W.pushRef, State.topJava?_setTop' _ X1.here.top, Option.some.injEq, exists_eq_left', State.setTop_setTop, State.heap_setTop]
  intro acts
  simp [jvm, X1.here.top]
  rw [← hTh] at st
  exact st
end MUR
