/-! my own rows: bundles of the kit's hypotheses, arithmetic on naturals behind ints, calls, loops, joins -/
abbrev GT : Type := va_G × (ClassId × ClassId × ClassId × ClassId × ClassId × ClassId)
abbrev cls9 : List vw_C := [(RX0, TX0, 5), (RX1, TX1, 5), (RX2, TX2, 12), (RX3, TX3, 4), (RX4, TX4, 6), (RX5, TX5, 2), (RX6, TX6, 10), (RX7, TX7, 40), (RJx4a65c, TJx4a65c, 3)]
abbrev cI (g : GT) : ClassId := g.2.1
abbrev cJ (g : GT) : ClassId := g.2.2.1
abbrev cB (g : GT) : ClassId := g.2.2.2.1
abbrev cO (g : GT) : ClassId := g.2.2.2.2.1
abbrev cII (g : GT) : ClassId := g.2.2.2.2.2.1
abbrev cIII (g : GT) : ClassId := g.2.2.2.2.2.2
abbrev tys6 (g : GT) : List (ClassId × FieldType) := [(cI g, .int), (cJ g, .long), (cB g, .byte), (cO g, .object "java/lang/Object"), (cII g, .array .int), (cIII g, .array (.array .int))]
abbrev aI (g : GT) (n : Nat) (f : Nat → Int32) : va_E := .inl (cI g, n, .inl f)
abbrev aJ (g : GT) (n : Nat) (f : Nat → Int64) : va_E := .inl (cJ g, n, .inr (.inl f))
abbrev aB (g : GT) (n : Nat) (f : Nat → Int32) : va_E := .inl (cB g, n, .inl f)
abbrev aO (g : GT) (n : Nat) (f : Nat → Option Nat) : va_E := .inl (cO g, n, .inr (.inr (.inr (.inr f))))
abbrev aII (g : GT) (n : Nat) (f : Nat → Option Nat) : va_E := .inl (cII g, n, .inr (.inr (.inr (.inr f))))
abbrev aIII (g : GT) (n : Nat) (f : Nat → Option Nat) : va_E := .inl (cIII g, n, .inr (.inr (.inr (.inr f))))
/-- the world at a place of the walk -/
def Wd (g : GT) (A : Nat → Prop) (H0 : Heap) (ws : va_W) (H : Heap) (locs : List Loc) : Prop := va_P g.1 cls9 ws H ∧ va_D A ws ∧ va_S A H0 H locs
/-- what stays through a walk -/
def Cx (p : Program) (s : State) (m : MethodId) (args : Array Value) (meth : Method) (c : Code) (cc : ByteArray) (nL : Nat) (ret : Option FieldType) (Ts : List Cond) (own : String) (g : GT) (A : Nat → Prop) : Prop :=
  p.tables.exec = Jvm.exec ∧ c.code = cc ∧ c.maxLocals = nL ∧ s.vm.findClass own = some m.cls ∧ (∀ w ∈ Ts, w.before args s = true) ∧ va_K g.1 cls9 (tys6 g) s ∧ (∀ q : Nat, s.heap.size ≤ q → A q) ∧ meth.sig.returnType = ret ∧ meth.locks = false
/-- a method's start: its arguments, its world, what else it asks -/
abbrev pre0 (g : GT) (av : List Value) (w : va_W) (sz : Nat) (B : State → Prop) : Array Value → State → Prop := va_Pc av (fun U => U.heap.size = sz ∧ va_P g.1 cls9 w U.heap ∧ va_K g.1 cls9 (tys6 g) U ∧ va_D (fun _ => True) w ∧ B U)
abbrev post0 (g : GT) (w : va_W) (sz : Nat) : va_W → State → Prop := fun u t => va_P g.1 cls9 u t.heap ∧ va_K g.1 cls9 (tys6 g) t ∧ va_D (va_A w sz) u
abbrev postR (g : GT) (w : va_W) (sz : Nat) : va_W × Nat → Nat → State → Prop := fun u a t => a = u.2 ∧ va_P g.1 cls9 u.1 t.heap ∧ va_K g.1 cls9 (tys6 g) t ∧ va_D (va_A w sz) u.1
abbrev CtI (l : Launch) (g : GT) (y : MethodName) (wy : List Cond) (rm : Room) (av : List Value) (w : va_W) (sz : Nat) (B : State → Prop) (Post : Int32 → va_W → Prop) (mc ms : Nat) : Prop :=
  Met l y wy rm (pre0 g av w sz B) (va_Qi (S := va_W) Post (post0 g w sz) (va_A w sz)) mc ms (va_A w sz)
abbrev CtV (l : Launch) (g : GT) (y : MethodName) (wy : List Cond) (rm : Room) (av : List Value) (w : va_W) (sz : Nat) (B : State → Prop) (Post : va_W → Prop) (mc ms : Nat) : Prop :=
  Met l y wy rm (pre0 g av w sz B) (va_Qv (S := va_W) Post (post0 g w sz) (va_A w sz)) mc ms (va_A w sz)
abbrev CtR (l : Launch) (g : GT) (y : MethodName) (wy : List Cond) (rm : Room) (av : List Value) (w : va_W) (sz : Nat) (B : State → Prop) (Post : Nat → va_W → Prop) (mc ms : Nat) : Prop :=
  Met l y wy rm (pre0 g av w sz B) (va_Qr (S := va_W × Nat) (fun u => Post u.2 u.1) (postR g w sz) (va_A w sz)) mc ms (va_A w sz)
abbrev MQI (g : GT) (below : List Frame) (args : Array Value) (s : State) (w : va_W) (sz : Nat) (Post : Int32 → va_W → Prop) (mc ms : Nat) : State → Prop := MQ below (va_Qi (S := va_W) Post (post0 g w sz) (va_A w sz)) args s mc ms (va_A w sz)
abbrev MQV (g : GT) (below : List Frame) (args : Array Value) (s : State) (w : va_W) (sz : Nat) (Post : va_W → Prop) (mc ms : Nat) : State → Prop := MQ below (va_Qv (S := va_W) Post (post0 g w sz) (va_A w sz)) args s mc ms (va_A w sz)
abbrev MQR (g : GT) (below : List Frame) (args : Array Value) (s : State) (w : va_W) (sz : Nat) (Post : Nat → va_W → Prop) (mc ms : Nat) : State → Prop := MQ below (va_Qr (S := va_W × Nat) (fun u => Post u.2 u.1) (postR g w sz) (va_A w sz)) args s mc ms (va_A w sz)
section BA
variable {l : Launch} {g : GT} {y : MethodName} {wy wy' : List Cond} {rm : Room} {av : List Value} {w : va_W} {sz : Nat} {B : State → Prop} {mc ms : Nat} {cc : ByteArray} {nL : Nat} {ret : Option FieldType}
theorem ct_body {Qc : Array Value → State → Outcome → State → Prop} (hy : plainName y.cls = true) (hw : wy = Cond.code y cc nL ret :: wy') (hn : (lg_sl av).length ≤ nL)
    (body : ∀ (p : Program) (e : Env) (s : State) (m : MethodId) (below : List Frame) (meth : Method) (c : Code) (ls : Array Slot), Cx p s m av.toArray meth c cc nL ret wy y.cls g (va_A w sz) → (meth.name = y.name) → s.heap.size = sz → B s → Wd g (va_A w sz) s.heap w s.heap [] → lv_has ls nL (lv_args 0 av) →
      W p l e rm s m av.toArray below meth c s.heap [] 0 0 (MQ below Qc av.toArray s mc ms (va_A w sz)) (F0 m 0 ls [])) :
    Met l y wy rm (pre0 g av w sz B) Qc mc ms (va_A w sz) := by
  refine Met.ofW (cc := cc) (maxL := nL) (ret := ret) hy hw ?_
  intro p e s m args below meth c s₁ X hml hv
  obtain ⟨rfl, hsz, hP, hK, hD0, hB⟩ := hv
  have hl := lv_entry av (n := nL) hn
  rw [lg_entry_eq]
  refine body p e s m below meth c _ ⟨X.exec, X.bytes, hml, findClass_of_methodNamed X.named, atoms_spec (ws := wy) X.pre, hK, fun q h => Or.inr (by rw [← hsz]; exact h), X.returns, X.notSynchronized⟩ (name_of_methodNamed X.named X.method).1 hsz hB ⟨hP, hD0.self, va_S.rf⟩ hl
end BA
section BB
variable {p : Program} {l : Launch} {e : Env} {R : Room} {s : State} {m : MethodId} {args : Array Value} {below : List Frame} {meth : Method} {c : Code} {H : Heap} {locs : List Loc} {cells slots : Nat} {Q : State → Prop}
variable {cc : ByteArray} {pc : Nat} {ls : Array Slot} {rest : List Value} {g : GT} {A : Nat → Prop} {a : Nat} {ws : va_W} {nL : Nat} {ret : Option FieldType} {Ts : List Cond} {own : String}
/-! the top of the stack, by an equal -/
theorem tp1 {v v' : Int32} (h : v = v') (k : W p l e R s m args below meth c H locs cells slots Q (F0 m pc ls (.int v' :: rest))) : W p l e R s m args below meth c H locs cells slots Q (F0 m pc ls (.int v :: rest)) := h ▸ k
theorem tpl {v v' : Int64} (h : v = v') (k : W p l e R s m args below meth c H locs cells slots Q (F0 m pc ls (.long v' :: rest))) : W p l e R s m args below meth c H locs cells slots Q (F0 m pc ls (.long v :: rest)) := h ▸ k
theorem n_add (hx : p.tables.exec = Jvm.exec) (hb : c.code = cc) {a b : Nat} (hdg : decode cc pc = .ok (.iadd, 1)) (k : W p l e R s m args below meth c H locs cells slots Q (F0 m (pc + 1) ls (.int (nI (a + b)) :: rest))) : W p l e R s m args below meth c H locs cells slots Q (F0 m pc ls (.int (nI b) :: .int (nI a) :: rest)) :=
  lv_iadd hx hb hdg (tp1 (nI_add a b) k)
theorem n_sub (hx : p.tables.exec = Jvm.exec) (hb : c.code = cc) {a b : Nat} (hdg : decode cc pc = .ok (.isub, 1)) (h : b ≤ a) (k : W p l e R s m args below meth c H locs cells slots Q (F0 m (pc + 1) ls (.int (nI (a - b)) :: rest))) : W p l e R s m args below meth c H locs cells slots Q (F0 m pc ls (.int (nI b) :: .int (nI a) :: rest)) :=
  lv_isub hx hb hdg (tp1 (pk_sub h) k)
theorem n_mul (hx : p.tables.exec = Jvm.exec) (hb : c.code = cc) {a b : Nat} (hdg : decode cc pc = .ok (.imul, 1)) (k : W p l e R s m args below meth c H locs cells slots Q (F0 m (pc + 1) ls (.int (nI (a * b)) :: rest))) : W p l e R s m args below meth c H locs cells slots Q (F0 m pc ls (.int (nI b) :: .int (nI a) :: rest)) :=
  lv_imul hx hb hdg (tp1 (pk_mul a b) k)
theorem n_div (hx : p.tables.exec = Jvm.exec) (hb : c.code = cc) {a b : Nat} (hdg : decode cc pc = .ok (.idiv, 1)) (ha : a < 2 ^ 31) (h0 : 0 < b) (hb2 : b < 2 ^ 31) (k : W p l e R s m args below meth c H locs cells slots Q (F0 m (pc + 1) ls (.int (nI (a / b)) :: rest))) : W p l e R s m args below meth c H locs cells slots Q (F0 m pc ls (.int (nI b) :: .int (nI a) :: rest)) :=
  lv_idiv hx hb hdg (nI_ne0 h0 hb2) (tp1 (pk_div ha h0 hb2) k)
theorem n_rem (hx : p.tables.exec = Jvm.exec) (hb : c.code = cc) {a b : Nat} (hdg : decode cc pc = .ok (.irem, 1)) (ha : a < 2 ^ 31) (h0 : 0 < b) (hb2 : b < 2 ^ 31) (k : W p l e R s m args below meth c H locs cells slots Q (F0 m (pc + 1) ls (.int (nI (a % b)) :: rest))) : W p l e R s m args below meth c H locs cells slots Q (F0 m pc ls (.int (nI b) :: .int (nI a) :: rest)) :=
  lv_irem hx hb hdg (nI_ne0 h0 hb2) (tp1 (pk_rem ha h0 hb2) k)
theorem n_and (hx : p.tables.exec = Jvm.exec) (hb : c.code = cc) {a b d : Nat} (j : Nat) (hj : b = 2 ^ j - 1) (hd : 2 ^ j = d) (hj2 : j < 32) (ha : a < 2 ^ 32) (hdg : decode cc pc = .ok (.iand, 1)) (k : W p l e R s m args below meth c H locs cells slots Q (F0 m (pc + 1) ls (.int (nI (a % d)) :: rest))) : W p l e R s m args below meth c H locs cells slots Q (F0 m pc ls (.int (nI b) :: .int (nI a) :: rest)) :=
  lv_iand hx hb hdg (tp1 (by subst hd; exact pk_andN ha j (by rw [hj]; exact pk_tn (by have : 2 ^ j ≤ 2 ^ 31 := Nat.pow_le_pow_right (by omega) (by omega); omega))) k)
theorem n_shl (hx : p.tables.exec = Jvm.exec) (hb : c.code = cc) {a b d : Nat} (hd : 2 ^ b = d) (hb2 : b < 32) (ha : a * d < 2 ^ 32) (hdg : decode cc pc = .ok (.ishl, 1)) (k : W p l e R s m args below meth c H locs cells slots Q (F0 m (pc + 1) ls (.int (nI (a * d)) :: rest))) : W p l e R s m args below meth c H locs cells slots Q (F0 m pc ls (.int (nI b) :: .int (nI a) :: rest)) :=
  lv_ishl hx hb hdg (tp1 (by subst hd; exact pk_shlN _ b ((by decide +kernel : ∀ n : Fin 32, ((nI n.val &&& 31).toBitVec.smod 32).toNat = n.val) ⟨b, hb2⟩) ha) k)
theorem n_shr (hx : p.tables.exec = Jvm.exec) (hb : c.code = cc) {a b d : Nat} (hd : 2 ^ b = d) (hb2 : b < 32) (ha : a < 2 ^ 31) (hdg : decode cc pc = .ok (.ishr, 1)) (k : W p l e R s m args below meth c H locs cells slots Q (F0 m (pc + 1) ls (.int (nI (a / d)) :: rest))) : W p l e R s m args below meth c H locs cells slots Q (F0 m pc ls (.int (nI b) :: .int (nI a) :: rest)) :=
  lv_ishr hx hb hdg (tp1 (by subst hd; exact pk_shrN ha _ b ((by decide +kernel : ∀ n : Fin 32, ((nI n.val &&& 31).toBitVec.smod 32).toNat = n.val) ⟨b, hb2⟩)) k)
theorem n_ushr (hx : p.tables.exec = Jvm.exec) (hb : c.code = cc) {a b d : Nat} (hd : 2 ^ b = d) (hb2 : b < 32) (ha : a < 2 ^ 32) (hdg : decode cc pc = .ok (.iushr, 1)) (k : W p l e R s m args below meth c H locs cells slots Q (F0 m (pc + 1) ls (.int (nI (a / d)) :: rest))) : W p l e R s m args below meth c H locs cells slots Q (F0 m pc ls (.int (nI b) :: .int (nI a) :: rest)) :=
  lv_iushr hx hb hdg (by subst hd; exact pk_ushrN ha _ b ((by decide +kernel : ∀ n : Fin 32, (((nI n.val).toUInt32 &&& Int32.toUInt32 31).toBitVec % 32).toNat = n.val) ⟨b, hb2⟩)) k
/-! branches by naturals -/
theorem n_cge (hx : p.tables.exec = Jvm.exec) (hb : c.code = cc) {a b : Nat} {off : Int} {tgt : Nat} (ha : a < 2 ^ 31) (hb2 : b < 2 ^ 31) (hdg : decode cc pc = .ok (.if_icmp .ge off, 3)) (ht : (pc : Int) + off = (tgt : Int)) (kt : b ≤ a → W p l e R s m args below meth c H locs cells slots Q (F0 m tgt ls rest)) (kf : a < b → W p l e R s m args below meth c H locs cells slots Q (F0 m (pc + 3) ls rest)) : W p l e R s m args below meth c H locs cells slots Q (F0 m pc ls (.int (nI b) :: .int (nI a) :: rest)) :=
  lv_icmp_ge hx hb hdg ht (fun h => kt ((nI_leI hb2 ha).mp h)) (fun h => kf (Nat.lt_of_not_le (fun q => h ((nI_leI hb2 ha).mpr q))))
theorem n_clt (hx : p.tables.exec = Jvm.exec) (hb : c.code = cc) {a b : Nat} {off : Int} {tgt : Nat} (ha : a < 2 ^ 31) (hb2 : b < 2 ^ 31) (hdg : decode cc pc = .ok (.if_icmp .lt off, 3)) (ht : (pc : Int) + off = (tgt : Int)) (kt : a < b → W p l e R s m args below meth c H locs cells slots Q (F0 m tgt ls rest)) (kf : b ≤ a → W p l e R s m args below meth c H locs cells slots Q (F0 m (pc + 3) ls rest)) : W p l e R s m args below meth c H locs cells slots Q (F0 m pc ls (.int (nI b) :: .int (nI a) :: rest)) :=
  lv_icmp_lt hx hb hdg ht (fun h => kt ((nI_ltI ha hb2).mp h)) (fun h => kf (Nat.le_of_not_lt (fun q => h ((nI_ltI ha hb2).mpr q))))
theorem n_cgt (hx : p.tables.exec = Jvm.exec) (hb : c.code = cc) {a b : Nat} {off : Int} {tgt : Nat} (ha : a < 2 ^ 31) (hb2 : b < 2 ^ 31) (hdg : decode cc pc = .ok (.if_icmp .gt off, 3)) (ht : (pc : Int) + off = (tgt : Int)) (kt : b < a → W p l e R s m args below meth c H locs cells slots Q (F0 m tgt ls rest)) (kf : a ≤ b → W p l e R s m args below meth c H locs cells slots Q (F0 m (pc + 3) ls rest)) : W p l e R s m args below meth c H locs cells slots Q (F0 m pc ls (.int (nI b) :: .int (nI a) :: rest)) :=
  lv_icmp_gt hx hb hdg ht (fun h => kt ((nI_ltI hb2 ha).mp h)) (fun h => kf (Nat.le_of_not_lt (fun q => h ((nI_ltI hb2 ha).mpr q))))
theorem n_cle (hx : p.tables.exec = Jvm.exec) (hb : c.code = cc) {a b : Nat} {off : Int} {tgt : Nat} (ha : a < 2 ^ 31) (hb2 : b < 2 ^ 31) (hdg : decode cc pc = .ok (.if_icmp .le off, 3)) (ht : (pc : Int) + off = (tgt : Int)) (kt : a ≤ b → W p l e R s m args below meth c H locs cells slots Q (F0 m tgt ls rest)) (kf : b < a → W p l e R s m args below meth c H locs cells slots Q (F0 m (pc + 3) ls rest)) : W p l e R s m args below meth c H locs cells slots Q (F0 m pc ls (.int (nI b) :: .int (nI a) :: rest)) :=
  lv_icmp_le hx hb hdg ht (fun h => kt ((nI_leI ha hb2).mp h)) (fun h => kf (Nat.lt_of_not_le (fun q => h ((nI_leI ha hb2).mpr q))))
theorem n_ceq (hx : p.tables.exec = Jvm.exec) (hb : c.code = cc) {a b : Nat} {off : Int} {tgt : Nat} (ha : a < 2 ^ 31) (hb2 : b < 2 ^ 31) (hdg : decode cc pc = .ok (.if_icmp .eq off, 3)) (ht : (pc : Int) + off = (tgt : Int)) (kt : a = b → W p l e R s m args below meth c H locs cells slots Q (F0 m tgt ls rest)) (kf : a ≠ b → W p l e R s m args below meth c H locs cells slots Q (F0 m (pc + 3) ls rest)) : W p l e R s m args below meth c H locs cells slots Q (F0 m pc ls (.int (nI b) :: .int (nI a) :: rest)) :=
  lv_icmp_eq hx hb hdg ht (fun h => kt ((nI_eq ha hb2).mp h)) (fun h => kf (fun q => h ((nI_eq ha hb2).mpr q)))
theorem n_cne (hx : p.tables.exec = Jvm.exec) (hb : c.code = cc) {a b : Nat} {off : Int} {tgt : Nat} (ha : a < 2 ^ 31) (hb2 : b < 2 ^ 31) (hdg : decode cc pc = .ok (.if_icmp .ne off, 3)) (ht : (pc : Int) + off = (tgt : Int)) (kt : a ≠ b → W p l e R s m args below meth c H locs cells slots Q (F0 m tgt ls rest)) (kf : a = b → W p l e R s m args below meth c H locs cells slots Q (F0 m (pc + 3) ls rest)) : W p l e R s m args below meth c H locs cells slots Q (F0 m pc ls (.int (nI b) :: .int (nI a) :: rest)) :=
  lv_icmp_ne hx hb hdg ht (fun h => kt (fun q => h ((nI_eq ha hb2).mpr q))) (fun h => kf ((nI_eq ha hb2).mp h))
theorem n_eq0 (hx : p.tables.exec = Jvm.exec) (hb : c.code = cc) {a : Nat} {off : Int} {tgt : Nat} (ha : a < 2 ^ 31) (hdg : decode cc pc = .ok (.ifCond .eq off, 3)) (ht : (pc : Int) + off = (tgt : Int)) (kt : a = 0 → W p l e R s m args below meth c H locs cells slots Q (F0 m tgt ls rest)) (kf : 0 < a → W p l e R s m args below meth c H locs cells slots Q (F0 m (pc + 3) ls rest)) : W p l e R s m args below meth c H locs cells slots Q (F0 m pc ls (.int (nI a) :: rest)) :=
  lv_if_eq hx hb hdg ht (fun h => kt (by rcases Nat.eq_zero_or_pos a with q | q; exact q; exact absurd h (nI_ne0 q ha))) (fun h => kf (Nat.pos_of_ne_zero (fun q => h (by rw [q]; exact nI_0))))
theorem n_ne0 (hx : p.tables.exec = Jvm.exec) (hb : c.code = cc) {a : Nat} {off : Int} {tgt : Nat} (ha : a < 2 ^ 31) (hdg : decode cc pc = .ok (.ifCond .ne off, 3)) (ht : (pc : Int) + off = (tgt : Int)) (kt : 0 < a → W p l e R s m args below meth c H locs cells slots Q (F0 m tgt ls rest)) (kf : a = 0 → W p l e R s m args below meth c H locs cells slots Q (F0 m (pc + 3) ls rest)) : W p l e R s m args below meth c H locs cells slots Q (F0 m pc ls (.int (nI a) :: rest)) :=
  lv_if_ne hx hb hdg ht (fun h => kt (Nat.pos_of_ne_zero (fun q => h (by rw [q]; exact nI_0)))) (fun h => kf (by rcases Nat.eq_zero_or_pos a with q | q; exact q; exact absurd h (nI_ne0 q ha)))
theorem n_lt0 (hx : p.tables.exec = Jvm.exec) (hb : c.code = cc) {a : Nat} {off : Int} {tgt : Nat} (ha : a < 2 ^ 31) (hdg : decode cc pc = .ok (.ifCond .lt off, 3)) (ht : (pc : Int) + off = (tgt : Int)) (kf : W p l e R s m args below meth c H locs cells slots Q (F0 m (pc + 3) ls rest)) : W p l e R s m args below meth c H locs cells slots Q (F0 m pc ls (.int (nI a) :: rest)) :=
  lv_if_lt hx hb hdg ht (fun h => absurd h (nI_pos ha)) (fun _ => kf)
theorem n_ge0 (hx : p.tables.exec = Jvm.exec) (hb : c.code = cc) {a : Nat} {off : Int} {tgt : Nat} (ha : a < 2 ^ 31) (hdg : decode cc pc = .ok (.ifCond .ge off, 3)) (ht : (pc : Int) + off = (tgt : Int)) (kt : W p l e R s m args below meth c H locs cells slots Q (F0 m tgt ls rest)) : W p l e R s m args below meth c H locs cells slots Q (F0 m pc ls (.int (nI a) :: rest)) :=
  lv_if_ge hx hb hdg ht (fun _ => kt) (fun h => absurd (nI_pos' ha) h)
theorem n_gt0 (hx : p.tables.exec = Jvm.exec) (hb : c.code = cc) {a : Nat} {off : Int} {tgt : Nat} (ha : a < 2 ^ 31) (hdg : decode cc pc = .ok (.ifCond .gt off, 3)) (ht : (pc : Int) + off = (tgt : Int)) (kt : 0 < a → W p l e R s m args below meth c H locs cells slots Q (F0 m tgt ls rest)) (kf : a = 0 → W p l e R s m args below meth c H locs cells slots Q (F0 m (pc + 3) ls rest)) : W p l e R s m args below meth c H locs cells slots Q (F0 m pc ls (.int (nI a) :: rest)) :=
  lv_if_gt hx hb hdg ht (fun h => kt (Nat.pos_of_ne_zero (fun q => by rw [q, nI_0] at h; exact absurd h (by decide)))) (fun h => kf (by rcases Nat.eq_zero_or_pos a with q | q; exact q; exact absurd (by rw [← nI_0]; exact nI_lt q ha) h))
theorem n_le0 (hx : p.tables.exec = Jvm.exec) (hb : c.code = cc) {a : Nat} {off : Int} {tgt : Nat} (ha : a < 2 ^ 31) (hdg : decode cc pc = .ok (.ifCond .le off, 3)) (ht : (pc : Int) + off = (tgt : Int)) (kt : a = 0 → W p l e R s m args below meth c H locs cells slots Q (F0 m tgt ls rest)) (kf : 0 < a → W p l e R s m args below meth c H locs cells slots Q (F0 m (pc + 3) ls rest)) : W p l e R s m args below meth c H locs cells slots Q (F0 m pc ls (.int (nI a) :: rest)) :=
  lv_if_le hx hb hdg ht (fun h => kt (by rcases Nat.eq_zero_or_pos a with q | q; exact q; exact absurd h (nI_nle q ha))) (fun h => kf (Nat.pos_of_ne_zero (fun q => h (by rw [q, nI_0]; decide))))
/-! fields and arrays -/
theorem r_get (C : Cx p s m args meth c cc nL ret Ts own g A) (hw : Wd g A s.heap ws H locs) {K : String} {T : u_T} {N ci index : Nat} (hin : ∀ w ∈ u_ws K T N, w ∈ Ts) (q0 : Nat) {fs : List Value} (he : ws[q0]? = some (a, .inr (ci, fs))) (hc : cls9[ci]? = some (K, T, N)) (k : Nat) (hk : k < N) (hlink : (Cond.fieldLink own index (T k).1 (T k).2.1 (T k).2.2.1).before args s = true) {v : Value} (hv : fs[k]? = some v) (hdg : decode cc pc = .ok (.getfield index, 3))
    (kk : W p l e R s m args below meth c H locs cells slots Q (F0 m (pc + 3) ls (v :: rest))) : W p l e R s m args below meth c H locs cells slots Q (F0 m pc ls (.ref a :: rest)) :=
  va_get C.1 C.2.1 C.2.2.2.2.1 hin C.2.2.2.1 C.2.2.2.2.2.1 hw.1 q0 he hc k hk hlink (fun _ h => h) hv hdg kk
theorem r_put (C : Cx p s m args meth c cc nL ret Ts own g A) (hw : Wd g A s.heap ws H locs) {K : String} {T : u_T} {N ci index : Nat} (hin : ∀ w ∈ u_ws K T N, w ∈ Ts) {ty0 : Nat → FieldType} (hty : ∀ k, k < N → parseFieldDescriptor (T k).2.2.1 = some (ty0 k)) (hnm : ∀ a, a < N → ∀ b, b < N → a ≠ b → (T a).2.1 ≠ (T b).2.1) (q0 : Nat) {fs : List Value} (he : ws[q0]? = some (a, .inr (ci, fs))) (hc : cls9[ci]? = some (K, T, N)) (k : Nat) (hk : k < N) (hlink : (Cond.fieldLink own index (T k).1 (T k).2.1 (T k).2.2.1).before args s = true) (hfin : (T k).2.2.2 = false) {v : Value} (hn : narrow (ty0 k) v = v) (hfit : fits (ty0 k) v = true) (hl : k < fs.length) {ws' : va_W} (hws : ws.set q0 (a, .inr (ci, fs.set k v)) = ws') (hdg : decode cc pc = .ok (.putfield index, 3))
    (kk : ∀ (H1 : Heap) (locs1 : List Loc), Wd g A s.heap ws' H1 locs1 → W p l e R s m args below meth c H1 locs1 cells slots Q (F0 m (pc + 3) ls rest)) : W p l e R s m args below meth c H locs cells slots Q (F0 m pc ls (v :: .ref a :: rest)) := by
  subst hws
  exact va_put C.1 C.2.1 C.2.2.2.2.1 hin ty0 hty hnm C.2.2.2.1 C.2.2.2.2.2.1 hw.1 hw.2.1 hw.2.2 q0 he hc k hk hlink (fun _ h => h) hfin (hty k hk) hn hfit hl hdg (fun H1 locs1 h1 h2 h3 => kk H1 locs1 ⟨h1, h2, h3⟩)
theorem r_putF (C : Cx p s m args meth c cc nL ret Ts own g A) (hw : Wd g A s.heap ws H locs) {K : String} {T : u_T} {N ci index : Nat} (hin : ∀ w ∈ u_ws K T N, w ∈ Ts) {ty0 : Nat → FieldType} (hty : ∀ k, k < N → parseFieldDescriptor (T k).2.2.1 = some (ty0 k)) (hnm : ∀ a, a < N → ∀ b, b < N → a ≠ b → (T a).2.1 ≠ (T b).2.1) (q0 : Nat) {fs : List Value} (he : ws[q0]? = some (a, .inr (ci, fs))) (hc : cls9[ci]? = some (K, T, N)) (k : Nat) (hk : k < N) (hlink : (Cond.fieldLink own index (T k).1 (T k).2.1 (T k).2.2.1).before args s = true) (hfin : (T k).2.2.2 = true) (hin2 : meth.name = "<init>") (hdecl : (T k).1 = own) {v : Value} (hn : narrow (ty0 k) v = v) (hfit : fits (ty0 k) v = true) (hl : k < fs.length) {ws' : va_W} (hws : ws.set q0 (a, .inr (ci, fs.set k v)) = ws') (hdg : decode cc pc = .ok (.putfield index, 3))
    (kk : ∀ (H1 : Heap) (locs1 : List Loc), Wd g A s.heap ws' H1 locs1 → W p l e R s m args below meth c H1 locs1 cells slots Q (F0 m (pc + 3) ls rest)) : W p l e R s m args below meth c H locs cells slots Q (F0 m pc ls (v :: .ref a :: rest)) := by
  subst hws
  exact va_putF C.1 C.2.1 C.2.2.2.2.1 hin ty0 hty hnm C.2.2.2.1 C.2.2.2.2.2.1 hw.1 hw.2.1 hw.2.2 q0 he hc k hk hlink (fun _ h => h) hfin hin2 hdecl (hty k hk) hn hfit hl hdg (fun H1 locs1 h1 h2 h3 => kk H1 locs1 ⟨h1, h2, h3⟩)
theorem r_iald (C : Cx p s m args meth c cc nL ret Ts own g A) (hw : Wd g A s.heap ws H locs) (q0 : Nat) {n i : Nat} {f : Nat → Int32} (ha : ws[q0]? = some (a, aI g n f)) (hi : i < n) (hn : n < 2 ^ 31) (hdg : decode cc pc = .ok (.iaload, 1))
    (kk : W p l e R s m args below meth c H locs cells slots Q (F0 m (pc + 1) ls (.int (f i) :: rest))) : W p l e R s m args below meth c H locs cells slots Q (F0 m pc ls (.int (nI i) :: .ref a :: rest)) :=
  va_iald C.1 C.2.1 C.2.2.2.2.2.1 hw.1 q0 0 ha rfl (vp_in_nI hi hn) hdg (by rw [nI_clamp (Nat.lt_trans hi hn)]; exact kk)
theorem r_bald (C : Cx p s m args meth c cc nL ret Ts own g A) (hw : Wd g A s.heap ws H locs) (q0 : Nat) {n i : Nat} {f : Nat → Int32} (ha : ws[q0]? = some (a, aB g n f)) (hi : i < n) (hn : n < 2 ^ 31) (hdg : decode cc pc = .ok (.baload, 1))
    (kk : W p l e R s m args below meth c H locs cells slots Q (F0 m (pc + 1) ls (.int (f i) :: rest))) : W p l e R s m args below meth c H locs cells slots Q (F0 m pc ls (.int (nI i) :: .ref a :: rest)) :=
  va_bald C.1 C.2.1 C.2.2.2.2.2.1 hw.1 q0 2 ha rfl (vp_in_nI hi hn) hdg (by rw [nI_clamp (Nat.lt_trans hi hn)]; exact kk)
theorem r_lald (C : Cx p s m args meth c cc nL ret Ts own g A) (hw : Wd g A s.heap ws H locs) (q0 : Nat) {n i : Nat} {f : Nat → Int64} (ha : ws[q0]? = some (a, aJ g n f)) (hi : i < n) (hn : n < 2 ^ 31) (hdg : decode cc pc = .ok (.laload, 1))
    (kk : W p l e R s m args below meth c H locs cells slots Q (F0 m (pc + 1) ls (.long (f i) :: rest))) : W p l e R s m args below meth c H locs cells slots Q (F0 m pc ls (.int (nI i) :: .ref a :: rest)) :=
  va_lald C.1 C.2.1 C.2.2.2.2.2.1 hw.1 q0 1 ha rfl (vp_in_nI hi hn) hdg (by rw [nI_clamp (Nat.lt_trans hi hn)]; exact kk)
theorem r_iast (C : Cx p s m args meth c cc nL ret Ts own g A) (hw : Wd g A s.heap ws H locs) (q0 : Nat) {n i : Nat} {x : Int32} {f : Nat → Int32} (ha : ws[q0]? = some (a, aI g n f)) (hi : i < n) (hn : n < 2 ^ 31) {ws' : va_W} (hws : ws.set q0 (a, aI g n (upd f i x)) = ws') (hdg : decode cc pc = .ok (.iastore, 1))
    (kk : ∀ (H1 : Heap) (locs1 : List Loc), Wd g A s.heap ws' H1 locs1 → W p l e R s m args below meth c H1 locs1 cells slots Q (F0 m (pc + 1) ls rest)) : W p l e R s m args below meth c H locs cells slots Q (F0 m pc ls (.int x :: .int (nI i) :: .ref a :: rest)) := by
  subst hws
  refine va_iast C.1 C.2.1 C.2.2.2.2.2.1 hw.1 hw.2.1 hw.2.2 q0 0 ha rfl (vp_in_nI hi hn) hdg ?_
  rw [nI_clamp (Nat.lt_trans hi hn)]
  exact fun H1 locs1 h1 h2 h3 => kk H1 locs1 ⟨h1, h2, h3⟩
theorem r_last (C : Cx p s m args meth c cc nL ret Ts own g A) (hw : Wd g A s.heap ws H locs) (q0 : Nat) {n i : Nat} {x : Int64} {f : Nat → Int64} (ha : ws[q0]? = some (a, aJ g n f)) (hi : i < n) (hn : n < 2 ^ 31) {ws' : va_W} (hws : ws.set q0 (a, aJ g n (vp_updL f i x)) = ws') (hdg : decode cc pc = .ok (.lastore, 1))
    (kk : ∀ (H1 : Heap) (locs1 : List Loc), Wd g A s.heap ws' H1 locs1 → W p l e R s m args below meth c H1 locs1 cells slots Q (F0 m (pc + 1) ls rest)) : W p l e R s m args below meth c H locs cells slots Q (F0 m pc ls (.long x :: .int (nI i) :: .ref a :: rest)) := by
  subst hws
  refine va_last C.1 C.2.1 C.2.2.2.2.2.1 hw.1 hw.2.1 hw.2.2 q0 1 ha rfl (vp_in_nI hi hn) hdg ?_
  rw [nI_clamp (Nat.lt_trans hi hn)]
  exact fun H1 locs1 h1 h2 h3 => kk H1 locs1 ⟨h1, h2, h3⟩
theorem r_alen (C : Cx p s m args meth c cc nL ret Ts own g A) (hw : Wd g A s.heap ws H locs) (q0 t0 : Nat) {cA : ClassId} {x : vp_A} {n : Nat} (ha : ws[q0]? = some (a, .inl (cA, x))) {ty : FieldType} (ht : (tys6 g)[t0]? = some (cA, ty)) (hv : x.1 = n) (hdg : decode cc pc = .ok (.arraylength, 1))
    (kk : W p l e R s m args below meth c H locs cells slots Q (F0 m (pc + 1) ls (.int (nI n) :: rest))) : W p l e R s m args below meth c H locs cells slots Q (F0 m pc ls (.ref a :: rest)) :=
  va_alen C.1 C.2.1 C.2.2.2.2.2.1 hw.1 q0 t0 ha ht (by rw [hv]; rfl) hdg kk
/-! ends -/
theorem r_iret {w : va_W} {sz mc ms : Nat} {Post : Int32 → va_W → Prop} (C : Cx p s m args meth c cc nL (some .int) Ts own g (va_A w sz)) (hw : Wd g (va_A w sz) s.heap ws H locs) {v : Int32} (h1 : cells ≤ mc) (h2 : slots ≤ ms) (hp : Post v ws) (hdg : decode cc pc = .ok (.ireturn, 1)) :
    W p l e R s m args below meth c H locs cells slots (MQI g below args s w sz Post mc ms) (F0 m pc ls [.int v]) :=
  W.widen h1 h2 (W.iret C.1 C.2.1 C.2.2.2.2.2.2.2.1 (fun t ht hW => ⟨⟨v, ws, rfl, hp, by rw [ht]; exact hw.1, va_K.moved hW.alike C.2.2.2.2.2.1, hw.2.1⟩, hw.2.2.F ht⟩) hw.2.2.2.2 hdg C.2.2.2.2.2.2.2.2)
theorem r_zret {w : va_W} {sz mc ms : Nat} {Post : Int32 → va_W → Prop} (C : Cx p s m args meth c cc nL (some .boolean) Ts own g (va_A w sz)) (hw : Wd g (va_A w sz) s.heap ws H locs) {v : Int32} (hv : narrow .boolean (.int v) = .int v) (h1 : cells ≤ mc) (h2 : slots ≤ ms) (hp : Post v ws) (hdg : decode cc pc = .ok (.ireturn, 1)) :
    W p l e R s m args below meth c H locs cells slots (MQI g below args s w sz Post mc ms) (F0 m pc ls [.int v]) :=
  W.widen h1 h2 (W.zret C.1 C.2.1 C.2.2.2.2.2.2.2.1 hv (fun t ht hW => ⟨⟨v, ws, rfl, hp, by rw [ht]; exact hw.1, va_K.moved hW.alike C.2.2.2.2.2.1, hw.2.1⟩, hw.2.2.F ht⟩) hw.2.2.2.2 hdg C.2.2.2.2.2.2.2.2)
theorem r_vret {w : va_W} {sz mc ms : Nat} {Post : va_W → Prop} (C : Cx p s m args meth c cc nL none Ts own g (va_A w sz)) (hw : Wd g (va_A w sz) s.heap ws H locs) (h1 : cells ≤ mc) (h2 : slots ≤ ms) (hp : Post ws) (hdg : decode cc pc = .ok (.return_, 1)) :
    W p l e R s m args below meth c H locs cells slots (MQV g below args s w sz Post mc ms) (F0 m pc ls []) :=
  W.widen h1 h2 (W.vret C.1 C.2.1 C.2.2.2.2.2.2.2.1 (fun t ht hW => ⟨⟨ws, rfl, hp, by rw [ht]; exact hw.1, va_K.moved hW.alike C.2.2.2.2.2.1, hw.2.1⟩, hw.2.2.F ht⟩) hw.2.2.2.2 hdg C.2.2.2.2.2.2.2.2)
theorem r_aret {w : va_W} {sz mc ms : Nat} {Post : Nat → va_W → Prop} {rt : FieldType} (C : Cx p s m args meth c cc nL (some rt) Ts own g (va_A w sz)) (hw : Wd g (va_A w sz) s.heap ws H locs) {v : Nat} (hrt : (∃ n, rt = .object n) ∨ ∃ t, rt = .array t) (h1 : cells ≤ mc) (h2 : slots ≤ ms) (hp : Post v ws) (hdg : decode cc pc = .ok (.areturn, 1)) :
    W p l e R s m args below meth c H locs cells slots (MQR g below args s w sz Post mc ms) (F0 m pc ls [.ref v]) :=
  W.widen h1 h2 (W.aret C.1 C.2.1 C.2.2.2.2.2.2.2.1 hrt (Or.inr ⟨v, rfl⟩) (fun t ht hW => ⟨⟨(ws, v), v, rfl, hp, rfl, by rw [ht]; exact hw.1, va_K.moved hW.alike C.2.2.2.2.2.1, hw.2.1⟩, hw.2.2.F ht⟩) hw.2.2.2.2 hdg C.2.2.2.2.2.2.2.2)
/-! joins and loops -/
theorem jn {pcj : Nat} {lsj : Array Slot} {restj : List Value} {st : List Value} (P : Int32 → Prop) (k : ∀ v, P v → W p l e R s m args below meth c H locs cells slots Q (F0 m pcj lsj (.int v :: restj))) (b : (∀ v, P v → W p l e R s m args below meth c H locs cells slots Q (F0 m pcj lsj (.int v :: restj))) → W p l e R s m args below meth c H locs cells slots Q (F0 m pc ls st)) : W p l e R s m args below meth c H locs cells slots Q (F0 m pc ls st) := b k
theorem jw {pcj : Nat} {st restj : List Value} (I : Heap → List Loc → Array Slot → Prop) (k : ∀ (H : Heap) (locs : List Loc) (ls : Array Slot), I H locs ls → W p l e R s m args below meth c H locs cells slots Q (F0 m pcj ls restj)) (b : (∀ (H : Heap) (locs : List Loc) (ls : Array Slot), I H locs ls → W p l e R s m args below meth c H locs cells slots Q (F0 m pcj ls restj)) → W p l e R s m args below meth c H locs cells slots Q (F0 m pc ls st)) : W p l e R s m args below meth c H locs cells slots Q (F0 m pc ls st) := b k
theorem lpw (I : Nat → Heap → List Loc → Array Slot → Prop) (N : Nat)
    (ex : ∀ (H : Heap) (locs : List Loc) (ls : Array Slot), I N H locs ls → W p l e R s m args below meth c H locs cells slots Q (F0 m pc ls rest))
    (st : ∀ (i : Nat) (H : Heap) (locs : List Loc) (ls : Array Slot), i < N → I i H locs ls → (∀ (H : Heap) (locs : List Loc) (ls : Array Slot), I (i + 1) H locs ls → W p l e R s m args below meth c H locs cells slots Q (F0 m pc ls rest)) → W p l e R s m args below meth c H locs cells slots Q (F0 m pc ls rest))
    (i : Nat) (hi : i ≤ N) (h0 : I i H locs ls) : W p l e R s m args below meth c H locs cells slots Q (F0 m pc ls rest) := by
  have key : ∀ (n i : Nat) (H : Heap) (locs : List Loc) (ls : Array Slot), i + n = N → I i H locs ls → W p l e R s m args below meth c H locs cells slots Q (F0 m pc ls rest) := by
    intro n
    induction n with
    | zero => intro i H locs ls h hI; have : i = N := by omega
              subst this; exact ex H locs ls hI
    | succ n ih => intro i H locs ls h hI; exact st i H locs ls (by omega) hI (fun H1 locs1 ls1 h1 => ih (i + 1) H1 locs1 ls1 (by omega) h1)
  exact key (N - i) i H locs ls (by omega) h0
end BB
