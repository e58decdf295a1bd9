/-! worlds with a tail; calls over the callee's cells first -/
theorem Wd.app_l {g : GT} {A : Nat → Prop} {H0 : Heap} {a b : va_W} {H : Heap} {locs : List Loc} (hw : Wd g A H0 (a ++ b) H locs) : Wd g A H0 a H locs := by
  have key : ∀ (k : Nat) (q : Nat × va_E), a[k]? = some q → (a ++ b)[k]? = some q := fun k q h => by rw [List.getElem?_append_left (List.getElem?_eq_some_iff.mp h).1]; exact h
  exact ⟨fun k q h => hw.1 k q (key k q h), ⟨fun i j x y hi hj => hw.2.1.1 i j x y (key i x hi) (key j y hj), fun k q h => hw.2.1.2 k q (key k q h)⟩, hw.2.2⟩
theorem Wd.app_r {g : GT} {A : Nat → Prop} {H0 : Heap} {a b : va_W} {H : Heap} {locs : List Loc} (hw : Wd g A H0 (a ++ b) H locs) : Wd g A H0 b H locs := by
  have key : ∀ (k : Nat) (q : Nat × va_E), b[k]? = some q → (a ++ b)[a.length + k]? = some q := fun k q h => by rw [List.getElem?_append_right (by omega), Nat.add_sub_cancel_left]; exact h
  refine ⟨fun k q h => hw.1 _ q (key k q h), ⟨fun i j x y hi hj e => ?_, fun k q h => hw.2.1.2 _ q (key k q h)⟩, hw.2.2⟩
  have := hw.2.1.1 _ _ x y (key i x hi) (key j y hj) e
  omega
theorem Wd.apart {g : GT} {A : Nat → Prop} {H0 : Heap} {a b : va_W} {H : Heap} {locs : List Loc} (hw : Wd g A H0 (a ++ b) H locs) : ∀ (i j : Nat) (x y : Nat × va_E), a[i]? = some x → b[j]? = some y → x.1 ≠ y.1 := by
  intro i j x y hi hj e
  have h1 : (a ++ b)[i]? = some x := by rw [List.getElem?_append_left (List.getElem?_eq_some_iff.mp hi).1]; exact hi
  have h2 : (a ++ b)[a.length + j]? = some y := by rw [List.getElem?_append_right (by omega), Nat.add_sub_cancel_left]; exact hj
  have := hw.2.1.1 _ _ x y h1 h2 e
  have := (List.getElem?_eq_some_iff.mp hi).1
  omega
theorem Wd.mk2 {g : GT} {A : Nat → Prop} {H0 : Heap} {a b : va_W} {H : Heap} {locs : List Loc} (ha : Wd g A H0 a H locs) (hb : Wd g A H0 b H locs) (hx : ∀ (i j : Nat) (x y : Nat × va_E), a[i]? = some x → b[j]? = some y → x.1 ≠ y.1) : Wd g A H0 (a ++ b) H locs := ⟨ha.1.app hb.1, ha.2.1.app hb.2.1 hx, ha.2.2⟩
theorem Wd.comm {g : GT} {A : Nat → Prop} {H0 : Heap} {a b : va_W} {H : Heap} {locs : List Loc} (hw : Wd g A H0 (a ++ b) H locs) : Wd g A H0 (b ++ a) H locs := Wd.mk2 hw.app_r hw.app_l (fun i j x y hi hj e => hw.apart j i y x hj hi e.symm)
/-- the explicit part picked anew, the tail as it is -/
theorem Wd.subT {g : GT} {A : Nat → Prop} {H0 : Heap} {E E' tl : va_W} {H : Heap} {locs : List Loc} (hw : Wd g A H0 (E ++ tl) H locs) (is : List Nat) (hn : va_nd is = true) (hs : is.map (fun i => E[i]?) = E'.map some) : Wd g A H0 (E' ++ tl) H locs := by
  refine Wd.mk2 (hw.app_l.sub is hn hs) hw.app_r (fun i j x y hi hj => ?_)
  have h1 : (is.map (fun i => E[i]?))[i]? = some (some x) := by rw [hs, List.getElem?_map, hi]; rfl
  rw [List.getElem?_map] at h1
  cases hk : is[i]? with
  | none => rw [hk] at h1; cases h1
  | some k => rw [hk] at h1; exact hw.apart k j x y (Option.some.inj h1) hj
theorem Wd.swT {g : GT} {A : Nat → Prop} {H0 : Heap} {a b c : va_W} {H : Heap} {locs : List Loc} (hw : Wd g A H0 ((a ++ b) ++ c) H locs) : Wd g A H0 ((a ++ c) ++ b) H locs := by
  have h1 : Wd g A H0 (a ++ (b ++ c)) H locs := by rw [← List.append_assoc]; exact hw
  have h2 := h1.app_r.comm
  have h3 : Wd g A H0 (a ++ (c ++ b)) H locs := Wd.mk2 h1.app_l h2 (fun i j x y hi hj => by
    have hm : y ∈ b ++ c := by
      have := List.mem_of_getElem? hj
      simp only [List.mem_append] at this ⊢
      exact this.symm
    obtain ⟨k, hk⟩ := List.getElem?_of_mem hm
    exact h1.apart i k x y hi hk)
  rw [← List.append_assoc] at h3
  exact h3
section BP
variable {p : Program} {l : Launch} {e : Env} {R : Room} {s : State} {m : MethodId} {args : Array Value} {below : List Frame} {meth : Method} {c : Code} {H : Heap} {locs : List Loc} {cells slots : Nat} {Q : State → Prop}
variable {cc : ByteArray} {pc : Nat} {ls : Array Slot} {rest st0 : List Value} {g : GT} {A : Nat → Prop} {b : Nat} {nL : Nat} {ret : Option FieldType} {Ts : List Cond} {own : String}
variable {y : MethodName} {bytes : ByteArray} {maxL mc ms n index : Nat} {rty : Option FieldType} {wy : List Cond} {rm : Room} {w wr : va_W} {B : State → Prop} {As : List Value} {Cn : String}
theorem wd_freeP {ws : va_W} (C : Cx p s m args meth c cc nL ret Ts own g A) (hw : Wd g A s.heap (w ++ wr) H locs) : ∀ q, va_A w H.size q → A q := by
  intro q h
  rcases h with ⟨k, e, h⟩ | h
  · exact hw.app_l.2.1.2 k (q, e) h
  · exact C.2.2.2.2.2.2.1 q (Nat.le_trans hw.2.2.1 h)
theorem wd_preP (C : Cx p s m args meth c cc nL ret Ts own g A) (hw : Wd g A s.heap (w ++ wr) H locs) {av : List Value} (hB : ∀ U : State, U.heap = H → s.WarmedH U.vm → B U) : ∀ U : State, U.heap = H → s.WarmedH U.vm → pre0 g av w H.size B av.toArray U := by
  intro U hU hW
  have h := hw.app_l
  exact ⟨rfl, by rw [hU], by rw [hU]; exact h.1, va_K.moved hW.alike C.2.2.2.2.2.1, h.2.1.weaken (fun _ _ _ _ => trivial), hB U hU hW⟩
theorem wd_joinP (hw : Wd g A s.heap (w ++ wr) H locs) (hF : ∀ q, va_A w H.size q → A q) {u : va_W} {t : State} {H1 : Heap} {locs1 : List Loc} (ht : t.heap = H1) (hB : post0 g w H.size u t) (hk : ∀ q : Nat, q < H.size → ¬ va_A w H.size q → H1[q]? = H[q]?) (hS : va_S A s.heap H1 locs1) : Wd g A s.heap (u ++ wr) H1 locs1 := by
  have h1 := hB.1
  rw [ht] at h1
  have hout : ∀ (k : Nat) (q : Nat × va_E), wr[k]? = some q → q.1 < H.size ∧ ¬ va_A w H.size q.1 := by
    intro k q hq
    have hl := (hw.app_r.1 k q hq).lt
    refine ⟨hl, fun h => ?_⟩
    rcases h with ⟨k2, e, h⟩ | h
    · exact hw.apart k2 k (q.1, e) q h hq rfl
    · omega
  refine Wd.mk2 ⟨h1, hB.2.2.weaken (fun k q _ h => hF q.1 h), hS⟩ ⟨fun k q hq => (hw.app_r.1 k q hq).kept (hk q.1 (hout k q hq).1 (hout k q hq).2), hw.app_r.2.1, hS⟩ (fun i j x y hi hj e => (hout j y hj).2 (by rw [← e]; exact hB.2.2.2 i x hi))
theorem sx_callP {tb : Nat → Nat} (C : Cx p s m args meth c cc nL ret Ts own g A) (hw : Wd g A s.heap (w ++ wr) H locs) (hx : Sx tb A s s.heap) : ∀ U : State, U.heap = H → s.WarmedH U.vm → Sx tb (va_A w H.size) U U.heap := by
  intro U hU hW
  have hF := wd_freeP (ws := []) C hw
  rw [hU]
  exact ((hx.kept (fun a h1 h2 => hw.2.2.2.1 a h1 h2)).moved hW.alike (hx.2.2.2.warm hW)).narrow hF
theorem kP_Vi {Post : Int32 → va_W → Prop} (C : Cx p s m args meth c cc nL ret Ts own g A) (hw : Wd g A s.heap (w ++ wr) H locs) (hM : CtI l g y wy rm (.ref b :: As) w H.size B Post mc ms) (cw : CallW R s args own Cn index y bytes maxL rty wy rm mc ms n) (hBb : Bl B) (hB : ∀ U : State, U.heap = H → s.WarmedH U.vm → B U) {ci : Nat} {T : u_T} {N : Nat} (q0 : Nat) {fs : List Value} (hc : cls9[ci]? = some (Cn, T, N)) (he : (w ++ wr)[q0]? = some (b, .inr (ci, fs)))
    (hlen : As.length = n) (hsize : ls.size = nL) (hst : st0 = As.reverse ++ .ref b :: rest) (hro : (rest.map fun v => v.category).sum ≤ 8) (hdg : decode cc pc = .ok (.invokevirtual index, 3)) (hf : cells + mc ≤ R.cells ∧ slots + ms ≤ R.slots)
    (kk : ∀ (r : Int32) (u : va_W) (H1 : Heap) (locs1 : List Loc), Post r u → Wd g A s.heap (u ++ wr) H1 locs1 → W p l e R s m args below meth c H1 locs1 (cells + mc) (slots + ms) Q (F0 m (pc + 3) ls (.int r :: rest))) : W p l e R s m args below meth c H locs cells slots Q (F0 m pc ls st0) := by
  subst hst
  have hF := wd_freeP (ws := []) C hw
  exact va_calli (va_runV (As := As) (rest := rest) ⟨C.1, C.2.1, C.2.2.1, C.2.2.2.1, C.2.2.2.2.1⟩ hM cw ⟨pre0_blind hBb, va_recv C.2.2.2.2.2.1 hw.1 hc he, wd_preP C hw hB⟩ rfl hlen hsize rfl (lv_room hro) hdg hf) hw.2.2 (fun q _ h => hF q h) hF (fun r u t H1 locs1 ht hvm hp hB hz hk hS => kk r u H1 locs1 hp (wd_joinP hw hF ht hB hk hS))
theorem kP_Vv {Post : va_W → Prop} (C : Cx p s m args meth c cc nL ret Ts own g A) (hw : Wd g A s.heap (w ++ wr) H locs) (hM : CtV l g y wy rm (.ref b :: As) w H.size B Post mc ms) (cw : CallW R s args own Cn index y bytes maxL rty wy rm mc ms n) (hBb : Bl B) (hB : ∀ U : State, U.heap = H → s.WarmedH U.vm → B U) {ci : Nat} {T : u_T} {N : Nat} (q0 : Nat) {fs : List Value} (hc : cls9[ci]? = some (Cn, T, N)) (he : (w ++ wr)[q0]? = some (b, .inr (ci, fs)))
    (hlen : As.length = n) (hsize : ls.size = nL) (hst : st0 = As.reverse ++ .ref b :: rest) (hro : (rest.map fun v => v.category).sum ≤ 8) (hdg : decode cc pc = .ok (.invokevirtual index, 3)) (hf : cells + mc ≤ R.cells ∧ slots + ms ≤ R.slots)
    (kk : ∀ (u : va_W) (H1 : Heap) (locs1 : List Loc), Post u → Wd g A s.heap (u ++ wr) H1 locs1 → W p l e R s m args below meth c H1 locs1 (cells + mc) (slots + ms) Q (F0 m (pc + 3) ls rest)) : W p l e R s m args below meth c H locs cells slots Q (F0 m pc ls st0) := by
  subst hst
  have hF := wd_freeP (ws := []) C hw
  exact va_callv (va_runV (As := As) (rest := rest) ⟨C.1, C.2.1, C.2.2.1, C.2.2.2.1, C.2.2.2.2.1⟩ hM cw ⟨pre0_blind hBb, va_recv C.2.2.2.2.2.1 hw.1 hc he, wd_preP C hw hB⟩ rfl hlen hsize rfl (lv_room hro) hdg hf) hw.2.2 (fun q _ h => hF q h) hF (fun u t H1 locs1 ht hvm hp hB hz hk hS => kk u H1 locs1 hp (wd_joinP hw hF ht hB hk hS))
theorem kP_Vr {Post : Nat → va_W → Prop} (C : Cx p s m args meth c cc nL ret Ts own g A) (hw : Wd g A s.heap (w ++ wr) H locs) (hM : CtR l g y wy rm (.ref b :: As) w H.size B Post mc ms) (cw : CallW R s args own Cn index y bytes maxL rty wy rm mc ms n) (hBb : Bl B) (hB : ∀ U : State, U.heap = H → s.WarmedH U.vm → B U) {ci : Nat} {T : u_T} {N : Nat} (q0 : Nat) {fs : List Value} (hc : cls9[ci]? = some (Cn, T, N)) (he : (w ++ wr)[q0]? = some (b, .inr (ci, fs)))
    (hlen : As.length = n) (hsize : ls.size = nL) (hst : st0 = As.reverse ++ .ref b :: rest) (hro : (rest.map fun v => v.category).sum ≤ 8) (hdg : decode cc pc = .ok (.invokevirtual index, 3)) (hf : cells + mc ≤ R.cells ∧ slots + ms ≤ R.slots)
    (kk : ∀ (r : Nat) (u : va_W) (H1 : Heap) (locs1 : List Loc), Post r u → Wd g A s.heap (u ++ wr) H1 locs1 → W p l e R s m args below meth c H1 locs1 (cells + mc) (slots + ms) Q (F0 m (pc + 3) ls (.ref r :: rest))) : W p l e R s m args below meth c H locs cells slots Q (F0 m pc ls st0) := by
  subst hst
  have hF := wd_freeP (ws := []) C hw
  refine va_callr (va_runV (As := As) (rest := rest) ⟨C.1, C.2.1, C.2.2.1, C.2.2.2.1, C.2.2.2.2.1⟩ hM cw ⟨pre0_blind hBb, va_recv C.2.2.2.2.2.1 hw.1 hc he, wd_preP C hw hB⟩ rfl hlen hsize rfl (lv_room hro) hdg hf) hw.2.2 (fun q _ h => hF q h) hF ?_
  rintro ⟨u, r⟩ a t H1 locs1 ht hvm hp ⟨rfl, hB⟩ hz hk hS
  exact kk _ u H1 locs1 hp (wd_joinP hw hF ht hB hk hS)
theorem kP_Si {Post : Int32 → va_W → Prop} (C : Cx p s m args meth c cc nL ret Ts own g A) (hw : Wd g A s.heap (w ++ wr) H locs) (hM : CtI l g y wy rm As w H.size B Post mc ms) (cw : CallB R s args own index y bytes maxL rty wy rm mc ms n ∧ (Cond.static y).before args s = true) (hBb : Bl B) (hB : ∀ U : State, U.heap = H → s.WarmedH U.vm → B U)
    (hlen : As.length = n) (hsize : ls.size = nL) (hst : st0 = As.reverse ++ rest) (hro : (rest.map fun v => v.category).sum ≤ 8) (hdg : decode cc pc = .ok (.invokestatic index, 3)) (hf : cells + mc ≤ R.cells ∧ slots + ms ≤ R.slots)
    (kk : ∀ (r : Int32) (u : va_W) (H1 : Heap) (locs1 : List Loc), Post r u → Wd g A s.heap (u ++ wr) H1 locs1 → W p l e R s m args below meth c H1 locs1 (cells + mc) (slots + ms) Q (F0 m (pc + 3) ls (.int r :: rest))) : W p l e R s m args below meth c H locs cells slots Q (F0 m pc ls st0) := by
  subst hst
  have hF := wd_freeP (ws := []) C hw
  exact va_calli (va_runS (As := As) (rest := rest) ⟨C.1, C.2.1, C.2.2.1, C.2.2.2.1, C.2.2.2.2.1⟩ hM cw ⟨pre0_blind hBb, wd_preP C hw hB⟩ rfl hlen hsize rfl (lv_room hro) hdg hf) hw.2.2 (fun q _ h => hF q h) hF (fun r u t H1 locs1 ht hvm hp hB hz hk hS => kk r u H1 locs1 hp (wd_joinP hw hF ht hB hk hS))
theorem kP_Sv {Post : va_W → Prop} (C : Cx p s m args meth c cc nL ret Ts own g A) (hw : Wd g A s.heap (w ++ wr) H locs) (hM : CtV l g y wy rm As w H.size B Post mc ms) (cw : CallB R s args own index y bytes maxL rty wy rm mc ms n ∧ (Cond.static y).before args s = true) (hBb : Bl B) (hB : ∀ U : State, U.heap = H → s.WarmedH U.vm → B U)
    (hlen : As.length = n) (hsize : ls.size = nL) (hst : st0 = As.reverse ++ rest) (hro : (rest.map fun v => v.category).sum ≤ 8) (hdg : decode cc pc = .ok (.invokestatic index, 3)) (hf : cells + mc ≤ R.cells ∧ slots + ms ≤ R.slots)
    (kk : ∀ (u : va_W) (H1 : Heap) (locs1 : List Loc), Post u → Wd g A s.heap (u ++ wr) H1 locs1 → W p l e R s m args below meth c H1 locs1 (cells + mc) (slots + ms) Q (F0 m (pc + 3) ls rest)) : W p l e R s m args below meth c H locs cells slots Q (F0 m pc ls st0) := by
  subst hst
  have hF := wd_freeP (ws := []) C hw
  exact va_callv (va_runS (As := As) (rest := rest) ⟨C.1, C.2.1, C.2.2.1, C.2.2.2.1, C.2.2.2.2.1⟩ hM cw ⟨pre0_blind hBb, wd_preP C hw hB⟩ rfl hlen hsize rfl (lv_room hro) hdg hf) hw.2.2 (fun q _ h => hF q h) hF (fun u t H1 locs1 ht hvm hp hB hz hk hS => kk u H1 locs1 hp (wd_joinP hw hF ht hB hk hS))
theorem kP_Sr {Post : Nat → va_W → Prop} (C : Cx p s m args meth c cc nL ret Ts own g A) (hw : Wd g A s.heap (w ++ wr) H locs) (hM : CtR l g y wy rm As w H.size B Post mc ms) (cw : CallB R s args own index y bytes maxL rty wy rm mc ms n ∧ (Cond.static y).before args s = true) (hBb : Bl B) (hB : ∀ U : State, U.heap = H → s.WarmedH U.vm → B U)
    (hlen : As.length = n) (hsize : ls.size = nL) (hst : st0 = As.reverse ++ rest) (hro : (rest.map fun v => v.category).sum ≤ 8) (hdg : decode cc pc = .ok (.invokestatic index, 3)) (hf : cells + mc ≤ R.cells ∧ slots + ms ≤ R.slots)
    (kk : ∀ (r : Nat) (u : va_W) (H1 : Heap) (locs1 : List Loc), Post r u → Wd g A s.heap (u ++ wr) H1 locs1 → W p l e R s m args below meth c H1 locs1 (cells + mc) (slots + ms) Q (F0 m (pc + 3) ls (.ref r :: rest))) : W p l e R s m args below meth c H locs cells slots Q (F0 m pc ls st0) := by
  subst hst
  have hF := wd_freeP (ws := []) C hw
  refine va_callr (va_runS (As := As) (rest := rest) ⟨C.1, C.2.1, C.2.2.1, C.2.2.2.1, C.2.2.2.2.1⟩ hM cw ⟨pre0_blind hBb, wd_preP C hw hB⟩ rfl hlen hsize rfl (lv_room hro) hdg hf) hw.2.2 (fun q _ h => hF q h) hF ?_
  rintro ⟨u, r⟩ a t H1 locs1 ht hvm hp ⟨rfl, hB⟩ hz hk hS
  exact kk _ u H1 locs1 hp (wd_joinP hw hF ht hB hk hS)
theorem kP_Iv {Post : va_W → Prop} (C : Cx p s m args meth c cc nL ret Ts own g A) (hw : Wd g A s.heap (w ++ wr) H locs) (hM : CtV l g y wy rm (.ref b :: As) w H.size B Post mc ms) (cw : CallB R s args own index y bytes maxL none wy rm mc ms n ∧ y.name = "<init>" ∧ (Cond.instanceMethod y).before args s = true) (hBb : Bl B) (hB : ∀ U : State, U.heap = H → s.WarmedH U.vm → B U)
    (hlen : As.length = n) (hsize : ls.size = nL) (hst : st0 = As.reverse ++ .ref b :: rest) (hro : (rest.map fun v => v.category).sum ≤ 8) (hdg : decode cc pc = .ok (.invokespecial index, 3)) (hf : cells + mc ≤ R.cells ∧ slots + ms ≤ R.slots)
    (kk : ∀ (u : va_W) (H1 : Heap) (locs1 : List Loc), Post u → Wd g A s.heap (u ++ wr) H1 locs1 → W p l e R s m args below meth c H1 locs1 (cells + mc) (slots + ms) Q (F0 m (pc + 3) ls rest)) : W p l e R s m args below meth c H locs cells slots Q (F0 m pc ls st0) := by
  subst hst
  have hF := wd_freeP (ws := []) C hw
  exact va_callv (va_runI (As := As) (rest := rest) ⟨C.1, C.2.1, C.2.2.1, C.2.2.2.1, C.2.2.2.2.1⟩ hM cw ⟨pre0_blind hBb, wd_preP C hw hB⟩ rfl hlen hsize rfl (lv_room hro) hdg hf) hw.2.2 (fun q _ h => hF q h) hF (fun u t H1 locs1 ht hvm hp hB hz hk hS => kk u H1 locs1 hp (wd_joinP hw hF ht hB hk hS))
end BP
