/-! calls -/
theorem Wd.sub {g : GT} {A : Nat → Prop} {H0 : Heap} {ws ws' : va_W} {H : Heap} {locs : List Loc} (hw : Wd g A H0 ws H locs) (is : List Nat) (hn : va_nd is = true) (hs : is.map (fun i => ws[i]?) = ws'.map some) : Wd g A H0 ws' H locs := by
  refine ⟨fun k q hk => ?_, hw.2.1.sub is hn hs, hw.2.2⟩
  have h1 : (is.map (fun i => ws[i]?))[k]? = some (some q) := by rw [hs, List.getElem?_map, hk]; rfl
  rw [List.getElem?_map] at h1
  cases hi : is[k]? with
  | none => rw [hi] at h1; cases h1
  | some i => rw [hi] at h1; exact hw.1 i q (Option.some.inj h1)
def Bl (B : State → Prop) : Prop := ∀ (a : Array Value) (U : State) (g : JFrame) (mk : MethodId), B U → B (U.calling g mk a)
theorem bl_T : Bl (fun _ => True) := fun _ _ _ _ _ => trivial
theorem pre0_blind {g : GT} {av : List Value} {w : va_W} {sz : Nat} {B : State → Prop} (hB : Bl B) : FrameBlind (pre0 g av w sz B) := fun a U f mk q => by
  obtain ⟨q0, q1, qP, qK, qD, qB⟩ := q
  exact ⟨q0, q1, qP, va_K.moved (u := U) (U := U.calling f mk a) (Vm.Alike.refl U.vm) qK, qD, hB a U f mk qB⟩
section BC
variable {p : Program} {l : Launch} {e : Env} {R : Room} {s : State} {m : MethodId} {args : Array Value} {below : List Frame} {meth : Method} {c : Code} {H : Heap} {locs : List Loc} {cells slots : Nat} {Q : State → Prop}
variable {cc : ByteArray} {pc : Nat} {ls : Array Slot} {rest st0 : List Value} {g : GT} {A : Nat → Prop} {b : Nat} {ws : va_W} {nL : Nat} {ret : Option FieldType} {Ts : List Cond} {own : String}
variable {y : MethodName} {bytes : ByteArray} {maxL mc ms n index : Nat} {rty : Option FieldType} {wy : List Cond} {rm : Room} {w wr : va_W} {B : State → Prop} {As : List Value} {Cn : String}
theorem wd_free (C : Cx p s m args meth c cc nL ret Ts own g A) (hw : Wd g A s.heap ws H locs) (isC : List Nat) (hC : isC.map (fun i => ws[i]?) = w.map some) : ∀ q, va_A w H.size q → A q :=
  va_free hw.2.1 hw.2.2 C.2.2.2.2.2.2.1 isC hC
theorem wd_pre (C : Cx p s m args meth c cc nL ret Ts own g A) (hw : Wd g A s.heap ws H locs) (isC : List Nat) (hn : va_nd isC = true) (hC : isC.map (fun i => ws[i]?) = w.map some) {av : List Value} (hB : ∀ U : State, U.heap = H → s.WarmedH U.vm → B U) : ∀ U : State, U.heap = H → s.WarmedH U.vm → pre0 g av w H.size B av.toArray U := by
  intro U hU hW
  have h := hw.sub isC hn hC
  exact ⟨rfl, by rw [hU], by rw [hU]; exact h.1, va_K.moved hW.alike C.2.2.2.2.2.1, h.2.1.weaken (fun _ _ _ _ => trivial), hB U hU hW⟩
theorem wd_join (hw : Wd g A s.heap ws H locs) (isC isR : List Nat) (hC : isC.map (fun i => ws[i]?) = w.map some) (hR : isR.map (fun i => ws[i]?) = wr.map some) (hn : va_nd isR = true) (hdis : ∀ i ∈ isR, i ∉ isC) (hF : ∀ q, va_A w H.size q → A q) {u : va_W} {t : State} {H1 : Heap} {locs1 : List Loc} (ht : t.heap = H1) (hB : post0 g w H.size u t) (hk : ∀ q : Nat, q < H.size → ¬ va_A w H.size q → H1[q]? = H[q]?) (hS : va_S A s.heap H1 locs1) : Wd g A s.heap (wr ++ u) H1 locs1 := by
  have h1 := hB.1
  rw [ht] at h1
  obtain ⟨hP, hD⟩ := va_join hw.1 hw.2.1 isC isR hC hR hn hdis hk hF h1 hB.2.2
  exact ⟨hP, hD, hS⟩
theorem k_Vi {Post : Int32 → va_W → Prop} (C : Cx p s m args meth c cc nL ret Ts own g A) (hw : Wd g A s.heap ws H locs) (hM : CtI l g y wy rm (.ref b :: As) w H.size B Post mc ms) (cw : CallW R s args own Cn index y bytes maxL rty wy rm mc ms n) (hBb : Bl B) (hB : ∀ U : State, U.heap = H → s.WarmedH U.vm → B U) (isC isR : List Nat) (hnC : va_nd isC = true) (hC : isC.map (fun i => ws[i]?) = w.map some) (hR : isR.map (fun i => ws[i]?) = wr.map some) (hn : va_nd isR = true) (hdis : ∀ i ∈ isR, i ∉ isC) {ci : Nat} {T : u_T} {N : Nat} (q0 : Nat) {fs : List Value} (hc : cls9[ci]? = some (Cn, T, N)) (he : ws[q0]? = some (b, .inr (ci, fs)))
    (hlen : As.length = n) (hsize : ls.size = nL) (hst : st0 = As.reverse ++ .ref b :: rest) (hro : (rest.map fun v => v.category).sum ≤ 8) (hdg : decode cc pc = .ok (.invokevirtual index, 3)) (hf : cells + mc ≤ R.cells ∧ slots + ms ≤ R.slots)
    (kk : ∀ (r : Int32) (u : va_W) (H1 : Heap) (locs1 : List Loc), Post r u → Wd g A s.heap (wr ++ u) H1 locs1 → W p l e R s m args below meth c H1 locs1 (cells + mc) (slots + ms) Q (F0 m (pc + 3) ls (.int r :: rest))) : W p l e R s m args below meth c H locs cells slots Q (F0 m pc ls st0) := by
  subst hst
  have hF := wd_free C hw isC hC
  exact va_calli (va_runV (As := As) (rest := rest) ⟨C.1, C.2.1, C.2.2.1, C.2.2.2.1, C.2.2.2.2.1⟩ hM cw ⟨pre0_blind hBb, va_recv C.2.2.2.2.2.1 hw.1 hc he, wd_pre C hw isC hnC hC hB⟩ rfl hlen hsize rfl (lv_room hro) hdg hf) hw.2.2 (fun q _ h => hF q h) hF (fun r u t H1 locs1 ht hvm hp hB hz hk hS => kk r u H1 locs1 hp (wd_join hw isC isR hC hR hn hdis hF ht hB hk hS))
theorem k_Vv {Post : va_W → Prop} (C : Cx p s m args meth c cc nL ret Ts own g A) (hw : Wd g A s.heap ws H locs) (hM : CtV l g y wy rm (.ref b :: As) w H.size B Post mc ms) (cw : CallW R s args own Cn index y bytes maxL rty wy rm mc ms n) (hBb : Bl B) (hB : ∀ U : State, U.heap = H → s.WarmedH U.vm → B U) (isC isR : List Nat) (hnC : va_nd isC = true) (hC : isC.map (fun i => ws[i]?) = w.map some) (hR : isR.map (fun i => ws[i]?) = wr.map some) (hn : va_nd isR = true) (hdis : ∀ i ∈ isR, i ∉ isC) {ci : Nat} {T : u_T} {N : Nat} (q0 : Nat) {fs : List Value} (hc : cls9[ci]? = some (Cn, T, N)) (he : ws[q0]? = some (b, .inr (ci, fs)))
    (hlen : As.length = n) (hsize : ls.size = nL) (hst : st0 = As.reverse ++ .ref b :: rest) (hro : (rest.map fun v => v.category).sum ≤ 8) (hdg : decode cc pc = .ok (.invokevirtual index, 3)) (hf : cells + mc ≤ R.cells ∧ slots + ms ≤ R.slots)
    (kk : ∀ (u : va_W) (H1 : Heap) (locs1 : List Loc), Post u → Wd g A s.heap (wr ++ u) H1 locs1 → W p l e R s m args below meth c H1 locs1 (cells + mc) (slots + ms) Q (F0 m (pc + 3) ls rest)) : W p l e R s m args below meth c H locs cells slots Q (F0 m pc ls st0) := by
  subst hst
  have hF := wd_free C hw isC hC
  exact va_callv (va_runV (As := As) (rest := rest) ⟨C.1, C.2.1, C.2.2.1, C.2.2.2.1, C.2.2.2.2.1⟩ hM cw ⟨pre0_blind hBb, va_recv C.2.2.2.2.2.1 hw.1 hc he, wd_pre C hw isC hnC hC hB⟩ rfl hlen hsize rfl (lv_room hro) hdg hf) hw.2.2 (fun q _ h => hF q h) hF (fun u t H1 locs1 ht hvm hp hB hz hk hS => kk u H1 locs1 hp (wd_join hw isC isR hC hR hn hdis hF ht hB hk hS))
theorem k_Vr {Post : Nat → va_W → Prop} (C : Cx p s m args meth c cc nL ret Ts own g A) (hw : Wd g A s.heap ws H locs) (hM : CtR l g y wy rm (.ref b :: As) w H.size B Post mc ms) (cw : CallW R s args own Cn index y bytes maxL rty wy rm mc ms n) (hBb : Bl B) (hB : ∀ U : State, U.heap = H → s.WarmedH U.vm → B U) (isC isR : List Nat) (hnC : va_nd isC = true) (hC : isC.map (fun i => ws[i]?) = w.map some) (hR : isR.map (fun i => ws[i]?) = wr.map some) (hn : va_nd isR = true) (hdis : ∀ i ∈ isR, i ∉ isC) {ci : Nat} {T : u_T} {N : Nat} (q0 : Nat) {fs : List Value} (hc : cls9[ci]? = some (Cn, T, N)) (he : ws[q0]? = some (b, .inr (ci, fs)))
    (hlen : As.length = n) (hsize : ls.size = nL) (hst : st0 = As.reverse ++ .ref b :: rest) (hro : (rest.map fun v => v.category).sum ≤ 8) (hdg : decode cc pc = .ok (.invokevirtual index, 3)) (hf : cells + mc ≤ R.cells ∧ slots + ms ≤ R.slots)
    (kk : ∀ (r : Nat) (u : va_W) (H1 : Heap) (locs1 : List Loc), Post r u → Wd g A s.heap (wr ++ u) H1 locs1 → W p l e R s m args below meth c H1 locs1 (cells + mc) (slots + ms) Q (F0 m (pc + 3) ls (.ref r :: rest))) : W p l e R s m args below meth c H locs cells slots Q (F0 m pc ls st0) := by
  subst hst
  have hF := wd_free C hw isC hC
  refine va_callr (va_runV (As := As) (rest := rest) ⟨C.1, C.2.1, C.2.2.1, C.2.2.2.1, C.2.2.2.2.1⟩ hM cw ⟨pre0_blind hBb, va_recv C.2.2.2.2.2.1 hw.1 hc he, wd_pre C hw isC hnC hC hB⟩ rfl hlen hsize rfl (lv_room hro) hdg hf) hw.2.2 (fun q _ h => hF q h) hF ?_
  rintro ⟨u, r⟩ a t H1 locs1 ht hvm hp ⟨rfl, hB⟩ hz hk hS
  exact kk _ u H1 locs1 hp (wd_join hw isC isR hC hR hn hdis hF ht hB hk hS)
theorem k_Si {Post : Int32 → va_W → Prop} (C : Cx p s m args meth c cc nL ret Ts own g A) (hw : Wd g A s.heap ws H locs) (hM : CtI l g y wy rm As w H.size B Post mc ms) (cw : CallB R s args own index y bytes maxL rty wy rm mc ms n ∧ (Cond.static y).before args s = true) (hBb : Bl B) (hB : ∀ U : State, U.heap = H → s.WarmedH U.vm → B U) (isC isR : List Nat) (hnC : va_nd isC = true) (hC : isC.map (fun i => ws[i]?) = w.map some) (hR : isR.map (fun i => ws[i]?) = wr.map some) (hn : va_nd isR = true) (hdis : ∀ i ∈ isR, i ∉ isC)
    (hlen : As.length = n) (hsize : ls.size = nL) (hst : st0 = As.reverse ++ rest) (hro : (rest.map fun v => v.category).sum ≤ 8) (hdg : decode cc pc = .ok (.invokestatic index, 3)) (hf : cells + mc ≤ R.cells ∧ slots + ms ≤ R.slots)
    (kk : ∀ (r : Int32) (u : va_W) (H1 : Heap) (locs1 : List Loc), Post r u → Wd g A s.heap (wr ++ u) H1 locs1 → W p l e R s m args below meth c H1 locs1 (cells + mc) (slots + ms) Q (F0 m (pc + 3) ls (.int r :: rest))) : W p l e R s m args below meth c H locs cells slots Q (F0 m pc ls st0) := by
  subst hst
  have hF := wd_free C hw isC hC
  exact va_calli (va_runS (As := As) (rest := rest) ⟨C.1, C.2.1, C.2.2.1, C.2.2.2.1, C.2.2.2.2.1⟩ hM cw ⟨pre0_blind hBb, wd_pre C hw isC hnC hC hB⟩ rfl hlen hsize rfl (lv_room hro) hdg hf) hw.2.2 (fun q _ h => hF q h) hF (fun r u t H1 locs1 ht hvm hp hB hz hk hS => kk r u H1 locs1 hp (wd_join hw isC isR hC hR hn hdis hF ht hB hk hS))
theorem k_Sv {Post : va_W → Prop} (C : Cx p s m args meth c cc nL ret Ts own g A) (hw : Wd g A s.heap ws H locs) (hM : CtV l g y wy rm As w H.size B Post mc ms) (cw : CallB R s args own index y bytes maxL rty wy rm mc ms n ∧ (Cond.static y).before args s = true) (hBb : Bl B) (hB : ∀ U : State, U.heap = H → s.WarmedH U.vm → B U) (isC isR : List Nat) (hnC : va_nd isC = true) (hC : isC.map (fun i => ws[i]?) = w.map some) (hR : isR.map (fun i => ws[i]?) = wr.map some) (hn : va_nd isR = true) (hdis : ∀ i ∈ isR, i ∉ isC)
    (hlen : As.length = n) (hsize : ls.size = nL) (hst : st0 = As.reverse ++ rest) (hro : (rest.map fun v => v.category).sum ≤ 8) (hdg : decode cc pc = .ok (.invokestatic index, 3)) (hf : cells + mc ≤ R.cells ∧ slots + ms ≤ R.slots)
    (kk : ∀ (u : va_W) (H1 : Heap) (locs1 : List Loc), Post u → Wd g A s.heap (wr ++ u) H1 locs1 → W p l e R s m args below meth c H1 locs1 (cells + mc) (slots + ms) Q (F0 m (pc + 3) ls rest)) : W p l e R s m args below meth c H locs cells slots Q (F0 m pc ls st0) := by
  subst hst
  have hF := wd_free C hw isC hC
  exact va_callv (va_runS (As := As) (rest := rest) ⟨C.1, C.2.1, C.2.2.1, C.2.2.2.1, C.2.2.2.2.1⟩ hM cw ⟨pre0_blind hBb, wd_pre C hw isC hnC hC hB⟩ rfl hlen hsize rfl (lv_room hro) hdg hf) hw.2.2 (fun q _ h => hF q h) hF (fun u t H1 locs1 ht hvm hp hB hz hk hS => kk u H1 locs1 hp (wd_join hw isC isR hC hR hn hdis hF ht hB hk hS))
theorem k_Sr {Post : Nat → va_W → Prop} (C : Cx p s m args meth c cc nL ret Ts own g A) (hw : Wd g A s.heap ws H locs) (hM : CtR l g y wy rm As w H.size B Post mc ms) (cw : CallB R s args own index y bytes maxL rty wy rm mc ms n ∧ (Cond.static y).before args s = true) (hBb : Bl B) (hB : ∀ U : State, U.heap = H → s.WarmedH U.vm → B U) (isC isR : List Nat) (hnC : va_nd isC = true) (hC : isC.map (fun i => ws[i]?) = w.map some) (hR : isR.map (fun i => ws[i]?) = wr.map some) (hn : va_nd isR = true) (hdis : ∀ i ∈ isR, i ∉ isC)
    (hlen : As.length = n) (hsize : ls.size = nL) (hst : st0 = As.reverse ++ rest) (hro : (rest.map fun v => v.category).sum ≤ 8) (hdg : decode cc pc = .ok (.invokestatic index, 3)) (hf : cells + mc ≤ R.cells ∧ slots + ms ≤ R.slots)
    (kk : ∀ (r : Nat) (u : va_W) (H1 : Heap) (locs1 : List Loc), Post r u → Wd g A s.heap (wr ++ u) H1 locs1 → W p l e R s m args below meth c H1 locs1 (cells + mc) (slots + ms) Q (F0 m (pc + 3) ls (.ref r :: rest))) : W p l e R s m args below meth c H locs cells slots Q (F0 m pc ls st0) := by
  subst hst
  have hF := wd_free C hw isC hC
  refine va_callr (va_runS (As := As) (rest := rest) ⟨C.1, C.2.1, C.2.2.1, C.2.2.2.1, C.2.2.2.2.1⟩ hM cw ⟨pre0_blind hBb, wd_pre C hw isC hnC hC hB⟩ rfl hlen hsize rfl (lv_room hro) hdg hf) hw.2.2 (fun q _ h => hF q h) hF ?_
  rintro ⟨u, r⟩ a t H1 locs1 ht hvm hp ⟨rfl, hB⟩ hz hk hS
  exact kk _ u H1 locs1 hp (wd_join hw isC isR hC hR hn hdis hF ht hB hk hS)
theorem k_Iv {Post : va_W → Prop} (C : Cx p s m args meth c cc nL ret Ts own g A) (hw : Wd g A s.heap ws H locs) (hM : CtV l g y wy rm (.ref b :: As) w H.size B Post mc ms) (cw : CallB R s args own index y bytes maxL none wy rm mc ms n ∧ y.name = "<init>" ∧ (Cond.instanceMethod y).before args s = true) (hBb : Bl B) (hB : ∀ U : State, U.heap = H → s.WarmedH U.vm → B U) (isC isR : List Nat) (hnC : va_nd isC = true) (hC : isC.map (fun i => ws[i]?) = w.map some) (hR : isR.map (fun i => ws[i]?) = wr.map some) (hn : va_nd isR = true) (hdis : ∀ i ∈ isR, i ∉ isC)
    (hlen : As.length = n) (hsize : ls.size = nL) (hst : st0 = As.reverse ++ .ref b :: rest) (hro : (rest.map fun v => v.category).sum ≤ 8) (hdg : decode cc pc = .ok (.invokespecial index, 3)) (hf : cells + mc ≤ R.cells ∧ slots + ms ≤ R.slots)
    (kk : ∀ (u : va_W) (H1 : Heap) (locs1 : List Loc), Post u → Wd g A s.heap (wr ++ u) H1 locs1 → W p l e R s m args below meth c H1 locs1 (cells + mc) (slots + ms) Q (F0 m (pc + 3) ls rest)) : W p l e R s m args below meth c H locs cells slots Q (F0 m pc ls st0) := by
  subst hst
  have hF := wd_free C hw isC hC
  exact va_callv (va_runI (As := As) (rest := rest) ⟨C.1, C.2.1, C.2.2.1, C.2.2.2.1, C.2.2.2.2.1⟩ hM cw ⟨pre0_blind hBb, wd_pre C hw isC hnC hC hB⟩ rfl hlen hsize rfl (lv_room hro) hdg hf) hw.2.2 (fun q _ h => hF q h) hF (fun u t H1 locs1 ht hvm hp hB hz hk hS => kk u H1 locs1 hp (wd_join hw isC isR hC hR hn hdis hF ht hB hk hS))
end BC
