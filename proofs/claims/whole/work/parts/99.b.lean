/-! THE CLAIM OUT OF ONE WALK OF THE LAW'S BODY. Your part is whole_start (and what it stands on); all else here is the same for every law, but numbers. -/
def R_law : String := "SoundBenchLaw"
def lw_P (b : Addr) (xs : List Int32) (args : Array Value) (s : State) : Prop := args = #[.ref b] ∧ s.IntsAt b xs ∧ xs.length ≤ 3072 ∧ (Jvm.Cond.and given_1 narrow_1).before args s = true
def lw_Q (_ : Array Value) (s : State) (o : Outcome) (t : State) : Prop := o = .returned (some (.int 1)) ∧ Framed s o t [] 600000 7302250
def lw_Z (below : List Frame) (a : Array Value) (s : State) : State → Prop := fun t => ∃ o, t.status = .running ∧ Ended t below o ∧ lw_Q a s o t
/-- the law's own end, with 1 on the stack, nothing written that was there before, its room as the claim has it -/
theorem lw_ret {p : Program} {l : Launch} {e : Env} {s : State} {m : MethodId} {below : List Frame} {meth : Method} {c : Code} {b : Nat} (hx : p.tables.exec = Jvm.exec) (hb : c.code = code) (hr : meth.sig.returnType = ret) (hlocks : meth.locks = false) {pc : Nat} {H : Heap} {ls : Array Slot} (hdg : decode code pc = .ok (.ireturn, 1)) : W p l e room_1 s m #[Value.ref b] below meth c H [] 600000 7302250 (lw_Z below #[Value.ref b] s) (F0 m pc ls [.int 1]) := by
  intro T hT X
  obtain ⟨fs, hret, hrun, hended, hW, hframe⟩ := X.leave (v := some (.int 1)) (hlocks := hlocks) (fun h => by rw [hr] at h; cases h)
  have hmeth' : T.vm.method? m = some meth := X.method'
  refine ⟨T.setFrames fs, ?_, .returned (some (.int 1)), hrun, hended, rfl, ⟨_, rfl⟩, hW, hframe⟩
  jvm_step X.here [X.here.top, hx, hb, hdg, hmeth', hr, ret, narrow_b1]
  (try refine ⟨rfl, ?_⟩); (try refine ⟨rfl, ?_⟩)
  first | (intro acts; rw [hret _ acts rfl rfl rfl]) | rw [hret _ _ rfl rfl rfl]
  exact Steps.refl _
/-- what holds at the law's entry: the machine, the code, the tables' words (any of lw_tbl by 'hts w (by decide +kernel)'), the script of L ints xs at the cell b, what the Statement gives of the start (any of its parts by flat_of_before) -/
def lw_At (p : Program) (s : State) (m : MethodId) (meth : Method) (c : Code) (b L : Nat) (xs : Nat → Int32) : Prop :=
  p.tables.exec = Jvm.exec ∧ c.code = code ∧ meth.sig.returnType = ret ∧ c.maxLocals = 4 ∧ s.vm.findClass R_law = some m.cls ∧ (∀ w ∈ lw_tbl, w.before #[Value.ref b] s = true) ∧ va_X b L xs s s.heap ∧ b < s.heap.size ∧ meth.locks = false ∧ (Jvm.Cond.and given_1 narrow_1).before #[Value.ref b] s = true
theorem i32_nat (x : Int32) : ∃ n, n < 2 ^ 32 ∧ x = nI n := by
  refine ⟨x.toBitVec.toNat, x.toBitVec.isLt, ?_⟩
  apply Int32.toBitVec_inj.mp
  show x.toBitVec = BitVec.ofNat 32 x.toBitVec.toNat
  rw [BitVec.ofNat_toNat]
  simp
theorem gt_sub6 {i L : Nat} (hi : i ≤ 4000) (hL : L ≤ 3072) : nI L - nI 6 < nI i ↔ L < i + 6 := by
  rw [Int32.lt_iff_toInt_lt, nI_sub_int (by omega) (by omega), nI_toInt (by omega)]
  omega
abbrev NextOK (p : Program) (e : Env) (s : State) (m : MethodId) (below : List Frame) (meth : Method) (c : Code) (l : Launch) (g : GT) (tb : Nat → Nat) (b sb mo : Nat) (A a : Nat → Nat) (ra qa : Nat → Nat → Nat) (k : Nat) : Prop := ∀ (T : Nat → Nat) (len : Nat) (x : SSt) (kp : CPS) (E F : va_W) (H : Heap) (locs : List Loc) (ls : Array Slot), compOK tb g sb A T len x kp E → refOK g mo a ra qa T len x F → Wd g (aS s) s.heap (F ++ E) H locs → lv_has ls 4 [(0, .ref b), (1, .ref sb), (2, .ref mo), (3, .int (nI (6 * k)))] → W p l e room_1 s m #[Value.ref b] below meth c H locs (600 + 160 * (k + 1)) (130000 + 480 * (k + 1) + Phi kp) (lw_Z below #[Value.ref b] s) (F0 m 529 ls [])
set_option maxHeartbeats 1000000 in
theorem law_feed {p : Program} {e : Env} {s : State} {m : MethodId} {below : List Frame} {meth : Method} {c : Code} (l : Launch) {g : GT} {tb : Nat → Nat} {b L : Nat} {xs : Nat → Int32} (hL : L ≤ 3072) (C : Cx p s m #[Value.ref b] meth c code 4 ret wsL_law RL g (aS s)) (hX : va_X b L xs s s.heap) (hbl : b < s.heap.size) (hSx : Sx tb (aS s) s s.heap) {sb mo : Nat} {A a : Nat → Nat} {ra qa : Nat → Nat → Nat} (k : Nat) (hk : 6 * k + 6 ≤ L) (K : NextOK p e s m below meth c l g tb b sb mo A a ra qa k) : ∀ (T : Nat → Nat) (len : Nat) (x : SSt) (kp : CPS) (E F : va_W) (H : Heap) (locs : List Loc) (ls : Array Slot), compOK tb g sb A T len x kp E → refOK g mo a ra qa T len x F → Wd g (aS s) s.heap (E ++ F) H locs → lv_has ls 4 [(0, .ref b), (1, .ref sb), (2, .ref mo), (3, .int (nI (6 * k)))] → W p l e room_1 s m #[Value.ref b] below meth c H locs (600 + 160 * k) (130000 + 480 * k + Phi kp) (lw_Z below #[Value.ref b] s) (F0 m 100 ls []) := by
  intro T len x kp E F H locs ls hE hF hw hl
  obtain ⟨hx, hb, hml, hown, hts, hK, hA, hr, hlk⟩ := id C
  have hbA : ¬ aS s b := Nat.not_le.mpr hbl
  have hph := Phi_le (comp_s hE).2.1
  obtain ⟨v1, hv1, e1⟩ := i32_nat (xs (6 * k + 1))
  obtain ⟨v2, hv2, e2⟩ := i32_nat (xs (6 * k + 2))
  obtain ⟨v3, hv3, e3⟩ := i32_nat (xs (6 * k + 3))
  obtain ⟨v4, hv4, e4⟩ := i32_nat (xs (6 * k + 4))
  obtain ⟨v5, hv5, e5⟩ := i32_nat (xs (6 * k + 5))
  obtain ⟨q, fs, hq⟩ := comp_at hE
  have hq : (E ++ F)[q]? = some (sb, .inr (6, fs)) := by rw [List.getElem?_append_left (List.getElem?_eq_some_iff.mp hq).1]; exact hq
  refine lv_aload_n hx hb dL_law_100 rfl (lv_at hl 1 rfl) ?_
  refine lv_aload_n hx hb dL_law_101 rfl (lv_at hl 0 rfl) ?_
  refine lv_iload_n hx hb dL_law_102 rfl (lv_at hl 3 rfl) ?_
  refine lv_iconst (v := nI 1) hx hb dL_law_103 (by decide) ?_
  refine n_add hx hb dL_law_104 ?_
  refine va_sld hx hb hX hbl hbA hw.2.2 (vp_in_nI (show 6 * k + 1 < L by omega) (by omega)) dL_law_105 ?_
  refine tp1 (v' := nI v1) (by rw [nI_clamp (show 6 * k + 1 < 2 ^ 31 by omega), e1]) ?_
  refine lv_aload_n hx hb dL_law_106 rfl (lv_at hl 0 rfl) ?_
  refine lv_iload_n hx hb dL_law_107 rfl (lv_at hl 3 rfl) ?_
  refine lv_iconst (v := nI 2) hx hb dL_law_108 (by decide) ?_
  refine n_add hx hb dL_law_109 ?_
  refine va_sld hx hb hX hbl hbA hw.2.2 (vp_in_nI (show 6 * k + 2 < L by omega) (by omega)) dL_law_110 ?_
  refine tp1 (v' := nI v2) (by rw [nI_clamp (show 6 * k + 2 < 2 ^ 31 by omega), e2]) ?_
  refine lv_aload_n hx hb dL_law_111 rfl (lv_at hl 0 rfl) ?_
  refine lv_iload_n hx hb dL_law_112 rfl (lv_at hl 3 rfl) ?_
  refine lv_iconst (v := nI 3) hx hb dL_law_113 (by decide) ?_
  refine n_add hx hb dL_law_114 ?_
  refine va_sld hx hb hX hbl hbA hw.2.2 (vp_in_nI (show 6 * k + 3 < L by omega) (by omega)) dL_law_115 ?_
  refine tp1 (v' := nI v3) (by rw [nI_clamp (show 6 * k + 3 < 2 ^ 31 by omega), e3]) ?_
  refine lv_aload_n hx hb dL_law_116 rfl (lv_at hl 0 rfl) ?_
  refine lv_iload_n hx hb dL_law_117 rfl (lv_at hl 3 rfl) ?_
  refine lv_iconst (v := nI 4) hx hb dL_law_118 (by decide) ?_
  refine n_add hx hb dL_law_119 ?_
  refine va_sld hx hb hX hbl hbA hw.2.2 (vp_in_nI (show 6 * k + 4 < L by omega) (by omega)) dL_law_120 ?_
  refine tp1 (v' := nI v4) (by rw [nI_clamp (show 6 * k + 4 < 2 ^ 31 by omega), e4]) ?_
  refine lv_aload_n hx hb dL_law_121 rfl (lv_at hl 0 rfl) ?_
  refine lv_iload_n hx hb dL_law_122 rfl (lv_at hl 3 rfl) ?_
  refine lv_iconst (v := nI 5) hx hb dL_law_123 (by decide) ?_
  refine n_add hx hb dL_law_124 ?_
  refine va_sld hx hb hX hbl hbA hw.2.2 (vp_in_nI (show 6 * k + 5 < L by omega) (by omega)) dL_law_125 ?_
  refine tp1 (v' := nI v5) (by rw [nI_clamp (show 6 * k + 5 < 2 ^ 31 by omega), e5]) ?_
  refine kP_Vi (As := [.int (nI v1), .int (nI v2), .int (nI v3), .int (nI v4), .int (nI v5)]) (rest := []) (w := E) (wr := F) C hw (lc_feed l g H.size tb sb A T len x kp E v1 v2 v3 v4 v5 hv1 hv2 hv3 hv4 hv5 hE) (cwV 5 hts gL_law_X6_feed rfl rfl rfl (by decide +kernel) ⟨Nat.le_of_ble_eq_true rfl, Nat.le_of_ble_eq_true rfl⟩) sx_bl (sx_callP C hw hSx) q rfl hq rfl hl.1 rfl (Nat.le_of_ble_eq_true rfl) dL_law_126 ⟨by show 600 + 160 * k + 0 ≤ 600000; omega, by show 130000 + 480 * k + Phi kp + 0 ≤ 7302250; omega⟩ (fun r_1 u H locs hp hw => ?_)
  obtain ⟨hr1, hE2⟩ := hp
  have hw := hw.comm
  obtain ⟨q2, fs2, hq2⟩ := ref_at hF
  have hq2 : (F ++ u)[q2]? = some (mo, .inr (7, fs2)) := by rw [List.getElem?_append_left (List.getElem?_eq_some_iff.mp hq2).1]; exact hq2
  refine lv_aload_n hx hb dL_law_129 rfl (lv_at hl 2 rfl) ?_
  refine lv_aload_n hx hb dL_law_130 rfl (lv_at hl 0 rfl) ?_
  refine lv_iload_n hx hb dL_law_131 rfl (lv_at hl 3 rfl) ?_
  refine lv_iconst (v := nI 1) hx hb dL_law_132 (by decide) ?_
  refine n_add hx hb dL_law_133 ?_
  refine va_sld hx hb hX hbl hbA hw.2.2 (vp_in_nI (show 6 * k + 1 < L by omega) (by omega)) dL_law_134 ?_
  refine tp1 (v' := nI v1) (by rw [nI_clamp (show 6 * k + 1 < 2 ^ 31 by omega), e1]) ?_
  refine lv_aload_n hx hb dL_law_135 rfl (lv_at hl 0 rfl) ?_
  refine lv_iload_n hx hb dL_law_136 rfl (lv_at hl 3 rfl) ?_
  refine lv_iconst (v := nI 2) hx hb dL_law_137 (by decide) ?_
  refine n_add hx hb dL_law_138 ?_
  refine va_sld hx hb hX hbl hbA hw.2.2 (vp_in_nI (show 6 * k + 2 < L by omega) (by omega)) dL_law_139 ?_
  refine tp1 (v' := nI v2) (by rw [nI_clamp (show 6 * k + 2 < 2 ^ 31 by omega), e2]) ?_
  refine lv_aload_n hx hb dL_law_140 rfl (lv_at hl 0 rfl) ?_
  refine lv_iload_n hx hb dL_law_141 rfl (lv_at hl 3 rfl) ?_
  refine lv_iconst (v := nI 3) hx hb dL_law_142 (by decide) ?_
  refine n_add hx hb dL_law_143 ?_
  refine va_sld hx hb hX hbl hbA hw.2.2 (vp_in_nI (show 6 * k + 3 < L by omega) (by omega)) dL_law_144 ?_
  refine tp1 (v' := nI v3) (by rw [nI_clamp (show 6 * k + 3 < 2 ^ 31 by omega), e3]) ?_
  refine lv_aload_n hx hb dL_law_145 rfl (lv_at hl 0 rfl) ?_
  refine lv_iload_n hx hb dL_law_146 rfl (lv_at hl 3 rfl) ?_
  refine lv_iconst (v := nI 4) hx hb dL_law_147 (by decide) ?_
  refine n_add hx hb dL_law_148 ?_
  refine va_sld hx hb hX hbl hbA hw.2.2 (vp_in_nI (show 6 * k + 4 < L by omega) (by omega)) dL_law_149 ?_
  refine tp1 (v' := nI v4) (by rw [nI_clamp (show 6 * k + 4 < 2 ^ 31 by omega), e4]) ?_
  refine lv_aload_n hx hb dL_law_150 rfl (lv_at hl 0 rfl) ?_
  refine lv_iload_n hx hb dL_law_151 rfl (lv_at hl 3 rfl) ?_
  refine lv_iconst (v := nI 5) hx hb dL_law_152 (by decide) ?_
  refine n_add hx hb dL_law_153 ?_
  refine va_sld hx hb hX hbl hbA hw.2.2 (vp_in_nI (show 6 * k + 5 < L by omega) (by omega)) dL_law_154 ?_
  refine tp1 (v' := nI v5) (by rw [nI_clamp (show 6 * k + 5 < 2 ^ 31 by omega), e5]) ?_
  refine kP_Vi (As := [.int (nI v1), .int (nI v2), .int (nI v3), .int (nI v4), .int (nI v5)]) (rest := [.int r_1]) (w := F) (wr := u) C hw (rc_feed l g H.size mo a ra qa T len x F v1 v2 v3 v4 v5 hv1 hv2 hv3 hv4 hv5 hF) (cwV 5 hts gL_law_X7_feed rfl rfl rfl (by decide +kernel) ⟨Nat.le_of_ble_eq_true rfl, Nat.le_of_ble_eq_true rfl⟩) bl_T (fun _ _ _ => trivial) q2 rfl hq2 rfl hl.1 rfl (Nat.le_of_ble_eq_true rfl) dL_law_155 ⟨by show 600 + 160 * k + 0 + 0 ≤ 600000; omega, by show 130000 + 480 * k + Phi kp + 0 + 0 ≤ 7302250; omega⟩ (fun r_2 u2 H locs hp hw => ?_)
  obtain ⟨hr2, hF2⟩ := hp
  refine lv_icmp_eq (tgt := 529) hx hb dL_law_158 (by decide) (fun _ => ?_) (fun q9 => absurd (by rw [hr1, hr2]) q9)
  refine W.widen (k := 600 + 160 * (k + 1)) (n := 130000 + 480 * (k + 1) + Phi kp) (by omega) (by omega) ?_
  exact K _ _ _ _ u u2 H locs ls hE2 hF2 hw hl
set_option maxHeartbeats 1000000 in
theorem law_end {p : Program} {e : Env} {s : State} {m : MethodId} {below : List Frame} {meth : Method} {c : Code} (l : Launch) {g : GT} {tb : Nat → Nat} {b L : Nat} {xs : Nat → Int32} (hL : L ≤ 3072) (C : Cx p s m #[Value.ref b] meth c code 4 ret wsL_law RL g (aS s)) (hX : va_X b L xs s s.heap) (hbl : b < s.heap.size) (hSx : Sx tb (aS s) s s.heap) {sb mo : Nat} {A a : Nat → Nat} {ra qa : Nat → Nat → Nat} (k : Nat) (hk : 6 * k + 6 ≤ L) (K : NextOK p e s m below meth c l g tb b sb mo A a ra qa k) : ∀ (T : Nat → Nat) (len : Nat) (x : SSt) (kp : CPS) (E F : va_W) (H : Heap) (locs : List Loc) (ls : Array Slot), compOK tb g sb A T len x kp E → refOK g mo a ra qa T len x F → Wd g (aS s) s.heap (E ++ F) H locs → lv_has ls 4 [(0, .ref b), (1, .ref sb), (2, .ref mo), (3, .int (nI (6 * k)))] → W p l e room_1 s m #[Value.ref b] below meth c H locs (600 + 160 * k) (130000 + 480 * k + Phi kp) (lw_Z below #[Value.ref b] s) (F0 m 163 ls []) := by
  intro T len x kp E F H locs ls hE hF hw hl
  obtain ⟨hx, hb, hml, hown, hts, hK, hA, hr, hlk⟩ := id C
  have hbA : ¬ aS s b := Nat.not_le.mpr hbl
  have hph := Phi_le (comp_s hE).2.1
  obtain ⟨q, fs, hq⟩ := comp_at hE
  have hq : (E ++ F)[q]? = some (sb, .inr (6, fs)) := by rw [List.getElem?_append_left (List.getElem?_eq_some_iff.mp hq).1]; exact hq
  refine lv_aload_n hx hb dL_law_163 rfl (lv_at hl 1 rfl) ?_
  refine lv_aload_n hx hb dL_law_164 rfl (lv_at hl 0 rfl) ?_
  refine lv_iload_n hx hb dL_law_165 rfl (lv_at hl 3 rfl) ?_
  refine lv_iconst (v := nI 1) hx hb dL_law_166 (by decide) ?_
  refine n_add hx hb dL_law_167 ?_
  refine va_sld hx hb hX hbl hbA hw.2.2 (vp_in_nI (show 6 * k + 1 < L by omega) (by omega)) dL_law_168 ?_
  refine tp1 (v' := xs (6 * k + 1)) (by rw [nI_clamp (show 6 * k + 1 < 2 ^ 31 by omega)]) ?_
  refine kP_Vi (As := [.int (xs (6 * k + 1))]) (rest := []) (w := E) (wr := F) C hw (lc_end l g H.size tb sb A T len x kp E (xs (6 * k + 1)) hE) (cwV 1 hts gL_law_X6_end rfl rfl rfl (by decide +kernel) ⟨Nat.le_of_ble_eq_true rfl, Nat.le_of_ble_eq_true rfl⟩) sx_bl (sx_callP C hw hSx) q rfl hq rfl hl.1 rfl (Nat.le_of_ble_eq_true rfl) dL_law_169 ⟨by show 600 + 160 * k + 0 ≤ 600000; omega, by show 130000 + 480 * k + Phi kp + 0 ≤ 7302250; omega⟩ (fun r_1 u H locs hp hw => ?_)
  obtain ⟨hr1, hE2⟩ := hp
  have hw := hw.comm
  obtain ⟨q2, fs2, hq2⟩ := ref_at hF
  have hq2 : (F ++ u)[q2]? = some (mo, .inr (7, fs2)) := by rw [List.getElem?_append_left (List.getElem?_eq_some_iff.mp hq2).1]; exact hq2
  refine lv_aload_n hx hb dL_law_172 rfl (lv_at hl 2 rfl) ?_
  refine lv_aload_n hx hb dL_law_173 rfl (lv_at hl 0 rfl) ?_
  refine lv_iload_n hx hb dL_law_174 rfl (lv_at hl 3 rfl) ?_
  refine lv_iconst (v := nI 1) hx hb dL_law_175 (by decide) ?_
  refine n_add hx hb dL_law_176 ?_
  refine va_sld hx hb hX hbl hbA hw.2.2 (vp_in_nI (show 6 * k + 1 < L by omega) (by omega)) dL_law_177 ?_
  refine tp1 (v' := xs (6 * k + 1)) (by rw [nI_clamp (show 6 * k + 1 < 2 ^ 31 by omega)]) ?_
  refine kP_Vi (As := [.int (xs (6 * k + 1))]) (rest := [.int r_1]) (w := F) (wr := u) C hw (rc_end l g H.size mo a ra qa T len x F (xs (6 * k + 1)) hF) (cwV 1 hts gL_law_X7_end rfl rfl rfl (by decide +kernel) ⟨Nat.le_of_ble_eq_true rfl, Nat.le_of_ble_eq_true rfl⟩) bl_T (fun _ _ _ => trivial) q2 rfl hq2 rfl hl.1 rfl (Nat.le_of_ble_eq_true rfl) dL_law_178 ⟨by show 600 + 160 * k + 0 + 0 ≤ 600000; omega, by show 130000 + 480 * k + Phi kp + 0 + 0 ≤ 7302250; omega⟩ (fun r_2 u2 H locs hp hw => ?_)
  obtain ⟨hr2, hF2⟩ := hp
  refine lv_icmp_eq (tgt := 529) hx hb dL_law_181 (by decide) (fun _ => ?_) (fun q9 => absurd (by rw [hr1, hr2]) q9)
  refine W.widen (k := 600 + 160 * (k + 1)) (n := 130000 + 480 * (k + 1) + Phi kp) (by omega) (by omega) ?_
  exact K _ _ _ _ u u2 H locs ls hE2 hF2 hw hl
set_option maxHeartbeats 1000000 in
theorem law_set {p : Program} {e : Env} {s : State} {m : MethodId} {below : List Frame} {meth : Method} {c : Code} (l : Launch) {g : GT} {tb : Nat → Nat} {b L : Nat} {xs : Nat → Int32} (hL : L ≤ 3072) (C : Cx p s m #[Value.ref b] meth c code 4 ret wsL_law RL g (aS s)) (hX : va_X b L xs s s.heap) (hbl : b < s.heap.size) (hSx : Sx tb (aS s) s s.heap) {sb mo : Nat} {A a : Nat → Nat} {ra qa : Nat → Nat → Nat} (k : Nat) (hk : 6 * k + 6 ≤ L) (K : NextOK p e s m below meth c l g tb b sb mo A a ra qa k) : ∀ (T : Nat → Nat) (len : Nat) (x : SSt) (kp : CPS) (E F : va_W) (H : Heap) (locs : List Loc) (ls : Array Slot), compOK tb g sb A T len x kp E → refOK g mo a ra qa T len x F → Wd g (aS s) s.heap (E ++ F) H locs → lv_has ls 4 [(0, .ref b), (1, .ref sb), (2, .ref mo), (3, .int (nI (6 * k)))] → W p l e room_1 s m #[Value.ref b] below meth c H locs (600 + 160 * k) (130000 + 480 * k + Phi kp) (lw_Z below #[Value.ref b] s) (F0 m 186 ls []) := by
  intro T len x kp E F H locs ls hE hF hw hl
  obtain ⟨hx, hb, hml, hown, hts, hK, hA, hr, hlk⟩ := id C
  have hbA : ¬ aS s b := Nat.not_le.mpr hbl
  have hph := Phi_le (comp_s hE).2.1
  obtain ⟨v2, hv2, e2⟩ := i32_nat (xs (6 * k + 2))
  obtain ⟨q, fs, hq⟩ := comp_at hE
  have hq : (E ++ F)[q]? = some (sb, .inr (6, fs)) := by rw [List.getElem?_append_left (List.getElem?_eq_some_iff.mp hq).1]; exact hq
  refine lv_aload_n hx hb dL_law_186 rfl (lv_at hl 1 rfl) ?_
  refine lv_aload_n hx hb dL_law_187 rfl (lv_at hl 0 rfl) ?_
  refine lv_iload_n hx hb dL_law_188 rfl (lv_at hl 3 rfl) ?_
  refine lv_iconst (v := nI 1) hx hb dL_law_189 (by decide) ?_
  refine n_add hx hb dL_law_190 ?_
  refine va_sld hx hb hX hbl hbA hw.2.2 (vp_in_nI (show 6 * k + 1 < L by omega) (by omega)) dL_law_191 ?_
  refine tp1 (v' := xs (6 * k + 1)) (by rw [nI_clamp (show 6 * k + 1 < 2 ^ 31 by omega)]) ?_
  refine lv_aload_n hx hb dL_law_192 rfl (lv_at hl 0 rfl) ?_
  refine lv_iload_n hx hb dL_law_193 rfl (lv_at hl 3 rfl) ?_
  refine lv_iconst (v := nI 2) hx hb dL_law_194 (by decide) ?_
  refine n_add hx hb dL_law_195 ?_
  refine va_sld hx hb hX hbl hbA hw.2.2 (vp_in_nI (show 6 * k + 2 < L by omega) (by omega)) dL_law_196 ?_
  refine tp1 (v' := nI v2) (by rw [nI_clamp (show 6 * k + 2 < 2 ^ 31 by omega), e2]) ?_
  refine kP_Vi (As := [.int (xs (6 * k + 1)), .int (nI v2)]) (rest := []) (w := E) (wr := F) C hw (lc_set l g H.size tb sb A T len x kp E (xs (6 * k + 1)) v2 hv2 hE) (cwV 2 hts gL_law_X6_set rfl rfl rfl (by decide +kernel) ⟨Nat.le_of_ble_eq_true rfl, Nat.le_of_ble_eq_true rfl⟩) sx_bl (sx_callP C hw hSx) q rfl hq rfl hl.1 rfl (Nat.le_of_ble_eq_true rfl) dL_law_197 ⟨by show 600 + 160 * k + 0 ≤ 600000; omega, by show 130000 + 480 * k + Phi kp + 0 ≤ 7302250; omega⟩ (fun r_1 u H locs hp hw => ?_)
  obtain ⟨hr1, hE2⟩ := hp
  have hw := hw.comm
  obtain ⟨q2, fs2, hq2⟩ := ref_at hF
  have hq2 : (F ++ u)[q2]? = some (mo, .inr (7, fs2)) := by rw [List.getElem?_append_left (List.getElem?_eq_some_iff.mp hq2).1]; exact hq2
  refine lv_aload_n hx hb dL_law_200 rfl (lv_at hl 2 rfl) ?_
  refine lv_aload_n hx hb dL_law_201 rfl (lv_at hl 0 rfl) ?_
  refine lv_iload_n hx hb dL_law_202 rfl (lv_at hl 3 rfl) ?_
  refine lv_iconst (v := nI 1) hx hb dL_law_203 (by decide) ?_
  refine n_add hx hb dL_law_204 ?_
  refine va_sld hx hb hX hbl hbA hw.2.2 (vp_in_nI (show 6 * k + 1 < L by omega) (by omega)) dL_law_205 ?_
  refine tp1 (v' := xs (6 * k + 1)) (by rw [nI_clamp (show 6 * k + 1 < 2 ^ 31 by omega)]) ?_
  refine lv_aload_n hx hb dL_law_206 rfl (lv_at hl 0 rfl) ?_
  refine lv_iload_n hx hb dL_law_207 rfl (lv_at hl 3 rfl) ?_
  refine lv_iconst (v := nI 2) hx hb dL_law_208 (by decide) ?_
  refine n_add hx hb dL_law_209 ?_
  refine va_sld hx hb hX hbl hbA hw.2.2 (vp_in_nI (show 6 * k + 2 < L by omega) (by omega)) dL_law_210 ?_
  refine tp1 (v' := nI v2) (by rw [nI_clamp (show 6 * k + 2 < 2 ^ 31 by omega), e2]) ?_
  refine kP_Vi (As := [.int (xs (6 * k + 1)), .int (nI v2)]) (rest := [.int r_1]) (w := F) (wr := u) C hw (rc_set l g H.size mo a ra qa T len x F (xs (6 * k + 1)) v2 hF) (cwV 2 hts gL_law_X7_set rfl rfl rfl (by decide +kernel) ⟨Nat.le_of_ble_eq_true rfl, Nat.le_of_ble_eq_true rfl⟩) bl_T (fun _ _ _ => trivial) q2 rfl hq2 rfl hl.1 rfl (Nat.le_of_ble_eq_true rfl) dL_law_211 ⟨by show 600 + 160 * k + 0 + 0 ≤ 600000; omega, by show 130000 + 480 * k + Phi kp + 0 + 0 ≤ 7302250; omega⟩ (fun r_2 u2 H locs hp hw => ?_)
  obtain ⟨hr2, hF2⟩ := hp
  refine lv_icmp_eq (tgt := 529) hx hb dL_law_214 (by decide) (fun _ => ?_) (fun q9 => absurd (by rw [hr1, hr2]) q9)
  refine W.widen (k := 600 + 160 * (k + 1)) (n := 130000 + 480 * (k + 1) + Phi kp) (by omega) (by omega) ?_
  exact K _ _ _ _ u u2 H locs ls hE2 hF2 hw hl
set_option maxHeartbeats 1000000 in
theorem law_clear {p : Program} {e : Env} {s : State} {m : MethodId} {below : List Frame} {meth : Method} {c : Code} (l : Launch) {g : GT} {tb : Nat → Nat} {b L : Nat} {xs : Nat → Int32} (hL : L ≤ 3072) (C : Cx p s m #[Value.ref b] meth c code 4 ret wsL_law RL g (aS s)) (hX : va_X b L xs s s.heap) (hbl : b < s.heap.size) (hSx : Sx tb (aS s) s s.heap) {sb mo : Nat} {A a : Nat → Nat} {ra qa : Nat → Nat → Nat} (k : Nat) (hk : 6 * k + 6 ≤ L) (K : NextOK p e s m below meth c l g tb b sb mo A a ra qa k) : ∀ (T : Nat → Nat) (len : Nat) (x : SSt) (kp : CPS) (E F : va_W) (H : Heap) (locs : List Loc) (ls : Array Slot), compOK tb g sb A T len x kp E → refOK g mo a ra qa T len x F → Wd g (aS s) s.heap (E ++ F) H locs → lv_has ls 4 [(0, .ref b), (1, .ref sb), (2, .ref mo), (3, .int (nI (6 * k)))] → W p l e room_1 s m #[Value.ref b] below meth c H locs (600 + 160 * k) (130000 + 480 * k + Phi kp) (lw_Z below #[Value.ref b] s) (F0 m 219 ls []) := by
  intro T len x kp E F H locs ls hE hF hw hl
  obtain ⟨hx, hb, hml, hown, hts, hK, hA, hr, hlk⟩ := id C
  have hbA : ¬ aS s b := Nat.not_le.mpr hbl
  have hph := Phi_le (comp_s hE).2.1
  obtain ⟨q, fs, hq⟩ := comp_at hE
  have hq : (E ++ F)[q]? = some (sb, .inr (6, fs)) := by rw [List.getElem?_append_left (List.getElem?_eq_some_iff.mp hq).1]; exact hq
  refine lv_aload_n hx hb dL_law_219 rfl (lv_at hl 1 rfl) ?_
  refine kP_Vi (As := []) (rest := []) (w := E) (wr := F) C hw (lc_clear l g H.size tb sb A T len x kp E hE) (cwV 0 hts gL_law_X6_clear rfl rfl rfl (by decide +kernel) ⟨Nat.le_of_ble_eq_true rfl, Nat.le_of_ble_eq_true rfl⟩) sx_bl (sx_callP C hw hSx) q rfl hq rfl hl.1 rfl (Nat.le_of_ble_eq_true rfl) dL_law_220 ⟨by show 600 + 160 * k + 0 ≤ 600000; omega, by show 130000 + 480 * k + Phi kp + 0 ≤ 7302250; omega⟩ (fun r_1 u H locs hp hw => ?_)
  obtain ⟨hr1, hE2⟩ := hp
  have hw := hw.comm
  obtain ⟨q2, fs2, hq2⟩ := ref_at hF
  have hq2 : (F ++ u)[q2]? = some (mo, .inr (7, fs2)) := by rw [List.getElem?_append_left (List.getElem?_eq_some_iff.mp hq2).1]; exact hq2
  refine lv_aload_n hx hb dL_law_223 rfl (lv_at hl 2 rfl) ?_
  refine kP_Vi (As := []) (rest := [.int r_1]) (w := F) (wr := u) C hw (rc_clear l g H.size mo a ra qa T len x F hF) (cwV 0 hts gL_law_X7_clear rfl rfl rfl (by decide +kernel) ⟨Nat.le_of_ble_eq_true rfl, Nat.le_of_ble_eq_true rfl⟩) bl_T (fun _ _ _ => trivial) q2 rfl hq2 rfl hl.1 rfl (Nat.le_of_ble_eq_true rfl) dL_law_224 ⟨by show 600 + 160 * k + 0 + 0 ≤ 600000; omega, by show 130000 + 480 * k + Phi kp + 0 + 0 ≤ 7302250; omega⟩ (fun r_2 u2 H locs hp hw => ?_)
  obtain ⟨hr2, hF2⟩ := hp
  refine lv_icmp_eq (tgt := 529) hx hb dL_law_227 (by decide) (fun _ => ?_) (fun q9 => absurd (by rw [hr1, hr2]) q9)
  refine W.widen (k := 600 + 160 * (k + 1)) (n := 130000 + 480 * (k + 1) + Phi kp) (by omega) (by omega) ?_
  exact K _ _ _ _ u u2 H locs ls hE2 hF2 hw hl
set_option maxHeartbeats 1000000 in
theorem law_decode {p : Program} {e : Env} {s : State} {m : MethodId} {below : List Frame} {meth : Method} {c : Code} (l : Launch) {g : GT} {tb : Nat → Nat} {b L : Nat} {xs : Nat → Int32} (hL : L ≤ 3072) (C : Cx p s m #[Value.ref b] meth c code 4 ret wsL_law RL g (aS s)) (hX : va_X b L xs s s.heap) (hbl : b < s.heap.size) (hSx : Sx tb (aS s) s s.heap) {sb mo : Nat} {A a : Nat → Nat} {ra qa : Nat → Nat → Nat} (k : Nat) (hk : 6 * k + 6 ≤ L) (K : NextOK p e s m below meth c l g tb b sb mo A a ra qa k) : ∀ (T : Nat → Nat) (len : Nat) (x : SSt) (kp : CPS) (E F : va_W) (H : Heap) (locs : List Loc) (ls : Array Slot), compOK tb g sb A T len x kp E → refOK g mo a ra qa T len x F → Wd g (aS s) s.heap (E ++ F) H locs → lv_has ls 4 [(0, .ref b), (1, .ref sb), (2, .ref mo), (3, .int (nI (6 * k)))] → W p l e room_1 s m #[Value.ref b] below meth c H locs (600 + 160 * k) (130000 + 480 * k + Phi kp) (lw_Z below #[Value.ref b] s) (F0 m 232 ls []) := by
  intro T len x kp E F H locs ls hE hF hw hl
  obtain ⟨hx, hb, hml, hown, hts, hK, hA, hr, hlk⟩ := id C
  have hbA : ¬ aS s b := Nat.not_le.mpr hbl
  have hph := Phi_le (comp_s hE).2.1
  obtain ⟨q, fs, hq⟩ := comp_at hE
  have hq : (E ++ F)[q]? = some (sb, .inr (6, fs)) := by rw [List.getElem?_append_left (List.getElem?_eq_some_iff.mp hq).1]; exact hq
  refine lv_aload_n hx hb dL_law_232 rfl (lv_at hl 1 rfl) ?_
  have hdk := decK_ok (T := T) (len := len) 40 x kp (comp_s hE).1 (comp_s hE).2.1
  have hph2 := Phi_le hdk.1
  refine kP_Vi (As := []) (rest := []) (w := E) (wr := F) C hw (lc_decode l g H.size tb sb A T len x kp E hE) (cwV 0 hts gL_law_X6_decode rfl rfl rfl (by decide +kernel) ⟨Nat.le_of_ble_eq_true rfl, Nat.le_of_ble_eq_true rfl⟩) sx_bl (sx_callP C hw hSx) q rfl hq rfl hl.1 rfl (Nat.le_of_ble_eq_true rfl) dL_law_233 ⟨by show 600 + 160 * k + 160 ≤ 600000; omega, by show 130000 + 480 * k + Phi kp + (480 + (Phi (decK T len 40 x kp) - Phi kp)) ≤ 7302250; omega⟩ (fun r_1 u H locs hp hw => ?_)
  obtain ⟨hr1, hE2⟩ := hp
  have hw := hw.comm
  obtain ⟨q2, fs2, hq2⟩ := ref_at hF
  have hq2 : (F ++ u)[q2]? = some (mo, .inr (7, fs2)) := by rw [List.getElem?_append_left (List.getElem?_eq_some_iff.mp hq2).1]; exact hq2
  refine lv_aload_n hx hb dL_law_236 rfl (lv_at hl 2 rfl) ?_
  refine kP_Vi (As := []) (rest := [.int r_1]) (w := F) (wr := u) C hw (rc_decode l g H.size mo a ra qa T len x F hF) (cwV 0 hts gL_law_X7_decode rfl rfl rfl (by decide +kernel) ⟨Nat.le_of_ble_eq_true rfl, Nat.le_of_ble_eq_true rfl⟩) bl_T (fun _ _ _ => trivial) q2 rfl hq2 rfl hl.1 rfl (Nat.le_of_ble_eq_true rfl) dL_law_237 ⟨by show 600 + 160 * k + 160 + 0 ≤ 600000; omega, by show 130000 + 480 * k + Phi kp + (480 + (Phi (decK T len 40 x kp) - Phi kp)) + 0 ≤ 7302250; omega⟩ (fun r_2 u2 H locs hp hw => ?_)
  obtain ⟨hr2, hF2⟩ := hp
  refine lv_icmp_eq (tgt := 529) hx hb dL_law_240 (by decide) (fun _ => ?_) (fun q9 => absurd (by rw [hr1, hr2]) q9)
  refine W.widen (k := 600 + 160 * (k + 1)) (n := 130000 + 480 * (k + 1) + Phi (decK T len 40 x kp)) (by omega) (by omega) ?_
  exact K _ _ _ _ u u2 H locs ls hE2 hF2 hw hl
set_option maxHeartbeats 1000000 in
theorem law_frame {p : Program} {e : Env} {s : State} {m : MethodId} {below : List Frame} {meth : Method} {c : Code} (l : Launch) {g : GT} {tb : Nat → Nat} {b L : Nat} {xs : Nat → Int32} (hL : L ≤ 3072) (C : Cx p s m #[Value.ref b] meth c code 4 ret wsL_law RL g (aS s)) (hX : va_X b L xs s s.heap) (hbl : b < s.heap.size) (hSx : Sx tb (aS s) s s.heap) {sb mo : Nat} {A a : Nat → Nat} {ra qa : Nat → Nat → Nat} (k : Nat) (hk : 6 * k + 6 ≤ L) (K : NextOK p e s m below meth c l g tb b sb mo A a ra qa k) : ∀ (T : Nat → Nat) (len : Nat) (x : SSt) (kp : CPS) (E F : va_W) (H : Heap) (locs : List Loc) (ls : Array Slot), compOK tb g sb A T len x kp E → refOK g mo a ra qa T len x F → Wd g (aS s) s.heap (E ++ F) H locs → lv_has ls 4 [(0, .ref b), (1, .ref sb), (2, .ref mo), (3, .int (nI (6 * k)))] → W p l e room_1 s m #[Value.ref b] below meth c H locs (600 + 160 * k) (130000 + 480 * k + Phi kp) (lw_Z below #[Value.ref b] s) (F0 m 245 ls []) := by
  intro T len x kp E F H locs ls hE hF hw hl
  obtain ⟨hx, hb, hml, hown, hts, hK, hA, hr, hlk⟩ := id C
  have hbA : ¬ aS s b := Nat.not_le.mpr hbl
  have hph := Phi_le (comp_s hE).2.1
  obtain ⟨q, fs, hq⟩ := comp_at hE
  have hq : (E ++ F)[q]? = some (sb, .inr (6, fs)) := by rw [List.getElem?_append_left (List.getElem?_eq_some_iff.mp hq).1]; exact hq
  refine lv_aload_n hx hb dL_law_245 rfl (lv_at hl 1 rfl) ?_
  refine lv_aload_n hx hb dL_law_246 rfl (lv_at hl 0 rfl) ?_
  refine lv_iload_n hx hb dL_law_247 rfl (lv_at hl 3 rfl) ?_
  refine lv_iconst (v := nI 1) hx hb dL_law_248 (by decide) ?_
  refine n_add hx hb dL_law_249 ?_
  refine va_sld hx hb hX hbl hbA hw.2.2 (vp_in_nI (show 6 * k + 1 < L by omega) (by omega)) dL_law_250 ?_
  refine tp1 (v' := xs (6 * k + 1)) (by rw [nI_clamp (show 6 * k + 1 < 2 ^ 31 by omega)]) ?_
  refine lv_aload_n hx hb dL_law_251 rfl (lv_at hl 0 rfl) ?_
  refine lv_iload_n hx hb dL_law_252 rfl (lv_at hl 3 rfl) ?_
  refine lv_iconst (v := nI 2) hx hb dL_law_253 (by decide) ?_
  refine n_add hx hb dL_law_254 ?_
  refine va_sld hx hb hX hbl hbA hw.2.2 (vp_in_nI (show 6 * k + 2 < L by omega) (by omega)) dL_law_255 ?_
  refine tp1 (v' := xs (6 * k + 2)) (by rw [nI_clamp (show 6 * k + 2 < 2 ^ 31 by omega)]) ?_
  refine kP_Vi (As := [.int (xs (6 * k + 1)), .int (xs (6 * k + 2))]) (rest := []) (w := E) (wr := F) C hw (lc_frame l g H.size tb sb A T len x kp E (xs (6 * k + 1)) (xs (6 * k + 2)) hE) (cwV 2 hts gL_law_X6_frame rfl rfl rfl (by decide +kernel) ⟨Nat.le_of_ble_eq_true rfl, Nat.le_of_ble_eq_true rfl⟩) sx_bl (sx_callP C hw hSx) q rfl hq rfl hl.1 rfl (Nat.le_of_ble_eq_true rfl) dL_law_256 ⟨by show 600 + 160 * k + 0 ≤ 600000; omega, by show 130000 + 480 * k + Phi kp + 0 ≤ 7302250; omega⟩ (fun r_1 u H locs hp hw => ?_)
  obtain ⟨hr1, hE2⟩ := hp
  have hw := hw.comm
  obtain ⟨q2, fs2, hq2⟩ := ref_at hF
  have hq2 : (F ++ u)[q2]? = some (mo, .inr (7, fs2)) := by rw [List.getElem?_append_left (List.getElem?_eq_some_iff.mp hq2).1]; exact hq2
  refine lv_aload_n hx hb dL_law_259 rfl (lv_at hl 2 rfl) ?_
  refine lv_aload_n hx hb dL_law_260 rfl (lv_at hl 0 rfl) ?_
  refine lv_iload_n hx hb dL_law_261 rfl (lv_at hl 3 rfl) ?_
  refine lv_iconst (v := nI 1) hx hb dL_law_262 (by decide) ?_
  refine n_add hx hb dL_law_263 ?_
  refine va_sld hx hb hX hbl hbA hw.2.2 (vp_in_nI (show 6 * k + 1 < L by omega) (by omega)) dL_law_264 ?_
  refine tp1 (v' := xs (6 * k + 1)) (by rw [nI_clamp (show 6 * k + 1 < 2 ^ 31 by omega)]) ?_
  refine lv_aload_n hx hb dL_law_265 rfl (lv_at hl 0 rfl) ?_
  refine lv_iload_n hx hb dL_law_266 rfl (lv_at hl 3 rfl) ?_
  refine lv_iconst (v := nI 2) hx hb dL_law_267 (by decide) ?_
  refine n_add hx hb dL_law_268 ?_
  refine va_sld hx hb hX hbl hbA hw.2.2 (vp_in_nI (show 6 * k + 2 < L by omega) (by omega)) dL_law_269 ?_
  refine tp1 (v' := xs (6 * k + 2)) (by rw [nI_clamp (show 6 * k + 2 < 2 ^ 31 by omega)]) ?_
  refine kP_Vi (As := [.int (xs (6 * k + 1)), .int (xs (6 * k + 2))]) (rest := [.int r_1]) (w := F) (wr := u) C hw (rc_frame l g H.size mo a ra qa T len x F (xs (6 * k + 1)) (xs (6 * k + 2)) hF) (cwV 2 hts gL_law_X7_frame rfl rfl rfl (by decide +kernel) ⟨Nat.le_of_ble_eq_true rfl, Nat.le_of_ble_eq_true rfl⟩) bl_T (fun _ _ _ => trivial) q2 rfl hq2 rfl hl.1 rfl (Nat.le_of_ble_eq_true rfl) dL_law_270 ⟨by show 600 + 160 * k + 0 + 0 ≤ 600000; omega, by show 130000 + 480 * k + Phi kp + 0 + 0 ≤ 7302250; omega⟩ (fun r_2 u2 H locs hp hw => ?_)
  obtain ⟨hr2, hF2⟩ := hp
  refine lv_icmp_eq (tgt := 529) hx hb dL_law_273 (by decide) (fun _ => ?_) (fun q9 => absurd (by rw [hr1, hr2]) q9)
  refine W.widen (k := 600 + 160 * (k + 1)) (n := 130000 + 480 * (k + 1) + Phi kp) (by omega) (by omega) ?_
  exact K _ _ _ _ u u2 H locs ls hE2 hF2 hw hl
set_option maxHeartbeats 1000000 in
theorem law_band {p : Program} {e : Env} {s : State} {m : MethodId} {below : List Frame} {meth : Method} {c : Code} (l : Launch) {g : GT} {tb : Nat → Nat} {b L : Nat} {xs : Nat → Int32} (hL : L ≤ 3072) (C : Cx p s m #[Value.ref b] meth c code 4 ret wsL_law RL g (aS s)) (hX : va_X b L xs s s.heap) (hbl : b < s.heap.size) (hSx : Sx tb (aS s) s s.heap) {sb mo : Nat} {A a : Nat → Nat} {ra qa : Nat → Nat → Nat} (k : Nat) (hk : 6 * k + 6 ≤ L) (K : NextOK p e s m below meth c l g tb b sb mo A a ra qa k) : ∀ (T : Nat → Nat) (len : Nat) (x : SSt) (kp : CPS) (E F : va_W) (H : Heap) (locs : List Loc) (ls : Array Slot), compOK tb g sb A T len x kp E → refOK g mo a ra qa T len x F → Wd g (aS s) s.heap (E ++ F) H locs → lv_has ls 4 [(0, .ref b), (1, .ref sb), (2, .ref mo), (3, .int (nI (6 * k)))] → W p l e room_1 s m #[Value.ref b] below meth c H locs (600 + 160 * k) (130000 + 480 * k + Phi kp) (lw_Z below #[Value.ref b] s) (F0 m 278 ls []) := by
  intro T len x kp E F H locs ls hE hF hw hl
  obtain ⟨hx, hb, hml, hown, hts, hK, hA, hr, hlk⟩ := id C
  have hbA : ¬ aS s b := Nat.not_le.mpr hbl
  have hph := Phi_le (comp_s hE).2.1
  obtain ⟨q, fs, hq⟩ := comp_at hE
  have hq : (E ++ F)[q]? = some (sb, .inr (6, fs)) := by rw [List.getElem?_append_left (List.getElem?_eq_some_iff.mp hq).1]; exact hq
  refine lv_aload_n hx hb dL_law_278 rfl (lv_at hl 1 rfl) ?_
  refine lv_aload_n hx hb dL_law_279 rfl (lv_at hl 0 rfl) ?_
  refine lv_iload_n hx hb dL_law_280 rfl (lv_at hl 3 rfl) ?_
  refine lv_iconst (v := nI 1) hx hb dL_law_281 (by decide) ?_
  refine n_add hx hb dL_law_282 ?_
  refine va_sld hx hb hX hbl hbA hw.2.2 (vp_in_nI (show 6 * k + 1 < L by omega) (by omega)) dL_law_283 ?_
  refine tp1 (v' := xs (6 * k + 1)) (by rw [nI_clamp (show 6 * k + 1 < 2 ^ 31 by omega)]) ?_
  refine lv_aload_n hx hb dL_law_284 rfl (lv_at hl 0 rfl) ?_
  refine lv_iload_n hx hb dL_law_285 rfl (lv_at hl 3 rfl) ?_
  refine lv_iconst (v := nI 2) hx hb dL_law_286 (by decide) ?_
  refine n_add hx hb dL_law_287 ?_
  refine va_sld hx hb hX hbl hbA hw.2.2 (vp_in_nI (show 6 * k + 2 < L by omega) (by omega)) dL_law_288 ?_
  refine tp1 (v' := xs (6 * k + 2)) (by rw [nI_clamp (show 6 * k + 2 < 2 ^ 31 by omega)]) ?_
  refine lv_aload_n hx hb dL_law_289 rfl (lv_at hl 0 rfl) ?_
  refine lv_iload_n hx hb dL_law_290 rfl (lv_at hl 3 rfl) ?_
  refine lv_iconst (v := nI 3) hx hb dL_law_291 (by decide) ?_
  refine n_add hx hb dL_law_292 ?_
  refine va_sld hx hb hX hbl hbA hw.2.2 (vp_in_nI (show 6 * k + 3 < L by omega) (by omega)) dL_law_293 ?_
  refine tp1 (v' := xs (6 * k + 3)) (by rw [nI_clamp (show 6 * k + 3 < 2 ^ 31 by omega)]) ?_
  refine kP_Vi (As := [.int (xs (6 * k + 1)), .int (xs (6 * k + 2)), .int (xs (6 * k + 3))]) (rest := []) (w := E) (wr := F) C hw (lc_band l g H.size tb sb A T len x kp E (xs (6 * k + 1)) (xs (6 * k + 2)) (xs (6 * k + 3)) hE) (cwV 3 hts gL_law_X6_band rfl rfl rfl (by decide +kernel) ⟨Nat.le_of_ble_eq_true rfl, Nat.le_of_ble_eq_true rfl⟩) sx_bl (sx_callP C hw hSx) q rfl hq rfl hl.1 rfl (Nat.le_of_ble_eq_true rfl) dL_law_294 ⟨by show 600 + 160 * k + 0 ≤ 600000; omega, by show 130000 + 480 * k + Phi kp + 0 ≤ 7302250; omega⟩ (fun r_1 u H locs hp hw => ?_)
  obtain ⟨hr1, hE2⟩ := hp
  have hw := hw.comm
  obtain ⟨q2, fs2, hq2⟩ := ref_at hF
  have hq2 : (F ++ u)[q2]? = some (mo, .inr (7, fs2)) := by rw [List.getElem?_append_left (List.getElem?_eq_some_iff.mp hq2).1]; exact hq2
  refine lv_aload_n hx hb dL_law_297 rfl (lv_at hl 2 rfl) ?_
  refine lv_aload_n hx hb dL_law_298 rfl (lv_at hl 0 rfl) ?_
  refine lv_iload_n hx hb dL_law_299 rfl (lv_at hl 3 rfl) ?_
  refine lv_iconst (v := nI 1) hx hb dL_law_300 (by decide) ?_
  refine n_add hx hb dL_law_301 ?_
  refine va_sld hx hb hX hbl hbA hw.2.2 (vp_in_nI (show 6 * k + 1 < L by omega) (by omega)) dL_law_302 ?_
  refine tp1 (v' := xs (6 * k + 1)) (by rw [nI_clamp (show 6 * k + 1 < 2 ^ 31 by omega)]) ?_
  refine lv_aload_n hx hb dL_law_303 rfl (lv_at hl 0 rfl) ?_
  refine lv_iload_n hx hb dL_law_304 rfl (lv_at hl 3 rfl) ?_
  refine lv_iconst (v := nI 2) hx hb dL_law_305 (by decide) ?_
  refine n_add hx hb dL_law_306 ?_
  refine va_sld hx hb hX hbl hbA hw.2.2 (vp_in_nI (show 6 * k + 2 < L by omega) (by omega)) dL_law_307 ?_
  refine tp1 (v' := xs (6 * k + 2)) (by rw [nI_clamp (show 6 * k + 2 < 2 ^ 31 by omega)]) ?_
  refine lv_aload_n hx hb dL_law_308 rfl (lv_at hl 0 rfl) ?_
  refine lv_iload_n hx hb dL_law_309 rfl (lv_at hl 3 rfl) ?_
  refine lv_iconst (v := nI 3) hx hb dL_law_310 (by decide) ?_
  refine n_add hx hb dL_law_311 ?_
  refine va_sld hx hb hX hbl hbA hw.2.2 (vp_in_nI (show 6 * k + 3 < L by omega) (by omega)) dL_law_312 ?_
  refine tp1 (v' := xs (6 * k + 3)) (by rw [nI_clamp (show 6 * k + 3 < 2 ^ 31 by omega)]) ?_
  refine kP_Vi (As := [.int (xs (6 * k + 1)), .int (xs (6 * k + 2)), .int (xs (6 * k + 3))]) (rest := [.int r_1]) (w := F) (wr := u) C hw (rc_band l g H.size mo a ra qa T len x F (xs (6 * k + 1)) (xs (6 * k + 2)) (xs (6 * k + 3)) hF) (cwV 3 hts gL_law_X7_band rfl rfl rfl (by decide +kernel) ⟨Nat.le_of_ble_eq_true rfl, Nat.le_of_ble_eq_true rfl⟩) bl_T (fun _ _ _ => trivial) q2 rfl hq2 rfl hl.1 rfl (Nat.le_of_ble_eq_true rfl) dL_law_313 ⟨by show 600 + 160 * k + 0 + 0 ≤ 600000; omega, by show 130000 + 480 * k + Phi kp + 0 + 0 ≤ 7302250; omega⟩ (fun r_2 u2 H locs hp hw => ?_)
  obtain ⟨hr2, hF2⟩ := hp
  refine lv_icmp_eq (tgt := 529) hx hb dL_law_316 (by decide) (fun _ => ?_) (fun q9 => absurd (by rw [hr1, hr2]) q9)
  refine W.widen (k := 600 + 160 * (k + 1)) (n := 130000 + 480 * (k + 1) + Phi kp) (by omega) (by omega) ?_
  exact K _ _ _ _ u u2 H locs ls hE2 hF2 hw hl
set_option maxHeartbeats 1000000 in
theorem law_steps {p : Program} {e : Env} {s : State} {m : MethodId} {below : List Frame} {meth : Method} {c : Code} (l : Launch) {g : GT} {tb : Nat → Nat} {b L : Nat} {xs : Nat → Int32} (hL : L ≤ 3072) (C : Cx p s m #[Value.ref b] meth c code 4 ret wsL_law RL g (aS s)) (hX : va_X b L xs s s.heap) (hbl : b < s.heap.size) (hSx : Sx tb (aS s) s s.heap) {sb mo : Nat} {A a : Nat → Nat} {ra qa : Nat → Nat → Nat} (k : Nat) (hk : 6 * k + 6 ≤ L) (K : NextOK p e s m below meth c l g tb b sb mo A a ra qa k) : ∀ (T : Nat → Nat) (len : Nat) (x : SSt) (kp : CPS) (E F : va_W) (H : Heap) (locs : List Loc) (ls : Array Slot), compOK tb g sb A T len x kp E → refOK g mo a ra qa T len x F → Wd g (aS s) s.heap (E ++ F) H locs → lv_has ls 4 [(0, .ref b), (1, .ref sb), (2, .ref mo), (3, .int (nI (6 * k)))] → W p l e room_1 s m #[Value.ref b] below meth c H locs (600 + 160 * k) (130000 + 480 * k + Phi kp) (lw_Z below #[Value.ref b] s) (F0 m 321 ls []) := by
  intro T len x kp E F H locs ls hE hF hw hl
  obtain ⟨hx, hb, hml, hown, hts, hK, hA, hr, hlk⟩ := id C
  have hbA : ¬ aS s b := Nat.not_le.mpr hbl
  have hph := Phi_le (comp_s hE).2.1
  obtain ⟨q, fs, hq⟩ := comp_at hE
  have hq : (E ++ F)[q]? = some (sb, .inr (6, fs)) := by rw [List.getElem?_append_left (List.getElem?_eq_some_iff.mp hq).1]; exact hq
  refine lv_aload_n hx hb dL_law_321 rfl (lv_at hl 1 rfl) ?_
  refine lv_aload_n hx hb dL_law_322 rfl (lv_at hl 0 rfl) ?_
  refine lv_iload_n hx hb dL_law_323 rfl (lv_at hl 3 rfl) ?_
  refine lv_iconst (v := nI 1) hx hb dL_law_324 (by decide) ?_
  refine n_add hx hb dL_law_325 ?_
  refine va_sld hx hb hX hbl hbA hw.2.2 (vp_in_nI (show 6 * k + 1 < L by omega) (by omega)) dL_law_326 ?_
  refine tp1 (v' := xs (6 * k + 1)) (by rw [nI_clamp (show 6 * k + 1 < 2 ^ 31 by omega)]) ?_
  refine lv_aload_n hx hb dL_law_327 rfl (lv_at hl 0 rfl) ?_
  refine lv_iload_n hx hb dL_law_328 rfl (lv_at hl 3 rfl) ?_
  refine lv_iconst (v := nI 2) hx hb dL_law_329 (by decide) ?_
  refine n_add hx hb dL_law_330 ?_
  refine va_sld hx hb hX hbl hbA hw.2.2 (vp_in_nI (show 6 * k + 2 < L by omega) (by omega)) dL_law_331 ?_
  refine tp1 (v' := xs (6 * k + 2)) (by rw [nI_clamp (show 6 * k + 2 < 2 ^ 31 by omega)]) ?_
  refine kP_Vi (As := [.int (xs (6 * k + 1)), .int (xs (6 * k + 2))]) (rest := []) (w := E) (wr := F) C hw (lc_steps l g H.size tb sb A T len x kp E (xs (6 * k + 1)) (xs (6 * k + 2)) hE) (cwV 2 hts gL_law_X6_steps rfl rfl rfl (by decide +kernel) ⟨Nat.le_of_ble_eq_true rfl, Nat.le_of_ble_eq_true rfl⟩) sx_bl (sx_callP C hw hSx) q rfl hq rfl hl.1 rfl (Nat.le_of_ble_eq_true rfl) dL_law_332 ⟨by show 600 + 160 * k + 0 ≤ 600000; omega, by show 130000 + 480 * k + Phi kp + 0 ≤ 7302250; omega⟩ (fun r_1 u H locs hp hw => ?_)
  obtain ⟨hr1, hE2⟩ := hp
  have hw := hw.comm
  obtain ⟨q2, fs2, hq2⟩ := ref_at hF
  have hq2 : (F ++ u)[q2]? = some (mo, .inr (7, fs2)) := by rw [List.getElem?_append_left (List.getElem?_eq_some_iff.mp hq2).1]; exact hq2
  refine lv_aload_n hx hb dL_law_335 rfl (lv_at hl 2 rfl) ?_
  refine lv_aload_n hx hb dL_law_336 rfl (lv_at hl 0 rfl) ?_
  refine lv_iload_n hx hb dL_law_337 rfl (lv_at hl 3 rfl) ?_
  refine lv_iconst (v := nI 1) hx hb dL_law_338 (by decide) ?_
  refine n_add hx hb dL_law_339 ?_
  refine va_sld hx hb hX hbl hbA hw.2.2 (vp_in_nI (show 6 * k + 1 < L by omega) (by omega)) dL_law_340 ?_
  refine tp1 (v' := xs (6 * k + 1)) (by rw [nI_clamp (show 6 * k + 1 < 2 ^ 31 by omega)]) ?_
  refine lv_aload_n hx hb dL_law_341 rfl (lv_at hl 0 rfl) ?_
  refine lv_iload_n hx hb dL_law_342 rfl (lv_at hl 3 rfl) ?_
  refine lv_iconst (v := nI 2) hx hb dL_law_343 (by decide) ?_
  refine n_add hx hb dL_law_344 ?_
  refine va_sld hx hb hX hbl hbA hw.2.2 (vp_in_nI (show 6 * k + 2 < L by omega) (by omega)) dL_law_345 ?_
  refine tp1 (v' := xs (6 * k + 2)) (by rw [nI_clamp (show 6 * k + 2 < 2 ^ 31 by omega)]) ?_
  refine kP_Vi (As := [.int (xs (6 * k + 1)), .int (xs (6 * k + 2))]) (rest := [.int r_1]) (w := F) (wr := u) C hw (rc_steps l g H.size mo a ra qa T len x F (xs (6 * k + 1)) (xs (6 * k + 2)) hF) (cwV 2 hts gL_law_X7_steps rfl rfl rfl (by decide +kernel) ⟨Nat.le_of_ble_eq_true rfl, Nat.le_of_ble_eq_true rfl⟩) bl_T (fun _ _ _ => trivial) q2 rfl hq2 rfl hl.1 rfl (Nat.le_of_ble_eq_true rfl) dL_law_346 ⟨by show 600 + 160 * k + 0 + 0 ≤ 600000; omega, by show 130000 + 480 * k + Phi kp + 0 + 0 ≤ 7302250; omega⟩ (fun r_2 u2 H locs hp hw => ?_)
  obtain ⟨hr2, hF2⟩ := hp
  refine lv_icmp_eq (tgt := 529) hx hb dL_law_349 (by decide) (fun _ => ?_) (fun q9 => absurd (by rw [hr1, hr2]) q9)
  refine W.widen (k := 600 + 160 * (k + 1)) (n := 130000 + 480 * (k + 1) + Phi kp) (by omega) (by omega) ?_
  exact K _ _ _ _ u u2 H locs ls hE2 hF2 hw hl
set_option maxHeartbeats 1000000 in
theorem law_factor {p : Program} {e : Env} {s : State} {m : MethodId} {below : List Frame} {meth : Method} {c : Code} (l : Launch) {g : GT} {tb : Nat → Nat} {b L : Nat} {xs : Nat → Int32} (hL : L ≤ 3072) (C : Cx p s m #[Value.ref b] meth c code 4 ret wsL_law RL g (aS s)) (hX : va_X b L xs s s.heap) (hbl : b < s.heap.size) (hSx : Sx tb (aS s) s s.heap) {sb mo : Nat} {A a : Nat → Nat} {ra qa : Nat → Nat → Nat} (k : Nat) (hk : 6 * k + 6 ≤ L) (K : NextOK p e s m below meth c l g tb b sb mo A a ra qa k) : ∀ (T : Nat → Nat) (len : Nat) (x : SSt) (kp : CPS) (E F : va_W) (H : Heap) (locs : List Loc) (ls : Array Slot), compOK tb g sb A T len x kp E → refOK g mo a ra qa T len x F → Wd g (aS s) s.heap (E ++ F) H locs → lv_has ls 4 [(0, .ref b), (1, .ref sb), (2, .ref mo), (3, .int (nI (6 * k)))] → W p l e room_1 s m #[Value.ref b] below meth c H locs (600 + 160 * k) (130000 + 480 * k + Phi kp) (lw_Z below #[Value.ref b] s) (F0 m 354 ls []) := by
  intro T len x kp E F H locs ls hE hF hw hl
  obtain ⟨hx, hb, hml, hown, hts, hK, hA, hr, hlk⟩ := id C
  have hbA : ¬ aS s b := Nat.not_le.mpr hbl
  have hph := Phi_le (comp_s hE).2.1
  obtain ⟨q, fs, hq⟩ := comp_at hE
  have hq : (E ++ F)[q]? = some (sb, .inr (6, fs)) := by rw [List.getElem?_append_left (List.getElem?_eq_some_iff.mp hq).1]; exact hq
  refine lv_aload_n hx hb dL_law_354 rfl (lv_at hl 1 rfl) ?_
  refine lv_aload_n hx hb dL_law_355 rfl (lv_at hl 0 rfl) ?_
  refine lv_iload_n hx hb dL_law_356 rfl (lv_at hl 3 rfl) ?_
  refine lv_iconst (v := nI 1) hx hb dL_law_357 (by decide) ?_
  refine n_add hx hb dL_law_358 ?_
  refine va_sld hx hb hX hbl hbA hw.2.2 (vp_in_nI (show 6 * k + 1 < L by omega) (by omega)) dL_law_359 ?_
  refine tp1 (v' := xs (6 * k + 1)) (by rw [nI_clamp (show 6 * k + 1 < 2 ^ 31 by omega)]) ?_
  refine lv_aload_n hx hb dL_law_360 rfl (lv_at hl 0 rfl) ?_
  refine lv_iload_n hx hb dL_law_361 rfl (lv_at hl 3 rfl) ?_
  refine lv_iconst (v := nI 2) hx hb dL_law_362 (by decide) ?_
  refine n_add hx hb dL_law_363 ?_
  refine va_sld hx hb hX hbl hbA hw.2.2 (vp_in_nI (show 6 * k + 2 < L by omega) (by omega)) dL_law_364 ?_
  refine tp1 (v' := xs (6 * k + 2)) (by rw [nI_clamp (show 6 * k + 2 < 2 ^ 31 by omega)]) ?_
  refine lv_aload_n hx hb dL_law_365 rfl (lv_at hl 0 rfl) ?_
  refine lv_iload_n hx hb dL_law_366 rfl (lv_at hl 3 rfl) ?_
  refine lv_iconst (v := nI 3) hx hb dL_law_367 (by decide) ?_
  refine n_add hx hb dL_law_368 ?_
  refine va_sld hx hb hX hbl hbA hw.2.2 (vp_in_nI (show 6 * k + 3 < L by omega) (by omega)) dL_law_369 ?_
  refine tp1 (v' := xs (6 * k + 3)) (by rw [nI_clamp (show 6 * k + 3 < 2 ^ 31 by omega)]) ?_
  refine kP_Vi (As := [.int (xs (6 * k + 1)), .int (xs (6 * k + 2)), .int (xs (6 * k + 3))]) (rest := []) (w := E) (wr := F) C hw (lc_factor l g H.size tb sb A T len x kp E (xs (6 * k + 1)) (xs (6 * k + 2)) (xs (6 * k + 3)) hE) (cwV 3 hts gL_law_X6_factor rfl rfl rfl (by decide +kernel) ⟨Nat.le_of_ble_eq_true rfl, Nat.le_of_ble_eq_true rfl⟩) sx_bl (sx_callP C hw hSx) q rfl hq rfl hl.1 rfl (Nat.le_of_ble_eq_true rfl) dL_law_370 ⟨by show 600 + 160 * k + 0 ≤ 600000; omega, by show 130000 + 480 * k + Phi kp + 0 ≤ 7302250; omega⟩ (fun r_1 u H locs hp hw => ?_)
  obtain ⟨hr1, hE2⟩ := hp
  have hw := hw.comm
  obtain ⟨q2, fs2, hq2⟩ := ref_at hF
  have hq2 : (F ++ u)[q2]? = some (mo, .inr (7, fs2)) := by rw [List.getElem?_append_left (List.getElem?_eq_some_iff.mp hq2).1]; exact hq2
  refine lv_aload_n hx hb dL_law_373 rfl (lv_at hl 2 rfl) ?_
  refine lv_aload_n hx hb dL_law_374 rfl (lv_at hl 0 rfl) ?_
  refine lv_iload_n hx hb dL_law_375 rfl (lv_at hl 3 rfl) ?_
  refine lv_iconst (v := nI 1) hx hb dL_law_376 (by decide) ?_
  refine n_add hx hb dL_law_377 ?_
  refine va_sld hx hb hX hbl hbA hw.2.2 (vp_in_nI (show 6 * k + 1 < L by omega) (by omega)) dL_law_378 ?_
  refine tp1 (v' := xs (6 * k + 1)) (by rw [nI_clamp (show 6 * k + 1 < 2 ^ 31 by omega)]) ?_
  refine lv_aload_n hx hb dL_law_379 rfl (lv_at hl 0 rfl) ?_
  refine lv_iload_n hx hb dL_law_380 rfl (lv_at hl 3 rfl) ?_
  refine lv_iconst (v := nI 2) hx hb dL_law_381 (by decide) ?_
  refine n_add hx hb dL_law_382 ?_
  refine va_sld hx hb hX hbl hbA hw.2.2 (vp_in_nI (show 6 * k + 2 < L by omega) (by omega)) dL_law_383 ?_
  refine tp1 (v' := xs (6 * k + 2)) (by rw [nI_clamp (show 6 * k + 2 < 2 ^ 31 by omega)]) ?_
  refine lv_aload_n hx hb dL_law_384 rfl (lv_at hl 0 rfl) ?_
  refine lv_iload_n hx hb dL_law_385 rfl (lv_at hl 3 rfl) ?_
  refine lv_iconst (v := nI 3) hx hb dL_law_386 (by decide) ?_
  refine n_add hx hb dL_law_387 ?_
  refine va_sld hx hb hX hbl hbA hw.2.2 (vp_in_nI (show 6 * k + 3 < L by omega) (by omega)) dL_law_388 ?_
  refine tp1 (v' := xs (6 * k + 3)) (by rw [nI_clamp (show 6 * k + 3 < 2 ^ 31 by omega)]) ?_
  refine kP_Vi (As := [.int (xs (6 * k + 1)), .int (xs (6 * k + 2)), .int (xs (6 * k + 3))]) (rest := [.int r_1]) (w := F) (wr := u) C hw (rc_factor l g H.size mo a ra qa T len x F (xs (6 * k + 1)) (xs (6 * k + 2)) (xs (6 * k + 3)) hF) (cwV 3 hts gL_law_X7_factor rfl rfl rfl (by decide +kernel) ⟨Nat.le_of_ble_eq_true rfl, Nat.le_of_ble_eq_true rfl⟩) bl_T (fun _ _ _ => trivial) q2 rfl hq2 rfl hl.1 rfl (Nat.le_of_ble_eq_true rfl) dL_law_389 ⟨by show 600 + 160 * k + 0 + 0 ≤ 600000; omega, by show 130000 + 480 * k + Phi kp + 0 + 0 ≤ 7302250; omega⟩ (fun r_2 u2 H locs hp hw => ?_)
  obtain ⟨hr2, hF2⟩ := hp
  refine lv_icmp_eq (tgt := 529) hx hb dL_law_392 (by decide) (fun _ => ?_) (fun q9 => absurd (by rw [hr1, hr2]) q9)
  refine W.widen (k := 600 + 160 * (k + 1)) (n := 130000 + 480 * (k + 1) + Phi kp) (by omega) (by omega) ?_
  exact K _ _ _ _ u u2 H locs ls hE2 hF2 hw hl
set_option maxHeartbeats 1000000 in
theorem law_pcm {p : Program} {e : Env} {s : State} {m : MethodId} {below : List Frame} {meth : Method} {c : Code} (l : Launch) {g : GT} {tb : Nat → Nat} {b L : Nat} {xs : Nat → Int32} (hL : L ≤ 3072) (C : Cx p s m #[Value.ref b] meth c code 4 ret wsL_law RL g (aS s)) (hX : va_X b L xs s s.heap) (hbl : b < s.heap.size) (hSx : Sx tb (aS s) s s.heap) {sb mo : Nat} {A a : Nat → Nat} {ra qa : Nat → Nat → Nat} (k : Nat) (hk : 6 * k + 6 ≤ L) (K : NextOK p e s m below meth c l g tb b sb mo A a ra qa k) : ∀ (T : Nat → Nat) (len : Nat) (x : SSt) (kp : CPS) (E F : va_W) (H : Heap) (locs : List Loc) (ls : Array Slot), compOK tb g sb A T len x kp E → refOK g mo a ra qa T len x F → Wd g (aS s) s.heap (E ++ F) H locs → lv_has ls 4 [(0, .ref b), (1, .ref sb), (2, .ref mo), (3, .int (nI (6 * k)))] → W p l e room_1 s m #[Value.ref b] below meth c H locs (600 + 160 * k) (130000 + 480 * k + Phi kp) (lw_Z below #[Value.ref b] s) (F0 m 397 ls []) := by
  intro T len x kp E F H locs ls hE hF hw hl
  obtain ⟨hx, hb, hml, hown, hts, hK, hA, hr, hlk⟩ := id C
  have hbA : ¬ aS s b := Nat.not_le.mpr hbl
  have hph := Phi_le (comp_s hE).2.1
  obtain ⟨q, fs, hq⟩ := comp_at hE
  have hq : (E ++ F)[q]? = some (sb, .inr (6, fs)) := by rw [List.getElem?_append_left (List.getElem?_eq_some_iff.mp hq).1]; exact hq
  refine lv_aload_n hx hb dL_law_397 rfl (lv_at hl 1 rfl) ?_
  refine lv_aload_n hx hb dL_law_398 rfl (lv_at hl 0 rfl) ?_
  refine lv_iload_n hx hb dL_law_399 rfl (lv_at hl 3 rfl) ?_
  refine lv_iconst (v := nI 1) hx hb dL_law_400 (by decide) ?_
  refine n_add hx hb dL_law_401 ?_
  refine va_sld hx hb hX hbl hbA hw.2.2 (vp_in_nI (show 6 * k + 1 < L by omega) (by omega)) dL_law_402 ?_
  refine tp1 (v' := xs (6 * k + 1)) (by rw [nI_clamp (show 6 * k + 1 < 2 ^ 31 by omega)]) ?_
  refine lv_aload_n hx hb dL_law_403 rfl (lv_at hl 0 rfl) ?_
  refine lv_iload_n hx hb dL_law_404 rfl (lv_at hl 3 rfl) ?_
  refine lv_iconst (v := nI 2) hx hb dL_law_405 (by decide) ?_
  refine n_add hx hb dL_law_406 ?_
  refine va_sld hx hb hX hbl hbA hw.2.2 (vp_in_nI (show 6 * k + 2 < L by omega) (by omega)) dL_law_407 ?_
  refine tp1 (v' := xs (6 * k + 2)) (by rw [nI_clamp (show 6 * k + 2 < 2 ^ 31 by omega)]) ?_
  refine kP_Vi (As := [.int (xs (6 * k + 1)), .int (xs (6 * k + 2))]) (rest := []) (w := E) (wr := F) C hw (lc_pcm l g H.size tb sb A T len x kp E (xs (6 * k + 1)) (xs (6 * k + 2)) hE) (cwV 2 hts gL_law_X6_pcm rfl rfl rfl (by decide +kernel) ⟨Nat.le_of_ble_eq_true rfl, Nat.le_of_ble_eq_true rfl⟩) sx_bl (sx_callP C hw hSx) q rfl hq rfl hl.1 rfl (Nat.le_of_ble_eq_true rfl) dL_law_408 ⟨by show 600 + 160 * k + 0 ≤ 600000; omega, by show 130000 + 480 * k + Phi kp + 0 ≤ 7302250; omega⟩ (fun r_1 u H locs hp hw => ?_)
  obtain ⟨hr1, hE2⟩ := hp
  have hw := hw.comm
  obtain ⟨q2, fs2, hq2⟩ := ref_at hF
  have hq2 : (F ++ u)[q2]? = some (mo, .inr (7, fs2)) := by rw [List.getElem?_append_left (List.getElem?_eq_some_iff.mp hq2).1]; exact hq2
  refine lv_aload_n hx hb dL_law_411 rfl (lv_at hl 2 rfl) ?_
  refine lv_aload_n hx hb dL_law_412 rfl (lv_at hl 0 rfl) ?_
  refine lv_iload_n hx hb dL_law_413 rfl (lv_at hl 3 rfl) ?_
  refine lv_iconst (v := nI 1) hx hb dL_law_414 (by decide) ?_
  refine n_add hx hb dL_law_415 ?_
  refine va_sld hx hb hX hbl hbA hw.2.2 (vp_in_nI (show 6 * k + 1 < L by omega) (by omega)) dL_law_416 ?_
  refine tp1 (v' := xs (6 * k + 1)) (by rw [nI_clamp (show 6 * k + 1 < 2 ^ 31 by omega)]) ?_
  refine lv_aload_n hx hb dL_law_417 rfl (lv_at hl 0 rfl) ?_
  refine lv_iload_n hx hb dL_law_418 rfl (lv_at hl 3 rfl) ?_
  refine lv_iconst (v := nI 2) hx hb dL_law_419 (by decide) ?_
  refine n_add hx hb dL_law_420 ?_
  refine va_sld hx hb hX hbl hbA hw.2.2 (vp_in_nI (show 6 * k + 2 < L by omega) (by omega)) dL_law_421 ?_
  refine tp1 (v' := xs (6 * k + 2)) (by rw [nI_clamp (show 6 * k + 2 < 2 ^ 31 by omega)]) ?_
  refine kP_Vi (As := [.int (xs (6 * k + 1)), .int (xs (6 * k + 2))]) (rest := [.int r_1]) (w := F) (wr := u) C hw (rc_pcm l g H.size mo a ra qa T len x F (xs (6 * k + 1)) (xs (6 * k + 2)) hF) (cwV 2 hts gL_law_X7_pcm rfl rfl rfl (by decide +kernel) ⟨Nat.le_of_ble_eq_true rfl, Nat.le_of_ble_eq_true rfl⟩) bl_T (fun _ _ _ => trivial) q2 rfl hq2 rfl hl.1 rfl (Nat.le_of_ble_eq_true rfl) dL_law_422 ⟨by show 600 + 160 * k + 0 + 0 ≤ 600000; omega, by show 130000 + 480 * k + Phi kp + 0 + 0 ≤ 7302250; omega⟩ (fun r_2 u2 H locs hp hw => ?_)
  obtain ⟨hr2, hF2⟩ := hp
  refine lv_icmp_eq (tgt := 529) hx hb dL_law_425 (by decide) (fun _ => ?_) (fun q9 => absurd (by rw [hr1, hr2]) q9)
  refine W.widen (k := 600 + 160 * (k + 1)) (n := 130000 + 480 * (k + 1) + Phi kp) (by omega) (by omega) ?_
  exact K _ _ _ _ u u2 H locs ls hE2 hF2 hw hl
set_option maxHeartbeats 1000000 in
theorem law_sum {p : Program} {e : Env} {s : State} {m : MethodId} {below : List Frame} {meth : Method} {c : Code} (l : Launch) {g : GT} {tb : Nat → Nat} {b L : Nat} {xs : Nat → Int32} (hL : L ≤ 3072) (C : Cx p s m #[Value.ref b] meth c code 4 ret wsL_law RL g (aS s)) (hX : va_X b L xs s s.heap) (hbl : b < s.heap.size) (hSx : Sx tb (aS s) s s.heap) {sb mo : Nat} {A a : Nat → Nat} {ra qa : Nat → Nat → Nat} (k : Nat) (hk : 6 * k + 6 ≤ L) (K : NextOK p e s m below meth c l g tb b sb mo A a ra qa k) : ∀ (T : Nat → Nat) (len : Nat) (x : SSt) (kp : CPS) (E F : va_W) (H : Heap) (locs : List Loc) (ls : Array Slot), compOK tb g sb A T len x kp E → refOK g mo a ra qa T len x F → Wd g (aS s) s.heap (E ++ F) H locs → lv_has ls 4 [(0, .ref b), (1, .ref sb), (2, .ref mo), (3, .int (nI (6 * k)))] → W p l e room_1 s m #[Value.ref b] below meth c H locs (600 + 160 * k) (130000 + 480 * k + Phi kp) (lw_Z below #[Value.ref b] s) (F0 m 430 ls []) := by
  intro T len x kp E F H locs ls hE hF hw hl
  obtain ⟨hx, hb, hml, hown, hts, hK, hA, hr, hlk⟩ := id C
  have hbA : ¬ aS s b := Nat.not_le.mpr hbl
  have hph := Phi_le (comp_s hE).2.1
  obtain ⟨q, fs, hq⟩ := comp_at hE
  have hq : (E ++ F)[q]? = some (sb, .inr (6, fs)) := by rw [List.getElem?_append_left (List.getElem?_eq_some_iff.mp hq).1]; exact hq
  refine lv_aload_n hx hb dL_law_430 rfl (lv_at hl 1 rfl) ?_
  refine lv_aload_n hx hb dL_law_431 rfl (lv_at hl 0 rfl) ?_
  refine lv_iload_n hx hb dL_law_432 rfl (lv_at hl 3 rfl) ?_
  refine lv_iconst (v := nI 1) hx hb dL_law_433 (by decide) ?_
  refine n_add hx hb dL_law_434 ?_
  refine va_sld hx hb hX hbl hbA hw.2.2 (vp_in_nI (show 6 * k + 1 < L by omega) (by omega)) dL_law_435 ?_
  refine tp1 (v' := xs (6 * k + 1)) (by rw [nI_clamp (show 6 * k + 1 < 2 ^ 31 by omega)]) ?_
  refine lv_aload_n hx hb dL_law_436 rfl (lv_at hl 0 rfl) ?_
  refine lv_iload_n hx hb dL_law_437 rfl (lv_at hl 3 rfl) ?_
  refine lv_iconst (v := nI 2) hx hb dL_law_438 (by decide) ?_
  refine n_add hx hb dL_law_439 ?_
  refine va_sld hx hb hX hbl hbA hw.2.2 (vp_in_nI (show 6 * k + 2 < L by omega) (by omega)) dL_law_440 ?_
  refine tp1 (v' := xs (6 * k + 2)) (by rw [nI_clamp (show 6 * k + 2 < 2 ^ 31 by omega)]) ?_
  refine lv_aload_n hx hb dL_law_441 rfl (lv_at hl 0 rfl) ?_
  refine lv_iload_n hx hb dL_law_442 rfl (lv_at hl 3 rfl) ?_
  refine lv_iconst (v := nI 3) hx hb dL_law_443 (by decide) ?_
  refine n_add hx hb dL_law_444 ?_
  refine va_sld hx hb hX hbl hbA hw.2.2 (vp_in_nI (show 6 * k + 3 < L by omega) (by omega)) dL_law_445 ?_
  refine tp1 (v' := xs (6 * k + 3)) (by rw [nI_clamp (show 6 * k + 3 < 2 ^ 31 by omega)]) ?_
  refine kP_Vi (As := [.int (xs (6 * k + 1)), .int (xs (6 * k + 2)), .int (xs (6 * k + 3))]) (rest := []) (w := E) (wr := F) C hw (lc_sum l g H.size tb sb A T len x kp E (xs (6 * k + 1)) (xs (6 * k + 2)) (xs (6 * k + 3)) hE) (cwV 3 hts gL_law_X6_sum rfl rfl rfl (by decide +kernel) ⟨Nat.le_of_ble_eq_true rfl, Nat.le_of_ble_eq_true rfl⟩) sx_bl (sx_callP C hw hSx) q rfl hq rfl hl.1 rfl (Nat.le_of_ble_eq_true rfl) dL_law_446 ⟨by show 600 + 160 * k + 0 ≤ 600000; omega, by show 130000 + 480 * k + Phi kp + 0 ≤ 7302250; omega⟩ (fun r_1 u H locs hp hw => ?_)
  obtain ⟨hr1, hE2⟩ := hp
  have hw := hw.comm
  obtain ⟨q2, fs2, hq2⟩ := ref_at hF
  have hq2 : (F ++ u)[q2]? = some (mo, .inr (7, fs2)) := by rw [List.getElem?_append_left (List.getElem?_eq_some_iff.mp hq2).1]; exact hq2
  refine lv_aload_n hx hb dL_law_449 rfl (lv_at hl 2 rfl) ?_
  refine lv_aload_n hx hb dL_law_450 rfl (lv_at hl 0 rfl) ?_
  refine lv_iload_n hx hb dL_law_451 rfl (lv_at hl 3 rfl) ?_
  refine lv_iconst (v := nI 1) hx hb dL_law_452 (by decide) ?_
  refine n_add hx hb dL_law_453 ?_
  refine va_sld hx hb hX hbl hbA hw.2.2 (vp_in_nI (show 6 * k + 1 < L by omega) (by omega)) dL_law_454 ?_
  refine tp1 (v' := xs (6 * k + 1)) (by rw [nI_clamp (show 6 * k + 1 < 2 ^ 31 by omega)]) ?_
  refine lv_aload_n hx hb dL_law_455 rfl (lv_at hl 0 rfl) ?_
  refine lv_iload_n hx hb dL_law_456 rfl (lv_at hl 3 rfl) ?_
  refine lv_iconst (v := nI 2) hx hb dL_law_457 (by decide) ?_
  refine n_add hx hb dL_law_458 ?_
  refine va_sld hx hb hX hbl hbA hw.2.2 (vp_in_nI (show 6 * k + 2 < L by omega) (by omega)) dL_law_459 ?_
  refine tp1 (v' := xs (6 * k + 2)) (by rw [nI_clamp (show 6 * k + 2 < 2 ^ 31 by omega)]) ?_
  refine lv_aload_n hx hb dL_law_460 rfl (lv_at hl 0 rfl) ?_
  refine lv_iload_n hx hb dL_law_461 rfl (lv_at hl 3 rfl) ?_
  refine lv_iconst (v := nI 3) hx hb dL_law_462 (by decide) ?_
  refine n_add hx hb dL_law_463 ?_
  refine va_sld hx hb hX hbl hbA hw.2.2 (vp_in_nI (show 6 * k + 3 < L by omega) (by omega)) dL_law_464 ?_
  refine tp1 (v' := xs (6 * k + 3)) (by rw [nI_clamp (show 6 * k + 3 < 2 ^ 31 by omega)]) ?_
  refine kP_Vi (As := [.int (xs (6 * k + 1)), .int (xs (6 * k + 2)), .int (xs (6 * k + 3))]) (rest := [.int r_1]) (w := F) (wr := u) C hw (rc_sum l g H.size mo a ra qa T len x F (xs (6 * k + 1)) (xs (6 * k + 2)) (xs (6 * k + 3)) hF) (cwV 3 hts gL_law_X7_sum rfl rfl rfl (by decide +kernel) ⟨Nat.le_of_ble_eq_true rfl, Nat.le_of_ble_eq_true rfl⟩) bl_T (fun _ _ _ => trivial) q2 rfl hq2 rfl hl.1 rfl (Nat.le_of_ble_eq_true rfl) dL_law_465 ⟨by show 600 + 160 * k + 0 + 0 ≤ 600000; omega, by show 130000 + 480 * k + Phi kp + 0 + 0 ≤ 7302250; omega⟩ (fun r_2 u2 H locs hp hw => ?_)
  obtain ⟨hr2, hF2⟩ := hp
  refine lv_icmp_eq (tgt := 529) hx hb dL_law_468 (by decide) (fun _ => ?_) (fun q9 => absurd (by rw [hr1, hr2]) q9)
  refine W.widen (k := 600 + 160 * (k + 1)) (n := 130000 + 480 * (k + 1) + Phi kp) (by omega) (by omega) ?_
  exact K _ _ _ _ u u2 H locs ls hE2 hF2 hw hl
set_option maxHeartbeats 1000000 in
theorem law_memory {p : Program} {e : Env} {s : State} {m : MethodId} {below : List Frame} {meth : Method} {c : Code} (l : Launch) {g : GT} {tb : Nat → Nat} {b L : Nat} {xs : Nat → Int32} (hL : L ≤ 3072) (C : Cx p s m #[Value.ref b] meth c code 4 ret wsL_law RL g (aS s)) (hX : va_X b L xs s s.heap) (hbl : b < s.heap.size) (hSx : Sx tb (aS s) s s.heap) {sb mo : Nat} {A a : Nat → Nat} {ra qa : Nat → Nat → Nat} (k : Nat) (hk : 6 * k + 6 ≤ L) (K : NextOK p e s m below meth c l g tb b sb mo A a ra qa k) : ∀ (T : Nat → Nat) (len : Nat) (x : SSt) (kp : CPS) (E F : va_W) (H : Heap) (locs : List Loc) (ls : Array Slot), compOK tb g sb A T len x kp E → refOK g mo a ra qa T len x F → Wd g (aS s) s.heap (E ++ F) H locs → lv_has ls 4 [(0, .ref b), (1, .ref sb), (2, .ref mo), (3, .int (nI (6 * k)))] → W p l e room_1 s m #[Value.ref b] below meth c H locs (600 + 160 * k) (130000 + 480 * k + Phi kp) (lw_Z below #[Value.ref b] s) (F0 m 473 ls []) := by
  intro T len x kp E F H locs ls hE hF hw hl
  obtain ⟨hx, hb, hml, hown, hts, hK, hA, hr, hlk⟩ := id C
  have hbA : ¬ aS s b := Nat.not_le.mpr hbl
  have hph := Phi_le (comp_s hE).2.1
  obtain ⟨q, fs, hq⟩ := comp_at hE
  have hq : (E ++ F)[q]? = some (sb, .inr (6, fs)) := by rw [List.getElem?_append_left (List.getElem?_eq_some_iff.mp hq).1]; exact hq
  refine lv_aload_n hx hb dL_law_473 rfl (lv_at hl 1 rfl) ?_
  refine lv_aload_n hx hb dL_law_474 rfl (lv_at hl 0 rfl) ?_
  refine lv_iload_n hx hb dL_law_475 rfl (lv_at hl 3 rfl) ?_
  refine lv_iconst (v := nI 1) hx hb dL_law_476 (by decide) ?_
  refine n_add hx hb dL_law_477 ?_
  refine va_sld hx hb hX hbl hbA hw.2.2 (vp_in_nI (show 6 * k + 1 < L by omega) (by omega)) dL_law_478 ?_
  refine tp1 (v' := xs (6 * k + 1)) (by rw [nI_clamp (show 6 * k + 1 < 2 ^ 31 by omega)]) ?_
  refine lv_aload_n hx hb dL_law_479 rfl (lv_at hl 0 rfl) ?_
  refine lv_iload_n hx hb dL_law_480 rfl (lv_at hl 3 rfl) ?_
  refine lv_iconst (v := nI 2) hx hb dL_law_481 (by decide) ?_
  refine n_add hx hb dL_law_482 ?_
  refine va_sld hx hb hX hbl hbA hw.2.2 (vp_in_nI (show 6 * k + 2 < L by omega) (by omega)) dL_law_483 ?_
  refine tp1 (v' := xs (6 * k + 2)) (by rw [nI_clamp (show 6 * k + 2 < 2 ^ 31 by omega)]) ?_
  refine kP_Vi (As := [.int (xs (6 * k + 1)), .int (xs (6 * k + 2))]) (rest := []) (w := E) (wr := F) C hw (lc_memory l g H.size tb sb A T len x kp E (xs (6 * k + 1)) (xs (6 * k + 2)) hE) (cwV 2 hts gL_law_X6_memory rfl rfl rfl (by decide +kernel) ⟨Nat.le_of_ble_eq_true rfl, Nat.le_of_ble_eq_true rfl⟩) sx_bl (sx_callP C hw hSx) q rfl hq rfl hl.1 rfl (Nat.le_of_ble_eq_true rfl) dL_law_484 ⟨by show 600 + 160 * k + 0 ≤ 600000; omega, by show 130000 + 480 * k + Phi kp + 0 ≤ 7302250; omega⟩ (fun r_1 u H locs hp hw => ?_)
  obtain ⟨hr1, hE2⟩ := hp
  have hw := hw.comm
  obtain ⟨q2, fs2, hq2⟩ := ref_at hF
  have hq2 : (F ++ u)[q2]? = some (mo, .inr (7, fs2)) := by rw [List.getElem?_append_left (List.getElem?_eq_some_iff.mp hq2).1]; exact hq2
  refine lv_aload_n hx hb dL_law_487 rfl (lv_at hl 2 rfl) ?_
  refine lv_aload_n hx hb dL_law_488 rfl (lv_at hl 0 rfl) ?_
  refine lv_iload_n hx hb dL_law_489 rfl (lv_at hl 3 rfl) ?_
  refine lv_iconst (v := nI 1) hx hb dL_law_490 (by decide) ?_
  refine n_add hx hb dL_law_491 ?_
  refine va_sld hx hb hX hbl hbA hw.2.2 (vp_in_nI (show 6 * k + 1 < L by omega) (by omega)) dL_law_492 ?_
  refine tp1 (v' := xs (6 * k + 1)) (by rw [nI_clamp (show 6 * k + 1 < 2 ^ 31 by omega)]) ?_
  refine lv_aload_n hx hb dL_law_493 rfl (lv_at hl 0 rfl) ?_
  refine lv_iload_n hx hb dL_law_494 rfl (lv_at hl 3 rfl) ?_
  refine lv_iconst (v := nI 2) hx hb dL_law_495 (by decide) ?_
  refine n_add hx hb dL_law_496 ?_
  refine va_sld hx hb hX hbl hbA hw.2.2 (vp_in_nI (show 6 * k + 2 < L by omega) (by omega)) dL_law_497 ?_
  refine tp1 (v' := xs (6 * k + 2)) (by rw [nI_clamp (show 6 * k + 2 < 2 ^ 31 by omega)]) ?_
  refine kP_Vi (As := [.int (xs (6 * k + 1)), .int (xs (6 * k + 2))]) (rest := [.int r_1]) (w := F) (wr := u) C hw (rc_memory l g H.size mo a ra qa T len x F (xs (6 * k + 1)) (xs (6 * k + 2)) hF) (cwV 2 hts gL_law_X7_memory rfl rfl rfl (by decide +kernel) ⟨Nat.le_of_ble_eq_true rfl, Nat.le_of_ble_eq_true rfl⟩) bl_T (fun _ _ _ => trivial) q2 rfl hq2 rfl hl.1 rfl (Nat.le_of_ble_eq_true rfl) dL_law_498 ⟨by show 600 + 160 * k + 0 + 0 ≤ 600000; omega, by show 130000 + 480 * k + Phi kp + 0 + 0 ≤ 7302250; omega⟩ (fun r_2 u2 H locs hp hw => ?_)
  obtain ⟨hr2, hF2⟩ := hp
  refine lv_icmp_eq (tgt := 529) hx hb dL_law_501 (by decide) (fun _ => ?_) (fun q9 => absurd (by rw [hr1, hr2]) q9)
  refine W.widen (k := 600 + 160 * (k + 1)) (n := 130000 + 480 * (k + 1) + Phi kp) (by omega) (by omega) ?_
  exact K _ _ _ _ u u2 H locs ls hE2 hF2 hw hl
set_option maxHeartbeats 1000000 in
theorem law_count {p : Program} {e : Env} {s : State} {m : MethodId} {below : List Frame} {meth : Method} {c : Code} (l : Launch) {g : GT} {tb : Nat → Nat} {b L : Nat} {xs : Nat → Int32} (hL : L ≤ 3072) (C : Cx p s m #[Value.ref b] meth c code 4 ret wsL_law RL g (aS s)) (hX : va_X b L xs s s.heap) (hbl : b < s.heap.size) (hSx : Sx tb (aS s) s s.heap) {sb mo : Nat} {A a : Nat → Nat} {ra qa : Nat → Nat → Nat} (k : Nat) (hk : 6 * k + 6 ≤ L) (K : NextOK p e s m below meth c l g tb b sb mo A a ra qa k) : ∀ (T : Nat → Nat) (len : Nat) (x : SSt) (kp : CPS) (E F : va_W) (H : Heap) (locs : List Loc) (ls : Array Slot), compOK tb g sb A T len x kp E → refOK g mo a ra qa T len x F → Wd g (aS s) s.heap (E ++ F) H locs → lv_has ls 4 [(0, .ref b), (1, .ref sb), (2, .ref mo), (3, .int (nI (6 * k)))] → W p l e room_1 s m #[Value.ref b] below meth c H locs (600 + 160 * k) (130000 + 480 * k + Phi kp) (lw_Z below #[Value.ref b] s) (F0 m 506 ls []) := by
  intro T len x kp E F H locs ls hE hF hw hl
  obtain ⟨hx, hb, hml, hown, hts, hK, hA, hr, hlk⟩ := id C
  have hbA : ¬ aS s b := Nat.not_le.mpr hbl
  have hph := Phi_le (comp_s hE).2.1
  obtain ⟨q, fs, hq⟩ := comp_at hE
  have hq : (E ++ F)[q]? = some (sb, .inr (6, fs)) := by rw [List.getElem?_append_left (List.getElem?_eq_some_iff.mp hq).1]; exact hq
  refine lv_aload_n hx hb dL_law_506 rfl (lv_at hl 1 rfl) ?_
  refine lv_aload_n hx hb dL_law_507 rfl (lv_at hl 0 rfl) ?_
  refine lv_iload_n hx hb dL_law_508 rfl (lv_at hl 3 rfl) ?_
  refine lv_iconst (v := nI 1) hx hb dL_law_509 (by decide) ?_
  refine n_add hx hb dL_law_510 ?_
  refine va_sld hx hb hX hbl hbA hw.2.2 (vp_in_nI (show 6 * k + 1 < L by omega) (by omega)) dL_law_511 ?_
  refine tp1 (v' := xs (6 * k + 1)) (by rw [nI_clamp (show 6 * k + 1 < 2 ^ 31 by omega)]) ?_
  refine kP_Vi (As := [.int (xs (6 * k + 1))]) (rest := []) (w := E) (wr := F) C hw (lc_count l g H.size tb sb A T len x kp E (xs (6 * k + 1)) hE) (cwV 1 hts gL_law_X6_count rfl rfl rfl (by decide +kernel) ⟨Nat.le_of_ble_eq_true rfl, Nat.le_of_ble_eq_true rfl⟩) sx_bl (sx_callP C hw hSx) q rfl hq rfl hl.1 rfl (Nat.le_of_ble_eq_true rfl) dL_law_512 ⟨by show 600 + 160 * k + 0 ≤ 600000; omega, by show 130000 + 480 * k + Phi kp + 0 ≤ 7302250; omega⟩ (fun r_1 u H locs hp hw => ?_)
  obtain ⟨hr1, hE2⟩ := hp
  have hw := hw.comm
  obtain ⟨q2, fs2, hq2⟩ := ref_at hF
  have hq2 : (F ++ u)[q2]? = some (mo, .inr (7, fs2)) := by rw [List.getElem?_append_left (List.getElem?_eq_some_iff.mp hq2).1]; exact hq2
  refine lv_aload_n hx hb dL_law_515 rfl (lv_at hl 2 rfl) ?_
  refine lv_aload_n hx hb dL_law_516 rfl (lv_at hl 0 rfl) ?_
  refine lv_iload_n hx hb dL_law_517 rfl (lv_at hl 3 rfl) ?_
  refine lv_iconst (v := nI 1) hx hb dL_law_518 (by decide) ?_
  refine n_add hx hb dL_law_519 ?_
  refine va_sld hx hb hX hbl hbA hw.2.2 (vp_in_nI (show 6 * k + 1 < L by omega) (by omega)) dL_law_520 ?_
  refine tp1 (v' := xs (6 * k + 1)) (by rw [nI_clamp (show 6 * k + 1 < 2 ^ 31 by omega)]) ?_
  refine kP_Vi (As := [.int (xs (6 * k + 1))]) (rest := [.int r_1]) (w := F) (wr := u) C hw (rc_count l g H.size mo a ra qa T len x F (xs (6 * k + 1)) hF) (cwV 1 hts gL_law_X7_count rfl rfl rfl (by decide +kernel) ⟨Nat.le_of_ble_eq_true rfl, Nat.le_of_ble_eq_true rfl⟩) bl_T (fun _ _ _ => trivial) q2 rfl hq2 rfl hl.1 rfl (Nat.le_of_ble_eq_true rfl) dL_law_521 ⟨by show 600 + 160 * k + 0 + 0 ≤ 600000; omega, by show 130000 + 480 * k + Phi kp + 0 + 0 ≤ 7302250; omega⟩ (fun r_2 u2 H locs hp hw => ?_)
  obtain ⟨hr2, hF2⟩ := hp
  refine lv_icmp_eq (tgt := 529) hx hb dL_law_524 (by decide) (fun _ => ?_) (fun q9 => absurd (by rw [hr1, hr2]) q9)
  refine W.widen (k := 600 + 160 * (k + 1)) (n := 130000 + 480 * (k + 1) + Phi kp) (by omega) (by omega) ?_
  exact K _ _ _ _ u u2 H locs ls hE2 hF2 hw hl
set_option maxHeartbeats 1000000 in
theorem law_loop {p : Program} {e : Env} {s : State} {m : MethodId} {below : List Frame} {meth : Method} {c : Code} (l : Launch) {g : GT} {tb : Nat → Nat} {b L : Nat} {xs : Nat → Int32} (hL : L ≤ 3072) (C : Cx p s m #[Value.ref b] meth c code 4 ret wsL_law RL g (aS s)) (hX : va_X b L xs s s.heap) (hbl : b < s.heap.size) (hSx : Sx tb (aS s) s s.heap) {sb mo : Nat} {A a : Nat → Nat} {ra qa : Nat → Nat → Nat} : ∀ (n k : Nat) (T : Nat → Nat) (len : Nat) (x : SSt) (kp : CPS) (E F : va_W) (H : Heap) (locs : List Loc) (ls : Array Slot), k + n = 512 → compOK tb g sb A T len x kp E → refOK g mo a ra qa T len x F → Wd g (aS s) s.heap (E ++ F) H locs → lv_has ls 4 [(0, .ref b), (1, .ref sb), (2, .ref mo), (3, .int (nI (6 * k)))] → W p l e room_1 s m #[Value.ref b] below meth c H locs (600 + 160 * k) (130000 + 480 * k + Phi kp) (lw_Z below #[Value.ref b] s) (F0 m 18 ls []) := by
  intro n
  induction n with
  | zero =>
    intro k T len x kp E F H locs ls hk hE hF hw hl
    obtain ⟨hx, hb, hml, hown, hts, hK, hA, hr, hlk⟩ := id C
    have hbA : ¬ aS s b := Nat.not_le.mpr hbl
    have hph := Phi_le (comp_s hE).2.1
    refine lv_iload_n hx hb dL_law_18 rfl (lv_at hl 3 rfl) ?_
    refine lv_aload_n hx hb dL_law_19 rfl (lv_at hl 0 rfl) ?_
    refine va_slen hx hb hX hbl hbA hw.2.2 dL_law_20 ?_
    refine tp1 (v' := nI L) rfl ?_
    refine lv_bipush (v := nI 6) hx hb dL_law_21 (by decide) ?_
    refine lv_isub hx hb dL_law_23 ?_
    refine lv_icmp_gt (tgt := 535) hx hb dL_law_24 (by decide) (fun c1 => ?_) (fun c1 => ?_)
    · refine lv_iconst (v := 1) hx hb dL_law_535 (by decide) ?_
      refine va_forget (fun q hq => hw.2.2.2.2 q hq) ?_
      refine W.widen (k := 600000) (n := 7302250) (by omega) (by omega) ?_
      exact lw_ret hx hb hr hlk dL_law_536
    · exact absurd ((gt_sub6 (i := 6 * k) (by omega) hL).mpr (by omega)) c1
  | succ n ih =>
    intro k T len x kp E F H locs ls hk hE hF hw hl
    obtain ⟨hx, hb, hml, hown, hts, hK, hA, hr, hlk⟩ := id C
    have hbA : ¬ aS s b := Nat.not_le.mpr hbl
    have hph := Phi_le (comp_s hE).2.1
    refine lv_iload_n hx hb dL_law_18 rfl (lv_at hl 3 rfl) ?_
    refine lv_aload_n hx hb dL_law_19 rfl (lv_at hl 0 rfl) ?_
    refine va_slen hx hb hX hbl hbA hw.2.2 dL_law_20 ?_
    refine tp1 (v' := nI L) rfl ?_
    refine lv_bipush (v := nI 6) hx hb dL_law_21 (by decide) ?_
    refine lv_isub hx hb dL_law_23 ?_
    refine lv_icmp_gt (tgt := 535) hx hb dL_law_24 (by decide) (fun c1 => ?_) (fun c1 => ?_)
    · refine lv_iconst (v := 1) hx hb dL_law_535 (by decide) ?_
      refine va_forget (fun q hq => hw.2.2.2.2 q hq) ?_
      refine W.widen (k := 600000) (n := 7302250) (by omega) (by omega) ?_
      exact lw_ret hx hb hr hlk dL_law_536
    · have hk6 : 6 * k + 6 ≤ L := by
        rcases Nat.lt_or_ge L (6 * k + 6) with q | q
        · exact absurd ((gt_sub6 (i := 6 * k) (by omega) hL).mpr q) c1
        · exact q
      have K : NextOK p e s m below meth c l g tb b sb mo A a ra qa k := by
        intro T len x kp E F H locs ls hE hF hw hl
        refine lv_iinc (v := nI (6 * k + 6)) (lv' := [(3, .int (nI (6 * k + 6))), (0, .ref b), (1, .ref sb), (2, .ref mo)]) hx hb dL_law_529 hl (k := 3) rfl (nI_add _ _) (by decide) rfl (fun ls hl => ?_)
        refine lv_goto (tgt := 18) hx hb dL_law_532 (by decide) ?_
        exact ih (k + 1) T len x kp E F H locs ls (by omega) hE hF hw.comm (lv_sub hl [1, 2, 3, 0] rfl)
      obtain ⟨v0, hv0, e0⟩ := i32_nat (xs (6 * k))
      refine lv_aload_n hx hb dL_law_27 rfl (lv_at hl 0 rfl) ?_
      refine lv_iload_n hx hb dL_law_28 rfl (lv_at hl 3 rfl) ?_
      refine va_sld hx hb hX hbl hbA hw.2.2 (vp_in_nI (show 6 * k < L by omega) (by omega)) dL_law_29 ?_
      refine tp1 (v' := nI v0) (by rw [nI_clamp (show 6 * k < 2 ^ 31 by omega), e0]) ?_
      refine lv_bipush (v := nI 15) hx hb dL_law_30 (by decide) ?_
      refine n_and (d := 16) hx hb 4 (by decide) (by decide) (by omega) hv0 dL_law_32 ?_
      generalize ht : v0 % 16 = t
      have ht16 : t < 16 := by omega
      rcases (show t = 0 ∨ t = 1 ∨ t = 2 ∨ t = 3 ∨ t = 4 ∨ t = 5 ∨ t = 6 ∨ t = 7 ∨ t = 8 ∨ t = 9 ∨ t = 10 ∨ t = 11 ∨ t = 12 ∨ 12 < t by omega) with rfl | rfl | rfl | rfl | rfl | rfl | rfl | rfl | rfl | rfl | rfl | rfl | rfl | h
      · refine lv_tableIn (off := 67) (tgt := 100) hx hb dL_law_33 (by decide) (by decide) (by decide +kernel) (by decide) ?_
        exact law_feed l hL C hX hbl hSx k hk6 K T len x kp E F H locs ls hE hF hw hl
      · refine lv_tableIn (off := 130) (tgt := 163) hx hb dL_law_33 (by decide) (by decide) (by decide +kernel) (by decide) ?_
        exact law_end l hL C hX hbl hSx k hk6 K T len x kp E F H locs ls hE hF hw hl
      · refine lv_tableIn (off := 153) (tgt := 186) hx hb dL_law_33 (by decide) (by decide) (by decide +kernel) (by decide) ?_
        exact law_set l hL C hX hbl hSx k hk6 K T len x kp E F H locs ls hE hF hw hl
      · refine lv_tableIn (off := 186) (tgt := 219) hx hb dL_law_33 (by decide) (by decide) (by decide +kernel) (by decide) ?_
        exact law_clear l hL C hX hbl hSx k hk6 K T len x kp E F H locs ls hE hF hw hl
      · refine lv_tableIn (off := 199) (tgt := 232) hx hb dL_law_33 (by decide) (by decide) (by decide +kernel) (by decide) ?_
        exact law_decode l hL C hX hbl hSx k hk6 K T len x kp E F H locs ls hE hF hw hl
      · refine lv_tableIn (off := 212) (tgt := 245) hx hb dL_law_33 (by decide) (by decide) (by decide +kernel) (by decide) ?_
        exact law_frame l hL C hX hbl hSx k hk6 K T len x kp E F H locs ls hE hF hw hl
      · refine lv_tableIn (off := 245) (tgt := 278) hx hb dL_law_33 (by decide) (by decide) (by decide +kernel) (by decide) ?_
        exact law_band l hL C hX hbl hSx k hk6 K T len x kp E F H locs ls hE hF hw hl
      · refine lv_tableIn (off := 288) (tgt := 321) hx hb dL_law_33 (by decide) (by decide) (by decide +kernel) (by decide) ?_
        exact law_steps l hL C hX hbl hSx k hk6 K T len x kp E F H locs ls hE hF hw hl
      · refine lv_tableIn (off := 321) (tgt := 354) hx hb dL_law_33 (by decide) (by decide) (by decide +kernel) (by decide) ?_
        exact law_factor l hL C hX hbl hSx k hk6 K T len x kp E F H locs ls hE hF hw hl
      · refine lv_tableIn (off := 364) (tgt := 397) hx hb dL_law_33 (by decide) (by decide) (by decide +kernel) (by decide) ?_
        exact law_pcm l hL C hX hbl hSx k hk6 K T len x kp E F H locs ls hE hF hw hl
      · refine lv_tableIn (off := 397) (tgt := 430) hx hb dL_law_33 (by decide) (by decide) (by decide +kernel) (by decide) ?_
        exact law_sum l hL C hX hbl hSx k hk6 K T len x kp E F H locs ls hE hF hw hl
      · refine lv_tableIn (off := 440) (tgt := 473) hx hb dL_law_33 (by decide) (by decide) (by decide +kernel) (by decide) ?_
        exact law_memory l hL C hX hbl hSx k hk6 K T len x kp E F H locs ls hE hF hw hl
      · refine lv_tableIn (off := 473) (tgt := 506) hx hb dL_law_33 (by decide) (by decide) (by decide +kernel) (by decide) ?_
        exact law_count l hL C hX hbl hSx k hk6 K T len x kp E F H locs ls hE hF hw hl
      · refine lv_tableOut (tgt := 529) hx hb dL_law_33 (Or.inr (by rw [nI_toInt (by omega)]; omega)) (by decide) ?_
        refine W.widen (k := 600 + 160 * (k + 1)) (n := 130000 + 480 * (k + 1) + Phi kp) (by omega) (by omega) ?_
        exact K T len x kp E F H locs ls hE hF hw.comm hl
