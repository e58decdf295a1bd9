/-! the class's decode over the abstract state -/
theorem decS_on {T : Nat → Nat} {len n : Nat} {x : SSt} (h : fdS T len x + 4 ≤ len ∧ byS (wdS T (fdS T len x)) ≤ len - fdS T len x) : decS T len (n + 1) x = ((decS T len n (nxS T (fdS T len x) (wdS T (fdS T len x)) x)).1 + 1, (decS T len n (nxS T (fdS T len x) (wdS T (fdS T len x)) x)).2) := by
  rw [decS, if_pos h]
theorem decS_off {T : Nat → Nat} {len n : Nat} {x : SSt} (h : ¬ (fdS T len x + 4 ≤ len ∧ byS (wdS T (fdS T len x)) ≤ len - fdS T len x)) : decS T len (n + 1) x = (0, stS T len x) := by
  rw [decS, if_neg h]
theorem decK_on {T : Nat → Nat} {len n : Nat} {x : SSt} {k : CPS} (h : fdS T len x + 4 ≤ len ∧ byS (wdS T (fdS T len x)) ≤ len - fdS T len x) : decK T len (n + 1) x k = decK T len n (nxS T (fdS T len x) (wdS T (fdS T len x)) x) (cpN T (fdS T len x) (wdS T (fdS T len x)) x k) := by
  rw [decK, if_pos h]
theorem decK_off {T : Nat → Nat} {len n : Nat} {x : SSt} {k : CPS} (h : ¬ (fdS T len x + 4 ≤ len ∧ byS (wdS T (fdS T len x)) ≤ len - fdS T len x)) : decK T len (n + 1) x k = k := by
  rw [decK, if_neg h]
def msX (T : Nat → Nat) (len a w oc : Nat) (x : SSt) (kp : CPS) : Nat := msP len a w oc kp.1 x.2.1.length x.2.2.2.2.1.2.1 kp.2.1 x.2.2.2.2.2.2.1 kp.2.2
theorem msP_on {T : Nat → Nat} {len a w : Nat} {x : SSt} {k : CPS} (hS : SOK len x) (hk : COK k) (h : a + 4 ≤ len ∧ byS w ≤ len - a) : msX T len a w (ocN T a w) x k + Phi k ≤ 12 + Phi (cpN T a w x k) := by
  obtain ⟨⟨a1, a2⟩, a3, a4, a5, a6, a7, a8⟩ := hS
  have k1 := grow_ok (n := x.2.1.length) hk.1 (by omega)
  have k2 := (capS_ge x.2.2.2.2.1.2.1 (rowsS w * 32) k.2.1).1
  have k3 : k.2.2 ≤ cxS (chS w) (rowsS w) x.2.2.2.2.2.2.1 k.2.2 := by
    unfold cxS
    split
    · exact (capS_ge _ _ _).1
    · exact Nat.le_refl _
  unfold msX msP cpN Phi
  rw [if_pos h.1, if_pos h.2]
  dsimp only
  by_cases q : ocN T a w = 0
  · rw [if_pos q, if_pos q, if_pos q]; omega
  · rw [if_neg q, if_neg q, if_neg q]; omega
theorem msP_off {T : Nat → Nat} {len a w oc : Nat} {x : SSt} {k : CPS} (h : ¬ (a + 4 ≤ len ∧ byS w ≤ len - a)) : msX T len a w oc x k ≤ 12 := by
  unfold msX msP
  by_cases h1 : a + 4 ≤ len
  · rw [if_pos h1, if_neg (fun q => h ⟨h1, q⟩)]; omega
  · rw [if_neg h1]; omega
abbrev rm_c_decode (z : Nat) : Room := { frames := 8, cells := 160, slots := z, locals := 171 }
set_option maxHeartbeats 1000000 in
theorem lc_decode (l : Launch) (g : GT) (sz : Nat) (tb : Nat → Nat) (sb : Nat) (A : Nat → Nat) (T : Nat → Nat) (len : Nat) (x : SSt) (kp : CPS) (E : va_W) (h : compOK tb g sb A T len x kp E) : CtI l g yX6_decode wsX6_decode (rm_c_decode (480 + (Phi (decK T len 40 x kp) - Phi kp))) [.ref sb] E sz (fun U => Sx tb (va_A E sz) U U.heap) (fun rr u => rr = nI (decS T len 40 x).1 ∧ compOK tb g sb A T len (decS T len 40 x).2 (decK T len 40 x kp) u) 160 (480 + (Phi (decK T len 40 x kp) - Phi kp)) := by
  refine ct_body (cc := cX6_decode) (nL := 2) (ret := (some .int)) (by decide) rfl (Nat.le_of_ble_eq_true rfl) ?_
  intro p e s m below meth c ls C hin hsz hB hw hl
  obtain ⟨hx, hb, hml, hown, hts, hK, hA, hr, hlk⟩ := id C
  have hl : lv_has ls 2 [(0, .ref sb)] := hl
  generalize hZ : 480 + (Phi (decK T len 40 x kp) - Phi kp) = Z
  have key : ∀ (n i : Nat) (x1 : SSt) (kp1 : CPS) (E1 : va_W) (H : Heap) (locs : List Loc) (ls : Array Slot) (cells slots : Nat), i + n = 40 → compOK tb g sb A T len x1 kp1 E1 → Wd g (va_A E sz) s.heap E1 H locs → lv_has ls 2 [(0, .ref sb), (1, .int (nI i))] → decS T len 40 x = ((decS T len n x1).1 + i, (decS T len n x1).2) → decK T len 40 x kp = decK T len n x1 kp1 → cells + 4 * n ≤ 160 → slots + 12 * n + (Phi (decK T len n x1 kp1) - Phi kp1) ≤ Z →
      W p l e (rm_c_decode Z) s m [Value.ref sb].toArray below meth c H locs cells slots (MQI g below [Value.ref sb].toArray s E sz (fun rr u => rr = nI (decS T len 40 x).1 ∧ compOK tb g sb A T len (decS T len 40 x).2 (decK T len 40 x kp) u) 160 Z) (F0 m 2 ls []) := by
    intro n
    induction n with
    | zero =>
      intro i x1 kp1 E1 H locs ls cells slots hi hc hw hl e1 e2 h1 h2
      have hi40 : i = 40 := by omega
      subst hi40
      refine lv_iload_n hx hb dX6_decode_2 rfl (lv_at hl 1 rfl) ?_
      refine lv_bipush (v := nI 40) hx hb dX6_decode_3 (by decide) ?_
      refine n_cge (tgt := 23) hx hb (by omega) (by omega) dX6_decode_5 (by decide) (fun _ => ?_) (fun q => by omega)
      refine lv_bipush (v := nI 40) hx hb dX6_decode_23 (by decide) ?_
      refine r_iret C hw (by omega) (by omega) ⟨?_, ?_⟩ dX6_decode_25
      · rw [e1]; rfl
      · rw [e1, e2]; exact hc
    | succ n ih =>
      intro i x1 kp1 E1 H locs ls cells slots hi hc hw hl e1 e2 h1 h2
      obtain ⟨q, fs, hq⟩ := comp_at hc
      obtain ⟨hS, hk, hT⟩ := comp_s hc
      have hw2 : Wd g (va_A E sz) s.heap (E1 ++ []) H locs := by rw [List.append_nil]; exact hw
      have hlc := lc_pass l g H.size tb sb A T len x1 kp1 E1 hc
      have hon1 := fun h9 => msP_on (T := T) (a := fdS T len x1) (w := wdS T (fdS T len x1)) hS hk h9
      have hoff1 := fun h9 => msP_off (T := T) (len := len) (a := fdS T len x1) (w := wdS T (fdS T len x1)) (oc := ocN T (fdS T len x1) (wdS T (fdS T len x1))) (x := x1) (k := kp1) h9
      have hle : slots + msX T len (fdS T len x1) (wdS T (fdS T len x1)) (ocN T (fdS T len x1) (wdS T (fdS T len x1))) x1 kp1 ≤ Z := by
        by_cases h9 : fdS T len x1 + 4 ≤ len ∧ byS (wdS T (fdS T len x1)) ≤ len - fdS T len x1
        · have a1 := hon1 h9
          have a2 := (cpN_ok (T := T) hS hk h9.1 h9.2)
          have a3 := (decK_ok (T := T) n _ _ (SOK_nx hS h9.1 h9.2) a2.1).2
          rw [decK_on h9] at h2
          omega
        · have a1 := hoff1 h9
          omega
      refine lv_iload_n hx hb dX6_decode_2 rfl (lv_at hl 1 rfl) ?_
      refine lv_bipush (v := nI 40) hx hb dX6_decode_3 (by decide) ?_
      refine n_cge (tgt := 23) hx hb (by omega) (by omega) dX6_decode_5 (by decide) (fun q => by omega) (fun _ => ?_)
      refine lv_aload_n hx hb dX6_decode_8 rfl (lv_at hl 0 rfl) ?_
      refine kP_Vi (As := []) (rest := []) (w := E1) (wr := []) C hw2 hlc (cwV 0 hts gX6_decode_X6_passFrame rfl rfl rfl (by decide +kernel) ⟨Nat.le_of_ble_eq_true rfl, Nat.le_of_ble_eq_true rfl⟩) sx_bl (sx_callP C hw2 hB) q rfl (by rw [List.append_nil]; exact hq) rfl hl.1 rfl (Nat.le_of_ble_eq_true rfl) dX6_decode_9 ⟨by show cells + 4 ≤ 160; omega, hle⟩ (fun r_1 u H locs hp hw => ?_)
      rw [List.append_nil] at hw
      rcases hp with ⟨hon, rfl, hc2⟩ | ⟨hon, rfl, hc2⟩
      · have a1 := hon1 hon
        have a2 := (cpN_ok (T := T) hS hk hon.1 hon.2)
        have a3 := (decK_ok (T := T) n _ _ (SOK_nx hS hon.1 hon.2) a2.1).2
        rw [decK_on hon] at h2 e2
        refine n_ne0 (tgt := 17) hx hb (by omega) dX6_decode_12 (by decide) (fun _ => ?_) (fun q => by omega)
        refine lv_iinc (k := 1) (v := nI (i + 1)) (lv' := [(1, .int (nI (i + 1))), (0, .ref sb)]) hx hb dX6_decode_17 hl rfl (nI_add i 1) (by decide) rfl (fun ls hl => ?_)
        refine lv_goto (tgt := 2) hx hb dX6_decode_20 (by decide) ?_
        refine ih (i + 1) _ _ _ H locs ls _ _ (by omega) hc2 hw (lv_sub hl [1, 0] rfl) ?_ e2 (by omega) ?_
        · rw [e1, decS_on hon]
          exact Prod.ext (by show _ + 1 + i = _ + (i + 1); omega) rfl
        · show slots + msX T len (fdS T len x1) (wdS T (fdS T len x1)) (ocN T (fdS T len x1) (wdS T (fdS T len x1))) x1 kp1 + 12 * n + _ ≤ Z
          omega
      · rw [decK_off hon] at e2
        rw [decS_off hon] at e1
        refine n_ne0 (tgt := 17) hx hb (by omega) dX6_decode_12 (by decide) (fun q => by omega) (fun _ => ?_)
        refine lv_iload_n hx hb dX6_decode_15 rfl (lv_at hl 1 rfl) ?_
        refine r_iret C hw (by omega) hle ⟨?_, ?_⟩ dX6_decode_16
        · rw [e1]; show nI i = nI (0 + i); rw [Nat.zero_add]
        · rw [e1, e2]; exact hc2
  refine lv_iconst (v := nI 0) hx hb dX6_decode_0 (by decide) ?_
  refine lv_istore_n (lv' := [(1, .int (nI 0)), (0, .ref sb)]) hx hb dX6_decode_1 rfl hl (by decide) rfl (fun ls hl => ?_)
  exact key 40 0 x kp E s.heap [] ls 0 0 rfl h hw (lv_sub hl [1, 0] rfl) (Prod.ext (Nat.add_zero _).symm rfl) rfl (by omega) (by omega)
