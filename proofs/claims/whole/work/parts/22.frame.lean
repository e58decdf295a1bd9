abbrev rm_c_fillI : Room := { frames := 0, cells := 0, slots := 0, locals := 0 }
set_option maxHeartbeats 4000000 in
set_option maxRecDepth 100000 in
theorem c_fillI (l : Launch) (g : GT) (sz : Nat) (a n : Nat) (f : Nat → Int32) (x : Int32) (hn : n < 2 ^ 31) : CtV l g yJ7_fill_53178 wsJ7_fill_53178 rm_c_fillI [.ref a, .int x] [(a, aI g n f)] sz (fun _ => True) (fun u => u = [(a, aI g n (fun j => if j < n then x else f j))]) (0) (0) := by
  refine ct_body (cc := cJ7_fill_53178) (nL := 4) (ret := none) (by decide) rfl (Nat.le_of_ble_eq_true rfl) ?_
  intro p e s m below meth c ls C hin hsz hB hw hl
  obtain ⟨hx, hb, hml, hown, hts, hK, hA, hr, hlk⟩ := id C
  have hl : lv_has ls 4 [(0, .ref a), (1, .int x)] := hl
  have hw : Wd g (va_A [(a, aI g n f)] sz) s.heap [(a, aI g n f)] s.heap [] := hw
  refine lv_iconst (v := nI 0) hx hb dJ7_fill_53178_0 (by decide) ?_
  refine lv_istore_n (lv' := [(2, .int (nI 0)), (0, .ref a), (1, .int x)]) hx hb dJ7_fill_53178_1 rfl hl (by decide) rfl (fun ls hl => ?_)
  refine lv_aload_n hx hb dJ7_fill_53178_2 rfl (lv_at hl 1 rfl) ?_
  refine r_alen C hw 0 0 rfl rfl rfl dJ7_fill_53178_3 ?_
  refine lv_istore_n (lv' := [(3, .int (nI n)), (2, .int (nI 0)), (0, .ref a), (1, .int x)]) hx hb dJ7_fill_53178_4 rfl hl (by decide) rfl (fun ls hl => ?_)
  refine lpw (I := fun i H locs ls => Wd g (va_A [(a, aI g n f)] sz) s.heap [(a, aI g n (fun j => if j < i then x else f j))] H locs ∧ lv_has ls 4 [(0, .ref a), (1, .int x), (2, .int (nI i)), (3, .int (nI n))]) (n) ?_ ?_ (0) (by omega) ⟨(by simpa using hw), (lv_sub hl [2, 3, 1, 0] rfl)⟩
  · intro H locs ls hI
    obtain ⟨hw, hl⟩ := hI
    refine lv_iload_n hx hb dJ7_fill_53178_5 rfl (lv_at hl 2 rfl) ?_
    refine lv_iload_n hx hb dJ7_fill_53178_6 rfl (lv_at hl 3 rfl) ?_
    refine n_cge (tgt := 20) hx hb (by omega) (by omega) dJ7_fill_53178_7 (by decide) (fun c_1 => ?_) (fun c_1 => ?_)
    · skip
      exact r_vret C hw (Nat.le_refl _) (Nat.le_refl _) (rfl) dJ7_fill_53178_20
    · skip
      exfalso; omega
  · intro i H locs ls hi hI K
    obtain ⟨hw, hl⟩ := hI
    refine lv_iload_n hx hb dJ7_fill_53178_5 rfl (lv_at hl 2 rfl) ?_
    refine lv_iload_n hx hb dJ7_fill_53178_6 rfl (lv_at hl 3 rfl) ?_
    refine n_cge (tgt := 20) hx hb (by omega) (by omega) dJ7_fill_53178_7 (by decide) (fun c_2 => ?_) (fun c_2 => ?_)
    · skip
      exfalso; omega
    · skip
      refine lv_aload_n hx hb dJ7_fill_53178_10 rfl (lv_at hl 0 rfl) ?_
      refine lv_iload_n hx hb dJ7_fill_53178_11 rfl (lv_at hl 2 rfl) ?_
      refine lv_iload_n hx hb dJ7_fill_53178_12 rfl (lv_at hl 1 rfl) ?_
      refine r_iast C hw 0 rfl (by omega) (by omega) (ws' := [(a, aI g n (upd (fun j => if j < i then x else f j) i (x)))]) rfl dJ7_fill_53178_13 (fun H locs hw => ?_)
      refine lv_iinc (v := (nI (i + 1))) (lv' := [(2, .int (nI (i + 1))), (0, .ref a), (1, .int x), (3, .int (nI n))]) hx hb dJ7_fill_53178_14 hl (k := 2) rfl (nI_add _ _) (by decide) rfl (fun ls hl => ?_)
      refine lv_goto (tgt := 5) hx hb dJ7_fill_53178_17 (by decide) ?_
      exact K _ _ _ ⟨(by rw [fillI_s] at hw; exact hw), (lv_sub hl [1, 2, 0, 3] rfl)⟩
abbrev rm_c_fillJ : Room := { frames := 0, cells := 0, slots := 0, locals := 0 }
set_option maxHeartbeats 4000000 in
set_option maxRecDepth 100000 in
theorem c_fillJ (l : Launch) (g : GT) (sz : Nat) (a n : Nat) (f : Nat → Int64) (x : Int64) (hn : n < 2 ^ 31) : CtV l g yJ7_fill_d0a16 wsJ7_fill_d0a16 rm_c_fillJ [.ref a, .long x] [(a, aJ g n f)] sz (fun _ => True) (fun u => u = [(a, aJ g n (fun j => if j < n then x else f j))]) (0) (0) := by
  refine ct_body (cc := cJ7_fill_d0a16) (nL := 5) (ret := none) (by decide) rfl (Nat.le_of_ble_eq_true rfl) ?_
  intro p e s m below meth c ls C hin hsz hB hw hl
  obtain ⟨hx, hb, hml, hown, hts, hK, hA, hr, hlk⟩ := id C
  have hl : lv_has ls 5 [(0, .ref a), (1, .long x)] := hl
  have hw : Wd g (va_A [(a, aJ g n f)] sz) s.heap [(a, aJ g n f)] s.heap [] := hw
  refine lv_iconst (v := nI 0) hx hb dJ7_fill_d0a16_0 (by decide) ?_
  refine lv_istore_n (lv' := [(3, .int (nI 0)), (0, .ref a), (1, .long x)]) hx hb dJ7_fill_d0a16_1 rfl hl (by decide) rfl (fun ls hl => ?_)
  refine lv_aload_n hx hb dJ7_fill_d0a16_2 rfl (lv_at hl 1 rfl) ?_
  refine r_alen C hw 0 1 rfl rfl rfl dJ7_fill_d0a16_3 ?_
  refine lv_istore (lv' := [(4, .int (nI n)), (3, .int (nI 0)), (0, .ref a), (1, .long x)]) hx hb dJ7_fill_d0a16_4 hl (by decide) rfl (fun ls hl => ?_)
  refine lpw (I := fun i H locs ls => Wd g (va_A [(a, aJ g n f)] sz) s.heap [(a, aJ g n (fun j => if j < i then x else f j))] H locs ∧ lv_has ls 5 [(0, .ref a), (1, .long x), (3, .int (nI i)), (4, .int (nI n))]) (n) ?_ ?_ (0) (by omega) ⟨(by simpa using hw), (lv_sub hl [2, 3, 1, 0] rfl)⟩
  · intro H locs ls hI
    obtain ⟨hw, hl⟩ := hI
    refine lv_iload_n hx hb dJ7_fill_d0a16_6 rfl (lv_at hl 2 rfl) ?_
    refine lv_iload hx hb dJ7_fill_d0a16_7 (lv_at hl 3 rfl) ?_
    refine n_cge (tgt := 22) hx hb (by omega) (by omega) dJ7_fill_d0a16_9 (by decide) (fun c_1 => ?_) (fun c_1 => ?_)
    · skip
      exact r_vret C hw (Nat.le_refl _) (Nat.le_refl _) (rfl) dJ7_fill_d0a16_22
    · skip
      exfalso; omega
  · intro i H locs ls hi hI K
    obtain ⟨hw, hl⟩ := hI
    refine lv_iload_n hx hb dJ7_fill_d0a16_6 rfl (lv_at hl 2 rfl) ?_
    refine lv_iload hx hb dJ7_fill_d0a16_7 (lv_at hl 3 rfl) ?_
    refine n_cge (tgt := 22) hx hb (by omega) (by omega) dJ7_fill_d0a16_9 (by decide) (fun c_2 => ?_) (fun c_2 => ?_)
    · skip
      exfalso; omega
    · skip
      refine lv_aload_n hx hb dJ7_fill_d0a16_12 rfl (lv_at hl 0 rfl) ?_
      refine lv_iload_n hx hb dJ7_fill_d0a16_13 rfl (lv_at hl 2 rfl) ?_
      refine lv_lload_n hx hb dJ7_fill_d0a16_14 rfl (lv_at hl 1 rfl) ?_
      refine r_last C hw 0 rfl (by omega) (by omega) (ws' := [(a, aJ g n (vp_updL (fun j => if j < i then x else f j) i (x)))]) rfl dJ7_fill_d0a16_15 (fun H locs hw => ?_)
      refine lv_iinc (v := (nI (i + 1))) (lv' := [(3, .int (nI (i + 1))), (0, .ref a), (1, .long x), (4, .int (nI n))]) hx hb dJ7_fill_d0a16_16 hl (k := 2) rfl (nI_add _ _) (by decide) rfl (fun ls hl => ?_)
      refine lv_goto (tgt := 6) hx hb dJ7_fill_d0a16_19 (by decide) ?_
      exact K _ _ _ ⟨(by rw [fillJ_s] at hw; exact hw), (lv_sub hl [1, 2, 0, 3] rfl)⟩
abbrev rm_c_bitCount : Room := { frames := 0, cells := 0, slots := 0, locals := 0 }
set_option maxHeartbeats 4000000 in
set_option maxRecDepth 100000 in
theorem c_bitCount (l : Launch) (g : GT) (sz : Nat) (x : Int32) : CtI l g yJ6_bitCount_0f7a4 wsJ6_bitCount_0f7a4 rm_c_bitCount [.int x] [] sz (fun _ => True) (fun r u => r = bcI x ∧ u = []) (0) (0) := by
  refine ct_body (cc := cJ6_bitCount_0f7a4) (nL := 1) (ret := (some .int)) (by decide) rfl (Nat.le_of_ble_eq_true rfl) ?_
  intro p e s m below meth c ls C hin hsz hB hw hl
  obtain ⟨hx, hb, hml, hown, hts, hK, hA, hr, hlk⟩ := id C
  have hl : lv_has ls 1 [(0, .int x)] := hl
  have hw : Wd g (va_A [] sz) s.heap [] s.heap [] := hw
  refine lv_iload_n hx hb dJ6_bitCount_0f7a4_0 rfl (lv_at hl 0 rfl) ?_
  refine lv_iload_n hx hb dJ6_bitCount_0f7a4_1 rfl (lv_at hl 0 rfl) ?_
  refine lv_iconst (v := nI 1) hx hb dJ6_bitCount_0f7a4_2 (by decide) ?_
  refine lv_iushr hx hb dJ6_bitCount_0f7a4_3 rfl ?_
  refine lv_ldcw (v := nI 1431655765) hx hb hown (hts (.constant RJ6 265 (1431655765)) (by decide +kernel)) dJ6_bitCount_0f7a4_4 ?_
  refine lv_iand hx hb dJ6_bitCount_0f7a4_7 ?_
  refine lv_isub hx hb dJ6_bitCount_0f7a4_8 ?_
  refine lv_topi (fun a1 ea1 => ?_)
  refine lv_istore_n (lv' := [(0, .int a1)]) hx hb dJ6_bitCount_0f7a4_9 rfl hl (by decide) rfl (fun ls hl => ?_)
  refine lv_iload_n hx hb dJ6_bitCount_0f7a4_10 rfl (lv_at hl 0 rfl) ?_
  refine lv_ldcw (v := nI 858993459) hx hb hown (hts (.constant RJ6 266 (858993459)) (by decide +kernel)) dJ6_bitCount_0f7a4_11 ?_
  refine lv_iand hx hb dJ6_bitCount_0f7a4_14 ?_
  refine lv_iload_n hx hb dJ6_bitCount_0f7a4_15 rfl (lv_at hl 0 rfl) ?_
  refine lv_iconst (v := nI 2) hx hb dJ6_bitCount_0f7a4_16 (by decide) ?_
  refine lv_iushr hx hb dJ6_bitCount_0f7a4_17 rfl ?_
  refine lv_ldcw (v := nI 858993459) hx hb hown (hts (.constant RJ6 266 (858993459)) (by decide +kernel)) dJ6_bitCount_0f7a4_18 ?_
  refine lv_iand hx hb dJ6_bitCount_0f7a4_21 ?_
  refine lv_iadd hx hb dJ6_bitCount_0f7a4_22 ?_
  refine lv_topi (fun a2 ea2 => ?_)
  refine lv_istore_n (lv' := [(0, .int a2)]) hx hb dJ6_bitCount_0f7a4_23 rfl hl (by decide) rfl (fun ls hl => ?_)
  refine lv_iload_n hx hb dJ6_bitCount_0f7a4_24 rfl (lv_at hl 0 rfl) ?_
  refine lv_iload_n hx hb dJ6_bitCount_0f7a4_25 rfl (lv_at hl 0 rfl) ?_
  refine lv_iconst (v := nI 4) hx hb dJ6_bitCount_0f7a4_26 (by decide) ?_
  refine lv_iushr hx hb dJ6_bitCount_0f7a4_27 rfl ?_
  refine lv_iadd hx hb dJ6_bitCount_0f7a4_28 ?_
  refine lv_ldcw (v := nI 252645135) hx hb hown (hts (.constant RJ6 267 (252645135)) (by decide +kernel)) dJ6_bitCount_0f7a4_29 ?_
  refine lv_iand hx hb dJ6_bitCount_0f7a4_32 ?_
  refine lv_topi (fun a3 ea3 => ?_)
  refine lv_istore_n (lv' := [(0, .int a3)]) hx hb dJ6_bitCount_0f7a4_33 rfl hl (by decide) rfl (fun ls hl => ?_)
  refine lv_iload_n hx hb dJ6_bitCount_0f7a4_34 rfl (lv_at hl 0 rfl) ?_
  refine lv_iload_n hx hb dJ6_bitCount_0f7a4_35 rfl (lv_at hl 0 rfl) ?_
  refine lv_bipush (v := nI 8) hx hb dJ6_bitCount_0f7a4_36 (by decide) ?_
  refine lv_iushr hx hb dJ6_bitCount_0f7a4_38 rfl ?_
  refine lv_iadd hx hb dJ6_bitCount_0f7a4_39 ?_
  refine lv_topi (fun a4 ea4 => ?_)
  refine lv_istore_n (lv' := [(0, .int a4)]) hx hb dJ6_bitCount_0f7a4_40 rfl hl (by decide) rfl (fun ls hl => ?_)
  refine lv_iload_n hx hb dJ6_bitCount_0f7a4_41 rfl (lv_at hl 0 rfl) ?_
  refine lv_iload_n hx hb dJ6_bitCount_0f7a4_42 rfl (lv_at hl 0 rfl) ?_
  refine lv_bipush (v := nI 16) hx hb dJ6_bitCount_0f7a4_43 (by decide) ?_
  refine lv_iushr hx hb dJ6_bitCount_0f7a4_45 rfl ?_
  refine lv_iadd hx hb dJ6_bitCount_0f7a4_46 ?_
  refine lv_topi (fun a5 ea5 => ?_)
  refine lv_istore_n (lv' := [(0, .int a5)]) hx hb dJ6_bitCount_0f7a4_47 rfl hl (by decide) rfl (fun ls hl => ?_)
  refine lv_iload_n hx hb dJ6_bitCount_0f7a4_48 rfl (lv_at hl 0 rfl) ?_
  refine lv_bipush (v := nI 63) hx hb dJ6_bitCount_0f7a4_49 (by decide) ?_
  refine lv_iand hx hb dJ6_bitCount_0f7a4_51 ?_
  exact r_iret C hw (Nat.le_refl _) (Nat.le_refl _) (⟨by subst ea5 ea4 ea3 ea2 ea1; rfl, rfl⟩) dJ6_bitCount_0f7a4_52
abbrev rm_c_layerOf : Room := { frames := 0, cells := 0, slots := 0, locals := 0 }
set_option maxHeartbeats 4000000 in
set_option maxRecDepth 100000 in
theorem c_layerOf (l : Launch) (g : GT) (sz : Nat) (w : Nat) (h0 : w < 2 ^ 32) : CtI l g yX2_layerOf wsX2_layerOf rm_c_layerOf [.int (nI w)] [] sz (fun _ => True) (fun r u => r = nI (layerS w) ∧ u = []) (0) (0) := by
  refine ct_body (cc := cX2_layerOf) (nL := 2) (ret := (some .int)) (by decide) rfl (Nat.le_of_ble_eq_true rfl) ?_
  intro p e s m below meth c ls C hin hsz hB hw hl
  obtain ⟨hx, hb, hml, hown, hts, hK, hA, hr, hlk⟩ := id C
  have hl : lv_has ls 2 [(0, .int (nI w))] := hl
  have hw : Wd g (va_A [] sz) s.heap [] s.heap [] := hw
  refine lv_iload_n hx hb dX2_layerOf_0 rfl (lv_at hl 0 rfl) ?_
  refine lv_bipush (v := nI 17) hx hb dX2_layerOf_1 (by decide) ?_
  refine n_ushr (d := 131072) hx hb (by decide) (by omega) (by omega) dX2_layerOf_3 ?_
  refine lv_iconst (v := nI 3) hx hb dX2_layerOf_4 (by decide) ?_
  refine n_and (d := 4) hx hb 2 (by decide) (by decide) (by omega) (by omega) dX2_layerOf_5 ?_
  refine lv_istore_n (lv' := [(1, .int (nI ((w / 131072) % 4))), (0, .int (nI w))]) hx hb dX2_layerOf_6 rfl hl (by decide) rfl (fun ls hl => ?_)
  refine lv_iload_n hx hb dX2_layerOf_7 rfl (lv_at hl 0 rfl) ?_
  refine lv_iconst (v := nI 2) hx hb dX2_layerOf_8 (by decide) ?_
  refine n_clt (tgt := 18) hx hb (by omega) (by omega) dX2_layerOf_9 (by decide) (fun c_1 => ?_) (fun c_1 => ?_)
  · skip
    refine lv_iconst (v := nI 0) hx hb dX2_layerOf_18 (by decide) ?_
    exact r_iret C hw (Nat.le_refl _) (Nat.le_refl _) (⟨by unfold layerS; (repeat' split) <;> first | rfl | omega | exact congrArg nI (by omega), rfl⟩) dX2_layerOf_19
  · skip
    refine lv_iconst (v := nI 4) hx hb dX2_layerOf_12 (by decide) ?_
    refine lv_iload_n hx hb dX2_layerOf_13 rfl (lv_at hl 0 rfl) ?_
    refine n_sub hx hb dX2_layerOf_14 (by omega) ?_
    refine lv_goto (tgt := 19) hx hb dX2_layerOf_15 (by decide) ?_
    exact r_iret C hw (Nat.le_refl _) (Nat.le_refl _) (⟨by unfold layerS; (repeat' split) <;> first | rfl | omega | exact congrArg nI (by omega), rfl⟩) dX2_layerOf_19
abbrev rm_c_modeOf : Room := { frames := 0, cells := 0, slots := 0, locals := 0 }
set_option maxHeartbeats 4000000 in
set_option maxRecDepth 100000 in
theorem c_modeOf (l : Launch) (g : GT) (sz : Nat) (w : Nat) (h0 : w < 2 ^ 32) : CtI l g yX2_modeOf wsX2_modeOf rm_c_modeOf [.int (nI w)] [] sz (fun _ => True) (fun r u => r = nI (modeS w) ∧ u = []) (0) (0) := by
  refine ct_body (cc := cX2_modeOf) (nL := 1) (ret := (some .int)) (by decide) rfl (Nat.le_of_ble_eq_true rfl) ?_
  intro p e s m below meth c ls C hin hsz hB hw hl
  obtain ⟨hx, hb, hml, hown, hts, hK, hA, hr, hlk⟩ := id C
  have hl : lv_has ls 1 [(0, .int (nI w))] := hl
  have hw : Wd g (va_A [] sz) s.heap [] s.heap [] := hw
  refine lv_iload_n hx hb dX2_modeOf_0 rfl (lv_at hl 0 rfl) ?_
  refine lv_bipush (v := nI 6) hx hb dX2_modeOf_1 (by decide) ?_
  refine n_ushr (d := 64) hx hb (by decide) (by omega) (by omega) dX2_modeOf_3 ?_
  refine lv_iconst (v := nI 3) hx hb dX2_modeOf_4 (by decide) ?_
  refine n_and (d := 4) hx hb 2 (by decide) (by decide) (by omega) (by omega) dX2_modeOf_5 ?_
  exact r_iret C hw (Nat.le_refl _) (Nat.le_refl _) (⟨rfl, rfl⟩) dX2_modeOf_6
abbrev rm_c_samplingOf : Room := { frames := 0, cells := 0, slots := 0, locals := 0 }
set_option maxHeartbeats 4000000 in
set_option maxRecDepth 100000 in
theorem c_samplingOf (l : Launch) (g : GT) (sz : Nat) (tb : Nat → Nat) (w : Nat) (h0 : w < 2 ^ 32) : CtI l g yX2_samplingOf wsX2_samplingOf rm_c_samplingOf [.int (nI w)] [] sz (fun U => Sx tb (va_A [] sz) U U.heap) (fun r u => r = nI (sampS w) ∧ u = []) (0) (0) := by
  refine ct_body (cc := cX2_samplingOf) (nL := 2) (ret := (some .int)) (by decide) rfl (Nat.le_of_ble_eq_true rfl) ?_
  intro p e s m below meth c ls C hin hsz hB hw hl
  obtain ⟨hx, hb, hml, hown, hts, hK, hA, hr, hlk⟩ := id C
  have lk111 := hts (.fieldLink RX2 111 "SoundBench$Frame" "SAMPLINGS" "[I") (by decide +kernel)
  have hl : lv_has ls 2 [(0, .int (nI w))] := hl
  have hw : Wd g (va_A [] sz) s.heap [] s.heap [] := hw
  refine lv_iload_n hx hb dX2_samplingOf_0 rfl (lv_at hl 0 rfl) ?_
  refine lv_bipush (v := nI 10) hx hb dX2_samplingOf_1 (by decide) ?_
  refine n_ushr (d := 1024) hx hb (by decide) (by omega) (by omega) dX2_samplingOf_3 ?_
  refine lv_iconst (v := nI 3) hx hb dX2_samplingOf_4 (by decide) ?_
  refine n_and (d := 4) hx hb 2 (by decide) (by decide) (by omega) (by omega) dX2_samplingOf_5 ?_
  refine lv_istore_n (lv' := [(1, .int (nI ((w / 1024) % 4))), (0, .int (nI w))]) hx hb dX2_samplingOf_6 rfl hl (by decide) rfl (fun ls hl => ?_)
  refine lv_iload_n hx hb dX2_samplingOf_7 rfl (lv_at hl 0 rfl) ?_
  refine r_gs C hw hB 1 (by decide) lk111 dX2_samplingOf_8 ?_
  refine r_tlen C hw hB 1 (by decide) (n := 3) (by decide) dX2_samplingOf_11 ?_
  refine n_cge (tgt := 23) hx hb (by omega) (by omega) dX2_samplingOf_12 (by decide) (fun c_1 => ?_) (fun c_1 => ?_)
  · skip
    refine lv_iconst (v := nI 0) hx hb dX2_samplingOf_23 (by decide) ?_
    exact r_iret C hw (Nat.le_refl _) (Nat.le_refl _) (⟨by unfold sampS; (repeat' split) <;> first | rfl | omega | exact congrArg nI (by omega), rfl⟩) dX2_samplingOf_24
  · skip
    refine r_gs C hw hB 1 (by decide) lk111 dX2_samplingOf_15 ?_
    refine lv_iload_n hx hb dX2_samplingOf_18 rfl (lv_at hl 0 rfl) ?_
    refine r_ti C hw hB 1 (by decide) (show (w / 1024) % 4 < 3 by omega) (by decide) dX2_samplingOf_19 ?_
    refine tp1 (v' := nI (tN 1 ((w / 1024) % 4))) (sV_N 1 (by decide)) ?_
    refine lv_goto (tgt := 24) hx hb dX2_samplingOf_20 (by decide) ?_
    exact r_iret C hw (Nat.le_refl _) (Nat.le_refl _) (⟨by unfold sampS; (repeat' split) <;> first | rfl | omega | exact congrArg nI (by omega), rfl⟩) dX2_samplingOf_24
abbrev rm_c_rateOf : Room := { frames := 1, cells := 0, slots := 0, locals := 21 }
set_option maxHeartbeats 4000000 in
set_option maxRecDepth 100000 in
theorem c_rateOf (l : Launch) (g : GT) (sz : Nat) (tb : Nat → Nat) (w : Nat) (h0 : w < 2 ^ 32) : CtI l g yX2_rateOf wsX2_rateOf rm_c_rateOf [.int (nI w)] [] sz (fun U => Sx tb (va_A [] sz) U U.heap) (fun r u => r = nI (rateS w) ∧ u = []) (0) (0) := by
  refine ct_body (cc := cX2_rateOf) (nL := 2) (ret := (some .int)) (by decide) rfl (Nat.le_of_ble_eq_true rfl) ?_
  intro p e s m below meth c ls C hin hsz hB hw hl
  obtain ⟨hx, hb, hml, hown, hts, hK, hA, hr, hlk⟩ := id C
  have lk114 := hts (.fieldLink RX2 114 "SoundBench$Frame" "LAYER_TWO_RATES" "[I") (by decide +kernel)
  have hl : lv_has ls 2 [(0, .int (nI w))] := hl
  have hw : Wd g (va_A [] sz) s.heap [] s.heap [] := hw
  have h1 := layer_le w
  refine lv_iload_n hx hb dX2_rateOf_0 rfl (lv_at hl 0 rfl) ?_
  refine lv_bipush (v := nI 12) hx hb dX2_rateOf_1 (by decide) ?_
  refine n_ushr (d := 4096) hx hb (by decide) (by omega) (by omega) dX2_rateOf_3 ?_
  refine lv_bipush (v := nI 15) hx hb dX2_rateOf_4 (by decide) ?_
  refine n_and (d := 16) hx hb 4 (by decide) (by decide) (by omega) (by omega) dX2_rateOf_6 ?_
  refine lv_istore_n (lv' := [(1, .int (nI ((w / 4096) % 16))), (0, .int (nI w))]) hx hb dX2_rateOf_7 rfl hl (by decide) rfl (fun ls hl => ?_)
  refine lv_iload_n hx hb dX2_rateOf_8 rfl (lv_at hl 0 rfl) ?_
  refine r_gs C hw hB 0 (by decide) lk114 dX2_rateOf_9 ?_
  refine r_tlen C hw hB 0 (by decide) (n := 15) (by decide) dX2_rateOf_12 ?_
  refine n_clt (tgt := 18) hx hb (by omega) (by omega) dX2_rateOf_13 (by decide) (fun c_1 => ?_) (fun c_1 => ?_)
  · skip
    refine lv_iload_n hx hb dX2_rateOf_18 rfl (lv_at hl 1 rfl) ?_
    refine k_Si (As := [.int (nI w)]) (rest := []) (wr := []) C hw (c_layerOf l g _ w h0) (va_cwS 1 hts gX2_rateOf_X2_layerOf rfl rfl rfl (by decide +kernel) ⟨Nat.le_of_ble_eq_true rfl, Nat.le_of_ble_eq_true rfl⟩) bl_T (fun _ _ _ => trivial) [] [] (by decide) rfl rfl (by decide) (by decide) rfl hl.1 rfl (Nat.le_of_ble_eq_true rfl) dX2_rateOf_19 ⟨Nat.le_of_ble_eq_true rfl, Nat.le_of_ble_eq_true rfl⟩ (fun r_2 u H locs hp hw => ?_)
    obtain ⟨rfl, rfl⟩ := hp
    have hw := Wd.sub (ws' := []) hw [] (by decide) rfl
    refine lv_iconst (v := nI 1) hx hb dX2_rateOf_22 (by decide) ?_
    refine n_cne (tgt := 33) hx hb (by omega) (by omega) dX2_rateOf_23 (by decide) (fun c_3 => ?_) (fun c_3 => ?_)
    · skip
      refine r_gs C hw hB 0 (by decide) lk114 dX2_rateOf_33 ?_
      refine lv_iload_n hx hb dX2_rateOf_36 rfl (lv_at hl 0 rfl) ?_
      refine r_ti C hw hB 0 (by decide) (show (w / 4096) % 16 < 15 by omega) (by decide) dX2_rateOf_37 ?_
      refine tp1 (v' := nI (tN 0 ((w / 4096) % 16))) (sV_N 0 (by decide)) ?_
      exact r_iret C hw (Nat.le_refl _) (Nat.le_refl _) (⟨by unfold rateS; (repeat' split) <;> first | rfl | omega | exact congrArg nI (by omega), rfl⟩) dX2_rateOf_38
    · skip
      refine lv_bipush (v := nI 32) hx hb dX2_rateOf_26 (by decide) ?_
      refine lv_iload_n hx hb dX2_rateOf_28 rfl (lv_at hl 0 rfl) ?_
      refine n_mul hx hb dX2_rateOf_29 ?_
      refine lv_goto (tgt := 38) hx hb dX2_rateOf_30 (by decide) ?_
      exact r_iret C hw (Nat.le_refl _) (Nat.le_refl _) (⟨by unfold rateS; (repeat' split) <;> first | rfl | omega | exact congrArg nI (by omega), rfl⟩) dX2_rateOf_38
  · skip
    refine lv_iconst (v := nI 0) hx hb dX2_rateOf_16 (by decide) ?_
    exact r_iret C hw (Nat.le_refl _) (Nat.le_refl _) (⟨by unfold rateS; (repeat' split) <;> first | rfl | omega | exact congrArg nI (by omega), rfl⟩) dX2_rateOf_17
abbrev rm_c_suitsMode : Room := { frames := 0, cells := 0, slots := 0, locals := 0 }
set_option maxHeartbeats 4000000 in
set_option maxRecDepth 100000 in
theorem c_suitsMode (l : Launch) (g : GT) (sz : Nat) (k md : Nat) (hk : k < 2 ^ 31) (hm : md < 2 ^ 31) : CtI l g yX2_suitsMode wsX2_suitsMode rm_c_suitsMode [.int (nI k), .int (nI md)] [] sz (fun _ => True) (fun r u => r = nI (suitS k md) ∧ u = []) (0) (0) := by
  refine ct_body (cc := cX2_suitsMode) (nL := 2) (ret := (some .boolean)) (by decide) rfl (Nat.le_of_ble_eq_true rfl) ?_
  intro p e s m below meth c ls C hin hsz hB hw hl
  obtain ⟨hx, hb, hml, hown, hts, hK, hA, hr, hlk⟩ := id C
  have hl : lv_has ls 2 [(0, .int (nI k)), (1, .int (nI md))] := hl
  have hw : Wd g (va_A [] sz) s.heap [] s.heap [] := hw
  refine lv_iload_n hx hb dX2_suitsMode_0 rfl (lv_at hl 0 rfl) ?_
  refine lv_bipush (v := nI 32) hx hb dX2_suitsMode_1 (by decide) ?_
  refine n_ceq (tgt := 24) hx hb (by omega) (by omega) dX2_suitsMode_3 (by decide) (fun c_1 => ?_) (fun c_1 => ?_)
  · skip
    refine lv_iload_n hx hb dX2_suitsMode_24 rfl (lv_at hl 1 rfl) ?_
    refine lv_iconst (v := nI 3) hx hb dX2_suitsMode_25 (by decide) ?_
    refine n_cne (tgt := 33) hx hb (by omega) (by omega) dX2_suitsMode_26 (by decide) (fun c_2 => ?_) (fun c_2 => ?_)
    · skip
      refine lv_iconst (v := nI 0) hx hb dX2_suitsMode_33 (by decide) ?_
      exact r_zret C hw (by decide) (Nat.le_refl _) (Nat.le_refl _) (⟨by unfold suitS; (repeat' split) <;> first | rfl | omega | exact congrArg nI (by omega), rfl⟩) dX2_suitsMode_34
    · skip
      refine lv_iconst (v := nI 1) hx hb dX2_suitsMode_29 (by decide) ?_
      refine lv_goto (tgt := 34) hx hb dX2_suitsMode_30 (by decide) ?_
      exact r_zret C hw (by decide) (Nat.le_refl _) (Nat.le_refl _) (⟨by unfold suitS; (repeat' split) <;> first | rfl | omega | exact congrArg nI (by omega), rfl⟩) dX2_suitsMode_34
  · skip
    refine lv_iload_n hx hb dX2_suitsMode_6 rfl (lv_at hl 0 rfl) ?_
    refine lv_bipush (v := nI 48) hx hb dX2_suitsMode_7 (by decide) ?_
    refine n_ceq (tgt := 24) hx hb (by omega) (by omega) dX2_suitsMode_9 (by decide) (fun c_3 => ?_) (fun c_3 => ?_)
    · skip
      refine lv_iload_n hx hb dX2_suitsMode_24 rfl (lv_at hl 1 rfl) ?_
      refine lv_iconst (v := nI 3) hx hb dX2_suitsMode_25 (by decide) ?_
      refine n_cne (tgt := 33) hx hb (by omega) (by omega) dX2_suitsMode_26 (by decide) (fun c_4 => ?_) (fun c_4 => ?_)
      · skip
        refine lv_iconst (v := nI 0) hx hb dX2_suitsMode_33 (by decide) ?_
        exact r_zret C hw (by decide) (Nat.le_refl _) (Nat.le_refl _) (⟨by unfold suitS; (repeat' split) <;> first | rfl | omega | exact congrArg nI (by omega), rfl⟩) dX2_suitsMode_34
      · skip
        refine lv_iconst (v := nI 1) hx hb dX2_suitsMode_29 (by decide) ?_
        refine lv_goto (tgt := 34) hx hb dX2_suitsMode_30 (by decide) ?_
        exact r_zret C hw (by decide) (Nat.le_refl _) (Nat.le_refl _) (⟨by unfold suitS; (repeat' split) <;> first | rfl | omega | exact congrArg nI (by omega), rfl⟩) dX2_suitsMode_34
    · skip
      refine lv_iload_n hx hb dX2_suitsMode_12 rfl (lv_at hl 0 rfl) ?_
      refine lv_bipush (v := nI 56) hx hb dX2_suitsMode_13 (by decide) ?_
      refine n_ceq (tgt := 24) hx hb (by omega) (by omega) dX2_suitsMode_15 (by decide) (fun c_5 => ?_) (fun c_5 => ?_)
      · skip
        refine lv_iload_n hx hb dX2_suitsMode_24 rfl (lv_at hl 1 rfl) ?_
        refine lv_iconst (v := nI 3) hx hb dX2_suitsMode_25 (by decide) ?_
        refine n_cne (tgt := 33) hx hb (by omega) (by omega) dX2_suitsMode_26 (by decide) (fun c_6 => ?_) (fun c_6 => ?_)
        · skip
          refine lv_iconst (v := nI 0) hx hb dX2_suitsMode_33 (by decide) ?_
          exact r_zret C hw (by decide) (Nat.le_refl _) (Nat.le_refl _) (⟨by unfold suitS; (repeat' split) <;> first | rfl | omega | exact congrArg nI (by omega), rfl⟩) dX2_suitsMode_34
        · skip
          refine lv_iconst (v := nI 1) hx hb dX2_suitsMode_29 (by decide) ?_
          refine lv_goto (tgt := 34) hx hb dX2_suitsMode_30 (by decide) ?_
          exact r_zret C hw (by decide) (Nat.le_refl _) (Nat.le_refl _) (⟨by unfold suitS; (repeat' split) <;> first | rfl | omega | exact congrArg nI (by omega), rfl⟩) dX2_suitsMode_34
      · skip
        refine lv_iload_n hx hb dX2_suitsMode_18 rfl (lv_at hl 0 rfl) ?_
        refine lv_bipush (v := nI 80) hx hb dX2_suitsMode_19 (by decide) ?_
        refine n_cne (tgt := 35) hx hb (by omega) (by omega) dX2_suitsMode_21 (by decide) (fun c_7 => ?_) (fun c_7 => ?_)
        · skip
          refine lv_iload_n hx hb dX2_suitsMode_35 rfl (lv_at hl 0 rfl) ?_
          refine lv_sipush (v := nI 224) hx hb dX2_suitsMode_36 (by decide) ?_
          refine n_clt (tgt := 47) hx hb (by omega) (by omega) dX2_suitsMode_39 (by decide) (fun c_8 => ?_) (fun c_8 => ?_)
          · skip
            refine lv_iconst (v := nI 1) hx hb dX2_suitsMode_47 (by decide) ?_
            refine lv_goto (tgt := 52) hx hb dX2_suitsMode_48 (by decide) ?_
            exact r_zret C hw (by decide) (Nat.le_refl _) (Nat.le_refl _) (⟨by unfold suitS; (repeat' split) <;> first | rfl | omega | exact congrArg nI (by omega), rfl⟩) dX2_suitsMode_52
          · skip
            refine lv_iload_n hx hb dX2_suitsMode_42 rfl (lv_at hl 1 rfl) ?_
            refine lv_iconst (v := nI 3) hx hb dX2_suitsMode_43 (by decide) ?_
            refine n_ceq (tgt := 51) hx hb (by omega) (by omega) dX2_suitsMode_44 (by decide) (fun c_9 => ?_) (fun c_9 => ?_)
            · skip
              refine lv_iconst (v := nI 0) hx hb dX2_suitsMode_51 (by decide) ?_
              exact r_zret C hw (by decide) (Nat.le_refl _) (Nat.le_refl _) (⟨by unfold suitS; (repeat' split) <;> first | rfl | omega | exact congrArg nI (by omega), rfl⟩) dX2_suitsMode_52
            · skip
              refine lv_iconst (v := nI 1) hx hb dX2_suitsMode_47 (by decide) ?_
              refine lv_goto (tgt := 52) hx hb dX2_suitsMode_48 (by decide) ?_
              exact r_zret C hw (by decide) (Nat.le_refl _) (Nat.le_refl _) (⟨by unfold suitS; (repeat' split) <;> first | rfl | omega | exact congrArg nI (by omega), rfl⟩) dX2_suitsMode_52
        · skip
          refine lv_iload_n hx hb dX2_suitsMode_24 rfl (lv_at hl 1 rfl) ?_
          refine lv_iconst (v := nI 3) hx hb dX2_suitsMode_25 (by decide) ?_
          refine n_cne (tgt := 33) hx hb (by omega) (by omega) dX2_suitsMode_26 (by decide) (fun c_10 => ?_) (fun c_10 => ?_)
          · skip
            refine lv_iconst (v := nI 0) hx hb dX2_suitsMode_33 (by decide) ?_
            exact r_zret C hw (by decide) (Nat.le_refl _) (Nat.le_refl _) (⟨by unfold suitS; (repeat' split) <;> first | rfl | omega | exact congrArg nI (by omega), rfl⟩) dX2_suitsMode_34
          · skip
            refine lv_iconst (v := nI 1) hx hb dX2_suitsMode_29 (by decide) ?_
            refine lv_goto (tgt := 34) hx hb dX2_suitsMode_30 (by decide) ?_
            exact r_zret C hw (by decide) (Nat.le_refl _) (Nat.le_refl _) (⟨by unfold suitS; (repeat' split) <;> first | rfl | omega | exact congrArg nI (by omega), rfl⟩) dX2_suitsMode_34
abbrev rm_c_bytesOf : Room := { frames := 0, cells := 0, slots := 0, locals := 0 }
set_option maxHeartbeats 4000000 in
set_option maxRecDepth 100000 in
theorem c_bytesOf (l : Launch) (g : GT) (sz : Nat) (ly k sp pad : Nat) (h1 : ly < 2 ^ 31) (h2 : k ≤ 480) (h3 : sp < 2 ^ 31) (h4 : pad ≤ 1) : CtI l g yX2_bytesOf wsX2_bytesOf rm_c_bytesOf [.int (nI ly), .int (nI k), .int (nI sp), .int (nI pad)] [] sz (fun _ => True) (fun r u => r = nI (bytesS ly k sp pad) ∧ u = []) (0) (0) := by
  refine ct_body (cc := cX2_bytesOf) (nL := 4) (ret := (some .int)) (by decide) rfl (Nat.le_of_ble_eq_true rfl) ?_
  intro p e s m below meth c ls C hin hsz hB hw hl
  obtain ⟨hx, hb, hml, hown, hts, hK, hA, hr, hlk⟩ := id C
  have hl : lv_has ls 4 [(0, .int (nI ly)), (1, .int (nI k)), (2, .int (nI sp)), (3, .int (nI pad))] := hl
  have hw : Wd g (va_A [] sz) s.heap [] s.heap [] := hw
  refine lv_iload_n hx hb dX2_bytesOf_0 rfl (lv_at hl 2 rfl) ?_
  refine n_gt0 (tgt := 6) hx hb (by omega) dX2_bytesOf_1 (by decide) (fun c_1 => ?_) (fun c_1 => ?_)
  · skip
    refine lv_iload_n hx hb dX2_bytesOf_6 rfl (lv_at hl 0 rfl) ?_
    refine lv_iconst (v := nI 1) hx hb dX2_bytesOf_7 (by decide) ?_
    refine n_cne (tgt := 23) hx hb (by omega) (by omega) dX2_bytesOf_8 (by decide) (fun c_2 => ?_) (fun c_2 => ?_)
    · skip
      refine lv_ldc (v := nI 144000) hx hb hown (hts (.constant RX2 117 (144000)) (by decide +kernel)) dX2_bytesOf_23 ?_
      refine lv_iload_n hx hb dX2_bytesOf_25 rfl (lv_at hl 1 rfl) ?_
      refine n_mul hx hb dX2_bytesOf_26 ?_
      refine lv_iload_n hx hb dX2_bytesOf_27 rfl (lv_at hl 2 rfl) ?_
      refine n_div hx hb dX2_bytesOf_28 (by omega) (by omega) (by omega) ?_
      refine lv_iload_n hx hb dX2_bytesOf_29 rfl (lv_at hl 3 rfl) ?_
      refine n_add hx hb dX2_bytesOf_30 ?_
      exact r_iret C hw (Nat.le_refl _) (Nat.le_refl _) (⟨by unfold bytesS; (repeat' split) <;> first | rfl | omega | exact congrArg nI (by omega), rfl⟩) dX2_bytesOf_31
    · skip
      refine lv_iconst (v := nI 4) hx hb dX2_bytesOf_11 (by decide) ?_
      refine lv_sipush (v := nI 12000) hx hb dX2_bytesOf_12 (by decide) ?_
      refine lv_iload_n hx hb dX2_bytesOf_15 rfl (lv_at hl 1 rfl) ?_
      refine n_mul hx hb dX2_bytesOf_16 ?_
      refine lv_iload_n hx hb dX2_bytesOf_17 rfl (lv_at hl 2 rfl) ?_
      refine n_div hx hb dX2_bytesOf_18 (by omega) (by omega) (by omega) ?_
      refine lv_iload_n hx hb dX2_bytesOf_19 rfl (lv_at hl 3 rfl) ?_
      refine n_add hx hb dX2_bytesOf_20 ?_
      refine n_mul hx hb dX2_bytesOf_21 ?_
      exact r_iret C hw (Nat.le_refl _) (Nat.le_refl _) (⟨by unfold bytesS; (repeat' split) <;> first | rfl | omega | exact congrArg nI (by omega), rfl⟩) dX2_bytesOf_22
  · skip
    refine lv_iconst (v := nI 0) hx hb dX2_bytesOf_4 (by decide) ?_
    exact r_iret C hw (Nat.le_refl _) (Nat.le_refl _) (⟨by unfold bytesS; (repeat' split) <;> first | rfl | omega | exact congrArg nI (by omega), rfl⟩) dX2_bytesOf_5
abbrev rm_c_layerTwoBands : Room := { frames := 0, cells := 0, slots := 0, locals := 0 }
set_option maxHeartbeats 4000000 in
set_option maxRecDepth 100000 in
theorem c_layerTwoBands (l : Launch) (g : GT) (sz : Nat) (k sp : Nat) (h1 : k < 2 ^ 31) (h3 : sp < 2 ^ 31) : CtI l g yX2_layerTwoBands wsX2_layerTwoBands rm_c_layerTwoBands [.int (nI k), .int (nI sp)] [] sz (fun _ => True) (fun r u => r = nI (twoB k sp) ∧ u = []) (0) (0) := by
  refine ct_body (cc := cX2_layerTwoBands) (nL := 2) (ret := (some .int)) (by decide) rfl (Nat.le_of_ble_eq_true rfl) ?_
  intro p e s m below meth c ls C hin hsz hB hw hl
  obtain ⟨hx, hb, hml, hown, hts, hK, hA, hr, hlk⟩ := id C
  have hl : lv_has ls 2 [(0, .int (nI k)), (1, .int (nI sp))] := hl
  have hw : Wd g (va_A [] sz) s.heap [] s.heap [] := hw
  refine lv_iload_n hx hb dX2_layerTwoBands_0 rfl (lv_at hl 0 rfl) ?_
  refine lv_bipush (v := nI 56) hx hb dX2_layerTwoBands_1 (by decide) ?_
  refine n_clt (tgt := 26) hx hb (by omega) (by omega) dX2_layerTwoBands_3 (by decide) (fun c_1 => ?_) (fun c_1 => ?_)
  · skip
    refine lv_iload_n hx hb dX2_layerTwoBands_26 rfl (lv_at hl 1 rfl) ?_
    refine lv_sipush (v := nI 32000) hx hb dX2_layerTwoBands_27 (by decide) ?_
    refine n_cne (tgt := 38) hx hb (by omega) (by omega) dX2_layerTwoBands_30 (by decide) (fun c_2 => ?_) (fun c_2 => ?_)
    · skip
      refine lv_bipush (v := nI 8) hx hb dX2_layerTwoBands_38 (by decide) ?_
      exact r_iret C hw (Nat.le_refl _) (Nat.le_refl _) (⟨by unfold twoB; (repeat' split) <;> first | rfl | omega | exact congrArg nI (by omega), rfl⟩) dX2_layerTwoBands_40
    · skip
      refine lv_bipush (v := nI 12) hx hb dX2_layerTwoBands_33 (by decide) ?_
      refine lv_goto (tgt := 40) hx hb dX2_layerTwoBands_35 (by decide) ?_
      exact r_iret C hw (Nat.le_refl _) (Nat.le_refl _) (⟨by unfold twoB; (repeat' split) <;> first | rfl | omega | exact congrArg nI (by omega), rfl⟩) dX2_layerTwoBands_40
  · skip
    refine lv_iload_n hx hb dX2_layerTwoBands_6 rfl (lv_at hl 0 rfl) ?_
    refine lv_bipush (v := nI 80) hx hb dX2_layerTwoBands_7 (by decide) ?_
    refine n_cle (tgt := 18) hx hb (by omega) (by omega) dX2_layerTwoBands_9 (by decide) (fun c_3 => ?_) (fun c_3 => ?_)
    · skip
      refine lv_bipush (v := nI 27) hx hb dX2_layerTwoBands_18 (by decide) ?_
      refine lv_goto (tgt := 25) hx hb dX2_layerTwoBands_20 (by decide) ?_
      exact r_iret C hw (Nat.le_refl _) (Nat.le_refl _) (⟨by unfold twoB; (repeat' split) <;> first | rfl | omega | exact congrArg nI (by omega), rfl⟩) dX2_layerTwoBands_25
    · skip
      refine lv_iload_n hx hb dX2_layerTwoBands_12 rfl (lv_at hl 1 rfl) ?_
      refine lv_ldc (v := nI 48000) hx hb hown (hts (.constant RX2 118 (48000)) (by decide +kernel)) dX2_layerTwoBands_13 ?_
      refine n_cne (tgt := 23) hx hb (by omega) (by omega) dX2_layerTwoBands_15 (by decide) (fun c_4 => ?_) (fun c_4 => ?_)
      · skip
        refine lv_bipush (v := nI 30) hx hb dX2_layerTwoBands_23 (by decide) ?_
        exact r_iret C hw (Nat.le_refl _) (Nat.le_refl _) (⟨by unfold twoB; (repeat' split) <;> first | rfl | omega | exact congrArg nI (by omega), rfl⟩) dX2_layerTwoBands_25
      · skip
        refine lv_bipush (v := nI 27) hx hb dX2_layerTwoBands_18 (by decide) ?_
        refine lv_goto (tgt := 25) hx hb dX2_layerTwoBands_20 (by decide) ?_
        exact r_iret C hw (Nat.le_refl _) (Nat.le_refl _) (⟨by unfold twoB; (repeat' split) <;> first | rfl | omega | exact congrArg nI (by omega), rfl⟩) dX2_layerTwoBands_25
abbrev rm_c_isGood : Room := { frames := 2, cells := 0, slots := 0, locals := 42 }
set_option maxHeartbeats 4000000 in
set_option maxRecDepth 100000 in
theorem c_isGood (l : Launch) (g : GT) (sz : Nat) (tb : Nat → Nat) (w : Nat) (h0 : w < 2 ^ 32) : CtI l g yX2_isGood wsX2_isGood rm_c_isGood [.int (nI w)] [] sz (fun U => Sx tb (va_A [] sz) U U.heap) (fun r u => r = nI (goodS w) ∧ u = []) (0) (0) := by
  refine ct_body (cc := cX2_isGood) (nL := 3) (ret := (some .boolean)) (by decide) rfl (Nat.le_of_ble_eq_true rfl) ?_
  intro p e s m below meth c ls C hin hsz hB hw hl
  obtain ⟨hx, hb, hml, hown, hts, hK, hA, hr, hlk⟩ := id C
  have hl : lv_has ls 3 [(0, .int (nI w))] := hl
  have hw : Wd g (va_A [] sz) s.heap [] s.heap [] := hw
  have h1 := layer_le w
  have h2 := samp_le w
  have h3 := rate_le w
  have h4 := mode_le w
  have h5 := suit_le (rateS w) (modeS w)
  refine lv_iload_n hx hb dX2_isGood_0 rfl (lv_at hl 0 rfl) ?_
  refine lv_bipush (v := nI 20) hx hb dX2_isGood_1 (by decide) ?_
  refine n_ushr (d := 1048576) hx hb (by decide) (by omega) (by omega) dX2_isGood_3 ?_
  refine lv_sipush (v := nI 4095) hx hb dX2_isGood_4 (by decide) ?_
  refine n_cne (tgt := 24) hx hb (by omega) (by omega) dX2_isGood_7 (by decide) (fun c_1 => ?_) (fun c_1 => ?_)
  · skip
    refine lv_iconst (v := nI 0) hx hb dX2_isGood_24 (by decide) ?_
    refine lv_istore_n (lv' := [(1, .int (nI 0)), (0, .int (nI w))]) hx hb dX2_isGood_25 rfl hl (by decide) rfl (fun ls hl => ?_)
    refine lv_iload_n hx hb dX2_isGood_26 rfl (lv_at hl 0 rfl) ?_
    refine lv_if_eq (tgt := 51) hx hb dX2_isGood_27 (by decide) (fun c_2 => ?_) (fun c_2 => ?_)
    rotate_left
    · exact absurd (by decide) c_2
    refine lv_iconst (v := nI 0) hx hb dX2_isGood_51 (by decide) ?_
    exact r_zret C hw (by decide) (Nat.le_refl _) (Nat.le_refl _) (⟨by unfold goodS; (repeat' split) <;> first | rfl | omega | exact congrArg nI (by omega), rfl⟩) dX2_isGood_52
  · skip
    refine lv_iload_n hx hb dX2_isGood_10 rfl (lv_at hl 0 rfl) ?_
    refine lv_bipush (v := nI 19) hx hb dX2_isGood_11 (by decide) ?_
    refine n_ushr (d := 524288) hx hb (by decide) (by omega) (by omega) dX2_isGood_13 ?_
    refine lv_iconst (v := nI 1) hx hb dX2_isGood_14 (by decide) ?_
    refine n_and (d := 2) hx hb 1 (by decide) (by decide) (by omega) (by omega) dX2_isGood_15 ?_
    refine lv_iconst (v := nI 1) hx hb dX2_isGood_16 (by decide) ?_
    refine n_cne (tgt := 24) hx hb (by omega) (by omega) dX2_isGood_17 (by decide) (fun c_3 => ?_) (fun c_3 => ?_)
    · skip
      refine lv_iconst (v := nI 0) hx hb dX2_isGood_24 (by decide) ?_
      refine lv_istore_n (lv' := [(1, .int (nI 0)), (0, .int (nI w))]) hx hb dX2_isGood_25 rfl hl (by decide) rfl (fun ls hl => ?_)
      refine lv_iload_n hx hb dX2_isGood_26 rfl (lv_at hl 0 rfl) ?_
      refine lv_if_eq (tgt := 51) hx hb dX2_isGood_27 (by decide) (fun c_4 => ?_) (fun c_4 => ?_)
      rotate_left
      · exact absurd (by decide) c_4
      refine lv_iconst (v := nI 0) hx hb dX2_isGood_51 (by decide) ?_
      exact r_zret C hw (by decide) (Nat.le_refl _) (Nat.le_refl _) (⟨by unfold goodS; (repeat' split) <;> first | rfl | omega | exact congrArg nI (by omega), rfl⟩) dX2_isGood_52
    · skip
      refine lv_iconst (v := nI 1) hx hb dX2_isGood_20 (by decide) ?_
      refine lv_goto (tgt := 25) hx hb dX2_isGood_21 (by decide) ?_
      refine lv_istore_n (lv' := [(1, .int (nI 1)), (0, .int (nI w))]) hx hb dX2_isGood_25 rfl hl (by decide) rfl (fun ls hl => ?_)
      refine lv_iload_n hx hb dX2_isGood_26 rfl (lv_at hl 0 rfl) ?_
      refine lv_if_eq (tgt := 51) hx hb dX2_isGood_27 (by decide) (fun c_5 => ?_) (fun c_5 => ?_)
      · exact absurd c_5 (by decide)
      refine lv_iload_n hx hb dX2_isGood_30 rfl (lv_at hl 1 rfl) ?_
      refine k_Si (As := [.int (nI w)]) (rest := []) (wr := []) C hw (c_layerOf l g _ w h0) (va_cwS 1 hts gX2_isGood_X2_layerOf rfl rfl rfl (by decide +kernel) ⟨Nat.le_of_ble_eq_true rfl, Nat.le_of_ble_eq_true rfl⟩) bl_T (fun _ _ _ => trivial) [] [] (by decide) rfl rfl (by decide) (by decide) rfl hl.1 rfl (Nat.le_of_ble_eq_true rfl) dX2_isGood_31 ⟨Nat.le_of_ble_eq_true rfl, Nat.le_of_ble_eq_true rfl⟩ (fun r_6 u H locs hp hw => ?_)
      obtain ⟨rfl, rfl⟩ := hp
      have hw := Wd.sub (ws' := []) hw [] (by decide) rfl
      refine n_eq0 (tgt := 51) hx hb (by omega) dX2_isGood_34 (by decide) (fun c_7 => ?_) (fun c_7 => ?_)
      · skip
        refine lv_iconst (v := nI 0) hx hb dX2_isGood_51 (by decide) ?_
        exact r_zret C hw (by decide) (Nat.le_refl _) (Nat.le_refl _) (⟨by unfold goodS; (repeat' split) <;> first | rfl | omega | exact congrArg nI (by omega), rfl⟩) dX2_isGood_52
      · skip
        refine lv_iload_n hx hb dX2_isGood_37 rfl (lv_at hl 1 rfl) ?_
        refine k_Si (As := [.int (nI w)]) (rest := []) (wr := []) C hw (c_samplingOf l g _ tb w h0) (va_cwS 1 hts gX2_isGood_X2_samplingOf rfl rfl rfl (by decide +kernel) ⟨Nat.le_of_ble_eq_true rfl, Nat.le_of_ble_eq_true rfl⟩) sx_bl (sx_call C hw hB [] rfl) [] [] (by decide) rfl rfl (by decide) (by decide) rfl hl.1 rfl (Nat.le_of_ble_eq_true rfl) dX2_isGood_38 ⟨Nat.le_of_ble_eq_true rfl, Nat.le_of_ble_eq_true rfl⟩ (fun r_8 u H locs hp hw => ?_)
        obtain ⟨rfl, rfl⟩ := hp
        have hw := Wd.sub (ws' := []) hw [] (by decide) rfl
        refine n_eq0 (tgt := 51) hx hb (by omega) dX2_isGood_41 (by decide) (fun c_9 => ?_) (fun c_9 => ?_)
        · skip
          refine lv_iconst (v := nI 0) hx hb dX2_isGood_51 (by decide) ?_
          exact r_zret C hw (by decide) (Nat.le_refl _) (Nat.le_refl _) (⟨by unfold goodS; (repeat' split) <;> first | rfl | omega | exact congrArg nI (by omega), rfl⟩) dX2_isGood_52
        · skip
          refine lv_iload_n hx hb dX2_isGood_44 rfl (lv_at hl 1 rfl) ?_
          refine lv_iconst (v := nI 3) hx hb dX2_isGood_45 (by decide) ?_
          refine n_and (d := 4) hx hb 2 (by decide) (by decide) (by omega) (by omega) dX2_isGood_46 ?_
          refine lv_iconst (v := nI 2) hx hb dX2_isGood_47 (by decide) ?_
          refine n_cne (tgt := 53) hx hb (by omega) (by omega) dX2_isGood_48 (by decide) (fun c_10 => ?_) (fun c_10 => ?_)
          · skip
            refine lv_iload_n hx hb dX2_isGood_53 rfl (lv_at hl 1 rfl) ?_
            refine k_Si (As := [.int (nI w)]) (rest := []) (wr := []) C hw (c_rateOf l g _ tb w h0) (va_cwS 1 hts gX2_isGood_X2_rateOf rfl rfl rfl (by decide +kernel) ⟨Nat.le_of_ble_eq_true rfl, Nat.le_of_ble_eq_true rfl⟩) sx_bl (sx_call C hw hB [] rfl) [] [] (by decide) rfl rfl (by decide) (by decide) rfl hl.1 rfl (Nat.le_of_ble_eq_true rfl) dX2_isGood_54 ⟨Nat.le_of_ble_eq_true rfl, Nat.le_of_ble_eq_true rfl⟩ (fun r_11 u H locs hp hw => ?_)
            obtain ⟨rfl, rfl⟩ := hp
            have hw := Wd.sub (ws' := []) hw [] (by decide) rfl
            refine lv_istore_n (lv' := [(2, .int (nI (rateS w))), (1, .int (nI 1)), (0, .int (nI w))]) hx hb dX2_isGood_57 rfl hl (by decide) rfl (fun ls hl => ?_)
            refine lv_iload_n hx hb dX2_isGood_58 rfl (lv_at hl 0 rfl) ?_
            refine n_eq0 (tgt := 85) hx hb (by omega) dX2_isGood_59 (by decide) (fun c_12 => ?_) (fun c_12 => ?_)
            · skip
              refine lv_iconst (v := nI 0) hx hb dX2_isGood_85 (by decide) ?_
              exact r_zret C hw (by decide) (Nat.le_refl _) (Nat.le_refl _) (⟨by unfold goodS; (repeat' split) <;> first | rfl | omega | exact congrArg nI (by omega), rfl⟩) dX2_isGood_86
            · skip
              refine lv_iload_n hx hb dX2_isGood_62 rfl (lv_at hl 2 rfl) ?_
              refine k_Si (As := [.int (nI w)]) (rest := []) (wr := []) C hw (c_layerOf l g _ w h0) (va_cwS 1 hts gX2_isGood_X2_layerOf rfl rfl rfl (by decide +kernel) ⟨Nat.le_of_ble_eq_true rfl, Nat.le_of_ble_eq_true rfl⟩) bl_T (fun _ _ _ => trivial) [] [] (by decide) rfl rfl (by decide) (by decide) rfl hl.1 rfl (Nat.le_of_ble_eq_true rfl) dX2_isGood_63 ⟨Nat.le_of_ble_eq_true rfl, Nat.le_of_ble_eq_true rfl⟩ (fun r_13 u H locs hp hw => ?_)
              obtain ⟨rfl, rfl⟩ := hp
              have hw := Wd.sub (ws' := []) hw [] (by decide) rfl
              refine lv_iconst (v := nI 1) hx hb dX2_isGood_66 (by decide) ?_
              refine n_ceq (tgt := 81) hx hb (by omega) (by omega) dX2_isGood_67 (by decide) (fun c_14 => ?_) (fun c_14 => ?_)
              · skip
                refine lv_iconst (v := nI 1) hx hb dX2_isGood_81 (by decide) ?_
                refine lv_goto (tgt := 86) hx hb dX2_isGood_82 (by decide) ?_
                exact r_zret C hw (by decide) (Nat.le_refl _) (Nat.le_refl _) (⟨by unfold goodS; (repeat' split) <;> first | rfl | omega | exact congrArg nI (by omega), rfl⟩) dX2_isGood_86
              · skip
                refine lv_iload_n hx hb dX2_isGood_70 rfl (lv_at hl 0 rfl) ?_
                refine lv_iload_n hx hb dX2_isGood_71 rfl (lv_at hl 2 rfl) ?_
                refine k_Si (As := [.int (nI w)]) (rest := [.int (nI (rateS w))]) (wr := []) C hw (c_modeOf l g _ w h0) (va_cwS 1 hts gX2_isGood_X2_modeOf rfl rfl rfl (by decide +kernel) ⟨Nat.le_of_ble_eq_true rfl, Nat.le_of_ble_eq_true rfl⟩) bl_T (fun _ _ _ => trivial) [] [] (by decide) rfl rfl (by decide) (by decide) rfl hl.1 rfl (Nat.le_of_ble_eq_true rfl) dX2_isGood_72 ⟨Nat.le_of_ble_eq_true rfl, Nat.le_of_ble_eq_true rfl⟩ (fun r_15 u H locs hp hw => ?_)
                obtain ⟨rfl, rfl⟩ := hp
                have hw := Wd.sub (ws' := []) hw [] (by decide) rfl
                refine k_Si (As := [.int (nI (rateS w)), .int (nI (modeS w))]) (rest := []) (wr := []) C hw (c_suitsMode l g _ (rateS w) (modeS w) (by omega) (by omega)) (va_cwS 2 hts gX2_isGood_X2_suitsMode rfl rfl rfl (by decide +kernel) ⟨Nat.le_of_ble_eq_true rfl, Nat.le_of_ble_eq_true rfl⟩) bl_T (fun _ _ _ => trivial) [] [] (by decide) rfl rfl (by decide) (by decide) rfl hl.1 rfl (Nat.le_of_ble_eq_true rfl) dX2_isGood_75 ⟨Nat.le_of_ble_eq_true rfl, Nat.le_of_ble_eq_true rfl⟩ (fun r_16 u H locs hp hw => ?_)
                obtain ⟨rfl, rfl⟩ := hp
                have hw := Wd.sub (ws' := []) hw [] (by decide) rfl
                refine n_eq0 (tgt := 85) hx hb (by omega) dX2_isGood_78 (by decide) (fun c_17 => ?_) (fun c_17 => ?_)
                · skip
                  refine lv_iconst (v := nI 0) hx hb dX2_isGood_85 (by decide) ?_
                  exact r_zret C hw (by decide) (Nat.le_refl _) (Nat.le_refl _) (⟨by unfold goodS; (repeat' split) <;> first | rfl | omega | exact congrArg nI (by omega), rfl⟩) dX2_isGood_86
                · skip
                  refine lv_iconst (v := nI 1) hx hb dX2_isGood_81 (by decide) ?_
                  refine lv_goto (tgt := 86) hx hb dX2_isGood_82 (by decide) ?_
                  exact r_zret C hw (by decide) (Nat.le_refl _) (Nat.le_refl _) (⟨by unfold goodS; (repeat' split) <;> first | rfl | omega | exact congrArg nI (by omega), rfl⟩) dX2_isGood_86
          · skip
            refine lv_iconst (v := nI 0) hx hb dX2_isGood_51 (by decide) ?_
            exact r_zret C hw (by decide) (Nat.le_refl _) (Nat.le_refl _) (⟨by unfold goodS; (repeat' split) <;> first | rfl | omega | exact congrArg nI (by omega), rfl⟩) dX2_isGood_52
