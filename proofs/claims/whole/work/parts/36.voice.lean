abbrev rm_c_quarterAt : Room := { frames := 0, cells := 0, slots := 0, locals := 0 }
set_option maxHeartbeats 4000000 in
set_option maxRecDepth 100000 in
theorem c_quarterAt (l : Launch) (g : GT) (sz : Nat) (tb : Nat → Nat) (n_ : Nat) (h : n_ ≤ 32) : CtI l g yX5_quarterAt wsX5_quarterAt rm_c_quarterAt [.int (nI n_)] [] sz (fun U => Sx tb (va_A [] sz) U U.heap) (fun rr u => rr = nI (tN 9 n_) ∧ u = []) (0) (0) := by
  refine ct_body (cc := cX5_quarterAt) (nL := 1) (ret := (some .int)) (by decide) rfl (Nat.le_of_ble_eq_true rfl) ?_
  intro p e s m below meth c ls C hin hsz hB hw hl
  obtain ⟨hx, hb, hml, hown, hts, hK, hA, hr, hlk⟩ := id C
  have lk26 := hts (.fieldLink RX5 26 "SoundBench$Waves" "QUARTER" "[I") (by decide +kernel)
  have hl : lv_has ls 1 [(0, .int (nI n_))] := hl
  have hw : Wd g (va_A [] sz) s.heap [] s.heap [] := hw
  refine lv_iload_n hx hb dX5_quarterAt_0 rfl (lv_at hl 0 rfl) ?_
  refine n_lt0 (tgt := 20) hx hb (by omega) dX5_quarterAt_1 (by decide) ?_
  refine lv_iload_n hx hb dX5_quarterAt_4 rfl (lv_at hl 0 rfl) ?_
  refine r_gs C hw hB 9 (by decide) lk26 dX5_quarterAt_5 ?_
  refine r_tlen C hw hB 9 (by decide) (n := 33) (by decide) dX5_quarterAt_8 ?_
  refine n_cge (tgt := 20) hx hb (by omega) (by omega) dX5_quarterAt_9 (by decide) (fun c_2 => ?_) (fun c_2 => ?_)
  · skip
    exfalso; omega
  · skip
    refine r_gs C hw hB 9 (by decide) lk26 dX5_quarterAt_12 ?_
    refine lv_iload_n hx hb dX5_quarterAt_15 rfl (lv_at hl 0 rfl) ?_
    refine r_ti C hw hB 9 (by decide) (show n_ < 33 by omega) (by decide) dX5_quarterAt_16 ?_
    refine tp1 (v' := nI (tN 9 n_)) (sV_N 9 (by decide)) ?_
    refine lv_goto (tgt := 21) hx hb dX5_quarterAt_17 (by decide) ?_
    exact r_iret C hw (Nat.le_refl _) (Nat.le_refl _) (⟨rfl, rfl⟩) dX5_quarterAt_21
abbrev rm_c_halfWindowAt : Room := { frames := 0, cells := 0, slots := 0, locals := 0 }
set_option maxHeartbeats 4000000 in
set_option maxRecDepth 100000 in
theorem c_halfWindowAt (l : Launch) (g : GT) (sz : Nat) (tb : Nat → Nat) (n_ : Nat) (h : n_ ≤ 256) : CtI l g yX5_halfWindowAt wsX5_halfWindowAt rm_c_halfWindowAt [.int (nI n_)] [] sz (fun U => Sx tb (va_A [] sz) U U.heap) (fun rr u => rr = sV 10 n_ ∧ u = []) (0) (0) := by
  refine ct_body (cc := cX5_halfWindowAt) (nL := 1) (ret := (some .int)) (by decide) rfl (Nat.le_of_ble_eq_true rfl) ?_
  intro p e s m below meth c ls C hin hsz hB hw hl
  obtain ⟨hx, hb, hml, hown, hts, hK, hA, hr, hlk⟩ := id C
  have lk32 := hts (.fieldLink RX5 32 "SoundBench$Waves" "HALF_WINDOW" "[I") (by decide +kernel)
  have hl : lv_has ls 1 [(0, .int (nI n_))] := hl
  have hw : Wd g (va_A [] sz) s.heap [] s.heap [] := hw
  refine lv_iload_n hx hb dX5_halfWindowAt_0 rfl (lv_at hl 0 rfl) ?_
  refine n_lt0 (tgt := 20) hx hb (by omega) dX5_halfWindowAt_1 (by decide) ?_
  refine lv_iload_n hx hb dX5_halfWindowAt_4 rfl (lv_at hl 0 rfl) ?_
  refine r_gs C hw hB 10 (by decide) lk32 dX5_halfWindowAt_5 ?_
  refine r_tlen C hw hB 10 (by decide) (n := 257) (by decide) dX5_halfWindowAt_8 ?_
  refine n_cge (tgt := 20) hx hb (by omega) (by omega) dX5_halfWindowAt_9 (by decide) (fun c_2 => ?_) (fun c_2 => ?_)
  · skip
    exfalso; omega
  · skip
    refine r_gs C hw hB 10 (by decide) lk32 dX5_halfWindowAt_12 ?_
    refine lv_iload_n hx hb dX5_halfWindowAt_15 rfl (lv_at hl 0 rfl) ?_
    refine r_ti C hw hB 10 (by decide) (show n_ < 257 by omega) (by decide) dX5_halfWindowAt_16 ?_
    refine lv_goto (tgt := 21) hx hb dX5_halfWindowAt_17 (by decide) ?_
    exact r_iret C hw (Nat.le_refl _) (Nat.le_refl _) (⟨rfl, rfl⟩) dX5_halfWindowAt_21
abbrev rm_c_cosineOf : Room := { frames := 1, cells := 0, slots := 0, locals := 20 }
set_option maxHeartbeats 4000000 in
set_option maxRecDepth 100000 in
theorem c_cosineOf (l : Launch) (g : GT) (sz : Nat) (tb : Nat → Nat) (n_ : Nat) (h : n_ < 128) : CtI l g yX5_cosineOf wsX5_cosineOf rm_c_cosineOf [.int (nI n_)] [] sz (fun U => Sx tb (va_A [] sz) U U.heap) (fun rr u => rr = cosW n_ ∧ u = []) (0) (0) := by
  refine ct_body (cc := cX5_cosineOf) (nL := 2) (ret := (some .int)) (by decide) rfl (Nat.le_of_ble_eq_true rfl) ?_
  intro p e s m below meth c ls C hin hsz hB hw hl
  obtain ⟨hx, hb, hml, hown, hts, hK, hA, hr, hlk⟩ := id C
  have hl : lv_has ls 2 [(0, .int (nI n_))] := hl
  have hw : Wd g (va_A [] sz) s.heap [] s.heap [] := hw
  refine lv_iload_n hx hb dX5_cosineOf_0 rfl (lv_at hl 0 rfl) ?_
  refine lv_bipush (v := nI 64) hx hb dX5_cosineOf_1 (by decide) ?_
  refine n_cle (tgt := 14) hx hb (by omega) (by omega) dX5_cosineOf_3 (by decide) (fun c_1 => ?_) (fun c_1 => ?_)
  · skip
    refine lv_iload_n hx hb dX5_cosineOf_14 rfl (lv_at hl 0 rfl) ?_
    refine lv_istore_n (lv' := [(1, .int (nI n_)), (0, .int (nI n_))]) hx hb dX5_cosineOf_15 rfl hl (by decide) rfl (fun ls hl => ?_)
    refine lv_iload_n hx hb dX5_cosineOf_16 rfl (lv_at hl 0 rfl) ?_
    refine lv_bipush (v := nI 32) hx hb dX5_cosineOf_17 (by decide) ?_
    refine n_cle (tgt := 33) hx hb (by omega) (by omega) dX5_cosineOf_19 (by decide) (fun c_2 => ?_) (fun c_2 => ?_)
    · skip
      refine lv_iload_n hx hb dX5_cosineOf_33 rfl (lv_at hl 0 rfl) ?_
      refine k_Si (As := [.int (nI n_)]) (rest := []) (wr := []) C hw (c_quarterAt l g _ tb n_ (by omega)) (va_cwS 1 hts gX5_cosineOf_X5_quarterAt rfl rfl rfl (by decide +kernel) ⟨Nat.le_of_ble_eq_true rfl, Nat.le_of_ble_eq_true rfl⟩) sx_bl (sx_call C hw hB [] rfl) [] [] (by decide) rfl rfl (by decide) (by decide) rfl hl.1 rfl (Nat.le_of_ble_eq_true rfl) dX5_cosineOf_34 ⟨Nat.le_of_ble_eq_true rfl, Nat.le_of_ble_eq_true rfl⟩ (fun r_3 u H locs hp hw => ?_)
      obtain ⟨rfl, rfl⟩ := hp
      have hw := Wd.sub (ws' := []) hw [] (by decide) rfl
      exact r_iret C hw (Nat.le_refl _) (Nat.le_refl _) (⟨by unfold cosW; (repeat' split) <;> first | rfl | omega, rfl⟩) dX5_cosineOf_37
    · skip
      refine lv_bipush (v := nI 64) hx hb dX5_cosineOf_22 (by decide) ?_
      refine lv_iload_n hx hb dX5_cosineOf_24 rfl (lv_at hl 0 rfl) ?_
      refine n_sub hx hb dX5_cosineOf_25 (by omega) ?_
      refine k_Si (As := [.int (nI (64 - n_))]) (rest := []) (wr := []) C hw (c_quarterAt l g _ tb (64 - n_) (by omega)) (va_cwS 1 hts gX5_cosineOf_X5_quarterAt rfl rfl rfl (by decide +kernel) ⟨Nat.le_of_ble_eq_true rfl, Nat.le_of_ble_eq_true rfl⟩) sx_bl (sx_call C hw hB [] rfl) [] [] (by decide) rfl rfl (by decide) (by decide) rfl hl.1 rfl (Nat.le_of_ble_eq_true rfl) dX5_cosineOf_26 ⟨Nat.le_of_ble_eq_true rfl, Nat.le_of_ble_eq_true rfl⟩ (fun r_4 u H locs hp hw => ?_)
      obtain ⟨rfl, rfl⟩ := hp
      have hw := Wd.sub (ws' := []) hw [] (by decide) rfl
      refine lv_ineg hx hb dX5_cosineOf_29 ?_
      refine lv_goto (tgt := 37) hx hb dX5_cosineOf_30 (by decide) ?_
      exact r_iret C hw (Nat.le_refl _) (Nat.le_refl _) (⟨by unfold cosW; (repeat' split) <;> first | rfl | omega, rfl⟩) dX5_cosineOf_37
  · skip
    refine lv_sipush (v := nI 128) hx hb dX5_cosineOf_6 (by decide) ?_
    refine lv_iload_n hx hb dX5_cosineOf_9 rfl (lv_at hl 0 rfl) ?_
    refine n_sub hx hb dX5_cosineOf_10 (by omega) ?_
    refine lv_goto (tgt := 15) hx hb dX5_cosineOf_11 (by decide) ?_
    refine lv_istore_n (lv' := [(1, .int (nI (128 - n_))), (0, .int (nI n_))]) hx hb dX5_cosineOf_15 rfl hl (by decide) rfl (fun ls hl => ?_)
    refine lv_iload_n hx hb dX5_cosineOf_16 rfl (lv_at hl 0 rfl) ?_
    refine lv_bipush (v := nI 32) hx hb dX5_cosineOf_17 (by decide) ?_
    refine n_cle (tgt := 33) hx hb (by omega) (by omega) dX5_cosineOf_19 (by decide) (fun c_5 => ?_) (fun c_5 => ?_)
    · skip
      refine lv_iload_n hx hb dX5_cosineOf_33 rfl (lv_at hl 0 rfl) ?_
      refine k_Si (As := [.int (nI (128 - n_))]) (rest := []) (wr := []) C hw (c_quarterAt l g _ tb (128 - n_) (by omega)) (va_cwS 1 hts gX5_cosineOf_X5_quarterAt rfl rfl rfl (by decide +kernel) ⟨Nat.le_of_ble_eq_true rfl, Nat.le_of_ble_eq_true rfl⟩) sx_bl (sx_call C hw hB [] rfl) [] [] (by decide) rfl rfl (by decide) (by decide) rfl hl.1 rfl (Nat.le_of_ble_eq_true rfl) dX5_cosineOf_34 ⟨Nat.le_of_ble_eq_true rfl, Nat.le_of_ble_eq_true rfl⟩ (fun r_6 u H locs hp hw => ?_)
      obtain ⟨rfl, rfl⟩ := hp
      have hw := Wd.sub (ws' := []) hw [] (by decide) rfl
      exact r_iret C hw (Nat.le_refl _) (Nat.le_refl _) (⟨by unfold cosW; (repeat' split) <;> first | rfl | omega, rfl⟩) dX5_cosineOf_37
    · skip
      refine lv_bipush (v := nI 64) hx hb dX5_cosineOf_22 (by decide) ?_
      refine lv_iload_n hx hb dX5_cosineOf_24 rfl (lv_at hl 0 rfl) ?_
      refine n_sub hx hb dX5_cosineOf_25 (by omega) ?_
      refine k_Si (As := [.int (nI (64 - (128 - n_)))]) (rest := []) (wr := []) C hw (c_quarterAt l g _ tb (64 - (128 - n_)) (by omega)) (va_cwS 1 hts gX5_cosineOf_X5_quarterAt rfl rfl rfl (by decide +kernel) ⟨Nat.le_of_ble_eq_true rfl, Nat.le_of_ble_eq_true rfl⟩) sx_bl (sx_call C hw hB [] rfl) [] [] (by decide) rfl rfl (by decide) (by decide) rfl hl.1 rfl (Nat.le_of_ble_eq_true rfl) dX5_cosineOf_26 ⟨Nat.le_of_ble_eq_true rfl, Nat.le_of_ble_eq_true rfl⟩ (fun r_7 u H locs hp hw => ?_)
      obtain ⟨rfl, rfl⟩ := hp
      have hw := Wd.sub (ws' := []) hw [] (by decide) rfl
      refine lv_ineg hx hb dX5_cosineOf_29 ?_
      refine lv_goto (tgt := 37) hx hb dX5_cosineOf_30 (by decide) ?_
      exact r_iret C hw (Nat.le_refl _) (Nat.le_refl _) (⟨by unfold cosW; (repeat' split) <;> first | rfl | omega, rfl⟩) dX5_cosineOf_37
abbrev rm_c_windowOf : Room := { frames := 1, cells := 0, slots := 0, locals := 20 }
set_option maxHeartbeats 4000000 in
set_option maxRecDepth 100000 in
theorem c_windowOf (l : Launch) (g : GT) (sz : Nat) (tb : Nat → Nat) (n_ : Nat) (h : n_ < 512) : CtI l g yX5_windowOf wsX5_windowOf rm_c_windowOf [.int (nI n_)] [] sz (fun U => Sx tb (va_A [] sz) U U.heap) (fun rr u => rr = winW n_ ∧ u = []) (0) (0) := by
  refine ct_body (cc := cX5_windowOf) (nL := 2) (ret := (some .int)) (by decide) rfl (Nat.le_of_ble_eq_true rfl) ?_
  intro p e s m below meth c ls C hin hsz hB hw hl
  obtain ⟨hx, hb, hml, hown, hts, hK, hA, hr, hlk⟩ := id C
  have hl : lv_has ls 2 [(0, .int (nI n_))] := hl
  have hw : Wd g (va_A [] sz) s.heap [] s.heap [] := hw
  refine lv_iload_n hx hb dX5_windowOf_0 rfl (lv_at hl 0 rfl) ?_
  refine lv_sipush (v := nI 256) hx hb dX5_windowOf_1 (by decide) ?_
  refine n_cgt (tgt := 12) hx hb (by omega) (by omega) dX5_windowOf_4 (by decide) (fun c_1 => ?_) (fun c_1 => ?_)
  · skip
    refine lv_sipush (v := nI 512) hx hb dX5_windowOf_12 (by decide) ?_
    refine lv_iload_n hx hb dX5_windowOf_15 rfl (lv_at hl 0 rfl) ?_
    refine n_sub hx hb dX5_windowOf_16 (by omega) ?_
    refine k_Si (As := [.int (nI (512 - n_))]) (rest := []) (wr := []) C hw (c_halfWindowAt l g _ tb (512 - n_) (by omega)) (va_cwS 1 hts gX5_windowOf_X5_halfWindowAt rfl rfl rfl (by decide +kernel) ⟨Nat.le_of_ble_eq_true rfl, Nat.le_of_ble_eq_true rfl⟩) sx_bl (sx_call C hw hB [] rfl) [] [] (by decide) rfl rfl (by decide) (by decide) rfl hl.1 rfl (Nat.le_of_ble_eq_true rfl) dX5_windowOf_17 ⟨Nat.le_of_ble_eq_true rfl, Nat.le_of_ble_eq_true rfl⟩ (fun r_2 u H locs hp hw => ?_)
    obtain ⟨rfl, rfl⟩ := hp
    have hw := Wd.sub (ws' := []) hw [] (by decide) rfl
    refine lv_istore_n (lv' := [(1, .int (sV 10 (512 - n_))), (0, .int (nI n_))]) hx hb dX5_windowOf_20 rfl hl (by decide) rfl (fun ls hl => ?_)
    refine lv_iload_n hx hb dX5_windowOf_21 rfl (lv_at hl 1 rfl) ?_
    refine lv_bipush (v := nI 64) hx hb dX5_windowOf_22 (by decide) ?_
    refine n_rem hx hb dX5_windowOf_24 (by omega) (by omega) (by omega) ?_
    refine n_ne0 (tgt := 32) hx hb (by omega) dX5_windowOf_25 (by decide) (fun c_3 => ?_) (fun c_3 => ?_)
    · skip
      refine lv_iload_n hx hb dX5_windowOf_32 rfl (lv_at hl 0 rfl) ?_
      refine lv_ineg hx hb dX5_windowOf_33 ?_
      exact r_iret C hw (Nat.le_refl _) (Nat.le_refl _) (⟨by unfold winW; (repeat' split) <;> first | rfl | omega, rfl⟩) dX5_windowOf_34
    · skip
      refine lv_iload_n hx hb dX5_windowOf_28 rfl (lv_at hl 0 rfl) ?_
      refine lv_goto (tgt := 34) hx hb dX5_windowOf_29 (by decide) ?_
      exact r_iret C hw (Nat.le_refl _) (Nat.le_refl _) (⟨by unfold winW; (repeat' split) <;> first | rfl | omega, rfl⟩) dX5_windowOf_34
  · skip
    refine lv_iload_n hx hb dX5_windowOf_7 rfl (lv_at hl 0 rfl) ?_
    refine k_Si (As := [.int (nI n_)]) (rest := []) (wr := []) C hw (c_halfWindowAt l g _ tb n_ (by omega)) (va_cwS 1 hts gX5_windowOf_X5_halfWindowAt rfl rfl rfl (by decide +kernel) ⟨Nat.le_of_ble_eq_true rfl, Nat.le_of_ble_eq_true rfl⟩) sx_bl (sx_call C hw hB [] rfl) [] [] (by decide) rfl rfl (by decide) (by decide) rfl hl.1 rfl (Nat.le_of_ble_eq_true rfl) dX5_windowOf_8 ⟨Nat.le_of_ble_eq_true rfl, Nat.le_of_ble_eq_true rfl⟩ (fun r_4 u H locs hp hw => ?_)
    obtain ⟨rfl, rfl⟩ := hp
    have hw := Wd.sub (ws' := []) hw [] (by decide) rfl
    exact r_iret C hw (Nat.le_refl _) (Nat.le_refl _) (⟨by unfold winW; (repeat' split) <;> first | rfl | omega, rfl⟩) dX5_windowOf_11
abbrev rm_c_waves : Room := { frames := 2, cells := 2, slots := 640, locals := 41 }
set_option maxHeartbeats 4000000 in
set_option maxRecDepth 100000 in
theorem c_waves (l : Launch) (g : GT) (sz : Nat) (tb : Nat → Nat) (wv : Nat) : CtV l g yX5_init wsX5_init rm_c_waves [.ref wv] [(wv, .inr (5, [.null, .null]))] sz (fun U => Sx tb (va_A [(wv, .inr (5, [.null, .null]))] sz) U U.heap) (fun u => ∃ wc ww : Nat, u = [(wv, .inr (5, [.ref wc, .ref ww])), (wc, aI g 128 cosA), (ww, aI g 512 winA)]) (2) (640) := by
  refine ct_body (cc := cX5_init) (nL := 2) (ret := none) (by decide) rfl (Nat.le_of_ble_eq_true rfl) ?_
  intro p e s m below meth c ls C hin hsz hB hw hl
  obtain ⟨hx, hb, hml, hown, hts, hK, hA, hr, hlk⟩ := id C
  have lk7 := hts (.fieldLink RX5 7 "SoundBench$Waves" "cosines" "[I") (by decide +kernel)
  have lk13 := hts (.fieldLink RX5 13 "SoundBench$Waves" "window" "[I") (by decide +kernel)
  have in_X5 : ∀ w ∈ wsX50, w ∈ wsX5_init := by unfold wsX5_init; intro w h; simp only [List.mem_cons, List.mem_append, h, or_true, true_or]
  have hl : lv_has ls 2 [(0, .ref wv)] := hl
  have hw : Wd g (va_A [(wv, .inr (5, [.null, .null]))] sz) s.heap [(wv, .inr (5, [.null, .null]))] s.heap [] := hw
  refine lv_aload_n hx hb dX5_init_0 rfl (lv_at hl 0 rfl) ?_
  refine W.objInit hx hb hown (hts (.methodLink RX5 1 objectInit) (by decide +kernel)) (hts (.instanceMethod objectInit) (by decide +kernel)) (hts (.code objectInit ⟨#[0xb1]⟩ 1 none) (by decide +kernel)) rfl (by rw [hml]; exact hl.1) rfl dX5_init_1 (Nat.le_of_ble_eq_true rfl) (Nat.le_of_ble_eq_true rfl) ?_
  refine W.eq (g2 := F0 m 4 ls []) rfl ?_
  refine lv_aload_n hx hb dX5_init_4 rfl (lv_at hl 0 rfl) ?_
  refine lv_sipush (v := nI 128) hx hb dX5_init_5 (by decide) ?_
  refine r_newI C hw (hts (.arrayClass .int) (by decide +kernel)) (by omega) (Nat.le_of_ble_eq_true rfl) (Nat.le_of_ble_eq_true rfl) dX5_init_8 (fun wc H hw => ?_)
  have hw : Wd g (va_A [(wv, .inr (5, [.null, .null]))] sz) s.heap [(wv, .inr (5, [.null, .null])), (wc, aI g 128 (fun _ => 0))] H _ := hw
  refine r_putF C hw in_X5 tyX5_ok nmX5 0 rfl rfl 0 (by decide) lk7 rfl hin rfl rfl rfl (Nat.le_of_ble_eq_true rfl) (ws' := [(wv, .inr (5, [.ref wc, .null])), (wc, aI g 128 (fun _ => 0))]) rfl dX5_init_10 (fun H locs hw => ?_)
  refine lv_aload_n hx hb dX5_init_13 rfl (lv_at hl 0 rfl) ?_
  refine lv_sipush (v := nI 512) hx hb dX5_init_14 (by decide) ?_
  refine r_newI C hw (hts (.arrayClass .int) (by decide +kernel)) (by omega) (Nat.le_of_ble_eq_true rfl) (Nat.le_of_ble_eq_true rfl) dX5_init_17 (fun ww H hw => ?_)
  have hw : Wd g (va_A [(wv, .inr (5, [.null, .null]))] sz) s.heap [(wv, .inr (5, [.ref wc, .null])), (wc, aI g 128 (fun _ => 0)), (ww, aI g 512 (fun _ => 0))] H _ := hw
  refine r_putF C hw in_X5 tyX5_ok nmX5 0 rfl rfl 1 (by decide) lk13 rfl hin rfl rfl rfl (Nat.le_of_ble_eq_true rfl) (ws' := [(wv, .inr (5, [.ref wc, .ref ww])), (wc, aI g 128 (fun _ => 0)), (ww, aI g 512 (fun _ => 0))]) rfl dX5_init_19 (fun H locs hw => ?_)
  refine lv_iconst (v := nI 0) hx hb dX5_init_22 (by decide) ?_
  refine lv_istore_n (lv' := [(1, .int (nI 0)), (0, .ref wv)]) hx hb dX5_init_23 rfl hl (by decide) rfl (fun ls hl => ?_)
  refine lpw (I := fun i H locs ls => Wd g (va_A [(wv, .inr (5, [.null, .null]))] sz) s.heap [(wv, .inr (5, [.ref wc, .ref ww])), (wc, aI g 128 (fun j => if j < i then cosW j else (fun _ => 0) j)), (ww, aI g 512 (fun _ => 0))] H locs ∧ lv_has ls 2 [(0, .ref wv), (1, .int (nI i))]) (128) ?_ ?_ (0) (by omega) ⟨(by rw [tabZ]; exact hw), (lv_sub hl [1, 0] rfl)⟩
  · intro H locs ls hI
    obtain ⟨hw, hl⟩ := hI
    refine lv_iload_n hx hb dX5_init_24 rfl (lv_at hl 1 rfl) ?_
    refine lv_aload_n hx hb dX5_init_25 rfl (lv_at hl 0 rfl) ?_
    refine r_get C hw in_X5 0 rfl rfl 0 (by decide) lk7 rfl dX5_init_26 ?_
    refine r_alen C hw 1 0 rfl rfl rfl dX5_init_29 ?_
    refine n_cge (tgt := 49) hx hb (by omega) (by omega) dX5_init_30 (by decide) (fun c_1 => ?_) (fun c_1 => ?_)
    · skip
      refine lv_iconst (v := nI 0) hx hb dX5_init_49 (by decide) ?_
      refine lv_istore_n (lv' := [(1, .int (nI 0)), (0, .ref wv)]) hx hb dX5_init_50 rfl hl (by decide) rfl (fun ls hl => ?_)
      refine lpw (I := fun i H locs ls => Wd g (va_A [(wv, .inr (5, [.null, .null]))] sz) s.heap [(wv, .inr (5, [.ref wc, .ref ww])), (wc, aI g 128 cosA), (ww, aI g 512 (fun j => if j < i then winW j else (fun _ => 0) j))] H locs ∧ lv_has ls 2 [(0, .ref wv), (1, .int (nI i))]) (512) ?_ ?_ (0) (by omega) ⟨(by rw [tabZ]; exact hw), (lv_sub hl [1, 0] rfl)⟩
      · intro H locs ls hI
        obtain ⟨hw, hl⟩ := hI
        refine lv_iload_n hx hb dX5_init_51 rfl (lv_at hl 1 rfl) ?_
        refine lv_aload_n hx hb dX5_init_52 rfl (lv_at hl 0 rfl) ?_
        refine r_get C hw in_X5 0 rfl rfl 1 (by decide) lk13 rfl dX5_init_53 ?_
        refine r_alen C hw 2 0 rfl rfl rfl dX5_init_56 ?_
        refine n_cge (tgt := 76) hx hb (by omega) (by omega) dX5_init_57 (by decide) (fun c_2 => ?_) (fun c_2 => ?_)
        · skip
          exact r_vret C hw (Nat.le_refl _) (Nat.le_refl _) (⟨_, _, rfl⟩) dX5_init_76
        · skip
          exfalso; omega
      · intro i H locs ls hi hI K
        obtain ⟨hw, hl⟩ := hI
        refine lv_iload_n hx hb dX5_init_51 rfl (lv_at hl 1 rfl) ?_
        refine lv_aload_n hx hb dX5_init_52 rfl (lv_at hl 0 rfl) ?_
        refine r_get C hw in_X5 0 rfl rfl 1 (by decide) lk13 rfl dX5_init_53 ?_
        refine r_alen C hw 2 0 rfl rfl rfl dX5_init_56 ?_
        refine n_cge (tgt := 76) hx hb (by omega) (by omega) dX5_init_57 (by decide) (fun c_3 => ?_) (fun c_3 => ?_)
        · skip
          exfalso; omega
        · skip
          refine lv_aload_n hx hb dX5_init_60 rfl (lv_at hl 0 rfl) ?_
          refine r_get C hw in_X5 0 rfl rfl 1 (by decide) lk13 rfl dX5_init_61 ?_
          refine lv_iload_n hx hb dX5_init_64 rfl (lv_at hl 1 rfl) ?_
          refine lv_iload_n hx hb dX5_init_65 rfl (lv_at hl 1 rfl) ?_
          refine k_Si (As := [.int (nI i)]) (rest := [.int (nI i), .ref ww]) (wr := [(wv, .inr (5, [.ref wc, .ref ww])), (wc, aI g 128 cosA), (ww, aI g 512 (fun j => if j < i then winW j else (fun _ => 0) j))]) C hw (c_windowOf l g _ tb i hi) (va_cwS 1 hts gX5_init_X5_windowOf rfl rfl rfl (by decide +kernel) ⟨Nat.le_of_ble_eq_true rfl, Nat.le_of_ble_eq_true rfl⟩) sx_bl (sx_call C hw hB [] rfl) [] [0, 1, 2] (by decide) rfl rfl (by decide) (by decide) rfl hl.1 rfl (Nat.le_of_ble_eq_true rfl) dX5_init_66 ⟨Nat.le_of_ble_eq_true rfl, Nat.le_of_ble_eq_true rfl⟩ (fun r_4 u H locs hp hw => ?_)
          obtain ⟨rfl, rfl⟩ := hp
          have hw := Wd.sub (ws' := [(wv, .inr (5, [.ref wc, .ref ww])), (wc, aI g 128 cosA), (ww, aI g 512 (fun j => if j < i then winW j else (fun _ => 0) j))]) hw [0, 1, 2] (by decide) rfl
          refine r_iast C hw 2 rfl (by omega) (by omega) (ws' := [(wv, .inr (5, [.ref wc, .ref ww])), (wc, aI g 128 cosA), (ww, aI g 512 (upd (fun j => if j < i then winW j else (fun _ => 0) j) i (winW i)))]) rfl dX5_init_69 (fun H locs hw => ?_)
          refine lv_iinc (v := (nI (i + 1))) (lv' := [(1, .int (nI (i + 1))), (0, .ref wv)]) hx hb dX5_init_70 hl (k := 1) rfl (nI_add _ _) (by decide) rfl (fun ls hl => ?_)
          refine lv_goto (tgt := 51) hx hb dX5_init_73 (by decide) ?_
          exact K _ _ _ ⟨(by rw [tabI_s] at hw; exact hw), (lv_sub hl [1, 0] rfl)⟩
    · skip
      exfalso; omega
  · intro i H locs ls hi hI K
    obtain ⟨hw, hl⟩ := hI
    refine lv_iload_n hx hb dX5_init_24 rfl (lv_at hl 1 rfl) ?_
    refine lv_aload_n hx hb dX5_init_25 rfl (lv_at hl 0 rfl) ?_
    refine r_get C hw in_X5 0 rfl rfl 0 (by decide) lk7 rfl dX5_init_26 ?_
    refine r_alen C hw 1 0 rfl rfl rfl dX5_init_29 ?_
    refine n_cge (tgt := 49) hx hb (by omega) (by omega) dX5_init_30 (by decide) (fun c_5 => ?_) (fun c_5 => ?_)
    · skip
      exfalso; omega
    · skip
      refine lv_aload_n hx hb dX5_init_33 rfl (lv_at hl 0 rfl) ?_
      refine r_get C hw in_X5 0 rfl rfl 0 (by decide) lk7 rfl dX5_init_34 ?_
      refine lv_iload_n hx hb dX5_init_37 rfl (lv_at hl 1 rfl) ?_
      refine lv_iload_n hx hb dX5_init_38 rfl (lv_at hl 1 rfl) ?_
      refine k_Si (As := [.int (nI i)]) (rest := [.int (nI i), .ref wc]) (wr := [(wv, .inr (5, [.ref wc, .ref ww])), (wc, aI g 128 (fun j => if j < i then cosW j else (fun _ => 0) j)), (ww, aI g 512 (fun _ => 0))]) C hw (c_cosineOf l g _ tb i hi) (va_cwS 1 hts gX5_init_X5_cosineOf rfl rfl rfl (by decide +kernel) ⟨Nat.le_of_ble_eq_true rfl, Nat.le_of_ble_eq_true rfl⟩) sx_bl (sx_call C hw hB [] rfl) [] [0, 1, 2] (by decide) rfl rfl (by decide) (by decide) rfl hl.1 rfl (Nat.le_of_ble_eq_true rfl) dX5_init_39 ⟨Nat.le_of_ble_eq_true rfl, Nat.le_of_ble_eq_true rfl⟩ (fun r_6 u H locs hp hw => ?_)
      obtain ⟨rfl, rfl⟩ := hp
      have hw := Wd.sub (ws' := [(wv, .inr (5, [.ref wc, .ref ww])), (wc, aI g 128 (fun j => if j < i then cosW j else (fun _ => 0) j)), (ww, aI g 512 (fun _ => 0))]) hw [0, 1, 2] (by decide) rfl
      refine r_iast C hw 1 rfl (by omega) (by omega) (ws' := [(wv, .inr (5, [.ref wc, .ref ww])), (wc, aI g 128 (upd (fun j => if j < i then cosW j else (fun _ => 0) j) i (cosW i))), (ww, aI g 512 (fun _ => 0))]) rfl dX5_init_42 (fun H locs hw => ?_)
      refine lv_iinc (v := (nI (i + 1))) (lv' := [(1, .int (nI (i + 1))), (0, .ref wv)]) hx hb dX5_init_43 hl (k := 1) rfl (nI_add _ _) (by decide) rfl (fun ls hl => ?_)
      refine lv_goto (tgt := 24) hx hb dX5_init_46 (by decide) ?_
      exact K _ _ _ ⟨(by rw [tabI_s] at hw; exact hw), (lv_sub hl [1, 0] rfl)⟩
abbrev rm_c_voice : Room := { frames := 1, cells := 3, slots := 1088, locals := 12 }
set_option maxHeartbeats 4000000 in
set_option maxRecDepth 100000 in
theorem c_voice (l : Launch) (g : GT) (sz : Nat) (v wv : Nat) : CtV l g yX4_init wsX4_init rm_c_voice [.ref v, .ref wv] [(v, .inr (4, [.null, .null, .int (nI 0), .null, .null, .int (nI 0)]))] sz (fun _ => True) (fun u => ∃ nu su sa : Nat, u = [(v, .inr (4, [.ref wv, .ref nu, .int (nI 0), .ref su, .ref sa, .int (nI 0)])), (nu, aI g 1024 (fun _ => 0)), (su, aJ g 64 (fun _ => 0)), (sa, aI g 0 (fun _ => 0))]) (3) (1088) := by
  refine ct_body (cc := cX4_init) (nL := 2) (ret := none) (by decide) rfl (Nat.le_of_ble_eq_true rfl) ?_
  intro p e s m below meth c ls C hin hsz hB hw hl
  obtain ⟨hx, hb, hml, hown, hts, hK, hA, hr, hlk⟩ := id C
  have lk11 := hts (.fieldLink RX4 11 "SoundBench$Voice" "numbers" "[I") (by decide +kernel)
  have lk15 := hts (.fieldLink RX4 15 "SoundBench$Voice" "sums" "[J") (by decide +kernel)
  have lk19 := hts (.fieldLink RX4 19 "SoundBench$Voice" "samples" "[I") (by decide +kernel)
  have lk22 := hts (.fieldLink RX4 22 "SoundBench$Voice" "waves" "LSoundBench$Waves;") (by decide +kernel)
  have in_X4 : ∀ w ∈ wsX40, w ∈ wsX4_init := by unfold wsX4_init; intro w h; simp only [List.mem_cons, List.mem_append, h, or_true, true_or]
  have hl : lv_has ls 2 [(0, .ref v), (1, .ref wv)] := hl
  have hw : Wd g (va_A [(v, .inr (4, [.null, .null, .int (nI 0), .null, .null, .int (nI 0)]))] sz) s.heap [(v, .inr (4, [.null, .null, .int (nI 0), .null, .null, .int (nI 0)]))] s.heap [] := hw
  refine lv_aload_n hx hb dX4_init_0 rfl (lv_at hl 0 rfl) ?_
  refine W.objInit hx hb hown (hts (.methodLink RX4 3 objectInit) (by decide +kernel)) (hts (.instanceMethod objectInit) (by decide +kernel)) (hts (.code objectInit ⟨#[0xb1]⟩ 1 none) (by decide +kernel)) rfl (by rw [hml]; exact hl.1) rfl dX4_init_1 (Nat.le_of_ble_eq_true rfl) (Nat.le_of_ble_eq_true rfl) ?_
  refine W.eq (g2 := F0 m 4 ls []) rfl ?_
  refine lv_aload_n hx hb dX4_init_4 rfl (lv_at hl 0 rfl) ?_
  refine lv_sipush (v := nI 1024) hx hb dX4_init_5 (by decide) ?_
  refine r_newI C hw (hts (.arrayClass .int) (by decide +kernel)) (by omega) (Nat.le_of_ble_eq_true rfl) (Nat.le_of_ble_eq_true rfl) dX4_init_8 (fun nu H hw => ?_)
  have hw : Wd g (va_A [(v, .inr (4, [.null, .null, .int (nI 0), .null, .null, .int (nI 0)]))] sz) s.heap [(v, .inr (4, [.null, .null, .int (nI 0), .null, .null, .int (nI 0)])), (nu, aI g 1024 (fun _ => 0))] H _ := hw
  refine r_putF C hw in_X4 tyX4_ok nmX4 0 rfl rfl 1 (by decide) lk11 rfl hin rfl rfl rfl (Nat.le_of_ble_eq_true rfl) (ws' := [(v, .inr (4, [.null, .ref nu, .int (nI 0), .null, .null, .int (nI 0)])), (nu, aI g 1024 (fun _ => 0))]) rfl dX4_init_10 (fun H locs hw => ?_)
  refine lv_aload_n hx hb dX4_init_13 rfl (lv_at hl 0 rfl) ?_
  refine lv_bipush (v := nI 64) hx hb dX4_init_14 (by decide) ?_
  refine r_newJ C hw (hts (.arrayClass .long) (by decide +kernel)) (by omega) (Nat.le_of_ble_eq_true rfl) (Nat.le_of_ble_eq_true rfl) dX4_init_16 (fun su H hw => ?_)
  have hw : Wd g (va_A [(v, .inr (4, [.null, .null, .int (nI 0), .null, .null, .int (nI 0)]))] sz) s.heap [(v, .inr (4, [.null, .ref nu, .int (nI 0), .null, .null, .int (nI 0)])), (nu, aI g 1024 (fun _ => 0)), (su, aJ g 64 (fun _ => 0))] H _ := hw
  refine r_putF C hw in_X4 tyX4_ok nmX4 0 rfl rfl 3 (by decide) lk15 rfl hin rfl rfl rfl (Nat.le_of_ble_eq_true rfl) (ws' := [(v, .inr (4, [.null, .ref nu, .int (nI 0), .ref su, .null, .int (nI 0)])), (nu, aI g 1024 (fun _ => 0)), (su, aJ g 64 (fun _ => 0))]) rfl dX4_init_18 (fun H locs hw => ?_)
  refine lv_aload_n hx hb dX4_init_21 rfl (lv_at hl 0 rfl) ?_
  refine lv_iconst (v := nI 0) hx hb dX4_init_22 (by decide) ?_
  refine r_newI C hw (hts (.arrayClass .int) (by decide +kernel)) (by omega) (Nat.le_of_ble_eq_true rfl) (Nat.le_of_ble_eq_true rfl) dX4_init_23 (fun sa H hw => ?_)
  have hw : Wd g (va_A [(v, .inr (4, [.null, .null, .int (nI 0), .null, .null, .int (nI 0)]))] sz) s.heap [(v, .inr (4, [.null, .ref nu, .int (nI 0), .ref su, .null, .int (nI 0)])), (nu, aI g 1024 (fun _ => 0)), (su, aJ g 64 (fun _ => 0)), (sa, aI g 0 (fun _ => 0))] H _ := hw
  refine r_put C hw in_X4 tyX4_ok nmX4 0 rfl rfl 4 (by decide) lk19 rfl rfl rfl (Nat.le_of_ble_eq_true rfl) (ws' := [(v, .inr (4, [.null, .ref nu, .int (nI 0), .ref su, .ref sa, .int (nI 0)])), (nu, aI g 1024 (fun _ => 0)), (su, aJ g 64 (fun _ => 0)), (sa, aI g 0 (fun _ => 0))]) rfl dX4_init_25 (fun H locs hw => ?_)
  refine lv_aload_n hx hb dX4_init_28 rfl (lv_at hl 0 rfl) ?_
  refine lv_aload_n hx hb dX4_init_29 rfl (lv_at hl 1 rfl) ?_
  refine r_putF C hw in_X4 tyX4_ok nmX4 0 rfl rfl 0 (by decide) lk22 rfl hin rfl rfl rfl (Nat.le_of_ble_eq_true rfl) (ws' := [(v, .inr (4, [.ref wv, .ref nu, .int (nI 0), .ref su, .ref sa, .int (nI 0)])), (nu, aI g 1024 (fun _ => 0)), (su, aJ g 64 (fun _ => 0)), (sa, aI g 0 (fun _ => 0))]) rfl dX4_init_30 (fun H locs hw => ?_)
  exact r_vret C hw (Nat.le_refl _) (Nat.le_refl _) (⟨_, _, _, rfl⟩) dX4_init_33
abbrev rm_c_silence : Room := { frames := 1, cells := 0, slots := 0, locals := 23 }
set_option maxHeartbeats 4000000 in
set_option maxRecDepth 100000 in
theorem c_silence (l : Launch) (g : GT) (sz : Nat) (v wv nu su sa nw md : Nat) (num : Nat → Int32) : CtV l g yX4_silence wsX4_silence rm_c_silence [.ref v] [(v, .inr (4, [.ref wv, .ref nu, .int (nI nw), .ref su, .ref sa, .int (nI md)])), (nu, aI g 1024 num)] sz (fun _ => True) (fun u => u = [(v, .inr (4, [.ref wv, .ref nu, .int (nI 0), .ref su, .ref sa, .int (nI 0)])), (nu, aI g 1024 (fun j => if j < 1024 then nI 0 else num j))]) (0) (0) := by
  refine ct_body (cc := cX4_silence) (nL := 1) (ret := none) (by decide) rfl (Nat.le_of_ble_eq_true rfl) ?_
  intro p e s m below meth c ls C hin hsz hB hw hl
  obtain ⟨hx, hb, hml, hown, hts, hK, hA, hr, hlk⟩ := id C
  have lk11 := hts (.fieldLink RX4 11 "SoundBench$Voice" "numbers" "[I") (by decide +kernel)
  have lk32 := hts (.fieldLink RX4 32 "SoundBench$Voice" "newest" "I") (by decide +kernel)
  have lk36 := hts (.fieldLink RX4 36 "SoundBench$Voice" "made" "I") (by decide +kernel)
  have in_X4 : ∀ w ∈ wsX40, w ∈ wsX4_silence := by unfold wsX4_silence; intro w h; simp only [List.mem_cons, List.mem_append, h, or_true, true_or]
  have hl : lv_has ls 1 [(0, .ref v)] := hl
  have hw : Wd g (va_A [(v, .inr (4, [.ref wv, .ref nu, .int (nI nw), .ref su, .ref sa, .int (nI md)])), (nu, aI g 1024 num)] sz) s.heap [(v, .inr (4, [.ref wv, .ref nu, .int (nI nw), .ref su, .ref sa, .int (nI md)])), (nu, aI g 1024 num)] s.heap [] := hw
  refine lv_aload_n hx hb dX4_silence_0 rfl (lv_at hl 0 rfl) ?_
  refine r_get C hw in_X4 0 rfl rfl 1 (by decide) lk11 rfl dX4_silence_1 ?_
  refine lv_iconst (v := nI 0) hx hb dX4_silence_4 (by decide) ?_
  refine k_Sv (As := [.ref nu, .int (nI 0)]) (rest := []) (wr := [(v, .inr (4, [.ref wv, .ref nu, .int (nI nw), .ref su, .ref sa, .int (nI md)]))]) C hw (c_fillI l g _ nu 1024 num (nI 0) (by omega)) (va_cwS 2 hts gX4_silence_J7_fill_53178 rfl rfl rfl (by decide +kernel) ⟨Nat.le_of_ble_eq_true rfl, Nat.le_of_ble_eq_true rfl⟩) bl_T (fun _ _ _ => trivial) [1] [0] (by decide) rfl rfl (by decide) (by decide) rfl hl.1 rfl (Nat.le_of_ble_eq_true rfl) dX4_silence_5 ⟨Nat.le_of_ble_eq_true rfl, Nat.le_of_ble_eq_true rfl⟩ (fun u H locs hp hw => ?_)
  obtain rfl := hp
  have hw := Wd.sub (ws' := [(v, .inr (4, [.ref wv, .ref nu, .int (nI nw), .ref su, .ref sa, .int (nI md)])), (nu, aI g 1024 (fun j => if j < 1024 then nI 0 else num j))]) hw [0, 1] (by decide) rfl
  refine lv_aload_n hx hb dX4_silence_8 rfl (lv_at hl 0 rfl) ?_
  refine lv_iconst (v := nI 0) hx hb dX4_silence_9 (by decide) ?_
  refine r_put C hw in_X4 tyX4_ok nmX4 0 rfl rfl 2 (by decide) lk32 rfl rfl rfl (Nat.le_of_ble_eq_true rfl) (ws' := [(v, .inr (4, [.ref wv, .ref nu, .int (nI 0), .ref su, .ref sa, .int (nI md)])), (nu, aI g 1024 (fun j => if j < 1024 then nI 0 else num j))]) rfl dX4_silence_10 (fun H locs hw => ?_)
  refine lv_aload_n hx hb dX4_silence_13 rfl (lv_at hl 0 rfl) ?_
  refine lv_iconst (v := nI 0) hx hb dX4_silence_14 (by decide) ?_
  refine r_put C hw in_X4 tyX4_ok nmX4 0 rfl rfl 5 (by decide) lk36 rfl rfl rfl (Nat.le_of_ble_eq_true rfl) (ws' := [(v, .inr (4, [.ref wv, .ref nu, .int (nI 0), .ref su, .ref sa, .int (nI 0)])), (nu, aI g 1024 (fun j => if j < 1024 then nI 0 else num j))]) rfl dX4_silence_15 (fun H locs hw => ?_)
  exact r_vret C hw (Nat.le_refl _) (Nat.le_refl _) (rfl) dX4_silence_18
abbrev rm_c_sampleAt : Room := { frames := 0, cells := 0, slots := 0, locals := 0 }
set_option maxHeartbeats 4000000 in
set_option maxRecDepth 100000 in
theorem c_sampleAt (l : Launch) (g : GT) (sz : Nat) (v wv nu su sa nw md cap : Nat) (sm : Nat → Int32) (x : Int32) (h1 : md ≤ cap) (h2 : cap < 2 ^ 31) : CtI l g yX4_sampleAt wsX4_sampleAt rm_c_sampleAt [.ref v, .int x] [(v, .inr (4, [.ref wv, .ref nu, .int (nI nw), .ref su, .ref sa, .int (nI md)])), (sa, aI g cap sm)] sz (fun _ => True) (fun rr u => rr = selX x md sm 0 ∧ u = [(v, .inr (4, [.ref wv, .ref nu, .int (nI nw), .ref su, .ref sa, .int (nI md)])), (sa, aI g cap sm)]) (0) (0) := by
  refine ct_body (cc := cX4_sampleAt) (nL := 2) (ret := (some .int)) (by decide) rfl (Nat.le_of_ble_eq_true rfl) ?_
  intro p e s m below meth c ls C hin hsz hB hw hl
  obtain ⟨hx, hb, hml, hown, hts, hK, hA, hr, hlk⟩ := id C
  have lk19 := hts (.fieldLink RX4 19 "SoundBench$Voice" "samples" "[I") (by decide +kernel)
  have lk36 := hts (.fieldLink RX4 36 "SoundBench$Voice" "made" "I") (by decide +kernel)
  have in_X4 : ∀ w ∈ wsX40, w ∈ wsX4_sampleAt := by unfold wsX4_sampleAt; intro w h; simp only [List.mem_cons, List.mem_append, h, or_true, true_or]
  have hl : lv_has ls 2 [(0, .ref v), (1, .int x)] := hl
  have hw : Wd g (va_A [(v, .inr (4, [.ref wv, .ref nu, .int (nI nw), .ref su, .ref sa, .int (nI md)])), (sa, aI g cap sm)] sz) s.heap [(v, .inr (4, [.ref wv, .ref nu, .int (nI nw), .ref su, .ref sa, .int (nI md)])), (sa, aI g cap sm)] s.heap [] := hw
  rcases swx x md (by omega) with ⟨j, hj, rfl⟩ | hno
  · skip
    refine lv_iload_n hx hb dX4_sampleAt_0 rfl (lv_at hl 1 rfl) ?_
    refine n_lt0 (tgt := 30) hx hb (by omega) dX4_sampleAt_1 (by decide) ?_
    refine lv_iload_n hx hb dX4_sampleAt_4 rfl (lv_at hl 1 rfl) ?_
    refine lv_aload_n hx hb dX4_sampleAt_5 rfl (lv_at hl 0 rfl) ?_
    refine r_get C hw in_X4 0 rfl rfl 5 (by decide) lk36 rfl dX4_sampleAt_6 ?_
    refine n_cge (tgt := 30) hx hb (by omega) (by omega) dX4_sampleAt_9 (by decide) (fun c_2 => ?_) (fun c_2 => ?_)
    · skip
      exfalso; omega
    · skip
      refine lv_iload_n hx hb dX4_sampleAt_12 rfl (lv_at hl 1 rfl) ?_
      refine lv_aload_n hx hb dX4_sampleAt_13 rfl (lv_at hl 0 rfl) ?_
      refine r_get C hw in_X4 0 rfl rfl 4 (by decide) lk19 rfl dX4_sampleAt_14 ?_
      refine r_alen C hw 1 0 rfl rfl rfl dX4_sampleAt_17 ?_
      refine n_cge (tgt := 30) hx hb (by omega) (by omega) dX4_sampleAt_18 (by decide) (fun c_3 => ?_) (fun c_3 => ?_)
      · skip
        exfalso; omega
      · skip
        refine lv_aload_n hx hb dX4_sampleAt_21 rfl (lv_at hl 0 rfl) ?_
        refine r_get C hw in_X4 0 rfl rfl 4 (by decide) lk19 rfl dX4_sampleAt_22 ?_
        refine lv_iload_n hx hb dX4_sampleAt_25 rfl (lv_at hl 1 rfl) ?_
        refine r_iald C hw 1 rfl (by omega) (by omega) dX4_sampleAt_26 ?_
        refine lv_goto (tgt := 31) hx hb dX4_sampleAt_27 (by decide) ?_
        exact r_iret C hw (Nat.le_refl _) (Nat.le_refl _) (⟨(selX_in hj (by omega)).symm, rfl⟩) dX4_sampleAt_31
  · skip
    refine lv_iload_n hx hb dX4_sampleAt_0 rfl (lv_at hl 1 rfl) ?_
    refine lv_if_lt (tgt := 30) hx hb dX4_sampleAt_1 (by decide) (fun c_1 => ?_) (fun c_1 => ?_)
    · skip
      refine lv_iconst (v := nI 0) hx hb dX4_sampleAt_30 (by decide) ?_
      exact r_iret C hw (Nat.le_refl _) (Nat.le_refl _) (⟨(selX_out hno).symm, rfl⟩) dX4_sampleAt_31
    · skip
      refine lv_iload_n hx hb dX4_sampleAt_4 rfl (lv_at hl 1 rfl) ?_
      refine lv_aload_n hx hb dX4_sampleAt_5 rfl (lv_at hl 0 rfl) ?_
      refine r_get C hw in_X4 0 rfl rfl 5 (by decide) lk36 rfl dX4_sampleAt_6 ?_
      refine lv_icmp_ge (tgt := 30) hx hb dX4_sampleAt_9 (by decide) (fun c_2 => ?_) (fun c_2 => ?_)
      · skip
        refine lv_iconst (v := nI 0) hx hb dX4_sampleAt_30 (by decide) ?_
        exact r_iret C hw (Nat.le_refl _) (Nat.le_refl _) (⟨(selX_out hno).symm, rfl⟩) dX4_sampleAt_31
      · skip
        exact (dead_sw (by omega) c_1 c_2 hno).elim
abbrev rm_c_numberAt : Room := { frames := 0, cells := 0, slots := 0, locals := 0 }
set_option maxHeartbeats 4000000 in
set_option maxRecDepth 100000 in
theorem c_numberAt (l : Launch) (g : GT) (sz : Nat) (v wv nu su sa nw md : Nat) (num : Nat → Int32) (x : Int32) (h1 : nw < 1024) : CtI l g yX4_numberAt wsX4_numberAt rm_c_numberAt [.ref v, .int x] [(v, .inr (4, [.ref wv, .ref nu, .int (nI nw), .ref su, .ref sa, .int (nI md)])), (nu, aI g 1024 num)] sz (fun _ => True) (fun rr u => rr = selX x 1024 (fun i => num ((nw + i) % 1024)) 0 ∧ u = [(v, .inr (4, [.ref wv, .ref nu, .int (nI nw), .ref su, .ref sa, .int (nI md)])), (nu, aI g 1024 num)]) (0) (0) := by
  refine ct_body (cc := cX4_numberAt) (nL := 2) (ret := (some .int)) (by decide) rfl (Nat.le_of_ble_eq_true rfl) ?_
  intro p e s m below meth c ls C hin hsz hB hw hl
  obtain ⟨hx, hb, hml, hown, hts, hK, hA, hr, hlk⟩ := id C
  have lk11 := hts (.fieldLink RX4 11 "SoundBench$Voice" "numbers" "[I") (by decide +kernel)
  have lk32 := hts (.fieldLink RX4 32 "SoundBench$Voice" "newest" "I") (by decide +kernel)
  have in_X4 : ∀ w ∈ wsX40, w ∈ wsX4_numberAt := by unfold wsX4_numberAt; intro w h; simp only [List.mem_cons, List.mem_append, h, or_true, true_or]
  have hl : lv_has ls 2 [(0, .ref v), (1, .int x)] := hl
  have hw : Wd g (va_A [(v, .inr (4, [.ref wv, .ref nu, .int (nI nw), .ref su, .ref sa, .int (nI md)])), (nu, aI g 1024 num)] sz) s.heap [(v, .inr (4, [.ref wv, .ref nu, .int (nI nw), .ref su, .ref sa, .int (nI md)])), (nu, aI g 1024 num)] s.heap [] := hw
  rcases swx x 1024 (by omega) with ⟨j, hj, rfl⟩ | hno
  · skip
    refine lv_iload_n hx hb dX4_numberAt_0 rfl (lv_at hl 1 rfl) ?_
    refine n_lt0 (tgt := 29) hx hb (by omega) dX4_numberAt_1 (by decide) ?_
    refine lv_iload_n hx hb dX4_numberAt_4 rfl (lv_at hl 1 rfl) ?_
    refine lv_sipush (v := nI 1024) hx hb dX4_numberAt_5 (by decide) ?_
    refine n_cge (tgt := 29) hx hb (by omega) (by omega) dX4_numberAt_8 (by decide) (fun c_2 => ?_) (fun c_2 => ?_)
    · skip
      exfalso; omega
    · skip
      refine lv_aload_n hx hb dX4_numberAt_11 rfl (lv_at hl 0 rfl) ?_
      refine r_get C hw in_X4 0 rfl rfl 1 (by decide) lk11 rfl dX4_numberAt_12 ?_
      refine lv_aload_n hx hb dX4_numberAt_15 rfl (lv_at hl 0 rfl) ?_
      refine r_get C hw in_X4 0 rfl rfl 2 (by decide) lk32 rfl dX4_numberAt_16 ?_
      refine lv_iload_n hx hb dX4_numberAt_19 rfl (lv_at hl 1 rfl) ?_
      refine n_add hx hb dX4_numberAt_20 ?_
      refine lv_sipush (v := nI 1023) hx hb dX4_numberAt_21 (by decide) ?_
      refine n_and (d := 1024) hx hb 10 (by decide) (by decide) (by omega) (by omega) dX4_numberAt_24 ?_
      refine r_iald C hw 1 rfl (by omega) (by omega) dX4_numberAt_25 ?_
      refine lv_goto (tgt := 30) hx hb dX4_numberAt_26 (by decide) ?_
      exact r_iret C hw (Nat.le_refl _) (Nat.le_refl _) (⟨by rw [selX_in hj (by omega)], rfl⟩) dX4_numberAt_30
  · skip
    refine lv_iload_n hx hb dX4_numberAt_0 rfl (lv_at hl 1 rfl) ?_
    refine lv_if_lt (tgt := 29) hx hb dX4_numberAt_1 (by decide) (fun c_1 => ?_) (fun c_1 => ?_)
    · skip
      refine lv_iconst (v := nI 0) hx hb dX4_numberAt_29 (by decide) ?_
      exact r_iret C hw (Nat.le_refl _) (Nat.le_refl _) (⟨(selX_out hno).symm, rfl⟩) dX4_numberAt_30
    · skip
      refine lv_iload_n hx hb dX4_numberAt_4 rfl (lv_at hl 1 rfl) ?_
      refine lv_sipush (v := nI 1024) hx hb dX4_numberAt_5 (by decide) ?_
      refine lv_icmp_ge (tgt := 29) hx hb dX4_numberAt_8 (by decide) (fun c_2 => ?_) (fun c_2 => ?_)
      · skip
        refine lv_iconst (v := nI 0) hx hb dX4_numberAt_29 (by decide) ?_
        exact r_iret C hw (Nat.le_refl _) (Nat.le_refl _) (⟨(selX_out hno).symm, rfl⟩) dX4_numberAt_30
      · skip
        exact (dead_sw (by omega) c_1 c_2 hno).elim
