abbrev rm_c_hasBand : Room := { frames := 0, cells := 0, slots := 0, locals := 0 }
set_option maxHeartbeats 4000000 in
set_option maxRecDepth 100000 in
theorem c_hasBand (l : Launch) (g : GT) (sz : Nat) (sb tp len pl al dec r k k2 v v2 : Nat) (ks kf km kc kr : Nat) (x y : Int32) (h1 : dec < 2 ^ 31) (h2 : kc ≤ 2) : CtI l g yX6_hasBand wsX6_hasBand rm_c_hasBand [.ref sb, .int x, .int y] [(sb, .inr (6, [.ref tp, .int (nI len), .int (nI pl), .ref al, .int (nI dec), .ref r, .ref k, .ref k2, .ref v, .ref v2])), (k, .inr (1, [.int (nI kc), .int (nI kr), .ref ks, .ref kf, .ref km]))] sz (fun _ => True) (fun rr u => rr = nI (hbS dec kc x y) ∧ u = [(sb, .inr (6, [.ref tp, .int (nI len), .int (nI pl), .ref al, .int (nI dec), .ref r, .ref k, .ref k2, .ref v, .ref v2])), (k, .inr (1, [.int (nI kc), .int (nI kr), .ref ks, .ref kf, .ref km]))]) (0) (0) := by
  refine ct_body (cc := cX6_hasBand) (nL := 3) (ret := (some .boolean)) (by decide) rfl (Nat.le_of_ble_eq_true rfl) ?_
  intro p e s m below meth c ls C hin hsz hB hw hl
  obtain ⟨hx, hb, hml, hown, hts, hK, hA, hr, hlk⟩ := id C
  have lk27 := hts (.fieldLink RX6 27 "SoundBench" "decoded" "I") (by decide +kernel)
  have lk40 := hts (.fieldLink RX6 40 "SoundBench" "latest" "LSoundBench$Content;") (by decide +kernel)
  have lk166 := hts (.fieldLink RX6 166 "SoundBench$Content" "channels" "I") (by decide +kernel)
  have in_X6 : ∀ w ∈ wsX60, w ∈ wsX6_hasBand := by unfold wsX6_hasBand; intro w h; simp only [List.mem_cons, List.mem_append, h, or_true, true_or]
  have in_X1 : ∀ w ∈ wsX10, w ∈ wsX6_hasBand := by unfold wsX6_hasBand; intro w h; simp only [List.mem_cons, List.mem_append, h, or_true, true_or]
  have hl : lv_has ls 3 [(0, .ref sb), (1, .int x), (2, .int y)] := hl
  have hw : Wd g (va_A [(sb, .inr (6, [.ref tp, .int (nI len), .int (nI pl), .ref al, .int (nI dec), .ref r, .ref k, .ref k2, .ref v, .ref v2])), (k, .inr (1, [.int (nI kc), .int (nI kr), .ref ks, .ref kf, .ref km]))] sz) s.heap [(sb, .inr (6, [.ref tp, .int (nI len), .int (nI pl), .ref al, .int (nI dec), .ref r, .ref k, .ref k2, .ref v, .ref v2])), (k, .inr (1, [.int (nI kc), .int (nI kr), .ref ks, .ref kf, .ref km]))] s.heap [] := hw
  refine lv_aload_n hx hb dX6_hasBand_0 rfl (lv_at hl 0 rfl) ?_
  refine r_get C hw in_X6 0 rfl rfl 4 (by decide) lk27 rfl dX6_hasBand_1 ?_
  refine n_le0 (tgt := 36) hx hb (by omega) dX6_hasBand_4 (by decide) (fun c_1 => ?_) (fun c_1 => ?_)
  · skip
    refine lv_iconst (v := nI 0) hx hb dX6_hasBand_36 (by decide) ?_
    exact r_zret C hw (by decide) (Nat.le_refl _) (Nat.le_refl _) (⟨by unfold hbS; split <;> first | rfl | omega, rfl⟩) dX6_hasBand_37
  · skip
    refine lv_iload_n hx hb dX6_hasBand_7 rfl (lv_at hl 1 rfl) ?_
    refine lv_if_lt (tgt := 36) hx hb dX6_hasBand_8 (by decide) (fun c_a => ?_) (fun c_a => ?_)
    · skip
      rw [lt0] at c_a
      refine lv_iconst (v := nI 0) hx hb dX6_hasBand_36 (by decide) ?_
      exact r_zret C hw (by decide) (Nat.le_refl _) (Nat.le_refl _) (⟨by unfold hbS; split <;> first | rfl | omega, rfl⟩) dX6_hasBand_37
    · skip
      rw [lt0] at c_a
      refine lv_iload_n hx hb dX6_hasBand_11 rfl (lv_at hl 1 rfl) ?_
      refine lv_aload_n hx hb dX6_hasBand_12 rfl (lv_at hl 0 rfl) ?_
      refine r_get C hw in_X6 0 rfl rfl 6 (by decide) lk40 rfl dX6_hasBand_13 ?_
      refine r_get C hw in_X1 1 rfl rfl 0 (by decide) lk166 rfl dX6_hasBand_16 ?_
      refine lv_icmp_ge (tgt := 36) hx hb dX6_hasBand_19 (by decide) (fun c_b => ?_) (fun c_b => ?_)
      · skip
        rw [nle (by omega)] at c_b
        refine lv_iconst (v := nI 0) hx hb dX6_hasBand_36 (by decide) ?_
        exact r_zret C hw (by decide) (Nat.le_refl _) (Nat.le_refl _) (⟨by unfold hbS; split <;> first | rfl | omega, rfl⟩) dX6_hasBand_37
      · skip
        rw [nle (by omega)] at c_b
        refine lv_iload_n hx hb dX6_hasBand_22 rfl (lv_at hl 2 rfl) ?_
        refine lv_if_lt (tgt := 36) hx hb dX6_hasBand_23 (by decide) (fun c_c => ?_) (fun c_c => ?_)
        · skip
          rw [lt0] at c_c
          refine lv_iconst (v := nI 0) hx hb dX6_hasBand_36 (by decide) ?_
          exact r_zret C hw (by decide) (Nat.le_refl _) (Nat.le_refl _) (⟨by unfold hbS; split <;> first | rfl | omega, rfl⟩) dX6_hasBand_37
        · skip
          rw [lt0] at c_c
          refine lv_iload_n hx hb dX6_hasBand_26 rfl (lv_at hl 2 rfl) ?_
          refine lv_bipush (v := nI 32) hx hb dX6_hasBand_27 (by decide) ?_
          refine lv_icmp_ge (tgt := 36) hx hb dX6_hasBand_29 (by decide) (fun c_d => ?_) (fun c_d => ?_)
          · skip
            rw [nle (by omega)] at c_d
            refine lv_iconst (v := nI 0) hx hb dX6_hasBand_36 (by decide) ?_
            exact r_zret C hw (by decide) (Nat.le_refl _) (Nat.le_refl _) (⟨by unfold hbS; split <;> first | rfl | omega, rfl⟩) dX6_hasBand_37
          · skip
            rw [nle (by omega)] at c_d
            refine lv_iconst (v := nI 1) hx hb dX6_hasBand_32 (by decide) ?_
            refine lv_goto (tgt := 37) hx hb dX6_hasBand_33 (by decide) ?_
            exact r_zret C hw (by decide) (Nat.le_refl _) (Nat.le_refl _) (⟨by unfold hbS; split <;> first | rfl | omega, rfl⟩) dX6_hasBand_37
abbrev rm_c_steps : Room := { frames := 1, cells := 0, slots := 0, locals := 22 }
set_option maxHeartbeats 4000000 in
set_option maxRecDepth 100000 in
theorem c_steps (l : Launch) (g : GT) (sz : Nat) (sb tp len pl al dec r k k2 v v2 : Nat) (ks kf km kc kr : Nat) (st_ : Nat → Nat) (x y : Int32) (h1 : dec < 2 ^ 31) (h2 : kc ≤ 2) : CtI l g yX6_steps wsX6_steps rm_c_steps [.ref sb, .int x, .int y] [(sb, .inr (6, [.ref tp, .int (nI len), .int (nI pl), .ref al, .int (nI dec), .ref r, .ref k, .ref k2, .ref v, .ref v2])), (k, .inr (1, [.int (nI kc), .int (nI kr), .ref ks, .ref kf, .ref km])), (ks, aI g 64 (fun j => nI (st_ j)))] sz (fun _ => True) (fun rr u => rr = stepA dec kc st_ x y ∧ u = [(sb, .inr (6, [.ref tp, .int (nI len), .int (nI pl), .ref al, .int (nI dec), .ref r, .ref k, .ref k2, .ref v, .ref v2])), (k, .inr (1, [.int (nI kc), .int (nI kr), .ref ks, .ref kf, .ref km])), (ks, aI g 64 (fun j => nI (st_ j)))]) (0) (0) := by
  refine ct_body (cc := cX6_steps) (nL := 3) (ret := (some .int)) (by decide) rfl (Nat.le_of_ble_eq_true rfl) ?_
  intro p e s m below meth c ls C hin hsz hB hw hl
  obtain ⟨hx, hb, hml, hown, hts, hK, hA, hr, hlk⟩ := id C
  have lk40 := hts (.fieldLink RX6 40 "SoundBench" "latest" "LSoundBench$Content;") (by decide +kernel)
  have lk104 := hts (.fieldLink RX6 104 "SoundBench$Content" "steps" "[I") (by decide +kernel)
  have in_X6 : ∀ w ∈ wsX60, w ∈ wsX6_steps := by unfold wsX6_steps; intro w h; simp only [List.mem_cons, List.mem_append, h, or_true, true_or]
  have in_X1 : ∀ w ∈ wsX10, w ∈ wsX6_steps := by unfold wsX6_steps; intro w h; simp only [List.mem_cons, List.mem_append, h, or_true, true_or]
  have hl : lv_has ls 3 [(0, .ref sb), (1, .int x), (2, .int y)] := hl
  have hw : Wd g (va_A [(sb, .inr (6, [.ref tp, .int (nI len), .int (nI pl), .ref al, .int (nI dec), .ref r, .ref k, .ref k2, .ref v, .ref v2])), (k, .inr (1, [.int (nI kc), .int (nI kr), .ref ks, .ref kf, .ref km])), (ks, aI g 64 (fun j => nI (st_ j)))] sz) s.heap [(sb, .inr (6, [.ref tp, .int (nI len), .int (nI pl), .ref al, .int (nI dec), .ref r, .ref k, .ref k2, .ref v, .ref v2])), (k, .inr (1, [.int (nI kc), .int (nI kr), .ref ks, .ref kf, .ref km])), (ks, aI g 64 (fun j => nI (st_ j)))] s.heap [] := hw
  have hb9 := hbS_le dec kc x y
  refine lv_aload_n hx hb dX6_steps_0 rfl (lv_at hl 0 rfl) ?_
  refine lv_iload_n hx hb dX6_steps_1 rfl (lv_at hl 1 rfl) ?_
  refine lv_iload_n hx hb dX6_steps_2 rfl (lv_at hl 2 rfl) ?_
  refine k_Vi (As := [.int x, .int y]) (rest := []) (wr := [(ks, aI g 64 (fun j => nI (st_ j)))]) C hw (c_hasBand l g _ sb tp len pl al dec r k k2 v v2 ks kf km kc kr x y h1 h2) (cwV 2 hts gX6_steps_X6_hasBand rfl rfl rfl (by decide +kernel) ⟨Nat.le_of_ble_eq_true rfl, Nat.le_of_ble_eq_true rfl⟩) bl_T (fun _ _ _ => trivial) [0, 1] [2] (by decide) rfl rfl (by decide) (by decide) 0 rfl rfl rfl hl.1 rfl (Nat.le_of_ble_eq_true rfl) dX6_steps_3 ⟨Nat.le_of_ble_eq_true rfl, Nat.le_of_ble_eq_true rfl⟩ (fun r_1 u H locs hp hw => ?_)
  obtain ⟨rfl, rfl⟩ := hp
  have hw := Wd.sub (ws' := [(sb, .inr (6, [.ref tp, .int (nI len), .int (nI pl), .ref al, .int (nI dec), .ref r, .ref k, .ref k2, .ref v, .ref v2])), (k, .inr (1, [.int (nI kc), .int (nI kr), .ref ks, .ref kf, .ref km])), (ks, aI g 64 (fun j => nI (st_ j)))]) hw [1, 2, 0] (by decide) rfl
  refine n_ne0 (tgt := 11) hx hb (by omega) dX6_steps_6 (by decide) (fun c_h => ?_) (fun c_h => ?_)
  · skip
    have hq := hbS_pos c_h
    obtain ⟨i_, hi_, rfl, hie⟩ := nat_of (x := x) (by omega)
    obtain ⟨b_, hb_, rfl, hbe⟩ := nat_of (x := y) (by omega)
    rw [hie, hbe] at hq
    have hci := nI_clamp hi_
    have hcb := nI_clamp hb_
    refine lv_aload_n hx hb dX6_steps_11 rfl (lv_at hl 0 rfl) ?_
    refine r_get C hw in_X6 0 rfl rfl 6 (by decide) lk40 rfl dX6_steps_12 ?_
    refine r_get C hw in_X1 1 rfl rfl 2 (by decide) lk104 rfl dX6_steps_15 ?_
    refine lv_iload_n hx hb dX6_steps_18 rfl (lv_at hl 1 rfl) ?_
    refine lv_iload_n hx hb dX6_steps_19 rfl (lv_at hl 2 rfl) ?_
    refine k_Si (As := [.int (nI i_), .int (nI b_)]) (rest := [.ref ks]) (wr := [(sb, .inr (6, [.ref tp, .int (nI len), .int (nI pl), .ref al, .int (nI dec), .ref r, .ref k, .ref k2, .ref v, .ref v2])), (k, .inr (1, [.int (nI kc), .int (nI kr), .ref ks, .ref kf, .ref km])), (ks, aI g 64 (fun j => nI (st_ j)))]) C hw (c_bandIndex l g _ i_ b_) (va_cwS 2 hts gX6_steps_X1_bandIndex rfl rfl rfl (by decide +kernel) ⟨Nat.le_of_ble_eq_true rfl, Nat.le_of_ble_eq_true rfl⟩) bl_T (fun _ _ _ => trivial) [] [0, 1, 2] (by decide) rfl rfl (by decide) (by decide) rfl hl.1 rfl (Nat.le_of_ble_eq_true rfl) dX6_steps_20 ⟨Nat.le_of_ble_eq_true rfl, Nat.le_of_ble_eq_true rfl⟩ (fun r_2 u H locs hp hw => ?_)
    obtain ⟨rfl, rfl⟩ := hp
    have hw := Wd.sub (ws' := [(sb, .inr (6, [.ref tp, .int (nI len), .int (nI pl), .ref al, .int (nI dec), .ref r, .ref k, .ref k2, .ref v, .ref v2])), (k, .inr (1, [.int (nI kc), .int (nI kr), .ref ks, .ref kf, .ref km])), (ks, aI g 64 (fun j => nI (st_ j)))]) hw [0, 1, 2] (by decide) rfl
    refine r_iald C hw 2 rfl (by omega) (by omega) dX6_steps_23 ?_
    exact r_iret C hw (Nat.le_refl _) (Nat.le_refl _) (⟨by unfold stepA; rw [hie, hbe, if_pos hq, hci, hcb], rfl⟩) dX6_steps_24
  · skip
    refine lv_iconst (v := (-1)) hx hb dX6_steps_9 (by decide) ?_
    exact r_iret C hw (Nat.le_refl _) (Nat.le_refl _) (⟨by unfold stepA; rw [if_neg (by have q9 := hbS_0 c_h; omega)], rfl⟩) dX6_steps_10
abbrev rm_c_band : Room := { frames := 1, cells := 0, slots := 0, locals := 22 }
set_option maxHeartbeats 4000000 in
set_option maxRecDepth 100000 in
theorem c_band (l : Launch) (g : GT) (sz : Nat) (sb tp len pl al dec r k k2 v v2 : Nat) (ks kf km kc kr : Nat) (sm : Nat → Int32) (x y z : Int32) (h1 : dec < 2 ^ 31) (h2 : kc ≤ 2) (h3 : kr ≤ 36) : CtI l g yX6_band wsX6_band rm_c_band [.ref sb, .int x, .int y, .int z] [(sb, .inr (6, [.ref tp, .int (nI len), .int (nI pl), .ref al, .int (nI dec), .ref r, .ref k, .ref k2, .ref v, .ref v2])), (k, .inr (1, [.int (nI kc), .int (nI kr), .ref ks, .ref kf, .ref km])), (km, aI g 2304 sm)] sz (fun _ => True) (fun rr u => rr = bandA dec kc kr sm x y z ∧ u = [(sb, .inr (6, [.ref tp, .int (nI len), .int (nI pl), .ref al, .int (nI dec), .ref r, .ref k, .ref k2, .ref v, .ref v2])), (k, .inr (1, [.int (nI kc), .int (nI kr), .ref ks, .ref kf, .ref km])), (km, aI g 2304 sm)]) (0) (0) := by
  refine ct_body (cc := cX6_band) (nL := 4) (ret := (some .int)) (by decide) rfl (Nat.le_of_ble_eq_true rfl) ?_
  intro p e s m below meth c ls C hin hsz hB hw hl
  obtain ⟨hx, hb, hml, hown, hts, hK, hA, hr, hlk⟩ := id C
  have lk40 := hts (.fieldLink RX6 40 "SoundBench" "latest" "LSoundBench$Content;") (by decide +kernel)
  have lk94 := hts (.fieldLink RX6 94 "SoundBench$Content" "rows" "I") (by decide +kernel)
  have lk97 := hts (.fieldLink RX6 97 "SoundBench$Content" "samples" "[I") (by decide +kernel)
  have in_X6 : ∀ w ∈ wsX60, w ∈ wsX6_band := by unfold wsX6_band; intro w h; simp only [List.mem_cons, List.mem_append, h, or_true, true_or]
  have in_X1 : ∀ w ∈ wsX10, w ∈ wsX6_band := by unfold wsX6_band; intro w h; simp only [List.mem_cons, List.mem_append, h, or_true, true_or]
  have hl : lv_has ls 4 [(0, .ref sb), (1, .int x), (2, .int y), (3, .int z)] := hl
  have hw : Wd g (va_A [(sb, .inr (6, [.ref tp, .int (nI len), .int (nI pl), .ref al, .int (nI dec), .ref r, .ref k, .ref k2, .ref v, .ref v2])), (k, .inr (1, [.int (nI kc), .int (nI kr), .ref ks, .ref kf, .ref km])), (km, aI g 2304 sm)] sz) s.heap [(sb, .inr (6, [.ref tp, .int (nI len), .int (nI pl), .ref al, .int (nI dec), .ref r, .ref k, .ref k2, .ref v, .ref v2])), (k, .inr (1, [.int (nI kc), .int (nI kr), .ref ks, .ref kf, .ref km])), (km, aI g 2304 sm)] s.heap [] := hw
  have hb9 := hbS_le dec kc x y
  refine lv_aload_n hx hb dX6_band_0 rfl (lv_at hl 0 rfl) ?_
  refine lv_iload_n hx hb dX6_band_1 rfl (lv_at hl 1 rfl) ?_
  refine lv_iload_n hx hb dX6_band_2 rfl (lv_at hl 2 rfl) ?_
  refine k_Vi (As := [.int x, .int y]) (rest := []) (wr := [(km, aI g 2304 sm)]) C hw (c_hasBand l g _ sb tp len pl al dec r k k2 v v2 ks kf km kc kr x y h1 h2) (cwV 2 hts gX6_band_X6_hasBand rfl rfl rfl (by decide +kernel) ⟨Nat.le_of_ble_eq_true rfl, Nat.le_of_ble_eq_true rfl⟩) bl_T (fun _ _ _ => trivial) [0, 1] [2] (by decide) rfl rfl (by decide) (by decide) 0 rfl rfl rfl hl.1 rfl (Nat.le_of_ble_eq_true rfl) dX6_band_3 ⟨Nat.le_of_ble_eq_true rfl, Nat.le_of_ble_eq_true rfl⟩ (fun r_1 u H locs hp hw => ?_)
  obtain ⟨rfl, rfl⟩ := hp
  have hw := Wd.sub (ws' := [(sb, .inr (6, [.ref tp, .int (nI len), .int (nI pl), .ref al, .int (nI dec), .ref r, .ref k, .ref k2, .ref v, .ref v2])), (k, .inr (1, [.int (nI kc), .int (nI kr), .ref ks, .ref kf, .ref km])), (km, aI g 2304 sm)]) hw [1, 2, 0] (by decide) rfl
  refine n_eq0 (tgt := 24) hx hb (by omega) dX6_band_6 (by decide) (fun c_h => ?_) (fun c_h => ?_)
  · skip
    refine lv_iconst (v := nI 0) hx hb dX6_band_24 (by decide) ?_
    exact r_iret C hw (Nat.le_refl _) (Nat.le_refl _) (⟨by unfold bandA; rw [if_neg (by have q9 := hbS_0 c_h; omega)]; rfl, rfl⟩) dX6_band_25
  · skip
    have hq := hbS_pos c_h
    obtain ⟨i_, hi_, rfl, hie⟩ := nat_of (x := x) (by omega)
    obtain ⟨b_, hb_, rfl, hbe⟩ := nat_of (x := y) (by omega)
    rw [hie, hbe] at hq
    have hci := nI_clamp hi_
    have hcb := nI_clamp hb_
    refine lv_iload_n hx hb dX6_band_9 rfl (lv_at hl 3 rfl) ?_
    refine lv_if_lt (tgt := 24) hx hb dX6_band_10 (by decide) (fun c_1 => ?_) (fun c_1 => ?_)
    · skip
      rw [lt0] at c_1
      refine lv_iconst (v := nI 0) hx hb dX6_band_24 (by decide) ?_
      exact r_iret C hw (Nat.le_refl _) (Nat.le_refl _) (⟨by unfold bandA; rw [if_neg (by omega)]; rfl, rfl⟩) dX6_band_25
    · skip
      rw [lt0] at c_1
      refine lv_iload_n hx hb dX6_band_13 rfl (lv_at hl 3 rfl) ?_
      refine lv_aload_n hx hb dX6_band_14 rfl (lv_at hl 0 rfl) ?_
      refine r_get C hw in_X6 0 rfl rfl 6 (by decide) lk40 rfl dX6_band_15 ?_
      refine r_get C hw in_X1 1 rfl rfl 1 (by decide) lk94 rfl dX6_band_18 ?_
      refine lv_icmp_lt (tgt := 26) hx hb dX6_band_21 (by decide) (fun c_2 => ?_) (fun c_2 => ?_)
      · skip
        rw [ltn (by omega)] at c_2
        have hz : 0 ≤ z.toInt ∧ z.toInt < kr := by omega
        obtain ⟨t_, ht_, rfl, hte⟩ := nat_of (x := z) (by omega)
        rw [hte] at hz
        have hct := nI_clamp ht_
        refine lv_aload_n hx hb dX6_band_26 rfl (lv_at hl 0 rfl) ?_
        refine r_get C hw in_X6 0 rfl rfl 6 (by decide) lk40 rfl dX6_band_27 ?_
        refine r_get C hw in_X1 1 rfl rfl 4 (by decide) lk97 rfl dX6_band_30 ?_
        refine lv_iload_n hx hb dX6_band_33 rfl (lv_at hl 1 rfl) ?_
        refine lv_iload_n hx hb dX6_band_34 rfl (lv_at hl 3 rfl) ?_
        refine k_Si (As := [.int (nI i_), .int (nI t_)]) (rest := [.ref km]) (wr := [(sb, .inr (6, [.ref tp, .int (nI len), .int (nI pl), .ref al, .int (nI dec), .ref r, .ref k, .ref k2, .ref v, .ref v2])), (k, .inr (1, [.int (nI kc), .int (nI kr), .ref ks, .ref kf, .ref km])), (km, aI g 2304 sm)]) C hw (c_rowIndex l g _ i_ t_) (va_cwS 2 hts gX6_band_X1_rowIndex rfl rfl rfl (by decide +kernel) ⟨Nat.le_of_ble_eq_true rfl, Nat.le_of_ble_eq_true rfl⟩) bl_T (fun _ _ _ => trivial) [] [0, 1, 2] (by decide) rfl rfl (by decide) (by decide) rfl hl.1 rfl (Nat.le_of_ble_eq_true rfl) dX6_band_35 ⟨Nat.le_of_ble_eq_true rfl, Nat.le_of_ble_eq_true rfl⟩ (fun r_2 u H locs hp hw => ?_)
        obtain ⟨rfl, rfl⟩ := hp
        have hw := Wd.sub (ws' := [(sb, .inr (6, [.ref tp, .int (nI len), .int (nI pl), .ref al, .int (nI dec), .ref r, .ref k, .ref k2, .ref v, .ref v2])), (k, .inr (1, [.int (nI kc), .int (nI kr), .ref ks, .ref kf, .ref km])), (km, aI g 2304 sm)]) hw [0, 1, 2] (by decide) rfl
        refine lv_iload_n hx hb dX6_band_38 rfl (lv_at hl 2 rfl) ?_
        refine n_add hx hb dX6_band_39 ?_
        refine r_iald C hw 2 rfl (by omega) (by omega) dX6_band_40 ?_
        exact r_iret C hw (Nat.le_refl _) (Nat.le_refl _) (⟨by unfold bandA; rw [hie, hbe, hte, if_pos ⟨hq, hz⟩, hci, hcb, hct], rfl⟩) dX6_band_41
      · skip
        rw [ltn (by omega)] at c_2
        refine lv_iconst (v := nI 0) hx hb dX6_band_24 (by decide) ?_
        exact r_iret C hw (Nat.le_refl _) (Nat.le_refl _) (⟨by unfold bandA; rw [if_neg (by omega)]; rfl, rfl⟩) dX6_band_25
abbrev rm_c_factor : Room := { frames := 1, cells := 0, slots := 0, locals := 22 }
set_option maxHeartbeats 4000000 in
set_option maxRecDepth 100000 in
theorem c_factor (l : Launch) (g : GT) (sz : Nat) (sb tp len pl al dec r k k2 v v2 : Nat) (ks kf km kc kr : Nat) (st_ fa : Nat → Nat) (x y z : Int32) (h1 : dec < 2 ^ 31) (h2 : kc ≤ 2) (hs : ∀ j, stOK (st_ j)) : CtI l g yX6_factor wsX6_factor rm_c_factor [.ref sb, .int x, .int y, .int z] [(sb, .inr (6, [.ref tp, .int (nI len), .int (nI pl), .ref al, .int (nI dec), .ref r, .ref k, .ref k2, .ref v, .ref v2])), (k, .inr (1, [.int (nI kc), .int (nI kr), .ref ks, .ref kf, .ref km])), (ks, aI g 64 (fun j => nI (st_ j))), (kf, aI g 192 (fun j => nI (fa j)))] sz (fun _ => True) (fun rr u => rr = factA dec kc st_ fa x y z ∧ u = [(sb, .inr (6, [.ref tp, .int (nI len), .int (nI pl), .ref al, .int (nI dec), .ref r, .ref k, .ref k2, .ref v, .ref v2])), (k, .inr (1, [.int (nI kc), .int (nI kr), .ref ks, .ref kf, .ref km])), (ks, aI g 64 (fun j => nI (st_ j))), (kf, aI g 192 (fun j => nI (fa j)))]) (0) (0) := by
  refine ct_body (cc := cX6_factor) (nL := 5) (ret := (some .int)) (by decide) rfl (Nat.le_of_ble_eq_true rfl) ?_
  intro p e s m below meth c ls C hin hsz hB hw hl
  obtain ⟨hx, hb, hml, hown, hts, hK, hA, hr, hlk⟩ := id C
  have lk40 := hts (.fieldLink RX6 40 "SoundBench" "latest" "LSoundBench$Content;") (by decide +kernel)
  have lk104 := hts (.fieldLink RX6 104 "SoundBench$Content" "steps" "[I") (by decide +kernel)
  have lk110 := hts (.fieldLink RX6 110 "SoundBench$Content" "factors" "[I") (by decide +kernel)
  have in_X6 : ∀ w ∈ wsX60, w ∈ wsX6_factor := by unfold wsX6_factor; intro w h; simp only [List.mem_cons, List.mem_append, h, or_true, true_or]
  have in_X1 : ∀ w ∈ wsX10, w ∈ wsX6_factor := by unfold wsX6_factor; intro w h; simp only [List.mem_cons, List.mem_append, h, or_true, true_or]
  have hl : lv_has ls 5 [(0, .ref sb), (1, .int x), (2, .int y), (3, .int z)] := hl
  have hw : Wd g (va_A [(sb, .inr (6, [.ref tp, .int (nI len), .int (nI pl), .ref al, .int (nI dec), .ref r, .ref k, .ref k2, .ref v, .ref v2])), (k, .inr (1, [.int (nI kc), .int (nI kr), .ref ks, .ref kf, .ref km])), (ks, aI g 64 (fun j => nI (st_ j))), (kf, aI g 192 (fun j => nI (fa j)))] sz) s.heap [(sb, .inr (6, [.ref tp, .int (nI len), .int (nI pl), .ref al, .int (nI dec), .ref r, .ref k, .ref k2, .ref v, .ref v2])), (k, .inr (1, [.int (nI kc), .int (nI kr), .ref ks, .ref kf, .ref km])), (ks, aI g 64 (fun j => nI (st_ j))), (kf, aI g 192 (fun j => nI (fa j)))] s.heap [] := hw
  have hb9 := hbS_le dec kc x y
  refine lv_aload_n hx hb dX6_factor_0 rfl (lv_at hl 0 rfl) ?_
  refine lv_iload_n hx hb dX6_factor_1 rfl (lv_at hl 1 rfl) ?_
  refine lv_iload_n hx hb dX6_factor_2 rfl (lv_at hl 2 rfl) ?_
  refine k_Vi (As := [.int x, .int y]) (rest := []) (wr := [(ks, aI g 64 (fun j => nI (st_ j))), (kf, aI g 192 (fun j => nI (fa j)))]) C hw (c_hasBand l g _ sb tp len pl al dec r k k2 v v2 ks kf km kc kr x y h1 h2) (cwV 2 hts gX6_factor_X6_hasBand rfl rfl rfl (by decide +kernel) ⟨Nat.le_of_ble_eq_true rfl, Nat.le_of_ble_eq_true rfl⟩) bl_T (fun _ _ _ => trivial) [0, 1] [2, 3] (by decide) rfl rfl (by decide) (by decide) 0 rfl rfl rfl hl.1 rfl (Nat.le_of_ble_eq_true rfl) dX6_factor_3 ⟨Nat.le_of_ble_eq_true rfl, Nat.le_of_ble_eq_true rfl⟩ (fun r_1 u H locs hp hw => ?_)
  obtain ⟨rfl, rfl⟩ := hp
  have hw := Wd.sub (ws' := [(sb, .inr (6, [.ref tp, .int (nI len), .int (nI pl), .ref al, .int (nI dec), .ref r, .ref k, .ref k2, .ref v, .ref v2])), (k, .inr (1, [.int (nI kc), .int (nI kr), .ref ks, .ref kf, .ref km])), (ks, aI g 64 (fun j => nI (st_ j))), (kf, aI g 192 (fun j => nI (fa j)))]) hw [2, 3, 0, 1] (by decide) rfl
  refine n_eq0 (tgt := 18) hx hb (by omega) dX6_factor_6 (by decide) (fun c_h => ?_) (fun c_h => ?_)
  · skip
    refine lv_iconst (v := (-1)) hx hb dX6_factor_18 (by decide) ?_
    exact r_iret C hw (Nat.le_refl _) (Nat.le_refl _) (⟨by unfold factA; rw [if_neg (by have q9 := hbS_0 c_h; omega)], rfl⟩) dX6_factor_19
  · skip
    have hq := hbS_pos c_h
    obtain ⟨i_, hi_, rfl, hie⟩ := nat_of (x := x) (by omega)
    obtain ⟨b_, hb_, rfl, hbe⟩ := nat_of (x := y) (by omega)
    rw [hie, hbe] at hq
    have hci := nI_clamp hi_
    have hcb := nI_clamp hb_
    refine lv_iload_n hx hb dX6_factor_9 rfl (lv_at hl 3 rfl) ?_
    refine lv_if_lt (tgt := 18) hx hb dX6_factor_10 (by decide) (fun c_1 => ?_) (fun c_1 => ?_)
    · skip
      rw [lt0] at c_1
      refine lv_iconst (v := (-1)) hx hb dX6_factor_18 (by decide) ?_
      exact r_iret C hw (Nat.le_refl _) (Nat.le_refl _) (⟨by unfold factA; rw [if_neg (by omega)], rfl⟩) dX6_factor_19
    · skip
      rw [lt0] at c_1
      refine lv_iload_n hx hb dX6_factor_13 rfl (lv_at hl 3 rfl) ?_
      refine lv_iconst (v := nI 3) hx hb dX6_factor_14 (by decide) ?_
      refine lv_icmp_lt (tgt := 20) hx hb dX6_factor_15 (by decide) (fun c_2 => ?_) (fun c_2 => ?_)
      · skip
        rw [ltn (by omega)] at c_2
        have hs1 := stOK_le (hs (i_ * 32 + b_))
        have hz : 0 ≤ z.toInt ∧ z.toInt < 3 := by omega
        obtain ⟨t_, ht_, rfl, hte⟩ := nat_of (x := z) (by omega)
        rw [hte] at hz
        have hct := nI_clamp ht_
        refine lv_iload_n hx hb dX6_factor_20 rfl (lv_at hl 1 rfl) ?_
        refine lv_iload_n hx hb dX6_factor_21 rfl (lv_at hl 2 rfl) ?_
        refine k_Si (As := [.int (nI i_), .int (nI b_)]) (rest := []) (wr := [(sb, .inr (6, [.ref tp, .int (nI len), .int (nI pl), .ref al, .int (nI dec), .ref r, .ref k, .ref k2, .ref v, .ref v2])), (k, .inr (1, [.int (nI kc), .int (nI kr), .ref ks, .ref kf, .ref km])), (ks, aI g 64 (fun j => nI (st_ j))), (kf, aI g 192 (fun j => nI (fa j)))]) C hw (c_bandIndex l g _ i_ b_) (va_cwS 2 hts gX6_factor_X1_bandIndex rfl rfl rfl (by decide +kernel) ⟨Nat.le_of_ble_eq_true rfl, Nat.le_of_ble_eq_true rfl⟩) bl_T (fun _ _ _ => trivial) [] [0, 1, 2, 3] (by decide) rfl rfl (by decide) (by decide) rfl hl.1 rfl (Nat.le_of_ble_eq_true rfl) dX6_factor_22 ⟨Nat.le_of_ble_eq_true rfl, Nat.le_of_ble_eq_true rfl⟩ (fun r_2 u H locs hp hw => ?_)
        obtain ⟨rfl, rfl⟩ := hp
        have hw := Wd.sub (ws' := [(sb, .inr (6, [.ref tp, .int (nI len), .int (nI pl), .ref al, .int (nI dec), .ref r, .ref k, .ref k2, .ref v, .ref v2])), (k, .inr (1, [.int (nI kc), .int (nI kr), .ref ks, .ref kf, .ref km])), (ks, aI g 64 (fun j => nI (st_ j))), (kf, aI g 192 (fun j => nI (fa j)))]) hw [0, 1, 2, 3] (by decide) rfl
        refine lv_istore (lv' := [(4, .int (nI (i_ * 32 + b_))), (0, .ref sb), (1, .int (nI i_)), (2, .int (nI b_)), (3, .int (nI t_))]) hx hb dX6_factor_25 hl (by decide) rfl (fun ls hl => ?_)
        refine lv_aload_n hx hb dX6_factor_27 rfl (lv_at hl 1 rfl) ?_
        refine r_get C hw in_X6 0 rfl rfl 6 (by decide) lk40 rfl dX6_factor_28 ?_
        refine r_get C hw in_X1 1 rfl rfl 2 (by decide) lk104 rfl dX6_factor_31 ?_
        refine lv_iload hx hb dX6_factor_34 (lv_at hl 0 rfl) ?_
        refine r_iald C hw 2 rfl (by omega) (by omega) dX6_factor_36 ?_
        refine n_ne0 (tgt := 42) hx hb (by omega) dX6_factor_37 (by decide) (fun c_s => ?_) (fun c_s => ?_)
        · skip
          refine lv_aload_n hx hb dX6_factor_42 rfl (lv_at hl 1 rfl) ?_
          refine r_get C hw in_X6 0 rfl rfl 6 (by decide) lk40 rfl dX6_factor_43 ?_
          refine r_get C hw in_X1 1 rfl rfl 3 (by decide) lk110 rfl dX6_factor_46 ?_
          refine lv_iload hx hb dX6_factor_49 (lv_at hl 0 rfl) ?_
          refine lv_iconst (v := nI 3) hx hb dX6_factor_51 (by decide) ?_
          refine n_mul hx hb dX6_factor_52 ?_
          refine lv_iload_n hx hb dX6_factor_53 rfl (lv_at hl 4 rfl) ?_
          refine n_add hx hb dX6_factor_54 ?_
          refine r_iald C hw 3 rfl (by omega) (by omega) dX6_factor_55 ?_
          exact r_iret C hw (Nat.le_refl _) (Nat.le_refl _) (⟨by unfold factA; rw [hie, hbe, hte, hci, hcb, hct, if_pos ⟨hq, hz, by omega⟩], rfl⟩) dX6_factor_56
        · skip
          refine lv_iconst (v := (-1)) hx hb dX6_factor_40 (by decide) ?_
          exact r_iret C hw (Nat.le_refl _) (Nat.le_refl _) (⟨by unfold factA; rw [hci, hcb, if_neg (fun q => q.2.2 c_s)], rfl⟩) dX6_factor_41
      · skip
        rw [ltn (by omega)] at c_2
        refine lv_iconst (v := (-1)) hx hb dX6_factor_18 (by decide) ?_
        exact r_iret C hw (Nat.le_refl _) (Nat.le_refl _) (⟨by unfold factA; rw [if_neg (by omega)], rfl⟩) dX6_factor_19
abbrev rm_c_pcm : Room := { frames := 1, cells := 0, slots := 0, locals := 21 }
set_option maxHeartbeats 4000000 in
set_option maxRecDepth 100000 in
theorem c_pcm (l : Launch) (g : GT) (sz : Nat) (sb tp len pl al dec r k k2 v v2 : Nat) (wv nu su sa nw md nu2 su2 sb2 nw2 md2 : Nat) (cap cap2 : Nat) (sm sm2 : Nat → Int32) (x y : Int32) (h1 : md ≤ cap) (h2 : cap < 2 ^ 31) (h3 : md2 ≤ cap2) (h4 : cap2 < 2 ^ 31) : CtI l g yX6_pcm wsX6_pcm rm_c_pcm [.ref sb, .int x, .int y] [(sb, .inr (6, [.ref tp, .int (nI len), .int (nI pl), .ref al, .int (nI dec), .ref r, .ref k, .ref k2, .ref v, .ref v2])), (v, .inr (4, [.ref wv, .ref nu, .int (nI nw), .ref su, .ref sa, .int (nI md)])), (sa, aI g cap sm), (v2, .inr (4, [.ref wv, .ref nu2, .int (nI nw2), .ref su2, .ref sb2, .int (nI md2)])), (sb2, aI g cap2 sm2)] sz (fun _ => True) (fun rr u => rr = pcmA md md2 sm sm2 x y ∧ u = [(sb, .inr (6, [.ref tp, .int (nI len), .int (nI pl), .ref al, .int (nI dec), .ref r, .ref k, .ref k2, .ref v, .ref v2])), (v, .inr (4, [.ref wv, .ref nu, .int (nI nw), .ref su, .ref sa, .int (nI md)])), (sa, aI g cap sm), (v2, .inr (4, [.ref wv, .ref nu2, .int (nI nw2), .ref su2, .ref sb2, .int (nI md2)])), (sb2, aI g cap2 sm2)]) (0) (0) := by
  refine ct_body (cc := cX6_pcm) (nL := 3) (ret := (some .int)) (by decide) rfl (Nat.le_of_ble_eq_true rfl) ?_
  intro p e s m below meth c ls C hin hsz hB hw hl
  obtain ⟨hx, hb, hml, hown, hts, hK, hA, hr, hlk⟩ := id C
  have lk55 := hts (.fieldLink RX6 55 "SoundBench" "firstVoice" "LSoundBench$Voice;") (by decide +kernel)
  have lk59 := hts (.fieldLink RX6 59 "SoundBench" "secondVoice" "LSoundBench$Voice;") (by decide +kernel)
  have in_X6 : ∀ w ∈ wsX60, w ∈ wsX6_pcm := by unfold wsX6_pcm; intro w h; simp only [List.mem_cons, List.mem_append, h, or_true, true_or]
  have hl : lv_has ls 3 [(0, .ref sb), (1, .int x), (2, .int y)] := hl
  have hw : Wd g (va_A [(sb, .inr (6, [.ref tp, .int (nI len), .int (nI pl), .ref al, .int (nI dec), .ref r, .ref k, .ref k2, .ref v, .ref v2])), (v, .inr (4, [.ref wv, .ref nu, .int (nI nw), .ref su, .ref sa, .int (nI md)])), (sa, aI g cap sm), (v2, .inr (4, [.ref wv, .ref nu2, .int (nI nw2), .ref su2, .ref sb2, .int (nI md2)])), (sb2, aI g cap2 sm2)] sz) s.heap [(sb, .inr (6, [.ref tp, .int (nI len), .int (nI pl), .ref al, .int (nI dec), .ref r, .ref k, .ref k2, .ref v, .ref v2])), (v, .inr (4, [.ref wv, .ref nu, .int (nI nw), .ref su, .ref sa, .int (nI md)])), (sa, aI g cap sm), (v2, .inr (4, [.ref wv, .ref nu2, .int (nI nw2), .ref su2, .ref sb2, .int (nI md2)])), (sb2, aI g cap2 sm2)] s.heap [] := hw
  refine lv_iload_n hx hb dX6_pcm_0 rfl (lv_at hl 1 rfl) ?_
  refine lv_if_ne (tgt := 13) hx hb dX6_pcm_1 (by decide) (fun c_x => ?_) (fun c_x => ?_)
  · skip
    refine lv_iload_n hx hb dX6_pcm_13 rfl (lv_at hl 1 rfl) ?_
    refine lv_iconst (v := nI 1) hx hb dX6_pcm_14 (by decide) ?_
    refine lv_icmp_ne (tgt := 29) hx hb dX6_pcm_15 (by decide) (fun c_y => ?_) (fun c_y => ?_)
    · skip
      refine lv_iconst (v := nI 0) hx hb dX6_pcm_29 (by decide) ?_
      exact r_iret C hw (Nat.le_refl _) (Nat.le_refl _) (⟨by unfold pcmA; rw [if_neg c_x, if_neg c_y]; rfl, rfl⟩) dX6_pcm_30
    · skip
      refine lv_aload_n hx hb dX6_pcm_18 rfl (lv_at hl 0 rfl) ?_
      refine r_get C hw in_X6 0 rfl rfl 9 (by decide) lk59 rfl dX6_pcm_19 ?_
      refine lv_iload_n hx hb dX6_pcm_22 rfl (lv_at hl 2 rfl) ?_
      refine k_Vi (As := [.int y]) (rest := []) (wr := [(sb, .inr (6, [.ref tp, .int (nI len), .int (nI pl), .ref al, .int (nI dec), .ref r, .ref k, .ref k2, .ref v, .ref v2])), (v, .inr (4, [.ref wv, .ref nu, .int (nI nw), .ref su, .ref sa, .int (nI md)])), (sa, aI g cap sm)]) C hw (c_sampleAt l g _ v2 wv nu2 su2 sb2 nw2 md2 cap2 sm2 y h3 h4) (cwV 1 hts gX6_pcm_X4_sampleAt rfl rfl rfl (by decide +kernel) ⟨Nat.le_of_ble_eq_true rfl, Nat.le_of_ble_eq_true rfl⟩) bl_T (fun _ _ _ => trivial) [3, 4] [0, 1, 2] (by decide) rfl rfl (by decide) (by decide) 3 rfl rfl rfl hl.1 rfl (Nat.le_of_ble_eq_true rfl) dX6_pcm_23 ⟨Nat.le_of_ble_eq_true rfl, Nat.le_of_ble_eq_true rfl⟩ (fun r_1 u H locs hp hw => ?_)
      obtain ⟨rfl, rfl⟩ := hp
      have hw := Wd.sub (ws' := [(sb, .inr (6, [.ref tp, .int (nI len), .int (nI pl), .ref al, .int (nI dec), .ref r, .ref k, .ref k2, .ref v, .ref v2])), (v, .inr (4, [.ref wv, .ref nu, .int (nI nw), .ref su, .ref sa, .int (nI md)])), (sa, aI g cap sm), (v2, .inr (4, [.ref wv, .ref nu2, .int (nI nw2), .ref su2, .ref sb2, .int (nI md2)])), (sb2, aI g cap2 sm2)]) hw [0, 1, 2, 3, 4] (by decide) rfl
      refine lv_goto (tgt := 30) hx hb dX6_pcm_26 (by decide) ?_
      exact r_iret C hw (Nat.le_refl _) (Nat.le_refl _) (⟨by unfold pcmA; rw [if_neg c_x, if_pos c_y], rfl⟩) dX6_pcm_30
  · skip
    refine lv_aload_n hx hb dX6_pcm_4 rfl (lv_at hl 0 rfl) ?_
    refine r_get C hw in_X6 0 rfl rfl 8 (by decide) lk55 rfl dX6_pcm_5 ?_
    refine lv_iload_n hx hb dX6_pcm_8 rfl (lv_at hl 2 rfl) ?_
    refine k_Vi (As := [.int y]) (rest := []) (wr := [(sb, .inr (6, [.ref tp, .int (nI len), .int (nI pl), .ref al, .int (nI dec), .ref r, .ref k, .ref k2, .ref v, .ref v2])), (v2, .inr (4, [.ref wv, .ref nu2, .int (nI nw2), .ref su2, .ref sb2, .int (nI md2)])), (sb2, aI g cap2 sm2)]) C hw (c_sampleAt l g _ v wv nu su sa nw md cap sm y h1 h2) (cwV 1 hts gX6_pcm_X4_sampleAt rfl rfl rfl (by decide +kernel) ⟨Nat.le_of_ble_eq_true rfl, Nat.le_of_ble_eq_true rfl⟩) bl_T (fun _ _ _ => trivial) [1, 2] [0, 3, 4] (by decide) rfl rfl (by decide) (by decide) 1 rfl rfl rfl hl.1 rfl (Nat.le_of_ble_eq_true rfl) dX6_pcm_9 ⟨Nat.le_of_ble_eq_true rfl, Nat.le_of_ble_eq_true rfl⟩ (fun r_2 u H locs hp hw => ?_)
    obtain ⟨rfl, rfl⟩ := hp
    have hw := Wd.sub (ws' := [(sb, .inr (6, [.ref tp, .int (nI len), .int (nI pl), .ref al, .int (nI dec), .ref r, .ref k, .ref k2, .ref v, .ref v2])), (v, .inr (4, [.ref wv, .ref nu, .int (nI nw), .ref su, .ref sa, .int (nI md)])), (sa, aI g cap sm), (v2, .inr (4, [.ref wv, .ref nu2, .int (nI nw2), .ref su2, .ref sb2, .int (nI md2)])), (sb2, aI g cap2 sm2)]) hw [0, 3, 4, 1, 2] (by decide) rfl
    exact r_iret C hw (Nat.le_refl _) (Nat.le_refl _) (⟨by unfold pcmA; rw [if_pos c_x], rfl⟩) dX6_pcm_12
abbrev rm_c_memory : Room := { frames := 1, cells := 0, slots := 0, locals := 21 }
set_option maxHeartbeats 4000000 in
set_option maxRecDepth 100000 in
theorem c_memory (l : Launch) (g : GT) (sz : Nat) (sb tp len pl al dec r k k2 v v2 : Nat) (wv nu su sa nw md nu2 su2 sb2 nw2 md2 : Nat) (num num2 : Nat → Int32) (x y : Int32) (h1 : nw < 1024) (h2 : nw2 < 1024) : CtI l g yX6_memory wsX6_memory rm_c_memory [.ref sb, .int x, .int y] [(sb, .inr (6, [.ref tp, .int (nI len), .int (nI pl), .ref al, .int (nI dec), .ref r, .ref k, .ref k2, .ref v, .ref v2])), (v, .inr (4, [.ref wv, .ref nu, .int (nI nw), .ref su, .ref sa, .int (nI md)])), (nu, aI g 1024 num), (v2, .inr (4, [.ref wv, .ref nu2, .int (nI nw2), .ref su2, .ref sb2, .int (nI md2)])), (nu2, aI g 1024 num2)] sz (fun _ => True) (fun rr u => rr = memA nw nw2 num num2 x y ∧ u = [(sb, .inr (6, [.ref tp, .int (nI len), .int (nI pl), .ref al, .int (nI dec), .ref r, .ref k, .ref k2, .ref v, .ref v2])), (v, .inr (4, [.ref wv, .ref nu, .int (nI nw), .ref su, .ref sa, .int (nI md)])), (nu, aI g 1024 num), (v2, .inr (4, [.ref wv, .ref nu2, .int (nI nw2), .ref su2, .ref sb2, .int (nI md2)])), (nu2, aI g 1024 num2)]) (0) (0) := by
  refine ct_body (cc := cX6_memory) (nL := 3) (ret := (some .int)) (by decide) rfl (Nat.le_of_ble_eq_true rfl) ?_
  intro p e s m below meth c ls C hin hsz hB hw hl
  obtain ⟨hx, hb, hml, hown, hts, hK, hA, hr, hlk⟩ := id C
  have lk55 := hts (.fieldLink RX6 55 "SoundBench" "firstVoice" "LSoundBench$Voice;") (by decide +kernel)
  have lk59 := hts (.fieldLink RX6 59 "SoundBench" "secondVoice" "LSoundBench$Voice;") (by decide +kernel)
  have in_X6 : ∀ w ∈ wsX60, w ∈ wsX6_memory := by unfold wsX6_memory; intro w h; simp only [List.mem_cons, List.mem_append, h, or_true, true_or]
  have hl : lv_has ls 3 [(0, .ref sb), (1, .int x), (2, .int y)] := hl
  have hw : Wd g (va_A [(sb, .inr (6, [.ref tp, .int (nI len), .int (nI pl), .ref al, .int (nI dec), .ref r, .ref k, .ref k2, .ref v, .ref v2])), (v, .inr (4, [.ref wv, .ref nu, .int (nI nw), .ref su, .ref sa, .int (nI md)])), (nu, aI g 1024 num), (v2, .inr (4, [.ref wv, .ref nu2, .int (nI nw2), .ref su2, .ref sb2, .int (nI md2)])), (nu2, aI g 1024 num2)] sz) s.heap [(sb, .inr (6, [.ref tp, .int (nI len), .int (nI pl), .ref al, .int (nI dec), .ref r, .ref k, .ref k2, .ref v, .ref v2])), (v, .inr (4, [.ref wv, .ref nu, .int (nI nw), .ref su, .ref sa, .int (nI md)])), (nu, aI g 1024 num), (v2, .inr (4, [.ref wv, .ref nu2, .int (nI nw2), .ref su2, .ref sb2, .int (nI md2)])), (nu2, aI g 1024 num2)] s.heap [] := hw
  refine lv_iload_n hx hb dX6_memory_0 rfl (lv_at hl 1 rfl) ?_
  refine lv_if_ne (tgt := 13) hx hb dX6_memory_1 (by decide) (fun c_x => ?_) (fun c_x => ?_)
  · skip
    refine lv_iload_n hx hb dX6_memory_13 rfl (lv_at hl 1 rfl) ?_
    refine lv_iconst (v := nI 1) hx hb dX6_memory_14 (by decide) ?_
    refine lv_icmp_ne (tgt := 29) hx hb dX6_memory_15 (by decide) (fun c_y => ?_) (fun c_y => ?_)
    · skip
      refine lv_iconst (v := nI 0) hx hb dX6_memory_29 (by decide) ?_
      exact r_iret C hw (Nat.le_refl _) (Nat.le_refl _) (⟨by unfold memA; rw [if_neg c_x, if_neg c_y]; rfl, rfl⟩) dX6_memory_30
    · skip
      refine lv_aload_n hx hb dX6_memory_18 rfl (lv_at hl 0 rfl) ?_
      refine r_get C hw in_X6 0 rfl rfl 9 (by decide) lk59 rfl dX6_memory_19 ?_
      refine lv_iload_n hx hb dX6_memory_22 rfl (lv_at hl 2 rfl) ?_
      refine k_Vi (As := [.int y]) (rest := []) (wr := [(sb, .inr (6, [.ref tp, .int (nI len), .int (nI pl), .ref al, .int (nI dec), .ref r, .ref k, .ref k2, .ref v, .ref v2])), (v, .inr (4, [.ref wv, .ref nu, .int (nI nw), .ref su, .ref sa, .int (nI md)])), (nu, aI g 1024 num)]) C hw (c_numberAt l g _ v2 wv nu2 su2 sb2 nw2 md2 num2 y h2) (cwV 1 hts gX6_memory_X4_numberAt rfl rfl rfl (by decide +kernel) ⟨Nat.le_of_ble_eq_true rfl, Nat.le_of_ble_eq_true rfl⟩) bl_T (fun _ _ _ => trivial) [3, 4] [0, 1, 2] (by decide) rfl rfl (by decide) (by decide) 3 rfl rfl rfl hl.1 rfl (Nat.le_of_ble_eq_true rfl) dX6_memory_23 ⟨Nat.le_of_ble_eq_true rfl, Nat.le_of_ble_eq_true rfl⟩ (fun r_1 u H locs hp hw => ?_)
      obtain ⟨rfl, rfl⟩ := hp
      have hw := Wd.sub (ws' := [(sb, .inr (6, [.ref tp, .int (nI len), .int (nI pl), .ref al, .int (nI dec), .ref r, .ref k, .ref k2, .ref v, .ref v2])), (v, .inr (4, [.ref wv, .ref nu, .int (nI nw), .ref su, .ref sa, .int (nI md)])), (nu, aI g 1024 num), (v2, .inr (4, [.ref wv, .ref nu2, .int (nI nw2), .ref su2, .ref sb2, .int (nI md2)])), (nu2, aI g 1024 num2)]) hw [0, 1, 2, 3, 4] (by decide) rfl
      refine lv_goto (tgt := 30) hx hb dX6_memory_26 (by decide) ?_
      exact r_iret C hw (Nat.le_refl _) (Nat.le_refl _) (⟨by unfold memA; rw [if_neg c_x, if_pos c_y], rfl⟩) dX6_memory_30
  · skip
    refine lv_aload_n hx hb dX6_memory_4 rfl (lv_at hl 0 rfl) ?_
    refine r_get C hw in_X6 0 rfl rfl 8 (by decide) lk55 rfl dX6_memory_5 ?_
    refine lv_iload_n hx hb dX6_memory_8 rfl (lv_at hl 2 rfl) ?_
    refine k_Vi (As := [.int y]) (rest := []) (wr := [(sb, .inr (6, [.ref tp, .int (nI len), .int (nI pl), .ref al, .int (nI dec), .ref r, .ref k, .ref k2, .ref v, .ref v2])), (v2, .inr (4, [.ref wv, .ref nu2, .int (nI nw2), .ref su2, .ref sb2, .int (nI md2)])), (nu2, aI g 1024 num2)]) C hw (c_numberAt l g _ v wv nu su sa nw md num y h1) (cwV 1 hts gX6_memory_X4_numberAt rfl rfl rfl (by decide +kernel) ⟨Nat.le_of_ble_eq_true rfl, Nat.le_of_ble_eq_true rfl⟩) bl_T (fun _ _ _ => trivial) [1, 2] [0, 3, 4] (by decide) rfl rfl (by decide) (by decide) 1 rfl rfl rfl hl.1 rfl (Nat.le_of_ble_eq_true rfl) dX6_memory_9 ⟨Nat.le_of_ble_eq_true rfl, Nat.le_of_ble_eq_true rfl⟩ (fun r_2 u H locs hp hw => ?_)
    obtain ⟨rfl, rfl⟩ := hp
    have hw := Wd.sub (ws' := [(sb, .inr (6, [.ref tp, .int (nI len), .int (nI pl), .ref al, .int (nI dec), .ref r, .ref k, .ref k2, .ref v, .ref v2])), (v, .inr (4, [.ref wv, .ref nu, .int (nI nw), .ref su, .ref sa, .int (nI md)])), (nu, aI g 1024 num), (v2, .inr (4, [.ref wv, .ref nu2, .int (nI nw2), .ref su2, .ref sb2, .int (nI md2)])), (nu2, aI g 1024 num2)]) hw [0, 3, 4, 1, 2] (by decide) rfl
    exact r_iret C hw (Nat.le_refl _) (Nat.le_refl _) (⟨by unfold memA; rw [if_pos c_x], rfl⟩) dX6_memory_12
abbrev rm_c_count : Room := { frames := 1, cells := 0, slots := 0, locals := 20 }
set_option maxHeartbeats 4000000 in
set_option maxRecDepth 100000 in
theorem c_count (l : Launch) (g : GT) (sz : Nat) (sb tp len pl al dec r k k2 v v2 : Nat) (wv nu su sa nw md nu2 su2 sb2 nw2 md2 : Nat) (ed n : Nat) (mc_ : Int32) (x : Int32) : CtI l g yX6_count wsX6_count rm_c_count [.ref sb, .int x] [(sb, .inr (6, [.ref tp, .int (nI len), .int (nI pl), .ref al, .int (nI dec), .ref r, .ref k, .ref k2, .ref v, .ref v2])), (al, .inr (8, [.int mc_, .ref ed, .int (nI n)])), (v, .inr (4, [.ref wv, .ref nu, .int (nI nw), .ref su, .ref sa, .int (nI md)])), (v2, .inr (4, [.ref wv, .ref nu2, .int (nI nw2), .ref su2, .ref sb2, .int (nI md2)]))] sz (fun _ => True) (fun rr u => rr = selX x 6 (countA len pl n dec md md2) (-1) ∧ u = [(sb, .inr (6, [.ref tp, .int (nI len), .int (nI pl), .ref al, .int (nI dec), .ref r, .ref k, .ref k2, .ref v, .ref v2])), (al, .inr (8, [.int mc_, .ref ed, .int (nI n)])), (v, .inr (4, [.ref wv, .ref nu, .int (nI nw), .ref su, .ref sa, .int (nI md)])), (v2, .inr (4, [.ref wv, .ref nu2, .int (nI nw2), .ref su2, .ref sb2, .int (nI md2)]))]) (0) (0) := by
  refine ct_body (cc := cX6_count) (nL := 2) (ret := (some .int)) (by decide) rfl (Nat.le_of_ble_eq_true rfl) ?_
  intro p e s m below meth c ls C hin hsz hB hw hl
  obtain ⟨hx, hb, hml, hown, hts, hK, hA, hr, hlk⟩ := id C
  have lk13 := hts (.fieldLink RX6 13 "SoundBench" "length" "I") (by decide +kernel)
  have lk17 := hts (.fieldLink RX6 17 "SoundBench" "place" "I") (by decide +kernel)
  have lk23 := hts (.fieldLink RX6 23 "SoundBench" "frames" "Ljava/util/ArrayList;") (by decide +kernel)
  have lk27 := hts (.fieldLink RX6 27 "SoundBench" "decoded" "I") (by decide +kernel)
  have lk55 := hts (.fieldLink RX6 55 "SoundBench" "firstVoice" "LSoundBench$Voice;") (by decide +kernel)
  have lk59 := hts (.fieldLink RX6 59 "SoundBench" "secondVoice" "LSoundBench$Voice;") (by decide +kernel)
  have lk124 := hts (.fieldLink RX6 124 "SoundBench$Voice" "made" "I") (by decide +kernel)
  have in_X6 : ∀ w ∈ wsX60, w ∈ wsX6_count := by unfold wsX6_count; intro w h; simp only [List.mem_cons, List.mem_append, h, or_true, true_or]
  have in_X4 : ∀ w ∈ wsX40, w ∈ wsX6_count := by unfold wsX6_count; intro w h; simp only [List.mem_cons, List.mem_append, h, or_true, true_or]
  have hl : lv_has ls 2 [(0, .ref sb), (1, .int x)] := hl
  have hw : Wd g (va_A [(sb, .inr (6, [.ref tp, .int (nI len), .int (nI pl), .ref al, .int (nI dec), .ref r, .ref k, .ref k2, .ref v, .ref v2])), (al, .inr (8, [.int mc_, .ref ed, .int (nI n)])), (v, .inr (4, [.ref wv, .ref nu, .int (nI nw), .ref su, .ref sa, .int (nI md)])), (v2, .inr (4, [.ref wv, .ref nu2, .int (nI nw2), .ref su2, .ref sb2, .int (nI md2)]))] sz) s.heap [(sb, .inr (6, [.ref tp, .int (nI len), .int (nI pl), .ref al, .int (nI dec), .ref r, .ref k, .ref k2, .ref v, .ref v2])), (al, .inr (8, [.int mc_, .ref ed, .int (nI n)])), (v, .inr (4, [.ref wv, .ref nu, .int (nI nw), .ref su, .ref sa, .int (nI md)])), (v2, .inr (4, [.ref wv, .ref nu2, .int (nI nw2), .ref su2, .ref sb2, .int (nI md2)]))] s.heap [] := hw
  refine lv_iload_n hx hb dX6_count_0 rfl (lv_at hl 1 rfl) ?_
  rcases swx (x) 6 (by decide) with ⟨k_1, hk_1, ek_1⟩ | hk_1
  · obtain rfl | rfl | rfl | rfl | rfl | rfl : k_1 = 0 ∨ k_1 = 1 ∨ k_1 = 2 ∨ k_1 = 3 ∨ k_1 = 4 ∨ k_1 = 5 := by omega
    · refine lv_tableIn (off := 39) (tgt := 40) hx hb dX6_count_1 (by rw [ek_1]; decide) (by rw [ek_1]; decide) (by rw [ek_1]; decide) (by decide) ?_
      refine lv_aload_n hx hb dX6_count_40 rfl (lv_at hl 0 rfl) ?_
      refine r_get C hw in_X6 0 rfl rfl 1 (by decide) lk13 rfl dX6_count_41 ?_
      exact r_iret C hw (Nat.le_refl _) (Nat.le_refl _) (⟨by rw [ek_1, selX_in (by omega) (by omega)]; rfl, rfl⟩) dX6_count_44
    · refine lv_tableIn (off := 44) (tgt := 45) hx hb dX6_count_1 (by rw [ek_1]; decide) (by rw [ek_1]; decide) (by rw [ek_1]; decide) (by decide) ?_
      refine lv_aload_n hx hb dX6_count_45 rfl (lv_at hl 0 rfl) ?_
      refine r_get C hw in_X6 0 rfl rfl 2 (by decide) lk17 rfl dX6_count_46 ?_
      exact r_iret C hw (Nat.le_refl _) (Nat.le_refl _) (⟨by rw [ek_1, selX_in (by omega) (by omega)]; rfl, rfl⟩) dX6_count_49
    · refine lv_tableIn (off := 49) (tgt := 50) hx hb dX6_count_1 (by rw [ek_1]; decide) (by rw [ek_1]; decide) (by rw [ek_1]; decide) (by decide) ?_
      refine lv_aload_n hx hb dX6_count_50 rfl (lv_at hl 0 rfl) ?_
      refine r_get C hw in_X6 0 rfl rfl 3 (by decide) lk23 rfl dX6_count_51 ?_
      refine k_Vi (As := []) (rest := []) (wr := [(sb, .inr (6, [.ref tp, .int (nI len), .int (nI pl), .ref al, .int (nI dec), .ref r, .ref k, .ref k2, .ref v, .ref v2])), (v, .inr (4, [.ref wv, .ref nu, .int (nI nw), .ref su, .ref sa, .int (nI md)])), (v2, .inr (4, [.ref wv, .ref nu2, .int (nI nw2), .ref su2, .ref sb2, .int (nI md2)]))]) C hw (c_alSize l g _ al ed n mc_) (cwV 0 hts gX6_count_Jx4a65c_size_8abf5 rfl rfl rfl (by decide +kernel) ⟨Nat.le_of_ble_eq_true rfl, Nat.le_of_ble_eq_true rfl⟩) bl_T (fun _ _ _ => trivial) [1] [0, 2, 3] (by decide) rfl rfl (by decide) (by decide) 1 rfl rfl rfl hl.1 rfl (Nat.le_of_ble_eq_true rfl) dX6_count_54 ⟨Nat.le_of_ble_eq_true rfl, Nat.le_of_ble_eq_true rfl⟩ (fun r_2 u H locs hp hw => ?_)
      obtain ⟨rfl, rfl⟩ := hp
      have hw := Wd.sub (ws' := [(sb, .inr (6, [.ref tp, .int (nI len), .int (nI pl), .ref al, .int (nI dec), .ref r, .ref k, .ref k2, .ref v, .ref v2])), (al, .inr (8, [.int mc_, .ref ed, .int (nI n)])), (v, .inr (4, [.ref wv, .ref nu, .int (nI nw), .ref su, .ref sa, .int (nI md)])), (v2, .inr (4, [.ref wv, .ref nu2, .int (nI nw2), .ref su2, .ref sb2, .int (nI md2)]))]) hw [0, 3, 1, 2] (by decide) rfl
      exact r_iret C hw (Nat.le_refl _) (Nat.le_refl _) (⟨by rw [ek_1, selX_in (by omega) (by omega)]; rfl, rfl⟩) dX6_count_57
    · refine lv_tableIn (off := 57) (tgt := 58) hx hb dX6_count_1 (by rw [ek_1]; decide) (by rw [ek_1]; decide) (by rw [ek_1]; decide) (by decide) ?_
      refine lv_aload_n hx hb dX6_count_58 rfl (lv_at hl 0 rfl) ?_
      refine r_get C hw in_X6 0 rfl rfl 4 (by decide) lk27 rfl dX6_count_59 ?_
      exact r_iret C hw (Nat.le_refl _) (Nat.le_refl _) (⟨by rw [ek_1, selX_in (by omega) (by omega)]; rfl, rfl⟩) dX6_count_62
    · refine lv_tableIn (off := 62) (tgt := 63) hx hb dX6_count_1 (by rw [ek_1]; decide) (by rw [ek_1]; decide) (by rw [ek_1]; decide) (by decide) ?_
      refine lv_aload_n hx hb dX6_count_63 rfl (lv_at hl 0 rfl) ?_
      refine r_get C hw in_X6 0 rfl rfl 8 (by decide) lk55 rfl dX6_count_64 ?_
      refine r_get C hw in_X4 2 rfl rfl 5 (by decide) lk124 rfl dX6_count_67 ?_
      exact r_iret C hw (Nat.le_refl _) (Nat.le_refl _) (⟨by rw [ek_1, selX_in (by omega) (by omega)]; rfl, rfl⟩) dX6_count_70
    · refine lv_tableIn (off := 70) (tgt := 71) hx hb dX6_count_1 (by rw [ek_1]; decide) (by rw [ek_1]; decide) (by rw [ek_1]; decide) (by decide) ?_
      refine lv_aload_n hx hb dX6_count_71 rfl (lv_at hl 0 rfl) ?_
      refine r_get C hw in_X6 0 rfl rfl 9 (by decide) lk59 rfl dX6_count_72 ?_
      refine r_get C hw in_X4 3 rfl rfl 5 (by decide) lk124 rfl dX6_count_75 ?_
      exact r_iret C hw (Nat.le_refl _) (Nat.le_refl _) (⟨by rw [ek_1, selX_in (by omega) (by omega)]; rfl, rfl⟩) dX6_count_78
  · refine lv_tableOut (tgt := 79) hx hb dX6_count_1 (by omega) (by decide) ?_
    refine lv_iconst (v := (-1)) hx hb dX6_count_79 (by decide) ?_
    exact r_iret C hw (Nat.le_refl _) (Nat.le_refl _) (⟨by rw [selX_out (by omega)], rfl⟩) dX6_count_80
