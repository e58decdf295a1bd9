abbrev rm_c_bandIndex : Room := { frames := 0, cells := 0, slots := 0, locals := 0 }
set_option maxHeartbeats 4000000 in
set_option maxRecDepth 100000 in
theorem c_bandIndex (l : Launch) (g : GT) (sz : Nat) (a b : Nat) : CtI l g yX1_bandIndex wsX1_bandIndex rm_c_bandIndex [.int (nI a), .int (nI b)] [] sz (fun _ => True) (fun r u => r = nI (a * 32 + b) ∧ u = []) (0) (0) := by
  refine ct_body (cc := cX1_bandIndex) (nL := 2) (ret := (some .int)) (by decide) rfl (Nat.le_of_ble_eq_true rfl) ?_
  intro p e s m below meth c ls C hin hsz hB hw hl
  obtain ⟨hx, hb, hml, hown, hts, hK, hA, hr, hlk⟩ := id C
  have hl : lv_has ls 2 [(0, .int (nI a)), (1, .int (nI b))] := hl
  have hw : Wd g (va_A [] sz) s.heap [] s.heap [] := hw
  refine lv_iload_n hx hb dX1_bandIndex_0 rfl (lv_at hl 0 rfl) ?_
  refine lv_bipush (v := nI 32) hx hb dX1_bandIndex_1 (by decide) ?_
  refine n_mul hx hb dX1_bandIndex_3 ?_
  refine lv_iload_n hx hb dX1_bandIndex_4 rfl (lv_at hl 1 rfl) ?_
  refine n_add hx hb dX1_bandIndex_5 ?_
  exact r_iret C hw (Nat.le_refl _) (Nat.le_refl _) (⟨rfl, rfl⟩) dX1_bandIndex_6
abbrev rm_c_rowIndex : Room := { frames := 0, cells := 0, slots := 0, locals := 0 }
set_option maxHeartbeats 4000000 in
set_option maxRecDepth 100000 in
theorem c_rowIndex (l : Launch) (g : GT) (sz : Nat) (a b : Nat) : CtI l g yX1_rowIndex wsX1_rowIndex rm_c_rowIndex [.int (nI a), .int (nI b)] [] sz (fun _ => True) (fun r u => r = nI ((a * 36 + b) * 32) ∧ u = []) (0) (0) := by
  refine ct_body (cc := cX1_rowIndex) (nL := 2) (ret := (some .int)) (by decide) rfl (Nat.le_of_ble_eq_true rfl) ?_
  intro p e s m below meth c ls C hin hsz hB hw hl
  obtain ⟨hx, hb, hml, hown, hts, hK, hA, hr, hlk⟩ := id C
  have hl : lv_has ls 2 [(0, .int (nI a)), (1, .int (nI b))] := hl
  have hw : Wd g (va_A [] sz) s.heap [] s.heap [] := hw
  refine lv_iload_n hx hb dX1_rowIndex_0 rfl (lv_at hl 0 rfl) ?_
  refine lv_bipush (v := nI 36) hx hb dX1_rowIndex_1 (by decide) ?_
  refine n_mul hx hb dX1_rowIndex_3 ?_
  refine lv_iload_n hx hb dX1_rowIndex_4 rfl (lv_at hl 1 rfl) ?_
  refine n_add hx hb dX1_rowIndex_5 ?_
  refine lv_bipush (v := nI 32) hx hb dX1_rowIndex_6 (by decide) ?_
  refine n_mul hx hb dX1_rowIndex_8 ?_
  exact r_iret C hw (Nat.le_refl _) (Nat.le_refl _) (⟨rfl, rfl⟩) dX1_rowIndex_9
abbrev rm_c_open : Room := { frames := 1, cells := 0, slots := 0, locals := 15 }
set_option maxHeartbeats 4000000 in
set_option maxRecDepth 100000 in
theorem c_open (l : Launch) (g : GT) (sz : Nat) (o tp0 tp n fb0 lim0 pos0 bey0 fb cnt : Nat) (f : Nat → Int32) (hn : n < 2 ^ 27) (hc : fb + cnt ≤ n) : CtV l g yX0_open wsX0_open rm_c_open [.ref o, .ref tp, .int (nI fb), .int (nI cnt)] [(o, .inr (0, [.ref tp0, .int (nI fb0), .int (nI lim0), .int (nI pos0), .int (nI bey0)])), (tp, aI g n f)] sz (fun _ => True) (fun u => u = [(o, .inr (0, [.ref tp, .int (nI fb), .int (nI (8 * cnt)), .int (nI 0), .int (nI 0)])), (tp, aI g n f)]) (0) (0) := by
  refine ct_body (cc := cX0_open) (nL := 4) (ret := none) (by decide) rfl (Nat.le_of_ble_eq_true rfl) ?_
  intro p e s m below meth c ls C hin hsz hB hw hl
  obtain ⟨hx, hb, hml, hown, hts, hK, hA, hr, hlk⟩ := id C
  have lk7 := hts (.fieldLink RX0 7 "SoundBench$Bits" "tape" "[I") (by decide +kernel)
  have lk19 := hts (.fieldLink RX0 19 "SoundBench$Bits" "firstByte" "I") (by decide +kernel)
  have lk26 := hts (.fieldLink RX0 26 "SoundBench$Bits" "limit" "I") (by decide +kernel)
  have lk29 := hts (.fieldLink RX0 29 "SoundBench$Bits" "position" "I") (by decide +kernel)
  have lk32 := hts (.fieldLink RX0 32 "SoundBench$Bits" "beyond" "Z") (by decide +kernel)
  have in_X0 : ∀ w ∈ wsX00, w ∈ wsX0_open := by unfold wsX0_open; intro w h; simp only [List.mem_cons, List.mem_append, h, or_true, true_or]
  have hl : lv_has ls 4 [(0, .ref o), (1, .ref tp), (2, .int (nI fb)), (3, .int (nI cnt))] := hl
  have hw : Wd g (va_A [(o, .inr (0, [.ref tp0, .int (nI fb0), .int (nI lim0), .int (nI pos0), .int (nI bey0)])), (tp, aI g n f)] sz) s.heap [(o, .inr (0, [.ref tp0, .int (nI fb0), .int (nI lim0), .int (nI pos0), .int (nI bey0)])), (tp, aI g n f)] s.heap [] := hw
  refine lv_aload_n hx hb dX0_open_0 rfl (lv_at hl 0 rfl) ?_
  refine lv_aload_n hx hb dX0_open_1 rfl (lv_at hl 1 rfl) ?_
  refine r_put C hw in_X0 tyX0_ok nmX0 0 rfl rfl 0 (by decide) lk7 rfl rfl rfl (Nat.le_of_ble_eq_true rfl) (ws' := [(o, .inr (0, [.ref tp, .int (nI fb0), .int (nI lim0), .int (nI pos0), .int (nI bey0)])), (tp, aI g n f)]) rfl dX0_open_2 (fun H locs hw => ?_)
  refine lv_aload_n hx hb dX0_open_5 rfl (lv_at hl 0 rfl) ?_
  refine lv_iload_n hx hb dX0_open_6 rfl (lv_at hl 2 rfl) ?_
  refine lv_iconst (v := nI 0) hx hb dX0_open_7 (by decide) ?_
  refine va_mmax hx hb (hml.trans hl.1.symm) hown (hts (.methodLink RX0 13 Lib.Math.max.name) (by decide +kernel)) (hts (.static Lib.Math.max.name) (by decide +kernel)) (hts (.initialized "java/lang/Math") (by decide +kernel)) (hts (.code Lib.Math.max.name Lib.Math.max.code 2 (some .int)) (by decide +kernel)) (Nat.le_of_ble_eq_true rfl) (Nat.le_of_ble_eq_true rfl) (Nat.le_of_ble_eq_true rfl) (Nat.le_of_ble_eq_true rfl) dX0_open_8 ?_
  refine tp1 (max_nI (by omega) (by omega)) ?_
  refine tp1 (v' := (nI fb)) (congrArg nI (by omega)) ?_
  refine r_put C hw in_X0 tyX0_ok nmX0 0 rfl rfl 1 (by decide) lk19 rfl rfl rfl (Nat.le_of_ble_eq_true rfl) (ws' := [(o, .inr (0, [.ref tp, .int (nI fb), .int (nI lim0), .int (nI pos0), .int (nI bey0)])), (tp, aI g n f)]) rfl dX0_open_11 (fun H locs hw => ?_)
  refine lv_aload_n hx hb dX0_open_14 rfl (lv_at hl 0 rfl) ?_
  refine lv_bipush (v := nI 8) hx hb dX0_open_15 (by decide) ?_
  refine lv_iload_n hx hb dX0_open_17 rfl (lv_at hl 3 rfl) ?_
  refine lv_aload_n hx hb dX0_open_18 rfl (lv_at hl 1 rfl) ?_
  refine r_alen C hw 1 0 rfl rfl rfl dX0_open_19 ?_
  refine lv_aload_n hx hb dX0_open_20 rfl (lv_at hl 0 rfl) ?_
  refine r_get C hw in_X0 0 rfl rfl 1 (by decide) lk19 rfl dX0_open_21 ?_
  refine n_sub hx hb dX0_open_24 (by omega) ?_
  refine va_mmin hx hb (hml.trans hl.1.symm) hown (hts (.methodLink RX0 23 Lib.Math.min.name) (by decide +kernel)) (hts (.static Lib.Math.min.name) (by decide +kernel)) (hts (.initialized "java/lang/Math") (by decide +kernel)) (hts (.code Lib.Math.min.name Lib.Math.min.code 2 (some .int)) (by decide +kernel)) (Nat.le_of_ble_eq_true rfl) (Nat.le_of_ble_eq_true rfl) (Nat.le_of_ble_eq_true rfl) (Nat.le_of_ble_eq_true rfl) dX0_open_25 ?_
  refine tp1 (min_nI (by omega) (by omega)) ?_
  refine tp1 (v' := (nI cnt)) (congrArg nI (by omega)) ?_
  refine n_mul hx hb dX0_open_28 ?_
  refine r_put C hw in_X0 tyX0_ok nmX0 0 rfl rfl 2 (by decide) lk26 rfl rfl rfl (Nat.le_of_ble_eq_true rfl) (ws' := [(o, .inr (0, [.ref tp, .int (nI fb), .int (nI (8 * cnt)), .int (nI pos0), .int (nI bey0)])), (tp, aI g n f)]) rfl dX0_open_29 (fun H locs hw => ?_)
  refine lv_aload_n hx hb dX0_open_32 rfl (lv_at hl 0 rfl) ?_
  refine lv_iconst (v := nI 0) hx hb dX0_open_33 (by decide) ?_
  refine r_put C hw in_X0 tyX0_ok nmX0 0 rfl rfl 3 (by decide) lk29 rfl rfl rfl (Nat.le_of_ble_eq_true rfl) (ws' := [(o, .inr (0, [.ref tp, .int (nI fb), .int (nI (8 * cnt)), .int (nI 0), .int (nI bey0)])), (tp, aI g n f)]) rfl dX0_open_34 (fun H locs hw => ?_)
  refine lv_aload_n hx hb dX0_open_37 rfl (lv_at hl 0 rfl) ?_
  refine lv_iconst (v := nI 0) hx hb dX0_open_38 (by decide) ?_
  refine r_put C hw in_X0 tyX0_ok nmX0 0 rfl rfl 4 (by decide) lk32 rfl (by decide) (by decide) (Nat.le_of_ble_eq_true rfl) (ws' := [(o, .inr (0, [.ref tp, .int (nI fb), .int (nI (8 * cnt)), .int (nI 0), .int (nI 0)])), (tp, aI g n f)]) rfl dX0_open_39 (fun H locs hw => ?_)
  exact r_vret C hw (Nat.le_refl _) (Nat.le_refl _) (rfl) dX0_open_42
abbrev rm_c_take : Room := { frames := 0, cells := 0, slots := 0, locals := 0 }
set_option maxHeartbeats 4000000 in
set_option maxRecDepth 100000 in
theorem c_take (l : Launch) (g : GT) (sz : Nat) (o tp n fb lim pos bey cnt : Nat) (T : Nat → Nat) (hT : ∀ j, T j < 256) (hn : n < 2 ^ 27) (hl1 : 8 * fb + lim ≤ 8 * n) (hp1 : pos ≤ lim) (hc : cnt ≤ 32) : CtI l g yX0_take wsX0_take rm_c_take [.ref o, .int (nI cnt)] [(o, .inr (0, [.ref tp, .int (nI fb), .int (nI lim), .int (nI pos), .int (nI bey)])), (tp, aI g n (fun j => nI (T j)))] sz (fun _ => True) (fun r u => r = nI (tkV T (8 * fb) lim pos cnt) ∧ u = [(o, .inr (0, [.ref tp, .int (nI fb), .int (nI lim), .int (nI (tkP lim pos cnt)), .int (nI (tkB lim pos cnt bey))])), (tp, aI g n (fun j => nI (T j)))]) (0) (0) := by
  refine ct_body (cc := cX0_take) (nL := 5) (ret := (some .int)) (by decide) rfl (Nat.le_of_ble_eq_true rfl) ?_
  intro p e s m below meth c ls C hin hsz hB hw hl
  obtain ⟨hx, hb, hml, hown, hts, hK, hA, hr, hlk⟩ := id C
  have lk7 := hts (.fieldLink RX0 7 "SoundBench$Bits" "tape" "[I") (by decide +kernel)
  have lk19 := hts (.fieldLink RX0 19 "SoundBench$Bits" "firstByte" "I") (by decide +kernel)
  have lk26 := hts (.fieldLink RX0 26 "SoundBench$Bits" "limit" "I") (by decide +kernel)
  have lk29 := hts (.fieldLink RX0 29 "SoundBench$Bits" "position" "I") (by decide +kernel)
  have lk32 := hts (.fieldLink RX0 32 "SoundBench$Bits" "beyond" "Z") (by decide +kernel)
  have in_X0 : ∀ w ∈ wsX00, w ∈ wsX0_take := by unfold wsX0_take; intro w h; simp only [List.mem_cons, List.mem_append, h, or_true, true_or]
  have hl : lv_has ls 5 [(0, .ref o), (1, .int (nI cnt))] := hl
  have hw : Wd g (va_A [(o, .inr (0, [.ref tp, .int (nI fb), .int (nI lim), .int (nI pos), .int (nI bey)])), (tp, aI g n (fun j => nI (T j)))] sz) s.heap [(o, .inr (0, [.ref tp, .int (nI fb), .int (nI lim), .int (nI pos), .int (nI bey)])), (tp, aI g n (fun j => nI (T j)))] s.heap [] := hw
  refine lv_aload_n hx hb dX0_take_0 rfl (lv_at hl 0 rfl) ?_
  refine r_get C hw in_X0 0 rfl rfl 3 (by decide) lk29 rfl dX0_take_1 ?_
  refine n_lt0 (tgt := 20) hx hb (by omega) dX0_take_4 (by decide) ?_
  refine lv_iload_n hx hb dX0_take_7 rfl (lv_at hl 1 rfl) ?_
  refine lv_aload_n hx hb dX0_take_8 rfl (lv_at hl 0 rfl) ?_
  refine r_get C hw in_X0 0 rfl rfl 2 (by decide) lk26 rfl dX0_take_9 ?_
  refine lv_aload_n hx hb dX0_take_12 rfl (lv_at hl 0 rfl) ?_
  refine r_get C hw in_X0 0 rfl rfl 3 (by decide) lk29 rfl dX0_take_13 ?_
  refine n_sub hx hb dX0_take_16 (by omega) ?_
  refine n_cle (tgt := 27) hx hb (by omega) (by omega) dX0_take_17 (by decide) (fun c_2 => ?_) (fun c_2 => ?_)
  · skip
    refine lv_iconst (v := nI 0) hx hb dX0_take_27 (by decide) ?_
    refine lv_istore_n (lv' := [(2, .int (nI 0)), (0, .ref o), (1, .int (nI cnt))]) hx hb dX0_take_28 rfl hl (by decide) rfl (fun ls hl => ?_)
    refine lv_iconst (v := nI 0) hx hb dX0_take_29 (by decide) ?_
    refine lv_istore_n (lv' := [(3, .int (nI 0)), (2, .int (nI 0)), (0, .ref o), (1, .int (nI cnt))]) hx hb dX0_take_30 rfl hl (by decide) rfl (fun ls hl => ?_)
    refine lpw (I := fun i H locs ls => Wd g (va_A [(o, .inr (0, [.ref tp, .int (nI fb), .int (nI lim), .int (nI pos), .int (nI bey)])), (tp, aI g n (fun j => nI (T j)))] sz) s.heap [(o, .inr (0, [.ref tp, .int (nI fb), .int (nI lim), .int (nI (pos + i)), .int (nI bey)])), (tp, aI g n (fun j => nI (T j)))] H locs ∧ lv_has ls 5 [(0, .ref o), (1, .int (nI cnt)), (2, .int (nI (bitsV T (8 * fb + pos) i))), (3, .int (nI i))]) (cnt) ?_ ?_ (0) (by omega) ⟨hw, (lv_sub hl [2, 3, 1, 0] rfl)⟩
    · intro H locs ls hI
      obtain ⟨hw, hl⟩ := hI
      refine lv_iload_n hx hb dX0_take_31 rfl (lv_at hl 3 rfl) ?_
      refine lv_iload_n hx hb dX0_take_32 rfl (lv_at hl 1 rfl) ?_
      refine n_cge (tgt := 90) hx hb (by omega) (by omega) dX0_take_33 (by decide) (fun c_3 => ?_) (fun c_3 => ?_)
      · skip
        refine lv_iload_n hx hb dX0_take_90 rfl (lv_at hl 2 rfl) ?_
        exact r_iret C hw (Nat.le_refl _) (Nat.le_refl _) (⟨by unfold tkV; rw [if_pos (by omega)], by unfold tkP tkB; rw [if_pos (by omega), if_pos (by omega)]⟩) dX0_take_91
      · skip
        exfalso; omega
    · intro i H locs ls hi hI K
      obtain ⟨hw, hl⟩ := hI
      have hv := bitsV_lt T (8 * fb + pos) i
      have hv2 := Nat.pow_le_pow_right (n := 2) (by omega) (show i ≤ 31 by omega)
      have hv3 : bitsV T (8 * fb + pos) i < 2147483648 := by omega
      have e1 : (8 * fb + pos + i) / 8 = fb + (pos + i) / 8 := by omega
      have e2 : (8 * fb + pos + i) % 8 = (pos + i) % 8 := by omega
      have hT1 := hT (fb + (pos + i) / 8)
      refine lv_iload_n hx hb dX0_take_31 rfl (lv_at hl 3 rfl) ?_
      refine lv_iload_n hx hb dX0_take_32 rfl (lv_at hl 1 rfl) ?_
      refine n_cge (tgt := 90) hx hb (by omega) (by omega) dX0_take_33 (by decide) (fun c_4 => ?_) (fun c_4 => ?_)
      · skip
        exfalso; omega
      · skip
        refine lv_aload_n hx hb dX0_take_36 rfl (lv_at hl 0 rfl) ?_
        refine r_get C hw in_X0 0 rfl rfl 0 (by decide) lk7 rfl dX0_take_37 ?_
        refine lv_aload_n hx hb dX0_take_40 rfl (lv_at hl 0 rfl) ?_
        refine r_get C hw in_X0 0 rfl rfl 1 (by decide) lk19 rfl dX0_take_41 ?_
        refine lv_aload_n hx hb dX0_take_44 rfl (lv_at hl 0 rfl) ?_
        refine r_get C hw in_X0 0 rfl rfl 3 (by decide) lk29 rfl dX0_take_45 ?_
        refine lv_iconst (v := nI 3) hx hb dX0_take_48 (by decide) ?_
        refine n_shr (d := 8) hx hb (by decide) (by omega) (by omega) dX0_take_49 ?_
        refine n_add hx hb dX0_take_50 ?_
        refine r_iald C hw 1 rfl (by omega) (by omega) dX0_take_51 ?_
        refine lv_bipush (v := nI 7) hx hb dX0_take_52 (by decide) ?_
        refine lv_aload_n hx hb dX0_take_54 rfl (lv_at hl 0 rfl) ?_
        refine r_get C hw in_X0 0 rfl rfl 3 (by decide) lk29 rfl dX0_take_55 ?_
        refine lv_bipush (v := nI 7) hx hb dX0_take_58 (by decide) ?_
        refine n_and (d := 8) hx hb 3 (by decide) (by decide) (by omega) (by omega) dX0_take_60 ?_
        refine n_sub hx hb dX0_take_61 (by omega) ?_
        refine n_shr (d := 2 ^ (7 - ((pos + i) % 8))) hx hb rfl (by omega) (by omega) dX0_take_62 ?_
        refine lv_iconst (v := nI 1) hx hb dX0_take_63 (by decide) ?_
        refine n_and (d := 2) hx hb 1 (by decide) (by decide) (by omega) (Nat.lt_of_le_of_lt (Nat.div_le_self _ _) (by omega)) dX0_take_64 ?_
        refine lv_istore (lv' := [(4, .int (nI (((T (fb + (pos + i) / 8)) / (2 ^ (7 - ((pos + i) % 8)))) % 2))), (0, .ref o), (1, .int (nI cnt)), (2, .int (nI (bitsV T (8 * fb + pos) i))), (3, .int (nI i))]) hx hb dX0_take_65 hl (by decide) rfl (fun ls hl => ?_)
        refine lv_iload_n hx hb dX0_take_67 rfl (lv_at hl 3 rfl) ?_
        refine lv_iconst (v := nI 1) hx hb dX0_take_68 (by decide) ?_
        refine n_shl (d := 2) hx hb (by decide) (by omega) (by omega) dX0_take_69 ?_
        refine lv_iload hx hb dX0_take_70 (lv_at hl 0 rfl) ?_
        refine lv_ior hx hb dX0_take_72 ?_
        refine tp1 (v' := (nI (bitsV T (8 * fb + pos) (i + 1)))) (by rw [or1 _ _ (Nat.mod_lt _ (by omega)), bitsV_s, bitAt, e1, e2]) ?_
        refine lv_istore_n (lv' := [(2, .int (nI (bitsV T (8 * fb + pos) (i + 1)))), (4, .int (nI (((T (fb + (pos + i) / 8)) / (2 ^ (7 - ((pos + i) % 8)))) % 2))), (0, .ref o), (1, .int (nI cnt)), (3, .int (nI i))]) hx hb dX0_take_73 rfl hl (by decide) rfl (fun ls hl => ?_)
        refine lv_aload_n hx hb dX0_take_74 rfl (lv_at hl 2 rfl) ?_
        refine lv_dup hx hb dX0_take_75 rfl ?_
        refine r_get C hw in_X0 0 rfl rfl 3 (by decide) lk29 rfl dX0_take_76 ?_
        refine lv_iconst (v := nI 1) hx hb dX0_take_79 (by decide) ?_
        refine n_add hx hb dX0_take_80 ?_
        refine r_put C hw in_X0 tyX0_ok nmX0 0 rfl rfl 3 (by decide) lk29 rfl rfl rfl (Nat.le_of_ble_eq_true rfl) (ws' := [(o, .inr (0, [.ref tp, .int (nI fb), .int (nI lim), .int (nI ((pos + i) + 1)), .int (nI bey)])), (tp, aI g n (fun j => nI (T j)))]) rfl dX0_take_81 (fun H locs hw => ?_)
        refine lv_iinc (v := (nI (i + 1))) (lv' := [(3, .int (nI (i + 1))), (2, .int (nI (bitsV T (8 * fb + pos) (i + 1)))), (4, .int (nI (((T (fb + (pos + i) / 8)) / (2 ^ (7 - ((pos + i) % 8)))) % 2))), (0, .ref o), (1, .int (nI cnt))]) hx hb dX0_take_84 hl (k := 4) rfl (nI_add _ _) (by decide) rfl (fun ls hl => ?_)
        refine lv_goto (tgt := 31) hx hb dX0_take_87 (by decide) ?_
        exact K _ _ _ ⟨hw, (lv_sub hl [3, 4, 1, 0] rfl)⟩
  · skip
    refine lv_aload_n hx hb dX0_take_20 rfl (lv_at hl 0 rfl) ?_
    refine lv_iconst (v := nI 1) hx hb dX0_take_21 (by decide) ?_
    refine r_put C hw in_X0 tyX0_ok nmX0 0 rfl rfl 4 (by decide) lk32 rfl (by decide) (by decide) (Nat.le_of_ble_eq_true rfl) (ws' := [(o, .inr (0, [.ref tp, .int (nI fb), .int (nI lim), .int (nI pos), .int (nI 1)])), (tp, aI g n (fun j => nI (T j)))]) rfl dX0_take_22 (fun H locs hw => ?_)
    refine lv_iconst (v := nI 0) hx hb dX0_take_25 (by decide) ?_
    exact r_iret C hw (Nat.le_refl _) (Nat.le_refl _) (⟨by unfold tkV; rw [if_neg (by omega)], by unfold tkP tkB; rw [if_neg (by omega), if_neg (by omega)]⟩) dX0_take_26
