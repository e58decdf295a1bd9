abbrev rm_c_weightedSum : Room := { frames := 1, cells := 0, slots := 0, locals := 21 }
set_option maxHeartbeats 4000000 in
set_option maxRecDepth 100000 in
theorem c_weightedSum (l : Launch) (g : GT) (sz : Nat) (v wv nu su sa nw md cap a b : Nat) (sm : Nat → Int32) (h1 : md ≤ cap) (h2 : cap < 2 ^ 30) (h3 : a < 2 ^ 31) (h4 : b < 2 ^ 31) : CtI l g yX4_weightedSum wsX4_weightedSum rm_c_weightedSum [.ref v, .int (nI a), .int (nI b)] [(v, .inr (4, [.ref wv, .ref nu, .int (nI nw), .ref su, .ref sa, .int (nI md)])), (sa, aI g cap sm)] sz (fun _ => True) (fun rr u => rr = lp (wsF sm a) (min b md - a) 0 ∧ u = [(v, .inr (4, [.ref wv, .ref nu, .int (nI nw), .ref su, .ref sa, .int (nI md)])), (sa, aI g cap sm)]) (0) (0) := by
  refine ct_body (cc := cX4_weightedSum) (nL := 6) (ret := (some .int)) (by decide) rfl (Nat.le_of_ble_eq_true rfl) ?_
  intro p e s m below meth c ls C hin hsz hB hw hl
  obtain ⟨hx, hb, hml, hown, hts, hK, hA, hr, hlk⟩ := id C
  have lk36 := hts (.fieldLink RX4 36 "SoundBench$Voice" "made" "I") (by decide +kernel)
  have in_X4 : ∀ w ∈ wsX40, w ∈ wsX4_weightedSum := by unfold wsX4_weightedSum; intro w h; simp only [List.mem_cons, List.mem_append, h, or_true, true_or]
  have hl : lv_has ls 6 [(0, .ref v), (1, .int (nI a)), (2, .int (nI b))] := hl
  have hw : Wd g (va_A [(v, .inr (4, [.ref wv, .ref nu, .int (nI nw), .ref su, .ref sa, .int (nI md)])), (sa, aI g cap sm)] sz) s.heap [(v, .inr (4, [.ref wv, .ref nu, .int (nI nw), .ref su, .ref sa, .int (nI md)])), (sa, aI g cap sm)] s.heap [] := hw
  refine lv_iload_n hx hb dX4_weightedSum_0 rfl (lv_at hl 2 rfl) ?_
  refine lv_aload_n hx hb dX4_weightedSum_1 rfl (lv_at hl 0 rfl) ?_
  refine r_get C hw in_X4 0 rfl rfl 5 (by decide) lk36 rfl dX4_weightedSum_2 ?_
  refine va_mmin hx hb (hml.trans hl.1.symm) hown (hts (.methodLink RX4 39 Lib.Math.min.name) (by decide +kernel)) (hts (.static Lib.Math.min.name) (by decide +kernel)) (hts (.initialized "java/lang/Math") (by decide +kernel)) (hts (.code Lib.Math.min.name Lib.Math.min.code 2 (some .int)) (by decide +kernel)) (Nat.le_of_ble_eq_true rfl) (Nat.le_of_ble_eq_true rfl) (Nat.le_of_ble_eq_true rfl) (Nat.le_of_ble_eq_true rfl) dX4_weightedSum_5 ?_
  refine tp1 (min_nI (by omega) (by omega)) ?_
  refine lv_istore_n (lv' := [(3, .int (nI (min b md))), (0, .ref v), (1, .int (nI a)), (2, .int (nI b))]) hx hb dX4_weightedSum_8 rfl hl (by decide) rfl (fun ls hl => ?_)
  refine lv_iconst (v := nI 0) hx hb dX4_weightedSum_9 (by decide) ?_
  refine lv_istore (lv' := [(4, .int (nI 0)), (3, .int (nI (min b md))), (0, .ref v), (1, .int (nI a)), (2, .int (nI b))]) hx hb dX4_weightedSum_10 hl (by decide) rfl (fun ls hl => ?_)
  refine lv_iload_n hx hb dX4_weightedSum_12 rfl (lv_at hl 3 rfl) ?_
  refine lv_istore (lv' := [(5, .int (nI a)), (4, .int (nI 0)), (3, .int (nI (min b md))), (0, .ref v), (1, .int (nI a)), (2, .int (nI b))]) hx hb dX4_weightedSum_13 hl (by decide) rfl (fun ls hl => ?_)
  refine lps (σ := Int32) (wsF sm a) (fun i x => True) (fun i x H locs ls => Wd g (va_A [(v, .inr (4, [.ref wv, .ref nu, .int (nI nw), .ref su, .ref sa, .int (nI md)])), (sa, aI g cap sm)] sz) s.heap [(v, .inr (4, [.ref wv, .ref nu, .int (nI nw), .ref su, .ref sa, .int (nI md)])), (sa, aI g cap sm)] H locs ∧ lv_has ls 6 [(0, .ref v), (1, .int (nI a)), (3, .int (nI (min b md))), (4, .int x), (5, .int (nI (a + i)))]) (min b md - a) (0) ?_ ?_ (trivial) ⟨hw, (lv_sub hl [3, 4, 2, 1, 0] rfl)⟩
  · intro x hJ hx_ H locs ls hI
    subst hx_
    obtain ⟨hw, hl⟩ := hI
    have hw : Wd g (va_A [(v, .inr (4, [.ref wv, .ref nu, .int (nI nw), .ref su, .ref sa, .int (nI md)])), (sa, aI g cap sm)] sz) s.heap [(v, .inr (4, [.ref wv, .ref nu, .int (nI nw), .ref su, .ref sa, .int (nI md)])), (sa, aI g cap sm)] H locs := hw
    have hl : lv_has ls 6 [(0, .ref v), (1, .int (nI a)), (3, .int (nI (min b md))), (4, .int (lp (wsF sm a) (min b md - a) 0)), (5, .int (nI (a + (min b md - a))))] := hl
    refine lv_iload hx hb dX4_weightedSum_15 (lv_at hl 4 rfl) ?_
    refine lv_iload_n hx hb dX4_weightedSum_17 rfl (lv_at hl 2 rfl) ?_
    refine n_cge (tgt := 45) hx hb (by omega) (by omega) dX4_weightedSum_18 (by decide) (fun c_1 => ?_) (fun c_1 => ?_)
    · skip
      refine lv_iload hx hb dX4_weightedSum_45 (lv_at hl 3 rfl) ?_
      exact r_iret C hw (Nat.le_refl _) (Nat.le_refl _) (⟨rfl, rfl⟩) dX4_weightedSum_47
    · skip
      exfalso; omega
  · intro i x hi hJ hxe H locs ls hI K
    obtain ⟨hw, hl⟩ := hI
    have hw : Wd g (va_A [(v, .inr (4, [.ref wv, .ref nu, .int (nI nw), .ref su, .ref sa, .int (nI md)])), (sa, aI g cap sm)] sz) s.heap [(v, .inr (4, [.ref wv, .ref nu, .int (nI nw), .ref su, .ref sa, .int (nI md)])), (sa, aI g cap sm)] H locs := hw
    have hl : lv_has ls 6 [(0, .ref v), (1, .int (nI a)), (3, .int (nI (min b md))), (4, .int x), (5, .int (nI (a + i)))] := hl
    refine lv_iload hx hb dX4_weightedSum_15 (lv_at hl 4 rfl) ?_
    refine lv_iload_n hx hb dX4_weightedSum_17 rfl (lv_at hl 2 rfl) ?_
    refine n_cge (tgt := 45) hx hb (by omega) (by omega) dX4_weightedSum_18 (by decide) (fun c_2 => ?_) (fun c_2 => ?_)
    · skip
      exfalso; omega
    · skip
      refine lv_iload hx hb dX4_weightedSum_21 (lv_at hl 3 rfl) ?_
      refine lv_aload_n hx hb dX4_weightedSum_23 rfl (lv_at hl 0 rfl) ?_
      refine lv_iload hx hb dX4_weightedSum_24 (lv_at hl 4 rfl) ?_
      refine k_Vi (As := [.int (nI (a + i))]) (rest := [.int x]) (wr := []) C hw (c_sampleAt l g _ v wv nu su sa nw md cap sm (nI (a + i)) (by omega) (by omega)) (cwV 1 hts gX4_weightedSum_X4_sampleAt rfl rfl rfl (by decide +kernel) ⟨Nat.le_of_ble_eq_true rfl, Nat.le_of_ble_eq_true rfl⟩) bl_T (fun _ _ _ => trivial) [0, 1] [] (by decide) rfl rfl (by decide) (by decide) 0 rfl rfl rfl hl.1 rfl (Nat.le_of_ble_eq_true rfl) dX4_weightedSum_26 ⟨Nat.le_of_ble_eq_true rfl, Nat.le_of_ble_eq_true rfl⟩ (fun r_3 u H locs hp hw => ?_)
      obtain ⟨rfl, rfl⟩ := hp
      have hw := Wd.sub (ws' := [(v, .inr (4, [.ref wv, .ref nu, .int (nI nw), .ref su, .ref sa, .int (nI md)])), (sa, aI g cap sm)]) hw [0, 1] (by decide) rfl
      refine tp1 (v' := (sm (a + i))) (selX_in (by omega) (by omega)) ?_
      refine lv_iload hx hb dX4_weightedSum_29 (lv_at hl 4 rfl) ?_
      refine lv_iload_n hx hb dX4_weightedSum_31 rfl (lv_at hl 1 rfl) ?_
      refine n_sub hx hb dX4_weightedSum_32 (by omega) ?_
      refine lv_iconst (v := nI 1) hx hb dX4_weightedSum_33 (by decide) ?_
      refine n_add hx hb dX4_weightedSum_34 ?_
      refine tp1 (v' := (nI (i + 1))) (congrArg nI (by omega)) ?_
      refine lv_imul hx hb dX4_weightedSum_35 ?_
      refine lv_iadd hx hb dX4_weightedSum_36 ?_
      refine lv_istore (lv' := [(4, .int (x + ((sm (a + i)) * (nI (i + 1))))), (0, .ref v), (1, .int (nI a)), (3, .int (nI (min b md))), (5, .int (nI (a + i)))]) hx hb dX4_weightedSum_37 hl (by decide) rfl (fun ls hl => ?_)
      refine lv_iinc (v := (nI (a + i + 1))) (lv' := [(5, .int (nI (a + i + 1))), (4, .int (x + ((sm (a + i)) * (nI (i + 1))))), (0, .ref v), (1, .int (nI a)), (3, .int (nI (min b md)))]) hx hb dX4_weightedSum_39 hl (k := 4) rfl (nI_add _ _) (by decide) rfl (fun ls hl => ?_)
      refine lv_goto (tgt := 15) hx hb dX4_weightedSum_42 (by decide) ?_
      exact K (trivial) _ _ _ ⟨hw, (lv_sub hl [2, 3, 4, 1, 0] rfl)⟩
abbrev rm_c_weightedSum0 : Room := { frames := 1, cells := 0, slots := 0, locals := 13 }
set_option maxHeartbeats 4000000 in
set_option maxRecDepth 100000 in
theorem c_weightedSum0 (l : Launch) (g : GT) (sz : Nat) (v wv nu su sa nw md cap a : Nat) (y : Int32) (sm : Nat → Int32) (h2 : md < 2 ^ 30) (h3 : a < 2 ^ 31) (h4 : y < 0) : CtI l g yX4_weightedSum wsX4_weightedSum rm_c_weightedSum0 [.ref v, .int (nI a), .int y] [(v, .inr (4, [.ref wv, .ref nu, .int (nI nw), .ref su, .ref sa, .int (nI md)])), (sa, aI g cap sm)] sz (fun _ => True) (fun rr u => rr = 0 ∧ u = [(v, .inr (4, [.ref wv, .ref nu, .int (nI nw), .ref su, .ref sa, .int (nI md)])), (sa, aI g cap sm)]) (0) (0) := by
  refine ct_body (cc := cX4_weightedSum) (nL := 6) (ret := (some .int)) (by decide) rfl (Nat.le_of_ble_eq_true rfl) ?_
  intro p e s m below meth c ls C hin hsz hB hw hl
  obtain ⟨hx, hb, hml, hown, hts, hK, hA, hr, hlk⟩ := id C
  have lk36 := hts (.fieldLink RX4 36 "SoundBench$Voice" "made" "I") (by decide +kernel)
  have in_X4 : ∀ w ∈ wsX40, w ∈ wsX4_weightedSum := by unfold wsX4_weightedSum; intro w h; simp only [List.mem_cons, List.mem_append, h, or_true, true_or]
  have hl : lv_has ls 6 [(0, .ref v), (1, .int (nI a)), (2, .int y)] := hl
  have hw : Wd g (va_A [(v, .inr (4, [.ref wv, .ref nu, .int (nI nw), .ref su, .ref sa, .int (nI md)])), (sa, aI g cap sm)] sz) s.heap [(v, .inr (4, [.ref wv, .ref nu, .int (nI nw), .ref su, .ref sa, .int (nI md)])), (sa, aI g cap sm)] s.heap [] := hw
  refine lv_iload_n hx hb dX4_weightedSum_0 rfl (lv_at hl 2 rfl) ?_
  refine lv_aload_n hx hb dX4_weightedSum_1 rfl (lv_at hl 0 rfl) ?_
  refine r_get C hw in_X4 0 rfl rfl 5 (by decide) lk36 rfl dX4_weightedSum_2 ?_
  refine va_mmin hx hb (hml.trans hl.1.symm) hown (hts (.methodLink RX4 39 Lib.Math.min.name) (by decide +kernel)) (hts (.static Lib.Math.min.name) (by decide +kernel)) (hts (.initialized "java/lang/Math") (by decide +kernel)) (hts (.code Lib.Math.min.name Lib.Math.min.code 2 (some .int)) (by decide +kernel)) (Nat.le_of_ble_eq_true rfl) (Nat.le_of_ble_eq_true rfl) (Nat.le_of_ble_eq_true rfl) (Nat.le_of_ble_eq_true rfl) dX4_weightedSum_5 ?_
  refine tp1 (v' := y) (if_neg (fun q => absurd (Int32.lt_trans q h4) (nI_pos (by omega)))) ?_
  refine lv_istore_n (lv' := [(3, .int y), (0, .ref v), (1, .int (nI a)), (2, .int y)]) hx hb dX4_weightedSum_8 rfl hl (by decide) rfl (fun ls hl => ?_)
  refine lv_iconst (v := nI 0) hx hb dX4_weightedSum_9 (by decide) ?_
  refine lv_istore (lv' := [(4, .int (nI 0)), (3, .int y), (0, .ref v), (1, .int (nI a)), (2, .int y)]) hx hb dX4_weightedSum_10 hl (by decide) rfl (fun ls hl => ?_)
  refine lv_iload_n hx hb dX4_weightedSum_12 rfl (lv_at hl 3 rfl) ?_
  refine lv_istore (lv' := [(5, .int (nI a)), (4, .int (nI 0)), (3, .int y), (0, .ref v), (1, .int (nI a)), (2, .int y)]) hx hb dX4_weightedSum_13 hl (by decide) rfl (fun ls hl => ?_)
  refine lv_iload hx hb dX4_weightedSum_15 (lv_at hl 0 rfl) ?_
  refine lv_iload_n hx hb dX4_weightedSum_17 rfl (lv_at hl 2 rfl) ?_
  refine lv_icmp_ge (tgt := 45) hx hb dX4_weightedSum_18 (by decide) (fun c_w => ?_) (fun c_w => ?_)
  · skip
    refine lv_iload hx hb dX4_weightedSum_45 (lv_at hl 1 rfl) ?_
    exact r_iret C hw (Nat.le_refl _) (Nat.le_refl _) (⟨rfl, rfl⟩) dX4_weightedSum_47
  · skip
    exact absurd (Int32.le_of_lt (Int32.lt_of_lt_of_le h4 (nI_pos' h3))) c_w
abbrev rm_c_addBand : Room := { frames := 0, cells := 0, slots := 0, locals := 0 }
set_option maxHeartbeats 4000000 in
set_option maxRecDepth 100000 in
theorem c_addBand (l : Launch) (g : GT) (sz : Nat) (v wv wc ww nu su sa nw md q : Nat) (x : Int32) (sum_ : Nat → Int64) (h1 : q < 128) : CtV l g yX4_addBand wsX4_addBand rm_c_addBand [.ref v, .int x, .int (nI q)] [(v, .inr (4, [.ref wv, .ref nu, .int (nI nw), .ref su, .ref sa, .int (nI md)])), (wv, .inr (5, [.ref wc, .ref ww])), (wc, aI g 128 cosA), (su, aJ g 64 sum_)] sz (fun _ => True) (fun u => u = [(v, .inr (4, [.ref wv, .ref nu, .int (nI nw), .ref su, .ref sa, .int (nI md)])), (wv, .inr (5, [.ref wc, .ref ww])), (wc, aI g 128 cosA), (su, aJ g 64 (fun j => if j < 64 then sum_ j + (cosA ((16 + j) * q % 128)).toInt64 * x.toInt64 else sum_ j))]) (0) (0) := by
  refine ct_body (cc := cX4_addBand) (nL := 4) (ret := none) (by decide) rfl (Nat.le_of_ble_eq_true rfl) ?_
  intro p e s m below meth c ls C hin hsz hB hw hl
  obtain ⟨hx, hb, hml, hown, hts, hK, hA, hr, hlk⟩ := id C
  have lk15 := hts (.fieldLink RX4 15 "SoundBench$Voice" "sums" "[J") (by decide +kernel)
  have lk22 := hts (.fieldLink RX4 22 "SoundBench$Voice" "waves" "LSoundBench$Waves;") (by decide +kernel)
  have lk84 := hts (.fieldLink RX4 84 "SoundBench$Waves" "cosines" "[I") (by decide +kernel)
  have in_X4 : ∀ w ∈ wsX40, w ∈ wsX4_addBand := by unfold wsX4_addBand; intro w h; simp only [List.mem_cons, List.mem_append, h, or_true, true_or]
  have in_X5 : ∀ w ∈ wsX50, w ∈ wsX4_addBand := by unfold wsX4_addBand; intro w h; simp only [List.mem_cons, List.mem_append, h, or_true, true_or]
  have hl : lv_has ls 4 [(0, .ref v), (1, .int x), (2, .int (nI q))] := hl
  have hw : Wd g (va_A [(v, .inr (4, [.ref wv, .ref nu, .int (nI nw), .ref su, .ref sa, .int (nI md)])), (wv, .inr (5, [.ref wc, .ref ww])), (wc, aI g 128 cosA), (su, aJ g 64 sum_)] sz) s.heap [(v, .inr (4, [.ref wv, .ref nu, .int (nI nw), .ref su, .ref sa, .int (nI md)])), (wv, .inr (5, [.ref wc, .ref ww])), (wc, aI g 128 cosA), (su, aJ g 64 sum_)] s.heap [] := hw
  have hq79 : ∀ i : Nat, i < 64 → (16 + i) * q < 2 ^ 31 := fun i hi => by have := Nat.mul_le_mul (show 16 + i ≤ 79 by omega) (show q ≤ 127 by omega); omega
  refine lv_iload_n hx hb dX4_addBand_0 rfl (lv_at hl 1 rfl) ?_
  refine lv_if_ne (tgt := 5) hx hb dX4_addBand_1 (by decide) (fun c_z => ?_) (fun c_z => ?_)
  · skip
    refine lv_iconst (v := nI 0) hx hb dX4_addBand_5 (by decide) ?_
    refine lv_istore_n (lv' := [(3, .int (nI 0)), (0, .ref v), (1, .int x), (2, .int (nI q))]) hx hb dX4_addBand_6 rfl hl (by decide) rfl (fun ls hl => ?_)
    refine lpw (I := fun i H locs ls => Wd g (va_A [(v, .inr (4, [.ref wv, .ref nu, .int (nI nw), .ref su, .ref sa, .int (nI md)])), (wv, .inr (5, [.ref wc, .ref ww])), (wc, aI g 128 cosA), (su, aJ g 64 sum_)] sz) s.heap [(v, .inr (4, [.ref wv, .ref nu, .int (nI nw), .ref su, .ref sa, .int (nI md)])), (wv, .inr (5, [.ref wc, .ref ww])), (wc, aI g 128 cosA), (su, aJ g 64 (fun j => if j < i then (fun j => sum_ j + (cosA ((16 + j) * q % 128)).toInt64 * x.toInt64) j else sum_ j))] H locs ∧ lv_has ls 4 [(0, .ref v), (1, .int x), (2, .int (nI q)), (3, .int (nI i))]) (64) ?_ ?_ (0) (by omega) ⟨(by rw [tabZ]; exact hw), (lv_sub hl [1, 2, 3, 0] rfl)⟩
    · intro H locs ls hI
      obtain ⟨hw, hl⟩ := hI
      refine lv_iload_n hx hb dX4_addBand_7 rfl (lv_at hl 3 rfl) ?_
      refine lv_bipush (v := nI 64) hx hb dX4_addBand_8 (by decide) ?_
      refine n_cge (tgt := 49) hx hb (by omega) (by omega) dX4_addBand_10 (by decide) (fun c_1 => ?_) (fun c_1 => ?_)
      · skip
        exact r_vret C hw (Nat.le_refl _) (Nat.le_refl _) (rfl) dX4_addBand_49
      · skip
        exfalso; omega
    · intro i H locs ls hi hI K
      obtain ⟨hw, hl⟩ := hI
      have hq80 := hq79 i hi
      refine lv_iload_n hx hb dX4_addBand_7 rfl (lv_at hl 3 rfl) ?_
      refine lv_bipush (v := nI 64) hx hb dX4_addBand_8 (by decide) ?_
      refine n_cge (tgt := 49) hx hb (by omega) (by omega) dX4_addBand_10 (by decide) (fun c_2 => ?_) (fun c_2 => ?_)
      · skip
        exfalso; omega
      · skip
        refine lv_aload_n hx hb dX4_addBand_13 rfl (lv_at hl 0 rfl) ?_
        refine r_get C hw in_X4 0 rfl rfl 3 (by decide) lk15 rfl dX4_addBand_14 ?_
        refine lv_iload_n hx hb dX4_addBand_17 rfl (lv_at hl 3 rfl) ?_
        refine lv_dup2_11 hx hb dX4_addBand_18 rfl rfl ?_
        refine r_lald C hw 3 rfl (by omega) (by omega) dX4_addBand_19 ?_
        refine tpl (v' := (sum_ i)) (if_neg (Nat.lt_irrefl i)) ?_
        refine lv_aload_n hx hb dX4_addBand_20 rfl (lv_at hl 0 rfl) ?_
        refine r_get C hw in_X4 0 rfl rfl 0 (by decide) lk22 rfl dX4_addBand_21 ?_
        refine r_get C hw in_X5 1 rfl rfl 0 (by decide) lk84 rfl dX4_addBand_24 ?_
        refine lv_bipush (v := nI 16) hx hb dX4_addBand_27 (by decide) ?_
        refine lv_iload_n hx hb dX4_addBand_29 rfl (lv_at hl 3 rfl) ?_
        refine n_add hx hb dX4_addBand_30 ?_
        refine lv_iload_n hx hb dX4_addBand_31 rfl (lv_at hl 2 rfl) ?_
        refine n_mul hx hb dX4_addBand_32 ?_
        refine lv_bipush (v := nI 127) hx hb dX4_addBand_33 (by decide) ?_
        refine n_and (d := 128) hx hb 7 (by decide) (by decide) (by omega) (by omega) dX4_addBand_35 ?_
        refine r_iald C hw 2 rfl (by omega) (by omega) dX4_addBand_36 ?_
        refine lv_i2l hx hb dX4_addBand_37 rfl ?_
        refine lv_iload_n hx hb dX4_addBand_38 rfl (lv_at hl 1 rfl) ?_
        refine lv_i2l hx hb dX4_addBand_39 rfl ?_
        refine lv_lmul hx hb dX4_addBand_40 ?_
        refine lv_ladd hx hb dX4_addBand_41 ?_
        refine r_last C hw 3 rfl (by omega) (by omega) (ws' := [(v, .inr (4, [.ref wv, .ref nu, .int (nI nw), .ref su, .ref sa, .int (nI md)])), (wv, .inr (5, [.ref wc, .ref ww])), (wc, aI g 128 cosA), (su, aJ g 64 (vp_updL (fun j => if j < i then (fun j => sum_ j + (cosA ((16 + j) * q % 128)).toInt64 * x.toInt64) j else sum_ j) i ((sum_ i) + (((cosA (((16 + i) * q) % 128)).toInt64) * ((x).toInt64)))))]) rfl dX4_addBand_42 (fun H locs hw => ?_)
        refine lv_iinc (v := (nI (i + 1))) (lv' := [(3, .int (nI (i + 1))), (0, .ref v), (1, .int x), (2, .int (nI q))]) hx hb dX4_addBand_43 hl (k := 3) rfl (nI_add _ _) (by decide) rfl (fun ls hl => ?_)
        refine lv_goto (tgt := 7) hx hb dX4_addBand_46 (by decide) ?_
        exact K _ _ _ ⟨(by rw [tabJ_s (h := fun j => sum_ j + (cosA ((16 + j) * q % 128)).toInt64 * x.toInt64)] at hw; exact hw), (lv_sub hl [1, 2, 3, 0] rfl)⟩
  · skip
    exact r_vret C hw (Nat.le_refl _) (Nat.le_refl _) (by rw [adZ c_z]) dX4_addBand_4
abbrev rm_c_takeRow : Room := { frames := 1, cells := 0, slots := 0, locals := 24 }
set_option maxHeartbeats 4000000 in
set_option maxRecDepth 100000 in
theorem c_takeRow (l : Launch) (g : GT) (sz : Nat) (v wv wc ww nu su sa rw n nw md fi : Nat) (num row : Nat → Int32) (sum_ : Nat → Int64) (h1 : nw < 1024) (h2 : fi + 32 ≤ n) (h3 : n < 2 ^ 27) : CtV l g yX4_takeRow wsX4_takeRow rm_c_takeRow [.ref v, .ref rw, .int (nI fi)] [(v, .inr (4, [.ref wv, .ref nu, .int (nI nw), .ref su, .ref sa, .int (nI md)])), (wv, .inr (5, [.ref wc, .ref ww])), (wc, aI g 128 cosA), (nu, aI g 1024 num), (su, aJ g 64 sum_), (rw, aI g n row)] sz (fun _ => True) (fun u => ∃ s2 : Nat → Int64, u = [(v, .inr (4, [.ref wv, .ref nu, .int (nI ((rowS row fi (nw, num)).1)), .ref su, .ref sa, .int (nI md)])), (wv, .inr (5, [.ref wc, .ref ww])), (wc, aI g 128 cosA), (nu, aI g 1024 ((rowS row fi (nw, num)).2)), (su, aJ g 64 s2), (rw, aI g n row)]) (0) (0) := by
  refine ct_body (cc := cX4_takeRow) (nL := 4) (ret := none) (by decide) rfl (Nat.le_of_ble_eq_true rfl) ?_
  intro p e s m below meth c ls C hin hsz hB hw hl
  obtain ⟨hx, hb, hml, hown, hts, hK, hA, hr, hlk⟩ := id C
  have lk11 := hts (.fieldLink RX4 11 "SoundBench$Voice" "numbers" "[I") (by decide +kernel)
  have lk15 := hts (.fieldLink RX4 15 "SoundBench$Voice" "sums" "[J") (by decide +kernel)
  have lk32 := hts (.fieldLink RX4 32 "SoundBench$Voice" "newest" "I") (by decide +kernel)
  have in_X4 : ∀ w ∈ wsX40, w ∈ wsX4_takeRow := by unfold wsX4_takeRow; intro w h; simp only [List.mem_cons, List.mem_append, h, or_true, true_or]
  have hl : lv_has ls 4 [(0, .ref v), (1, .ref rw), (2, .int (nI fi))] := hl
  have hw : Wd g (va_A [(v, .inr (4, [.ref wv, .ref nu, .int (nI nw), .ref su, .ref sa, .int (nI md)])), (wv, .inr (5, [.ref wc, .ref ww])), (wc, aI g 128 cosA), (nu, aI g 1024 num), (su, aJ g 64 sum_), (rw, aI g n row)] sz) s.heap [(v, .inr (4, [.ref wv, .ref nu, .int (nI nw), .ref su, .ref sa, .int (nI md)])), (wv, .inr (5, [.ref wc, .ref ww])), (wc, aI g 128 cosA), (nu, aI g 1024 num), (su, aJ g 64 sum_), (rw, aI g n row)] s.heap [] := hw
  have hk32 := k32_eq
  have hk64 := k64_eq
  refine lv_aload_n hx hb dX4_takeRow_0 rfl (lv_at hl 0 rfl) ?_
  refine r_get C hw in_X4 0 rfl rfl 3 (by decide) lk15 rfl dX4_takeRow_1 ?_
  refine lv_lconst (v := 0) hx hb dX4_takeRow_4 (by decide) ?_
  refine k_Sv (As := [.ref su, .long 0]) (rest := []) (wr := [(v, .inr (4, [.ref wv, .ref nu, .int (nI nw), .ref su, .ref sa, .int (nI md)])), (wv, .inr (5, [.ref wc, .ref ww])), (wc, aI g 128 cosA), (nu, aI g 1024 num), (rw, aI g n row)]) C hw (c_fillJ l g _ su 64 sum_ 0 (by omega)) (va_cwS 2 hts gX4_takeRow_J7_fill_d0a16 rfl rfl rfl (by decide +kernel) ⟨Nat.le_of_ble_eq_true rfl, Nat.le_of_ble_eq_true rfl⟩) bl_T (fun _ _ _ => trivial) [4] [0, 1, 2, 3, 5] (by decide) rfl rfl (by decide) (by decide) rfl hl.1 rfl (Nat.le_of_ble_eq_true rfl) dX4_takeRow_5 ⟨Nat.le_of_ble_eq_true rfl, Nat.le_of_ble_eq_true rfl⟩ (fun u H locs hp hw => ?_)
  obtain rfl := hp
  have hw := Wd.sub (ws' := [(v, .inr (4, [.ref wv, .ref nu, .int (nI nw), .ref su, .ref sa, .int (nI md)])), (wv, .inr (5, [.ref wc, .ref ww])), (wc, aI g 128 cosA), (nu, aI g 1024 num), (su, aJ g 64 (fun j => if j < 64 then 0 else sum_ j)), (rw, aI g n row)]) hw [0, 1, 2, 3, 5, 4] (by decide) rfl
  refine lv_iload_n hx hb dX4_takeRow_8 rfl (lv_at hl 2 rfl) ?_
  refine n_lt0 (tgt := 49) hx hb (by omega) dX4_takeRow_9 (by decide) ?_
  refine lv_iload_n hx hb dX4_takeRow_12 rfl (lv_at hl 2 rfl) ?_
  refine lv_bipush (v := nI 32) hx hb dX4_takeRow_13 (by decide) ?_
  refine n_add hx hb dX4_takeRow_15 ?_
  refine lv_aload_n hx hb dX4_takeRow_16 rfl (lv_at hl 1 rfl) ?_
  refine r_alen C hw 5 0 rfl rfl rfl dX4_takeRow_17 ?_
  refine n_cgt (tgt := 49) hx hb (by omega) (by omega) dX4_takeRow_18 (by decide) (fun c_3 => ?_) (fun c_3 => ?_)
  · skip
    exfalso; omega
  · skip
    refine lv_iconst (v := nI 0) hx hb dX4_takeRow_21 (by decide) ?_
    refine lv_istore_n (lv' := [(3, .int (nI 0)), (0, .ref v), (1, .ref rw), (2, .int (nI fi))]) hx hb dX4_takeRow_22 rfl hl (by decide) rfl (fun ls hl => ?_)
    refine lps (σ := Nat → Int64) (adF row fi) (fun k z => True) (fun k z H locs ls => Wd g (va_A [(v, .inr (4, [.ref wv, .ref nu, .int (nI nw), .ref su, .ref sa, .int (nI md)])), (wv, .inr (5, [.ref wc, .ref ww])), (wc, aI g 128 cosA), (nu, aI g 1024 num), (su, aJ g 64 sum_), (rw, aI g n row)] sz) s.heap [(v, .inr (4, [.ref wv, .ref nu, .int (nI nw), .ref su, .ref sa, .int (nI md)])), (wv, .inr (5, [.ref wc, .ref ww])), (wc, aI g 128 cosA), (nu, aI g 1024 num), (su, aJ g 64 z), (rw, aI g n row)] H locs ∧ lv_has ls 4 [(0, .ref v), (1, .ref rw), (2, .int (nI fi)), (3, .int (nI k))]) (k32) (fun j => if j < 64 then 0 else sum_ j) ?_ ?_ (trivial) ⟨hw, (lv_sub hl [1, 2, 3, 0] rfl)⟩
    · intro z hJ hx_ H locs ls hI
      subst hx_
      obtain ⟨hw, hl⟩ := hI
      have hw : Wd g (va_A [(v, .inr (4, [.ref wv, .ref nu, .int (nI nw), .ref su, .ref sa, .int (nI md)])), (wv, .inr (5, [.ref wc, .ref ww])), (wc, aI g 128 cosA), (nu, aI g 1024 num), (su, aJ g 64 sum_), (rw, aI g n row)] sz) s.heap [(v, .inr (4, [.ref wv, .ref nu, .int (nI nw), .ref su, .ref sa, .int (nI md)])), (wv, .inr (5, [.ref wc, .ref ww])), (wc, aI g 128 cosA), (nu, aI g 1024 num), (su, aJ g 64 (lp (adF row fi) k32 (fun j => if j < 64 then 0 else sum_ j))), (rw, aI g n row)] H locs := hw
      have hl : lv_has ls 4 [(0, .ref v), (1, .ref rw), (2, .int (nI fi)), (3, .int (nI k32))] := hl
      refine lv_iload_n hx hb dX4_takeRow_23 rfl (lv_at hl 3 rfl) ?_
      refine lv_bipush (v := nI 32) hx hb dX4_takeRow_24 (by decide) ?_
      refine n_cge (tgt := 49) hx hb (by omega) (by omega) dX4_takeRow_26 (by decide) (fun c_4 => ?_) (fun c_4 => ?_)
      · skip
        refine lv_aload_n hx hb dX4_takeRow_49 rfl (lv_at hl 0 rfl) ?_
        refine lv_aload_n hx hb dX4_takeRow_50 rfl (lv_at hl 0 rfl) ?_
        refine r_get C hw in_X4 0 rfl rfl 2 (by decide) lk32 rfl dX4_takeRow_51 ?_
        refine lv_bipush (v := nI 64) hx hb dX4_takeRow_54 (by decide) ?_
        refine lv_isub hx hb dX4_takeRow_56 ?_
        refine lv_sipush (v := nI 1023) hx hb dX4_takeRow_57 (by decide) ?_
        refine lv_iand hx hb dX4_takeRow_60 ?_
        refine tp1 (v' := (nI ((nw + 960) % 1024))) (sub64 h1) ?_
        refine r_put C hw in_X4 tyX4_ok nmX4 0 rfl rfl 2 (by decide) lk32 rfl rfl rfl (Nat.le_of_ble_eq_true rfl) (ws' := [(v, .inr (4, [.ref wv, .ref nu, .int (nI ((nw + 960) % 1024)), .ref su, .ref sa, .int (nI md)])), (wv, .inr (5, [.ref wc, .ref ww])), (wc, aI g 128 cosA), (nu, aI g 1024 num), (su, aJ g 64 (lp (adF row fi) k32 (fun j => if j < 64 then 0 else sum_ j))), (rw, aI g n row)]) rfl dX4_takeRow_61 (fun H locs hw => ?_)
        refine lv_iconst (v := nI 0) hx hb dX4_takeRow_64 (by decide) ?_
        refine lv_istore_n (lv' := [(3, .int (nI 0)), (0, .ref v), (1, .ref rw), (2, .int (nI fi))]) hx hb dX4_takeRow_65 rfl hl (by decide) rfl (fun ls hl => ?_)
        refine lps (σ := Nat → Int32) (nuF row fi ((nw + 960) % 1024)) (fun i y => True) (fun i y H locs ls => Wd g (va_A [(v, .inr (4, [.ref wv, .ref nu, .int (nI nw), .ref su, .ref sa, .int (nI md)])), (wv, .inr (5, [.ref wc, .ref ww])), (wc, aI g 128 cosA), (nu, aI g 1024 num), (su, aJ g 64 sum_), (rw, aI g n row)] sz) s.heap [(v, .inr (4, [.ref wv, .ref nu, .int (nI ((nw + 960) % 1024)), .ref su, .ref sa, .int (nI md)])), (wv, .inr (5, [.ref wc, .ref ww])), (wc, aI g 128 cosA), (nu, aI g 1024 y), (su, aJ g 64 (lp (adF row fi) k32 (fun j => if j < 64 then 0 else sum_ j))), (rw, aI g n row)] H locs ∧ lv_has ls 4 [(0, .ref v), (3, .int (nI i))]) (k64) (num) ?_ ?_ (trivial) ⟨hw, (lv_sub hl [1, 0] rfl)⟩
        · intro y hJ hx_ H locs ls hI
          subst hx_
          obtain ⟨hw, hl⟩ := hI
          have hw : Wd g (va_A [(v, .inr (4, [.ref wv, .ref nu, .int (nI nw), .ref su, .ref sa, .int (nI md)])), (wv, .inr (5, [.ref wc, .ref ww])), (wc, aI g 128 cosA), (nu, aI g 1024 num), (su, aJ g 64 sum_), (rw, aI g n row)] sz) s.heap [(v, .inr (4, [.ref wv, .ref nu, .int (nI ((nw + 960) % 1024)), .ref su, .ref sa, .int (nI md)])), (wv, .inr (5, [.ref wc, .ref ww])), (wc, aI g 128 cosA), (nu, aI g 1024 (lp (nuF row fi ((nw + 960) % 1024)) k64 num)), (su, aJ g 64 (lp (adF row fi) k32 (fun j => if j < 64 then 0 else sum_ j))), (rw, aI g n row)] H locs := hw
          have hl : lv_has ls 4 [(0, .ref v), (3, .int (nI k64))] := hl
          refine lv_iload_n hx hb dX4_takeRow_66 rfl (lv_at hl 1 rfl) ?_
          refine lv_bipush (v := nI 64) hx hb dX4_takeRow_67 (by decide) ?_
          refine n_cge (tgt := 107) hx hb (by omega) (by omega) dX4_takeRow_69 (by decide) (fun c_5 => ?_) (fun c_5 => ?_)
          · skip
            exact r_vret C hw (Nat.le_refl _) (Nat.le_refl _) (⟨_, rfl⟩) dX4_takeRow_107
          · skip
            exfalso; omega
        · intro i y hi hJ hxe H locs ls hI K
          obtain ⟨hw, hl⟩ := hI
          have hw : Wd g (va_A [(v, .inr (4, [.ref wv, .ref nu, .int (nI nw), .ref su, .ref sa, .int (nI md)])), (wv, .inr (5, [.ref wc, .ref ww])), (wc, aI g 128 cosA), (nu, aI g 1024 num), (su, aJ g 64 sum_), (rw, aI g n row)] sz) s.heap [(v, .inr (4, [.ref wv, .ref nu, .int (nI ((nw + 960) % 1024)), .ref su, .ref sa, .int (nI md)])), (wv, .inr (5, [.ref wc, .ref ww])), (wc, aI g 128 cosA), (nu, aI g 1024 y), (su, aJ g 64 (lp (adF row fi) k32 (fun j => if j < 64 then 0 else sum_ j))), (rw, aI g n row)] H locs := hw
          have hl : lv_has ls 4 [(0, .ref v), (3, .int (nI i))] := hl
          refine lv_iload_n hx hb dX4_takeRow_66 rfl (lv_at hl 1 rfl) ?_
          refine lv_bipush (v := nI 64) hx hb dX4_takeRow_67 (by decide) ?_
          refine n_cge (tgt := 107) hx hb (by omega) (by omega) dX4_takeRow_69 (by decide) (fun c_6 => ?_) (fun c_6 => ?_)
          · skip
            exfalso; omega
          · skip
            refine lv_aload_n hx hb dX4_takeRow_72 rfl (lv_at hl 0 rfl) ?_
            refine r_get C hw in_X4 0 rfl rfl 1 (by decide) lk11 rfl dX4_takeRow_73 ?_
            refine lv_aload_n hx hb dX4_takeRow_76 rfl (lv_at hl 0 rfl) ?_
            refine r_get C hw in_X4 0 rfl rfl 2 (by decide) lk32 rfl dX4_takeRow_77 ?_
            refine lv_iload_n hx hb dX4_takeRow_80 rfl (lv_at hl 1 rfl) ?_
            refine n_add hx hb dX4_takeRow_81 ?_
            refine lv_sipush (v := nI 1023) hx hb dX4_takeRow_82 (by decide) ?_
            refine n_and (d := 1024) hx hb 10 (by decide) (by decide) (by omega) (by omega) dX4_takeRow_85 ?_
            refine lv_aload_n hx hb dX4_takeRow_86 rfl (lv_at hl 0 rfl) ?_
            refine r_get C hw in_X4 0 rfl rfl 3 (by decide) lk15 rfl dX4_takeRow_87 ?_
            refine lv_iload_n hx hb dX4_takeRow_90 rfl (lv_at hl 1 rfl) ?_
            refine r_lald C hw 4 rfl (by omega) (by omega) dX4_takeRow_91 ?_
            refine lv_ldc2 (v := 8192) hx hb hown (hts (.constantLong RX4 82 (8192)) (by decide +kernel)) dX4_takeRow_92 ?_
            refine lv_ladd hx hb dX4_takeRow_95 ?_
            refine lv_bipush (v := nI 14) hx hb dX4_takeRow_96 (by decide) ?_
            refine lv_lshr hx hb dX4_takeRow_98 rfl ?_
            refine lv_l2i hx hb dX4_takeRow_99 rfl ?_
            refine tp1 (v' := (vS row fi i)) (by unfold vS; rw [adF_at row fi (show i < 64 by omega), if_pos (show i < 64 by omega)]) ?_
            refine r_iast C hw 3 rfl (by omega) (by omega) (ws' := [(v, .inr (4, [.ref wv, .ref nu, .int (nI ((nw + 960) % 1024)), .ref su, .ref sa, .int (nI md)])), (wv, .inr (5, [.ref wc, .ref ww])), (wc, aI g 128 cosA), (nu, aI g 1024 (upd y ((((nw + 960) % 1024) + i) % 1024) (vS row fi i))), (su, aJ g 64 (lp (adF row fi) k32 (fun j => if j < 64 then 0 else sum_ j))), (rw, aI g n row)]) rfl dX4_takeRow_100 (fun H locs hw => ?_)
            refine lv_iinc (v := (nI (i + 1))) (lv' := [(3, .int (nI (i + 1))), (0, .ref v)]) hx hb dX4_takeRow_101 hl (k := 1) rfl (nI_add _ _) (by decide) rfl (fun ls hl => ?_)
            refine lv_goto (tgt := 66) hx hb dX4_takeRow_104 (by decide) ?_
            exact K (trivial) _ _ _ ⟨hw, (lv_sub hl [1, 0] rfl)⟩
      · skip
        exfalso; omega
    · intro k z hi hJ hxe H locs ls hI K
      obtain ⟨hw, hl⟩ := hI
      have hw : Wd g (va_A [(v, .inr (4, [.ref wv, .ref nu, .int (nI nw), .ref su, .ref sa, .int (nI md)])), (wv, .inr (5, [.ref wc, .ref ww])), (wc, aI g 128 cosA), (nu, aI g 1024 num), (su, aJ g 64 sum_), (rw, aI g n row)] sz) s.heap [(v, .inr (4, [.ref wv, .ref nu, .int (nI nw), .ref su, .ref sa, .int (nI md)])), (wv, .inr (5, [.ref wc, .ref ww])), (wc, aI g 128 cosA), (nu, aI g 1024 num), (su, aJ g 64 z), (rw, aI g n row)] H locs := hw
      have hl : lv_has ls 4 [(0, .ref v), (1, .ref rw), (2, .int (nI fi)), (3, .int (nI k))] := hl
      refine lv_iload_n hx hb dX4_takeRow_23 rfl (lv_at hl 3 rfl) ?_
      refine lv_bipush (v := nI 32) hx hb dX4_takeRow_24 (by decide) ?_
      refine n_cge (tgt := 49) hx hb (by omega) (by omega) dX4_takeRow_26 (by decide) (fun c_7 => ?_) (fun c_7 => ?_)
      · skip
        exfalso; omega
      · skip
        refine lv_aload_n hx hb dX4_takeRow_29 rfl (lv_at hl 0 rfl) ?_
        refine lv_aload_n hx hb dX4_takeRow_30 rfl (lv_at hl 1 rfl) ?_
        refine lv_iload_n hx hb dX4_takeRow_31 rfl (lv_at hl 2 rfl) ?_
        refine lv_iload_n hx hb dX4_takeRow_32 rfl (lv_at hl 3 rfl) ?_
        refine n_add hx hb dX4_takeRow_33 ?_
        refine r_iald C hw 5 rfl (by omega) (by omega) dX4_takeRow_34 ?_
        refine lv_iconst (v := nI 2) hx hb dX4_takeRow_35 (by decide) ?_
        refine lv_iload_n hx hb dX4_takeRow_36 rfl (lv_at hl 3 rfl) ?_
        refine n_mul hx hb dX4_takeRow_37 ?_
        refine lv_iconst (v := nI 1) hx hb dX4_takeRow_38 (by decide) ?_
        refine n_add hx hb dX4_takeRow_39 ?_
        refine k_Vv (As := [.int (row (fi + k)), .int (nI ((2 * k) + 1))]) (rest := []) (wr := [(nu, aI g 1024 num), (rw, aI g n row)]) C hw (c_addBand l g _ v wv wc ww nu su sa nw md (2 * k + 1) (row (fi + k)) z (by omega)) (cwV 2 hts gX4_takeRow_X4_addBand rfl rfl rfl (by decide +kernel) ⟨Nat.le_of_ble_eq_true rfl, Nat.le_of_ble_eq_true rfl⟩) bl_T (fun _ _ _ => trivial) [0, 1, 2, 4] [3, 5] (by decide) rfl rfl (by decide) (by decide) 0 rfl rfl rfl hl.1 rfl (Nat.le_of_ble_eq_true rfl) dX4_takeRow_40 ⟨Nat.le_of_ble_eq_true rfl, Nat.le_of_ble_eq_true rfl⟩ (fun u H locs hp hw => ?_)
        obtain rfl := hp
        have hw := Wd.sub (ws' := [(v, .inr (4, [.ref wv, .ref nu, .int (nI nw), .ref su, .ref sa, .int (nI md)])), (wv, .inr (5, [.ref wc, .ref ww])), (wc, aI g 128 cosA), (nu, aI g 1024 num), (su, aJ g 64 (adF row fi k z)), (rw, aI g n row)]) hw [2, 3, 4, 0, 5, 1] (by decide) rfl
        refine lv_iinc (v := (nI (k + 1))) (lv' := [(3, .int (nI (k + 1))), (0, .ref v), (1, .ref rw), (2, .int (nI fi))]) hx hb dX4_takeRow_43 hl (k := 3) rfl (nI_add _ _) (by decide) rfl (fun ls hl => ?_)
        refine lv_goto (tgt := 23) hx hb dX4_takeRow_46 (by decide) ?_
        exact K (trivial) _ _ _ ⟨hw, (lv_sub hl [1, 2, 3, 0] rfl)⟩
abbrev rm_c_makeSample : Room := { frames := 1, cells := 0, slots := 0, locals := 17 }
set_option maxHeartbeats 4000000 in
set_option maxRecDepth 100000 in
theorem c_makeSample (l : Launch) (g : GT) (sz : Nat) (v wv wc ww nu su sa nw md j_ : Nat) (num : Nat → Int32) (h1 : nw < 1024) (h2 : j_ < 32) : CtI l g yX4_makeSample wsX4_makeSample rm_c_makeSample [.ref v, .int (nI j_)] [(v, .inr (4, [.ref wv, .ref nu, .int (nI nw), .ref su, .ref sa, .int (nI md)])), (wv, .inr (5, [.ref wc, .ref ww])), (ww, aI g 512 winA), (nu, aI g 1024 num)] sz (fun _ => True) (fun rr u => rr = pcS (nw, num) j_ ∧ u = [(v, .inr (4, [.ref wv, .ref nu, .int (nI nw), .ref su, .ref sa, .int (nI md)])), (wv, .inr (5, [.ref wc, .ref ww])), (ww, aI g 512 winA), (nu, aI g 1024 num)]) (0) (0) := by
  refine ct_body (cc := cX4_makeSample) (nL := 7) (ret := (some .int)) (by decide) rfl (Nat.le_of_ble_eq_true rfl) ?_
  intro p e s m below meth c ls C hin hsz hB hw hl
  obtain ⟨hx, hb, hml, hown, hts, hK, hA, hr, hlk⟩ := id C
  have lk11 := hts (.fieldLink RX4 11 "SoundBench$Voice" "numbers" "[I") (by decide +kernel)
  have lk22 := hts (.fieldLink RX4 22 "SoundBench$Voice" "waves" "LSoundBench$Waves;") (by decide +kernel)
  have lk32 := hts (.fieldLink RX4 32 "SoundBench$Voice" "newest" "I") (by decide +kernel)
  have lk94 := hts (.fieldLink RX4 94 "SoundBench$Waves" "window" "[I") (by decide +kernel)
  have in_X4 : ∀ w ∈ wsX40, w ∈ wsX4_makeSample := by unfold wsX4_makeSample; intro w h; simp only [List.mem_cons, List.mem_append, h, or_true, true_or]
  have in_X5 : ∀ w ∈ wsX50, w ∈ wsX4_makeSample := by unfold wsX4_makeSample; intro w h; simp only [List.mem_cons, List.mem_append, h, or_true, true_or]
  have hl : lv_has ls 7 [(0, .ref v), (1, .int (nI j_))] := hl
  have hw : Wd g (va_A [(v, .inr (4, [.ref wv, .ref nu, .int (nI nw), .ref su, .ref sa, .int (nI md)])), (wv, .inr (5, [.ref wc, .ref ww])), (ww, aI g 512 winA), (nu, aI g 1024 num)] sz) s.heap [(v, .inr (4, [.ref wv, .ref nu, .int (nI nw), .ref su, .ref sa, .int (nI md)])), (wv, .inr (5, [.ref wc, .ref ww])), (ww, aI g 512 winA), (nu, aI g 1024 num)] s.heap [] := hw
  have hk8 := k8_eq
  refine lv_ldc2 (v := 1048576) hx hb hown (hts (.constantLong RX4 92 (1048576)) (by decide +kernel)) dX4_makeSample_0 ?_
  refine lv_lstore_n (lv' := [(2, .long 1048576), (0, .ref v), (1, .int (nI j_))]) hx hb dX4_makeSample_3 rfl hl (by decide) rfl (fun ls hl => ?_)
  refine lv_iconst (v := nI 0) hx hb dX4_makeSample_4 (by decide) ?_
  refine lv_istore (lv' := [(4, .int (nI 0)), (2, .long 1048576), (0, .ref v), (1, .int (nI j_))]) hx hb dX4_makeSample_5 hl (by decide) rfl (fun ls hl => ?_)
  refine lps (σ := Int64) (pcT nw j_ num) (fun i z => True) (fun i z H locs ls => Wd g (va_A [(v, .inr (4, [.ref wv, .ref nu, .int (nI nw), .ref su, .ref sa, .int (nI md)])), (wv, .inr (5, [.ref wc, .ref ww])), (ww, aI g 512 winA), (nu, aI g 1024 num)] sz) s.heap [(v, .inr (4, [.ref wv, .ref nu, .int (nI nw), .ref su, .ref sa, .int (nI md)])), (wv, .inr (5, [.ref wc, .ref ww])), (ww, aI g 512 winA), (nu, aI g 1024 num)] H locs ∧ lv_has ls 7 [(0, .ref v), (1, .int (nI j_)), (2, .long z), (4, .int (nI i))]) (k8) (1048576) ?_ ?_ (trivial) ⟨hw, (lv_sub hl [2, 3, 1, 0] rfl)⟩
  · intro z hJ hx_ H locs ls hI
    subst hx_
    obtain ⟨hw, hl⟩ := hI
    have hw : Wd g (va_A [(v, .inr (4, [.ref wv, .ref nu, .int (nI nw), .ref su, .ref sa, .int (nI md)])), (wv, .inr (5, [.ref wc, .ref ww])), (ww, aI g 512 winA), (nu, aI g 1024 num)] sz) s.heap [(v, .inr (4, [.ref wv, .ref nu, .int (nI nw), .ref su, .ref sa, .int (nI md)])), (wv, .inr (5, [.ref wc, .ref ww])), (ww, aI g 512 winA), (nu, aI g 1024 num)] H locs := hw
    have hl : lv_has ls 7 [(0, .ref v), (1, .int (nI j_)), (2, .long (lp (pcT nw j_ num) k8 1048576)), (4, .int (nI k8))] := hl
    refine lv_iload hx hb dX4_makeSample_7 (lv_at hl 3 rfl) ?_
    refine lv_bipush (v := nI 8) hx hb dX4_makeSample_9 (by decide) ?_
    refine n_cge (tgt := 112) hx hb (by omega) (by omega) dX4_makeSample_11 (by decide) (fun c_1 => ?_) (fun c_1 => ?_)
    · skip
      refine lv_ldc2 (v := -32768) hx hb hown (hts (.constantLong RX4 97 (-32768)) (by decide +kernel)) dX4_makeSample_112 ?_
      refine lv_ldc2 (v := 32767) hx hb hown (hts (.constantLong RX4 99 (32767)) (by decide +kernel)) dX4_makeSample_115 ?_
      refine lv_lload_n hx hb dX4_makeSample_118 rfl (lv_at hl 2 rfl) ?_
      refine lv_bipush (v := nI 21) hx hb dX4_makeSample_119 (by decide) ?_
      refine lv_lshr hx hb dX4_makeSample_121 rfl ?_
      refine va_mmin_long hx hb (hml.trans hl.1.symm) hown (hts (.methodLink RX4 101 Lib.MathLoose.min_long.x) (by decide +kernel)) (hts (.static Lib.MathLoose.min_long.x) (by decide +kernel)) (hts (.initialized "java/lang/Math") (by decide +kernel)) (hts (.code Lib.MathLoose.min_long.x Lib.MathLoose.min_long.code 4 (some .long)) (by decide +kernel)) (Nat.le_of_ble_eq_true rfl) (Nat.le_of_ble_eq_true rfl) (Nat.le_of_ble_eq_true rfl) (Nat.le_of_ble_eq_true rfl) dX4_makeSample_122 ?_
      refine va_mmax_long hx hb (hml.trans hl.1.symm) hown (hts (.methodLink RX4 104 Lib.MathLoose.max_long.x) (by decide +kernel)) (hts (.static Lib.MathLoose.max_long.x) (by decide +kernel)) (hts (.initialized "java/lang/Math") (by decide +kernel)) (hts (.code Lib.MathLoose.max_long.x Lib.MathLoose.max_long.code 4 (some .long)) (by decide +kernel)) (Nat.le_of_ble_eq_true rfl) (Nat.le_of_ble_eq_true rfl) (Nat.le_of_ble_eq_true rfl) (Nat.le_of_ble_eq_true rfl) dX4_makeSample_125 ?_
      refine lv_l2i hx hb dX4_makeSample_128 rfl ?_
      exact r_iret C hw (Nat.le_refl _) (Nat.le_refl _) (⟨rfl, rfl⟩) dX4_makeSample_129
    · skip
      exfalso; omega
  · intro i z hi hJ hxe H locs ls hI K
    obtain ⟨hw, hl⟩ := hI
    have hw : Wd g (va_A [(v, .inr (4, [.ref wv, .ref nu, .int (nI nw), .ref su, .ref sa, .int (nI md)])), (wv, .inr (5, [.ref wc, .ref ww])), (ww, aI g 512 winA), (nu, aI g 1024 num)] sz) s.heap [(v, .inr (4, [.ref wv, .ref nu, .int (nI nw), .ref su, .ref sa, .int (nI md)])), (wv, .inr (5, [.ref wc, .ref ww])), (ww, aI g 512 winA), (nu, aI g 1024 num)] H locs := hw
    have hl : lv_has ls 7 [(0, .ref v), (1, .int (nI j_)), (2, .long z), (4, .int (nI i))] := hl
    refine lv_iload hx hb dX4_makeSample_7 (lv_at hl 3 rfl) ?_
    refine lv_bipush (v := nI 8) hx hb dX4_makeSample_9 (by decide) ?_
    refine n_cge (tgt := 112) hx hb (by omega) (by omega) dX4_makeSample_11 (by decide) (fun c_2 => ?_) (fun c_2 => ?_)
    · skip
      exfalso; omega
    · skip
      refine lv_aload_n hx hb dX4_makeSample_14 rfl (lv_at hl 0 rfl) ?_
      refine r_get C hw in_X4 0 rfl rfl 2 (by decide) lk32 rfl dX4_makeSample_15 ?_
      refine lv_sipush (v := nI 128) hx hb dX4_makeSample_18 (by decide) ?_
      refine lv_iload hx hb dX4_makeSample_21 (lv_at hl 3 rfl) ?_
      refine n_mul hx hb dX4_makeSample_23 ?_
      refine n_add hx hb dX4_makeSample_24 ?_
      refine lv_iload_n hx hb dX4_makeSample_25 rfl (lv_at hl 1 rfl) ?_
      refine n_add hx hb dX4_makeSample_26 ?_
      refine lv_istore (lv' := [(5, .int (nI ((nw + (128 * i)) + j_))), (0, .ref v), (1, .int (nI j_)), (2, .long z), (4, .int (nI i))]) hx hb dX4_makeSample_27 hl (by decide) rfl (fun ls hl => ?_)
      refine lv_bipush (v := nI 64) hx hb dX4_makeSample_29 (by decide) ?_
      refine lv_iload hx hb dX4_makeSample_31 (lv_at hl 4 rfl) ?_
      refine n_mul hx hb dX4_makeSample_33 ?_
      refine lv_iload_n hx hb dX4_makeSample_34 rfl (lv_at hl 2 rfl) ?_
      refine n_add hx hb dX4_makeSample_35 ?_
      refine lv_sipush (v := nI 511) hx hb dX4_makeSample_36 (by decide) ?_
      refine n_and (d := 512) hx hb 9 (by decide) (by decide) (by omega) (by omega) dX4_makeSample_39 ?_
      refine lv_istore (lv' := [(6, .int (nI (((64 * i) + j_) % 512))), (5, .int (nI ((nw + (128 * i)) + j_))), (0, .ref v), (1, .int (nI j_)), (2, .long z), (4, .int (nI i))]) hx hb dX4_makeSample_40 hl (by decide) rfl (fun ls hl => ?_)
      refine lv_lload_n hx hb dX4_makeSample_42 rfl (lv_at hl 4 rfl) ?_
      refine lv_aload_n hx hb dX4_makeSample_43 rfl (lv_at hl 2 rfl) ?_
      refine r_get C hw in_X4 0 rfl rfl 0 (by decide) lk22 rfl dX4_makeSample_44 ?_
      refine r_get C hw in_X5 1 rfl rfl 1 (by decide) lk94 rfl dX4_makeSample_47 ?_
      refine lv_iload hx hb dX4_makeSample_50 (lv_at hl 0 rfl) ?_
      refine r_iald C hw 2 rfl (by omega) (by omega) dX4_makeSample_52 ?_
      refine lv_i2l hx hb dX4_makeSample_53 rfl ?_
      refine lv_aload_n hx hb dX4_makeSample_54 rfl (lv_at hl 2 rfl) ?_
      refine r_get C hw in_X4 0 rfl rfl 1 (by decide) lk11 rfl dX4_makeSample_55 ?_
      refine lv_iload hx hb dX4_makeSample_58 (lv_at hl 1 rfl) ?_
      refine lv_sipush (v := nI 1023) hx hb dX4_makeSample_60 (by decide) ?_
      refine n_and (d := 1024) hx hb 10 (by decide) (by decide) (by omega) (by omega) dX4_makeSample_63 ?_
      refine r_iald C hw 3 rfl (by omega) (by omega) dX4_makeSample_64 ?_
      refine lv_i2l hx hb dX4_makeSample_65 rfl ?_
      refine lv_lmul hx hb dX4_makeSample_66 ?_
      refine lv_ladd hx hb dX4_makeSample_67 ?_
      refine lv_lstore_n (lv' := [(2, .long (z + (((winA (((64 * i) + j_) % 512)).toInt64) * ((num (((nw + (128 * i)) + j_) % 1024)).toInt64)))), (6, .int (nI (((64 * i) + j_) % 512))), (5, .int (nI ((nw + (128 * i)) + j_))), (0, .ref v), (1, .int (nI j_)), (4, .int (nI i))]) hx hb dX4_makeSample_68 rfl hl (by decide) rfl (fun ls hl => ?_)
      refine lv_lload_n hx hb dX4_makeSample_69 rfl (lv_at hl 0 rfl) ?_
      refine lv_aload_n hx hb dX4_makeSample_70 rfl (lv_at hl 3 rfl) ?_
      refine r_get C hw in_X4 0 rfl rfl 0 (by decide) lk22 rfl dX4_makeSample_71 ?_
      refine r_get C hw in_X5 1 rfl rfl 1 (by decide) lk94 rfl dX4_makeSample_74 ?_
      refine lv_iload hx hb dX4_makeSample_77 (lv_at hl 1 rfl) ?_
      refine lv_bipush (v := nI 32) hx hb dX4_makeSample_79 (by decide) ?_
      refine n_add hx hb dX4_makeSample_81 ?_
      refine lv_sipush (v := nI 511) hx hb dX4_makeSample_82 (by decide) ?_
      refine n_and (d := 512) hx hb 9 (by decide) (by decide) (by omega) (by omega) dX4_makeSample_85 ?_
      refine r_iald C hw 2 rfl (by omega) (by omega) dX4_makeSample_86 ?_
      refine lv_i2l hx hb dX4_makeSample_87 rfl ?_
      refine lv_aload_n hx hb dX4_makeSample_88 rfl (lv_at hl 3 rfl) ?_
      refine r_get C hw in_X4 0 rfl rfl 1 (by decide) lk11 rfl dX4_makeSample_89 ?_
      refine lv_iload hx hb dX4_makeSample_92 (lv_at hl 2 rfl) ?_
      refine lv_bipush (v := nI 96) hx hb dX4_makeSample_94 (by decide) ?_
      refine n_add hx hb dX4_makeSample_96 ?_
      refine lv_sipush (v := nI 1023) hx hb dX4_makeSample_97 (by decide) ?_
      refine n_and (d := 1024) hx hb 10 (by decide) (by decide) (by omega) (by omega) dX4_makeSample_100 ?_
      refine r_iald C hw 3 rfl (by omega) (by omega) dX4_makeSample_101 ?_
      refine lv_i2l hx hb dX4_makeSample_102 rfl ?_
      refine lv_lmul hx hb dX4_makeSample_103 ?_
      refine lv_ladd hx hb dX4_makeSample_104 ?_
      refine lv_lstore_n (lv' := [(2, .long ((z + (((winA (((64 * i) + j_) % 512)).toInt64) * ((num (((nw + (128 * i)) + j_) % 1024)).toInt64))) + (((winA (((((64 * i) + j_) % 512) + 32) % 512)).toInt64) * ((num ((((nw + (128 * i)) + j_) + 96) % 1024)).toInt64)))), (6, .int (nI (((64 * i) + j_) % 512))), (5, .int (nI ((nw + (128 * i)) + j_))), (0, .ref v), (1, .int (nI j_)), (4, .int (nI i))]) hx hb dX4_makeSample_105 rfl hl (by decide) rfl (fun ls hl => ?_)
      refine lv_iinc (v := (nI (i + 1))) (lv' := [(4, .int (nI (i + 1))), (2, .long ((z + (((winA (((64 * i) + j_) % 512)).toInt64) * ((num (((nw + (128 * i)) + j_) % 1024)).toInt64))) + (((winA (((((64 * i) + j_) % 512) + 32) % 512)).toInt64) * ((num ((((nw + (128 * i)) + j_) + 96) % 1024)).toInt64)))), (6, .int (nI (((64 * i) + j_) % 512))), (5, .int (nI ((nw + (128 * i)) + j_))), (0, .ref v), (1, .int (nI j_))]) hx hb dX4_makeSample_106 hl (k := 5) rfl (nI_add _ _) (by decide) rfl (fun ls hl => ?_)
      refine lv_goto (tgt := 7) hx hb dX4_makeSample_109 (by decide) ?_
      exact K (trivial) _ _ _ ⟨hw, (lv_sub hl [4, 5, 1, 0] rfl)⟩
abbrev rm_c_makeSamples : Room := { frames := 2, cells := 0, slots := 0, locals := 43 }
set_option maxHeartbeats 4000000 in
set_option maxRecDepth 100000 in
theorem c_makeSamples (l : Launch) (g : GT) (sz : Nat) (v wv wc ww nu su sa nw md cap : Nat) (num sm : Nat → Int32) (h1 : nw < 1024) (h2 : md + 32 ≤ cap) (h3 : cap < 2 ^ 30) : CtV l g yX4_makeSamples wsX4_makeSamples rm_c_makeSamples [.ref v] [(v, .inr (4, [.ref wv, .ref nu, .int (nI nw), .ref su, .ref sa, .int (nI md)])), (wv, .inr (5, [.ref wc, .ref ww])), (ww, aI g 512 winA), (nu, aI g 1024 num), (sa, aI g cap sm)] sz (fun _ => True) (fun u => u = [(v, .inr (4, [.ref wv, .ref nu, .int (nI nw), .ref su, .ref sa, .int (nI (md + 32))])), (wv, .inr (5, [.ref wc, .ref ww])), (ww, aI g 512 winA), (nu, aI g 1024 num), (sa, aI g cap (lp (fun i f => upd f (md + i) (pcS (nw, num) i)) k32 sm))]) (0) (0) := by
  refine ct_body (cc := cX4_makeSamples) (nL := 2) (ret := none) (by decide) rfl (Nat.le_of_ble_eq_true rfl) ?_
  intro p e s m below meth c ls C hin hsz hB hw hl
  obtain ⟨hx, hb, hml, hown, hts, hK, hA, hr, hlk⟩ := id C
  have lk19 := hts (.fieldLink RX4 19 "SoundBench$Voice" "samples" "[I") (by decide +kernel)
  have lk36 := hts (.fieldLink RX4 36 "SoundBench$Voice" "made" "I") (by decide +kernel)
  have in_X4 : ∀ w ∈ wsX40, w ∈ wsX4_makeSamples := by unfold wsX4_makeSamples; intro w h; simp only [List.mem_cons, List.mem_append, h, or_true, true_or]
  have hl : lv_has ls 2 [(0, .ref v)] := hl
  have hw : Wd g (va_A [(v, .inr (4, [.ref wv, .ref nu, .int (nI nw), .ref su, .ref sa, .int (nI md)])), (wv, .inr (5, [.ref wc, .ref ww])), (ww, aI g 512 winA), (nu, aI g 1024 num), (sa, aI g cap sm)] sz) s.heap [(v, .inr (4, [.ref wv, .ref nu, .int (nI nw), .ref su, .ref sa, .int (nI md)])), (wv, .inr (5, [.ref wc, .ref ww])), (ww, aI g 512 winA), (nu, aI g 1024 num), (sa, aI g cap sm)] s.heap [] := hw
  have hk32 := k32_eq
  refine lv_aload_n hx hb dX4_makeSamples_0 rfl (lv_at hl 0 rfl) ?_
  refine r_get C hw in_X4 0 rfl rfl 5 (by decide) lk36 rfl dX4_makeSamples_1 ?_
  refine lv_bipush (v := nI 32) hx hb dX4_makeSamples_4 (by decide) ?_
  refine n_add hx hb dX4_makeSamples_6 ?_
  refine lv_aload_n hx hb dX4_makeSamples_7 rfl (lv_at hl 0 rfl) ?_
  refine r_get C hw in_X4 0 rfl rfl 4 (by decide) lk19 rfl dX4_makeSamples_8 ?_
  refine r_alen C hw 4 0 rfl rfl rfl dX4_makeSamples_11 ?_
  refine n_cle (tgt := 16) hx hb (by omega) (by omega) dX4_makeSamples_12 (by decide) (fun c_1 => ?_) (fun c_1 => ?_)
  · skip
    refine lv_iconst (v := nI 0) hx hb dX4_makeSamples_16 (by decide) ?_
    refine lv_istore_n (lv' := [(1, .int (nI 0)), (0, .ref v)]) hx hb dX4_makeSamples_17 rfl hl (by decide) rfl (fun ls hl => ?_)
    refine lps (σ := Nat → Int32) (fun i f => upd f (md + i) (pcS (nw, num) i)) (fun i z => True) (fun i z H locs ls => Wd g (va_A [(v, .inr (4, [.ref wv, .ref nu, .int (nI nw), .ref su, .ref sa, .int (nI md)])), (wv, .inr (5, [.ref wc, .ref ww])), (ww, aI g 512 winA), (nu, aI g 1024 num), (sa, aI g cap sm)] sz) s.heap [(v, .inr (4, [.ref wv, .ref nu, .int (nI nw), .ref su, .ref sa, .int (nI md)])), (wv, .inr (5, [.ref wc, .ref ww])), (ww, aI g 512 winA), (nu, aI g 1024 num), (sa, aI g cap z)] H locs ∧ lv_has ls 2 [(0, .ref v), (1, .int (nI i))]) (k32) (sm) ?_ ?_ (trivial) ⟨hw, (lv_sub hl [1, 0] rfl)⟩
    · intro z hJ hx_ H locs ls hI
      subst hx_
      obtain ⟨hw, hl⟩ := hI
      have hw : Wd g (va_A [(v, .inr (4, [.ref wv, .ref nu, .int (nI nw), .ref su, .ref sa, .int (nI md)])), (wv, .inr (5, [.ref wc, .ref ww])), (ww, aI g 512 winA), (nu, aI g 1024 num), (sa, aI g cap sm)] sz) s.heap [(v, .inr (4, [.ref wv, .ref nu, .int (nI nw), .ref su, .ref sa, .int (nI md)])), (wv, .inr (5, [.ref wc, .ref ww])), (ww, aI g 512 winA), (nu, aI g 1024 num), (sa, aI g cap (lp (fun i f => upd f (md + i) (pcS (nw, num) i)) k32 sm))] H locs := hw
      have hl : lv_has ls 2 [(0, .ref v), (1, .int (nI k32))] := hl
      refine lv_iload_n hx hb dX4_makeSamples_18 rfl (lv_at hl 1 rfl) ?_
      refine lv_bipush (v := nI 32) hx hb dX4_makeSamples_19 (by decide) ?_
      refine n_cge (tgt := 46) hx hb (by omega) (by omega) dX4_makeSamples_21 (by decide) (fun c_2 => ?_) (fun c_2 => ?_)
      · skip
        refine lv_aload_n hx hb dX4_makeSamples_46 rfl (lv_at hl 0 rfl) ?_
        refine lv_dup hx hb dX4_makeSamples_47 rfl ?_
        refine r_get C hw in_X4 0 rfl rfl 5 (by decide) lk36 rfl dX4_makeSamples_48 ?_
        refine lv_bipush (v := nI 32) hx hb dX4_makeSamples_51 (by decide) ?_
        refine n_add hx hb dX4_makeSamples_53 ?_
        refine r_put C hw in_X4 tyX4_ok nmX4 0 rfl rfl 5 (by decide) lk36 rfl rfl rfl (Nat.le_of_ble_eq_true rfl) (ws' := [(v, .inr (4, [.ref wv, .ref nu, .int (nI nw), .ref su, .ref sa, .int (nI (md + 32))])), (wv, .inr (5, [.ref wc, .ref ww])), (ww, aI g 512 winA), (nu, aI g 1024 num), (sa, aI g cap (lp (fun i f => upd f (md + i) (pcS (nw, num) i)) k32 sm))]) rfl dX4_makeSamples_54 (fun H locs hw => ?_)
        exact r_vret C hw (Nat.le_refl _) (Nat.le_refl _) (rfl) dX4_makeSamples_57
      · skip
        exfalso; omega
    · intro i z hi hJ hxe H locs ls hI K
      obtain ⟨hw, hl⟩ := hI
      have hw : Wd g (va_A [(v, .inr (4, [.ref wv, .ref nu, .int (nI nw), .ref su, .ref sa, .int (nI md)])), (wv, .inr (5, [.ref wc, .ref ww])), (ww, aI g 512 winA), (nu, aI g 1024 num), (sa, aI g cap sm)] sz) s.heap [(v, .inr (4, [.ref wv, .ref nu, .int (nI nw), .ref su, .ref sa, .int (nI md)])), (wv, .inr (5, [.ref wc, .ref ww])), (ww, aI g 512 winA), (nu, aI g 1024 num), (sa, aI g cap z)] H locs := hw
      have hl : lv_has ls 2 [(0, .ref v), (1, .int (nI i))] := hl
      refine lv_iload_n hx hb dX4_makeSamples_18 rfl (lv_at hl 1 rfl) ?_
      refine lv_bipush (v := nI 32) hx hb dX4_makeSamples_19 (by decide) ?_
      refine n_cge (tgt := 46) hx hb (by omega) (by omega) dX4_makeSamples_21 (by decide) (fun c_3 => ?_) (fun c_3 => ?_)
      · skip
        exfalso; omega
      · skip
        refine lv_aload_n hx hb dX4_makeSamples_24 rfl (lv_at hl 0 rfl) ?_
        refine r_get C hw in_X4 0 rfl rfl 4 (by decide) lk19 rfl dX4_makeSamples_25 ?_
        refine lv_aload_n hx hb dX4_makeSamples_28 rfl (lv_at hl 0 rfl) ?_
        refine r_get C hw in_X4 0 rfl rfl 5 (by decide) lk36 rfl dX4_makeSamples_29 ?_
        refine lv_iload_n hx hb dX4_makeSamples_32 rfl (lv_at hl 1 rfl) ?_
        refine n_add hx hb dX4_makeSamples_33 ?_
        refine lv_aload_n hx hb dX4_makeSamples_34 rfl (lv_at hl 0 rfl) ?_
        refine lv_iload_n hx hb dX4_makeSamples_35 rfl (lv_at hl 1 rfl) ?_
        refine k_Vi (As := [.int (nI i)]) (rest := [.int (nI (md + i)), .ref sa]) (wr := [(sa, aI g cap z)]) C hw (c_makeSample l g _ v wv wc ww nu su sa nw md i num h1 (by omega)) (cwV 1 hts gX4_makeSamples_X4_makeSample rfl rfl rfl (by decide +kernel) ⟨Nat.le_of_ble_eq_true rfl, Nat.le_of_ble_eq_true rfl⟩) bl_T (fun _ _ _ => trivial) [0, 1, 2, 3] [4] (by decide) rfl rfl (by decide) (by decide) 0 rfl rfl rfl hl.1 rfl (Nat.le_of_ble_eq_true rfl) dX4_makeSamples_36 ⟨Nat.le_of_ble_eq_true rfl, Nat.le_of_ble_eq_true rfl⟩ (fun r_4 u H locs hp hw => ?_)
        obtain ⟨rfl, rfl⟩ := hp
        have hw := Wd.sub (ws' := [(v, .inr (4, [.ref wv, .ref nu, .int (nI nw), .ref su, .ref sa, .int (nI md)])), (wv, .inr (5, [.ref wc, .ref ww])), (ww, aI g 512 winA), (nu, aI g 1024 num), (sa, aI g cap z)]) hw [1, 2, 3, 4, 0] (by decide) rfl
        refine r_iast C hw 4 rfl (by omega) (by omega) (ws' := [(v, .inr (4, [.ref wv, .ref nu, .int (nI nw), .ref su, .ref sa, .int (nI md)])), (wv, .inr (5, [.ref wc, .ref ww])), (ww, aI g 512 winA), (nu, aI g 1024 num), (sa, aI g cap (upd z (md + i) (pcS (nw, num) i)))]) rfl dX4_makeSamples_39 (fun H locs hw => ?_)
        refine lv_iinc (v := (nI (i + 1))) (lv' := [(1, .int (nI (i + 1))), (0, .ref v)]) hx hb dX4_makeSamples_40 hl (k := 1) rfl (nI_add _ _) (by decide) rfl (fun ls hl => ?_)
        refine lv_goto (tgt := 18) hx hb dX4_makeSamples_43 (by decide) ?_
        exact K (trivial) _ _ _ ⟨hw, (lv_sub hl [1, 0] rfl)⟩
  · skip
    exfalso; omega
