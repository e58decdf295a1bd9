abbrev rm_c_sum : Room := { frames := 2, cells := 0, slots := 0, locals := 46 }
set_option maxHeartbeats 4000000 in
set_option maxRecDepth 100000 in
theorem c_sum (l : Launch) (g : GT) (sz : Nat) (sb tp len pl al dec r k k2 v v2 : Nat) (wv nu su sa nw md nu2 su2 sb2 nw2 md2 : Nat) (cap cap2 : Nat) (sm sm2 : Nat → Int32) (x y z : Int32) (h1 : md ≤ cap) (h2 : cap < 2 ^ 30) (h3 : md2 ≤ cap2) (h4 : cap2 < 2 ^ 30) : CtI l g yX6_sum wsX6_sum rm_c_sum [.ref sb, .int x, .int y, .int z] [(sb, .inr (6, [.ref tp, .int (nI len), .int (nI pl), .ref al, .int (nI dec), .ref r, .ref k, .ref k2, .ref v, .ref v2])), (v, .inr (4, [.ref wv, .ref nu, .int (nI nw), .ref su, .ref sa, .int (nI md)])), (sa, aI g cap sm), (v2, .inr (4, [.ref wv, .ref nu2, .int (nI nw2), .ref su2, .ref sb2, .int (nI md2)])), (sb2, aI g cap2 sm2)] sz (fun _ => True) (fun rr u => rr = sumA md md2 sm sm2 x y z ∧ u = [(sb, .inr (6, [.ref tp, .int (nI len), .int (nI pl), .ref al, .int (nI dec), .ref r, .ref k, .ref k2, .ref v, .ref v2])), (v, .inr (4, [.ref wv, .ref nu, .int (nI nw), .ref su, .ref sa, .int (nI md)])), (sa, aI g cap sm), (v2, .inr (4, [.ref wv, .ref nu2, .int (nI nw2), .ref su2, .ref sb2, .int (nI md2)])), (sb2, aI g cap2 sm2)]) (0) (0) := by
  refine ct_body (cc := cX6_sum) (nL := 4) (ret := (some .int)) (by decide) rfl (Nat.le_of_ble_eq_true rfl) ?_
  intro p e s m below meth c ls C hin hsz hB hw hl
  obtain ⟨hx, hb, hml, hown, hts, hK, hA, hr, hlk⟩ := id C
  have lk55 := hts (.fieldLink RX6 55 "SoundBench" "firstVoice" "LSoundBench$Voice;") (by decide +kernel)
  have lk59 := hts (.fieldLink RX6 59 "SoundBench" "secondVoice" "LSoundBench$Voice;") (by decide +kernel)
  have in_X6 : ∀ w ∈ wsX60, w ∈ wsX6_sum := by unfold wsX6_sum; intro w h; simp only [List.mem_cons, List.mem_append, h, or_true, true_or]
  have hl : lv_has ls 4 [(0, .ref sb), (1, .int x), (2, .int y), (3, .int z)] := hl
  have hw : Wd g (va_A [(sb, .inr (6, [.ref tp, .int (nI len), .int (nI pl), .ref al, .int (nI dec), .ref r, .ref k, .ref k2, .ref v, .ref v2])), (v, .inr (4, [.ref wv, .ref nu, .int (nI nw), .ref su, .ref sa, .int (nI md)])), (sa, aI g cap sm), (v2, .inr (4, [.ref wv, .ref nu2, .int (nI nw2), .ref su2, .ref sb2, .int (nI md2)])), (sb2, aI g cap2 sm2)] sz) s.heap [(sb, .inr (6, [.ref tp, .int (nI len), .int (nI pl), .ref al, .int (nI dec), .ref r, .ref k, .ref k2, .ref v, .ref v2])), (v, .inr (4, [.ref wv, .ref nu, .int (nI nw), .ref su, .ref sa, .int (nI md)])), (sa, aI g cap sm), (v2, .inr (4, [.ref wv, .ref nu2, .int (nI nw2), .ref su2, .ref sb2, .int (nI md2)])), (sb2, aI g cap2 sm2)] s.heap [] := hw
  refine lv_iload_n hx hb dX6_sum_0 rfl (lv_at hl 2 rfl) ?_
  refine lv_if_lt (tgt := 16) hx hb dX6_sum_1 (by decide) (fun c_1 => ?_) (fun c_1 => ?_)
  · skip
    rw [lt0] at c_1
    refine lv_iconst (v := nI 0) hx hb dX6_sum_16 (by decide) ?_
    exact r_iret C hw (Nat.le_refl _) (Nat.le_refl _) (⟨by unfold sumA sum1; rw [if_neg (show ¬ (0 ≤ y.toInt ∧ 0 ≤ z.toInt ∧ z.toInt ≤ y.toInt + 2000) by omega), if_neg (show ¬ (0 ≤ y.toInt ∧ 0 ≤ z.toInt ∧ z.toInt ≤ y.toInt + 2000) by omega)]; (repeat' split) <;> rfl, rfl⟩) dX6_sum_17
  · skip
    rw [lt0] at c_1
    refine lv_iload_n hx hb dX6_sum_4 rfl (lv_at hl 3 rfl) ?_
    refine lv_i2l hx hb dX6_sum_5 rfl ?_
    refine lv_iload_n hx hb dX6_sum_6 rfl (lv_at hl 2 rfl) ?_
    refine lv_i2l hx hb dX6_sum_7 rfl ?_
    refine lv_ldc2 (v := 2000) hx hb hown (hts (.constantLong RX6 116 (2000)) (by decide +kernel)) dX6_sum_8 ?_
    refine lv_ladd hx hb dX6_sum_11 ?_
    refine W.lcmp hx hb dX6_sum_12 ?_
    refine lv_if_le (tgt := 18) hx hb dX6_sum_13 (by decide) (fun c_2 => ?_) (fun c_2 => ?_)
    · skip
      rw [sumcmp] at c_2
      obtain ⟨a_, ha_, rfl, hae⟩ := nat_of (x := y) (by omega)
      have hca := nI_clamp ha_
      rw [hae] at c_2
      by_cases hz0 : 0 ≤ z.toInt
      · obtain ⟨b_, hb_, rfl, hbe⟩ := nat_of (x := z) hz0
        have hcb := nI_clamp hb_
        rw [hbe] at c_2
        have e1 : sum1 md sm (nI a_) (nI b_) = lp (wsF sm a_) (min b_ md - a_) 0 := by unfold sum1; rw [hae, hbe, if_pos (by omega), hca, hcb]
        have e2 : sum1 md2 sm2 (nI a_) (nI b_) = lp (wsF sm2 a_) (min b_ md2 - a_) 0 := by unfold sum1; rw [hae, hbe, if_pos (by omega), hca, hcb]
        refine lv_iload_n hx hb dX6_sum_18 rfl (lv_at hl 1 rfl) ?_
        refine lv_if_ne (tgt := 32) hx hb dX6_sum_19 (by decide) (fun c_x => ?_) (fun c_x => ?_)
        · skip
          refine lv_iload_n hx hb dX6_sum_32 rfl (lv_at hl 1 rfl) ?_
          refine lv_iconst (v := nI 1) hx hb dX6_sum_33 (by decide) ?_
          refine lv_icmp_ne (tgt := 49) hx hb dX6_sum_34 (by decide) (fun c_y => ?_) (fun c_y => ?_)
          · skip
            refine lv_iconst (v := nI 0) hx hb dX6_sum_49 (by decide) ?_
            exact r_iret C hw (Nat.le_refl _) (Nat.le_refl _) (⟨by unfold sumA; rw [if_neg c_x, if_neg c_y]; rfl, rfl⟩) dX6_sum_50
          · skip
            refine lv_aload_n hx hb dX6_sum_37 rfl (lv_at hl 0 rfl) ?_
            refine r_get C hw in_X6 0 rfl rfl 9 (by decide) lk59 rfl dX6_sum_38 ?_
            refine lv_iload_n hx hb dX6_sum_41 rfl (lv_at hl 2 rfl) ?_
            refine lv_iload_n hx hb dX6_sum_42 rfl (lv_at hl 3 rfl) ?_
            refine k_Vi (As := [.int (nI a_), .int (nI b_)]) (rest := []) (wr := [(sb, .inr (6, [.ref tp, .int (nI len), .int (nI pl), .ref al, .int (nI dec), .ref r, .ref k, .ref k2, .ref v, .ref v2])), (v, .inr (4, [.ref wv, .ref nu, .int (nI nw), .ref su, .ref sa, .int (nI md)])), (sa, aI g cap sm)]) C hw (c_weightedSum l g _ v2 wv nu2 su2 sb2 nw2 md2 cap2 a_ b_ sm2 h3 h4 ha_ hb_) (cwV 2 hts gX6_sum_X4_weightedSum rfl rfl rfl (by decide +kernel) ⟨Nat.le_of_ble_eq_true rfl, Nat.le_of_ble_eq_true rfl⟩) bl_T (fun _ _ _ => trivial) [3, 4] [0, 1, 2] (by decide) rfl rfl (by decide) (by decide) 3 rfl rfl rfl hl.1 rfl (Nat.le_of_ble_eq_true rfl) dX6_sum_43 ⟨Nat.le_of_ble_eq_true rfl, Nat.le_of_ble_eq_true rfl⟩ (fun r_1 u H locs hp hw => ?_)
            obtain ⟨rfl, rfl⟩ := hp
            have hw := Wd.sub (ws' := [(sb, .inr (6, [.ref tp, .int (nI len), .int (nI pl), .ref al, .int (nI dec), .ref r, .ref k, .ref k2, .ref v, .ref v2])), (v, .inr (4, [.ref wv, .ref nu, .int (nI nw), .ref su, .ref sa, .int (nI md)])), (sa, aI g cap sm), (v2, .inr (4, [.ref wv, .ref nu2, .int (nI nw2), .ref su2, .ref sb2, .int (nI md2)])), (sb2, aI g cap2 sm2)]) hw [0, 1, 2, 3, 4] (by decide) rfl
            refine lv_goto (tgt := 50) hx hb dX6_sum_46 (by decide) ?_
            exact r_iret C hw (Nat.le_refl _) (Nat.le_refl _) (⟨by unfold sumA; rw [if_neg c_x, if_pos c_y, e2], rfl⟩) dX6_sum_50
        · skip
          refine lv_aload_n hx hb dX6_sum_22 rfl (lv_at hl 0 rfl) ?_
          refine r_get C hw in_X6 0 rfl rfl 8 (by decide) lk55 rfl dX6_sum_23 ?_
          refine lv_iload_n hx hb dX6_sum_26 rfl (lv_at hl 2 rfl) ?_
          refine lv_iload_n hx hb dX6_sum_27 rfl (lv_at hl 3 rfl) ?_
          refine k_Vi (As := [.int (nI a_), .int (nI b_)]) (rest := []) (wr := [(sb, .inr (6, [.ref tp, .int (nI len), .int (nI pl), .ref al, .int (nI dec), .ref r, .ref k, .ref k2, .ref v, .ref v2])), (v2, .inr (4, [.ref wv, .ref nu2, .int (nI nw2), .ref su2, .ref sb2, .int (nI md2)])), (sb2, aI g cap2 sm2)]) C hw (c_weightedSum l g _ v wv nu su sa nw md cap a_ b_ sm h1 h2 ha_ hb_) (cwV 2 hts gX6_sum_X4_weightedSum rfl rfl rfl (by decide +kernel) ⟨Nat.le_of_ble_eq_true rfl, Nat.le_of_ble_eq_true rfl⟩) bl_T (fun _ _ _ => trivial) [1, 2] [0, 3, 4] (by decide) rfl rfl (by decide) (by decide) 1 rfl rfl rfl hl.1 rfl (Nat.le_of_ble_eq_true rfl) dX6_sum_28 ⟨Nat.le_of_ble_eq_true rfl, Nat.le_of_ble_eq_true rfl⟩ (fun r_2 u H locs hp hw => ?_)
          obtain ⟨rfl, rfl⟩ := hp
          have hw := Wd.sub (ws' := [(sb, .inr (6, [.ref tp, .int (nI len), .int (nI pl), .ref al, .int (nI dec), .ref r, .ref k, .ref k2, .ref v, .ref v2])), (v, .inr (4, [.ref wv, .ref nu, .int (nI nw), .ref su, .ref sa, .int (nI md)])), (sa, aI g cap sm), (v2, .inr (4, [.ref wv, .ref nu2, .int (nI nw2), .ref su2, .ref sb2, .int (nI md2)])), (sb2, aI g cap2 sm2)]) hw [0, 3, 4, 1, 2] (by decide) rfl
          exact r_iret C hw (Nat.le_refl _) (Nat.le_refl _) (⟨by unfold sumA; rw [if_pos c_x, e1], rfl⟩) dX6_sum_31
      · have hzn : z < 0 := lt0.mpr (by omega)
        have e1 : sum1 md sm (nI a_) z = 0 := if_neg (by omega)
        have e2 : sum1 md2 sm2 (nI a_) z = 0 := if_neg (by omega)
        refine lv_iload_n hx hb dX6_sum_18 rfl (lv_at hl 1 rfl) ?_
        refine lv_if_ne (tgt := 32) hx hb dX6_sum_19 (by decide) (fun c_x => ?_) (fun c_x => ?_)
        · skip
          refine lv_iload_n hx hb dX6_sum_32 rfl (lv_at hl 1 rfl) ?_
          refine lv_iconst (v := nI 1) hx hb dX6_sum_33 (by decide) ?_
          refine lv_icmp_ne (tgt := 49) hx hb dX6_sum_34 (by decide) (fun c_y => ?_) (fun c_y => ?_)
          · skip
            refine lv_iconst (v := nI 0) hx hb dX6_sum_49 (by decide) ?_
            exact r_iret C hw (Nat.le_refl _) (Nat.le_refl _) (⟨by unfold sumA; rw [if_neg c_x, if_neg c_y]; rfl, rfl⟩) dX6_sum_50
          · skip
            refine lv_aload_n hx hb dX6_sum_37 rfl (lv_at hl 0 rfl) ?_
            refine r_get C hw in_X6 0 rfl rfl 9 (by decide) lk59 rfl dX6_sum_38 ?_
            refine lv_iload_n hx hb dX6_sum_41 rfl (lv_at hl 2 rfl) ?_
            refine lv_iload_n hx hb dX6_sum_42 rfl (lv_at hl 3 rfl) ?_
            refine k_Vi (As := [.int (nI a_), .int z]) (rest := []) (wr := [(sb, .inr (6, [.ref tp, .int (nI len), .int (nI pl), .ref al, .int (nI dec), .ref r, .ref k, .ref k2, .ref v, .ref v2])), (v, .inr (4, [.ref wv, .ref nu, .int (nI nw), .ref su, .ref sa, .int (nI md)])), (sa, aI g cap sm)]) C hw (c_weightedSum0 l g _ v2 wv nu2 su2 sb2 nw2 md2 cap2 a_ z sm2 (by omega) ha_ hzn) (cwV 2 hts gX6_sum_X4_weightedSum rfl rfl rfl (by decide +kernel) ⟨Nat.le_of_ble_eq_true rfl, Nat.le_of_ble_eq_true rfl⟩) bl_T (fun _ _ _ => trivial) [3, 4] [0, 1, 2] (by decide) rfl rfl (by decide) (by decide) 3 rfl rfl rfl hl.1 rfl (Nat.le_of_ble_eq_true rfl) dX6_sum_43 ⟨Nat.le_of_ble_eq_true rfl, Nat.le_of_ble_eq_true rfl⟩ (fun r_3 u H locs hp hw => ?_)
            obtain ⟨rfl, rfl⟩ := hp
            have hw := Wd.sub (ws' := [(sb, .inr (6, [.ref tp, .int (nI len), .int (nI pl), .ref al, .int (nI dec), .ref r, .ref k, .ref k2, .ref v, .ref v2])), (v, .inr (4, [.ref wv, .ref nu, .int (nI nw), .ref su, .ref sa, .int (nI md)])), (sa, aI g cap sm), (v2, .inr (4, [.ref wv, .ref nu2, .int (nI nw2), .ref su2, .ref sb2, .int (nI md2)])), (sb2, aI g cap2 sm2)]) hw [0, 1, 2, 3, 4] (by decide) rfl
            refine lv_goto (tgt := 50) hx hb dX6_sum_46 (by decide) ?_
            exact r_iret C hw (Nat.le_refl _) (Nat.le_refl _) (⟨by unfold sumA; rw [if_neg c_x, if_pos c_y, e2], rfl⟩) dX6_sum_50
        · skip
          refine lv_aload_n hx hb dX6_sum_22 rfl (lv_at hl 0 rfl) ?_
          refine r_get C hw in_X6 0 rfl rfl 8 (by decide) lk55 rfl dX6_sum_23 ?_
          refine lv_iload_n hx hb dX6_sum_26 rfl (lv_at hl 2 rfl) ?_
          refine lv_iload_n hx hb dX6_sum_27 rfl (lv_at hl 3 rfl) ?_
          refine k_Vi (As := [.int (nI a_), .int z]) (rest := []) (wr := [(sb, .inr (6, [.ref tp, .int (nI len), .int (nI pl), .ref al, .int (nI dec), .ref r, .ref k, .ref k2, .ref v, .ref v2])), (v2, .inr (4, [.ref wv, .ref nu2, .int (nI nw2), .ref su2, .ref sb2, .int (nI md2)])), (sb2, aI g cap2 sm2)]) C hw (c_weightedSum0 l g _ v wv nu su sa nw md cap a_ z sm (by omega) ha_ hzn) (cwV 2 hts gX6_sum_X4_weightedSum rfl rfl rfl (by decide +kernel) ⟨Nat.le_of_ble_eq_true rfl, Nat.le_of_ble_eq_true rfl⟩) bl_T (fun _ _ _ => trivial) [1, 2] [0, 3, 4] (by decide) rfl rfl (by decide) (by decide) 1 rfl rfl rfl hl.1 rfl (Nat.le_of_ble_eq_true rfl) dX6_sum_28 ⟨Nat.le_of_ble_eq_true rfl, Nat.le_of_ble_eq_true rfl⟩ (fun r_4 u H locs hp hw => ?_)
          obtain ⟨rfl, rfl⟩ := hp
          have hw := Wd.sub (ws' := [(sb, .inr (6, [.ref tp, .int (nI len), .int (nI pl), .ref al, .int (nI dec), .ref r, .ref k, .ref k2, .ref v, .ref v2])), (v, .inr (4, [.ref wv, .ref nu, .int (nI nw), .ref su, .ref sa, .int (nI md)])), (sa, aI g cap sm), (v2, .inr (4, [.ref wv, .ref nu2, .int (nI nw2), .ref su2, .ref sb2, .int (nI md2)])), (sb2, aI g cap2 sm2)]) hw [0, 3, 4, 1, 2] (by decide) rfl
          exact r_iret C hw (Nat.le_refl _) (Nat.le_refl _) (⟨by unfold sumA; rw [if_pos c_x, e1], rfl⟩) dX6_sum_31
    · skip
      rw [sumcmp] at c_2
      refine lv_iconst (v := nI 0) hx hb dX6_sum_16 (by decide) ?_
      exact r_iret C hw (Nat.le_refl _) (Nat.le_refl _) (⟨by unfold sumA sum1; rw [if_neg (show ¬ (0 ≤ y.toInt ∧ 0 ≤ z.toInt ∧ z.toInt ≤ y.toInt + 2000) by omega), if_neg (show ¬ (0 ≤ y.toInt ∧ 0 ≤ z.toInt ∧ z.toInt ≤ y.toInt + 2000) by omega)]; (repeat' split) <;> rfl, rfl⟩) dX6_sum_17
abbrev rm_c_frame0 : Room := { frames := 2, cells := 0, slots := 0, locals := 42 }
set_option maxHeartbeats 4000000 in
set_option maxRecDepth 100000 in
theorem c_frame0 (l : Launch) (g : GT) (sz : Nat) (tb : Nat → Nat) (f w s_ : Nat) (h0 : w < 2 ^ 32) : CtV l g yX2_init wsX2_init rm_c_frame0 [.ref f, .int (nI w), .int (nI s_)] [(f, .inr (2, [.int (nI 0), .int (nI 0), .int (nI 0), .int (nI 0), .int (nI 0), .int (nI 0), .int (nI 0), .int (nI 0), .int (nI 0), .int (nI 0), .int (nI 0), .int (nI 0)]))] sz (fun U => Sx tb (va_A [(f, .inr (2, [.int (nI 0), .int (nI 0), .int (nI 0), .int (nI 0), .int (nI 0), .int (nI 0), .int (nI 0), .int (nI 0), .int (nI 0), .int (nI 0), .int (nI 0), .int (nI 0)]))] sz) U U.heap) (fun u => u = [(f, .inr (2, [.int (nI s_), .int (nI (layerS w)), .int (nI (chkS w)), .int (nI (rateS w)), .int (nI (sampS w)), .int (nI (byS w)), .int (nI (modeS w)), .int (nI (chS w)), .int (nI (bandS w)), .int (nI (ftS w)), .int (nI (boundS w)), .int (nI 2)]))]) (0) (0) := by
  refine ct_body (cc := cX2_init) (nL := 4) (ret := none) (by decide) rfl (Nat.le_of_ble_eq_true rfl) ?_
  intro p e s m below meth c ls C hin hsz hB hw hl
  obtain ⟨hx, hb, hml, hown, hts, hK, hA, hr, hlk⟩ := id C
  have lk9 := hts (.fieldLink RX2 9 "SoundBench$Frame" "start" "I") (by decide +kernel)
  have lk19 := hts (.fieldLink RX2 19 "SoundBench$Frame" "layer" "I") (by decide +kernel)
  have lk22 := hts (.fieldLink RX2 22 "SoundBench$Frame" "checked" "Z") (by decide +kernel)
  have lk29 := hts (.fieldLink RX2 29 "SoundBench$Frame" "rate" "I") (by decide +kernel)
  have lk35 := hts (.fieldLink RX2 35 "SoundBench$Frame" "sampling" "I") (by decide +kernel)
  have lk42 := hts (.fieldLink RX2 42 "SoundBench$Frame" "bytes" "I") (by decide +kernel)
  have lk48 := hts (.fieldLink RX2 48 "SoundBench$Frame" "mode" "I") (by decide +kernel)
  have lk51 := hts (.fieldLink RX2 51 "SoundBench$Frame" "channels" "I") (by decide +kernel)
  have lk58 := hts (.fieldLink RX2 58 "SoundBench$Frame" "bands" "I") (by decide +kernel)
  have lk61 := hts (.fieldLink RX2 61 "SoundBench$Frame" "firstTable" "Z") (by decide +kernel)
  have lk69 := hts (.fieldLink RX2 69 "SoundBench$Frame" "bound" "I") (by decide +kernel)
  have lk72 := hts (.fieldLink RX2 72 "SoundBench$Frame" "outcome" "I") (by decide +kernel)
  have in_X2 : ∀ w ∈ wsX20, w ∈ wsX2_init := by unfold wsX2_init; intro w h; simp only [List.mem_cons, List.mem_append, h, or_true, true_or]
  have hl : lv_has ls 4 [(0, .ref f), (1, .int (nI w)), (2, .int (nI s_))] := hl
  have hw : Wd g (va_A [(f, .inr (2, [.int (nI 0), .int (nI 0), .int (nI 0), .int (nI 0), .int (nI 0), .int (nI 0), .int (nI 0), .int (nI 0), .int (nI 0), .int (nI 0), .int (nI 0), .int (nI 0)]))] sz) s.heap [(f, .inr (2, [.int (nI 0), .int (nI 0), .int (nI 0), .int (nI 0), .int (nI 0), .int (nI 0), .int (nI 0), .int (nI 0), .int (nI 0), .int (nI 0), .int (nI 0), .int (nI 0)]))] s.heap [] := hw
  have g1 := layer_le w
  have g2 := samp_le w
  have g3 := rate_le w
  have g4 := mode_le w
  have g5 := ch_le w
  have g6 := band_le w
  have g7 := cr_le w
  have g8 := two_le (crS w) (sampS w)
  refine lv_aload_n hx hb dX2_init_0 rfl (lv_at hl 0 rfl) ?_
  refine W.objInit hx hb hown (hts (.methodLink RX2 3 objectInit) (by decide +kernel)) (hts (.instanceMethod objectInit) (by decide +kernel)) (hts (.code objectInit ⟨#[0xb1]⟩ 1 none) (by decide +kernel)) rfl (by rw [hml]; exact hl.1) rfl dX2_init_1 (Nat.le_of_ble_eq_true rfl) (Nat.le_of_ble_eq_true rfl) ?_
  refine W.eq (g2 := F0 m 4 ls []) rfl ?_
  refine lv_aload_n hx hb dX2_init_4 rfl (lv_at hl 0 rfl) ?_
  refine lv_iload_n hx hb dX2_init_5 rfl (lv_at hl 2 rfl) ?_
  refine r_putF C hw in_X2 tyX2_ok nmX2 0 rfl rfl 0 (by decide) lk9 rfl hin rfl rfl rfl (Nat.le_of_ble_eq_true rfl) (ws' := [(f, .inr (2, [.int (nI s_), .int (nI 0), .int (nI 0), .int (nI 0), .int (nI 0), .int (nI 0), .int (nI 0), .int (nI 0), .int (nI 0), .int (nI 0), .int (nI 0), .int (nI 0)]))]) rfl dX2_init_6 (fun H locs hw => ?_)
  refine lv_aload_n hx hb dX2_init_9 rfl (lv_at hl 0 rfl) ?_
  refine lv_iload_n hx hb dX2_init_10 rfl (lv_at hl 1 rfl) ?_
  refine k_Si (As := [.int (nI w)]) (rest := [.ref f]) (wr := [(f, .inr (2, [.int (nI s_), .int (nI 0), .int (nI 0), .int (nI 0), .int (nI 0), .int (nI 0), .int (nI 0), .int (nI 0), .int (nI 0), .int (nI 0), .int (nI 0), .int (nI 0)]))]) C hw (c_layerOf l g _ w h0) (va_cwS 1 hts gX2_init_X2_layerOf rfl rfl rfl (by decide +kernel) ⟨Nat.le_of_ble_eq_true rfl, Nat.le_of_ble_eq_true rfl⟩) bl_T (fun _ _ _ => trivial) [] [0] (by decide) rfl rfl (by decide) (by decide) rfl hl.1 rfl (Nat.le_of_ble_eq_true rfl) dX2_init_11 ⟨Nat.le_of_ble_eq_true rfl, Nat.le_of_ble_eq_true rfl⟩ (fun r_1 u H locs hp hw => ?_)
  obtain ⟨rfl, rfl⟩ := hp
  have hw := Wd.sub (ws' := [(f, .inr (2, [.int (nI s_), .int (nI 0), .int (nI 0), .int (nI 0), .int (nI 0), .int (nI 0), .int (nI 0), .int (nI 0), .int (nI 0), .int (nI 0), .int (nI 0), .int (nI 0)]))]) hw [0] (by decide) rfl
  refine r_putF C hw in_X2 tyX2_ok nmX2 0 rfl rfl 1 (by decide) lk19 rfl hin rfl rfl rfl (Nat.le_of_ble_eq_true rfl) (ws' := [(f, .inr (2, [.int (nI s_), .int (nI (layerS w)), .int (nI 0), .int (nI 0), .int (nI 0), .int (nI 0), .int (nI 0), .int (nI 0), .int (nI 0), .int (nI 0), .int (nI 0), .int (nI 0)]))]) rfl dX2_init_14 (fun H locs hw => ?_)
  refine lv_aload_n hx hb dX2_init_17 rfl (lv_at hl 0 rfl) ?_
  refine lv_iload_n hx hb dX2_init_18 rfl (lv_at hl 1 rfl) ?_
  refine lv_bipush (v := nI 16) hx hb dX2_init_19 (by decide) ?_
  refine n_ushr (d := 65536) hx hb (by decide) (by omega) (by omega) dX2_init_21 ?_
  refine lv_iconst (v := nI 1) hx hb dX2_init_22 (by decide) ?_
  refine n_and (d := 2) hx hb 1 (by decide) (by decide) (by omega) (by omega) dX2_init_23 ?_
  refine jw (pcj := 32) (restj := [.int (nI (chkS w)), .ref f]) (fun H locs ls => Wd g (va_A [(f, .inr (2, [.int (nI 0), .int (nI 0), .int (nI 0), .int (nI 0), .int (nI 0), .int (nI 0), .int (nI 0), .int (nI 0), .int (nI 0), .int (nI 0), .int (nI 0), .int (nI 0)]))] sz) s.heap [(f, .inr (2, [.int (nI s_), .int (nI (layerS w)), .int (nI 0), .int (nI 0), .int (nI 0), .int (nI 0), .int (nI 0), .int (nI 0), .int (nI 0), .int (nI 0), .int (nI 0), .int (nI 0)]))] H locs ∧ lv_has ls 4 [(0, .ref f), (1, .int (nI w)), (2, .int (nI s_))]) ?_ ?_
  · intro H locs ls hJ
    obtain ⟨hw, hl⟩ := hJ
    refine r_putF C hw in_X2 tyX2_ok nmX2 0 rfl rfl 2 (by decide) lk22 rfl hin rfl (narZ (chk_le w)) (fitZ (chk_le w)) (Nat.le_of_ble_eq_true rfl) (ws' := [(f, .inr (2, [.int (nI s_), .int (nI (layerS w)), .int (nI (chkS w)), .int (nI 0), .int (nI 0), .int (nI 0), .int (nI 0), .int (nI 0), .int (nI 0), .int (nI 0), .int (nI 0), .int (nI 0)]))]) rfl dX2_init_32 (fun H locs hw => ?_)
    refine lv_aload_n hx hb dX2_init_35 rfl (lv_at hl 0 rfl) ?_
    refine lv_iload_n hx hb dX2_init_36 rfl (lv_at hl 1 rfl) ?_
    refine k_Si (As := [.int (nI w)]) (rest := [.ref f]) (wr := [(f, .inr (2, [.int (nI s_), .int (nI (layerS w)), .int (nI (chkS w)), .int (nI 0), .int (nI 0), .int (nI 0), .int (nI 0), .int (nI 0), .int (nI 0), .int (nI 0), .int (nI 0), .int (nI 0)]))]) C hw (c_rateOf l g _ tb w h0) (va_cwS 1 hts gX2_init_X2_rateOf rfl rfl rfl (by decide +kernel) ⟨Nat.le_of_ble_eq_true rfl, Nat.le_of_ble_eq_true rfl⟩) sx_bl (sx_call C hw hB [] rfl) [] [0] (by decide) rfl rfl (by decide) (by decide) rfl hl.1 rfl (Nat.le_of_ble_eq_true rfl) dX2_init_37 ⟨Nat.le_of_ble_eq_true rfl, Nat.le_of_ble_eq_true rfl⟩ (fun r_2 u H locs hp hw => ?_)
    obtain ⟨rfl, rfl⟩ := hp
    have hw := Wd.sub (ws' := [(f, .inr (2, [.int (nI s_), .int (nI (layerS w)), .int (nI (chkS w)), .int (nI 0), .int (nI 0), .int (nI 0), .int (nI 0), .int (nI 0), .int (nI 0), .int (nI 0), .int (nI 0), .int (nI 0)]))]) hw [0] (by decide) rfl
    refine r_putF C hw in_X2 tyX2_ok nmX2 0 rfl rfl 3 (by decide) lk29 rfl hin rfl rfl rfl (Nat.le_of_ble_eq_true rfl) (ws' := [(f, .inr (2, [.int (nI s_), .int (nI (layerS w)), .int (nI (chkS w)), .int (nI (rateS w)), .int (nI 0), .int (nI 0), .int (nI 0), .int (nI 0), .int (nI 0), .int (nI 0), .int (nI 0), .int (nI 0)]))]) rfl dX2_init_40 (fun H locs hw => ?_)
    refine lv_aload_n hx hb dX2_init_43 rfl (lv_at hl 0 rfl) ?_
    refine lv_iload_n hx hb dX2_init_44 rfl (lv_at hl 1 rfl) ?_
    refine k_Si (As := [.int (nI w)]) (rest := [.ref f]) (wr := [(f, .inr (2, [.int (nI s_), .int (nI (layerS w)), .int (nI (chkS w)), .int (nI (rateS w)), .int (nI 0), .int (nI 0), .int (nI 0), .int (nI 0), .int (nI 0), .int (nI 0), .int (nI 0), .int (nI 0)]))]) C hw (c_samplingOf l g _ tb w h0) (va_cwS 1 hts gX2_init_X2_samplingOf rfl rfl rfl (by decide +kernel) ⟨Nat.le_of_ble_eq_true rfl, Nat.le_of_ble_eq_true rfl⟩) sx_bl (sx_call C hw hB [] rfl) [] [0] (by decide) rfl rfl (by decide) (by decide) rfl hl.1 rfl (Nat.le_of_ble_eq_true rfl) dX2_init_45 ⟨Nat.le_of_ble_eq_true rfl, Nat.le_of_ble_eq_true rfl⟩ (fun r_3 u H locs hp hw => ?_)
    obtain ⟨rfl, rfl⟩ := hp
    have hw := Wd.sub (ws' := [(f, .inr (2, [.int (nI s_), .int (nI (layerS w)), .int (nI (chkS w)), .int (nI (rateS w)), .int (nI 0), .int (nI 0), .int (nI 0), .int (nI 0), .int (nI 0), .int (nI 0), .int (nI 0), .int (nI 0)]))]) hw [0] (by decide) rfl
    refine r_putF C hw in_X2 tyX2_ok nmX2 0 rfl rfl 4 (by decide) lk35 rfl hin rfl rfl rfl (Nat.le_of_ble_eq_true rfl) (ws' := [(f, .inr (2, [.int (nI s_), .int (nI (layerS w)), .int (nI (chkS w)), .int (nI (rateS w)), .int (nI (sampS w)), .int (nI 0), .int (nI 0), .int (nI 0), .int (nI 0), .int (nI 0), .int (nI 0), .int (nI 0)]))]) rfl dX2_init_48 (fun H locs hw => ?_)
    refine lv_aload_n hx hb dX2_init_51 rfl (lv_at hl 0 rfl) ?_
    refine lv_aload_n hx hb dX2_init_52 rfl (lv_at hl 0 rfl) ?_
    refine r_get C hw in_X2 0 rfl rfl 1 (by decide) lk19 rfl dX2_init_53 ?_
    refine lv_aload_n hx hb dX2_init_56 rfl (lv_at hl 0 rfl) ?_
    refine r_get C hw in_X2 0 rfl rfl 3 (by decide) lk29 rfl dX2_init_57 ?_
    refine lv_aload_n hx hb dX2_init_60 rfl (lv_at hl 0 rfl) ?_
    refine r_get C hw in_X2 0 rfl rfl 4 (by decide) lk35 rfl dX2_init_61 ?_
    refine lv_iload_n hx hb dX2_init_64 rfl (lv_at hl 1 rfl) ?_
    refine lv_bipush (v := nI 9) hx hb dX2_init_65 (by decide) ?_
    refine n_ushr (d := 512) hx hb (by decide) (by omega) (by omega) dX2_init_67 ?_
    refine lv_iconst (v := nI 1) hx hb dX2_init_68 (by decide) ?_
    refine n_and (d := 2) hx hb 1 (by decide) (by decide) (by omega) (by omega) dX2_init_69 ?_
    refine k_Si (As := [.int (nI (layerS w)), .int (nI (rateS w)), .int (nI (sampS w)), .int (nI ((w / 512) % 2))]) (rest := [.ref f]) (wr := [(f, .inr (2, [.int (nI s_), .int (nI (layerS w)), .int (nI (chkS w)), .int (nI (rateS w)), .int (nI (sampS w)), .int (nI 0), .int (nI 0), .int (nI 0), .int (nI 0), .int (nI 0), .int (nI 0), .int (nI 0)]))]) C hw (c_bytesOf l g _ (layerS w) (rateS w) (sampS w) (w / 512 % 2) (by omega) (by omega) (by omega) (by omega)) (va_cwS 4 hts gX2_init_X2_bytesOf rfl rfl rfl (by decide +kernel) ⟨Nat.le_of_ble_eq_true rfl, Nat.le_of_ble_eq_true rfl⟩) bl_T (fun _ _ _ => trivial) [] [0] (by decide) rfl rfl (by decide) (by decide) rfl hl.1 rfl (Nat.le_of_ble_eq_true rfl) dX2_init_70 ⟨Nat.le_of_ble_eq_true rfl, Nat.le_of_ble_eq_true rfl⟩ (fun r_4 u H locs hp hw => ?_)
    obtain ⟨rfl, rfl⟩ := hp
    have hw := Wd.sub (ws' := [(f, .inr (2, [.int (nI s_), .int (nI (layerS w)), .int (nI (chkS w)), .int (nI (rateS w)), .int (nI (sampS w)), .int (nI 0), .int (nI 0), .int (nI 0), .int (nI 0), .int (nI 0), .int (nI 0), .int (nI 0)]))]) hw [0] (by decide) rfl
    refine r_putF C hw in_X2 tyX2_ok nmX2 0 rfl rfl 5 (by decide) lk42 rfl hin rfl rfl rfl (Nat.le_of_ble_eq_true rfl) (ws' := [(f, .inr (2, [.int (nI s_), .int (nI (layerS w)), .int (nI (chkS w)), .int (nI (rateS w)), .int (nI (sampS w)), .int (nI (byS w)), .int (nI 0), .int (nI 0), .int (nI 0), .int (nI 0), .int (nI 0), .int (nI 0)]))]) rfl dX2_init_73 (fun H locs hw => ?_)
    refine lv_aload_n hx hb dX2_init_76 rfl (lv_at hl 0 rfl) ?_
    refine lv_iload_n hx hb dX2_init_77 rfl (lv_at hl 1 rfl) ?_
    refine k_Si (As := [.int (nI w)]) (rest := [.ref f]) (wr := [(f, .inr (2, [.int (nI s_), .int (nI (layerS w)), .int (nI (chkS w)), .int (nI (rateS w)), .int (nI (sampS w)), .int (nI (byS w)), .int (nI 0), .int (nI 0), .int (nI 0), .int (nI 0), .int (nI 0), .int (nI 0)]))]) C hw (c_modeOf l g _ w h0) (va_cwS 1 hts gX2_init_X2_modeOf rfl rfl rfl (by decide +kernel) ⟨Nat.le_of_ble_eq_true rfl, Nat.le_of_ble_eq_true rfl⟩) bl_T (fun _ _ _ => trivial) [] [0] (by decide) rfl rfl (by decide) (by decide) rfl hl.1 rfl (Nat.le_of_ble_eq_true rfl) dX2_init_78 ⟨Nat.le_of_ble_eq_true rfl, Nat.le_of_ble_eq_true rfl⟩ (fun r_5 u H locs hp hw => ?_)
    obtain ⟨rfl, rfl⟩ := hp
    have hw := Wd.sub (ws' := [(f, .inr (2, [.int (nI s_), .int (nI (layerS w)), .int (nI (chkS w)), .int (nI (rateS w)), .int (nI (sampS w)), .int (nI (byS w)), .int (nI 0), .int (nI 0), .int (nI 0), .int (nI 0), .int (nI 0), .int (nI 0)]))]) hw [0] (by decide) rfl
    refine r_putF C hw in_X2 tyX2_ok nmX2 0 rfl rfl 6 (by decide) lk48 rfl hin rfl rfl rfl (Nat.le_of_ble_eq_true rfl) (ws' := [(f, .inr (2, [.int (nI s_), .int (nI (layerS w)), .int (nI (chkS w)), .int (nI (rateS w)), .int (nI (sampS w)), .int (nI (byS w)), .int (nI (modeS w)), .int (nI 0), .int (nI 0), .int (nI 0), .int (nI 0), .int (nI 0)]))]) rfl dX2_init_81 (fun H locs hw => ?_)
    refine lv_aload_n hx hb dX2_init_84 rfl (lv_at hl 0 rfl) ?_
    refine lv_aload_n hx hb dX2_init_85 rfl (lv_at hl 0 rfl) ?_
    refine r_get C hw in_X2 0 rfl rfl 6 (by decide) lk48 rfl dX2_init_86 ?_
    refine lv_iconst (v := nI 3) hx hb dX2_init_89 (by decide) ?_
    refine jw (pcj := 98) (restj := [.int (nI (chS w)), .ref f]) (fun H locs ls => Wd g (va_A [(f, .inr (2, [.int (nI 0), .int (nI 0), .int (nI 0), .int (nI 0), .int (nI 0), .int (nI 0), .int (nI 0), .int (nI 0), .int (nI 0), .int (nI 0), .int (nI 0), .int (nI 0)]))] sz) s.heap [(f, .inr (2, [.int (nI s_), .int (nI (layerS w)), .int (nI (chkS w)), .int (nI (rateS w)), .int (nI (sampS w)), .int (nI (byS w)), .int (nI (modeS w)), .int (nI 0), .int (nI 0), .int (nI 0), .int (nI 0), .int (nI 0)]))] H locs ∧ lv_has ls 4 [(0, .ref f), (1, .int (nI w)), (2, .int (nI s_))]) ?_ ?_
    · intro H locs ls hJ
      obtain ⟨hw, hl⟩ := hJ
      refine r_putF C hw in_X2 tyX2_ok nmX2 0 rfl rfl 7 (by decide) lk51 rfl hin rfl rfl rfl (Nat.le_of_ble_eq_true rfl) (ws' := [(f, .inr (2, [.int (nI s_), .int (nI (layerS w)), .int (nI (chkS w)), .int (nI (rateS w)), .int (nI (sampS w)), .int (nI (byS w)), .int (nI (modeS w)), .int (nI (chS w)), .int (nI 0), .int (nI 0), .int (nI 0), .int (nI 0)]))]) rfl dX2_init_98 (fun H locs hw => ?_)
      refine lv_aload_n hx hb dX2_init_101 rfl (lv_at hl 0 rfl) ?_
      refine r_get C hw in_X2 0 rfl rfl 3 (by decide) lk29 rfl dX2_init_102 ?_
      refine lv_aload_n hx hb dX2_init_105 rfl (lv_at hl 0 rfl) ?_
      refine r_get C hw in_X2 0 rfl rfl 7 (by decide) lk51 rfl dX2_init_106 ?_
      refine n_div hx hb dX2_init_109 (by omega) (by omega) (by omega) ?_
      refine tp1 (v' := (nI (crS w))) rfl ?_
      refine lv_istore_n (lv' := [(3, .int (nI (crS w))), (0, .ref f), (1, .int (nI w)), (2, .int (nI s_))]) hx hb dX2_init_110 rfl hl (by decide) rfl (fun ls hl => ?_)
      refine lv_aload_n hx hb dX2_init_111 rfl (lv_at hl 1 rfl) ?_
      refine lv_aload_n hx hb dX2_init_112 rfl (lv_at hl 1 rfl) ?_
      refine r_get C hw in_X2 0 rfl rfl 1 (by decide) lk19 rfl dX2_init_113 ?_
      refine lv_iconst (v := nI 1) hx hb dX2_init_116 (by decide) ?_
      refine jw (pcj := 133) (restj := [.int (nI (bandS w)), .ref f]) (fun H locs ls => Wd g (va_A [(f, .inr (2, [.int (nI 0), .int (nI 0), .int (nI 0), .int (nI 0), .int (nI 0), .int (nI 0), .int (nI 0), .int (nI 0), .int (nI 0), .int (nI 0), .int (nI 0), .int (nI 0)]))] sz) s.heap [(f, .inr (2, [.int (nI s_), .int (nI (layerS w)), .int (nI (chkS w)), .int (nI (rateS w)), .int (nI (sampS w)), .int (nI (byS w)), .int (nI (modeS w)), .int (nI (chS w)), .int (nI 0), .int (nI 0), .int (nI 0), .int (nI 0)]))] H locs ∧ lv_has ls 4 [(3, .int (nI (crS w))), (0, .ref f), (1, .int (nI w)), (2, .int (nI s_))]) ?_ ?_
      · intro H locs ls hJ
        obtain ⟨hw, hl⟩ := hJ
        refine r_putF C hw in_X2 tyX2_ok nmX2 0 rfl rfl 8 (by decide) lk58 rfl hin rfl rfl rfl (Nat.le_of_ble_eq_true rfl) (ws' := [(f, .inr (2, [.int (nI s_), .int (nI (layerS w)), .int (nI (chkS w)), .int (nI (rateS w)), .int (nI (sampS w)), .int (nI (byS w)), .int (nI (modeS w)), .int (nI (chS w)), .int (nI (bandS w)), .int (nI 0), .int (nI 0), .int (nI 0)]))]) rfl dX2_init_133 (fun H locs hw => ?_)
        refine lv_aload_n hx hb dX2_init_136 rfl (lv_at hl 1 rfl) ?_
        refine lv_iload_n hx hb dX2_init_137 rfl (lv_at hl 0 rfl) ?_
        refine lv_bipush (v := nI 56) hx hb dX2_init_138 (by decide) ?_
        refine jw (pcj := 148) (restj := [.int (nI (ftS w)), .ref f]) (fun H locs ls => Wd g (va_A [(f, .inr (2, [.int (nI 0), .int (nI 0), .int (nI 0), .int (nI 0), .int (nI 0), .int (nI 0), .int (nI 0), .int (nI 0), .int (nI 0), .int (nI 0), .int (nI 0), .int (nI 0)]))] sz) s.heap [(f, .inr (2, [.int (nI s_), .int (nI (layerS w)), .int (nI (chkS w)), .int (nI (rateS w)), .int (nI (sampS w)), .int (nI (byS w)), .int (nI (modeS w)), .int (nI (chS w)), .int (nI (bandS w)), .int (nI 0), .int (nI 0), .int (nI 0)]))] H locs ∧ lv_has ls 4 [(3, .int (nI (crS w))), (0, .ref f), (1, .int (nI w)), (2, .int (nI s_))]) ?_ ?_
        · intro H locs ls hJ
          obtain ⟨hw, hl⟩ := hJ
          refine r_putF C hw in_X2 tyX2_ok nmX2 0 rfl rfl 9 (by decide) lk61 rfl hin rfl (narZ (ft_le w)) (fitZ (ft_le w)) (Nat.le_of_ble_eq_true rfl) (ws' := [(f, .inr (2, [.int (nI s_), .int (nI (layerS w)), .int (nI (chkS w)), .int (nI (rateS w)), .int (nI (sampS w)), .int (nI (byS w)), .int (nI (modeS w)), .int (nI (chS w)), .int (nI (bandS w)), .int (nI (ftS w)), .int (nI 0), .int (nI 0)]))]) rfl dX2_init_148 (fun H locs hw => ?_)
          refine lv_aload_n hx hb dX2_init_151 rfl (lv_at hl 1 rfl) ?_
          refine lv_aload_n hx hb dX2_init_152 rfl (lv_at hl 1 rfl) ?_
          refine r_get C hw in_X2 0 rfl rfl 6 (by decide) lk48 rfl dX2_init_153 ?_
          refine lv_iconst (v := nI 1) hx hb dX2_init_156 (by decide) ?_
          refine jw (pcj := 183) (restj := [.int (nI (boundS w)), .ref f]) (fun H locs ls => Wd g (va_A [(f, .inr (2, [.int (nI 0), .int (nI 0), .int (nI 0), .int (nI 0), .int (nI 0), .int (nI 0), .int (nI 0), .int (nI 0), .int (nI 0), .int (nI 0), .int (nI 0), .int (nI 0)]))] sz) s.heap [(f, .inr (2, [.int (nI s_), .int (nI (layerS w)), .int (nI (chkS w)), .int (nI (rateS w)), .int (nI (sampS w)), .int (nI (byS w)), .int (nI (modeS w)), .int (nI (chS w)), .int (nI (bandS w)), .int (nI (ftS w)), .int (nI 0), .int (nI 0)]))] H locs ∧ lv_has ls 4 [(3, .int (nI (crS w))), (0, .ref f), (1, .int (nI w)), (2, .int (nI s_))]) ?_ ?_
          · intro H locs ls hJ
            obtain ⟨hw, hl⟩ := hJ
            refine r_putF C hw in_X2 tyX2_ok nmX2 0 rfl rfl 10 (by decide) lk69 rfl hin rfl rfl rfl (Nat.le_of_ble_eq_true rfl) (ws' := [(f, .inr (2, [.int (nI s_), .int (nI (layerS w)), .int (nI (chkS w)), .int (nI (rateS w)), .int (nI (sampS w)), .int (nI (byS w)), .int (nI (modeS w)), .int (nI (chS w)), .int (nI (bandS w)), .int (nI (ftS w)), .int (nI (boundS w)), .int (nI 0)]))]) rfl dX2_init_183 (fun H locs hw => ?_)
            refine lv_aload_n hx hb dX2_init_186 rfl (lv_at hl 1 rfl) ?_
            refine lv_iconst (v := nI 2) hx hb dX2_init_187 (by decide) ?_
            refine r_put C hw in_X2 tyX2_ok nmX2 0 rfl rfl 11 (by decide) lk72 rfl rfl rfl (Nat.le_of_ble_eq_true rfl) (ws' := [(f, .inr (2, [.int (nI s_), .int (nI (layerS w)), .int (nI (chkS w)), .int (nI (rateS w)), .int (nI (sampS w)), .int (nI (byS w)), .int (nI (modeS w)), .int (nI (chS w)), .int (nI (bandS w)), .int (nI (ftS w)), .int (nI (boundS w)), .int (nI 2)]))]) rfl dX2_init_188 (fun H locs hw => ?_)
            exact r_vret C hw (Nat.le_refl _) (Nat.le_refl _) (rfl) dX2_init_191
          · intro J_6
            refine n_cne (tgt := 179) hx hb (by omega) (by omega) dX2_init_157 (by decide) (fun c_7 => ?_) (fun c_7 => ?_)
            · skip
              refine lv_aload_n hx hb dX2_init_179 rfl (lv_at hl 1 rfl) ?_
              refine r_get C hw in_X2 0 rfl rfl 8 (by decide) lk58 rfl dX2_init_180 ?_
              refine tp1 (v' := (nI (boundS w))) (by unfold boundS; (repeat' split) <;> first | rfl | omega | exact congrArg nI (by omega)) ?_
              exact J_6 _ _ _ ⟨hw, (lv_sub hl [0, 1, 2, 3] rfl)⟩
            · skip
              refine lv_iconst (v := nI 4) hx hb dX2_init_160 (by decide) ?_
              refine lv_iload_n hx hb dX2_init_161 rfl (lv_at hl 2 rfl) ?_
              refine lv_iconst (v := nI 4) hx hb dX2_init_162 (by decide) ?_
              refine n_ushr (d := 16) hx hb (by decide) (by omega) (by omega) dX2_init_163 ?_
              refine lv_iconst (v := nI 3) hx hb dX2_init_164 (by decide) ?_
              refine n_and (d := 4) hx hb 2 (by decide) (by decide) (by omega) (by omega) dX2_init_165 ?_
              refine lv_iconst (v := nI 1) hx hb dX2_init_166 (by decide) ?_
              refine n_add hx hb dX2_init_167 ?_
              refine n_mul hx hb dX2_init_168 ?_
              refine lv_aload_n hx hb dX2_init_169 rfl (lv_at hl 1 rfl) ?_
              refine r_get C hw in_X2 0 rfl rfl 8 (by decide) lk58 rfl dX2_init_170 ?_
              refine va_mmin hx hb (hml.trans hl.1.symm) hown (hts (.methodLink RX2 64 Lib.Math.min.name) (by decide +kernel)) (hts (.static Lib.Math.min.name) (by decide +kernel)) (hts (.initialized "java/lang/Math") (by decide +kernel)) (hts (.code Lib.Math.min.name Lib.Math.min.code 2 (some .int)) (by decide +kernel)) (Nat.le_of_ble_eq_true rfl) (Nat.le_of_ble_eq_true rfl) (Nat.le_of_ble_eq_true rfl) (Nat.le_of_ble_eq_true rfl) dX2_init_173 ?_
              refine tp1 (min_nI (by omega) (by omega)) ?_
              refine lv_goto (tgt := 183) hx hb dX2_init_176 (by decide) ?_
              refine tp1 (v' := (nI (boundS w))) (by unfold boundS; (repeat' split) <;> first | rfl | omega | exact congrArg nI (by omega)) ?_
              exact J_6 _ _ _ ⟨hw, (lv_sub hl [0, 1, 2, 3] rfl)⟩
        · intro J_8
          refine n_clt (tgt := 147) hx hb (by omega) (by omega) dX2_init_140 (by decide) (fun c_9 => ?_) (fun c_9 => ?_)
          · skip
            refine lv_iconst (v := nI 0) hx hb dX2_init_147 (by decide) ?_
            refine tp1 (v' := (nI (ftS w))) (by unfold ftS; (repeat' split) <;> first | rfl | omega | exact congrArg nI (by omega)) ?_
            exact J_8 _ _ _ ⟨hw, (lv_sub hl [0, 1, 2, 3] rfl)⟩
          · skip
            refine lv_iconst (v := nI 1) hx hb dX2_init_143 (by decide) ?_
            refine lv_goto (tgt := 148) hx hb dX2_init_144 (by decide) ?_
            refine tp1 (v' := (nI (ftS w))) (by unfold ftS; (repeat' split) <;> first | rfl | omega | exact congrArg nI (by omega)) ?_
            exact J_8 _ _ _ ⟨hw, (lv_sub hl [0, 1, 2, 3] rfl)⟩
      · intro J_10
        refine n_cne (tgt := 125) hx hb (by omega) (by omega) dX2_init_117 (by decide) (fun c_11 => ?_) (fun c_11 => ?_)
        · skip
          refine lv_iload_n hx hb dX2_init_125 rfl (lv_at hl 0 rfl) ?_
          refine lv_aload_n hx hb dX2_init_126 rfl (lv_at hl 1 rfl) ?_
          refine r_get C hw in_X2 0 rfl rfl 4 (by decide) lk35 rfl dX2_init_127 ?_
          refine k_Si (As := [.int (nI (crS w)), .int (nI (sampS w))]) (rest := [.ref f]) (wr := [(f, .inr (2, [.int (nI s_), .int (nI (layerS w)), .int (nI (chkS w)), .int (nI (rateS w)), .int (nI (sampS w)), .int (nI (byS w)), .int (nI (modeS w)), .int (nI (chS w)), .int (nI 0), .int (nI 0), .int (nI 0), .int (nI 0)]))]) C hw (c_layerTwoBands l g _ (crS w) (sampS w) (by omega) (by omega)) (va_cwS 2 hts gX2_init_X2_layerTwoBands rfl rfl rfl (by decide +kernel) ⟨Nat.le_of_ble_eq_true rfl, Nat.le_of_ble_eq_true rfl⟩) bl_T (fun _ _ _ => trivial) [] [0] (by decide) rfl rfl (by decide) (by decide) rfl hl.1 rfl (Nat.le_of_ble_eq_true rfl) dX2_init_130 ⟨Nat.le_of_ble_eq_true rfl, Nat.le_of_ble_eq_true rfl⟩ (fun r_12 u H locs hp hw => ?_)
          obtain ⟨rfl, rfl⟩ := hp
          have hw := Wd.sub (ws' := [(f, .inr (2, [.int (nI s_), .int (nI (layerS w)), .int (nI (chkS w)), .int (nI (rateS w)), .int (nI (sampS w)), .int (nI (byS w)), .int (nI (modeS w)), .int (nI (chS w)), .int (nI 0), .int (nI 0), .int (nI 0), .int (nI 0)]))]) hw [0] (by decide) rfl
          refine tp1 (v' := (nI (bandS w))) (by unfold bandS; (repeat' split) <;> first | rfl | omega) ?_
          exact J_10 _ _ _ ⟨hw, (lv_sub hl [0, 1, 2, 3] rfl)⟩
        · skip
          refine lv_bipush (v := nI 32) hx hb dX2_init_120 (by decide) ?_
          refine lv_goto (tgt := 133) hx hb dX2_init_122 (by decide) ?_
          refine tp1 (v' := (nI (bandS w))) (by unfold bandS; (repeat' split) <;> first | rfl | omega) ?_
          exact J_10 _ _ _ ⟨hw, (lv_sub hl [0, 1, 2, 3] rfl)⟩
    · intro J_13
      refine n_cne (tgt := 97) hx hb (by omega) (by omega) dX2_init_90 (by decide) (fun c_14 => ?_) (fun c_14 => ?_)
      · skip
        refine lv_iconst (v := nI 2) hx hb dX2_init_97 (by decide) ?_
        refine tp1 (v' := (nI (chS w))) (by unfold chS; (repeat' split) <;> first | rfl | omega | exact congrArg nI (by omega)) ?_
        exact J_13 _ _ _ ⟨hw, (lv_sub hl [0, 1, 2] rfl)⟩
      · skip
        refine lv_iconst (v := nI 1) hx hb dX2_init_93 (by decide) ?_
        refine lv_goto (tgt := 98) hx hb dX2_init_94 (by decide) ?_
        refine tp1 (v' := (nI (chS w))) (by unfold chS; (repeat' split) <;> first | rfl | omega | exact congrArg nI (by omega)) ?_
        exact J_13 _ _ _ ⟨hw, (lv_sub hl [0, 1, 2] rfl)⟩
  · intro J_15
    refine n_ne0 (tgt := 31) hx hb (by omega) dX2_init_24 (by decide) (fun c_16 => ?_) (fun c_16 => ?_)
    · skip
      refine lv_iconst (v := nI 0) hx hb dX2_init_31 (by decide) ?_
      refine tp1 (v' := (nI (chkS w))) (by unfold chkS; (repeat' split) <;> first | rfl | omega | exact congrArg nI (by omega)) ?_
      exact J_15 _ _ _ ⟨hw, (lv_sub hl [0, 1, 2] rfl)⟩
    · skip
      refine lv_iconst (v := nI 1) hx hb dX2_init_27 (by decide) ?_
      refine lv_goto (tgt := 32) hx hb dX2_init_28 (by decide) ?_
      refine tp1 (v' := (nI (chkS w))) (by unfold chkS; (repeat' split) <;> first | rfl | omega | exact congrArg nI (by omega)) ?_
      exact J_15 _ _ _ ⟨hw, (lv_sub hl [0, 1, 2] rfl)⟩
