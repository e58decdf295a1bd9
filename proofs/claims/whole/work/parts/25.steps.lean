abbrev rm_c_stepNumbers : Room := { frames := 0, cells := 0, slots := 0, locals := 0 }
set_option maxHeartbeats 4000000 in
set_option maxRecDepth 100000 in
theorem c_stepNumbers (l : Launch) (g : GT) (sz : Nat) (tb : Nat → Nat) (o b : Nat) (st ly ck rt sp byt md ch bn ft bd oc : Nat) (h1 : b < 2 ^ 31) (h2 : ft ≤ 1) : CtR l g yX2_stepNumbers wsX2_stepNumbers rm_c_stepNumbers [.ref o, .int (nI b)] [(o, .inr (2, [.int (nI st), .int (nI ly), .int (nI ck), .int (nI rt), .int (nI sp), .int (nI byt), .int (nI md), .int (nI ch), .int (nI bn), .int (nI ft), .int (nI bd), .int (nI oc)]))] sz (fun U => Sx tb (va_A [(o, .inr (2, [.int (nI st), .int (nI ly), .int (nI ck), .int (nI rt), .int (nI sp), .int (nI byt), .int (nI md), .int (nI ch), .int (nI bn), .int (nI ft), .int (nI bd), .int (nI oc)]))] sz) U U.heap) (fun r u => r = tb (stepT ft b) ∧ u = [(o, .inr (2, [.int (nI st), .int (nI ly), .int (nI ck), .int (nI rt), .int (nI sp), .int (nI byt), .int (nI md), .int (nI ch), .int (nI bn), .int (nI ft), .int (nI bd), .int (nI oc)]))]) (0) (0) := by
  refine ct_body (cc := cX2_stepNumbers) (nL := 2) (ret := (some (.array .int))) (by decide) rfl (Nat.le_of_ble_eq_true rfl) ?_
  intro p e s m below meth c ls C hin hsz hB hw hl
  obtain ⟨hx, hb, hml, hown, hts, hK, hA, hr, hlk⟩ := id C
  have lk61 := hts (.fieldLink RX2 61 "SoundBench$Frame" "firstTable" "Z") (by decide +kernel)
  have lk92 := hts (.fieldLink RX2 92 "SoundBench$Frame" "SECOND_TO_1" "[I") (by decide +kernel)
  have lk96 := hts (.fieldLink RX2 96 "SoundBench$Frame" "SECOND_TO_11" "[I") (by decide +kernel)
  have lk99 := hts (.fieldLink RX2 99 "SoundBench$Frame" "FIRST_TO_2" "[I") (by decide +kernel)
  have lk102 := hts (.fieldLink RX2 102 "SoundBench$Frame" "FIRST_TO_10" "[I") (by decide +kernel)
  have lk105 := hts (.fieldLink RX2 105 "SoundBench$Frame" "FIRST_TO_22" "[I") (by decide +kernel)
  have lk108 := hts (.fieldLink RX2 108 "SoundBench$Frame" "FIRST_TO_29" "[I") (by decide +kernel)
  have in_X2 : ∀ w ∈ wsX20, w ∈ wsX2_stepNumbers := by unfold wsX2_stepNumbers; intro w h; simp only [List.mem_cons, List.mem_append, h, or_true, true_or]
  have hl : lv_has ls 2 [(0, .ref o), (1, .int (nI b))] := hl
  have hw : Wd g (va_A [(o, .inr (2, [.int (nI st), .int (nI ly), .int (nI ck), .int (nI rt), .int (nI sp), .int (nI byt), .int (nI md), .int (nI ch), .int (nI bn), .int (nI ft), .int (nI bd), .int (nI oc)]))] sz) s.heap [(o, .inr (2, [.int (nI st), .int (nI ly), .int (nI ck), .int (nI rt), .int (nI sp), .int (nI byt), .int (nI md), .int (nI ch), .int (nI bn), .int (nI ft), .int (nI bd), .int (nI oc)]))] s.heap [] := hw
  refine lv_aload_n hx hb dX2_stepNumbers_0 rfl (lv_at hl 0 rfl) ?_
  refine r_get C hw in_X2 0 rfl rfl 9 (by decide) lk61 rfl dX2_stepNumbers_1 ?_
  refine n_ne0 (tgt := 22) hx hb (by omega) dX2_stepNumbers_4 (by decide) (fun c_1 => ?_) (fun c_1 => ?_)
  · skip
    refine lv_iload_n hx hb dX2_stepNumbers_22 rfl (lv_at hl 1 rfl) ?_
    refine lv_bipush (v := nI 11) hx hb dX2_stepNumbers_23 (by decide) ?_
    refine n_cge (tgt := 43) hx hb (by omega) (by omega) dX2_stepNumbers_25 (by decide) (fun c_2 => ?_) (fun c_2 => ?_)
    · skip
      refine lv_iload_n hx hb dX2_stepNumbers_43 rfl (lv_at hl 1 rfl) ?_
      refine lv_bipush (v := nI 23) hx hb dX2_stepNumbers_44 (by decide) ?_
      refine n_cge (tgt := 55) hx hb (by omega) (by omega) dX2_stepNumbers_46 (by decide) (fun c_3 => ?_) (fun c_3 => ?_)
      · skip
        refine r_gs C hw hB 5 (by decide) lk108 dX2_stepNumbers_55 ?_
        exact r_aret (Post := fun r u => r = tb (stepT ft b) ∧ u = [(o, .inr (2, [.int (nI st), .int (nI ly), .int (nI ck), .int (nI rt), .int (nI sp), .int (nI byt), .int (nI md), .int (nI ch), .int (nI bn), .int (nI ft), .int (nI bd), .int (nI oc)]))]) C hw (Or.inr ⟨_, rfl⟩) (Nat.le_refl _) (Nat.le_refl _) (⟨congrArg tb (by unfold stepT; (repeat' split) <;> first | rfl | omega), rfl⟩) dX2_stepNumbers_58
      · skip
        refine r_gs C hw hB 4 (by decide) lk105 dX2_stepNumbers_49 ?_
        refine lv_goto (tgt := 58) hx hb dX2_stepNumbers_52 (by decide) ?_
        exact r_aret (Post := fun r u => r = tb (stepT ft b) ∧ u = [(o, .inr (2, [.int (nI st), .int (nI ly), .int (nI ck), .int (nI rt), .int (nI sp), .int (nI byt), .int (nI md), .int (nI ch), .int (nI bn), .int (nI ft), .int (nI bd), .int (nI oc)]))]) C hw (Or.inr ⟨_, rfl⟩) (Nat.le_refl _) (Nat.le_refl _) (⟨congrArg tb (by unfold stepT; (repeat' split) <;> first | rfl | omega), rfl⟩) dX2_stepNumbers_58
    · skip
      refine lv_iload_n hx hb dX2_stepNumbers_28 rfl (lv_at hl 1 rfl) ?_
      refine lv_iconst (v := nI 3) hx hb dX2_stepNumbers_29 (by decide) ?_
      refine n_cge (tgt := 39) hx hb (by omega) (by omega) dX2_stepNumbers_30 (by decide) (fun c_4 => ?_) (fun c_4 => ?_)
      · skip
        refine r_gs C hw hB 3 (by decide) lk102 dX2_stepNumbers_39 ?_
        exact r_aret (Post := fun r u => r = tb (stepT ft b) ∧ u = [(o, .inr (2, [.int (nI st), .int (nI ly), .int (nI ck), .int (nI rt), .int (nI sp), .int (nI byt), .int (nI md), .int (nI ch), .int (nI bn), .int (nI ft), .int (nI bd), .int (nI oc)]))]) C hw (Or.inr ⟨_, rfl⟩) (Nat.le_refl _) (Nat.le_refl _) (⟨congrArg tb (by unfold stepT; (repeat' split) <;> first | rfl | omega), rfl⟩) dX2_stepNumbers_42
      · skip
        refine r_gs C hw hB 2 (by decide) lk99 dX2_stepNumbers_33 ?_
        refine lv_goto (tgt := 42) hx hb dX2_stepNumbers_36 (by decide) ?_
        exact r_aret (Post := fun r u => r = tb (stepT ft b) ∧ u = [(o, .inr (2, [.int (nI st), .int (nI ly), .int (nI ck), .int (nI rt), .int (nI sp), .int (nI byt), .int (nI md), .int (nI ch), .int (nI bn), .int (nI ft), .int (nI bd), .int (nI oc)]))]) C hw (Or.inr ⟨_, rfl⟩) (Nat.le_refl _) (Nat.le_refl _) (⟨congrArg tb (by unfold stepT; (repeat' split) <;> first | rfl | omega), rfl⟩) dX2_stepNumbers_42
  · skip
    refine lv_iload_n hx hb dX2_stepNumbers_7 rfl (lv_at hl 1 rfl) ?_
    refine lv_iconst (v := nI 2) hx hb dX2_stepNumbers_8 (by decide) ?_
    refine n_cge (tgt := 18) hx hb (by omega) (by omega) dX2_stepNumbers_9 (by decide) (fun c_5 => ?_) (fun c_5 => ?_)
    · skip
      refine r_gs C hw hB 7 (by decide) lk96 dX2_stepNumbers_18 ?_
      exact r_aret (Post := fun r u => r = tb (stepT ft b) ∧ u = [(o, .inr (2, [.int (nI st), .int (nI ly), .int (nI ck), .int (nI rt), .int (nI sp), .int (nI byt), .int (nI md), .int (nI ch), .int (nI bn), .int (nI ft), .int (nI bd), .int (nI oc)]))]) C hw (Or.inr ⟨_, rfl⟩) (Nat.le_refl _) (Nat.le_refl _) (⟨congrArg tb (by unfold stepT; (repeat' split) <;> first | rfl | omega), rfl⟩) dX2_stepNumbers_21
    · skip
      refine r_gs C hw hB 6 (by decide) lk92 dX2_stepNumbers_12 ?_
      refine lv_goto (tgt := 21) hx hb dX2_stepNumbers_15 (by decide) ?_
      exact r_aret (Post := fun r u => r = tb (stepT ft b) ∧ u = [(o, .inr (2, [.int (nI st), .int (nI ly), .int (nI ck), .int (nI rt), .int (nI sp), .int (nI byt), .int (nI md), .int (nI ch), .int (nI bn), .int (nI ft), .int (nI bd), .int (nI oc)]))]) C hw (Or.inr ⟨_, rfl⟩) (Nat.le_refl _) (Nat.le_refl _) (⟨congrArg tb (by unfold stepT; (repeat' split) <;> first | rfl | omega), rfl⟩) dX2_stepNumbers_21
abbrev rm_c_allocationBits : Room := { frames := 1, cells := 0, slots := 0, locals := 21 }
set_option maxHeartbeats 4000000 in
set_option maxRecDepth 100000 in
theorem c_allocationBits (l : Launch) (g : GT) (sz : Nat) (tb : Nat → Nat) (o b : Nat) (st ly ck rt sp byt md ch bn ft bd oc : Nat) (h1 : b < 2 ^ 31) (h2 : ft ≤ 1) (h3 : ly < 2 ^ 31) : CtI l g yX2_allocationBits wsX2_allocationBits rm_c_allocationBits [.ref o, .int (nI b)] [(o, .inr (2, [.int (nI st), .int (nI ly), .int (nI ck), .int (nI rt), .int (nI sp), .int (nI byt), .int (nI md), .int (nI ch), .int (nI bn), .int (nI ft), .int (nI bd), .int (nI oc)]))] sz (fun U => Sx tb (va_A [(o, .inr (2, [.int (nI st), .int (nI ly), .int (nI ck), .int (nI rt), .int (nI sp), .int (nI byt), .int (nI md), .int (nI ch), .int (nI bn), .int (nI ft), .int (nI bd), .int (nI oc)]))] sz) U U.heap) (fun rr u => rr = nI (aBits ly ft b) ∧ u = [(o, .inr (2, [.int (nI st), .int (nI ly), .int (nI ck), .int (nI rt), .int (nI sp), .int (nI byt), .int (nI md), .int (nI ch), .int (nI bn), .int (nI ft), .int (nI bd), .int (nI oc)]))]) (0) (0) := by
  refine ct_body (cc := cX2_allocationBits) (nL := 2) (ret := (some .int)) (by decide) rfl (Nat.le_of_ble_eq_true rfl) ?_
  intro p e s m below meth c ls C hin hsz hB hw hl
  obtain ⟨hx, hb, hml, hown, hts, hK, hA, hr, hlk⟩ := id C
  have lk19 := hts (.fieldLink RX2 19 "SoundBench$Frame" "layer" "I") (by decide +kernel)
  have in_X2 : ∀ w ∈ wsX20, w ∈ wsX2_allocationBits := by unfold wsX2_allocationBits; intro w h; simp only [List.mem_cons, List.mem_append, h, or_true, true_or]
  have hl : lv_has ls 2 [(0, .ref o), (1, .int (nI b))] := hl
  have hw : Wd g (va_A [(o, .inr (2, [.int (nI st), .int (nI ly), .int (nI ck), .int (nI rt), .int (nI sp), .int (nI byt), .int (nI md), .int (nI ch), .int (nI bn), .int (nI ft), .int (nI bd), .int (nI oc)]))] sz) s.heap [(o, .inr (2, [.int (nI st), .int (nI ly), .int (nI ck), .int (nI rt), .int (nI sp), .int (nI byt), .int (nI md), .int (nI ch), .int (nI bn), .int (nI ft), .int (nI bd), .int (nI oc)]))] s.heap [] := hw
  refine lv_aload_n hx hb dX2_allocationBits_0 rfl (lv_at hl 0 rfl) ?_
  refine r_get C hw in_X2 0 rfl rfl 1 (by decide) lk19 rfl dX2_allocationBits_1 ?_
  refine lv_iconst (v := nI 1) hx hb dX2_allocationBits_4 (by decide) ?_
  refine n_cne (tgt := 12) hx hb (by omega) (by omega) dX2_allocationBits_5 (by decide) (fun c_1 => ?_) (fun c_1 => ?_)
  · skip
    refine lv_aload_n hx hb dX2_allocationBits_12 rfl (lv_at hl 0 rfl) ?_
    refine lv_iload_n hx hb dX2_allocationBits_13 rfl (lv_at hl 1 rfl) ?_
    refine k_Vr (As := [.int (nI b)]) (rest := []) (wr := []) C hw (c_stepNumbers l g _ tb o b st ly ck rt sp byt md ch bn ft bd oc (by omega) (by omega)) (cwV 1 hts gX2_allocationBits_X2_stepNumbers rfl rfl rfl (by decide +kernel) ⟨Nat.le_of_ble_eq_true rfl, Nat.le_of_ble_eq_true rfl⟩) sx_bl (sx_call C hw hB [0] rfl) [0] [] (by decide) rfl rfl (by decide) (by decide) 0 rfl rfl rfl hl.1 rfl (Nat.le_of_ble_eq_true rfl) dX2_allocationBits_14 ⟨Nat.le_of_ble_eq_true rfl, Nat.le_of_ble_eq_true rfl⟩ (fun r_2 u H locs hp hw => ?_)
    obtain ⟨rfl, rfl⟩ := hp
    have hw := Wd.sub (ws' := [(o, .inr (2, [.int (nI st), .int (nI ly), .int (nI ck), .int (nI rt), .int (nI sp), .int (nI byt), .int (nI md), .int (nI ch), .int (nI bn), .int (nI ft), .int (nI bd), .int (nI oc)]))]) hw [0] (by decide) rfl
    refine r_tlen C hw hB (stepT ft b) (by have := stepT_in ft b; omega) (n := (tab (stepT ft b)).length) rfl dX2_allocationBits_17 ?_
    refine k_Si (As := [.int (nI ((tab (stepT ft b)).length))]) (rest := []) (wr := [(o, .inr (2, [.int (nI st), .int (nI ly), .int (nI ck), .int (nI rt), .int (nI sp), .int (nI byt), .int (nI md), .int (nI ch), .int (nI bn), .int (nI ft), .int (nI bd), .int (nI oc)]))]) C hw (c_bitCount l g _ (nI (tab (stepT ft b)).length)) (va_cwS 1 hts gX2_allocationBits_J6_bitCount_0f7a4 rfl rfl rfl (by decide +kernel) ⟨Nat.le_of_ble_eq_true rfl, Nat.le_of_ble_eq_true rfl⟩) bl_T (fun _ _ _ => trivial) [] [0] (by decide) rfl rfl (by decide) (by decide) rfl hl.1 rfl (Nat.le_of_ble_eq_true rfl) dX2_allocationBits_18 ⟨Nat.le_of_ble_eq_true rfl, Nat.le_of_ble_eq_true rfl⟩ (fun r_3 u H locs hp hw => ?_)
    obtain ⟨rfl, rfl⟩ := hp
    have hw := Wd.sub (ws' := [(o, .inr (2, [.int (nI st), .int (nI ly), .int (nI ck), .int (nI rt), .int (nI sp), .int (nI byt), .int (nI md), .int (nI ch), .int (nI bn), .int (nI ft), .int (nI bd), .int (nI oc)]))]) hw [0] (by decide) rfl
    exact r_iret C hw (Nat.le_refl _) (Nat.le_refl _) (⟨by unfold aBits; (first | rw [if_pos (by omega)] | (rw [if_neg (by omega)]; exact aBits_bc ft b)), rfl⟩) dX2_allocationBits_21
  · skip
    refine lv_iconst (v := nI 4) hx hb dX2_allocationBits_8 (by decide) ?_
    refine lv_goto (tgt := 21) hx hb dX2_allocationBits_9 (by decide) ?_
    exact r_iret C hw (Nat.le_refl _) (Nat.le_refl _) (⟨by unfold aBits; (first | rw [if_pos (by omega)] | (rw [if_neg (by omega)]; exact aBits_bc ft b)), rfl⟩) dX2_allocationBits_21
abbrev rm_c_stepsOf : Room := { frames := 1, cells := 0, slots := 0, locals := 21 }
set_option maxHeartbeats 4000000 in
set_option maxRecDepth 100000 in
theorem c_stepsOf (l : Launch) (g : GT) (sz : Nat) (tb : Nat → Nat) (o b al : Nat) (st ly ck rt sp byt md ch bn ft bd oc : Nat) (h1 : b < 2 ^ 31) (h2 : ft ≤ 1) (h3 : ly < 2 ^ 31) (h4 : al < 2 ^ 31) : CtI l g yX2_stepsOf wsX2_stepsOf rm_c_stepsOf [.ref o, .int (nI b), .int (nI al)] [(o, .inr (2, [.int (nI st), .int (nI ly), .int (nI ck), .int (nI rt), .int (nI sp), .int (nI byt), .int (nI md), .int (nI ch), .int (nI bn), .int (nI ft), .int (nI bd), .int (nI oc)]))] sz (fun U => Sx tb (va_A [(o, .inr (2, [.int (nI st), .int (nI ly), .int (nI ck), .int (nI rt), .int (nI sp), .int (nI byt), .int (nI md), .int (nI ch), .int (nI bn), .int (nI ft), .int (nI bd), .int (nI oc)]))] sz) U U.heap) (fun rr u => rr = (if stepB ly ft b al = 1 then -1 else nI (stepL ly ft b al)) ∧ u = [(o, .inr (2, [.int (nI st), .int (nI ly), .int (nI ck), .int (nI rt), .int (nI sp), .int (nI byt), .int (nI md), .int (nI ch), .int (nI bn), .int (nI ft), .int (nI bd), .int (nI oc)]))]) (0) (0) := by
  refine ct_body (cc := cX2_stepsOf) (nL := 5) (ret := (some .int)) (by decide) rfl (Nat.le_of_ble_eq_true rfl) ?_
  intro p e s m below meth c ls C hin hsz hB hw hl
  obtain ⟨hx, hb, hml, hown, hts, hK, hA, hr, hlk⟩ := id C
  have lk19 := hts (.fieldLink RX2 19 "SoundBench$Frame" "layer" "I") (by decide +kernel)
  have in_X2 : ∀ w ∈ wsX20, w ∈ wsX2_stepsOf := by unfold wsX2_stepsOf; intro w h; simp only [List.mem_cons, List.mem_append, h, or_true, true_or]
  have hl : lv_has ls 5 [(0, .ref o), (1, .int (nI b)), (2, .int (nI al))] := hl
  have hw : Wd g (va_A [(o, .inr (2, [.int (nI st), .int (nI ly), .int (nI ck), .int (nI rt), .int (nI sp), .int (nI byt), .int (nI md), .int (nI ch), .int (nI bn), .int (nI ft), .int (nI bd), .int (nI oc)]))] sz) s.heap [(o, .inr (2, [.int (nI st), .int (nI ly), .int (nI ck), .int (nI rt), .int (nI sp), .int (nI byt), .int (nI md), .int (nI ch), .int (nI bn), .int (nI ft), .int (nI bd), .int (nI oc)]))] s.heap [] := hw
  have hT1 := tN_le (stepT ft b) (j := al - 1) (tab_16 (stepT_in ft b))
  have hT2 := tab_len (stepT_in ft b)
  have hT3 := stepT_in ft b
  have hT4 := Nat.pow_le_pow_right (n := 2) (by omega) hT1
  have hT5 := Nat.one_le_two_pow (n := tN (stepT ft b) (al - 1))
  have hT6 := Nat.pow_le_pow_right (n := 2) (by omega) (show min (al + 1) 15 ≤ 15 by omega)
  have hT7 := Nat.one_le_two_pow (n := al + 1)
  refine lv_iload_n hx hb dX2_stepsOf_0 rfl (lv_at hl 2 rfl) ?_
  refine n_ne0 (tgt := 6) hx hb (by omega) dX2_stepsOf_1 (by decide) (fun c_1 => ?_) (fun c_1 => ?_)
  · skip
    refine lv_aload_n hx hb dX2_stepsOf_6 rfl (lv_at hl 0 rfl) ?_
    refine r_get C hw in_X2 0 rfl rfl 1 (by decide) lk19 rfl dX2_stepsOf_7 ?_
    refine lv_iconst (v := nI 1) hx hb dX2_stepsOf_10 (by decide) ?_
    refine n_cne (tgt := 36) hx hb (by omega) (by omega) dX2_stepsOf_11 (by decide) (fun c_2 => ?_) (fun c_2 => ?_)
    · skip
      refine lv_aload_n hx hb dX2_stepsOf_36 rfl (lv_at hl 0 rfl) ?_
      refine lv_iload_n hx hb dX2_stepsOf_37 rfl (lv_at hl 1 rfl) ?_
      refine k_Vr (As := [.int (nI b)]) (rest := []) (wr := []) C hw (c_stepNumbers l g _ tb o b st ly ck rt sp byt md ch bn ft bd oc (by omega) (by omega)) (cwV 1 hts gX2_stepsOf_X2_stepNumbers rfl rfl rfl (by decide +kernel) ⟨Nat.le_of_ble_eq_true rfl, Nat.le_of_ble_eq_true rfl⟩) sx_bl (sx_call C hw hB [0] rfl) [0] [] (by decide) rfl rfl (by decide) (by decide) 0 rfl rfl rfl hl.1 rfl (Nat.le_of_ble_eq_true rfl) dX2_stepsOf_38 ⟨Nat.le_of_ble_eq_true rfl, Nat.le_of_ble_eq_true rfl⟩ (fun r_3 u H locs hp hw => ?_)
      obtain ⟨rfl, rfl⟩ := hp
      have hw := Wd.sub (ws' := [(o, .inr (2, [.int (nI st), .int (nI ly), .int (nI ck), .int (nI rt), .int (nI sp), .int (nI byt), .int (nI md), .int (nI ch), .int (nI bn), .int (nI ft), .int (nI bd), .int (nI oc)]))]) hw [0] (by decide) rfl
      refine lv_astore_n (lv' := [(3, .ref (tb (stepT ft b))), (0, .ref o), (1, .int (nI b)), (2, .int (nI al))]) hx hb dX2_stepsOf_41 rfl hl (by decide) rfl (fun ls hl => ?_)
      refine lv_iload_n hx hb dX2_stepsOf_42 rfl (lv_at hl 3 rfl) ?_
      refine n_lt0 (tgt := 52) hx hb (by omega) dX2_stepsOf_43 (by decide) ?_
      refine lv_iload_n hx hb dX2_stepsOf_46 rfl (lv_at hl 3 rfl) ?_
      refine lv_aload_n hx hb dX2_stepsOf_47 rfl (lv_at hl 0 rfl) ?_
      refine r_tlen C hw hB (stepT ft b) (by omega) (n := (tab (stepT ft b)).length) rfl dX2_stepsOf_48 ?_
      refine n_cle (tgt := 54) hx hb (by omega) (by omega) dX2_stepsOf_49 (by decide) (fun c_5 => ?_) (fun c_5 => ?_)
      · skip
        refine lv_aload_n hx hb dX2_stepsOf_54 rfl (lv_at hl 0 rfl) ?_
        refine lv_iload_n hx hb dX2_stepsOf_55 rfl (lv_at hl 3 rfl) ?_
        refine lv_iconst (v := nI 1) hx hb dX2_stepsOf_56 (by decide) ?_
        refine n_sub hx hb dX2_stepsOf_57 (by omega) ?_
        refine r_ti C hw hB (stepT ft b) (by omega) (by omega) (by omega) dX2_stepsOf_58 ?_
        refine tp1 (v' := nI (tN (stepT ft b) (al - 1))) (sV_N (stepT ft b) (tab_nn (stepT_in ft b))) ?_
        refine lv_istore (lv' := [(4, .int (nI (tN (stepT ft b) (al - 1)))), (3, .ref (tb (stepT ft b))), (0, .ref o), (1, .int (nI b)), (2, .int (nI al))]) hx hb dX2_stepsOf_59 hl (by decide) rfl (fun ls hl => ?_)
        refine lv_iload hx hb dX2_stepsOf_61 (lv_at hl 0 rfl) ?_
        refine lv_iconst (v := nI 4) hx hb dX2_stepsOf_63 (by decide) ?_
        refine n_cge (tgt := 76) hx hb (by omega) (by omega) dX2_stepsOf_64 (by decide) (fun c_6 => ?_) (fun c_6 => ?_)
        · skip
          refine lv_iconst (v := nI 1) hx hb dX2_stepsOf_76 (by decide) ?_
          refine lv_iload hx hb dX2_stepsOf_77 (lv_at hl 0 rfl) ?_
          refine n_shl (d := 2 ^ (tN (stepT ft b) (al - 1))) hx hb rfl (by omega) (by omega) dX2_stepsOf_79 ?_
          refine lv_iconst (v := nI 1) hx hb dX2_stepsOf_80 (by decide) ?_
          refine n_sub hx hb dX2_stepsOf_81 (by omega) ?_
          exact r_iret C hw (Nat.le_refl _) (Nat.le_refl _) (⟨by unfold stepB stepL stN; (repeat' split) <;> first | rfl | omega | exact congrArg nI (by omega), rfl⟩) dX2_stepsOf_82
        · skip
          refine lv_iconst (v := nI 2) hx hb dX2_stepsOf_67 (by decide) ?_
          refine lv_iload hx hb dX2_stepsOf_68 (lv_at hl 0 rfl) ?_
          refine n_mul hx hb dX2_stepsOf_70 ?_
          refine lv_iconst (v := nI 3) hx hb dX2_stepsOf_71 (by decide) ?_
          refine n_add hx hb dX2_stepsOf_72 ?_
          refine lv_goto (tgt := 82) hx hb dX2_stepsOf_73 (by decide) ?_
          exact r_iret C hw (Nat.le_refl _) (Nat.le_refl _) (⟨by unfold stepB stepL stN; (repeat' split) <;> first | rfl | omega | exact congrArg nI (by omega), rfl⟩) dX2_stepsOf_82
      · skip
        refine lv_iconst (v := (-1)) hx hb dX2_stepsOf_52 (by decide) ?_
        exact r_iret C hw (Nat.le_refl _) (Nat.le_refl _) (⟨by unfold stepB stepL; (repeat' split) <;> first | rfl | omega | exact congrArg nI (by omega), rfl⟩) dX2_stepsOf_53
    · skip
      refine lv_iload_n hx hb dX2_stepsOf_14 rfl (lv_at hl 2 rfl) ?_
      refine n_le0 (tgt := 34) hx hb (by omega) dX2_stepsOf_15 (by decide) (fun c_7 => ?_) (fun c_7 => ?_)
      · skip
        refine lv_iconst (v := (-1)) hx hb dX2_stepsOf_34 (by decide) ?_
        exact r_iret C hw (Nat.le_refl _) (Nat.le_refl _) (⟨by unfold stepB stepL; (repeat' split) <;> first | rfl | omega | exact congrArg nI (by omega), rfl⟩) dX2_stepsOf_35
      · skip
        refine lv_iload_n hx hb dX2_stepsOf_18 rfl (lv_at hl 2 rfl) ?_
        refine lv_bipush (v := nI 15) hx hb dX2_stepsOf_19 (by decide) ?_
        refine n_cge (tgt := 34) hx hb (by omega) (by omega) dX2_stepsOf_21 (by decide) (fun c_8 => ?_) (fun c_8 => ?_)
        · skip
          refine lv_iconst (v := (-1)) hx hb dX2_stepsOf_34 (by decide) ?_
          exact r_iret C hw (Nat.le_refl _) (Nat.le_refl _) (⟨by unfold stepB stepL; (repeat' split) <;> first | rfl | omega | exact congrArg nI (by omega), rfl⟩) dX2_stepsOf_35
        · skip
          have hp8 : 2 ^ (al + 1) ≤ 2 ^ 15 := Nat.pow_le_pow_right (by omega) (by omega)
          refine lv_iconst (v := nI 1) hx hb dX2_stepsOf_24 (by decide) ?_
          refine lv_iload_n hx hb dX2_stepsOf_25 rfl (lv_at hl 2 rfl) ?_
          refine lv_iconst (v := nI 1) hx hb dX2_stepsOf_26 (by decide) ?_
          refine n_add hx hb dX2_stepsOf_27 ?_
          refine n_shl (d := 2 ^ (al + 1)) hx hb rfl (by omega) (by omega) dX2_stepsOf_28 ?_
          refine lv_iconst (v := nI 1) hx hb dX2_stepsOf_29 (by decide) ?_
          refine n_sub hx hb dX2_stepsOf_30 (by omega) ?_
          refine lv_goto (tgt := 35) hx hb dX2_stepsOf_31 (by decide) ?_
          exact r_iret C hw (Nat.le_refl _) (Nat.le_refl _) (⟨by unfold stepB stepL; (repeat' split) <;> first | rfl | omega | exact congrArg nI (by omega), rfl⟩) dX2_stepsOf_35
  · skip
    refine lv_iconst (v := nI 0) hx hb dX2_stepsOf_4 (by decide) ?_
    exact r_iret C hw (Nat.le_refl _) (Nat.le_refl _) (⟨by unfold stepB stepL; (repeat' split) <;> first | rfl | omega | exact congrArg nI (by omega), rfl⟩) dX2_stepsOf_5
