abbrev rm_c_bits0 : Room := { frames := 1, cells := 1, slots := 0, locals := 12 }
set_option maxHeartbeats 4000000 in
set_option maxRecDepth 100000 in
theorem c_bits0 (l : Launch) (g : GT) (sz : Nat) (o : Nat) : CtV l g yX0_init wsX0_init rm_c_bits0 [.ref o] [(o, .inr (0, [.null, .int (nI 0), .int (nI 0), .int (nI 0), .int (nI 0)]))] sz (fun _ => True) (fun u => ∃ q : Nat, u = [(o, .inr (0, [.ref q, .int (nI 0), .int (nI 0), .int (nI 0), .int (nI 0)])), (q, aI g 0 (fun _ => 0))]) (1) (0) := by
  refine ct_body (cc := cX0_init) (nL := 1) (ret := none) (by decide) rfl (Nat.le_of_ble_eq_true rfl) ?_
  intro p e s m below meth c ls C hin hsz hB hw hl
  obtain ⟨hx, hb, hml, hown, hts, hK, hA, hr, hlk⟩ := id C
  have lk7 := hts (.fieldLink RX0 7 "SoundBench$Bits" "tape" "[I") (by decide +kernel)
  have in_X0 : ∀ w ∈ wsX00, w ∈ wsX0_init := by unfold wsX0_init; intro w h; simp only [List.mem_cons, List.mem_append, h, or_true, true_or]
  have hl : lv_has ls 1 [(0, .ref o)] := hl
  have hw : Wd g (va_A [(o, .inr (0, [.null, .int (nI 0), .int (nI 0), .int (nI 0), .int (nI 0)]))] sz) s.heap [(o, .inr (0, [.null, .int (nI 0), .int (nI 0), .int (nI 0), .int (nI 0)]))] s.heap [] := hw
  refine lv_aload_n hx hb dX0_init_0 rfl (lv_at hl 0 rfl) ?_
  refine W.objInit hx hb hown (hts (.methodLink RX0 1 objectInit) (by decide +kernel)) (hts (.instanceMethod objectInit) (by decide +kernel)) (hts (.code objectInit ⟨#[0xb1]⟩ 1 none) (by decide +kernel)) rfl (by rw [hml]; exact hl.1) rfl dX0_init_1 (Nat.le_of_ble_eq_true rfl) (Nat.le_of_ble_eq_true rfl) ?_
  refine W.eq (g2 := F0 m 4 ls []) rfl ?_
  refine lv_aload_n hx hb dX0_init_4 rfl (lv_at hl 0 rfl) ?_
  refine lv_iconst (v := nI 0) hx hb dX0_init_5 (by decide) ?_
  refine r_newI C hw (hts (.arrayClass .int) (by decide +kernel)) (by omega) (Nat.le_of_ble_eq_true rfl) (Nat.le_of_ble_eq_true rfl) dX0_init_6 (fun q H hw => ?_)
  have hw : Wd g (va_A [(o, .inr (0, [.null, .int (nI 0), .int (nI 0), .int (nI 0), .int (nI 0)]))] sz) s.heap [(o, .inr (0, [.null, .int (nI 0), .int (nI 0), .int (nI 0), .int (nI 0)])), (q, aI g 0 (fun _ => 0))] H _ := hw
  refine r_put C hw in_X0 tyX0_ok nmX0 0 rfl rfl 0 (by decide) lk7 rfl rfl rfl (Nat.le_of_ble_eq_true rfl) (ws' := [(o, .inr (0, [.ref q, .int (nI 0), .int (nI 0), .int (nI 0), .int (nI 0)])), (q, aI g 0 (fun _ => 0))]) rfl dX0_init_8 (fun H locs hw => ?_)
  exact r_vret C hw (Nat.le_refl _) (Nat.le_refl _) (⟨_, rfl⟩) dX0_init_11
abbrev rm_c_content0 : Room := { frames := 1, cells := 3, slots := 2560, locals := 12 }
set_option maxHeartbeats 4000000 in
set_option maxRecDepth 100000 in
theorem c_content0 (l : Launch) (g : GT) (sz : Nat) (k : Nat) : CtV l g yX1_init wsX1_init rm_c_content0 [.ref k] [(k, .inr (1, [.int (nI 0), .int (nI 0), .null, .null, .null]))] sz (fun _ => True) (fun u => ∃ ks kf km : Nat, u = [(k, .inr (1, [.int (nI 0), .int (nI 0), .ref ks, .ref kf, .ref km])), (ks, aI g 64 (fun j => nI ((fun _ => 0) j))), (kf, aI g 192 (fun j => nI ((fun _ => 0) j))), (km, aI g 2304 (fun _ => 0))]) (3) (2560) := by
  refine ct_body (cc := cX1_init) (nL := 1) (ret := none) (by decide) rfl (Nat.le_of_ble_eq_true rfl) ?_
  intro p e s m below meth c ls C hin hsz hB hw hl
  obtain ⟨hx, hb, hml, hown, hts, hK, hA, hr, hlk⟩ := id C
  have lk9 := hts (.fieldLink RX1 9 "SoundBench$Content" "steps" "[I") (by decide +kernel)
  have lk15 := hts (.fieldLink RX1 15 "SoundBench$Content" "factors" "[I") (by decide +kernel)
  have lk18 := hts (.fieldLink RX1 18 "SoundBench$Content" "samples" "[I") (by decide +kernel)
  have in_X1 : ∀ w ∈ wsX10, w ∈ wsX1_init := by unfold wsX1_init; intro w h; simp only [List.mem_cons, List.mem_append, h, or_true, true_or]
  have hl : lv_has ls 1 [(0, .ref k)] := hl
  have hw : Wd g (va_A [(k, .inr (1, [.int (nI 0), .int (nI 0), .null, .null, .null]))] sz) s.heap [(k, .inr (1, [.int (nI 0), .int (nI 0), .null, .null, .null]))] s.heap [] := hw
  refine lv_aload_n hx hb dX1_init_0 rfl (lv_at hl 0 rfl) ?_
  refine W.objInit hx hb hown (hts (.methodLink RX1 3 objectInit) (by decide +kernel)) (hts (.instanceMethod objectInit) (by decide +kernel)) (hts (.code objectInit ⟨#[0xb1]⟩ 1 none) (by decide +kernel)) rfl (by rw [hml]; exact hl.1) rfl dX1_init_1 (Nat.le_of_ble_eq_true rfl) (Nat.le_of_ble_eq_true rfl) ?_
  refine W.eq (g2 := F0 m 4 ls []) rfl ?_
  refine lv_aload_n hx hb dX1_init_4 rfl (lv_at hl 0 rfl) ?_
  refine lv_bipush (v := nI 64) hx hb dX1_init_5 (by decide) ?_
  refine r_newI C hw (hts (.arrayClass .int) (by decide +kernel)) (by omega) (Nat.le_of_ble_eq_true rfl) (Nat.le_of_ble_eq_true rfl) dX1_init_7 (fun ks H hw => ?_)
  have hw : Wd g (va_A [(k, .inr (1, [.int (nI 0), .int (nI 0), .null, .null, .null]))] sz) s.heap [(k, .inr (1, [.int (nI 0), .int (nI 0), .null, .null, .null])), (ks, aI g 64 (fun _ => 0))] H _ := hw
  refine r_putF C hw in_X1 tyX1_ok nmX1 0 rfl rfl 2 (by decide) lk9 rfl hin rfl rfl rfl (Nat.le_of_ble_eq_true rfl) (ws' := [(k, .inr (1, [.int (nI 0), .int (nI 0), .ref ks, .null, .null])), (ks, aI g 64 (fun _ => 0))]) rfl dX1_init_9 (fun H locs hw => ?_)
  refine lv_aload_n hx hb dX1_init_12 rfl (lv_at hl 0 rfl) ?_
  refine lv_sipush (v := nI 192) hx hb dX1_init_13 (by decide) ?_
  refine r_newI C hw (hts (.arrayClass .int) (by decide +kernel)) (by omega) (Nat.le_of_ble_eq_true rfl) (Nat.le_of_ble_eq_true rfl) dX1_init_16 (fun kf H hw => ?_)
  have hw : Wd g (va_A [(k, .inr (1, [.int (nI 0), .int (nI 0), .null, .null, .null]))] sz) s.heap [(k, .inr (1, [.int (nI 0), .int (nI 0), .ref ks, .null, .null])), (ks, aI g 64 (fun _ => 0)), (kf, aI g 192 (fun _ => 0))] H _ := hw
  refine r_putF C hw in_X1 tyX1_ok nmX1 0 rfl rfl 3 (by decide) lk15 rfl hin rfl rfl rfl (Nat.le_of_ble_eq_true rfl) (ws' := [(k, .inr (1, [.int (nI 0), .int (nI 0), .ref ks, .ref kf, .null])), (ks, aI g 64 (fun _ => 0)), (kf, aI g 192 (fun _ => 0))]) rfl dX1_init_18 (fun H locs hw => ?_)
  refine lv_aload_n hx hb dX1_init_21 rfl (lv_at hl 0 rfl) ?_
  refine lv_sipush (v := nI 2304) hx hb dX1_init_22 (by decide) ?_
  refine r_newI C hw (hts (.arrayClass .int) (by decide +kernel)) (by omega) (Nat.le_of_ble_eq_true rfl) (Nat.le_of_ble_eq_true rfl) dX1_init_25 (fun km H hw => ?_)
  have hw : Wd g (va_A [(k, .inr (1, [.int (nI 0), .int (nI 0), .null, .null, .null]))] sz) s.heap [(k, .inr (1, [.int (nI 0), .int (nI 0), .ref ks, .ref kf, .null])), (ks, aI g 64 (fun _ => 0)), (kf, aI g 192 (fun _ => 0)), (km, aI g 2304 (fun _ => 0))] H _ := hw
  refine r_putF C hw in_X1 tyX1_ok nmX1 0 rfl rfl 4 (by decide) lk18 rfl hin rfl rfl rfl (Nat.le_of_ble_eq_true rfl) (ws' := [(k, .inr (1, [.int (nI 0), .int (nI 0), .ref ks, .ref kf, .ref km])), (ks, aI g 64 (fun _ => 0)), (kf, aI g 192 (fun _ => 0)), (km, aI g 2304 (fun _ => 0))]) rfl dX1_init_27 (fun H locs hw => ?_)
  exact r_vret C hw (Nat.le_refl _) (Nat.le_refl _) (⟨_, _, _, rfl⟩) dX1_init_30
abbrev rm_c_reader0 : Room := { frames := 2, cells := 4, slots := 72, locals := 32 }
set_option maxHeartbeats 4000000 in
set_option maxRecDepth 100000 in
theorem c_reader0 (l : Launch) (g : GT) (sz : Nat) (tb : Nat → Nat) (r : Nat) : CtV l g yX3_init wsX3_init rm_c_reader0 [.ref r] [(r, .inr (3, [.null, .null, .null, .int (nI 0)]))] sz (fun U => Sx tb (va_A [(r, .inr (3, [.null, .null, .null, .int (nI 0)]))] sz) U U.heap) (fun u => ∃ o tq sl co_ : Nat, u = [(r, .inr (3, [.ref o, .ref sl, .ref co_, .int (nI 0)])), (o, .inr (0, [.ref tq, .int (nI 0), .int (nI 0), .int (nI 0), .int (nI 0)])), (sl, aI g 64 (fun j => nI ((fun _ => 0) j))), (co_, aI g 3 (fun j => nI ((fun _ => 0) j)))]) (4) (72) := by
  refine ct_body (cc := cX3_init) (nL := 1) (ret := none) (by decide) rfl (Nat.le_of_ble_eq_true rfl) ?_
  intro p e s m below meth c ls C hin hsz hB hw hl
  obtain ⟨hx, hb, hml, hown, hts, hK, hA, hr, hlk⟩ := id C
  have lk12 := hts (.fieldLink RX3 12 "SoundBench$FrameReader" "bits" "LSoundBench$Bits;") (by decide +kernel)
  have lk18 := hts (.fieldLink RX3 18 "SoundBench$FrameReader" "selections" "[I") (by decide +kernel)
  have lk22 := hts (.fieldLink RX3 22 "SoundBench$FrameReader" "codes" "[I") (by decide +kernel)
  have in_X0 : ∀ w ∈ wsX00, w ∈ wsX3_init := by unfold wsX3_init; intro w h; simp only [List.mem_cons, List.mem_append, h, or_true, true_or]
  have in_X3 : ∀ w ∈ wsX30, w ∈ wsX3_init := by unfold wsX3_init; intro w h; simp only [List.mem_cons, List.mem_append, h, or_true, true_or]
  have hl : lv_has ls 1 [(0, .ref r)] := hl
  have hw : Wd g (va_A [(r, .inr (3, [.null, .null, .null, .int (nI 0)]))] sz) s.heap [(r, .inr (3, [.null, .null, .null, .int (nI 0)]))] s.heap [] := hw
  refine lv_aload_n hx hb dX3_init_0 rfl (lv_at hl 0 rfl) ?_
  refine W.objInit hx hb hown (hts (.methodLink RX3 3 objectInit) (by decide +kernel)) (hts (.instanceMethod objectInit) (by decide +kernel)) (hts (.code objectInit ⟨#[0xb1]⟩ 1 none) (by decide +kernel)) rfl (by rw [hml]; exact hl.1) rfl dX3_init_1 (Nat.le_of_ble_eq_true rfl) (Nat.le_of_ble_eq_true rfl) ?_
  refine W.eq (g2 := F0 m 4 ls []) rfl ?_
  refine lv_aload_n hx hb dX3_init_4 rfl (lv_at hl 0 rfl) ?_
  refine r_new (ci := 0) C hw in_X0 tyX0_ok (hts (.classLink RX3 9 RX0) (by decide +kernel)) (hts (.instantiable RX0 5) (by decide +kernel)) (hts (.initialized RX0) (by decide +kernel)) rfl [.null, .int (nI 0), .int (nI 0), .int (nI 0), .int (nI 0)] (fun j hj => by (repeat (rcases j with _ | j; rfl)); omega) (Nat.le_of_ble_eq_true rfl) (Nat.le_of_ble_eq_true rfl) dX3_init_5 (fun o H hw => ?_)
  have hw : Wd g (va_A [(r, .inr (3, [.null, .null, .null, .int (nI 0)]))] sz) s.heap [(r, .inr (3, [.null, .null, .null, .int (nI 0)])), (o, .inr (0, [.null, .int (nI 0), .int (nI 0), .int (nI 0), .int (nI 0)]))] H _ := hw
  refine lv_dup hx hb dX3_init_8 rfl ?_
  have hwq : Wd g (va_A [(r, .inr (3, [.null, .null, .null, .int (nI 0)]))] sz) s.heap ([(o, .inr (0, [.null, .int (nI 0), .int (nI 0), .int (nI 0), .int (nI 0)]))] ++ [(r, .inr (3, [.null, .null, .null, .int (nI 0)]))]) _ _ := Wd.sub (ws' := [(o, .inr (0, [.null, .int (nI 0), .int (nI 0), .int (nI 0), .int (nI 0)])), (r, .inr (3, [.null, .null, .null, .int (nI 0)]))]) hw [1, 0] (by decide) rfl
  refine kN_Iv (As := []) (rest := [.ref o, .ref r]) (w := [(o, .inr (0, [.null, .int (nI 0), .int (nI 0), .int (nI 0), .int (nI 0)]))]) (wr := [(r, .inr (3, [.null, .null, .null, .int (nI 0)]))]) C hwq (c_bits0 l g _ o) ⟨va_cnB 0 hts gX3_init_X0_init_n11 rfl rfl rfl (hB.2.2.2.2.2.2.2.1) (hts (.initialized RX0) (by decide +kernel)) (by decide +kernel) ⟨Nat.le_of_ble_eq_true rfl, Nat.le_of_ble_eq_true rfl⟩, rfl, hts (.instanceMethod yX0_init) (by decide +kernel)⟩ bl_T (fun _ _ _ => trivial) rfl hl.1 rfl (Nat.le_of_ble_eq_true rfl) dX3_init_9 ⟨Nat.le_of_ble_eq_true rfl, Nat.le_of_ble_eq_true rfl⟩ (fun u H locs hp hw => ?_)
  obtain ⟨tq, rfl⟩ := hp
  have hw := Wd.sub (ws' := [(r, .inr (3, [.null, .null, .null, .int (nI 0)])), (o, .inr (0, [.ref tq, .int (nI 0), .int (nI 0), .int (nI 0), .int (nI 0)])), (tq, aI g 0 (fun _ => 0))]) hw [2, 0, 1] (by decide) rfl
  refine r_putF C hw in_X3 tyX3_ok nmX3 0 rfl rfl 0 (by decide) lk12 rfl hin rfl rfl rfl (Nat.le_of_ble_eq_true rfl) (ws' := [(r, .inr (3, [.ref o, .null, .null, .int (nI 0)])), (o, .inr (0, [.ref tq, .int (nI 0), .int (nI 0), .int (nI 0), .int (nI 0)])), (tq, aI g 0 (fun _ => 0))]) rfl dX3_init_12 (fun H locs hw => ?_)
  refine lv_aload_n hx hb dX3_init_15 rfl (lv_at hl 0 rfl) ?_
  refine lv_bipush (v := nI 64) hx hb dX3_init_16 (by decide) ?_
  refine r_newI C hw (hts (.arrayClass .int) (by decide +kernel)) (by omega) (Nat.le_of_ble_eq_true rfl) (Nat.le_of_ble_eq_true rfl) dX3_init_18 (fun sl H hw => ?_)
  have hw : Wd g (va_A [(r, .inr (3, [.null, .null, .null, .int (nI 0)]))] sz) s.heap [(r, .inr (3, [.ref o, .null, .null, .int (nI 0)])), (o, .inr (0, [.ref tq, .int (nI 0), .int (nI 0), .int (nI 0), .int (nI 0)])), (tq, aI g 0 (fun _ => 0)), (sl, aI g 64 (fun _ => 0))] H _ := hw
  refine r_putF C hw in_X3 tyX3_ok nmX3 0 rfl rfl 1 (by decide) lk18 rfl hin rfl rfl rfl (Nat.le_of_ble_eq_true rfl) (ws' := [(r, .inr (3, [.ref o, .ref sl, .null, .int (nI 0)])), (o, .inr (0, [.ref tq, .int (nI 0), .int (nI 0), .int (nI 0), .int (nI 0)])), (tq, aI g 0 (fun _ => 0)), (sl, aI g 64 (fun _ => 0))]) rfl dX3_init_20 (fun H locs hw => ?_)
  refine lv_aload_n hx hb dX3_init_23 rfl (lv_at hl 0 rfl) ?_
  refine lv_iconst (v := nI 3) hx hb dX3_init_24 (by decide) ?_
  refine r_newI C hw (hts (.arrayClass .int) (by decide +kernel)) (by omega) (Nat.le_of_ble_eq_true rfl) (Nat.le_of_ble_eq_true rfl) dX3_init_25 (fun co_ H hw => ?_)
  have hw : Wd g (va_A [(r, .inr (3, [.null, .null, .null, .int (nI 0)]))] sz) s.heap [(r, .inr (3, [.ref o, .ref sl, .null, .int (nI 0)])), (o, .inr (0, [.ref tq, .int (nI 0), .int (nI 0), .int (nI 0), .int (nI 0)])), (tq, aI g 0 (fun _ => 0)), (sl, aI g 64 (fun _ => 0)), (co_, aI g 3 (fun _ => 0))] H _ := hw
  refine r_putF C hw in_X3 tyX3_ok nmX3 0 rfl rfl 2 (by decide) lk22 rfl hin rfl rfl rfl (Nat.le_of_ble_eq_true rfl) (ws' := [(r, .inr (3, [.ref o, .ref sl, .ref co_, .int (nI 0)])), (o, .inr (0, [.ref tq, .int (nI 0), .int (nI 0), .int (nI 0), .int (nI 0)])), (tq, aI g 0 (fun _ => 0)), (sl, aI g 64 (fun _ => 0)), (co_, aI g 3 (fun _ => 0))]) rfl dX3_init_27 (fun H locs hw => ?_)
  have hw := Wd.sub (ws' := [(r, .inr (3, [.ref o, .ref sl, .ref co_, .int (nI 0)])), (o, .inr (0, [.ref tq, .int (nI 0), .int (nI 0), .int (nI 0), .int (nI 0)])), (sl, aI g 64 (fun _ => 0)), (co_, aI g 3 (fun _ => 0))]) hw [0, 1, 3, 4] (by decide) rfl
  exact r_vret C hw (Nat.le_refl _) (Nat.le_refl _) (⟨_, _, _, _, rfl⟩) dX3_init_30
