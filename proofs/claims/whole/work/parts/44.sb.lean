abbrev rm_c_appendWord : Room := { frames := 0, cells := 0, slots := 0, locals := 0 }
set_option maxHeartbeats 4000000 in
set_option maxRecDepth 100000 in
theorem c_appendWord (l : Launch) (g : GT) (sz : Nat) (sb tp len pl al dec r k k2 v v2 : Nat) (wd : Nat) (T : Nat → Nat) (h1 : len + 4 ≤ 4000) (h2 : wd < 2 ^ 32) : CtV l g yX6_appendWord wsX6_appendWord rm_c_appendWord [.ref sb, .int (nI wd)] [(sb, .inr (6, [.ref tp, .int (nI len), .int (nI pl), .ref al, .int (nI dec), .ref r, .ref k, .ref k2, .ref v, .ref v2])), (tp, aI g 4000 (fun j => nI (T j)))] sz (fun _ => True) (fun u => u = [(sb, .inr (6, [.ref tp, .int (nI (len + 4)), .int (nI pl), .ref al, .int (nI dec), .ref r, .ref k, .ref k2, .ref v, .ref v2])), (tp, aI g 4000 (fun j => nI (putW T len wd j)))]) (0) (0) := by
  refine ct_body (cc := cX6_appendWord) (nL := 2) (ret := none) (by decide) rfl (Nat.le_of_ble_eq_true rfl) ?_
  intro p e s m below meth c ls C hin hsz hB hw hl
  obtain ⟨hx, hb, hml, hown, hts, hK, hA, hr, hlk⟩ := id C
  have lk9 := hts (.fieldLink RX6 9 "SoundBench" "tape" "[I") (by decide +kernel)
  have lk13 := hts (.fieldLink RX6 13 "SoundBench" "length" "I") (by decide +kernel)
  have in_X6 : ∀ w ∈ wsX60, w ∈ wsX6_appendWord := by unfold wsX6_appendWord; intro w h; simp only [List.mem_cons, List.mem_append, h, or_true, true_or]
  have hl : lv_has ls 2 [(0, .ref sb), (1, .int (nI wd))] := hl
  have hw : Wd g (va_A [(sb, .inr (6, [.ref tp, .int (nI len), .int (nI pl), .ref al, .int (nI dec), .ref r, .ref k, .ref k2, .ref v, .ref v2])), (tp, aI g 4000 (fun j => nI (T j)))] sz) s.heap [(sb, .inr (6, [.ref tp, .int (nI len), .int (nI pl), .ref al, .int (nI dec), .ref r, .ref k, .ref k2, .ref v, .ref v2])), (tp, aI g 4000 (fun j => nI (T j)))] s.heap [] := hw
  refine lv_aload_n hx hb dX6_appendWord_0 rfl (lv_at hl 0 rfl) ?_
  refine r_get C hw in_X6 0 rfl rfl 1 (by decide) lk13 rfl dX6_appendWord_1 ?_
  refine lv_iconst (v := nI 4) hx hb dX6_appendWord_4 (by decide) ?_
  refine n_add hx hb dX6_appendWord_5 ?_
  refine lv_sipush (v := nI 4000) hx hb dX6_appendWord_6 (by decide) ?_
  refine n_cle (tgt := 13) hx hb (by omega) (by omega) dX6_appendWord_9 (by decide) (fun c_1 => ?_) (fun c_1 => ?_)
  · skip
    refine lv_aload_n hx hb dX6_appendWord_13 rfl (lv_at hl 0 rfl) ?_
    refine r_get C hw in_X6 0 rfl rfl 0 (by decide) lk9 rfl dX6_appendWord_14 ?_
    refine lv_aload_n hx hb dX6_appendWord_17 rfl (lv_at hl 0 rfl) ?_
    refine r_get C hw in_X6 0 rfl rfl 1 (by decide) lk13 rfl dX6_appendWord_18 ?_
    refine lv_iload_n hx hb dX6_appendWord_21 rfl (lv_at hl 1 rfl) ?_
    refine lv_bipush (v := nI 24) hx hb dX6_appendWord_22 (by decide) ?_
    refine n_ushr (d := 16777216) hx hb (by decide) (by omega) (by omega) dX6_appendWord_24 ?_
    refine r_iast C hw 1 rfl (by omega) (by omega) (ws' := [(sb, .inr (6, [.ref tp, .int (nI len), .int (nI pl), .ref al, .int (nI dec), .ref r, .ref k, .ref k2, .ref v, .ref v2])), (tp, aI g 4000 (upd (fun j => nI (T j)) len (nI (wd / 16777216))))]) rfl dX6_appendWord_25 (fun H locs hw => ?_)
    rw [updN_I] at hw
    have hw : Wd g (va_A [(sb, .inr (6, [.ref tp, .int (nI len), .int (nI pl), .ref al, .int (nI dec), .ref r, .ref k, .ref k2, .ref v, .ref v2])), (tp, aI g 4000 (fun j => nI (T j)))] sz) s.heap [(sb, .inr (6, [.ref tp, .int (nI len), .int (nI pl), .ref al, .int (nI dec), .ref r, .ref k, .ref k2, .ref v, .ref v2])), (tp, aI g 4000 (fun j => nI (updN T len (wd / 16777216) j)))] H locs := hw
    refine lv_aload_n hx hb dX6_appendWord_26 rfl (lv_at hl 0 rfl) ?_
    refine r_get C hw in_X6 0 rfl rfl 0 (by decide) lk9 rfl dX6_appendWord_27 ?_
    refine lv_aload_n hx hb dX6_appendWord_30 rfl (lv_at hl 0 rfl) ?_
    refine r_get C hw in_X6 0 rfl rfl 1 (by decide) lk13 rfl dX6_appendWord_31 ?_
    refine lv_iconst (v := nI 1) hx hb dX6_appendWord_34 (by decide) ?_
    refine n_add hx hb dX6_appendWord_35 ?_
    refine lv_iload_n hx hb dX6_appendWord_36 rfl (lv_at hl 1 rfl) ?_
    refine lv_bipush (v := nI 16) hx hb dX6_appendWord_37 (by decide) ?_
    refine n_ushr (d := 65536) hx hb (by decide) (by omega) (by omega) dX6_appendWord_39 ?_
    refine lv_sipush (v := nI 255) hx hb dX6_appendWord_40 (by decide) ?_
    refine n_and (d := 256) hx hb 8 (by decide) (by decide) (by omega) (by omega) dX6_appendWord_43 ?_
    refine r_iast C hw 1 rfl (by omega) (by omega) (ws' := [(sb, .inr (6, [.ref tp, .int (nI len), .int (nI pl), .ref al, .int (nI dec), .ref r, .ref k, .ref k2, .ref v, .ref v2])), (tp, aI g 4000 (upd (fun j => nI (updN T len (wd / 16777216) j)) (len + 1) (nI ((wd / 65536) % 256))))]) rfl dX6_appendWord_44 (fun H locs hw => ?_)
    rw [updN_I] at hw
    have hw : Wd g (va_A [(sb, .inr (6, [.ref tp, .int (nI len), .int (nI pl), .ref al, .int (nI dec), .ref r, .ref k, .ref k2, .ref v, .ref v2])), (tp, aI g 4000 (fun j => nI (T j)))] sz) s.heap [(sb, .inr (6, [.ref tp, .int (nI len), .int (nI pl), .ref al, .int (nI dec), .ref r, .ref k, .ref k2, .ref v, .ref v2])), (tp, aI g 4000 (fun j => nI (updN (updN T len (wd / 16777216)) (len + 1) ((wd / 65536) % 256) j)))] H locs := hw
    refine lv_aload_n hx hb dX6_appendWord_45 rfl (lv_at hl 0 rfl) ?_
    refine r_get C hw in_X6 0 rfl rfl 0 (by decide) lk9 rfl dX6_appendWord_46 ?_
    refine lv_aload_n hx hb dX6_appendWord_49 rfl (lv_at hl 0 rfl) ?_
    refine r_get C hw in_X6 0 rfl rfl 1 (by decide) lk13 rfl dX6_appendWord_50 ?_
    refine lv_iconst (v := nI 2) hx hb dX6_appendWord_53 (by decide) ?_
    refine n_add hx hb dX6_appendWord_54 ?_
    refine lv_iload_n hx hb dX6_appendWord_55 rfl (lv_at hl 1 rfl) ?_
    refine lv_bipush (v := nI 8) hx hb dX6_appendWord_56 (by decide) ?_
    refine n_ushr (d := 256) hx hb (by decide) (by omega) (by omega) dX6_appendWord_58 ?_
    refine lv_sipush (v := nI 255) hx hb dX6_appendWord_59 (by decide) ?_
    refine n_and (d := 256) hx hb 8 (by decide) (by decide) (by omega) (by omega) dX6_appendWord_62 ?_
    refine r_iast C hw 1 rfl (by omega) (by omega) (ws' := [(sb, .inr (6, [.ref tp, .int (nI len), .int (nI pl), .ref al, .int (nI dec), .ref r, .ref k, .ref k2, .ref v, .ref v2])), (tp, aI g 4000 (upd (fun j => nI (updN (updN T len (wd / 16777216)) (len + 1) ((wd / 65536) % 256) j)) (len + 2) (nI ((wd / 256) % 256))))]) rfl dX6_appendWord_63 (fun H locs hw => ?_)
    rw [updN_I] at hw
    have hw : Wd g (va_A [(sb, .inr (6, [.ref tp, .int (nI len), .int (nI pl), .ref al, .int (nI dec), .ref r, .ref k, .ref k2, .ref v, .ref v2])), (tp, aI g 4000 (fun j => nI (T j)))] sz) s.heap [(sb, .inr (6, [.ref tp, .int (nI len), .int (nI pl), .ref al, .int (nI dec), .ref r, .ref k, .ref k2, .ref v, .ref v2])), (tp, aI g 4000 (fun j => nI (updN (updN (updN T len (wd / 16777216)) (len + 1) ((wd / 65536) % 256)) (len + 2) ((wd / 256) % 256) j)))] H locs := hw
    refine lv_aload_n hx hb dX6_appendWord_64 rfl (lv_at hl 0 rfl) ?_
    refine r_get C hw in_X6 0 rfl rfl 0 (by decide) lk9 rfl dX6_appendWord_65 ?_
    refine lv_aload_n hx hb dX6_appendWord_68 rfl (lv_at hl 0 rfl) ?_
    refine r_get C hw in_X6 0 rfl rfl 1 (by decide) lk13 rfl dX6_appendWord_69 ?_
    refine lv_iconst (v := nI 3) hx hb dX6_appendWord_72 (by decide) ?_
    refine n_add hx hb dX6_appendWord_73 ?_
    refine lv_iload_n hx hb dX6_appendWord_74 rfl (lv_at hl 1 rfl) ?_
    refine lv_sipush (v := nI 255) hx hb dX6_appendWord_75 (by decide) ?_
    refine n_and (d := 256) hx hb 8 (by decide) (by decide) (by omega) (by omega) dX6_appendWord_78 ?_
    refine r_iast C hw 1 rfl (by omega) (by omega) (ws' := [(sb, .inr (6, [.ref tp, .int (nI len), .int (nI pl), .ref al, .int (nI dec), .ref r, .ref k, .ref k2, .ref v, .ref v2])), (tp, aI g 4000 (upd (fun j => nI (updN (updN (updN T len (wd / 16777216)) (len + 1) ((wd / 65536) % 256)) (len + 2) ((wd / 256) % 256) j)) (len + 3) (nI (wd % 256))))]) rfl dX6_appendWord_79 (fun H locs hw => ?_)
    rw [updN_I] at hw
    have hw : Wd g (va_A [(sb, .inr (6, [.ref tp, .int (nI len), .int (nI pl), .ref al, .int (nI dec), .ref r, .ref k, .ref k2, .ref v, .ref v2])), (tp, aI g 4000 (fun j => nI (T j)))] sz) s.heap [(sb, .inr (6, [.ref tp, .int (nI len), .int (nI pl), .ref al, .int (nI dec), .ref r, .ref k, .ref k2, .ref v, .ref v2])), (tp, aI g 4000 (fun j => nI (updN (updN (updN (updN T len (wd / 16777216)) (len + 1) ((wd / 65536) % 256)) (len + 2) ((wd / 256) % 256)) (len + 3) (wd % 256) j)))] H locs := hw
    refine lv_aload_n hx hb dX6_appendWord_80 rfl (lv_at hl 0 rfl) ?_
    refine lv_dup hx hb dX6_appendWord_81 rfl ?_
    refine r_get C hw in_X6 0 rfl rfl 1 (by decide) lk13 rfl dX6_appendWord_82 ?_
    refine lv_iconst (v := nI 4) hx hb dX6_appendWord_85 (by decide) ?_
    refine n_add hx hb dX6_appendWord_86 ?_
    refine r_put C hw in_X6 tyX6_ok nmX6 0 rfl rfl 1 (by decide) lk13 rfl rfl rfl (Nat.le_of_ble_eq_true rfl) (ws' := [(sb, .inr (6, [.ref tp, .int (nI (len + 4)), .int (nI pl), .ref al, .int (nI dec), .ref r, .ref k, .ref k2, .ref v, .ref v2])), (tp, aI g 4000 (fun j => nI (updN (updN (updN (updN T len (wd / 16777216)) (len + 1) ((wd / 65536) % 256)) (len + 2) ((wd / 256) % 256)) (len + 3) (wd % 256) j)))]) rfl dX6_appendWord_87 (fun H locs hw => ?_)
    exact r_vret C hw (Nat.le_refl _) (Nat.le_refl _) (rfl) dX6_appendWord_90
  · skip
    exfalso; omega
abbrev rm_c_feed : Room := { frames := 1, cells := 0, slots := 0, locals := 21 }
set_option maxHeartbeats 4000000 in
set_option maxRecDepth 100000 in
theorem c_feed (l : Launch) (g : GT) (sz : Nat) (sb tp len pl al dec r k k2 v v2 : Nat) (a_ b_ c_ d_ e_ : Nat) (T : Nat → Nat) (h2 : len ≤ 4000) (h3 : a_ < 2 ^ 32) (h4 : b_ < 2 ^ 32) (h5 : c_ < 2 ^ 32) (h6 : d_ < 2 ^ 32) (h7 : e_ < 2 ^ 32) : CtI l g yX6_feed wsX6_feed rm_c_feed [.ref sb, .int (nI a_), .int (nI b_), .int (nI c_), .int (nI d_), .int (nI e_)] [(sb, .inr (6, [.ref tp, .int (nI len), .int (nI pl), .ref al, .int (nI dec), .ref r, .ref k, .ref k2, .ref v, .ref v2])), (tp, aI g 4000 (fun j => nI (T j)))] sz (fun _ => True) (fun rr u => rr = (if len + 20 ≤ 4000 then nI (len + 20) else -1) ∧ u = (if len + 20 ≤ 4000 then [(sb, .inr (6, [.ref tp, .int (nI (len + 20)), .int (nI pl), .ref al, .int (nI dec), .ref r, .ref k, .ref k2, .ref v, .ref v2])), (tp, aI g 4000 (fun j => nI (feedT T len a_ b_ c_ d_ e_ j)))] else [(sb, .inr (6, [.ref tp, .int (nI len), .int (nI pl), .ref al, .int (nI dec), .ref r, .ref k, .ref k2, .ref v, .ref v2])), (tp, aI g 4000 (fun j => nI (T j)))])) (0) (0) := by
  refine ct_body (cc := cX6_feed) (nL := 6) (ret := (some .int)) (by decide) rfl (Nat.le_of_ble_eq_true rfl) ?_
  intro p e s m below meth c ls C hin hsz hB hw hl
  obtain ⟨hx, hb, hml, hown, hts, hK, hA, hr, hlk⟩ := id C
  have lk13 := hts (.fieldLink RX6 13 "SoundBench" "length" "I") (by decide +kernel)
  have in_X6 : ∀ w ∈ wsX60, w ∈ wsX6_feed := by unfold wsX6_feed; intro w h; simp only [List.mem_cons, List.mem_append, h, or_true, true_or]
  have hl : lv_has ls 6 [(0, .ref sb), (1, .int (nI a_)), (2, .int (nI b_)), (3, .int (nI c_)), (4, .int (nI d_)), (5, .int (nI e_))] := hl
  have hw : Wd g (va_A [(sb, .inr (6, [.ref tp, .int (nI len), .int (nI pl), .ref al, .int (nI dec), .ref r, .ref k, .ref k2, .ref v, .ref v2])), (tp, aI g 4000 (fun j => nI (T j)))] sz) s.heap [(sb, .inr (6, [.ref tp, .int (nI len), .int (nI pl), .ref al, .int (nI dec), .ref r, .ref k, .ref k2, .ref v, .ref v2])), (tp, aI g 4000 (fun j => nI (T j)))] s.heap [] := hw
  refine lv_aload_n hx hb dX6_feed_0 rfl (lv_at hl 0 rfl) ?_
  refine r_get C hw in_X6 0 rfl rfl 1 (by decide) lk13 rfl dX6_feed_1 ?_
  refine lv_bipush (v := nI 20) hx hb dX6_feed_4 (by decide) ?_
  refine n_add hx hb dX6_feed_6 ?_
  refine lv_sipush (v := nI 4000) hx hb dX6_feed_7 (by decide) ?_
  refine n_cle (tgt := 15) hx hb (by omega) (by omega) dX6_feed_10 (by decide) (fun c_1 => ?_) (fun c_1 => ?_)
  · skip
    refine lv_aload_n hx hb dX6_feed_15 rfl (lv_at hl 0 rfl) ?_
    refine lv_iload_n hx hb dX6_feed_16 rfl (lv_at hl 1 rfl) ?_
    refine k_Vv (As := [.int (nI a_)]) (rest := []) (wr := []) C hw (c_appendWord l g _ sb tp (len) pl al dec r k k2 v v2 a_ (T) (by omega) (by omega)) (cwV 1 hts gX6_feed_X6_appendWord rfl rfl rfl (by decide +kernel) ⟨Nat.le_of_ble_eq_true rfl, Nat.le_of_ble_eq_true rfl⟩) bl_T (fun _ _ _ => trivial) [0, 1] [] (by decide) rfl rfl (by decide) (by decide) 0 rfl rfl rfl hl.1 rfl (Nat.le_of_ble_eq_true rfl) dX6_feed_17 ⟨Nat.le_of_ble_eq_true rfl, Nat.le_of_ble_eq_true rfl⟩ (fun u H locs hp hw => ?_)
    obtain rfl := hp
    have hw := Wd.sub (ws' := [(sb, .inr (6, [.ref tp, .int (nI (len + 4)), .int (nI pl), .ref al, .int (nI dec), .ref r, .ref k, .ref k2, .ref v, .ref v2])), (tp, aI g 4000 (fun j => nI (putW T len a_ j)))]) hw [0, 1] (by decide) rfl
    refine lv_aload_n hx hb dX6_feed_20 rfl (lv_at hl 0 rfl) ?_
    refine lv_iload_n hx hb dX6_feed_21 rfl (lv_at hl 2 rfl) ?_
    refine k_Vv (As := [.int (nI b_)]) (rest := []) (wr := []) C hw (c_appendWord l g _ sb tp (len + 4) pl al dec r k k2 v v2 b_ (putW T len a_) (by omega) (by omega)) (cwV 1 hts gX6_feed_X6_appendWord rfl rfl rfl (by decide +kernel) ⟨Nat.le_of_ble_eq_true rfl, Nat.le_of_ble_eq_true rfl⟩) bl_T (fun _ _ _ => trivial) [0, 1] [] (by decide) rfl rfl (by decide) (by decide) 0 rfl rfl rfl hl.1 rfl (Nat.le_of_ble_eq_true rfl) dX6_feed_22 ⟨Nat.le_of_ble_eq_true rfl, Nat.le_of_ble_eq_true rfl⟩ (fun u H locs hp hw => ?_)
    obtain rfl := hp
    have hw := Wd.sub (ws' := [(sb, .inr (6, [.ref tp, .int (nI (len + 8)), .int (nI pl), .ref al, .int (nI dec), .ref r, .ref k, .ref k2, .ref v, .ref v2])), (tp, aI g 4000 (fun j => nI (putW (putW T len a_) (len + 4) b_ j)))]) hw [0, 1] (by decide) rfl
    refine lv_aload_n hx hb dX6_feed_25 rfl (lv_at hl 0 rfl) ?_
    refine lv_iload_n hx hb dX6_feed_26 rfl (lv_at hl 3 rfl) ?_
    refine k_Vv (As := [.int (nI c_)]) (rest := []) (wr := []) C hw (c_appendWord l g _ sb tp (len + 8) pl al dec r k k2 v v2 c_ (putW (putW T len a_) (len + 4) b_) (by omega) (by omega)) (cwV 1 hts gX6_feed_X6_appendWord rfl rfl rfl (by decide +kernel) ⟨Nat.le_of_ble_eq_true rfl, Nat.le_of_ble_eq_true rfl⟩) bl_T (fun _ _ _ => trivial) [0, 1] [] (by decide) rfl rfl (by decide) (by decide) 0 rfl rfl rfl hl.1 rfl (Nat.le_of_ble_eq_true rfl) dX6_feed_27 ⟨Nat.le_of_ble_eq_true rfl, Nat.le_of_ble_eq_true rfl⟩ (fun u H locs hp hw => ?_)
    obtain rfl := hp
    have hw := Wd.sub (ws' := [(sb, .inr (6, [.ref tp, .int (nI (len + 12)), .int (nI pl), .ref al, .int (nI dec), .ref r, .ref k, .ref k2, .ref v, .ref v2])), (tp, aI g 4000 (fun j => nI (putW (putW (putW T len a_) (len + 4) b_) (len + 8) c_ j)))]) hw [0, 1] (by decide) rfl
    refine lv_aload_n hx hb dX6_feed_30 rfl (lv_at hl 0 rfl) ?_
    refine lv_iload hx hb dX6_feed_31 (lv_at hl 4 rfl) ?_
    refine k_Vv (As := [.int (nI d_)]) (rest := []) (wr := []) C hw (c_appendWord l g _ sb tp (len + 12) pl al dec r k k2 v v2 d_ (putW (putW (putW T len a_) (len + 4) b_) (len + 8) c_) (by omega) (by omega)) (cwV 1 hts gX6_feed_X6_appendWord rfl rfl rfl (by decide +kernel) ⟨Nat.le_of_ble_eq_true rfl, Nat.le_of_ble_eq_true rfl⟩) bl_T (fun _ _ _ => trivial) [0, 1] [] (by decide) rfl rfl (by decide) (by decide) 0 rfl rfl rfl hl.1 rfl (Nat.le_of_ble_eq_true rfl) dX6_feed_33 ⟨Nat.le_of_ble_eq_true rfl, Nat.le_of_ble_eq_true rfl⟩ (fun u H locs hp hw => ?_)
    obtain rfl := hp
    have hw := Wd.sub (ws' := [(sb, .inr (6, [.ref tp, .int (nI (len + 16)), .int (nI pl), .ref al, .int (nI dec), .ref r, .ref k, .ref k2, .ref v, .ref v2])), (tp, aI g 4000 (fun j => nI (putW (putW (putW (putW T len a_) (len + 4) b_) (len + 8) c_) (len + 12) d_ j)))]) hw [0, 1] (by decide) rfl
    refine lv_aload_n hx hb dX6_feed_36 rfl (lv_at hl 0 rfl) ?_
    refine lv_iload hx hb dX6_feed_37 (lv_at hl 5 rfl) ?_
    refine k_Vv (As := [.int (nI e_)]) (rest := []) (wr := []) C hw (c_appendWord l g _ sb tp (len + 16) pl al dec r k k2 v v2 e_ (putW (putW (putW (putW T len a_) (len + 4) b_) (len + 8) c_) (len + 12) d_) (by omega) (by omega)) (cwV 1 hts gX6_feed_X6_appendWord rfl rfl rfl (by decide +kernel) ⟨Nat.le_of_ble_eq_true rfl, Nat.le_of_ble_eq_true rfl⟩) bl_T (fun _ _ _ => trivial) [0, 1] [] (by decide) rfl rfl (by decide) (by decide) 0 rfl rfl rfl hl.1 rfl (Nat.le_of_ble_eq_true rfl) dX6_feed_39 ⟨Nat.le_of_ble_eq_true rfl, Nat.le_of_ble_eq_true rfl⟩ (fun u H locs hp hw => ?_)
    obtain rfl := hp
    have hw := Wd.sub (ws' := [(sb, .inr (6, [.ref tp, .int (nI (len + 20)), .int (nI pl), .ref al, .int (nI dec), .ref r, .ref k, .ref k2, .ref v, .ref v2])), (tp, aI g 4000 (fun j => nI (putW (putW (putW (putW (putW T len a_) (len + 4) b_) (len + 8) c_) (len + 12) d_) (len + 16) e_ j)))]) hw [0, 1] (by decide) rfl
    refine lv_aload_n hx hb dX6_feed_42 rfl (lv_at hl 0 rfl) ?_
    refine r_get C hw in_X6 0 rfl rfl 1 (by decide) lk13 rfl dX6_feed_43 ?_
    exact r_iret C hw (Nat.le_refl _) (Nat.le_refl _) (⟨by rw [if_pos (by omega)], by rw [if_pos (by omega)]; rfl⟩) dX6_feed_46
  · skip
    refine lv_iconst (v := (-1)) hx hb dX6_feed_13 (by decide) ?_
    exact r_iret C hw (Nat.le_refl _) (Nat.le_refl _) (⟨by rw [if_neg (by omega)], by rw [if_neg (by omega)]⟩) dX6_feed_14
abbrev rm_c_end : Room := { frames := 0, cells := 0, slots := 0, locals := 0 }
set_option maxHeartbeats 4000000 in
set_option maxRecDepth 100000 in
theorem c_end (l : Launch) (g : GT) (sz : Nat) (sb tp len pl al dec r k k2 v v2 : Nat) (x : Int32) (h1 : pl ≤ len) (h2 : len ≤ 4000) : CtI l g yX6_end wsX6_end rm_c_end [.ref sb, .int x] [(sb, .inr (6, [.ref tp, .int (nI len), .int (nI pl), .ref al, .int (nI dec), .ref r, .ref k, .ref k2, .ref v, .ref v2]))] sz (fun _ => True) (fun rr u => rr = optI (endC x pl len) ∧ u = [(sb, .inr (6, [.ref tp, .int (nI ((endC x pl len).getD len)), .int (nI pl), .ref al, .int (nI dec), .ref r, .ref k, .ref k2, .ref v, .ref v2]))]) (0) (0) := by
  refine ct_body (cc := cX6_end) (nL := 2) (ret := (some .int)) (by decide) rfl (Nat.le_of_ble_eq_true rfl) ?_
  intro p e s m below meth c ls C hin hsz hB hw hl
  obtain ⟨hx, hb, hml, hown, hts, hK, hA, hr, hlk⟩ := id C
  have lk13 := hts (.fieldLink RX6 13 "SoundBench" "length" "I") (by decide +kernel)
  have lk17 := hts (.fieldLink RX6 17 "SoundBench" "place" "I") (by decide +kernel)
  have in_X6 : ∀ w ∈ wsX60, w ∈ wsX6_end := by unfold wsX6_end; intro w h; simp only [List.mem_cons, List.mem_append, h, or_true, true_or]
  have hl : lv_has ls 2 [(0, .ref sb), (1, .int x)] := hl
  have hw : Wd g (va_A [(sb, .inr (6, [.ref tp, .int (nI len), .int (nI pl), .ref al, .int (nI dec), .ref r, .ref k, .ref k2, .ref v, .ref v2]))] sz) s.heap [(sb, .inr (6, [.ref tp, .int (nI len), .int (nI pl), .ref al, .int (nI dec), .ref r, .ref k, .ref k2, .ref v, .ref v2]))] s.heap [] := hw
  refine lv_iload_n hx hb dX6_end_0 rfl (lv_at hl 1 rfl) ?_
  refine lv_aload_n hx hb dX6_end_1 rfl (lv_at hl 0 rfl) ?_
  refine r_get C hw in_X6 0 rfl rfl 1 (by decide) lk13 rfl dX6_end_2 ?_
  refine lv_icmp_gt (tgt := 16) hx hb dX6_end_5 (by decide) (fun c_1 => ?_) (fun c_1 => ?_)
  · skip
    rw [nlt (by omega)] at c_1
    refine lv_iconst (v := (-1)) hx hb dX6_end_16 (by decide) ?_
    exact r_iret C hw (Nat.le_refl _) (Nat.le_refl _) (⟨by unfold endC; rw [if_neg (by omega)]; rfl, by unfold endC; rw [if_neg (by omega)]; rfl⟩) dX6_end_17
  · skip
    rw [nlt (by omega)] at c_1
    refine lv_iload_n hx hb dX6_end_8 rfl (lv_at hl 1 rfl) ?_
    refine lv_aload_n hx hb dX6_end_9 rfl (lv_at hl 0 rfl) ?_
    refine r_get C hw in_X6 0 rfl rfl 2 (by decide) lk17 rfl dX6_end_10 ?_
    refine lv_icmp_ge (tgt := 18) hx hb dX6_end_13 (by decide) (fun c_2 => ?_) (fun c_2 => ?_)
    · skip
      rw [nle (by omega)] at c_2
      have hcd : (pl : Int) ≤ x.toInt ∧ x.toInt ≤ len := by omega
      obtain ⟨j, hj, rfl, hje⟩ := nat_of (x := x) (by omega)
      rw [hje] at hcd
      refine lv_aload_n hx hb dX6_end_18 rfl (lv_at hl 0 rfl) ?_
      refine lv_iload_n hx hb dX6_end_19 rfl (lv_at hl 1 rfl) ?_
      refine r_put C hw in_X6 tyX6_ok nmX6 0 rfl rfl 1 (by decide) lk13 rfl rfl rfl (Nat.le_of_ble_eq_true rfl) (ws' := [(sb, .inr (6, [.ref tp, .int (nI j), .int (nI pl), .ref al, .int (nI dec), .ref r, .ref k, .ref k2, .ref v, .ref v2]))]) rfl dX6_end_20 (fun H locs hw => ?_)
      refine lv_iload_n hx hb dX6_end_23 rfl (lv_at hl 1 rfl) ?_
      exact r_iret C hw (Nat.le_refl _) (Nat.le_refl _) (⟨by unfold endC; rw [hje, if_pos hcd]; simp only [Int.toNat_natCast]; rfl, by unfold endC; rw [hje, if_pos hcd]; simp only [Int.toNat_natCast]; rfl⟩) dX6_end_24
    · skip
      rw [nle (by omega)] at c_2
      refine lv_iconst (v := (-1)) hx hb dX6_end_16 (by decide) ?_
      exact r_iret C hw (Nat.le_refl _) (Nat.le_refl _) (⟨by unfold endC; rw [if_neg (by omega)]; rfl, by unfold endC; rw [if_neg (by omega)]; rfl⟩) dX6_end_17
abbrev rm_c_set : Room := { frames := 0, cells := 0, slots := 0, locals := 0 }
set_option maxHeartbeats 4000000 in
set_option maxRecDepth 100000 in
theorem c_set (l : Launch) (g : GT) (sz : Nat) (sb tp len pl al dec r k k2 v v2 : Nat) (x : Int32) (b_ : Nat) (T : Nat → Nat) (h1 : pl ≤ len) (h2 : len ≤ 4000) (h3 : b_ < 2 ^ 32) : CtI l g yX6_set wsX6_set rm_c_set [.ref sb, .int x, .int (nI b_)] [(sb, .inr (6, [.ref tp, .int (nI len), .int (nI pl), .ref al, .int (nI dec), .ref r, .ref k, .ref k2, .ref v, .ref v2])), (tp, aI g 4000 (fun j => nI (T j)))] sz (fun _ => True) (fun rr u => rr = optI ((setC x pl len).map T) ∧ u = [(sb, .inr (6, [.ref tp, .int (nI len), .int (nI pl), .ref al, .int (nI dec), .ref r, .ref k, .ref k2, .ref v, .ref v2])), (tp, aI g 4000 (fun j => nI (setT T (setC x pl len) (b_ % 256) j)))]) (0) (0) := by
  refine ct_body (cc := cX6_set) (nL := 4) (ret := (some .int)) (by decide) rfl (Nat.le_of_ble_eq_true rfl) ?_
  intro p e s m below meth c ls C hin hsz hB hw hl
  obtain ⟨hx, hb, hml, hown, hts, hK, hA, hr, hlk⟩ := id C
  have lk9 := hts (.fieldLink RX6 9 "SoundBench" "tape" "[I") (by decide +kernel)
  have lk13 := hts (.fieldLink RX6 13 "SoundBench" "length" "I") (by decide +kernel)
  have lk17 := hts (.fieldLink RX6 17 "SoundBench" "place" "I") (by decide +kernel)
  have in_X6 : ∀ w ∈ wsX60, w ∈ wsX6_set := by unfold wsX6_set; intro w h; simp only [List.mem_cons, List.mem_append, h, or_true, true_or]
  have hl : lv_has ls 4 [(0, .ref sb), (1, .int x), (2, .int (nI b_))] := hl
  have hw : Wd g (va_A [(sb, .inr (6, [.ref tp, .int (nI len), .int (nI pl), .ref al, .int (nI dec), .ref r, .ref k, .ref k2, .ref v, .ref v2])), (tp, aI g 4000 (fun j => nI (T j)))] sz) s.heap [(sb, .inr (6, [.ref tp, .int (nI len), .int (nI pl), .ref al, .int (nI dec), .ref r, .ref k, .ref k2, .ref v, .ref v2])), (tp, aI g 4000 (fun j => nI (T j)))] s.heap [] := hw
  refine lv_iload_n hx hb dX6_set_0 rfl (lv_at hl 1 rfl) ?_
  refine lv_aload_n hx hb dX6_set_1 rfl (lv_at hl 0 rfl) ?_
  refine r_get C hw in_X6 0 rfl rfl 2 (by decide) lk17 rfl dX6_set_2 ?_
  refine lv_icmp_lt (tgt := 16) hx hb dX6_set_5 (by decide) (fun c_1 => ?_) (fun c_1 => ?_)
  · skip
    rw [ltn (by omega)] at c_1
    refine lv_iconst (v := (-1)) hx hb dX6_set_16 (by decide) ?_
    exact r_iret C hw (Nat.le_refl _) (Nat.le_refl _) (⟨by unfold setC; rw [if_neg (by omega)]; rfl, by unfold setC; rw [if_neg (by omega)]; rfl⟩) dX6_set_17
  · skip
    rw [ltn (by omega)] at c_1
    refine lv_iload_n hx hb dX6_set_8 rfl (lv_at hl 1 rfl) ?_
    refine lv_aload_n hx hb dX6_set_9 rfl (lv_at hl 0 rfl) ?_
    refine r_get C hw in_X6 0 rfl rfl 1 (by decide) lk13 rfl dX6_set_10 ?_
    refine lv_icmp_lt (tgt := 18) hx hb dX6_set_13 (by decide) (fun c_2 => ?_) (fun c_2 => ?_)
    · skip
      rw [ltn (by omega)] at c_2
      have hcd : (pl : Int) ≤ x.toInt ∧ x.toInt < len := by omega
      obtain ⟨ji, hj, rfl, hje⟩ := nat_of (x := x) (by omega)
      rw [hje] at hcd
      refine lv_aload_n hx hb dX6_set_18 rfl (lv_at hl 0 rfl) ?_
      refine r_get C hw in_X6 0 rfl rfl 0 (by decide) lk9 rfl dX6_set_19 ?_
      refine lv_iload_n hx hb dX6_set_22 rfl (lv_at hl 1 rfl) ?_
      refine r_iald C hw 1 rfl (by omega) (by omega) dX6_set_23 ?_
      refine lv_istore_n (lv' := [(3, .int (nI (T ji))), (0, .ref sb), (1, .int (nI ji)), (2, .int (nI b_))]) hx hb dX6_set_24 rfl hl (by decide) rfl (fun ls hl => ?_)
      refine lv_aload_n hx hb dX6_set_25 rfl (lv_at hl 1 rfl) ?_
      refine r_get C hw in_X6 0 rfl rfl 0 (by decide) lk9 rfl dX6_set_26 ?_
      refine lv_iload_n hx hb dX6_set_29 rfl (lv_at hl 2 rfl) ?_
      refine lv_iload_n hx hb dX6_set_30 rfl (lv_at hl 3 rfl) ?_
      refine lv_sipush (v := nI 255) hx hb dX6_set_31 (by decide) ?_
      refine n_and (d := 256) hx hb 8 (by decide) (by decide) (by omega) (by omega) dX6_set_34 ?_
      refine r_iast C hw 1 rfl (by omega) (by omega) (ws' := [(sb, .inr (6, [.ref tp, .int (nI len), .int (nI pl), .ref al, .int (nI dec), .ref r, .ref k, .ref k2, .ref v, .ref v2])), (tp, aI g 4000 (upd (fun j => nI (T j)) ji (nI (b_ % 256))))]) rfl dX6_set_35 (fun H locs hw => ?_)
      rw [updN_I] at hw
      have hw : Wd g (va_A [(sb, .inr (6, [.ref tp, .int (nI len), .int (nI pl), .ref al, .int (nI dec), .ref r, .ref k, .ref k2, .ref v, .ref v2])), (tp, aI g 4000 (fun j => nI (T j)))] sz) s.heap [(sb, .inr (6, [.ref tp, .int (nI len), .int (nI pl), .ref al, .int (nI dec), .ref r, .ref k, .ref k2, .ref v, .ref v2])), (tp, aI g 4000 (fun j => nI (updN T ji (b_ % 256) j)))] H locs := hw
      refine lv_iload_n hx hb dX6_set_36 rfl (lv_at hl 0 rfl) ?_
      exact r_iret C hw (Nat.le_refl _) (Nat.le_refl _) (⟨by unfold setC; rw [hje, if_pos hcd]; simp only [Int.toNat_natCast]; rfl, by unfold setC; rw [hje, if_pos hcd]; simp only [Int.toNat_natCast]; rfl⟩) dX6_set_37
    · skip
      rw [ltn (by omega)] at c_2
      refine lv_iconst (v := (-1)) hx hb dX6_set_16 (by decide) ?_
      exact r_iret C hw (Nat.le_refl _) (Nat.le_refl _) (⟨by unfold setC; rw [if_neg (by omega)]; rfl, by unfold setC; rw [if_neg (by omega)]; rfl⟩) dX6_set_17
abbrev rm_c_wordAt : Room := { frames := 0, cells := 0, slots := 0, locals := 0 }
set_option maxHeartbeats 4000000 in
set_option maxRecDepth 100000 in
theorem c_wordAt (l : Launch) (g : GT) (sz : Nat) (sb tp len pl al dec r k k2 v v2 : Nat) (at_ : Nat) (T : Nat → Nat) (hT : ∀ j, T j < 256) (h1 : pl ≤ len) (h2 : len ≤ 4000) (h3 : at_ + 4 ≤ len) : CtI l g yX6_wordAt wsX6_wordAt rm_c_wordAt [.ref sb, .int (nI at_)] [(sb, .inr (6, [.ref tp, .int (nI len), .int (nI pl), .ref al, .int (nI dec), .ref r, .ref k, .ref k2, .ref v, .ref v2])), (tp, aI g 4000 (fun j => nI (T j)))] sz (fun _ => True) (fun rr u => rr = nI (wdS T at_) ∧ u = [(sb, .inr (6, [.ref tp, .int (nI len), .int (nI pl), .ref al, .int (nI dec), .ref r, .ref k, .ref k2, .ref v, .ref v2])), (tp, aI g 4000 (fun j => nI (T j)))]) (0) (0) := by
  refine ct_body (cc := cX6_wordAt) (nL := 2) (ret := (some .int)) (by decide) rfl (Nat.le_of_ble_eq_true rfl) ?_
  intro p e s m below meth c ls C hin hsz hB hw hl
  obtain ⟨hx, hb, hml, hown, hts, hK, hA, hr, hlk⟩ := id C
  have lk9 := hts (.fieldLink RX6 9 "SoundBench" "tape" "[I") (by decide +kernel)
  have lk13 := hts (.fieldLink RX6 13 "SoundBench" "length" "I") (by decide +kernel)
  have in_X6 : ∀ w ∈ wsX60, w ∈ wsX6_wordAt := by unfold wsX6_wordAt; intro w h; simp only [List.mem_cons, List.mem_append, h, or_true, true_or]
  have hl : lv_has ls 2 [(0, .ref sb), (1, .int (nI at_))] := hl
  have hw : Wd g (va_A [(sb, .inr (6, [.ref tp, .int (nI len), .int (nI pl), .ref al, .int (nI dec), .ref r, .ref k, .ref k2, .ref v, .ref v2])), (tp, aI g 4000 (fun j => nI (T j)))] sz) s.heap [(sb, .inr (6, [.ref tp, .int (nI len), .int (nI pl), .ref al, .int (nI dec), .ref r, .ref k, .ref k2, .ref v, .ref v2])), (tp, aI g 4000 (fun j => nI (T j)))] s.heap [] := hw
  have t0 := hT at_
  have t1 := hT (at_ + 1)
  have t2 := hT (at_ + 2)
  have t3 := hT (at_ + 3)
  refine lv_iload_n hx hb dX6_wordAt_0 rfl (lv_at hl 1 rfl) ?_
  refine n_lt0 (tgt := 14) hx hb (by omega) dX6_wordAt_1 (by decide) ?_
  refine lv_iload_n hx hb dX6_wordAt_4 rfl (lv_at hl 1 rfl) ?_
  refine lv_iconst (v := nI 4) hx hb dX6_wordAt_5 (by decide) ?_
  refine n_add hx hb dX6_wordAt_6 ?_
  refine lv_aload_n hx hb dX6_wordAt_7 rfl (lv_at hl 0 rfl) ?_
  refine r_get C hw in_X6 0 rfl rfl 1 (by decide) lk13 rfl dX6_wordAt_8 ?_
  refine n_cle (tgt := 16) hx hb (by omega) (by omega) dX6_wordAt_11 (by decide) (fun c_2 => ?_) (fun c_2 => ?_)
  · skip
    refine lv_aload_n hx hb dX6_wordAt_16 rfl (lv_at hl 0 rfl) ?_
    refine r_get C hw in_X6 0 rfl rfl 0 (by decide) lk9 rfl dX6_wordAt_17 ?_
    refine lv_iload_n hx hb dX6_wordAt_20 rfl (lv_at hl 1 rfl) ?_
    refine r_iald C hw 1 rfl (by omega) (by omega) dX6_wordAt_21 ?_
    refine lv_bipush (v := nI 24) hx hb dX6_wordAt_22 (by decide) ?_
    refine n_shl (d := 16777216) hx hb (by decide) (by omega) (by omega) dX6_wordAt_24 ?_
    refine lv_aload_n hx hb dX6_wordAt_25 rfl (lv_at hl 0 rfl) ?_
    refine r_get C hw in_X6 0 rfl rfl 0 (by decide) lk9 rfl dX6_wordAt_26 ?_
    refine lv_iload_n hx hb dX6_wordAt_29 rfl (lv_at hl 1 rfl) ?_
    refine lv_iconst (v := nI 1) hx hb dX6_wordAt_30 (by decide) ?_
    refine n_add hx hb dX6_wordAt_31 ?_
    refine r_iald C hw 1 rfl (by omega) (by omega) dX6_wordAt_32 ?_
    refine lv_bipush (v := nI 16) hx hb dX6_wordAt_33 (by decide) ?_
    refine n_shl (d := 65536) hx hb (by decide) (by omega) (by omega) dX6_wordAt_35 ?_
    refine lv_ior hx hb dX6_wordAt_36 ?_
    refine lv_aload_n hx hb dX6_wordAt_37 rfl (lv_at hl 0 rfl) ?_
    refine r_get C hw in_X6 0 rfl rfl 0 (by decide) lk9 rfl dX6_wordAt_38 ?_
    refine lv_iload_n hx hb dX6_wordAt_41 rfl (lv_at hl 1 rfl) ?_
    refine lv_iconst (v := nI 2) hx hb dX6_wordAt_42 (by decide) ?_
    refine n_add hx hb dX6_wordAt_43 ?_
    refine r_iald C hw 1 rfl (by omega) (by omega) dX6_wordAt_44 ?_
    refine lv_bipush (v := nI 8) hx hb dX6_wordAt_45 (by decide) ?_
    refine n_shl (d := 256) hx hb (by decide) (by omega) (by omega) dX6_wordAt_47 ?_
    refine lv_ior hx hb dX6_wordAt_48 ?_
    refine lv_aload_n hx hb dX6_wordAt_49 rfl (lv_at hl 0 rfl) ?_
    refine r_get C hw in_X6 0 rfl rfl 0 (by decide) lk9 rfl dX6_wordAt_50 ?_
    refine lv_iload_n hx hb dX6_wordAt_53 rfl (lv_at hl 1 rfl) ?_
    refine lv_iconst (v := nI 3) hx hb dX6_wordAt_54 (by decide) ?_
    refine n_add hx hb dX6_wordAt_55 ?_
    refine r_iald C hw 1 rfl (by omega) (by omega) dX6_wordAt_56 ?_
    refine lv_ior hx hb dX6_wordAt_57 ?_
    exact r_iret C hw (Nat.le_refl _) (Nat.le_refl _) (⟨wd_or t1 t2 t3, rfl⟩) dX6_wordAt_58
  · skip
    exfalso; omega
abbrev rm_c_findHeader : Room := { frames := 3, cells := 0, slots := 0, locals := 64 }
set_option maxHeartbeats 4000000 in
set_option maxRecDepth 100000 in
theorem c_findHeader (l : Launch) (g : GT) (sz : Nat) (tb : Nat → Nat) (sb tp len pl al dec r k k2 v v2 : Nat) (T : Nat → Nat) (hT : ∀ j, T j < 256) (h1 : pl ≤ len) (h2 : len ≤ 4000) : CtI l g yX6_findHeader wsX6_findHeader rm_c_findHeader [.ref sb] [(sb, .inr (6, [.ref tp, .int (nI len), .int (nI pl), .ref al, .int (nI dec), .ref r, .ref k, .ref k2, .ref v, .ref v2])), (tp, aI g 4000 (fun j => nI (T j)))] sz (fun U => Sx tb (va_A [(sb, .inr (6, [.ref tp, .int (nI len), .int (nI pl), .ref al, .int (nI dec), .ref r, .ref k, .ref k2, .ref v, .ref v2])), (tp, aI g 4000 (fun j => nI (T j)))] sz) U U.heap) (fun rr u => rr = (if fndS T pl (len - 3 - pl) + 4 ≤ len then nI (fndS T pl (len - 3 - pl)) else -1) ∧ u = [(sb, .inr (6, [.ref tp, .int (nI len), .int (nI pl), .ref al, .int (nI dec), .ref r, .ref k, .ref k2, .ref v, .ref v2])), (tp, aI g 4000 (fun j => nI (T j)))]) (0) (0) := by
  refine ct_body (cc := cX6_findHeader) (nL := 2) (ret := (some .int)) (by decide) rfl (Nat.le_of_ble_eq_true rfl) ?_
  intro p e s m below meth c ls C hin hsz hB hw hl
  obtain ⟨hx, hb, hml, hown, hts, hK, hA, hr, hlk⟩ := id C
  have lk13 := hts (.fieldLink RX6 13 "SoundBench" "length" "I") (by decide +kernel)
  have lk17 := hts (.fieldLink RX6 17 "SoundBench" "place" "I") (by decide +kernel)
  have in_X6 : ∀ w ∈ wsX60, w ∈ wsX6_findHeader := by unfold wsX6_findHeader; intro w h; simp only [List.mem_cons, List.mem_append, h, or_true, true_or]
  have hl : lv_has ls 2 [(0, .ref sb)] := hl
  have hw : Wd g (va_A [(sb, .inr (6, [.ref tp, .int (nI len), .int (nI pl), .ref al, .int (nI dec), .ref r, .ref k, .ref k2, .ref v, .ref v2])), (tp, aI g 4000 (fun j => nI (T j)))] sz) s.heap [(sb, .inr (6, [.ref tp, .int (nI len), .int (nI pl), .ref al, .int (nI dec), .ref r, .ref k, .ref k2, .ref v, .ref v2])), (tp, aI g 4000 (fun j => nI (T j)))] s.heap [] := hw
  refine lv_aload_n hx hb dX6_findHeader_0 rfl (lv_at hl 0 rfl) ?_
  refine r_get C hw in_X6 0 rfl rfl 2 (by decide) lk17 rfl dX6_findHeader_1 ?_
  refine lv_istore_n (lv' := [(1, .int (nI pl)), (0, .ref sb)]) hx hb dX6_findHeader_4 rfl hl (by decide) rfl (fun ls hl => ?_)
  refine lpw (I := fun i H locs ls => Wd g (va_A [(sb, .inr (6, [.ref tp, .int (nI len), .int (nI pl), .ref al, .int (nI dec), .ref r, .ref k, .ref k2, .ref v, .ref v2])), (tp, aI g 4000 (fun j => nI (T j)))] sz) s.heap [(sb, .inr (6, [.ref tp, .int (nI len), .int (nI pl), .ref al, .int (nI dec), .ref r, .ref k, .ref k2, .ref v, .ref v2])), (tp, aI g 4000 (fun j => nI (T j)))] H locs ∧ lv_has ls 2 [(0, .ref sb), (1, .int (nI (pl + i)))] ∧ ∀ j, j < i → goodS (wdS T (pl + j)) = 0) (len - 3 - pl) ?_ ?_ (0) (by omega) ⟨hw, (lv_sub hl [1, 0] rfl), (fun j hj => by omega)⟩
  · intro H locs ls hI
    obtain ⟨hw, hl, hG⟩ := hI
    refine lv_iload_n hx hb dX6_findHeader_5 rfl (lv_at hl 1 rfl) ?_
    refine lv_iconst (v := nI 4) hx hb dX6_findHeader_6 (by decide) ?_
    refine n_add hx hb dX6_findHeader_7 ?_
    refine lv_aload_n hx hb dX6_findHeader_8 rfl (lv_at hl 0 rfl) ?_
    refine r_get C hw in_X6 0 rfl rfl 1 (by decide) lk13 rfl dX6_findHeader_9 ?_
    refine n_cgt (tgt := 34) hx hb (by omega) (by omega) dX6_findHeader_12 (by decide) (fun c_1 => ?_) (fun c_1 => ?_)
    · skip
      refine lv_iconst (v := (-1)) hx hb dX6_findHeader_34 (by decide) ?_
      exact r_iret C hw (Nat.le_refl _) (Nat.le_refl _) (⟨by rw [fndS_none hG, if_neg (by omega)], rfl⟩) dX6_findHeader_35
    · skip
      exfalso; omega
  · intro i H locs ls hi hI K
    obtain ⟨hw, hl, hG⟩ := hI
    have hwl := wdS_lt hT (pl + i)
    have hgl : goodS (wdS T (pl + i)) ≤ 1 := by unfold goodS; (repeat' split) <;> first | omega | exact suit_le _ _
    refine lv_iload_n hx hb dX6_findHeader_5 rfl (lv_at hl 1 rfl) ?_
    refine lv_iconst (v := nI 4) hx hb dX6_findHeader_6 (by decide) ?_
    refine n_add hx hb dX6_findHeader_7 ?_
    refine lv_aload_n hx hb dX6_findHeader_8 rfl (lv_at hl 0 rfl) ?_
    refine r_get C hw in_X6 0 rfl rfl 1 (by decide) lk13 rfl dX6_findHeader_9 ?_
    refine n_cgt (tgt := 34) hx hb (by omega) (by omega) dX6_findHeader_12 (by decide) (fun c_2 => ?_) (fun c_2 => ?_)
    · skip
      exfalso; omega
    · skip
      refine lv_aload_n hx hb dX6_findHeader_15 rfl (lv_at hl 0 rfl) ?_
      refine lv_iload_n hx hb dX6_findHeader_16 rfl (lv_at hl 1 rfl) ?_
      refine k_Vi (As := [.int (nI (pl + i))]) (rest := []) (wr := []) C hw (c_wordAt l g _ sb tp len pl al dec r k k2 v v2 (pl + i) T hT h1 h2 (by omega)) (cwV 1 hts gX6_findHeader_X6_wordAt rfl rfl rfl (by decide +kernel) ⟨Nat.le_of_ble_eq_true rfl, Nat.le_of_ble_eq_true rfl⟩) bl_T (fun _ _ _ => trivial) [0, 1] [] (by decide) rfl rfl (by decide) (by decide) 0 rfl rfl rfl hl.1 rfl (Nat.le_of_ble_eq_true rfl) dX6_findHeader_17 ⟨Nat.le_of_ble_eq_true rfl, Nat.le_of_ble_eq_true rfl⟩ (fun r_3 u H locs hp hw => ?_)
      obtain ⟨rfl, rfl⟩ := hp
      have hw := Wd.sub (ws' := [(sb, .inr (6, [.ref tp, .int (nI len), .int (nI pl), .ref al, .int (nI dec), .ref r, .ref k, .ref k2, .ref v, .ref v2])), (tp, aI g 4000 (fun j => nI (T j)))]) hw [0, 1] (by decide) rfl
      refine k_Si (As := [.int (nI (wdS T (pl + i)))]) (rest := []) (wr := [(sb, .inr (6, [.ref tp, .int (nI len), .int (nI pl), .ref al, .int (nI dec), .ref r, .ref k, .ref k2, .ref v, .ref v2])), (tp, aI g 4000 (fun j => nI (T j)))]) C hw (c_isGood l g _ tb (wdS T (pl + i)) hwl) (va_cwS 1 hts gX6_findHeader_X2_isGood rfl rfl rfl (by decide +kernel) ⟨Nat.le_of_ble_eq_true rfl, Nat.le_of_ble_eq_true rfl⟩) sx_bl (sx_call C hw hB [] rfl) [] [0, 1] (by decide) rfl rfl (by decide) (by decide) rfl hl.1 rfl (Nat.le_of_ble_eq_true rfl) dX6_findHeader_20 ⟨Nat.le_of_ble_eq_true rfl, Nat.le_of_ble_eq_true rfl⟩ (fun r_4 u H locs hp hw => ?_)
      obtain ⟨rfl, rfl⟩ := hp
      have hw := Wd.sub (ws' := [(sb, .inr (6, [.ref tp, .int (nI len), .int (nI pl), .ref al, .int (nI dec), .ref r, .ref k, .ref k2, .ref v, .ref v2])), (tp, aI g 4000 (fun j => nI (T j)))]) hw [0, 1] (by decide) rfl
      refine n_eq0 (tgt := 28) hx hb (by omega) dX6_findHeader_23 (by decide) (fun c_z => ?_) (fun c_z => ?_)
      · skip
        refine lv_iinc (v := (nI (pl + i + 1))) (lv' := [(1, .int (nI (pl + i + 1))), (0, .ref sb)]) hx hb dX6_findHeader_28 hl (k := 1) rfl (nI_add _ _) (by decide) rfl (fun ls hl => ?_)
        refine lv_goto (tgt := 5) hx hb dX6_findHeader_31 (by decide) ?_
        exact K _ _ _ ⟨hw, (lv_sub hl [1, 0] rfl), (lt_s hG c_z)⟩
      · skip
        refine lv_iload_n hx hb dX6_findHeader_26 rfl (lv_at hl 1 rfl) ?_
        exact r_iret C hw (Nat.le_refl _) (Nat.le_refl _) (⟨by rw [fndS_skip (Nat.le_of_lt hi) hG, fndS_hit (by omega) (by omega), if_pos (by omega)], rfl⟩) dX6_findHeader_27
