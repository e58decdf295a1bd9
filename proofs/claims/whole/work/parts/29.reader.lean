abbrev rm_c_takeFactor : Room := { frames := 1, cells := 0, slots := 0, locals := 24 }
set_option maxHeartbeats 4000000 in
set_option maxRecDepth 100000 in
theorem c_takeFactor (l : Launch) (g : GT) (sz : Nat) (r o sl co_ tp n fb lim : Nat) (T : Nat → Nat) (x0 : Nat × Nat × Nat) (hT : ∀ j, T j < 256) (hn : n < 2 ^ 27) (hl1 : 8 * fb + lim ≤ 8 * n) (hj : jR lim x0) : CtI l g yX3_takeFactor wsX3_takeFactor rm_c_takeFactor [.ref r] [(r, .inr (3, [.ref o, .ref sl, .ref co_, .int (nI x0.2.2)])), (o, .inr (0, [.ref tp, .int (nI fb), .int (nI lim), .int (nI x0.1), .int (nI x0.2.1)])), (tp, aI g n (fun j => nI (T j)))] sz (fun _ => True) (fun rr u => rr = nI (faV T (8 * fb) lim x0) ∧ u = [(r, .inr (3, [.ref o, .ref sl, .ref co_, .int (nI ((fa1 T (8 * fb) lim x0).2.2))])), (o, .inr (0, [.ref tp, .int (nI fb), .int (nI lim), .int (nI ((fa1 T (8 * fb) lim x0).1)), .int (nI ((fa1 T (8 * fb) lim x0).2.1))])), (tp, aI g n (fun j => nI (T j)))]) (0) (0) := by
  refine ct_body (cc := cX3_takeFactor) (nL := 2) (ret := (some .int)) (by decide) rfl (Nat.le_of_ble_eq_true rfl) ?_
  intro p e s m below meth c ls C hin hsz hB hw hl
  obtain ⟨hx, hb, hml, hown, hts, hK, hA, hr, hlk⟩ := id C
  have lk12 := hts (.fieldLink RX3 12 "SoundBench$FrameReader" "bits" "LSoundBench$Bits;") (by decide +kernel)
  have lk38 := hts (.fieldLink RX3 38 "SoundBench$FrameReader" "bad" "Z") (by decide +kernel)
  have in_X3 : ∀ w ∈ wsX30, w ∈ wsX3_takeFactor := by unfold wsX3_takeFactor; intro w h; simp only [List.mem_cons, List.mem_append, h, or_true, true_or]
  have hl : lv_has ls 2 [(0, .ref r)] := hl
  have hw : Wd g (va_A [(r, .inr (3, [.ref o, .ref sl, .ref co_, .int (nI x0.2.2)])), (o, .inr (0, [.ref tp, .int (nI fb), .int (nI lim), .int (nI x0.1), .int (nI x0.2.1)])), (tp, aI g n (fun j => nI (T j)))] sz) s.heap [(r, .inr (3, [.ref o, .ref sl, .ref co_, .int (nI x0.2.2)])), (o, .inr (0, [.ref tp, .int (nI fb), .int (nI lim), .int (nI x0.1), .int (nI x0.2.1)])), (tp, aI g n (fun j => nI (T j)))] s.heap [] := hw
  have hv := tkV_lt T (8 * fb) lim x0.1 6
  refine lv_aload_n hx hb dX3_takeFactor_0 rfl (lv_at hl 0 rfl) ?_
  refine r_get C hw in_X3 0 rfl rfl 0 (by decide) lk12 rfl dX3_takeFactor_1 ?_
  refine lv_bipush (v := nI 6) hx hb dX3_takeFactor_4 (by decide) ?_
  refine k_Vi (As := [.int (nI 6)]) (rest := []) (wr := [(r, .inr (3, [.ref o, .ref sl, .ref co_, .int (nI x0.2.2)]))]) C hw (c_take l g _ o tp n fb lim x0.1 x0.2.1 6 T hT hn hl1 hj.1 (by omega)) (cwV 1 hts gX3_takeFactor_X0_take rfl rfl rfl (by decide +kernel) ⟨Nat.le_of_ble_eq_true rfl, Nat.le_of_ble_eq_true rfl⟩) bl_T (fun _ _ _ => trivial) [1, 2] [0] (by decide) rfl rfl (by decide) (by decide) 1 rfl rfl rfl hl.1 rfl (Nat.le_of_ble_eq_true rfl) dX3_takeFactor_6 ⟨Nat.le_of_ble_eq_true rfl, Nat.le_of_ble_eq_true rfl⟩ (fun r_1 u H locs hp hw => ?_)
  obtain ⟨rfl, rfl⟩ := hp
  have hw := Wd.sub (ws' := [(r, .inr (3, [.ref o, .ref sl, .ref co_, .int (nI x0.2.2)])), (o, .inr (0, [.ref tp, .int (nI fb), .int (nI lim), .int (nI (tkP lim x0.1 6)), .int (nI (tkB lim x0.1 6 x0.2.1))])), (tp, aI g n (fun j => nI (T j)))]) hw [0, 1, 2] (by decide) rfl
  refine lv_istore_n (lv' := [(1, .int (nI (tkV T (8 * fb) lim x0.1 6))), (0, .ref r)]) hx hb dX3_takeFactor_9 rfl hl (by decide) rfl (fun ls hl => ?_)
  refine lv_iload_n hx hb dX3_takeFactor_10 rfl (lv_at hl 0 rfl) ?_
  refine lv_bipush (v := nI 63) hx hb dX3_takeFactor_11 (by decide) ?_
  refine n_cne (tgt := 21) hx hb (by omega) (by omega) dX3_takeFactor_13 (by decide) (fun c_e => ?_) (fun c_e => ?_)
  · skip
    refine lv_iload_n hx hb dX3_takeFactor_21 rfl (lv_at hl 0 rfl) ?_
    exact r_iret C hw (Nat.le_refl _) (Nat.le_refl _) (⟨rfl, by unfold fa1; first | rw [if_pos c_e] | rw [if_neg c_e]⟩) dX3_takeFactor_22
  · skip
    refine lv_aload_n hx hb dX3_takeFactor_16 rfl (lv_at hl 1 rfl) ?_
    refine lv_iconst (v := nI 1) hx hb dX3_takeFactor_17 (by decide) ?_
    refine r_put C hw in_X3 tyX3_ok nmX3 0 rfl rfl 3 (by decide) lk38 rfl (by decide) (by decide) (Nat.le_of_ble_eq_true rfl) (ws' := [(r, .inr (3, [.ref o, .ref sl, .ref co_, .int (nI 1)])), (o, .inr (0, [.ref tp, .int (nI fb), .int (nI lim), .int (nI (tkP lim x0.1 6)), .int (nI (tkB lim x0.1 6 x0.2.1))])), (tp, aI g n (fun j => nI (T j)))]) rfl dX3_takeFactor_18 (fun H locs hw => ?_)
    refine lv_iload_n hx hb dX3_takeFactor_21 rfl (lv_at hl 0 rfl) ?_
    exact r_iret C hw (Nat.le_refl _) (Nat.le_refl _) (⟨rfl, by unfold fa1; first | rw [if_pos c_e] | rw [if_neg c_e]⟩) dX3_takeFactor_22
abbrev rm_c_takeThirds : Room := { frames := 2, cells := 0, slots := 0, locals := 45 }
set_option maxHeartbeats 4000000 in
set_option maxRecDepth 100000 in
theorem c_takeThirds (l : Launch) (g : GT) (sz : Nat) (r o sl co_ tp n fb lim : Nat) (T : Nat → Nat) (kf at_ sel : Nat) (fa : Nat → Nat) (x0 : Nat × Nat × Nat) (hT : ∀ j, T j < 256) (hn : n < 2 ^ 27) (hl1 : 8 * fb + lim ≤ 8 * n) (hj : jR lim x0) (h1 : at_ + 2 < 192) (hs : sel ≤ 3) : CtV l g yX3_takeThirds wsX3_takeThirds rm_c_takeThirds [.ref r, .int (nI sel), .ref kf, .int (nI at_)] [(r, .inr (3, [.ref o, .ref sl, .ref co_, .int (nI x0.2.2)])), (o, .inr (0, [.ref tp, .int (nI fb), .int (nI lim), .int (nI x0.1), .int (nI x0.2.1)])), (tp, aI g n (fun j => nI (T j))), (kf, aI g 192 (fun j => nI (fa j)))] sz (fun _ => True) (fun u => u = [(r, .inr (3, [.ref o, .ref sl, .ref co_, .int (nI ((thX T (8 * fb) lim sel x0).1.2.2))])), (o, .inr (0, [.ref tp, .int (nI fb), .int (nI lim), .int (nI ((thX T (8 * fb) lim sel x0).1.1)), .int (nI ((thX T (8 * fb) lim sel x0).1.2.1))])), (tp, aI g n (fun j => nI (T j))), (kf, aI g 192 (fun j => nI (put3 fa at_ (thX T (8 * fb) lim sel x0).2.1 (thX T (8 * fb) lim sel x0).2.2.1 (thX T (8 * fb) lim sel x0).2.2.2 j)))]) (0) (0) := by
  refine ct_body (cc := cX3_takeThirds) (nL := 6) (ret := none) (by decide) rfl (Nat.le_of_ble_eq_true rfl) ?_
  intro p e s m below meth c ls C hin hsz hB hw hl
  obtain ⟨hx, hb, hml, hown, hts, hK, hA, hr, hlk⟩ := id C
  have hl : lv_has ls 6 [(0, .ref r), (1, .int (nI sel)), (2, .ref kf), (3, .int (nI at_))] := hl
  have hw : Wd g (va_A [(r, .inr (3, [.ref o, .ref sl, .ref co_, .int (nI x0.2.2)])), (o, .inr (0, [.ref tp, .int (nI fb), .int (nI lim), .int (nI x0.1), .int (nI x0.2.1)])), (tp, aI g n (fun j => nI (T j))), (kf, aI g 192 (fun j => nI (fa j)))] sz) s.heap [(r, .inr (3, [.ref o, .ref sl, .ref co_, .int (nI x0.2.2)])), (o, .inr (0, [.ref tp, .int (nI fb), .int (nI lim), .int (nI x0.1), .int (nI x0.2.1)])), (tp, aI g n (fun j => nI (T j))), (kf, aI g 192 (fun j => nI (fa j)))] s.heap [] := hw
  refine lv_iload_n hx hb dX3_takeThirds_0 rfl (lv_at hl 3 rfl) ?_
  refine n_lt0 (tgt := 12) hx hb (by omega) dX3_takeThirds_1 (by decide) ?_
  refine lv_iload_n hx hb dX3_takeThirds_4 rfl (lv_at hl 3 rfl) ?_
  refine lv_iconst (v := nI 2) hx hb dX3_takeThirds_5 (by decide) ?_
  refine n_add hx hb dX3_takeThirds_6 ?_
  refine lv_aload_n hx hb dX3_takeThirds_7 rfl (lv_at hl 2 rfl) ?_
  refine r_alen C hw 3 0 rfl rfl rfl dX3_takeThirds_8 ?_
  refine n_clt (tgt := 13) hx hb (by omega) (by omega) dX3_takeThirds_9 (by decide) (fun c_2 => ?_) (fun c_2 => ?_)
  · skip
    refine lv_aload_n hx hb dX3_takeThirds_13 rfl (lv_at hl 2 rfl) ?_
    refine lv_iload_n hx hb dX3_takeThirds_14 rfl (lv_at hl 3 rfl) ?_
    refine lv_aload_n hx hb dX3_takeThirds_15 rfl (lv_at hl 0 rfl) ?_
    refine k_Vi (As := []) (rest := [.int (nI at_), .ref kf]) (wr := [(kf, aI g 192 (fun j => nI (fa j)))]) C hw (c_takeFactor l g _ r o sl co_ tp n fb lim T x0 hT hn hl1 hj) (cwV 0 hts gX3_takeThirds_X3_takeFactor rfl rfl rfl (by decide +kernel) ⟨Nat.le_of_ble_eq_true rfl, Nat.le_of_ble_eq_true rfl⟩) bl_T (fun _ _ _ => trivial) [0, 1, 2] [3] (by decide) rfl rfl (by decide) (by decide) 0 rfl rfl rfl hl.1 rfl (Nat.le_of_ble_eq_true rfl) dX3_takeThirds_16 ⟨Nat.le_of_ble_eq_true rfl, Nat.le_of_ble_eq_true rfl⟩ (fun r_3 u H locs hp hw => ?_)
    obtain ⟨rfl, rfl⟩ := hp
    have hw := Wd.sub (ws' := [(r, .inr (3, [.ref o, .ref sl, .ref co_, .int (nI ((fa1 T (8 * fb) lim x0).2.2))])), (o, .inr (0, [.ref tp, .int (nI fb), .int (nI lim), .int (nI ((fa1 T (8 * fb) lim x0).1)), .int (nI ((fa1 T (8 * fb) lim x0).2.1))])), (tp, aI g n (fun j => nI (T j))), (kf, aI g 192 (fun j => nI (fa j)))]) hw [1, 2, 3, 0] (by decide) rfl
    refine r_iast C hw 3 rfl (by omega) (by omega) (ws' := [(r, .inr (3, [.ref o, .ref sl, .ref co_, .int (nI ((fa1 T (8 * fb) lim x0).2.2))])), (o, .inr (0, [.ref tp, .int (nI fb), .int (nI lim), .int (nI ((fa1 T (8 * fb) lim x0).1)), .int (nI ((fa1 T (8 * fb) lim x0).2.1))])), (tp, aI g n (fun j => nI (T j))), (kf, aI g 192 (upd (fun j => nI (fa j)) at_ (nI (faV T (8 * fb) lim x0))))]) rfl dX3_takeThirds_19 (fun H locs hw => ?_)
    rw [updN_I] at hw
    have hw : Wd g (va_A [(r, .inr (3, [.ref o, .ref sl, .ref co_, .int (nI x0.2.2)])), (o, .inr (0, [.ref tp, .int (nI fb), .int (nI lim), .int (nI x0.1), .int (nI x0.2.1)])), (tp, aI g n (fun j => nI (T j))), (kf, aI g 192 (fun j => nI (fa j)))] sz) s.heap [(r, .inr (3, [.ref o, .ref sl, .ref co_, .int (nI ((fa1 T (8 * fb) lim x0).2.2))])), (o, .inr (0, [.ref tp, .int (nI fb), .int (nI lim), .int (nI ((fa1 T (8 * fb) lim x0).1)), .int (nI ((fa1 T (8 * fb) lim x0).2.1))])), (tp, aI g n (fun j => nI (T j))), (kf, aI g 192 (fun j => nI (updN fa at_ (faV T (8 * fb) lim x0) j)))] H locs := hw
    refine lv_iload_n hx hb dX3_takeThirds_20 rfl (lv_at hl 1 rfl) ?_
    refine n_eq0 (tgt := 29) hx hb (by omega) dX3_takeThirds_21 (by decide) (fun c_4 => ?_) (fun c_4 => ?_)
    · skip
      refine lv_iconst (v := nI 1) hx hb dX3_takeThirds_29 (by decide) ?_
      refine lv_goto (tgt := 34) hx hb dX3_takeThirds_30 (by decide) ?_
      refine lv_istore (lv' := [(4, .int (nI 1)), (0, .ref r), (1, .int (nI sel)), (2, .ref kf), (3, .int (nI at_))]) hx hb dX3_takeThirds_34 hl (by decide) rfl (fun ls hl => ?_)
      refine lv_aload_n hx hb dX3_takeThirds_36 rfl (lv_at hl 3 rfl) ?_
      refine lv_iload_n hx hb dX3_takeThirds_37 rfl (lv_at hl 4 rfl) ?_
      refine lv_iconst (v := nI 1) hx hb dX3_takeThirds_38 (by decide) ?_
      refine n_add hx hb dX3_takeThirds_39 ?_
      refine lv_iload hx hb dX3_takeThirds_40 (lv_at hl 0 rfl) ?_
      refine lv_if_eq (tgt := 52) hx hb dX3_takeThirds_42 (by decide) (fun c_5 => ?_) (fun c_5 => ?_)
      · exact absurd c_5 (by decide)
      refine lv_aload_n hx hb dX3_takeThirds_45 rfl (lv_at hl 1 rfl) ?_
      refine k_Vi (As := []) (rest := [.int (nI (at_ + 1)), .ref kf]) (wr := [(kf, aI g 192 (fun j => nI (updN fa at_ (faV T (8 * fb) lim x0) j)))]) C hw (c_takeFactor l g _ r o sl co_ tp n fb lim T (fa1 T (8 * fb) lim x0) hT hn hl1 (fa1_j hj)) (cwV 0 hts gX3_takeThirds_X3_takeFactor rfl rfl rfl (by decide +kernel) ⟨Nat.le_of_ble_eq_true rfl, Nat.le_of_ble_eq_true rfl⟩) bl_T (fun _ _ _ => trivial) [0, 1, 2] [3] (by decide) rfl rfl (by decide) (by decide) 0 rfl rfl rfl hl.1 rfl (Nat.le_of_ble_eq_true rfl) dX3_takeThirds_46 ⟨Nat.le_of_ble_eq_true rfl, Nat.le_of_ble_eq_true rfl⟩ (fun r_6 u H locs hp hw => ?_)
      obtain ⟨rfl, rfl⟩ := hp
      have hw := Wd.sub (ws' := [(r, .inr (3, [.ref o, .ref sl, .ref co_, .int (nI ((fa1 T (8 * fb) lim (fa1 T (8 * fb) lim x0)).2.2))])), (o, .inr (0, [.ref tp, .int (nI fb), .int (nI lim), .int (nI ((fa1 T (8 * fb) lim (fa1 T (8 * fb) lim x0)).1)), .int (nI ((fa1 T (8 * fb) lim (fa1 T (8 * fb) lim x0)).2.1))])), (tp, aI g n (fun j => nI (T j))), (kf, aI g 192 (fun j => nI (updN fa at_ (faV T (8 * fb) lim x0) j)))]) hw [1, 2, 3, 0] (by decide) rfl
      refine lv_goto (tgt := 55) hx hb dX3_takeThirds_49 (by decide) ?_
      refine r_iast C hw 3 rfl (by omega) (by omega) (ws' := [(r, .inr (3, [.ref o, .ref sl, .ref co_, .int (nI ((fa1 T (8 * fb) lim (fa1 T (8 * fb) lim x0)).2.2))])), (o, .inr (0, [.ref tp, .int (nI fb), .int (nI lim), .int (nI ((fa1 T (8 * fb) lim (fa1 T (8 * fb) lim x0)).1)), .int (nI ((fa1 T (8 * fb) lim (fa1 T (8 * fb) lim x0)).2.1))])), (tp, aI g n (fun j => nI (T j))), (kf, aI g 192 (upd (fun j => nI (updN fa at_ (faV T (8 * fb) lim x0) j)) (at_ + 1) (nI (faV T (8 * fb) lim (fa1 T (8 * fb) lim x0)))))]) rfl dX3_takeThirds_55 (fun H locs hw => ?_)
      rw [updN_I] at hw
      have hw : Wd g (va_A [(r, .inr (3, [.ref o, .ref sl, .ref co_, .int (nI x0.2.2)])), (o, .inr (0, [.ref tp, .int (nI fb), .int (nI lim), .int (nI x0.1), .int (nI x0.2.1)])), (tp, aI g n (fun j => nI (T j))), (kf, aI g 192 (fun j => nI (fa j)))] sz) s.heap [(r, .inr (3, [.ref o, .ref sl, .ref co_, .int (nI ((fa1 T (8 * fb) lim (fa1 T (8 * fb) lim x0)).2.2))])), (o, .inr (0, [.ref tp, .int (nI fb), .int (nI lim), .int (nI ((fa1 T (8 * fb) lim (fa1 T (8 * fb) lim x0)).1)), .int (nI ((fa1 T (8 * fb) lim (fa1 T (8 * fb) lim x0)).2.1))])), (tp, aI g n (fun j => nI (T j))), (kf, aI g 192 (fun j => nI (updN (updN fa at_ (faV T (8 * fb) lim x0)) (at_ + 1) (faV T (8 * fb) lim (fa1 T (8 * fb) lim x0)) j)))] H locs := hw
      refine lv_iload_n hx hb dX3_takeThirds_56 rfl (lv_at hl 2 rfl) ?_
      refine n_eq0 (tgt := 65) hx hb (by omega) dX3_takeThirds_57 (by decide) (fun c_7 => ?_) (fun c_7 => ?_)
      · skip
        refine lv_iconst (v := nI 1) hx hb dX3_takeThirds_65 (by decide) ?_
        refine lv_goto (tgt := 70) hx hb dX3_takeThirds_66 (by decide) ?_
        refine lv_istore (lv' := [(5, .int (nI 1)), (4, .int (nI 1)), (0, .ref r), (1, .int (nI sel)), (2, .ref kf), (3, .int (nI at_))]) hx hb dX3_takeThirds_70 hl (by decide) rfl (fun ls hl => ?_)
        refine lv_aload_n hx hb dX3_takeThirds_72 rfl (lv_at hl 4 rfl) ?_
        refine lv_iload_n hx hb dX3_takeThirds_73 rfl (lv_at hl 5 rfl) ?_
        refine lv_iconst (v := nI 2) hx hb dX3_takeThirds_74 (by decide) ?_
        refine n_add hx hb dX3_takeThirds_75 ?_
        refine lv_iload hx hb dX3_takeThirds_76 (lv_at hl 0 rfl) ?_
        refine lv_if_eq (tgt := 88) hx hb dX3_takeThirds_78 (by decide) (fun c_8 => ?_) (fun c_8 => ?_)
        · exact absurd c_8 (by decide)
        refine lv_aload_n hx hb dX3_takeThirds_81 rfl (lv_at hl 2 rfl) ?_
        refine k_Vi (As := []) (rest := [.int (nI (at_ + 2)), .ref kf]) (wr := [(kf, aI g 192 (fun j => nI (updN (updN fa at_ (faV T (8 * fb) lim x0)) (at_ + 1) (faV T (8 * fb) lim (fa1 T (8 * fb) lim x0)) j)))]) C hw (c_takeFactor l g _ r o sl co_ tp n fb lim T (fa1 T (8 * fb) lim (fa1 T (8 * fb) lim x0)) hT hn hl1 (fa1_j (fa1_j hj))) (cwV 0 hts gX3_takeThirds_X3_takeFactor rfl rfl rfl (by decide +kernel) ⟨Nat.le_of_ble_eq_true rfl, Nat.le_of_ble_eq_true rfl⟩) bl_T (fun _ _ _ => trivial) [0, 1, 2] [3] (by decide) rfl rfl (by decide) (by decide) 0 rfl rfl rfl hl.1 rfl (Nat.le_of_ble_eq_true rfl) dX3_takeThirds_82 ⟨Nat.le_of_ble_eq_true rfl, Nat.le_of_ble_eq_true rfl⟩ (fun r_9 u H locs hp hw => ?_)
        obtain ⟨rfl, rfl⟩ := hp
        have hw := Wd.sub (ws' := [(r, .inr (3, [.ref o, .ref sl, .ref co_, .int (nI ((fa1 T (8 * fb) lim (fa1 T (8 * fb) lim (fa1 T (8 * fb) lim x0))).2.2))])), (o, .inr (0, [.ref tp, .int (nI fb), .int (nI lim), .int (nI ((fa1 T (8 * fb) lim (fa1 T (8 * fb) lim (fa1 T (8 * fb) lim x0))).1)), .int (nI ((fa1 T (8 * fb) lim (fa1 T (8 * fb) lim (fa1 T (8 * fb) lim x0))).2.1))])), (tp, aI g n (fun j => nI (T j))), (kf, aI g 192 (fun j => nI (updN (updN fa at_ (faV T (8 * fb) lim x0)) (at_ + 1) (faV T (8 * fb) lim (fa1 T (8 * fb) lim x0)) j)))]) hw [1, 2, 3, 0] (by decide) rfl
        refine lv_goto (tgt := 93) hx hb dX3_takeThirds_85 (by decide) ?_
        refine r_iast C hw 3 rfl (by omega) (by omega) (ws' := [(r, .inr (3, [.ref o, .ref sl, .ref co_, .int (nI ((fa1 T (8 * fb) lim (fa1 T (8 * fb) lim (fa1 T (8 * fb) lim x0))).2.2))])), (o, .inr (0, [.ref tp, .int (nI fb), .int (nI lim), .int (nI ((fa1 T (8 * fb) lim (fa1 T (8 * fb) lim (fa1 T (8 * fb) lim x0))).1)), .int (nI ((fa1 T (8 * fb) lim (fa1 T (8 * fb) lim (fa1 T (8 * fb) lim x0))).2.1))])), (tp, aI g n (fun j => nI (T j))), (kf, aI g 192 (upd (fun j => nI (updN (updN fa at_ (faV T (8 * fb) lim x0)) (at_ + 1) (faV T (8 * fb) lim (fa1 T (8 * fb) lim x0)) j)) (at_ + 2) (nI (faV T (8 * fb) lim (fa1 T (8 * fb) lim (fa1 T (8 * fb) lim x0))))))]) rfl dX3_takeThirds_93 (fun H locs hw => ?_)
        rw [updN_I] at hw
        have hw : Wd g (va_A [(r, .inr (3, [.ref o, .ref sl, .ref co_, .int (nI x0.2.2)])), (o, .inr (0, [.ref tp, .int (nI fb), .int (nI lim), .int (nI x0.1), .int (nI x0.2.1)])), (tp, aI g n (fun j => nI (T j))), (kf, aI g 192 (fun j => nI (fa j)))] sz) s.heap [(r, .inr (3, [.ref o, .ref sl, .ref co_, .int (nI ((fa1 T (8 * fb) lim (fa1 T (8 * fb) lim (fa1 T (8 * fb) lim x0))).2.2))])), (o, .inr (0, [.ref tp, .int (nI fb), .int (nI lim), .int (nI ((fa1 T (8 * fb) lim (fa1 T (8 * fb) lim (fa1 T (8 * fb) lim x0))).1)), .int (nI ((fa1 T (8 * fb) lim (fa1 T (8 * fb) lim (fa1 T (8 * fb) lim x0))).2.1))])), (tp, aI g n (fun j => nI (T j))), (kf, aI g 192 (fun j => nI (updN (updN (updN fa at_ (faV T (8 * fb) lim x0)) (at_ + 1) (faV T (8 * fb) lim (fa1 T (8 * fb) lim x0))) (at_ + 2) (faV T (8 * fb) lim (fa1 T (8 * fb) lim (fa1 T (8 * fb) lim x0))) j)))] H locs := hw
        exact r_vret C hw (Nat.le_refl _) (Nat.le_refl _) (by first | ((obtain rfl : sel = 0 := (by omega)); rfl) | ((obtain rfl : sel = 3 := (by omega)); rfl) | ((obtain rfl : sel = 1 := (by omega)); rfl) | ((obtain rfl : sel = 2 := (by omega)); rfl)) dX3_takeThirds_94
      · skip
        exfalso; omega
    · skip
      refine lv_iload_n hx hb dX3_takeThirds_24 rfl (lv_at hl 1 rfl) ?_
      refine lv_iconst (v := nI 3) hx hb dX3_takeThirds_25 (by decide) ?_
      refine n_cne (tgt := 33) hx hb (by omega) (by omega) dX3_takeThirds_26 (by decide) (fun c_10 => ?_) (fun c_10 => ?_)
      · skip
        refine lv_iconst (v := nI 0) hx hb dX3_takeThirds_33 (by decide) ?_
        refine lv_istore (lv' := [(4, .int (nI 0)), (0, .ref r), (1, .int (nI sel)), (2, .ref kf), (3, .int (nI at_))]) hx hb dX3_takeThirds_34 hl (by decide) rfl (fun ls hl => ?_)
        refine lv_aload_n hx hb dX3_takeThirds_36 rfl (lv_at hl 3 rfl) ?_
        refine lv_iload_n hx hb dX3_takeThirds_37 rfl (lv_at hl 4 rfl) ?_
        refine lv_iconst (v := nI 1) hx hb dX3_takeThirds_38 (by decide) ?_
        refine n_add hx hb dX3_takeThirds_39 ?_
        refine lv_iload hx hb dX3_takeThirds_40 (lv_at hl 0 rfl) ?_
        refine lv_if_eq (tgt := 52) hx hb dX3_takeThirds_42 (by decide) (fun c_11 => ?_) (fun c_11 => ?_)
        rotate_left
        · exact absurd (by decide) c_11
        refine lv_aload_n hx hb dX3_takeThirds_52 rfl (lv_at hl 3 rfl) ?_
        refine lv_iload_n hx hb dX3_takeThirds_53 rfl (lv_at hl 4 rfl) ?_
        refine r_iald C hw 3 rfl (by omega) (by omega) dX3_takeThirds_54 ?_
        refine tp1 (v' := (nI (faV T (8 * fb) lim x0))) (congrArg nI (updN_s _ _ _)) ?_
        refine r_iast C hw 3 rfl (by omega) (by omega) (ws' := [(r, .inr (3, [.ref o, .ref sl, .ref co_, .int (nI ((fa1 T (8 * fb) lim x0).2.2))])), (o, .inr (0, [.ref tp, .int (nI fb), .int (nI lim), .int (nI ((fa1 T (8 * fb) lim x0).1)), .int (nI ((fa1 T (8 * fb) lim x0).2.1))])), (tp, aI g n (fun j => nI (T j))), (kf, aI g 192 (upd (fun j => nI (updN fa at_ (faV T (8 * fb) lim x0) j)) (at_ + 1) (nI (faV T (8 * fb) lim x0))))]) rfl dX3_takeThirds_55 (fun H locs hw => ?_)
        rw [updN_I] at hw
        have hw : Wd g (va_A [(r, .inr (3, [.ref o, .ref sl, .ref co_, .int (nI x0.2.2)])), (o, .inr (0, [.ref tp, .int (nI fb), .int (nI lim), .int (nI x0.1), .int (nI x0.2.1)])), (tp, aI g n (fun j => nI (T j))), (kf, aI g 192 (fun j => nI (fa j)))] sz) s.heap [(r, .inr (3, [.ref o, .ref sl, .ref co_, .int (nI ((fa1 T (8 * fb) lim x0).2.2))])), (o, .inr (0, [.ref tp, .int (nI fb), .int (nI lim), .int (nI ((fa1 T (8 * fb) lim x0).1)), .int (nI ((fa1 T (8 * fb) lim x0).2.1))])), (tp, aI g n (fun j => nI (T j))), (kf, aI g 192 (fun j => nI (updN (updN fa at_ (faV T (8 * fb) lim x0)) (at_ + 1) (faV T (8 * fb) lim x0) j)))] H locs := hw
        refine lv_iload_n hx hb dX3_takeThirds_56 rfl (lv_at hl 2 rfl) ?_
        refine n_eq0 (tgt := 65) hx hb (by omega) dX3_takeThirds_57 (by decide) (fun c_12 => ?_) (fun c_12 => ?_)
        · skip
          exfalso; omega
        · skip
          refine lv_iload_n hx hb dX3_takeThirds_60 rfl (lv_at hl 2 rfl) ?_
          refine lv_iconst (v := nI 1) hx hb dX3_takeThirds_61 (by decide) ?_
          refine n_cne (tgt := 69) hx hb (by omega) (by omega) dX3_takeThirds_62 (by decide) (fun c_13 => ?_) (fun c_13 => ?_)
          · skip
            refine lv_iconst (v := nI 0) hx hb dX3_takeThirds_69 (by decide) ?_
            refine lv_istore (lv' := [(5, .int (nI 0)), (4, .int (nI 0)), (0, .ref r), (1, .int (nI sel)), (2, .ref kf), (3, .int (nI at_))]) hx hb dX3_takeThirds_70 hl (by decide) rfl (fun ls hl => ?_)
            refine lv_aload_n hx hb dX3_takeThirds_72 rfl (lv_at hl 4 rfl) ?_
            refine lv_iload_n hx hb dX3_takeThirds_73 rfl (lv_at hl 5 rfl) ?_
            refine lv_iconst (v := nI 2) hx hb dX3_takeThirds_74 (by decide) ?_
            refine n_add hx hb dX3_takeThirds_75 ?_
            refine lv_iload hx hb dX3_takeThirds_76 (lv_at hl 0 rfl) ?_
            refine lv_if_eq (tgt := 88) hx hb dX3_takeThirds_78 (by decide) (fun c_14 => ?_) (fun c_14 => ?_)
            rotate_left
            · exact absurd (by decide) c_14
            refine lv_aload_n hx hb dX3_takeThirds_88 rfl (lv_at hl 4 rfl) ?_
            refine lv_iload_n hx hb dX3_takeThirds_89 rfl (lv_at hl 5 rfl) ?_
            refine lv_iconst (v := nI 1) hx hb dX3_takeThirds_90 (by decide) ?_
            refine n_add hx hb dX3_takeThirds_91 ?_
            refine r_iald C hw 3 rfl (by omega) (by omega) dX3_takeThirds_92 ?_
            refine tp1 (v' := (nI (faV T (8 * fb) lim x0))) (congrArg nI (updN_s _ _ _)) ?_
            refine r_iast C hw 3 rfl (by omega) (by omega) (ws' := [(r, .inr (3, [.ref o, .ref sl, .ref co_, .int (nI ((fa1 T (8 * fb) lim x0).2.2))])), (o, .inr (0, [.ref tp, .int (nI fb), .int (nI lim), .int (nI ((fa1 T (8 * fb) lim x0).1)), .int (nI ((fa1 T (8 * fb) lim x0).2.1))])), (tp, aI g n (fun j => nI (T j))), (kf, aI g 192 (upd (fun j => nI (updN (updN fa at_ (faV T (8 * fb) lim x0)) (at_ + 1) (faV T (8 * fb) lim x0) j)) (at_ + 2) (nI (faV T (8 * fb) lim x0))))]) rfl dX3_takeThirds_93 (fun H locs hw => ?_)
            rw [updN_I] at hw
            have hw : Wd g (va_A [(r, .inr (3, [.ref o, .ref sl, .ref co_, .int (nI x0.2.2)])), (o, .inr (0, [.ref tp, .int (nI fb), .int (nI lim), .int (nI x0.1), .int (nI x0.2.1)])), (tp, aI g n (fun j => nI (T j))), (kf, aI g 192 (fun j => nI (fa j)))] sz) s.heap [(r, .inr (3, [.ref o, .ref sl, .ref co_, .int (nI ((fa1 T (8 * fb) lim x0).2.2))])), (o, .inr (0, [.ref tp, .int (nI fb), .int (nI lim), .int (nI ((fa1 T (8 * fb) lim x0).1)), .int (nI ((fa1 T (8 * fb) lim x0).2.1))])), (tp, aI g n (fun j => nI (T j))), (kf, aI g 192 (fun j => nI (updN (updN (updN fa at_ (faV T (8 * fb) lim x0)) (at_ + 1) (faV T (8 * fb) lim x0)) (at_ + 2) (faV T (8 * fb) lim x0) j)))] H locs := hw
            exact r_vret C hw (Nat.le_refl _) (Nat.le_refl _) (by first | ((obtain rfl : sel = 0 := (by omega)); rfl) | ((obtain rfl : sel = 3 := (by omega)); rfl) | ((obtain rfl : sel = 1 := (by omega)); rfl) | ((obtain rfl : sel = 2 := (by omega)); rfl)) dX3_takeThirds_94
          · skip
            refine lv_iconst (v := nI 1) hx hb dX3_takeThirds_65 (by decide) ?_
            refine lv_goto (tgt := 70) hx hb dX3_takeThirds_66 (by decide) ?_
            refine lv_istore (lv' := [(5, .int (nI 1)), (4, .int (nI 0)), (0, .ref r), (1, .int (nI sel)), (2, .ref kf), (3, .int (nI at_))]) hx hb dX3_takeThirds_70 hl (by decide) rfl (fun ls hl => ?_)
            refine lv_aload_n hx hb dX3_takeThirds_72 rfl (lv_at hl 4 rfl) ?_
            refine lv_iload_n hx hb dX3_takeThirds_73 rfl (lv_at hl 5 rfl) ?_
            refine lv_iconst (v := nI 2) hx hb dX3_takeThirds_74 (by decide) ?_
            refine n_add hx hb dX3_takeThirds_75 ?_
            refine lv_iload hx hb dX3_takeThirds_76 (lv_at hl 0 rfl) ?_
            refine lv_if_eq (tgt := 88) hx hb dX3_takeThirds_78 (by decide) (fun c_15 => ?_) (fun c_15 => ?_)
            · exact absurd c_15 (by decide)
            refine lv_aload_n hx hb dX3_takeThirds_81 rfl (lv_at hl 2 rfl) ?_
            refine k_Vi (As := []) (rest := [.int (nI (at_ + 2)), .ref kf]) (wr := [(kf, aI g 192 (fun j => nI (updN (updN fa at_ (faV T (8 * fb) lim x0)) (at_ + 1) (faV T (8 * fb) lim x0) j)))]) C hw (c_takeFactor l g _ r o sl co_ tp n fb lim T (fa1 T (8 * fb) lim x0) hT hn hl1 (fa1_j hj)) (cwV 0 hts gX3_takeThirds_X3_takeFactor rfl rfl rfl (by decide +kernel) ⟨Nat.le_of_ble_eq_true rfl, Nat.le_of_ble_eq_true rfl⟩) bl_T (fun _ _ _ => trivial) [0, 1, 2] [3] (by decide) rfl rfl (by decide) (by decide) 0 rfl rfl rfl hl.1 rfl (Nat.le_of_ble_eq_true rfl) dX3_takeThirds_82 ⟨Nat.le_of_ble_eq_true rfl, Nat.le_of_ble_eq_true rfl⟩ (fun r_16 u H locs hp hw => ?_)
            obtain ⟨rfl, rfl⟩ := hp
            have hw := Wd.sub (ws' := [(r, .inr (3, [.ref o, .ref sl, .ref co_, .int (nI ((fa1 T (8 * fb) lim (fa1 T (8 * fb) lim x0)).2.2))])), (o, .inr (0, [.ref tp, .int (nI fb), .int (nI lim), .int (nI ((fa1 T (8 * fb) lim (fa1 T (8 * fb) lim x0)).1)), .int (nI ((fa1 T (8 * fb) lim (fa1 T (8 * fb) lim x0)).2.1))])), (tp, aI g n (fun j => nI (T j))), (kf, aI g 192 (fun j => nI (updN (updN fa at_ (faV T (8 * fb) lim x0)) (at_ + 1) (faV T (8 * fb) lim x0) j)))]) hw [1, 2, 3, 0] (by decide) rfl
            refine lv_goto (tgt := 93) hx hb dX3_takeThirds_85 (by decide) ?_
            refine r_iast C hw 3 rfl (by omega) (by omega) (ws' := [(r, .inr (3, [.ref o, .ref sl, .ref co_, .int (nI ((fa1 T (8 * fb) lim (fa1 T (8 * fb) lim x0)).2.2))])), (o, .inr (0, [.ref tp, .int (nI fb), .int (nI lim), .int (nI ((fa1 T (8 * fb) lim (fa1 T (8 * fb) lim x0)).1)), .int (nI ((fa1 T (8 * fb) lim (fa1 T (8 * fb) lim x0)).2.1))])), (tp, aI g n (fun j => nI (T j))), (kf, aI g 192 (upd (fun j => nI (updN (updN fa at_ (faV T (8 * fb) lim x0)) (at_ + 1) (faV T (8 * fb) lim x0) j)) (at_ + 2) (nI (faV T (8 * fb) lim (fa1 T (8 * fb) lim x0)))))]) rfl dX3_takeThirds_93 (fun H locs hw => ?_)
            rw [updN_I] at hw
            have hw : Wd g (va_A [(r, .inr (3, [.ref o, .ref sl, .ref co_, .int (nI x0.2.2)])), (o, .inr (0, [.ref tp, .int (nI fb), .int (nI lim), .int (nI x0.1), .int (nI x0.2.1)])), (tp, aI g n (fun j => nI (T j))), (kf, aI g 192 (fun j => nI (fa j)))] sz) s.heap [(r, .inr (3, [.ref o, .ref sl, .ref co_, .int (nI ((fa1 T (8 * fb) lim (fa1 T (8 * fb) lim x0)).2.2))])), (o, .inr (0, [.ref tp, .int (nI fb), .int (nI lim), .int (nI ((fa1 T (8 * fb) lim (fa1 T (8 * fb) lim x0)).1)), .int (nI ((fa1 T (8 * fb) lim (fa1 T (8 * fb) lim x0)).2.1))])), (tp, aI g n (fun j => nI (T j))), (kf, aI g 192 (fun j => nI (updN (updN (updN fa at_ (faV T (8 * fb) lim x0)) (at_ + 1) (faV T (8 * fb) lim x0)) (at_ + 2) (faV T (8 * fb) lim (fa1 T (8 * fb) lim x0)) j)))] H locs := hw
            exact r_vret C hw (Nat.le_refl _) (Nat.le_refl _) (by first | ((obtain rfl : sel = 0 := (by omega)); rfl) | ((obtain rfl : sel = 3 := (by omega)); rfl) | ((obtain rfl : sel = 1 := (by omega)); rfl) | ((obtain rfl : sel = 2 := (by omega)); rfl)) dX3_takeThirds_94
      · skip
        refine lv_iconst (v := nI 1) hx hb dX3_takeThirds_29 (by decide) ?_
        refine lv_goto (tgt := 34) hx hb dX3_takeThirds_30 (by decide) ?_
        refine lv_istore (lv' := [(4, .int (nI 1)), (0, .ref r), (1, .int (nI sel)), (2, .ref kf), (3, .int (nI at_))]) hx hb dX3_takeThirds_34 hl (by decide) rfl (fun ls hl => ?_)
        refine lv_aload_n hx hb dX3_takeThirds_36 rfl (lv_at hl 3 rfl) ?_
        refine lv_iload_n hx hb dX3_takeThirds_37 rfl (lv_at hl 4 rfl) ?_
        refine lv_iconst (v := nI 1) hx hb dX3_takeThirds_38 (by decide) ?_
        refine n_add hx hb dX3_takeThirds_39 ?_
        refine lv_iload hx hb dX3_takeThirds_40 (lv_at hl 0 rfl) ?_
        refine lv_if_eq (tgt := 52) hx hb dX3_takeThirds_42 (by decide) (fun c_17 => ?_) (fun c_17 => ?_)
        · exact absurd c_17 (by decide)
        refine lv_aload_n hx hb dX3_takeThirds_45 rfl (lv_at hl 1 rfl) ?_
        refine k_Vi (As := []) (rest := [.int (nI (at_ + 1)), .ref kf]) (wr := [(kf, aI g 192 (fun j => nI (updN fa at_ (faV T (8 * fb) lim x0) j)))]) C hw (c_takeFactor l g _ r o sl co_ tp n fb lim T (fa1 T (8 * fb) lim x0) hT hn hl1 (fa1_j hj)) (cwV 0 hts gX3_takeThirds_X3_takeFactor rfl rfl rfl (by decide +kernel) ⟨Nat.le_of_ble_eq_true rfl, Nat.le_of_ble_eq_true rfl⟩) bl_T (fun _ _ _ => trivial) [0, 1, 2] [3] (by decide) rfl rfl (by decide) (by decide) 0 rfl rfl rfl hl.1 rfl (Nat.le_of_ble_eq_true rfl) dX3_takeThirds_46 ⟨Nat.le_of_ble_eq_true rfl, Nat.le_of_ble_eq_true rfl⟩ (fun r_18 u H locs hp hw => ?_)
        obtain ⟨rfl, rfl⟩ := hp
        have hw := Wd.sub (ws' := [(r, .inr (3, [.ref o, .ref sl, .ref co_, .int (nI ((fa1 T (8 * fb) lim (fa1 T (8 * fb) lim x0)).2.2))])), (o, .inr (0, [.ref tp, .int (nI fb), .int (nI lim), .int (nI ((fa1 T (8 * fb) lim (fa1 T (8 * fb) lim x0)).1)), .int (nI ((fa1 T (8 * fb) lim (fa1 T (8 * fb) lim x0)).2.1))])), (tp, aI g n (fun j => nI (T j))), (kf, aI g 192 (fun j => nI (updN fa at_ (faV T (8 * fb) lim x0) j)))]) hw [1, 2, 3, 0] (by decide) rfl
        refine lv_goto (tgt := 55) hx hb dX3_takeThirds_49 (by decide) ?_
        refine r_iast C hw 3 rfl (by omega) (by omega) (ws' := [(r, .inr (3, [.ref o, .ref sl, .ref co_, .int (nI ((fa1 T (8 * fb) lim (fa1 T (8 * fb) lim x0)).2.2))])), (o, .inr (0, [.ref tp, .int (nI fb), .int (nI lim), .int (nI ((fa1 T (8 * fb) lim (fa1 T (8 * fb) lim x0)).1)), .int (nI ((fa1 T (8 * fb) lim (fa1 T (8 * fb) lim x0)).2.1))])), (tp, aI g n (fun j => nI (T j))), (kf, aI g 192 (upd (fun j => nI (updN fa at_ (faV T (8 * fb) lim x0) j)) (at_ + 1) (nI (faV T (8 * fb) lim (fa1 T (8 * fb) lim x0)))))]) rfl dX3_takeThirds_55 (fun H locs hw => ?_)
        rw [updN_I] at hw
        have hw : Wd g (va_A [(r, .inr (3, [.ref o, .ref sl, .ref co_, .int (nI x0.2.2)])), (o, .inr (0, [.ref tp, .int (nI fb), .int (nI lim), .int (nI x0.1), .int (nI x0.2.1)])), (tp, aI g n (fun j => nI (T j))), (kf, aI g 192 (fun j => nI (fa j)))] sz) s.heap [(r, .inr (3, [.ref o, .ref sl, .ref co_, .int (nI ((fa1 T (8 * fb) lim (fa1 T (8 * fb) lim x0)).2.2))])), (o, .inr (0, [.ref tp, .int (nI fb), .int (nI lim), .int (nI ((fa1 T (8 * fb) lim (fa1 T (8 * fb) lim x0)).1)), .int (nI ((fa1 T (8 * fb) lim (fa1 T (8 * fb) lim x0)).2.1))])), (tp, aI g n (fun j => nI (T j))), (kf, aI g 192 (fun j => nI (updN (updN fa at_ (faV T (8 * fb) lim x0)) (at_ + 1) (faV T (8 * fb) lim (fa1 T (8 * fb) lim x0)) j)))] H locs := hw
        refine lv_iload_n hx hb dX3_takeThirds_56 rfl (lv_at hl 2 rfl) ?_
        refine n_eq0 (tgt := 65) hx hb (by omega) dX3_takeThirds_57 (by decide) (fun c_19 => ?_) (fun c_19 => ?_)
        · skip
          exfalso; omega
        · skip
          refine lv_iload_n hx hb dX3_takeThirds_60 rfl (lv_at hl 2 rfl) ?_
          refine lv_iconst (v := nI 1) hx hb dX3_takeThirds_61 (by decide) ?_
          refine n_cne (tgt := 69) hx hb (by omega) (by omega) dX3_takeThirds_62 (by decide) (fun c_20 => ?_) (fun c_20 => ?_)
          · skip
            refine lv_iconst (v := nI 0) hx hb dX3_takeThirds_69 (by decide) ?_
            refine lv_istore (lv' := [(5, .int (nI 0)), (4, .int (nI 1)), (0, .ref r), (1, .int (nI sel)), (2, .ref kf), (3, .int (nI at_))]) hx hb dX3_takeThirds_70 hl (by decide) rfl (fun ls hl => ?_)
            refine lv_aload_n hx hb dX3_takeThirds_72 rfl (lv_at hl 4 rfl) ?_
            refine lv_iload_n hx hb dX3_takeThirds_73 rfl (lv_at hl 5 rfl) ?_
            refine lv_iconst (v := nI 2) hx hb dX3_takeThirds_74 (by decide) ?_
            refine n_add hx hb dX3_takeThirds_75 ?_
            refine lv_iload hx hb dX3_takeThirds_76 (lv_at hl 0 rfl) ?_
            refine lv_if_eq (tgt := 88) hx hb dX3_takeThirds_78 (by decide) (fun c_21 => ?_) (fun c_21 => ?_)
            rotate_left
            · exact absurd (by decide) c_21
            refine lv_aload_n hx hb dX3_takeThirds_88 rfl (lv_at hl 4 rfl) ?_
            refine lv_iload_n hx hb dX3_takeThirds_89 rfl (lv_at hl 5 rfl) ?_
            refine lv_iconst (v := nI 1) hx hb dX3_takeThirds_90 (by decide) ?_
            refine n_add hx hb dX3_takeThirds_91 ?_
            refine r_iald C hw 3 rfl (by omega) (by omega) dX3_takeThirds_92 ?_
            refine tp1 (v' := (nI (faV T (8 * fb) lim (fa1 T (8 * fb) lim x0)))) (congrArg nI (updN_s _ _ _)) ?_
            refine r_iast C hw 3 rfl (by omega) (by omega) (ws' := [(r, .inr (3, [.ref o, .ref sl, .ref co_, .int (nI ((fa1 T (8 * fb) lim (fa1 T (8 * fb) lim x0)).2.2))])), (o, .inr (0, [.ref tp, .int (nI fb), .int (nI lim), .int (nI ((fa1 T (8 * fb) lim (fa1 T (8 * fb) lim x0)).1)), .int (nI ((fa1 T (8 * fb) lim (fa1 T (8 * fb) lim x0)).2.1))])), (tp, aI g n (fun j => nI (T j))), (kf, aI g 192 (upd (fun j => nI (updN (updN fa at_ (faV T (8 * fb) lim x0)) (at_ + 1) (faV T (8 * fb) lim (fa1 T (8 * fb) lim x0)) j)) (at_ + 2) (nI (faV T (8 * fb) lim (fa1 T (8 * fb) lim x0)))))]) rfl dX3_takeThirds_93 (fun H locs hw => ?_)
            rw [updN_I] at hw
            have hw : Wd g (va_A [(r, .inr (3, [.ref o, .ref sl, .ref co_, .int (nI x0.2.2)])), (o, .inr (0, [.ref tp, .int (nI fb), .int (nI lim), .int (nI x0.1), .int (nI x0.2.1)])), (tp, aI g n (fun j => nI (T j))), (kf, aI g 192 (fun j => nI (fa j)))] sz) s.heap [(r, .inr (3, [.ref o, .ref sl, .ref co_, .int (nI ((fa1 T (8 * fb) lim (fa1 T (8 * fb) lim x0)).2.2))])), (o, .inr (0, [.ref tp, .int (nI fb), .int (nI lim), .int (nI ((fa1 T (8 * fb) lim (fa1 T (8 * fb) lim x0)).1)), .int (nI ((fa1 T (8 * fb) lim (fa1 T (8 * fb) lim x0)).2.1))])), (tp, aI g n (fun j => nI (T j))), (kf, aI g 192 (fun j => nI (updN (updN (updN fa at_ (faV T (8 * fb) lim x0)) (at_ + 1) (faV T (8 * fb) lim (fa1 T (8 * fb) lim x0))) (at_ + 2) (faV T (8 * fb) lim (fa1 T (8 * fb) lim x0)) j)))] H locs := hw
            exact r_vret C hw (Nat.le_refl _) (Nat.le_refl _) (by first | ((obtain rfl : sel = 0 := (by omega)); rfl) | ((obtain rfl : sel = 3 := (by omega)); rfl) | ((obtain rfl : sel = 1 := (by omega)); rfl) | ((obtain rfl : sel = 2 := (by omega)); rfl)) dX3_takeThirds_94
          · skip
            exfalso; omega
  · skip
    exfalso; omega
abbrev rm_c_takeFactors : Room := { frames := 3, cells := 0, slots := 0, locals := 70 }
set_option maxHeartbeats 4000000 in
set_option maxRecDepth 100000 in
theorem c_takeFactors (l : Launch) (g : GT) (sz : Nat) (r o sl co_ tp n fb lim : Nat) (T : Nat → Nat) (f k ks kf km kc kr : Nat) (st_ se : Nat → Nat) (st ly ck rt sp byt md ch bn ft bd oc : Nat) (x0 : (Nat × Nat × Nat) × (Nat → Nat)) (hT : ∀ j, T j < 256) (hn : n < 2 ^ 27) (hl1 : 8 * fb + lim ≤ 8 * n) (hj : jF lim x0) (hs : ∀ j, stOK (st_ j)) (he : ∀ j, se j ≤ 3) (h1 : bn ≤ 32) (h4 : ch ≤ 2) : CtV l g yX3_takeFactors wsX3_takeFactors rm_c_takeFactors [.ref r, .ref f, .ref k] [(r, .inr (3, [.ref o, .ref sl, .ref co_, .int (nI x0.1.2.2)])), (o, .inr (0, [.ref tp, .int (nI fb), .int (nI lim), .int (nI x0.1.1), .int (nI x0.1.2.1)])), (tp, aI g n (fun j => nI (T j))), (f, .inr (2, [.int (nI st), .int (nI ly), .int (nI ck), .int (nI rt), .int (nI sp), .int (nI byt), .int (nI md), .int (nI ch), .int (nI bn), .int (nI ft), .int (nI bd), .int (nI oc)])), (k, .inr (1, [.int (nI kc), .int (nI kr), .ref ks, .ref kf, .ref km])), (ks, aI g 64 (fun j => nI (st_ j))), (sl, aI g 64 (fun j => nI (se j))), (kf, aI g 192 (fun j => nI (x0.2 j)))] sz (fun _ => True) (fun u => u = [(r, .inr (3, [.ref o, .ref sl, .ref co_, .int (nI ((lp (fcB T (8 * fb) lim st_ se ch) bn x0).1.2.2))])), (o, .inr (0, [.ref tp, .int (nI fb), .int (nI lim), .int (nI ((lp (fcB T (8 * fb) lim st_ se ch) bn x0).1.1)), .int (nI ((lp (fcB T (8 * fb) lim st_ se ch) bn x0).1.2.1))])), (tp, aI g n (fun j => nI (T j))), (f, .inr (2, [.int (nI st), .int (nI ly), .int (nI ck), .int (nI rt), .int (nI sp), .int (nI byt), .int (nI md), .int (nI ch), .int (nI bn), .int (nI ft), .int (nI bd), .int (nI oc)])), (k, .inr (1, [.int (nI kc), .int (nI kr), .ref ks, .ref kf, .ref km])), (ks, aI g 64 (fun j => nI (st_ j))), (sl, aI g 64 (fun j => nI (se j))), (kf, aI g 192 (fun j => nI ((lp (fcB T (8 * fb) lim st_ se ch) bn x0).2 j)))]) (0) (0) := by
  refine ct_body (cc := cX3_takeFactors) (nL := 6) (ret := none) (by decide) rfl (Nat.le_of_ble_eq_true rfl) ?_
  intro p e s m below meth c ls C hin hsz hB hw hl
  obtain ⟨hx, hb, hml, hown, hts, hK, hA, hr, hlk⟩ := id C
  have lk18 := hts (.fieldLink RX3 18 "SoundBench$FrameReader" "selections" "[I") (by decide +kernel)
  have lk42 := hts (.fieldLink RX3 42 "SoundBench$Frame" "channels" "I") (by decide +kernel)
  have lk85 := hts (.fieldLink RX3 85 "SoundBench$Frame" "bands" "I") (by decide +kernel)
  have lk95 := hts (.fieldLink RX3 95 "SoundBench$Content" "steps" "[I") (by decide +kernel)
  have lk126 := hts (.fieldLink RX3 126 "SoundBench$Content" "factors" "[I") (by decide +kernel)
  have in_X2 : ∀ w ∈ wsX20, w ∈ wsX3_takeFactors := by unfold wsX3_takeFactors; intro w h; simp only [List.mem_cons, List.mem_append, h, or_true, true_or]
  have in_X1 : ∀ w ∈ wsX10, w ∈ wsX3_takeFactors := by unfold wsX3_takeFactors; intro w h; simp only [List.mem_cons, List.mem_append, h, or_true, true_or]
  have in_X3 : ∀ w ∈ wsX30, w ∈ wsX3_takeFactors := by unfold wsX3_takeFactors; intro w h; simp only [List.mem_cons, List.mem_append, h, or_true, true_or]
  have hl : lv_has ls 6 [(0, .ref r), (1, .ref f), (2, .ref k)] := hl
  have hw : Wd g (va_A [(r, .inr (3, [.ref o, .ref sl, .ref co_, .int (nI x0.1.2.2)])), (o, .inr (0, [.ref tp, .int (nI fb), .int (nI lim), .int (nI x0.1.1), .int (nI x0.1.2.1)])), (tp, aI g n (fun j => nI (T j))), (f, .inr (2, [.int (nI st), .int (nI ly), .int (nI ck), .int (nI rt), .int (nI sp), .int (nI byt), .int (nI md), .int (nI ch), .int (nI bn), .int (nI ft), .int (nI bd), .int (nI oc)])), (k, .inr (1, [.int (nI kc), .int (nI kr), .ref ks, .ref kf, .ref km])), (ks, aI g 64 (fun j => nI (st_ j))), (sl, aI g 64 (fun j => nI (se j))), (kf, aI g 192 (fun j => nI (x0.2 j)))] sz) s.heap [(r, .inr (3, [.ref o, .ref sl, .ref co_, .int (nI x0.1.2.2)])), (o, .inr (0, [.ref tp, .int (nI fb), .int (nI lim), .int (nI x0.1.1), .int (nI x0.1.2.1)])), (tp, aI g n (fun j => nI (T j))), (f, .inr (2, [.int (nI st), .int (nI ly), .int (nI ck), .int (nI rt), .int (nI sp), .int (nI byt), .int (nI md), .int (nI ch), .int (nI bn), .int (nI ft), .int (nI bd), .int (nI oc)])), (k, .inr (1, [.int (nI kc), .int (nI kr), .ref ks, .ref kf, .ref km])), (ks, aI g 64 (fun j => nI (st_ j))), (sl, aI g 64 (fun j => nI (se j))), (kf, aI g 192 (fun j => nI (x0.2 j)))] s.heap [] := hw
  refine lv_iconst (v := nI 0) hx hb dX3_takeFactors_0 (by decide) ?_
  refine lv_istore_n (lv' := [(3, .int (nI 0)), (0, .ref r), (1, .ref f), (2, .ref k)]) hx hb dX3_takeFactors_1 rfl hl (by decide) rfl (fun ls hl => ?_)
  refine lps (σ := (Nat × Nat × Nat) × (Nat → Nat)) (fcB T (8 * fb) lim st_ se ch) (fun i x => jF lim (x.1, x.2)) (fun i x H locs ls => Wd g (va_A [(r, .inr (3, [.ref o, .ref sl, .ref co_, .int (nI x0.1.2.2)])), (o, .inr (0, [.ref tp, .int (nI fb), .int (nI lim), .int (nI x0.1.1), .int (nI x0.1.2.1)])), (tp, aI g n (fun j => nI (T j))), (f, .inr (2, [.int (nI st), .int (nI ly), .int (nI ck), .int (nI rt), .int (nI sp), .int (nI byt), .int (nI md), .int (nI ch), .int (nI bn), .int (nI ft), .int (nI bd), .int (nI oc)])), (k, .inr (1, [.int (nI kc), .int (nI kr), .ref ks, .ref kf, .ref km])), (ks, aI g 64 (fun j => nI (st_ j))), (sl, aI g 64 (fun j => nI (se j))), (kf, aI g 192 (fun j => nI (x0.2 j)))] sz) s.heap [(r, .inr (3, [.ref o, .ref sl, .ref co_, .int (nI x.1.2.2)])), (o, .inr (0, [.ref tp, .int (nI fb), .int (nI lim), .int (nI x.1.1), .int (nI x.1.2.1)])), (tp, aI g n (fun j => nI (T j))), (f, .inr (2, [.int (nI st), .int (nI ly), .int (nI ck), .int (nI rt), .int (nI sp), .int (nI byt), .int (nI md), .int (nI ch), .int (nI bn), .int (nI ft), .int (nI bd), .int (nI oc)])), (k, .inr (1, [.int (nI kc), .int (nI kr), .ref ks, .ref kf, .ref km])), (ks, aI g 64 (fun j => nI (st_ j))), (sl, aI g 64 (fun j => nI (se j))), (kf, aI g 192 (fun j => nI (x.2 j)))] H locs ∧ lv_has ls 6 [(0, .ref r), (1, .ref f), (2, .ref k), (3, .int (nI i))]) (bn) (x0) ?_ ?_ (hj) ⟨hw, (lv_sub hl [1, 2, 3, 0] rfl)⟩
  · intro x hJ hx_ H locs ls hI
    subst hx_
    obtain ⟨hw, hl⟩ := hI
    have hw : Wd g (va_A [(r, .inr (3, [.ref o, .ref sl, .ref co_, .int (nI x0.1.2.2)])), (o, .inr (0, [.ref tp, .int (nI fb), .int (nI lim), .int (nI x0.1.1), .int (nI x0.1.2.1)])), (tp, aI g n (fun j => nI (T j))), (f, .inr (2, [.int (nI st), .int (nI ly), .int (nI ck), .int (nI rt), .int (nI sp), .int (nI byt), .int (nI md), .int (nI ch), .int (nI bn), .int (nI ft), .int (nI bd), .int (nI oc)])), (k, .inr (1, [.int (nI kc), .int (nI kr), .ref ks, .ref kf, .ref km])), (ks, aI g 64 (fun j => nI (st_ j))), (sl, aI g 64 (fun j => nI (se j))), (kf, aI g 192 (fun j => nI (x0.2 j)))] sz) s.heap [(r, .inr (3, [.ref o, .ref sl, .ref co_, .int (nI ((lp (fcB T (8 * fb) lim st_ se ch) bn x0).1.2.2))])), (o, .inr (0, [.ref tp, .int (nI fb), .int (nI lim), .int (nI ((lp (fcB T (8 * fb) lim st_ se ch) bn x0).1.1)), .int (nI ((lp (fcB T (8 * fb) lim st_ se ch) bn x0).1.2.1))])), (tp, aI g n (fun j => nI (T j))), (f, .inr (2, [.int (nI st), .int (nI ly), .int (nI ck), .int (nI rt), .int (nI sp), .int (nI byt), .int (nI md), .int (nI ch), .int (nI bn), .int (nI ft), .int (nI bd), .int (nI oc)])), (k, .inr (1, [.int (nI kc), .int (nI kr), .ref ks, .ref kf, .ref km])), (ks, aI g 64 (fun j => nI (st_ j))), (sl, aI g 64 (fun j => nI (se j))), (kf, aI g 192 (fun j => nI ((lp (fcB T (8 * fb) lim st_ se ch) bn x0).2 j)))] H locs := hw
    have hl : lv_has ls 6 [(0, .ref r), (1, .ref f), (2, .ref k), (3, .int (nI bn))] := hl
    refine lv_iload_n hx hb dX3_takeFactors_2 rfl (lv_at hl 3 rfl) ?_
    refine lv_aload_n hx hb dX3_takeFactors_3 rfl (lv_at hl 1 rfl) ?_
    refine r_get C hw in_X2 3 rfl rfl 8 (by decide) lk85 rfl dX3_takeFactors_4 ?_
    refine n_cge (tgt := 71) hx hb (by omega) (by omega) dX3_takeFactors_7 (by decide) (fun c_1 => ?_) (fun c_1 => ?_)
    · skip
      exact r_vret C hw (Nat.le_refl _) (Nat.le_refl _) (rfl) dX3_takeFactors_71
    · skip
      exfalso; omega
  · intro i x hi hJ hxe H locs ls hI K
    obtain ⟨xa, fb_⟩ := x
    obtain ⟨hw, hl⟩ := hI
    dsimp only at hJ
    have hw : Wd g (va_A [(r, .inr (3, [.ref o, .ref sl, .ref co_, .int (nI x0.1.2.2)])), (o, .inr (0, [.ref tp, .int (nI fb), .int (nI lim), .int (nI x0.1.1), .int (nI x0.1.2.1)])), (tp, aI g n (fun j => nI (T j))), (f, .inr (2, [.int (nI st), .int (nI ly), .int (nI ck), .int (nI rt), .int (nI sp), .int (nI byt), .int (nI md), .int (nI ch), .int (nI bn), .int (nI ft), .int (nI bd), .int (nI oc)])), (k, .inr (1, [.int (nI kc), .int (nI kr), .ref ks, .ref kf, .ref km])), (ks, aI g 64 (fun j => nI (st_ j))), (sl, aI g 64 (fun j => nI (se j))), (kf, aI g 192 (fun j => nI (x0.2 j)))] sz) s.heap [(r, .inr (3, [.ref o, .ref sl, .ref co_, .int (nI xa.2.2)])), (o, .inr (0, [.ref tp, .int (nI fb), .int (nI lim), .int (nI xa.1), .int (nI xa.2.1)])), (tp, aI g n (fun j => nI (T j))), (f, .inr (2, [.int (nI st), .int (nI ly), .int (nI ck), .int (nI rt), .int (nI sp), .int (nI byt), .int (nI md), .int (nI ch), .int (nI bn), .int (nI ft), .int (nI bd), .int (nI oc)])), (k, .inr (1, [.int (nI kc), .int (nI kr), .ref ks, .ref kf, .ref km])), (ks, aI g 64 (fun j => nI (st_ j))), (sl, aI g 64 (fun j => nI (se j))), (kf, aI g 192 (fun j => nI (fb_ j)))] H locs := hw
    have hl : lv_has ls 6 [(0, .ref r), (1, .ref f), (2, .ref k), (3, .int (nI i))] := hl
    refine lv_iload_n hx hb dX3_takeFactors_2 rfl (lv_at hl 3 rfl) ?_
    refine lv_aload_n hx hb dX3_takeFactors_3 rfl (lv_at hl 1 rfl) ?_
    refine r_get C hw in_X2 3 rfl rfl 8 (by decide) lk85 rfl dX3_takeFactors_4 ?_
    refine n_cge (tgt := 71) hx hb (by omega) (by omega) dX3_takeFactors_7 (by decide) (fun c_2 => ?_) (fun c_2 => ?_)
    · skip
      exfalso; omega
    · skip
      refine lv_iconst (v := nI 0) hx hb dX3_takeFactors_10 (by decide) ?_
      refine lv_istore (lv' := [(4, .int (nI 0)), (0, .ref r), (1, .ref f), (2, .ref k), (3, .int (nI i))]) hx hb dX3_takeFactors_11 hl (by decide) rfl (fun ls hl => ?_)
      refine lps (σ := (Nat × Nat × Nat) × (Nat → Nat)) (fcC T (8 * fb) lim st_ se i) (fun c y => jF lim (y.1, y.2)) (fun c y H locs ls => Wd g (va_A [(r, .inr (3, [.ref o, .ref sl, .ref co_, .int (nI x0.1.2.2)])), (o, .inr (0, [.ref tp, .int (nI fb), .int (nI lim), .int (nI x0.1.1), .int (nI x0.1.2.1)])), (tp, aI g n (fun j => nI (T j))), (f, .inr (2, [.int (nI st), .int (nI ly), .int (nI ck), .int (nI rt), .int (nI sp), .int (nI byt), .int (nI md), .int (nI ch), .int (nI bn), .int (nI ft), .int (nI bd), .int (nI oc)])), (k, .inr (1, [.int (nI kc), .int (nI kr), .ref ks, .ref kf, .ref km])), (ks, aI g 64 (fun j => nI (st_ j))), (sl, aI g 64 (fun j => nI (se j))), (kf, aI g 192 (fun j => nI (x0.2 j)))] sz) s.heap [(r, .inr (3, [.ref o, .ref sl, .ref co_, .int (nI y.1.2.2)])), (o, .inr (0, [.ref tp, .int (nI fb), .int (nI lim), .int (nI y.1.1), .int (nI y.1.2.1)])), (tp, aI g n (fun j => nI (T j))), (f, .inr (2, [.int (nI st), .int (nI ly), .int (nI ck), .int (nI rt), .int (nI sp), .int (nI byt), .int (nI md), .int (nI ch), .int (nI bn), .int (nI ft), .int (nI bd), .int (nI oc)])), (k, .inr (1, [.int (nI kc), .int (nI kr), .ref ks, .ref kf, .ref km])), (ks, aI g 64 (fun j => nI (st_ j))), (sl, aI g 64 (fun j => nI (se j))), (kf, aI g 192 (fun j => nI (y.2 j)))] H locs ∧ lv_has ls 6 [(0, .ref r), (1, .ref f), (2, .ref k), (3, .int (nI i)), (4, .int (nI c))]) (ch) ((xa, fb_)) ?_ ?_ (hJ) ⟨hw, (lv_sub hl [1, 2, 3, 4, 0] rfl)⟩
      · intro y hJ hx_ H locs ls hI
        subst hx_
        obtain ⟨hw, hl⟩ := hI
        have hw : Wd g (va_A [(r, .inr (3, [.ref o, .ref sl, .ref co_, .int (nI x0.1.2.2)])), (o, .inr (0, [.ref tp, .int (nI fb), .int (nI lim), .int (nI x0.1.1), .int (nI x0.1.2.1)])), (tp, aI g n (fun j => nI (T j))), (f, .inr (2, [.int (nI st), .int (nI ly), .int (nI ck), .int (nI rt), .int (nI sp), .int (nI byt), .int (nI md), .int (nI ch), .int (nI bn), .int (nI ft), .int (nI bd), .int (nI oc)])), (k, .inr (1, [.int (nI kc), .int (nI kr), .ref ks, .ref kf, .ref km])), (ks, aI g 64 (fun j => nI (st_ j))), (sl, aI g 64 (fun j => nI (se j))), (kf, aI g 192 (fun j => nI (x0.2 j)))] sz) s.heap [(r, .inr (3, [.ref o, .ref sl, .ref co_, .int (nI ((lp (fcC T (8 * fb) lim st_ se i) ch (xa, fb_)).1.2.2))])), (o, .inr (0, [.ref tp, .int (nI fb), .int (nI lim), .int (nI ((lp (fcC T (8 * fb) lim st_ se i) ch (xa, fb_)).1.1)), .int (nI ((lp (fcC T (8 * fb) lim st_ se i) ch (xa, fb_)).1.2.1))])), (tp, aI g n (fun j => nI (T j))), (f, .inr (2, [.int (nI st), .int (nI ly), .int (nI ck), .int (nI rt), .int (nI sp), .int (nI byt), .int (nI md), .int (nI ch), .int (nI bn), .int (nI ft), .int (nI bd), .int (nI oc)])), (k, .inr (1, [.int (nI kc), .int (nI kr), .ref ks, .ref kf, .ref km])), (ks, aI g 64 (fun j => nI (st_ j))), (sl, aI g 64 (fun j => nI (se j))), (kf, aI g 192 (fun j => nI ((lp (fcC T (8 * fb) lim st_ se i) ch (xa, fb_)).2 j)))] H locs := hw
        have hl : lv_has ls 6 [(0, .ref r), (1, .ref f), (2, .ref k), (3, .int (nI i)), (4, .int (nI ch))] := hl
        refine lv_iload hx hb dX3_takeFactors_13 (lv_at hl 4 rfl) ?_
        refine lv_aload_n hx hb dX3_takeFactors_15 rfl (lv_at hl 1 rfl) ?_
        refine r_get C hw in_X2 3 rfl rfl 7 (by decide) lk42 rfl dX3_takeFactors_16 ?_
        refine n_cge (tgt := 65) hx hb (by omega) (by omega) dX3_takeFactors_19 (by decide) (fun c_3 => ?_) (fun c_3 => ?_)
        · skip
          refine lv_iinc (v := (nI (i + 1))) (lv' := [(3, .int (nI (i + 1))), (0, .ref r), (1, .ref f), (2, .ref k), (4, .int (nI ch))]) hx hb dX3_takeFactors_65 hl (k := 3) rfl (nI_add _ _) (by decide) rfl (fun ls hl => ?_)
          refine lv_goto (tgt := 2) hx hb dX3_takeFactors_68 (by decide) ?_
          exact K (hJ) _ _ _ ⟨hw, (lv_sub hl [1, 2, 3, 0] rfl)⟩
        · skip
          exfalso; omega
      · intro c y hi hJ hxe H locs ls hI K
        obtain ⟨xb, fc_⟩ := y
        obtain ⟨hw, hl⟩ := hI
        dsimp only at hJ
        have hw : Wd g (va_A [(r, .inr (3, [.ref o, .ref sl, .ref co_, .int (nI x0.1.2.2)])), (o, .inr (0, [.ref tp, .int (nI fb), .int (nI lim), .int (nI x0.1.1), .int (nI x0.1.2.1)])), (tp, aI g n (fun j => nI (T j))), (f, .inr (2, [.int (nI st), .int (nI ly), .int (nI ck), .int (nI rt), .int (nI sp), .int (nI byt), .int (nI md), .int (nI ch), .int (nI bn), .int (nI ft), .int (nI bd), .int (nI oc)])), (k, .inr (1, [.int (nI kc), .int (nI kr), .ref ks, .ref kf, .ref km])), (ks, aI g 64 (fun j => nI (st_ j))), (sl, aI g 64 (fun j => nI (se j))), (kf, aI g 192 (fun j => nI (x0.2 j)))] sz) s.heap [(r, .inr (3, [.ref o, .ref sl, .ref co_, .int (nI xb.2.2)])), (o, .inr (0, [.ref tp, .int (nI fb), .int (nI lim), .int (nI xb.1), .int (nI xb.2.1)])), (tp, aI g n (fun j => nI (T j))), (f, .inr (2, [.int (nI st), .int (nI ly), .int (nI ck), .int (nI rt), .int (nI sp), .int (nI byt), .int (nI md), .int (nI ch), .int (nI bn), .int (nI ft), .int (nI bd), .int (nI oc)])), (k, .inr (1, [.int (nI kc), .int (nI kr), .ref ks, .ref kf, .ref km])), (ks, aI g 64 (fun j => nI (st_ j))), (sl, aI g 64 (fun j => nI (se j))), (kf, aI g 192 (fun j => nI (fc_ j)))] H locs := hw
        have hl : lv_has ls 6 [(0, .ref r), (1, .ref f), (2, .ref k), (3, .int (nI i)), (4, .int (nI c))] := hl
        have hJ1 := hJ
        have hs1 := stOK_le (hs (c * 32 + i))
        have he1 := he (c * 32 + i)
        refine lv_iload hx hb dX3_takeFactors_13 (lv_at hl 4 rfl) ?_
        refine lv_aload_n hx hb dX3_takeFactors_15 rfl (lv_at hl 1 rfl) ?_
        refine r_get C hw in_X2 3 rfl rfl 7 (by decide) lk42 rfl dX3_takeFactors_16 ?_
        refine n_cge (tgt := 65) hx hb (by omega) (by omega) dX3_takeFactors_19 (by decide) (fun c_4 => ?_) (fun c_4 => ?_)
        · skip
          exfalso; omega
        · skip
          refine lv_iload hx hb dX3_takeFactors_22 (lv_at hl 4 rfl) ?_
          refine lv_iload_n hx hb dX3_takeFactors_24 rfl (lv_at hl 3 rfl) ?_
          refine k_Si (As := [.int (nI c), .int (nI i)]) (rest := []) (wr := [(r, .inr (3, [.ref o, .ref sl, .ref co_, .int (nI xb.2.2)])), (o, .inr (0, [.ref tp, .int (nI fb), .int (nI lim), .int (nI xb.1), .int (nI xb.2.1)])), (tp, aI g n (fun j => nI (T j))), (f, .inr (2, [.int (nI st), .int (nI ly), .int (nI ck), .int (nI rt), .int (nI sp), .int (nI byt), .int (nI md), .int (nI ch), .int (nI bn), .int (nI ft), .int (nI bd), .int (nI oc)])), (k, .inr (1, [.int (nI kc), .int (nI kr), .ref ks, .ref kf, .ref km])), (ks, aI g 64 (fun j => nI (st_ j))), (sl, aI g 64 (fun j => nI (se j))), (kf, aI g 192 (fun j => nI (fc_ j)))]) C hw (c_bandIndex l g _ c i) (va_cwS 2 hts gX3_takeFactors_X1_bandIndex rfl rfl rfl (by decide +kernel) ⟨Nat.le_of_ble_eq_true rfl, Nat.le_of_ble_eq_true rfl⟩) bl_T (fun _ _ _ => trivial) [] [0, 1, 2, 3, 4, 5, 6, 7] (by decide) rfl rfl (by decide) (by decide) rfl hl.1 rfl (Nat.le_of_ble_eq_true rfl) dX3_takeFactors_25 ⟨Nat.le_of_ble_eq_true rfl, Nat.le_of_ble_eq_true rfl⟩ (fun r_5 u H locs hp hw => ?_)
          obtain ⟨rfl, rfl⟩ := hp
          have hw := Wd.sub (ws' := [(r, .inr (3, [.ref o, .ref sl, .ref co_, .int (nI xb.2.2)])), (o, .inr (0, [.ref tp, .int (nI fb), .int (nI lim), .int (nI xb.1), .int (nI xb.2.1)])), (tp, aI g n (fun j => nI (T j))), (f, .inr (2, [.int (nI st), .int (nI ly), .int (nI ck), .int (nI rt), .int (nI sp), .int (nI byt), .int (nI md), .int (nI ch), .int (nI bn), .int (nI ft), .int (nI bd), .int (nI oc)])), (k, .inr (1, [.int (nI kc), .int (nI kr), .ref ks, .ref kf, .ref km])), (ks, aI g 64 (fun j => nI (st_ j))), (sl, aI g 64 (fun j => nI (se j))), (kf, aI g 192 (fun j => nI (fc_ j)))]) hw [0, 1, 2, 3, 4, 5, 6, 7] (by decide) rfl
          refine lv_istore (lv' := [(5, .int (nI (c * 32 + i))), (0, .ref r), (1, .ref f), (2, .ref k), (3, .int (nI i)), (4, .int (nI c))]) hx hb dX3_takeFactors_28 hl (by decide) rfl (fun ls hl => ?_)
          refine lv_aload_n hx hb dX3_takeFactors_30 rfl (lv_at hl 3 rfl) ?_
          refine r_get C hw in_X1 4 rfl rfl 2 (by decide) lk95 rfl dX3_takeFactors_31 ?_
          refine lv_iload hx hb dX3_takeFactors_34 (lv_at hl 0 rfl) ?_
          refine r_iald C hw 5 rfl (by omega) (by omega) dX3_takeFactors_36 ?_
          refine n_eq0 (tgt := 59) hx hb (by omega) dX3_takeFactors_37 (by decide) (fun c_s => ?_) (fun c_s => ?_)
          · skip
            refine lv_iinc (v := (nI (c + 1))) (lv' := [(4, .int (nI (c + 1))), (5, .int (nI (c * 32 + i))), (0, .ref r), (1, .ref f), (2, .ref k), (3, .int (nI i))]) hx hb dX3_takeFactors_59 hl (k := 5) rfl (nI_add _ _) (by decide) rfl (fun ls hl => ?_)
            refine lv_goto (tgt := 13) hx hb dX3_takeFactors_62 (by decide) ?_
            exact K (fcC_j hJ1) _ _ _ ⟨(by unfold fcC; first | (rw [if_pos c_s]; exact hw) | (rw [if_neg (by omega)]; exact hw)), (lv_sub hl [2, 3, 4, 5, 0] rfl)⟩
          · skip
            refine lv_aload_n hx hb dX3_takeFactors_40 rfl (lv_at hl 1 rfl) ?_
            refine lv_aload_n hx hb dX3_takeFactors_41 rfl (lv_at hl 1 rfl) ?_
            refine r_get C hw in_X3 0 rfl rfl 1 (by decide) lk18 rfl dX3_takeFactors_42 ?_
            refine lv_iload hx hb dX3_takeFactors_45 (lv_at hl 0 rfl) ?_
            refine r_iald C hw 6 rfl (by omega) (by omega) dX3_takeFactors_47 ?_
            refine lv_aload_n hx hb dX3_takeFactors_48 rfl (lv_at hl 3 rfl) ?_
            refine r_get C hw in_X1 4 rfl rfl 3 (by decide) lk126 rfl dX3_takeFactors_49 ?_
            refine lv_iload hx hb dX3_takeFactors_52 (lv_at hl 0 rfl) ?_
            refine lv_iconst (v := nI 3) hx hb dX3_takeFactors_54 (by decide) ?_
            refine n_mul hx hb dX3_takeFactors_55 ?_
            refine k_Vv (As := [.int (nI (se (c * 32 + i))), .ref kf, .int (nI ((c * 32 + i) * 3))]) (rest := []) (wr := [(f, .inr (2, [.int (nI st), .int (nI ly), .int (nI ck), .int (nI rt), .int (nI sp), .int (nI byt), .int (nI md), .int (nI ch), .int (nI bn), .int (nI ft), .int (nI bd), .int (nI oc)])), (k, .inr (1, [.int (nI kc), .int (nI kr), .ref ks, .ref kf, .ref km])), (ks, aI g 64 (fun j => nI (st_ j))), (sl, aI g 64 (fun j => nI (se j)))]) C hw (c_takeThirds l g _ r o sl co_ tp n fb lim T kf ((c * 32 + i) * 3) (se (c * 32 + i)) fc_ xb hT hn hl1 hJ.1 (by omega) (he _)) (cwV 3 hts gX3_takeFactors_X3_takeThirds rfl rfl rfl (by decide +kernel) ⟨Nat.le_of_ble_eq_true rfl, Nat.le_of_ble_eq_true rfl⟩) bl_T (fun _ _ _ => trivial) [0, 1, 2, 7] [3, 4, 5, 6] (by decide) rfl rfl (by decide) (by decide) 0 rfl rfl rfl hl.1 rfl (Nat.le_of_ble_eq_true rfl) dX3_takeFactors_56 ⟨Nat.le_of_ble_eq_true rfl, Nat.le_of_ble_eq_true rfl⟩ (fun u H locs hp hw => ?_)
            obtain rfl := hp
            have hw := Wd.sub (ws' := [(r, .inr (3, [.ref o, .ref sl, .ref co_, .int (nI ((thX T (8 * fb) lim (se (c * 32 + i)) xb).1.2.2))])), (o, .inr (0, [.ref tp, .int (nI fb), .int (nI lim), .int (nI ((thX T (8 * fb) lim (se (c * 32 + i)) xb).1.1)), .int (nI ((thX T (8 * fb) lim (se (c * 32 + i)) xb).1.2.1))])), (tp, aI g n (fun j => nI (T j))), (f, .inr (2, [.int (nI st), .int (nI ly), .int (nI ck), .int (nI rt), .int (nI sp), .int (nI byt), .int (nI md), .int (nI ch), .int (nI bn), .int (nI ft), .int (nI bd), .int (nI oc)])), (k, .inr (1, [.int (nI kc), .int (nI kr), .ref ks, .ref kf, .ref km])), (ks, aI g 64 (fun j => nI (st_ j))), (sl, aI g 64 (fun j => nI (se j))), (kf, aI g 192 (fun j => nI (put3 fc_ ((c * 32 + i) * 3) (thX T (8 * fb) lim (se (c * 32 + i)) xb).2.1 (thX T (8 * fb) lim (se (c * 32 + i)) xb).2.2.1 (thX T (8 * fb) lim (se (c * 32 + i)) xb).2.2.2 j)))]) hw [4, 5, 6, 0, 1, 2, 3, 7] (by decide) rfl
            refine lv_iinc (v := (nI (c + 1))) (lv' := [(4, .int (nI (c + 1))), (5, .int (nI (c * 32 + i))), (0, .ref r), (1, .ref f), (2, .ref k), (3, .int (nI i))]) hx hb dX3_takeFactors_59 hl (k := 5) rfl (nI_add _ _) (by decide) rfl (fun ls hl => ?_)
            refine lv_goto (tgt := 13) hx hb dX3_takeFactors_62 (by decide) ?_
            exact K (fcC_j hJ1) _ _ _ ⟨(by unfold fcC; first | (rw [if_pos c_s]; exact hw) | (rw [if_neg (by omega)]; exact hw)), (lv_sub hl [2, 3, 4, 5, 0] rfl)⟩
