abbrev rm_c_groupBitsOf : Room := { frames := 0, cells := 0, slots := 0, locals := 0 }
set_option maxHeartbeats 4000000 in
set_option maxRecDepth 100000 in
theorem c_groupBitsOf (l : Launch) (g : GT) (sz : Nat) (L : Nat) (h1 : L < 2 ^ 31) : CtI l g yX3_groupBitsOf wsX3_groupBitsOf rm_c_groupBitsOf [.int (nI L)] [] sz (fun _ => True) (fun rr u => rr = nI (gB L) ∧ u = []) (0) (0) := by
  refine ct_body (cc := cX3_groupBitsOf) (nL := 1) (ret := (some .int)) (by decide) rfl (Nat.le_of_ble_eq_true rfl) ?_
  intro p e s m below meth c ls C hin hsz hB hw hl
  obtain ⟨hx, hb, hml, hown, hts, hK, hA, hr, hlk⟩ := id C
  have hl : lv_has ls 1 [(0, .int (nI L))] := hl
  have hw : Wd g (va_A [] sz) s.heap [] s.heap [] := hw
  refine lv_iload_n hx hb dX3_groupBitsOf_0 rfl (lv_at hl 0 rfl) ?_
  by_cases c_1 : L = 3
  · refine lv_lookup (off := 35) (tgt := 36) hx hb dX3_groupBitsOf_1 (by decide) (by rw [c_1]; decide) (by decide) ?_
    refine lv_iconst (v := nI 5) hx hb dX3_groupBitsOf_36 (by decide) ?_
    exact r_iret C hw (Nat.le_refl _) (Nat.le_refl _) (⟨by unfold gB; (repeat' split) <;> first | rfl | omega, rfl⟩) dX3_groupBitsOf_37
  by_cases c_2 : L = 5
  · refine lv_lookup (off := 37) (tgt := 38) hx hb dX3_groupBitsOf_1 (by decide) (by rw [c_2]; decide) (by decide) ?_
    refine lv_bipush (v := nI 7) hx hb dX3_groupBitsOf_38 (by decide) ?_
    exact r_iret C hw (Nat.le_refl _) (Nat.le_refl _) (⟨by unfold gB; (repeat' split) <;> first | rfl | omega, rfl⟩) dX3_groupBitsOf_40
  by_cases c_3 : L = 9
  · refine lv_lookup (off := 40) (tgt := 41) hx hb dX3_groupBitsOf_1 (by decide) (by rw [c_3]; decide) (by decide) ?_
    refine lv_bipush (v := nI 10) hx hb dX3_groupBitsOf_41 (by decide) ?_
    exact r_iret C hw (Nat.le_refl _) (Nat.le_refl _) (⟨by unfold gB; (repeat' split) <;> first | rfl | omega, rfl⟩) dX3_groupBitsOf_43
  refine lv_lookup (off := 43) (tgt := 44) hx hb dX3_groupBitsOf_1 (by decide) (by rw [lv_osw (x := nI L) (k := nI 3) (fun q => c_1 ((nI_eq (by omega) (by omega)).mp q)) (by decide), lv_osw (x := nI L) (k := nI 5) (fun q => c_2 ((nI_eq (by omega) (by omega)).mp q)) (by decide), lv_osw (x := nI L) (k := nI 9) (fun q => c_3 ((nI_eq (by omega) (by omega)).mp q)) (by decide)]; rfl) (by decide) ?_
  refine lv_iconst (v := nI 0) hx hb dX3_groupBitsOf_44 (by decide) ?_
  exact r_iret C hw (Nat.le_refl _) (Nat.le_refl _) (⟨by unfold gB; (repeat' split) <;> first | rfl | omega, rfl⟩) dX3_groupBitsOf_45
abbrev rm_c_splitGroup : Room := { frames := 0, cells := 0, slots := 0, locals := 0 }
set_option maxHeartbeats 4000000 in
set_option maxRecDepth 100000 in
theorem c_splitGroup (l : Launch) (g : GT) (sz : Nat) (r o sl co_ bad v L : Nat) (co : Nat → Nat) (h1 : v < 2 ^ 31) (h2 : 0 < L) (h3 : L ≤ 9) : CtV l g yX3_splitGroup wsX3_splitGroup rm_c_splitGroup [.ref r, .int (nI v), .int (nI L)] [(r, .inr (3, [.ref o, .ref sl, .ref co_, .int (nI bad)])), (co_, aI g 3 (fun j => nI (co j)))] sz (fun _ => True) (fun u => u = [(r, .inr (3, [.ref o, .ref sl, .ref co_, .int (nI (if v < L * L * L then bad else 1))])), (co_, aI g 3 (fun j => nI (updN (updN (updN co 0 (v % L)) 1 (v / L % L)) 2 (v / L / L % L) j)))]) (0) (0) := by
  refine ct_body (cc := cX3_splitGroup) (nL := 5) (ret := none) (by decide) rfl (Nat.le_of_ble_eq_true rfl) ?_
  intro p e s m below meth c ls C hin hsz hB hw hl
  obtain ⟨hx, hb, hml, hown, hts, hK, hA, hr, hlk⟩ := id C
  have lk22 := hts (.fieldLink RX3 22 "SoundBench$FrameReader" "codes" "[I") (by decide +kernel)
  have lk38 := hts (.fieldLink RX3 38 "SoundBench$FrameReader" "bad" "Z") (by decide +kernel)
  have in_X3 : ∀ w ∈ wsX30, w ∈ wsX3_splitGroup := by unfold wsX3_splitGroup; intro w h; simp only [List.mem_cons, List.mem_append, h, or_true, true_or]
  have hl : lv_has ls 5 [(0, .ref r), (1, .int (nI v)), (2, .int (nI L))] := hl
  have hw : Wd g (va_A [(r, .inr (3, [.ref o, .ref sl, .ref co_, .int (nI bad)])), (co_, aI g 3 (fun j => nI (co j)))] sz) s.heap [(r, .inr (3, [.ref o, .ref sl, .ref co_, .int (nI bad)])), (co_, aI g 3 (fun j => nI (co j)))] s.heap [] := hw
  have hL2 : L * L ≤ 9 * 9 := Nat.mul_le_mul h3 h3
  have hL3 : L * L * L ≤ 9 * 9 * 9 := Nat.mul_le_mul hL2 h3
  refine lv_iload_n hx hb dX3_splitGroup_0 rfl (lv_at hl 2 rfl) ?_
  refine n_gt0 (tgt := 5) hx hb (by omega) dX3_splitGroup_1 (by decide) (fun c_1 => ?_) (fun c_1 => ?_)
  · skip
    refine lv_iload_n hx hb dX3_splitGroup_5 rfl (lv_at hl 1 rfl) ?_
    refine lv_iload_n hx hb dX3_splitGroup_6 rfl (lv_at hl 2 rfl) ?_
    refine lv_iload_n hx hb dX3_splitGroup_7 rfl (lv_at hl 2 rfl) ?_
    refine n_mul hx hb dX3_splitGroup_8 ?_
    refine lv_iload_n hx hb dX3_splitGroup_9 rfl (lv_at hl 2 rfl) ?_
    refine n_mul hx hb dX3_splitGroup_10 ?_
    refine jw (pcj := 19) (restj := []) (fun H locs ls => Wd g (va_A [(r, .inr (3, [.ref o, .ref sl, .ref co_, .int (nI bad)])), (co_, aI g 3 (fun j => nI (co j)))] sz) s.heap [(r, .inr (3, [.ref o, .ref sl, .ref co_, .int (nI (if v < L * L * L then bad else 1))])), (co_, aI g 3 (fun j => nI (co j)))] H locs ∧ lv_has ls 5 [(0, .ref r), (1, .int (nI v)), (2, .int (nI L))]) ?_ ?_
    · intro H locs ls hJ
      obtain ⟨hw, hl⟩ := hJ
      refine lv_iload_n hx hb dX3_splitGroup_19 rfl (lv_at hl 1 rfl) ?_
      refine lv_istore_n (lv' := [(3, .int (nI v)), (0, .ref r), (1, .int (nI v)), (2, .int (nI L))]) hx hb dX3_splitGroup_20 rfl hl (by decide) rfl (fun ls hl => ?_)
      refine lv_iconst (v := nI 0) hx hb dX3_splitGroup_21 (by decide) ?_
      refine lv_istore (lv' := [(4, .int (nI 0)), (3, .int (nI v)), (0, .ref r), (1, .int (nI v)), (2, .int (nI L))]) hx hb dX3_splitGroup_22 hl (by decide) rfl (fun ls hl => ?_)
      refine lps (σ := Nat × (Nat → Nat)) (fun i (x : Nat × (Nat → Nat)) => (x.1 / L, updN x.2 i (x.1 % L))) (fun i x => x.1 < 2 ^ 31) (fun i x H locs ls => Wd g (va_A [(r, .inr (3, [.ref o, .ref sl, .ref co_, .int (nI bad)])), (co_, aI g 3 (fun j => nI (co j)))] sz) s.heap [(r, .inr (3, [.ref o, .ref sl, .ref co_, .int (nI (if v < L * L * L then bad else 1))])), (co_, aI g 3 (fun j => nI (x.2 j)))] H locs ∧ lv_has ls 5 [(0, .ref r), (2, .int (nI L)), (3, .int (nI x.1)), (4, .int (nI i))]) (3) ((v, co)) ?_ ?_ (h1) ⟨hw, (lv_sub hl [2, 4, 1, 0] rfl)⟩
      · intro x hJ hx_ H locs ls hI
        subst hx_
        obtain ⟨hw, hl⟩ := hI
        have hw : Wd g (va_A [(r, .inr (3, [.ref o, .ref sl, .ref co_, .int (nI bad)])), (co_, aI g 3 (fun j => nI (co j)))] sz) s.heap [(r, .inr (3, [.ref o, .ref sl, .ref co_, .int (nI (if v < L * L * L then bad else 1))])), (co_, aI g 3 (fun j => nI ((lp (fun i (x : Nat × (Nat → Nat)) => (x.1 / L, updN x.2 i (x.1 % L))) 3 (v, co)).2 j)))] H locs := hw
        have hl : lv_has ls 5 [(0, .ref r), (2, .int (nI L)), (3, .int (nI ((lp (fun i (x : Nat × (Nat → Nat)) => (x.1 / L, updN x.2 i (x.1 % L))) 3 (v, co)).1))), (4, .int (nI 3))] := hl
        refine lv_iload hx hb dX3_splitGroup_24 (lv_at hl 3 rfl) ?_
        refine lv_aload_n hx hb dX3_splitGroup_26 rfl (lv_at hl 0 rfl) ?_
        refine r_get C hw in_X3 0 rfl rfl 2 (by decide) lk22 rfl dX3_splitGroup_27 ?_
        refine r_alen C hw 1 0 rfl rfl rfl dX3_splitGroup_30 ?_
        refine n_cge (tgt := 54) hx hb (by omega) (by omega) dX3_splitGroup_31 (by decide) (fun c_2 => ?_) (fun c_2 => ?_)
        · skip
          exact r_vret C hw (Nat.le_refl _) (Nat.le_refl _) (rfl) dX3_splitGroup_54
        · skip
          exfalso; omega
      · intro i x hi hJ hxe H locs ls hI K
        obtain ⟨ra, ca⟩ := x
        obtain ⟨hw, hl⟩ := hI
        dsimp only at hJ
        have hw : Wd g (va_A [(r, .inr (3, [.ref o, .ref sl, .ref co_, .int (nI bad)])), (co_, aI g 3 (fun j => nI (co j)))] sz) s.heap [(r, .inr (3, [.ref o, .ref sl, .ref co_, .int (nI (if v < L * L * L then bad else 1))])), (co_, aI g 3 (fun j => nI (ca j)))] H locs := hw
        have hl : lv_has ls 5 [(0, .ref r), (2, .int (nI L)), (3, .int (nI ra)), (4, .int (nI i))] := hl
        refine lv_iload hx hb dX3_splitGroup_24 (lv_at hl 3 rfl) ?_
        refine lv_aload_n hx hb dX3_splitGroup_26 rfl (lv_at hl 0 rfl) ?_
        refine r_get C hw in_X3 0 rfl rfl 2 (by decide) lk22 rfl dX3_splitGroup_27 ?_
        refine r_alen C hw 1 0 rfl rfl rfl dX3_splitGroup_30 ?_
        refine n_cge (tgt := 54) hx hb (by omega) (by omega) dX3_splitGroup_31 (by decide) (fun c_3 => ?_) (fun c_3 => ?_)
        · skip
          exfalso; omega
        · skip
          refine lv_aload_n hx hb dX3_splitGroup_34 rfl (lv_at hl 0 rfl) ?_
          refine r_get C hw in_X3 0 rfl rfl 2 (by decide) lk22 rfl dX3_splitGroup_35 ?_
          refine lv_iload hx hb dX3_splitGroup_38 (lv_at hl 3 rfl) ?_
          refine lv_iload_n hx hb dX3_splitGroup_40 rfl (lv_at hl 2 rfl) ?_
          refine lv_iload_n hx hb dX3_splitGroup_41 rfl (lv_at hl 1 rfl) ?_
          refine n_rem hx hb dX3_splitGroup_42 (by omega) (by omega) (by omega) ?_
          refine r_iast C hw 1 rfl (by omega) (by omega) (ws' := [(r, .inr (3, [.ref o, .ref sl, .ref co_, .int (nI (if v < L * L * L then bad else 1))])), (co_, aI g 3 (upd (fun j => nI (ca j)) i (nI (ra % L))))]) rfl dX3_splitGroup_43 (fun H locs hw => ?_)
          rw [updN_I] at hw
          have hw : Wd g (va_A [(r, .inr (3, [.ref o, .ref sl, .ref co_, .int (nI bad)])), (co_, aI g 3 (fun j => nI (co j)))] sz) s.heap [(r, .inr (3, [.ref o, .ref sl, .ref co_, .int (nI (if v < L * L * L then bad else 1))])), (co_, aI g 3 (fun j => nI (updN ca i (ra % L) j)))] H locs := hw
          refine lv_iload_n hx hb dX3_splitGroup_44 rfl (lv_at hl 2 rfl) ?_
          refine lv_iload_n hx hb dX3_splitGroup_45 rfl (lv_at hl 1 rfl) ?_
          refine n_div hx hb dX3_splitGroup_46 (by omega) (by omega) (by omega) ?_
          refine lv_istore_n (lv' := [(3, .int (nI (ra / L))), (0, .ref r), (2, .int (nI L)), (4, .int (nI i))]) hx hb dX3_splitGroup_47 rfl hl (by decide) rfl (fun ls hl => ?_)
          refine lv_iinc (v := (nI (i + 1))) (lv' := [(4, .int (nI (i + 1))), (3, .int (nI (ra / L))), (0, .ref r), (2, .int (nI L))]) hx hb dX3_splitGroup_48 hl (k := 3) rfl (nI_add _ _) (by decide) rfl (fun ls hl => ?_)
          refine lv_goto (tgt := 24) hx hb dX3_splitGroup_51 (by decide) ?_
          exact K (Nat.lt_of_le_of_lt (Nat.div_le_self _ _) hJ) _ _ _ ⟨hw, (lv_sub hl [2, 3, 1, 0] rfl)⟩
    · intro J_4
      refine n_clt (tgt := 19) hx hb (by omega) (by omega) dX3_splitGroup_11 (by decide) (fun c_v => ?_) (fun c_v => ?_)
      · skip
        exact J_4 _ _ _ ⟨(by first | (rw [if_pos c_v]; exact hw) | (rw [if_neg (by omega)]; exact hw)), (lv_sub hl [0, 1, 2] rfl)⟩
      · skip
        refine lv_aload_n hx hb dX3_splitGroup_14 rfl (lv_at hl 0 rfl) ?_
        refine lv_iconst (v := nI 1) hx hb dX3_splitGroup_15 (by decide) ?_
        refine r_put C hw in_X3 tyX3_ok nmX3 0 rfl rfl 3 (by decide) lk38 rfl (by decide) (by decide) (Nat.le_of_ble_eq_true rfl) (ws' := [(r, .inr (3, [.ref o, .ref sl, .ref co_, .int (nI 1)])), (co_, aI g 3 (fun j => nI (co j)))]) rfl dX3_splitGroup_16 (fun H locs hw => ?_)
        exact J_4 _ _ _ ⟨(by first | (rw [if_pos c_v]; exact hw) | (rw [if_neg (by omega)]; exact hw)), (lv_sub hl [0, 1, 2] rfl)⟩
  · skip
    exfalso; omega
abbrev rm_c_takeCodes : Room := { frames := 1, cells := 0, slots := 0, locals := 24 }
set_option maxHeartbeats 4000000 in
set_option maxRecDepth 100000 in
theorem c_takeCodes (l : Launch) (g : GT) (sz : Nat) (r o sl co_ tp n fb lim : Nat) (T : Nat → Nat) (at1 L : Nat) (x0 : Nat × Nat × Nat × (Nat → Nat)) (hT : ∀ j, T j < 256) (hn : n < 2 ^ 27) (hl1 : 8 * fb + lim ≤ 8 * n) (hj : jC lim x0) (ha : at1 = 1 ∨ at1 = 3) (hL : stOK L) (hL0 : 0 < L) : CtV l g yX3_takeCodes wsX3_takeCodes rm_c_takeCodes [.ref r, .int (nI at1), .int (nI L)] [(r, .inr (3, [.ref o, .ref sl, .ref co_, .int (nI x0.2.2.1)])), (o, .inr (0, [.ref tp, .int (nI fb), .int (nI lim), .int (nI x0.1), .int (nI x0.2.1)])), (tp, aI g n (fun j => nI (T j))), (co_, aI g 3 (fun j => nI (x0.2.2.2 j)))] sz (fun _ => True) (fun u => u = [(r, .inr (3, [.ref o, .ref sl, .ref co_, .int (nI ((cdA T (8 * fb) lim at1 L x0).2.2.1))])), (o, .inr (0, [.ref tp, .int (nI fb), .int (nI lim), .int (nI ((cdA T (8 * fb) lim at1 L x0).1)), .int (nI ((cdA T (8 * fb) lim at1 L x0).2.1))])), (tp, aI g n (fun j => nI (T j))), (co_, aI g 3 (fun j => nI ((cdA T (8 * fb) lim at1 L x0).2.2.2 j)))]) (0) (0) := by
  refine ct_body (cc := cX3_takeCodes) (nL := 5) (ret := none) (by decide) rfl (Nat.le_of_ble_eq_true rfl) ?_
  intro p e s m below meth c ls C hin hsz hB hw hl
  obtain ⟨hx, hb, hml, hown, hts, hK, hA, hr, hlk⟩ := id C
  have lk12 := hts (.fieldLink RX3 12 "SoundBench$FrameReader" "bits" "LSoundBench$Bits;") (by decide +kernel)
  have lk22 := hts (.fieldLink RX3 22 "SoundBench$FrameReader" "codes" "[I") (by decide +kernel)
  have lk38 := hts (.fieldLink RX3 38 "SoundBench$FrameReader" "bad" "Z") (by decide +kernel)
  have in_X3 : ∀ w ∈ wsX30, w ∈ wsX3_takeCodes := by unfold wsX3_takeCodes; intro w h; simp only [List.mem_cons, List.mem_append, h, or_true, true_or]
  have hl : lv_has ls 5 [(0, .ref r), (1, .int (nI at1)), (2, .int (nI L))] := hl
  have hw : Wd g (va_A [(r, .inr (3, [.ref o, .ref sl, .ref co_, .int (nI x0.2.2.1)])), (o, .inr (0, [.ref tp, .int (nI fb), .int (nI lim), .int (nI x0.1), .int (nI x0.2.1)])), (tp, aI g n (fun j => nI (T j))), (co_, aI g 3 (fun j => nI (x0.2.2.2 j)))] sz) s.heap [(r, .inr (3, [.ref o, .ref sl, .ref co_, .int (nI x0.2.2.1)])), (o, .inr (0, [.ref tp, .int (nI fb), .int (nI lim), .int (nI x0.1), .int (nI x0.2.1)])), (tp, aI g n (fun j => nI (T j))), (co_, aI g 3 (fun j => nI (x0.2.2.2 j)))] s.heap [] := hw
  have hL1 := stOK_le hL
  have hg : gB L ≤ 10 := by unfold gB; (repeat' split) <;> omega
  have hbc := bcN_ok hL
  have hv0 := tkV_lt T (8 * fb) lim x0.1 (gB L)
  have hv1 := Nat.pow_le_pow_right (n := 2) (by omega) hg
  refine lv_iload_n hx hb dX3_takeCodes_0 rfl (lv_at hl 1 rfl) ?_
  refine lv_aload_n hx hb dX3_takeCodes_1 rfl (lv_at hl 0 rfl) ?_
  refine r_get C hw in_X3 0 rfl rfl 2 (by decide) lk22 rfl dX3_takeCodes_2 ?_
  refine r_alen C hw 3 0 rfl rfl rfl dX3_takeCodes_5 ?_
  refine jw (pcj := 17) (restj := [.int (nI (if at1 = 3 then gB L else 0))]) (fun H locs ls => Wd g (va_A [(r, .inr (3, [.ref o, .ref sl, .ref co_, .int (nI x0.2.2.1)])), (o, .inr (0, [.ref tp, .int (nI fb), .int (nI lim), .int (nI x0.1), .int (nI x0.2.1)])), (tp, aI g n (fun j => nI (T j))), (co_, aI g 3 (fun j => nI (x0.2.2.2 j)))] sz) s.heap [(r, .inr (3, [.ref o, .ref sl, .ref co_, .int (nI x0.2.2.1)])), (o, .inr (0, [.ref tp, .int (nI fb), .int (nI lim), .int (nI x0.1), .int (nI x0.2.1)])), (tp, aI g n (fun j => nI (T j))), (co_, aI g 3 (fun j => nI (x0.2.2.2 j)))] H locs ∧ lv_has ls 5 [(0, .ref r), (1, .int (nI at1)), (2, .int (nI L))]) ?_ ?_
  · intro H locs ls hJ
    obtain ⟨hw, hl⟩ := hJ
    refine lv_istore_n (lv' := [(3, .int (nI (if at1 = 3 then gB L else 0))), (0, .ref r), (1, .int (nI at1)), (2, .int (nI L))]) hx hb dX3_takeCodes_17 rfl hl (by decide) rfl (fun ls hl => ?_)
    refine lv_iload_n hx hb dX3_takeCodes_18 rfl (lv_at hl 0 rfl) ?_
    refine n_le0 (tgt := 36) hx hb (by split <;> omega) dX3_takeCodes_19 (by decide) (fun c_g => ?_) (fun c_g => ?_)
    · skip
      have c_n : ¬ (at1 = 3 ∧ gB L > 0) := by { intro q; rw [if_pos q.1] at c_g; omega }
      refine lv_iconst (v := nI 0) hx hb dX3_takeCodes_36 (by decide) ?_
      refine lv_istore (lv' := [(4, .int (nI 0)), (3, .int (nI (if at1 = 3 then gB L else 0))), (0, .ref r), (1, .int (nI at1)), (2, .int (nI L))]) hx hb dX3_takeCodes_37 hl (by decide) rfl (fun ls hl => ?_)
      refine lps (σ := Nat × Nat × Nat × (Nat → Nat)) (cd1 T (8 * fb) lim L) (fun i x => jC lim (x.1, x.2.1, x.2.2.1, x.2.2.2)) (fun i x H locs ls => Wd g (va_A [(r, .inr (3, [.ref o, .ref sl, .ref co_, .int (nI x0.2.2.1)])), (o, .inr (0, [.ref tp, .int (nI fb), .int (nI lim), .int (nI x0.1), .int (nI x0.2.1)])), (tp, aI g n (fun j => nI (T j))), (co_, aI g 3 (fun j => nI (x0.2.2.2 j)))] sz) s.heap [(r, .inr (3, [.ref o, .ref sl, .ref co_, .int (nI x.2.2.1)])), (o, .inr (0, [.ref tp, .int (nI fb), .int (nI lim), .int (nI x.1), .int (nI x.2.1)])), (tp, aI g n (fun j => nI (T j))), (co_, aI g 3 (fun j => nI (x.2.2.2 j)))] H locs ∧ lv_has ls 5 [(0, .ref r), (1, .int (nI at1)), (2, .int (nI L)), (4, .int (nI i))]) (at1) (x0) ?_ ?_ (hj) ⟨hw, (lv_sub hl [2, 3, 4, 0] rfl)⟩
      · intro x hJ hx_ H locs ls hI
        subst hx_
        obtain ⟨hw, hl⟩ := hI
        have hw : Wd g (va_A [(r, .inr (3, [.ref o, .ref sl, .ref co_, .int (nI x0.2.2.1)])), (o, .inr (0, [.ref tp, .int (nI fb), .int (nI lim), .int (nI x0.1), .int (nI x0.2.1)])), (tp, aI g n (fun j => nI (T j))), (co_, aI g 3 (fun j => nI (x0.2.2.2 j)))] sz) s.heap [(r, .inr (3, [.ref o, .ref sl, .ref co_, .int (nI ((lp (cd1 T (8 * fb) lim L) at1 x0).2.2.1))])), (o, .inr (0, [.ref tp, .int (nI fb), .int (nI lim), .int (nI ((lp (cd1 T (8 * fb) lim L) at1 x0).1)), .int (nI ((lp (cd1 T (8 * fb) lim L) at1 x0).2.1))])), (tp, aI g n (fun j => nI (T j))), (co_, aI g 3 (fun j => nI ((lp (cd1 T (8 * fb) lim L) at1 x0).2.2.2 j)))] H locs := hw
        have hl : lv_has ls 5 [(0, .ref r), (1, .int (nI at1)), (2, .int (nI L)), (4, .int (nI at1))] := hl
        refine lv_iload hx hb dX3_takeCodes_39 (lv_at hl 3 rfl) ?_
        refine lv_iload_n hx hb dX3_takeCodes_41 rfl (lv_at hl 1 rfl) ?_
        refine n_cge (tgt := 95) hx hb (by omega) (by omega) dX3_takeCodes_42 (by decide) (fun c_1 => ?_) (fun c_1 => ?_)
        · skip
          exact r_vret C hw (Nat.le_refl _) (Nat.le_refl _) (by unfold cdA; rw [if_neg c_n]) dX3_takeCodes_95
        · skip
          exfalso; omega
      · intro i x hi hJ hxe H locs ls hI K
        obtain ⟨pa, ba, da, ca⟩ := x
        obtain ⟨hw, hl⟩ := hI
        dsimp only at hJ
        have hw : Wd g (va_A [(r, .inr (3, [.ref o, .ref sl, .ref co_, .int (nI x0.2.2.1)])), (o, .inr (0, [.ref tp, .int (nI fb), .int (nI lim), .int (nI x0.1), .int (nI x0.2.1)])), (tp, aI g n (fun j => nI (T j))), (co_, aI g 3 (fun j => nI (x0.2.2.2 j)))] sz) s.heap [(r, .inr (3, [.ref o, .ref sl, .ref co_, .int (nI da)])), (o, .inr (0, [.ref tp, .int (nI fb), .int (nI lim), .int (nI pa), .int (nI ba)])), (tp, aI g n (fun j => nI (T j))), (co_, aI g 3 (fun j => nI (ca j)))] H locs := hw
        have hl : lv_has ls 5 [(0, .ref r), (1, .int (nI at1)), (2, .int (nI L)), (4, .int (nI i))] := hl
        have hvv := tkV_lt T (8 * fb) lim pa (bcN L)
        have hv2 := Nat.pow_le_pow_right (n := 2) (by omega) hbc.2
        have hJ1 := hJ
        refine lv_iload hx hb dX3_takeCodes_39 (lv_at hl 3 rfl) ?_
        refine lv_iload_n hx hb dX3_takeCodes_41 rfl (lv_at hl 1 rfl) ?_
        refine n_cge (tgt := 95) hx hb (by omega) (by omega) dX3_takeCodes_42 (by decide) (fun c_2 => ?_) (fun c_2 => ?_)
        · skip
          exfalso; omega
        · skip
          refine lv_iload hx hb dX3_takeCodes_45 (lv_at hl 3 rfl) ?_
          refine lv_aload_n hx hb dX3_takeCodes_47 rfl (lv_at hl 0 rfl) ?_
          refine r_get C hw in_X3 0 rfl rfl 2 (by decide) lk22 rfl dX3_takeCodes_48 ?_
          refine r_alen C hw 3 0 rfl rfl rfl dX3_takeCodes_51 ?_
          refine n_cge (tgt := 95) hx hb (by omega) (by omega) dX3_takeCodes_52 (by decide) (fun c_3 => ?_) (fun c_3 => ?_)
          · skip
            exfalso; omega
          · skip
            refine lv_aload_n hx hb dX3_takeCodes_55 rfl (lv_at hl 0 rfl) ?_
            refine r_get C hw in_X3 0 rfl rfl 2 (by decide) lk22 rfl dX3_takeCodes_56 ?_
            refine lv_iload hx hb dX3_takeCodes_59 (lv_at hl 3 rfl) ?_
            refine lv_aload_n hx hb dX3_takeCodes_61 rfl (lv_at hl 0 rfl) ?_
            refine r_get C hw in_X3 0 rfl rfl 0 (by decide) lk12 rfl dX3_takeCodes_62 ?_
            refine lv_iload_n hx hb dX3_takeCodes_65 rfl (lv_at hl 2 rfl) ?_
            refine k_Si (As := [.int (nI L)]) (rest := [.ref o, .int (nI i), .ref co_]) (wr := [(r, .inr (3, [.ref o, .ref sl, .ref co_, .int (nI da)])), (o, .inr (0, [.ref tp, .int (nI fb), .int (nI lim), .int (nI pa), .int (nI ba)])), (tp, aI g n (fun j => nI (T j))), (co_, aI g 3 (fun j => nI (ca j)))]) C hw (c_bitCount l g _ (nI L)) (va_cwS 1 hts gX3_takeCodes_J6_bitCount_0f7a4 rfl rfl rfl (by decide +kernel) ⟨Nat.le_of_ble_eq_true rfl, Nat.le_of_ble_eq_true rfl⟩) bl_T (fun _ _ _ => trivial) [] [0, 1, 2, 3] (by decide) rfl rfl (by decide) (by decide) rfl hl.1 rfl (Nat.le_of_ble_eq_true rfl) dX3_takeCodes_66 ⟨Nat.le_of_ble_eq_true rfl, Nat.le_of_ble_eq_true rfl⟩ (fun r_4 u H locs hp hw => ?_)
            obtain ⟨rfl, rfl⟩ := hp
            have hw := Wd.sub (ws' := [(r, .inr (3, [.ref o, .ref sl, .ref co_, .int (nI da)])), (o, .inr (0, [.ref tp, .int (nI fb), .int (nI lim), .int (nI pa), .int (nI ba)])), (tp, aI g n (fun j => nI (T j))), (co_, aI g 3 (fun j => nI (ca j)))]) hw [0, 1, 2, 3] (by decide) rfl
            refine tp1 (v' := (nI (bcN L))) hbc.1 ?_
            refine k_Vi (As := [.int (nI (bcN L))]) (rest := [.int (nI i), .ref co_]) (wr := [(r, .inr (3, [.ref o, .ref sl, .ref co_, .int (nI da)])), (co_, aI g 3 (fun j => nI (ca j)))]) C hw (c_take l g _ o tp n fb lim pa ba (bcN L) T hT hn hl1 hJ.1 (by omega)) (cwV 1 hts gX3_takeCodes_X0_take rfl rfl rfl (by decide +kernel) ⟨Nat.le_of_ble_eq_true rfl, Nat.le_of_ble_eq_true rfl⟩) bl_T (fun _ _ _ => trivial) [1, 2] [0, 3] (by decide) rfl rfl (by decide) (by decide) 1 rfl rfl rfl hl.1 rfl (Nat.le_of_ble_eq_true rfl) dX3_takeCodes_69 ⟨Nat.le_of_ble_eq_true rfl, Nat.le_of_ble_eq_true rfl⟩ (fun r_5 u H locs hp hw => ?_)
            obtain ⟨rfl, rfl⟩ := hp
            have hw := Wd.sub (ws' := [(r, .inr (3, [.ref o, .ref sl, .ref co_, .int (nI da)])), (o, .inr (0, [.ref tp, .int (nI fb), .int (nI lim), .int (nI (tkP lim pa (bcN L))), .int (nI (tkB lim pa (bcN L) ba))])), (tp, aI g n (fun j => nI (T j))), (co_, aI g 3 (fun j => nI (ca j)))]) hw [0, 2, 3, 1] (by decide) rfl
            refine r_iast C hw 3 rfl (by omega) (by omega) (ws' := [(r, .inr (3, [.ref o, .ref sl, .ref co_, .int (nI da)])), (o, .inr (0, [.ref tp, .int (nI fb), .int (nI lim), .int (nI (tkP lim pa (bcN L))), .int (nI (tkB lim pa (bcN L) ba))])), (tp, aI g n (fun j => nI (T j))), (co_, aI g 3 (upd (fun j => nI (ca j)) i (nI (tkV T (8 * fb) lim pa (bcN L)))))]) rfl dX3_takeCodes_72 (fun H locs hw => ?_)
            rw [updN_I] at hw
            have hw : Wd g (va_A [(r, .inr (3, [.ref o, .ref sl, .ref co_, .int (nI x0.2.2.1)])), (o, .inr (0, [.ref tp, .int (nI fb), .int (nI lim), .int (nI x0.1), .int (nI x0.2.1)])), (tp, aI g n (fun j => nI (T j))), (co_, aI g 3 (fun j => nI (x0.2.2.2 j)))] sz) s.heap [(r, .inr (3, [.ref o, .ref sl, .ref co_, .int (nI da)])), (o, .inr (0, [.ref tp, .int (nI fb), .int (nI lim), .int (nI (tkP lim pa (bcN L))), .int (nI (tkB lim pa (bcN L) ba))])), (tp, aI g n (fun j => nI (T j))), (co_, aI g 3 (fun j => nI (updN ca i (tkV T (8 * fb) lim pa (bcN L)) j)))] H locs := hw
            refine lv_aload_n hx hb dX3_takeCodes_73 rfl (lv_at hl 0 rfl) ?_
            refine r_get C hw in_X3 0 rfl rfl 2 (by decide) lk22 rfl dX3_takeCodes_74 ?_
            refine lv_iload hx hb dX3_takeCodes_77 (lv_at hl 3 rfl) ?_
            refine r_iald C hw 3 rfl (by omega) (by omega) dX3_takeCodes_79 ?_
            refine tp1 (v' := (nI (tkV T (8 * fb) lim pa (bcN L)))) (congrArg nI (updN_s _ _ _)) ?_
            refine lv_iload_n hx hb dX3_takeCodes_80 rfl (lv_at hl 2 rfl) ?_
            refine n_cne (tgt := 89) hx hb (by omega) (by omega) dX3_takeCodes_81 (by decide) (fun c_v => ?_) (fun c_v => ?_)
            · skip
              refine lv_iinc (v := (nI (i + 1))) (lv' := [(4, .int (nI (i + 1))), (0, .ref r), (1, .int (nI at1)), (2, .int (nI L))]) hx hb dX3_takeCodes_89 hl (k := 3) rfl (nI_add _ _) (by decide) rfl (fun ls hl => ?_)
              refine lv_goto (tgt := 39) hx hb dX3_takeCodes_92 (by decide) ?_
              exact K (⟨tkP_le hJ1.1, tkB_le hJ1.2.1, ite_le (by omega) hJ1.2.2.1, updP (P := fun v => v < 65536) hJ1.2.2.2 (by show tkV T (8 * fb) lim pa (bcN L) < 65536; omega)⟩) _ _ _ ⟨(by unfold cd1; first | (rw [if_pos c_v]; exact hw) | (rw [if_neg c_v]; exact hw)), (lv_sub hl [1, 2, 3, 0] rfl)⟩
            · skip
              refine lv_aload_n hx hb dX3_takeCodes_84 rfl (lv_at hl 0 rfl) ?_
              refine lv_iconst (v := nI 1) hx hb dX3_takeCodes_85 (by decide) ?_
              refine r_put C hw in_X3 tyX3_ok nmX3 0 rfl rfl 3 (by decide) lk38 rfl (by decide) (by decide) (Nat.le_of_ble_eq_true rfl) (ws' := [(r, .inr (3, [.ref o, .ref sl, .ref co_, .int (nI 1)])), (o, .inr (0, [.ref tp, .int (nI fb), .int (nI lim), .int (nI (tkP lim pa (bcN L))), .int (nI (tkB lim pa (bcN L) ba))])), (tp, aI g n (fun j => nI (T j))), (co_, aI g 3 (fun j => nI (updN ca i (tkV T (8 * fb) lim pa (bcN L)) j)))]) rfl dX3_takeCodes_86 (fun H locs hw => ?_)
              refine lv_iinc (v := (nI (i + 1))) (lv' := [(4, .int (nI (i + 1))), (0, .ref r), (1, .int (nI at1)), (2, .int (nI L))]) hx hb dX3_takeCodes_89 hl (k := 3) rfl (nI_add _ _) (by decide) rfl (fun ls hl => ?_)
              refine lv_goto (tgt := 39) hx hb dX3_takeCodes_92 (by decide) ?_
              exact K (⟨tkP_le hJ1.1, tkB_le hJ1.2.1, ite_le (by omega) hJ1.2.2.1, updP (P := fun v => v < 65536) hJ1.2.2.2 (by show tkV T (8 * fb) lim pa (bcN L) < 65536; omega)⟩) _ _ _ ⟨(by unfold cd1; first | (rw [if_pos c_v]; exact hw) | (rw [if_neg c_v]; exact hw)), (lv_sub hl [1, 2, 3, 0] rfl)⟩
    · skip
      have c_3 : at1 = 3 := by { by_cases q : at1 = 3; exact q; rw [if_neg q] at c_g; omega }
      rw [if_pos c_3] at c_g hl
      have h9 : L ≤ 9 := by { unfold gB at c_g; (repeat' split at c_g) <;> omega }
      refine lv_aload_n hx hb dX3_takeCodes_22 rfl (lv_at hl 1 rfl) ?_
      refine lv_aload_n hx hb dX3_takeCodes_23 rfl (lv_at hl 1 rfl) ?_
      refine r_get C hw in_X3 0 rfl rfl 0 (by decide) lk12 rfl dX3_takeCodes_24 ?_
      refine lv_iload_n hx hb dX3_takeCodes_27 rfl (lv_at hl 0 rfl) ?_
      refine k_Vi (As := [.int (nI (gB L))]) (rest := [.ref r]) (wr := [(r, .inr (3, [.ref o, .ref sl, .ref co_, .int (nI x0.2.2.1)])), (co_, aI g 3 (fun j => nI (x0.2.2.2 j)))]) C hw (c_take l g _ o tp n fb lim x0.1 x0.2.1 (gB L) T hT hn hl1 hj.1 (by omega)) (cwV 1 hts gX3_takeCodes_X0_take rfl rfl rfl (by decide +kernel) ⟨Nat.le_of_ble_eq_true rfl, Nat.le_of_ble_eq_true rfl⟩) bl_T (fun _ _ _ => trivial) [1, 2] [0, 3] (by decide) rfl rfl (by decide) (by decide) 1 rfl rfl rfl hl.1 rfl (Nat.le_of_ble_eq_true rfl) dX3_takeCodes_28 ⟨Nat.le_of_ble_eq_true rfl, Nat.le_of_ble_eq_true rfl⟩ (fun r_6 u H locs hp hw => ?_)
      obtain ⟨rfl, rfl⟩ := hp
      have hw := Wd.sub (ws' := [(r, .inr (3, [.ref o, .ref sl, .ref co_, .int (nI x0.2.2.1)])), (o, .inr (0, [.ref tp, .int (nI fb), .int (nI lim), .int (nI (tkP lim x0.1 (gB L))), .int (nI (tkB lim x0.1 (gB L) x0.2.1))])), (tp, aI g n (fun j => nI (T j))), (co_, aI g 3 (fun j => nI (x0.2.2.2 j)))]) hw [0, 2, 3, 1] (by decide) rfl
      refine lv_iload_n hx hb dX3_takeCodes_31 rfl (lv_at hl 3 rfl) ?_
      refine k_Vv (As := [.int (nI (tkV T (8 * fb) lim x0.1 (gB L))), .int (nI L)]) (rest := []) (wr := [(o, .inr (0, [.ref tp, .int (nI fb), .int (nI lim), .int (nI (tkP lim x0.1 (gB L))), .int (nI (tkB lim x0.1 (gB L) x0.2.1))])), (tp, aI g n (fun j => nI (T j)))]) C hw (c_splitGroup l g _ r o sl co_ x0.2.2.1 (tkV T (8 * fb) lim x0.1 (gB L)) L x0.2.2.2 (by omega) hL0 h9) (cwV 2 hts gX3_takeCodes_X3_splitGroup rfl rfl rfl (by decide +kernel) ⟨Nat.le_of_ble_eq_true rfl, Nat.le_of_ble_eq_true rfl⟩) bl_T (fun _ _ _ => trivial) [0, 3] [1, 2] (by decide) rfl rfl (by decide) (by decide) 0 rfl rfl rfl hl.1 rfl (Nat.le_of_ble_eq_true rfl) dX3_takeCodes_32 ⟨Nat.le_of_ble_eq_true rfl, Nat.le_of_ble_eq_true rfl⟩ (fun u H locs hp hw => ?_)
      obtain rfl := hp
      have hw := Wd.sub (ws' := [(r, .inr (3, [.ref o, .ref sl, .ref co_, .int (nI (if tkV T (8 * fb) lim x0.1 (gB L) < L * L * L then x0.2.2.1 else 1))])), (o, .inr (0, [.ref tp, .int (nI fb), .int (nI lim), .int (nI (tkP lim x0.1 (gB L))), .int (nI (tkB lim x0.1 (gB L) x0.2.1))])), (tp, aI g n (fun j => nI (T j))), (co_, aI g 3 (fun j => nI (updN (updN (updN x0.2.2.2 0 (tkV T (8 * fb) lim x0.1 (gB L) % L)) 1 (tkV T (8 * fb) lim x0.1 (gB L) / L % L)) 2 (tkV T (8 * fb) lim x0.1 (gB L) / L / L % L) j)))]) hw [2, 0, 1, 3] (by decide) rfl
      exact r_vret C hw (Nat.le_refl _) (Nat.le_refl _) (by unfold cdA; rw [if_pos (show at1 = 3 ∧ gB L > 0 from ⟨c_3, c_g⟩)]; rfl) dX3_takeCodes_35
  · intro J_8
    refine n_cne (tgt := 16) hx hb (by omega) (by omega) dX3_takeCodes_6 (by decide) (fun c_a => ?_) (fun c_a => ?_)
    · skip
      refine lv_iconst (v := nI 0) hx hb dX3_takeCodes_16 (by decide) ?_
      refine tp1 (v' := (nI (if at1 = 3 then gB L else 0))) (by first | rw [if_pos (by omega)] | rw [if_neg (by omega)]) ?_
      exact J_8 _ _ _ ⟨hw, (lv_sub hl [0, 1, 2] rfl)⟩
    · skip
      refine lv_iload_n hx hb dX3_takeCodes_9 rfl (lv_at hl 2 rfl) ?_
      refine k_Si (As := [.int (nI L)]) (rest := []) (wr := [(r, .inr (3, [.ref o, .ref sl, .ref co_, .int (nI x0.2.2.1)])), (o, .inr (0, [.ref tp, .int (nI fb), .int (nI lim), .int (nI x0.1), .int (nI x0.2.1)])), (tp, aI g n (fun j => nI (T j))), (co_, aI g 3 (fun j => nI (x0.2.2.2 j)))]) C hw (c_groupBitsOf l g _ L (by omega)) (va_cwS 1 hts gX3_takeCodes_X3_groupBitsOf rfl rfl rfl (by decide +kernel) ⟨Nat.le_of_ble_eq_true rfl, Nat.le_of_ble_eq_true rfl⟩) bl_T (fun _ _ _ => trivial) [] [0, 1, 2, 3] (by decide) rfl rfl (by decide) (by decide) rfl hl.1 rfl (Nat.le_of_ble_eq_true rfl) dX3_takeCodes_10 ⟨Nat.le_of_ble_eq_true rfl, Nat.le_of_ble_eq_true rfl⟩ (fun r_9 u H locs hp hw => ?_)
      obtain ⟨rfl, rfl⟩ := hp
      have hw := Wd.sub (ws' := [(r, .inr (3, [.ref o, .ref sl, .ref co_, .int (nI x0.2.2.1)])), (o, .inr (0, [.ref tp, .int (nI fb), .int (nI lim), .int (nI x0.1), .int (nI x0.2.1)])), (tp, aI g n (fun j => nI (T j))), (co_, aI g 3 (fun j => nI (x0.2.2.2 j)))]) hw [0, 1, 2, 3] (by decide) rfl
      refine lv_goto (tgt := 17) hx hb dX3_takeCodes_13 (by decide) ?_
      refine tp1 (v' := (nI (if at1 = 3 then gB L else 0))) (by first | rw [if_pos (by omega)] | rw [if_neg (by omega)]) ?_
      exact J_8 _ _ _ ⟨hw, (lv_sub hl [0, 1, 2] rfl)⟩
abbrev rm_c_sampleOf : Room := { frames := 0, cells := 0, slots := 0, locals := 0 }
set_option maxHeartbeats 4000000 in
set_option maxRecDepth 100000 in
theorem c_sampleOf (l : Launch) (g : GT) (sz : Nat) (tb : Nat → Nat) (c_ L f : Nat) (h1 : c_ < 65536) (h2 : L ≤ 65535) (h3 : f < 64) : CtI l g yX1_sampleOf wsX1_sampleOf rm_c_sampleOf [.int (nI c_), .int (nI L), .int (nI f)] [] sz (fun U => Sx tb (va_A [] sz) U U.heap) (fun rr u => rr = smp c_ L f ∧ u = []) (0) (0) := by
  refine ct_body (cc := cX1_sampleOf) (nL := 5) (ret := (some .int)) (by decide) rfl (Nat.le_of_ble_eq_true rfl) ?_
  intro p e s m below meth c ls C hin hsz hB hw hl
  obtain ⟨hx, hb, hml, hown, hts, hK, hA, hr, hlk⟩ := id C
  have lk34 := hts (.fieldLink RX1 34 "SoundBench$Content" "FACTOR_TOPS" "[I") (by decide +kernel)
  have hl : lv_has ls 5 [(0, .int (nI c_)), (1, .int (nI L)), (2, .int (nI f))] := hl
  have hw : Wd g (va_A [] sz) s.heap [] s.heap [] := hw
  have h8 : tN 8 (f % 3) ≤ 2097152 := tN_le 8 (by decide)
  refine lv_iload_n hx hb dX1_sampleOf_0 rfl (lv_at hl 1 rfl) ?_
  refine n_le0 (tgt := 8) hx hb (by omega) dX1_sampleOf_1 (by decide) (fun c_1 => ?_) (fun c_1 => ?_)
  · skip
    refine lv_iconst (v := nI 0) hx hb dX1_sampleOf_8 (by decide) ?_
    exact r_iret C hw (Nat.le_refl _) (Nat.le_refl _) (⟨by unfold smp; rw [if_pos (by omega)]; rfl, rfl⟩) dX1_sampleOf_9
  · skip
    refine lv_iload_n hx hb dX1_sampleOf_4 rfl (lv_at hl 2 rfl) ?_
    refine n_ge0 (tgt := 10) hx hb (by omega) dX1_sampleOf_5 (by decide) ?_
    refine r_gs C hw hB 8 (by decide) lk34 dX1_sampleOf_10 ?_
    refine lv_iload_n hx hb dX1_sampleOf_13 rfl (lv_at hl 2 rfl) ?_
    refine lv_iconst (v := nI 3) hx hb dX1_sampleOf_14 (by decide) ?_
    refine n_rem hx hb dX1_sampleOf_15 (by omega) (by omega) (by omega) ?_
    refine r_ti C hw hB 8 (by decide) (show f % 3 < 3 by omega) (by decide) dX1_sampleOf_16 ?_
    refine tp1 (v' := nI (tN 8 (f % 3))) (sV_N 8 (by decide)) ?_
    refine lv_iload_n hx hb dX1_sampleOf_17 rfl (lv_at hl 2 rfl) ?_
    refine lv_iconst (v := nI 3) hx hb dX1_sampleOf_18 (by decide) ?_
    refine n_div hx hb dX1_sampleOf_19 (by omega) (by omega) (by omega) ?_
    refine n_shr (d := 2 ^ (f / 3)) hx hb rfl (by omega) (by omega) dX1_sampleOf_20 ?_
    refine lv_i2l hx hb dX1_sampleOf_21 rfl ?_
    refine lv_lstore_n (lv' := [(3, .long ((nI ((tN 8 (f % 3)) / (2 ^ (f / 3)))).toInt64)), (0, .int (nI c_)), (1, .int (nI L)), (2, .int (nI f))]) hx hb dX1_sampleOf_22 rfl hl (by decide) rfl (fun ls hl => ?_)
    refine lv_iconst (v := nI 2) hx hb dX1_sampleOf_23 (by decide) ?_
    refine lv_iload_n hx hb dX1_sampleOf_24 rfl (lv_at hl 1 rfl) ?_
    refine n_mul hx hb dX1_sampleOf_25 ?_
    refine lv_iconst (v := nI 1) hx hb dX1_sampleOf_26 (by decide) ?_
    refine n_add hx hb dX1_sampleOf_27 ?_
    refine lv_iload_n hx hb dX1_sampleOf_28 rfl (lv_at hl 2 rfl) ?_
    refine lv_isub hx hb dX1_sampleOf_29 ?_
    refine lv_i2l hx hb dX1_sampleOf_30 rfl ?_
    refine lv_lload_n hx hb dX1_sampleOf_31 rfl (lv_at hl 0 rfl) ?_
    refine lv_lmul hx hb dX1_sampleOf_32 ?_
    refine lv_iload_n hx hb dX1_sampleOf_33 rfl (lv_at hl 2 rfl) ?_
    refine lv_i2l hx hb dX1_sampleOf_34 rfl ?_
    refine lv_ldiv hx hb dX1_sampleOf_35 (by rw [nI_l (by omega)]; intro q; have := (lN_eq (a := L) (b := 0) (by omega) (by omega)).mp q; omega) ?_
    refine lv_l2i hx hb dX1_sampleOf_36 rfl ?_
    exact r_iret C hw (Nat.le_refl _) (Nat.le_refl _) (⟨by unfold smp; rw [if_neg (by omega)], rfl⟩) dX1_sampleOf_37
