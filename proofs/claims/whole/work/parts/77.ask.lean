abbrev rm_c_rframe : Room := { frames := 0, cells := 0, slots := 0, locals := 0 }
set_option maxHeartbeats 4000000 in
set_option maxRecDepth 100000 in
theorem c_rframe (l : Launch) (g : GT) (sz : Nat) (mo : Nat) (a : Nat → Nat) (th ln pl nf dec ho oc orw fi at_ en ov ly rt sp pd md ex ch sz_ bd bn pr cr : Nat) (ra qa : Nat → Nat → Nat) (FR : Nat → Nat → Nat) (x y : Int32) (h1 : nf ≤ 130) : CtI l g yX7_frame wsX7_frame rm_c_rframe [.ref mo, .int x, .int y] ([(mo, .inr (7, (.int (nI th) :: .ref (a 1) :: .int (nI ln) :: .int (nI pl) :: .ref (a 4) :: .int (nI nf) :: .int (nI dec) :: .ref (a 7) :: .ref (a 8) :: .ref (a 9) :: .int (nI ho) :: .int (nI oc) :: .int (nI orw) :: .ref (a 13) :: .ref (a 14) :: .ref (a 15) :: .ref (a 16) :: .ref (a 17) :: .ref (a 18) :: .ref (a 19) :: .ref (a 20) :: .ref (a 21) :: .ref (a 22) :: .ref (a 23) :: .int (nI fi) :: .int (nI at_) :: .int (nI en) :: .int (nI ov) :: .int (nI ly) :: .int (nI rt) :: .int (nI sp) :: .int (nI pd) :: .int (nI md) :: .int (nI ex) :: .int (nI ch) :: .int (nI sz_) :: .int (nI bd) :: .int (nI bn) :: .int (nI pr) :: .int (nI cr) :: []))), ((a 4), aII g 130 (ptr 130 (ra 4)))] ++ (grd g (ra 4) 130 10 (mN FR) ++ [])) sz (fun _ => True) (fun rr u => rr = selX x nf (fun i => selX y 10 (fun j => nI (FR i j)) (-1)) (-1) ∧ u = ([(mo, .inr (7, (.int (nI th) :: .ref (a 1) :: .int (nI ln) :: .int (nI pl) :: .ref (a 4) :: .int (nI nf) :: .int (nI dec) :: .ref (a 7) :: .ref (a 8) :: .ref (a 9) :: .int (nI ho) :: .int (nI oc) :: .int (nI orw) :: .ref (a 13) :: .ref (a 14) :: .ref (a 15) :: .ref (a 16) :: .ref (a 17) :: .ref (a 18) :: .ref (a 19) :: .ref (a 20) :: .ref (a 21) :: .ref (a 22) :: .ref (a 23) :: .int (nI fi) :: .int (nI at_) :: .int (nI en) :: .int (nI ov) :: .int (nI ly) :: .int (nI rt) :: .int (nI sp) :: .int (nI pd) :: .int (nI md) :: .int (nI ex) :: .int (nI ch) :: .int (nI sz_) :: .int (nI bd) :: .int (nI bn) :: .int (nI pr) :: .int (nI cr) :: []))), ((a 4), aII g 130 (ptr 130 (ra 4)))] ++ (grd g (ra 4) 130 10 (mN FR) ++ []))) (0) (0) := by
  refine ct_body (cc := cX7_frame) (nL := 3) (ret := (some .int)) (by decide) rfl (Nat.le_of_ble_eq_true rfl) ?_
  intro p e s m below meth c ls C hin hsz hB hw hl
  obtain ⟨hx, hb, hml, hown, hts, hK, hA, hr, hlk⟩ := id C
  have lk15 := hts (.fieldLink RX7 15 "SoundBenchModel" "frame" "[[I") (by decide +kernel)
  have lk113 := hts (.fieldLink RX7 113 "SoundBenchModel" "frames" "I") (by decide +kernel)
  have in_X7 : ∀ w ∈ wsX70, w ∈ wsX7_frame := by unfold wsX7_frame; intro w h; simp only [List.mem_cons, List.mem_append, h, or_true, true_or]
  have hl : lv_has ls 3 [(0, .ref mo), (1, .int x), (2, .int y)] := hl
  have hw : Wd g (va_A ([(mo, .inr (7, (.int (nI th) :: .ref (a 1) :: .int (nI ln) :: .int (nI pl) :: .ref (a 4) :: .int (nI nf) :: .int (nI dec) :: .ref (a 7) :: .ref (a 8) :: .ref (a 9) :: .int (nI ho) :: .int (nI oc) :: .int (nI orw) :: .ref (a 13) :: .ref (a 14) :: .ref (a 15) :: .ref (a 16) :: .ref (a 17) :: .ref (a 18) :: .ref (a 19) :: .ref (a 20) :: .ref (a 21) :: .ref (a 22) :: .ref (a 23) :: .int (nI fi) :: .int (nI at_) :: .int (nI en) :: .int (nI ov) :: .int (nI ly) :: .int (nI rt) :: .int (nI sp) :: .int (nI pd) :: .int (nI md) :: .int (nI ex) :: .int (nI ch) :: .int (nI sz_) :: .int (nI bd) :: .int (nI bn) :: .int (nI pr) :: .int (nI cr) :: []))), ((a 4), aII g 130 (ptr 130 (ra 4)))] ++ (grd g (ra 4) 130 10 (mN FR) ++ [])) sz) s.heap ([(mo, .inr (7, (.int (nI th) :: .ref (a 1) :: .int (nI ln) :: .int (nI pl) :: .ref (a 4) :: .int (nI nf) :: .int (nI dec) :: .ref (a 7) :: .ref (a 8) :: .ref (a 9) :: .int (nI ho) :: .int (nI oc) :: .int (nI orw) :: .ref (a 13) :: .ref (a 14) :: .ref (a 15) :: .ref (a 16) :: .ref (a 17) :: .ref (a 18) :: .ref (a 19) :: .ref (a 20) :: .ref (a 21) :: .ref (a 22) :: .ref (a 23) :: .int (nI fi) :: .int (nI at_) :: .int (nI en) :: .int (nI ov) :: .int (nI ly) :: .int (nI rt) :: .int (nI sp) :: .int (nI pd) :: .int (nI md) :: .int (nI ex) :: .int (nI ch) :: .int (nI sz_) :: .int (nI bd) :: .int (nI bn) :: .int (nI pr) :: .int (nI cr) :: []))), ((a 4), aII g 130 (ptr 130 (ra 4)))] ++ (grd g (ra 4) 130 10 (mN FR) ++ [])) s.heap [] := hw
  refine lv_iload_n hx hb dX7_frame_0 rfl (lv_at hl 1 rfl) ?_
  refine lv_if_lt (tgt := 22) hx hb dX7_frame_1 (by decide) (fun c_1 => ?_) (fun c_1 => ?_)
  · skip
    rw [lt0] at c_1
    refine lv_iconst (v := (-1)) hx hb dX7_frame_22 (by decide) ?_
    refine lv_goto (tgt := 34) hx hb dX7_frame_23 (by decide) ?_
    exact r_iret C hw (Nat.le_refl _) (Nat.le_refl _) (⟨by unfold selX; (repeat' split) <;> first | rfl | omega, rfl⟩) dX7_frame_34
  · skip
    rw [lt0] at c_1
    refine lv_iload_n hx hb dX7_frame_4 rfl (lv_at hl 1 rfl) ?_
    refine lv_aload_n hx hb dX7_frame_5 rfl (lv_at hl 0 rfl) ?_
    refine r_get C hw in_X7 0 rfl rfl 5 (by decide) lk113 rfl dX7_frame_6 ?_
    refine lv_icmp_ge (tgt := 22) hx hb dX7_frame_9 (by decide) (fun c_2 => ?_) (fun c_2 => ?_)
    · skip
      rw [nle (by omega)] at c_2
      refine lv_iconst (v := (-1)) hx hb dX7_frame_22 (by decide) ?_
      refine lv_goto (tgt := 34) hx hb dX7_frame_23 (by decide) ?_
      exact r_iret C hw (Nat.le_refl _) (Nat.le_refl _) (⟨by unfold selX; (repeat' split) <;> first | rfl | omega, rfl⟩) dX7_frame_34
    · skip
      rw [nle (by omega)] at c_2
      refine lv_iload_n hx hb dX7_frame_12 rfl (lv_at hl 2 rfl) ?_
      refine lv_if_lt (tgt := 22) hx hb dX7_frame_13 (by decide) (fun c_3 => ?_) (fun c_3 => ?_)
      · skip
        rw [lt0] at c_3
        refine lv_iconst (v := (-1)) hx hb dX7_frame_22 (by decide) ?_
        refine lv_goto (tgt := 34) hx hb dX7_frame_23 (by decide) ?_
        exact r_iret C hw (Nat.le_refl _) (Nat.le_refl _) (⟨by unfold selX; (repeat' split) <;> first | rfl | omega, rfl⟩) dX7_frame_34
      · skip
        rw [lt0] at c_3
        refine lv_iload_n hx hb dX7_frame_16 rfl (lv_at hl 2 rfl) ?_
        refine lv_bipush (v := nI 9) hx hb dX7_frame_17 (by decide) ?_
        refine lv_icmp_le (tgt := 26) hx hb dX7_frame_19 (by decide) (fun c_4 => ?_) (fun c_4 => ?_)
        · skip
          rw [len_ (by omega)] at c_4
          obtain ⟨i_, hi_, rfl, hie⟩ := nat_of (x := x) (by omega)
          obtain ⟨j_, hj_, rfl, hje⟩ := nat_of (x := y) (by omega)
          rw [hie] at c_1 c_2
          rw [hje] at c_3 c_4
          refine lv_aload_n hx hb dX7_frame_26 rfl (lv_at hl 0 rfl) ?_
          refine r_get C hw in_X7 0 rfl rfl 4 (by decide) lk15 rfl dX7_frame_27 ?_
          refine lv_iload_n hx hb dX7_frame_30 rfl (lv_at hl 1 rfl) ?_
          refine r_aldII (y := ra 4 i_) C hw 1 rfl (by omega) (by omega) (ptr_at _ (by omega)) dX7_frame_31 ?_
          refine lv_iload_n hx hb dX7_frame_32 rfl (lv_at hl 2 rfl) ?_
          refine r_iald C hw _ (at_r (at_l (grd_at (by omega)))) (by omega) (by omega) dX7_frame_33 ?_
          refine tp1 (v' := nI (FR i_ j_)) rfl ?_
          exact r_iret C hw (Nat.le_refl _) (Nat.le_refl _) (⟨by rw [selX_in (by omega) (by omega), selX_in (by omega) (by omega)], rfl⟩) dX7_frame_34
        · skip
          rw [len_ (by omega)] at c_4
          refine lv_iconst (v := (-1)) hx hb dX7_frame_22 (by decide) ?_
          refine lv_goto (tgt := 34) hx hb dX7_frame_23 (by decide) ?_
          exact r_iret C hw (Nat.le_refl _) (Nat.le_refl _) (⟨by unfold selX; (repeat' split) <;> first | rfl | omega, rfl⟩) dX7_frame_34
abbrev rm_c_isBand : Room := { frames := 0, cells := 0, slots := 0, locals := 0 }
set_option maxHeartbeats 4000000 in
set_option maxRecDepth 100000 in
theorem c_isBand (l : Launch) (g : GT) (sz : Nat) (mo : Nat) (a : Nat → Nat) (th ln pl nf dec ho oc orw fi at_ en ov ly rt sp pd md ex ch sz_ bd bn pr cr : Nat) (x y : Int32) (h1 : ho ≤ 1) (h2 : oc ≤ 2) : CtI l g yX7_isBand wsX7_isBand rm_c_isBand [.ref mo, .int x, .int y] [(mo, .inr (7, (.int (nI th) :: .ref (a 1) :: .int (nI ln) :: .int (nI pl) :: .ref (a 4) :: .int (nI nf) :: .int (nI dec) :: .ref (a 7) :: .ref (a 8) :: .ref (a 9) :: .int (nI ho) :: .int (nI oc) :: .int (nI orw) :: .ref (a 13) :: .ref (a 14) :: .ref (a 15) :: .ref (a 16) :: .ref (a 17) :: .ref (a 18) :: .ref (a 19) :: .ref (a 20) :: .ref (a 21) :: .ref (a 22) :: .ref (a 23) :: .int (nI fi) :: .int (nI at_) :: .int (nI en) :: .int (nI ov) :: .int (nI ly) :: .int (nI rt) :: .int (nI sp) :: .int (nI pd) :: .int (nI md) :: .int (nI ex) :: .int (nI ch) :: .int (nI sz_) :: .int (nI bd) :: .int (nI bn) :: .int (nI pr) :: .int (nI cr) :: [])))] sz (fun _ => True) (fun rr u => rr = nI (hbS ho oc x y) ∧ u = [(mo, .inr (7, (.int (nI th) :: .ref (a 1) :: .int (nI ln) :: .int (nI pl) :: .ref (a 4) :: .int (nI nf) :: .int (nI dec) :: .ref (a 7) :: .ref (a 8) :: .ref (a 9) :: .int (nI ho) :: .int (nI oc) :: .int (nI orw) :: .ref (a 13) :: .ref (a 14) :: .ref (a 15) :: .ref (a 16) :: .ref (a 17) :: .ref (a 18) :: .ref (a 19) :: .ref (a 20) :: .ref (a 21) :: .ref (a 22) :: .ref (a 23) :: .int (nI fi) :: .int (nI at_) :: .int (nI en) :: .int (nI ov) :: .int (nI ly) :: .int (nI rt) :: .int (nI sp) :: .int (nI pd) :: .int (nI md) :: .int (nI ex) :: .int (nI ch) :: .int (nI sz_) :: .int (nI bd) :: .int (nI bn) :: .int (nI pr) :: .int (nI cr) :: [])))]) (0) (0) := by
  refine ct_body (cc := cX7_isBand) (nL := 3) (ret := (some .boolean)) (by decide) rfl (Nat.le_of_ble_eq_true rfl) ?_
  intro p e s m below meth c ls C hin hsz hB hw hl
  obtain ⟨hx, hb, hml, hown, hts, hK, hA, hr, hlk⟩ := id C
  have lk119 := hts (.fieldLink RX7 119 "SoundBenchModel" "hasOne" "Z") (by decide +kernel)
  have lk233 := hts (.fieldLink RX7 233 "SoundBenchModel" "oneChannels" "I") (by decide +kernel)
  have in_X7 : ∀ w ∈ wsX70, w ∈ wsX7_isBand := by unfold wsX7_isBand; intro w h; simp only [List.mem_cons, List.mem_append, h, or_true, true_or]
  have hl : lv_has ls 3 [(0, .ref mo), (1, .int x), (2, .int y)] := hl
  have hw : Wd g (va_A [(mo, .inr (7, (.int (nI th) :: .ref (a 1) :: .int (nI ln) :: .int (nI pl) :: .ref (a 4) :: .int (nI nf) :: .int (nI dec) :: .ref (a 7) :: .ref (a 8) :: .ref (a 9) :: .int (nI ho) :: .int (nI oc) :: .int (nI orw) :: .ref (a 13) :: .ref (a 14) :: .ref (a 15) :: .ref (a 16) :: .ref (a 17) :: .ref (a 18) :: .ref (a 19) :: .ref (a 20) :: .ref (a 21) :: .ref (a 22) :: .ref (a 23) :: .int (nI fi) :: .int (nI at_) :: .int (nI en) :: .int (nI ov) :: .int (nI ly) :: .int (nI rt) :: .int (nI sp) :: .int (nI pd) :: .int (nI md) :: .int (nI ex) :: .int (nI ch) :: .int (nI sz_) :: .int (nI bd) :: .int (nI bn) :: .int (nI pr) :: .int (nI cr) :: [])))] sz) s.heap [(mo, .inr (7, (.int (nI th) :: .ref (a 1) :: .int (nI ln) :: .int (nI pl) :: .ref (a 4) :: .int (nI nf) :: .int (nI dec) :: .ref (a 7) :: .ref (a 8) :: .ref (a 9) :: .int (nI ho) :: .int (nI oc) :: .int (nI orw) :: .ref (a 13) :: .ref (a 14) :: .ref (a 15) :: .ref (a 16) :: .ref (a 17) :: .ref (a 18) :: .ref (a 19) :: .ref (a 20) :: .ref (a 21) :: .ref (a 22) :: .ref (a 23) :: .int (nI fi) :: .int (nI at_) :: .int (nI en) :: .int (nI ov) :: .int (nI ly) :: .int (nI rt) :: .int (nI sp) :: .int (nI pd) :: .int (nI md) :: .int (nI ex) :: .int (nI ch) :: .int (nI sz_) :: .int (nI bd) :: .int (nI bn) :: .int (nI pr) :: .int (nI cr) :: [])))] s.heap [] := hw
  refine lv_aload_n hx hb dX7_isBand_0 rfl (lv_at hl 0 rfl) ?_
  refine r_get C hw in_X7 0 rfl rfl 10 (by decide) lk119 rfl dX7_isBand_1 ?_
  refine n_eq0 (tgt := 33) hx hb (by omega) dX7_isBand_4 (by decide) (fun c_1 => ?_) (fun c_1 => ?_)
  · skip
    refine lv_iconst (v := nI 0) hx hb dX7_isBand_33 (by decide) ?_
    exact r_zret C hw (by decide) (Nat.le_refl _) (Nat.le_refl _) (⟨by unfold hbS; (repeat' split) <;> first | rfl | omega, rfl⟩) dX7_isBand_34
  · skip
    refine lv_iload_n hx hb dX7_isBand_7 rfl (lv_at hl 1 rfl) ?_
    refine lv_if_lt (tgt := 33) hx hb dX7_isBand_8 (by decide) (fun c_1 => ?_) (fun c_1 => ?_)
    · skip
      rw [lt0] at c_1
      refine lv_iconst (v := nI 0) hx hb dX7_isBand_33 (by decide) ?_
      exact r_zret C hw (by decide) (Nat.le_refl _) (Nat.le_refl _) (⟨by unfold hbS; (repeat' split) <;> first | rfl | omega, rfl⟩) dX7_isBand_34
    · skip
      rw [lt0] at c_1
      refine lv_iload_n hx hb dX7_isBand_11 rfl (lv_at hl 1 rfl) ?_
      refine lv_aload_n hx hb dX7_isBand_12 rfl (lv_at hl 0 rfl) ?_
      refine r_get C hw in_X7 0 rfl rfl 11 (by decide) lk233 rfl dX7_isBand_13 ?_
      refine lv_icmp_ge (tgt := 33) hx hb dX7_isBand_16 (by decide) (fun c_2 => ?_) (fun c_2 => ?_)
      · skip
        rw [nle (by omega)] at c_2
        refine lv_iconst (v := nI 0) hx hb dX7_isBand_33 (by decide) ?_
        exact r_zret C hw (by decide) (Nat.le_refl _) (Nat.le_refl _) (⟨by unfold hbS; (repeat' split) <;> first | rfl | omega, rfl⟩) dX7_isBand_34
      · skip
        rw [nle (by omega)] at c_2
        refine lv_iload_n hx hb dX7_isBand_19 rfl (lv_at hl 2 rfl) ?_
        refine lv_if_lt (tgt := 33) hx hb dX7_isBand_20 (by decide) (fun c_3 => ?_) (fun c_3 => ?_)
        · skip
          rw [lt0] at c_3
          refine lv_iconst (v := nI 0) hx hb dX7_isBand_33 (by decide) ?_
          exact r_zret C hw (by decide) (Nat.le_refl _) (Nat.le_refl _) (⟨by unfold hbS; (repeat' split) <;> first | rfl | omega, rfl⟩) dX7_isBand_34
        · skip
          rw [lt0] at c_3
          refine lv_iload_n hx hb dX7_isBand_23 rfl (lv_at hl 2 rfl) ?_
          refine lv_bipush (v := nI 32) hx hb dX7_isBand_24 (by decide) ?_
          refine lv_icmp_ge (tgt := 33) hx hb dX7_isBand_26 (by decide) (fun c_4 => ?_) (fun c_4 => ?_)
          · skip
            rw [nle (by omega)] at c_4
            refine lv_iconst (v := nI 0) hx hb dX7_isBand_33 (by decide) ?_
            exact r_zret C hw (by decide) (Nat.le_refl _) (Nat.le_refl _) (⟨by unfold hbS; (repeat' split) <;> first | rfl | omega, rfl⟩) dX7_isBand_34
          · skip
            rw [nle (by omega)] at c_4
            refine lv_iconst (v := nI 1) hx hb dX7_isBand_29 (by decide) ?_
            refine lv_goto (tgt := 34) hx hb dX7_isBand_30 (by decide) ?_
            exact r_zret C hw (by decide) (Nat.le_refl _) (Nat.le_refl _) (⟨by unfold hbS; (repeat' split) <;> first | rfl | omega, rfl⟩) dX7_isBand_34
abbrev rm_c_rsteps : Room := { frames := 1, cells := 0, slots := 0, locals := 22 }
set_option maxHeartbeats 4000000 in
set_option maxRecDepth 100000 in
theorem c_rsteps (l : Launch) (g : GT) (sz : Nat) (mo : Nat) (a : Nat → Nat) (th ln pl nf dec ho oc orw fi at_ en ov ly rt sp pd md ex ch sz_ bd bn pr cr : Nat) (ra qa : Nat → Nat → Nat) (OS : Nat → Nat → Nat) (x y : Int32) (h1 : ho ≤ 1) (h2 : oc ≤ 2) : CtI l g yX7_steps wsX7_steps rm_c_rsteps [.ref mo, .int x, .int y] ([(mo, .inr (7, (.int (nI th) :: .ref (a 1) :: .int (nI ln) :: .int (nI pl) :: .ref (a 4) :: .int (nI nf) :: .int (nI dec) :: .ref (a 7) :: .ref (a 8) :: .ref (a 9) :: .int (nI ho) :: .int (nI oc) :: .int (nI orw) :: .ref (a 13) :: .ref (a 14) :: .ref (a 15) :: .ref (a 16) :: .ref (a 17) :: .ref (a 18) :: .ref (a 19) :: .ref (a 20) :: .ref (a 21) :: .ref (a 22) :: .ref (a 23) :: .int (nI fi) :: .int (nI at_) :: .int (nI en) :: .int (nI ov) :: .int (nI ly) :: .int (nI rt) :: .int (nI sp) :: .int (nI pd) :: .int (nI md) :: .int (nI ex) :: .int (nI ch) :: .int (nI sz_) :: .int (nI bd) :: .int (nI bn) :: .int (nI pr) :: .int (nI cr) :: []))), ((a 14), aII g 2 (ptr 2 (ra 14)))] ++ (grd g (ra 14) 2 32 (mN OS) ++ [])) sz (fun _ => True) (fun rr u => rr = stepA ho oc (sqN OS) x y ∧ u = ([(mo, .inr (7, (.int (nI th) :: .ref (a 1) :: .int (nI ln) :: .int (nI pl) :: .ref (a 4) :: .int (nI nf) :: .int (nI dec) :: .ref (a 7) :: .ref (a 8) :: .ref (a 9) :: .int (nI ho) :: .int (nI oc) :: .int (nI orw) :: .ref (a 13) :: .ref (a 14) :: .ref (a 15) :: .ref (a 16) :: .ref (a 17) :: .ref (a 18) :: .ref (a 19) :: .ref (a 20) :: .ref (a 21) :: .ref (a 22) :: .ref (a 23) :: .int (nI fi) :: .int (nI at_) :: .int (nI en) :: .int (nI ov) :: .int (nI ly) :: .int (nI rt) :: .int (nI sp) :: .int (nI pd) :: .int (nI md) :: .int (nI ex) :: .int (nI ch) :: .int (nI sz_) :: .int (nI bd) :: .int (nI bn) :: .int (nI pr) :: .int (nI cr) :: []))), ((a 14), aII g 2 (ptr 2 (ra 14)))] ++ (grd g (ra 14) 2 32 (mN OS) ++ []))) (0) (0) := by
  refine ct_body (cc := cX7_steps) (nL := 3) (ret := (some .int)) (by decide) rfl (Nat.le_of_ble_eq_true rfl) ?_
  intro p e s m below meth c ls C hin hsz hB hw hl
  obtain ⟨hx, hb, hml, hown, hts, hK, hA, hr, hlk⟩ := id C
  have lk34 := hts (.fieldLink RX7 34 "SoundBenchModel" "oneSteps" "[[I") (by decide +kernel)
  have in_X7 : ∀ w ∈ wsX70, w ∈ wsX7_steps := by unfold wsX7_steps; intro w h; simp only [List.mem_cons, List.mem_append, h, or_true, true_or]
  have hl : lv_has ls 3 [(0, .ref mo), (1, .int x), (2, .int y)] := hl
  have hw : Wd g (va_A ([(mo, .inr (7, (.int (nI th) :: .ref (a 1) :: .int (nI ln) :: .int (nI pl) :: .ref (a 4) :: .int (nI nf) :: .int (nI dec) :: .ref (a 7) :: .ref (a 8) :: .ref (a 9) :: .int (nI ho) :: .int (nI oc) :: .int (nI orw) :: .ref (a 13) :: .ref (a 14) :: .ref (a 15) :: .ref (a 16) :: .ref (a 17) :: .ref (a 18) :: .ref (a 19) :: .ref (a 20) :: .ref (a 21) :: .ref (a 22) :: .ref (a 23) :: .int (nI fi) :: .int (nI at_) :: .int (nI en) :: .int (nI ov) :: .int (nI ly) :: .int (nI rt) :: .int (nI sp) :: .int (nI pd) :: .int (nI md) :: .int (nI ex) :: .int (nI ch) :: .int (nI sz_) :: .int (nI bd) :: .int (nI bn) :: .int (nI pr) :: .int (nI cr) :: []))), ((a 14), aII g 2 (ptr 2 (ra 14)))] ++ (grd g (ra 14) 2 32 (mN OS) ++ [])) sz) s.heap ([(mo, .inr (7, (.int (nI th) :: .ref (a 1) :: .int (nI ln) :: .int (nI pl) :: .ref (a 4) :: .int (nI nf) :: .int (nI dec) :: .ref (a 7) :: .ref (a 8) :: .ref (a 9) :: .int (nI ho) :: .int (nI oc) :: .int (nI orw) :: .ref (a 13) :: .ref (a 14) :: .ref (a 15) :: .ref (a 16) :: .ref (a 17) :: .ref (a 18) :: .ref (a 19) :: .ref (a 20) :: .ref (a 21) :: .ref (a 22) :: .ref (a 23) :: .int (nI fi) :: .int (nI at_) :: .int (nI en) :: .int (nI ov) :: .int (nI ly) :: .int (nI rt) :: .int (nI sp) :: .int (nI pd) :: .int (nI md) :: .int (nI ex) :: .int (nI ch) :: .int (nI sz_) :: .int (nI bd) :: .int (nI bn) :: .int (nI pr) :: .int (nI cr) :: []))), ((a 14), aII g 2 (ptr 2 (ra 14)))] ++ (grd g (ra 14) 2 32 (mN OS) ++ [])) s.heap [] := hw
  have hb9 := hbS_le ho oc x y
  refine lv_aload_n hx hb dX7_steps_0 rfl (lv_at hl 0 rfl) ?_
  refine lv_iload_n hx hb dX7_steps_1 rfl (lv_at hl 1 rfl) ?_
  refine lv_iload_n hx hb dX7_steps_2 rfl (lv_at hl 2 rfl) ?_
  have hwq : Wd g (va_A ([(mo, .inr (7, (.int (nI th) :: .ref (a 1) :: .int (nI ln) :: .int (nI pl) :: .ref (a 4) :: .int (nI nf) :: .int (nI dec) :: .ref (a 7) :: .ref (a 8) :: .ref (a 9) :: .int (nI ho) :: .int (nI oc) :: .int (nI orw) :: .ref (a 13) :: .ref (a 14) :: .ref (a 15) :: .ref (a 16) :: .ref (a 17) :: .ref (a 18) :: .ref (a 19) :: .ref (a 20) :: .ref (a 21) :: .ref (a 22) :: .ref (a 23) :: .int (nI fi) :: .int (nI at_) :: .int (nI en) :: .int (nI ov) :: .int (nI ly) :: .int (nI rt) :: .int (nI sp) :: .int (nI pd) :: .int (nI md) :: .int (nI ex) :: .int (nI ch) :: .int (nI sz_) :: .int (nI bd) :: .int (nI bn) :: .int (nI pr) :: .int (nI cr) :: []))), ((a 14), aII g 2 (ptr 2 (ra 14)))] ++ (grd g (ra 14) 2 32 (mN OS) ++ [])) sz) s.heap ([(mo, .inr (7, (.int (nI th) :: .ref (a 1) :: .int (nI ln) :: .int (nI pl) :: .ref (a 4) :: .int (nI nf) :: .int (nI dec) :: .ref (a 7) :: .ref (a 8) :: .ref (a 9) :: .int (nI ho) :: .int (nI oc) :: .int (nI orw) :: .ref (a 13) :: .ref (a 14) :: .ref (a 15) :: .ref (a 16) :: .ref (a 17) :: .ref (a 18) :: .ref (a 19) :: .ref (a 20) :: .ref (a 21) :: .ref (a 22) :: .ref (a 23) :: .int (nI fi) :: .int (nI at_) :: .int (nI en) :: .int (nI ov) :: .int (nI ly) :: .int (nI rt) :: .int (nI sp) :: .int (nI pd) :: .int (nI md) :: .int (nI ex) :: .int (nI ch) :: .int (nI sz_) :: .int (nI bd) :: .int (nI bn) :: .int (nI pr) :: .int (nI cr) :: [])))] ++ ([((a 14), aII g 2 (ptr 2 (ra 14)))] ++ (grd g (ra 14) 2 32 (mN OS) ++ []))) _ _ := Wd.subT (E := [(mo, .inr (7, (.int (nI th) :: .ref (a 1) :: .int (nI ln) :: .int (nI pl) :: .ref (a 4) :: .int (nI nf) :: .int (nI dec) :: .ref (a 7) :: .ref (a 8) :: .ref (a 9) :: .int (nI ho) :: .int (nI oc) :: .int (nI orw) :: .ref (a 13) :: .ref (a 14) :: .ref (a 15) :: .ref (a 16) :: .ref (a 17) :: .ref (a 18) :: .ref (a 19) :: .ref (a 20) :: .ref (a 21) :: .ref (a 22) :: .ref (a 23) :: .int (nI fi) :: .int (nI at_) :: .int (nI en) :: .int (nI ov) :: .int (nI ly) :: .int (nI rt) :: .int (nI sp) :: .int (nI pd) :: .int (nI md) :: .int (nI ex) :: .int (nI ch) :: .int (nI sz_) :: .int (nI bd) :: .int (nI bn) :: .int (nI pr) :: .int (nI cr) :: []))), ((a 14), aII g 2 (ptr 2 (ra 14)))]) (E' := [(mo, .inr (7, (.int (nI th) :: .ref (a 1) :: .int (nI ln) :: .int (nI pl) :: .ref (a 4) :: .int (nI nf) :: .int (nI dec) :: .ref (a 7) :: .ref (a 8) :: .ref (a 9) :: .int (nI ho) :: .int (nI oc) :: .int (nI orw) :: .ref (a 13) :: .ref (a 14) :: .ref (a 15) :: .ref (a 16) :: .ref (a 17) :: .ref (a 18) :: .ref (a 19) :: .ref (a 20) :: .ref (a 21) :: .ref (a 22) :: .ref (a 23) :: .int (nI fi) :: .int (nI at_) :: .int (nI en) :: .int (nI ov) :: .int (nI ly) :: .int (nI rt) :: .int (nI sp) :: .int (nI pd) :: .int (nI md) :: .int (nI ex) :: .int (nI ch) :: .int (nI sz_) :: .int (nI bd) :: .int (nI bn) :: .int (nI pr) :: .int (nI cr) :: []))), ((a 14), aII g 2 (ptr 2 (ra 14)))]) hw [0, 1] (by decide) rfl
  refine kP_Vi (As := [.int x, .int y]) (rest := []) (w := [(mo, .inr (7, (.int (nI th) :: .ref (a 1) :: .int (nI ln) :: .int (nI pl) :: .ref (a 4) :: .int (nI nf) :: .int (nI dec) :: .ref (a 7) :: .ref (a 8) :: .ref (a 9) :: .int (nI ho) :: .int (nI oc) :: .int (nI orw) :: .ref (a 13) :: .ref (a 14) :: .ref (a 15) :: .ref (a 16) :: .ref (a 17) :: .ref (a 18) :: .ref (a 19) :: .ref (a 20) :: .ref (a 21) :: .ref (a 22) :: .ref (a 23) :: .int (nI fi) :: .int (nI at_) :: .int (nI en) :: .int (nI ov) :: .int (nI ly) :: .int (nI rt) :: .int (nI sp) :: .int (nI pd) :: .int (nI md) :: .int (nI ex) :: .int (nI ch) :: .int (nI sz_) :: .int (nI bd) :: .int (nI bn) :: .int (nI pr) :: .int (nI cr) :: [])))]) (wr := ([((a 14), aII g 2 (ptr 2 (ra 14)))] ++ (grd g (ra 14) 2 32 (mN OS) ++ []))) C hwq (c_isBand l g _ mo a th ln pl nf dec ho oc orw fi at_ en ov ly rt sp pd md ex ch sz_ bd bn pr cr x y h1 h2) (cwV 2 hts gX7_steps_X7_isBand rfl rfl rfl (by decide +kernel) ⟨Nat.le_of_ble_eq_true rfl, Nat.le_of_ble_eq_true rfl⟩) bl_T (fun _ _ _ => trivial) 0 rfl rfl rfl hl.1 rfl (Nat.le_of_ble_eq_true rfl) dX7_steps_3 ⟨Nat.le_of_ble_eq_true rfl, Nat.le_of_ble_eq_true rfl⟩ (fun r_1 u H locs hp hw => ?_)
  obtain ⟨rfl, rfl⟩ := hp
  have hw : Wd g (va_A ([(mo, .inr (7, (.int (nI th) :: .ref (a 1) :: .int (nI ln) :: .int (nI pl) :: .ref (a 4) :: .int (nI nf) :: .int (nI dec) :: .ref (a 7) :: .ref (a 8) :: .ref (a 9) :: .int (nI ho) :: .int (nI oc) :: .int (nI orw) :: .ref (a 13) :: .ref (a 14) :: .ref (a 15) :: .ref (a 16) :: .ref (a 17) :: .ref (a 18) :: .ref (a 19) :: .ref (a 20) :: .ref (a 21) :: .ref (a 22) :: .ref (a 23) :: .int (nI fi) :: .int (nI at_) :: .int (nI en) :: .int (nI ov) :: .int (nI ly) :: .int (nI rt) :: .int (nI sp) :: .int (nI pd) :: .int (nI md) :: .int (nI ex) :: .int (nI ch) :: .int (nI sz_) :: .int (nI bd) :: .int (nI bn) :: .int (nI pr) :: .int (nI cr) :: []))), ((a 14), aII g 2 (ptr 2 (ra 14)))] ++ (grd g (ra 14) 2 32 (mN OS) ++ [])) sz) s.heap ([(mo, .inr (7, (.int (nI th) :: .ref (a 1) :: .int (nI ln) :: .int (nI pl) :: .ref (a 4) :: .int (nI nf) :: .int (nI dec) :: .ref (a 7) :: .ref (a 8) :: .ref (a 9) :: .int (nI ho) :: .int (nI oc) :: .int (nI orw) :: .ref (a 13) :: .ref (a 14) :: .ref (a 15) :: .ref (a 16) :: .ref (a 17) :: .ref (a 18) :: .ref (a 19) :: .ref (a 20) :: .ref (a 21) :: .ref (a 22) :: .ref (a 23) :: .int (nI fi) :: .int (nI at_) :: .int (nI en) :: .int (nI ov) :: .int (nI ly) :: .int (nI rt) :: .int (nI sp) :: .int (nI pd) :: .int (nI md) :: .int (nI ex) :: .int (nI ch) :: .int (nI sz_) :: .int (nI bd) :: .int (nI bn) :: .int (nI pr) :: .int (nI cr) :: []))), ((a 14), aII g 2 (ptr 2 (ra 14)))] ++ (grd g (ra 14) 2 32 (mN OS) ++ [])) H locs := Wd.subT (E := [(mo, .inr (7, (.int (nI th) :: .ref (a 1) :: .int (nI ln) :: .int (nI pl) :: .ref (a 4) :: .int (nI nf) :: .int (nI dec) :: .ref (a 7) :: .ref (a 8) :: .ref (a 9) :: .int (nI ho) :: .int (nI oc) :: .int (nI orw) :: .ref (a 13) :: .ref (a 14) :: .ref (a 15) :: .ref (a 16) :: .ref (a 17) :: .ref (a 18) :: .ref (a 19) :: .ref (a 20) :: .ref (a 21) :: .ref (a 22) :: .ref (a 23) :: .int (nI fi) :: .int (nI at_) :: .int (nI en) :: .int (nI ov) :: .int (nI ly) :: .int (nI rt) :: .int (nI sp) :: .int (nI pd) :: .int (nI md) :: .int (nI ex) :: .int (nI ch) :: .int (nI sz_) :: .int (nI bd) :: .int (nI bn) :: .int (nI pr) :: .int (nI cr) :: []))), ((a 14), aII g 2 (ptr 2 (ra 14)))]) (E' := [(mo, .inr (7, (.int (nI th) :: .ref (a 1) :: .int (nI ln) :: .int (nI pl) :: .ref (a 4) :: .int (nI nf) :: .int (nI dec) :: .ref (a 7) :: .ref (a 8) :: .ref (a 9) :: .int (nI ho) :: .int (nI oc) :: .int (nI orw) :: .ref (a 13) :: .ref (a 14) :: .ref (a 15) :: .ref (a 16) :: .ref (a 17) :: .ref (a 18) :: .ref (a 19) :: .ref (a 20) :: .ref (a 21) :: .ref (a 22) :: .ref (a 23) :: .int (nI fi) :: .int (nI at_) :: .int (nI en) :: .int (nI ov) :: .int (nI ly) :: .int (nI rt) :: .int (nI sp) :: .int (nI pd) :: .int (nI md) :: .int (nI ex) :: .int (nI ch) :: .int (nI sz_) :: .int (nI bd) :: .int (nI bn) :: .int (nI pr) :: .int (nI cr) :: []))), ((a 14), aII g 2 (ptr 2 (ra 14)))]) hw [0, 1] (by decide) rfl
  refine n_eq0 (tgt := 20) hx hb (by omega) dX7_steps_6 (by decide) (fun c_h => ?_) (fun c_h => ?_)
  · skip
    refine lv_iconst (v := (-1)) hx hb dX7_steps_20 (by decide) ?_
    exact r_iret C hw (Nat.le_refl _) (Nat.le_refl _) (⟨by unfold stepA; rw [if_neg (by have q9 := hbS_0 c_h; omega)], rfl⟩) dX7_steps_21
  · skip
    have hq := hbS_pos c_h
    obtain ⟨i_, hi_, rfl, hie⟩ := nat_of (x := x) (by omega)
    obtain ⟨b_, hb_, rfl, hbe⟩ := nat_of (x := y) (by omega)
    rw [hie, hbe] at hq
    have hci := nI_clamp hi_
    have hcb := nI_clamp hb_
    refine lv_aload_n hx hb dX7_steps_9 rfl (lv_at hl 0 rfl) ?_
    refine r_get C hw in_X7 0 rfl rfl 14 (by decide) lk34 rfl dX7_steps_10 ?_
    refine lv_iload_n hx hb dX7_steps_13 rfl (lv_at hl 1 rfl) ?_
    refine r_aldII (y := ra 14 i_) C hw 1 rfl (by omega) (by omega) (ptr_at _ (by omega)) dX7_steps_14 ?_
    refine lv_iload_n hx hb dX7_steps_15 rfl (lv_at hl 2 rfl) ?_
    refine r_iald C hw _ (at_r (at_l (grd_at (by omega)))) (by omega) (by omega) dX7_steps_16 ?_
    refine tp1 (v' := nI (OS i_ b_)) rfl ?_
    refine lv_goto (tgt := 21) hx hb dX7_steps_17 (by decide) ?_
    exact r_iret C hw (Nat.le_refl _) (Nat.le_refl _) (⟨by unfold stepA; rw [hie, hbe, if_pos hq, hci, hcb, sqN_at OS (by omega)], rfl⟩) dX7_steps_21
abbrev rm_c_rband : Room := { frames := 1, cells := 0, slots := 0, locals := 22 }
set_option maxHeartbeats 4000000 in
set_option maxRecDepth 100000 in
theorem c_rband (l : Launch) (g : GT) (sz : Nat) (mo : Nat) (a : Nat → Nat) (th ln pl nf dec ho oc orw fi at_ en ov ly rt sp pd md ex ch sz_ bd bn pr cr : Nat) (ra qa : Nat → Nat → Nat) (SM : Nat → Nat → Int32) (x y z : Int32) (h1 : ho ≤ 1) (h2 : oc ≤ 2) (h3 : orw ≤ 36) : CtI l g yX7_band wsX7_band rm_c_rband [.ref mo, .int x, .int y, .int z] ([(mo, .inr (7, (.int (nI th) :: .ref (a 1) :: .int (nI ln) :: .int (nI pl) :: .ref (a 4) :: .int (nI nf) :: .int (nI dec) :: .ref (a 7) :: .ref (a 8) :: .ref (a 9) :: .int (nI ho) :: .int (nI oc) :: .int (nI orw) :: .ref (a 13) :: .ref (a 14) :: .ref (a 15) :: .ref (a 16) :: .ref (a 17) :: .ref (a 18) :: .ref (a 19) :: .ref (a 20) :: .ref (a 21) :: .ref (a 22) :: .ref (a 23) :: .int (nI fi) :: .int (nI at_) :: .int (nI en) :: .int (nI ov) :: .int (nI ly) :: .int (nI rt) :: .int (nI sp) :: .int (nI pd) :: .int (nI md) :: .int (nI ex) :: .int (nI ch) :: .int (nI sz_) :: .int (nI bd) :: .int (nI bn) :: .int (nI pr) :: .int (nI cr) :: []))), ((a 13), aIII g 2 (ptr 2 (qa 13)))] ++ (pgr g (qa 13) 2 36 (fun c t => ra 13 (c * 36 + t)) ++ (grd g (ra 13) 72 32 SM ++ []))) sz (fun _ => True) (fun rr u => rr = bandA ho oc orw (sqf SM) x y z ∧ u = ([(mo, .inr (7, (.int (nI th) :: .ref (a 1) :: .int (nI ln) :: .int (nI pl) :: .ref (a 4) :: .int (nI nf) :: .int (nI dec) :: .ref (a 7) :: .ref (a 8) :: .ref (a 9) :: .int (nI ho) :: .int (nI oc) :: .int (nI orw) :: .ref (a 13) :: .ref (a 14) :: .ref (a 15) :: .ref (a 16) :: .ref (a 17) :: .ref (a 18) :: .ref (a 19) :: .ref (a 20) :: .ref (a 21) :: .ref (a 22) :: .ref (a 23) :: .int (nI fi) :: .int (nI at_) :: .int (nI en) :: .int (nI ov) :: .int (nI ly) :: .int (nI rt) :: .int (nI sp) :: .int (nI pd) :: .int (nI md) :: .int (nI ex) :: .int (nI ch) :: .int (nI sz_) :: .int (nI bd) :: .int (nI bn) :: .int (nI pr) :: .int (nI cr) :: []))), ((a 13), aIII g 2 (ptr 2 (qa 13)))] ++ (pgr g (qa 13) 2 36 (fun c t => ra 13 (c * 36 + t)) ++ (grd g (ra 13) 72 32 SM ++ [])))) (0) (0) := by
  refine ct_body (cc := cX7_band) (nL := 4) (ret := (some .int)) (by decide) rfl (Nat.le_of_ble_eq_true rfl) ?_
  intro p e s m below meth c ls C hin hsz hB hw hl
  obtain ⟨hx, hb, hml, hown, hts, hK, hA, hr, hlk⟩ := id C
  have lk31 := hts (.fieldLink RX7 31 "SoundBenchModel" "sample" "[[[I") (by decide +kernel)
  have lk236 := hts (.fieldLink RX7 236 "SoundBenchModel" "oneRows" "I") (by decide +kernel)
  have in_X7 : ∀ w ∈ wsX70, w ∈ wsX7_band := by unfold wsX7_band; intro w h; simp only [List.mem_cons, List.mem_append, h, or_true, true_or]
  have hl : lv_has ls 4 [(0, .ref mo), (1, .int x), (2, .int y), (3, .int z)] := hl
  have hw : Wd g (va_A ([(mo, .inr (7, (.int (nI th) :: .ref (a 1) :: .int (nI ln) :: .int (nI pl) :: .ref (a 4) :: .int (nI nf) :: .int (nI dec) :: .ref (a 7) :: .ref (a 8) :: .ref (a 9) :: .int (nI ho) :: .int (nI oc) :: .int (nI orw) :: .ref (a 13) :: .ref (a 14) :: .ref (a 15) :: .ref (a 16) :: .ref (a 17) :: .ref (a 18) :: .ref (a 19) :: .ref (a 20) :: .ref (a 21) :: .ref (a 22) :: .ref (a 23) :: .int (nI fi) :: .int (nI at_) :: .int (nI en) :: .int (nI ov) :: .int (nI ly) :: .int (nI rt) :: .int (nI sp) :: .int (nI pd) :: .int (nI md) :: .int (nI ex) :: .int (nI ch) :: .int (nI sz_) :: .int (nI bd) :: .int (nI bn) :: .int (nI pr) :: .int (nI cr) :: []))), ((a 13), aIII g 2 (ptr 2 (qa 13)))] ++ (pgr g (qa 13) 2 36 (fun c t => ra 13 (c * 36 + t)) ++ (grd g (ra 13) 72 32 SM ++ []))) sz) s.heap ([(mo, .inr (7, (.int (nI th) :: .ref (a 1) :: .int (nI ln) :: .int (nI pl) :: .ref (a 4) :: .int (nI nf) :: .int (nI dec) :: .ref (a 7) :: .ref (a 8) :: .ref (a 9) :: .int (nI ho) :: .int (nI oc) :: .int (nI orw) :: .ref (a 13) :: .ref (a 14) :: .ref (a 15) :: .ref (a 16) :: .ref (a 17) :: .ref (a 18) :: .ref (a 19) :: .ref (a 20) :: .ref (a 21) :: .ref (a 22) :: .ref (a 23) :: .int (nI fi) :: .int (nI at_) :: .int (nI en) :: .int (nI ov) :: .int (nI ly) :: .int (nI rt) :: .int (nI sp) :: .int (nI pd) :: .int (nI md) :: .int (nI ex) :: .int (nI ch) :: .int (nI sz_) :: .int (nI bd) :: .int (nI bn) :: .int (nI pr) :: .int (nI cr) :: []))), ((a 13), aIII g 2 (ptr 2 (qa 13)))] ++ (pgr g (qa 13) 2 36 (fun c t => ra 13 (c * 36 + t)) ++ (grd g (ra 13) 72 32 SM ++ []))) s.heap [] := hw
  have hb9 := hbS_le ho oc x y
  refine lv_aload_n hx hb dX7_band_0 rfl (lv_at hl 0 rfl) ?_
  refine lv_iload_n hx hb dX7_band_1 rfl (lv_at hl 1 rfl) ?_
  refine lv_iload_n hx hb dX7_band_2 rfl (lv_at hl 2 rfl) ?_
  have hwq : Wd g (va_A ([(mo, .inr (7, (.int (nI th) :: .ref (a 1) :: .int (nI ln) :: .int (nI pl) :: .ref (a 4) :: .int (nI nf) :: .int (nI dec) :: .ref (a 7) :: .ref (a 8) :: .ref (a 9) :: .int (nI ho) :: .int (nI oc) :: .int (nI orw) :: .ref (a 13) :: .ref (a 14) :: .ref (a 15) :: .ref (a 16) :: .ref (a 17) :: .ref (a 18) :: .ref (a 19) :: .ref (a 20) :: .ref (a 21) :: .ref (a 22) :: .ref (a 23) :: .int (nI fi) :: .int (nI at_) :: .int (nI en) :: .int (nI ov) :: .int (nI ly) :: .int (nI rt) :: .int (nI sp) :: .int (nI pd) :: .int (nI md) :: .int (nI ex) :: .int (nI ch) :: .int (nI sz_) :: .int (nI bd) :: .int (nI bn) :: .int (nI pr) :: .int (nI cr) :: []))), ((a 13), aIII g 2 (ptr 2 (qa 13)))] ++ (pgr g (qa 13) 2 36 (fun c t => ra 13 (c * 36 + t)) ++ (grd g (ra 13) 72 32 SM ++ []))) sz) s.heap ([(mo, .inr (7, (.int (nI th) :: .ref (a 1) :: .int (nI ln) :: .int (nI pl) :: .ref (a 4) :: .int (nI nf) :: .int (nI dec) :: .ref (a 7) :: .ref (a 8) :: .ref (a 9) :: .int (nI ho) :: .int (nI oc) :: .int (nI orw) :: .ref (a 13) :: .ref (a 14) :: .ref (a 15) :: .ref (a 16) :: .ref (a 17) :: .ref (a 18) :: .ref (a 19) :: .ref (a 20) :: .ref (a 21) :: .ref (a 22) :: .ref (a 23) :: .int (nI fi) :: .int (nI at_) :: .int (nI en) :: .int (nI ov) :: .int (nI ly) :: .int (nI rt) :: .int (nI sp) :: .int (nI pd) :: .int (nI md) :: .int (nI ex) :: .int (nI ch) :: .int (nI sz_) :: .int (nI bd) :: .int (nI bn) :: .int (nI pr) :: .int (nI cr) :: [])))] ++ ([((a 13), aIII g 2 (ptr 2 (qa 13)))] ++ (pgr g (qa 13) 2 36 (fun c t => ra 13 (c * 36 + t)) ++ (grd g (ra 13) 72 32 SM ++ [])))) _ _ := Wd.subT (E := [(mo, .inr (7, (.int (nI th) :: .ref (a 1) :: .int (nI ln) :: .int (nI pl) :: .ref (a 4) :: .int (nI nf) :: .int (nI dec) :: .ref (a 7) :: .ref (a 8) :: .ref (a 9) :: .int (nI ho) :: .int (nI oc) :: .int (nI orw) :: .ref (a 13) :: .ref (a 14) :: .ref (a 15) :: .ref (a 16) :: .ref (a 17) :: .ref (a 18) :: .ref (a 19) :: .ref (a 20) :: .ref (a 21) :: .ref (a 22) :: .ref (a 23) :: .int (nI fi) :: .int (nI at_) :: .int (nI en) :: .int (nI ov) :: .int (nI ly) :: .int (nI rt) :: .int (nI sp) :: .int (nI pd) :: .int (nI md) :: .int (nI ex) :: .int (nI ch) :: .int (nI sz_) :: .int (nI bd) :: .int (nI bn) :: .int (nI pr) :: .int (nI cr) :: []))), ((a 13), aIII g 2 (ptr 2 (qa 13)))]) (E' := [(mo, .inr (7, (.int (nI th) :: .ref (a 1) :: .int (nI ln) :: .int (nI pl) :: .ref (a 4) :: .int (nI nf) :: .int (nI dec) :: .ref (a 7) :: .ref (a 8) :: .ref (a 9) :: .int (nI ho) :: .int (nI oc) :: .int (nI orw) :: .ref (a 13) :: .ref (a 14) :: .ref (a 15) :: .ref (a 16) :: .ref (a 17) :: .ref (a 18) :: .ref (a 19) :: .ref (a 20) :: .ref (a 21) :: .ref (a 22) :: .ref (a 23) :: .int (nI fi) :: .int (nI at_) :: .int (nI en) :: .int (nI ov) :: .int (nI ly) :: .int (nI rt) :: .int (nI sp) :: .int (nI pd) :: .int (nI md) :: .int (nI ex) :: .int (nI ch) :: .int (nI sz_) :: .int (nI bd) :: .int (nI bn) :: .int (nI pr) :: .int (nI cr) :: []))), ((a 13), aIII g 2 (ptr 2 (qa 13)))]) hw [0, 1] (by decide) rfl
  refine kP_Vi (As := [.int x, .int y]) (rest := []) (w := [(mo, .inr (7, (.int (nI th) :: .ref (a 1) :: .int (nI ln) :: .int (nI pl) :: .ref (a 4) :: .int (nI nf) :: .int (nI dec) :: .ref (a 7) :: .ref (a 8) :: .ref (a 9) :: .int (nI ho) :: .int (nI oc) :: .int (nI orw) :: .ref (a 13) :: .ref (a 14) :: .ref (a 15) :: .ref (a 16) :: .ref (a 17) :: .ref (a 18) :: .ref (a 19) :: .ref (a 20) :: .ref (a 21) :: .ref (a 22) :: .ref (a 23) :: .int (nI fi) :: .int (nI at_) :: .int (nI en) :: .int (nI ov) :: .int (nI ly) :: .int (nI rt) :: .int (nI sp) :: .int (nI pd) :: .int (nI md) :: .int (nI ex) :: .int (nI ch) :: .int (nI sz_) :: .int (nI bd) :: .int (nI bn) :: .int (nI pr) :: .int (nI cr) :: [])))]) (wr := ([((a 13), aIII g 2 (ptr 2 (qa 13)))] ++ (pgr g (qa 13) 2 36 (fun c t => ra 13 (c * 36 + t)) ++ (grd g (ra 13) 72 32 SM ++ [])))) C hwq (c_isBand l g _ mo a th ln pl nf dec ho oc orw fi at_ en ov ly rt sp pd md ex ch sz_ bd bn pr cr x y h1 h2) (cwV 2 hts gX7_band_X7_isBand rfl rfl rfl (by decide +kernel) ⟨Nat.le_of_ble_eq_true rfl, Nat.le_of_ble_eq_true rfl⟩) bl_T (fun _ _ _ => trivial) 0 rfl rfl rfl hl.1 rfl (Nat.le_of_ble_eq_true rfl) dX7_band_3 ⟨Nat.le_of_ble_eq_true rfl, Nat.le_of_ble_eq_true rfl⟩ (fun r_1 u H locs hp hw => ?_)
  obtain ⟨rfl, rfl⟩ := hp
  have hw : Wd g (va_A ([(mo, .inr (7, (.int (nI th) :: .ref (a 1) :: .int (nI ln) :: .int (nI pl) :: .ref (a 4) :: .int (nI nf) :: .int (nI dec) :: .ref (a 7) :: .ref (a 8) :: .ref (a 9) :: .int (nI ho) :: .int (nI oc) :: .int (nI orw) :: .ref (a 13) :: .ref (a 14) :: .ref (a 15) :: .ref (a 16) :: .ref (a 17) :: .ref (a 18) :: .ref (a 19) :: .ref (a 20) :: .ref (a 21) :: .ref (a 22) :: .ref (a 23) :: .int (nI fi) :: .int (nI at_) :: .int (nI en) :: .int (nI ov) :: .int (nI ly) :: .int (nI rt) :: .int (nI sp) :: .int (nI pd) :: .int (nI md) :: .int (nI ex) :: .int (nI ch) :: .int (nI sz_) :: .int (nI bd) :: .int (nI bn) :: .int (nI pr) :: .int (nI cr) :: []))), ((a 13), aIII g 2 (ptr 2 (qa 13)))] ++ (pgr g (qa 13) 2 36 (fun c t => ra 13 (c * 36 + t)) ++ (grd g (ra 13) 72 32 SM ++ []))) sz) s.heap ([(mo, .inr (7, (.int (nI th) :: .ref (a 1) :: .int (nI ln) :: .int (nI pl) :: .ref (a 4) :: .int (nI nf) :: .int (nI dec) :: .ref (a 7) :: .ref (a 8) :: .ref (a 9) :: .int (nI ho) :: .int (nI oc) :: .int (nI orw) :: .ref (a 13) :: .ref (a 14) :: .ref (a 15) :: .ref (a 16) :: .ref (a 17) :: .ref (a 18) :: .ref (a 19) :: .ref (a 20) :: .ref (a 21) :: .ref (a 22) :: .ref (a 23) :: .int (nI fi) :: .int (nI at_) :: .int (nI en) :: .int (nI ov) :: .int (nI ly) :: .int (nI rt) :: .int (nI sp) :: .int (nI pd) :: .int (nI md) :: .int (nI ex) :: .int (nI ch) :: .int (nI sz_) :: .int (nI bd) :: .int (nI bn) :: .int (nI pr) :: .int (nI cr) :: []))), ((a 13), aIII g 2 (ptr 2 (qa 13)))] ++ (pgr g (qa 13) 2 36 (fun c t => ra 13 (c * 36 + t)) ++ (grd g (ra 13) 72 32 SM ++ []))) H locs := Wd.subT (E := [(mo, .inr (7, (.int (nI th) :: .ref (a 1) :: .int (nI ln) :: .int (nI pl) :: .ref (a 4) :: .int (nI nf) :: .int (nI dec) :: .ref (a 7) :: .ref (a 8) :: .ref (a 9) :: .int (nI ho) :: .int (nI oc) :: .int (nI orw) :: .ref (a 13) :: .ref (a 14) :: .ref (a 15) :: .ref (a 16) :: .ref (a 17) :: .ref (a 18) :: .ref (a 19) :: .ref (a 20) :: .ref (a 21) :: .ref (a 22) :: .ref (a 23) :: .int (nI fi) :: .int (nI at_) :: .int (nI en) :: .int (nI ov) :: .int (nI ly) :: .int (nI rt) :: .int (nI sp) :: .int (nI pd) :: .int (nI md) :: .int (nI ex) :: .int (nI ch) :: .int (nI sz_) :: .int (nI bd) :: .int (nI bn) :: .int (nI pr) :: .int (nI cr) :: []))), ((a 13), aIII g 2 (ptr 2 (qa 13)))]) (E' := [(mo, .inr (7, (.int (nI th) :: .ref (a 1) :: .int (nI ln) :: .int (nI pl) :: .ref (a 4) :: .int (nI nf) :: .int (nI dec) :: .ref (a 7) :: .ref (a 8) :: .ref (a 9) :: .int (nI ho) :: .int (nI oc) :: .int (nI orw) :: .ref (a 13) :: .ref (a 14) :: .ref (a 15) :: .ref (a 16) :: .ref (a 17) :: .ref (a 18) :: .ref (a 19) :: .ref (a 20) :: .ref (a 21) :: .ref (a 22) :: .ref (a 23) :: .int (nI fi) :: .int (nI at_) :: .int (nI en) :: .int (nI ov) :: .int (nI ly) :: .int (nI rt) :: .int (nI sp) :: .int (nI pd) :: .int (nI md) :: .int (nI ex) :: .int (nI ch) :: .int (nI sz_) :: .int (nI bd) :: .int (nI bn) :: .int (nI pr) :: .int (nI cr) :: []))), ((a 13), aIII g 2 (ptr 2 (qa 13)))]) hw [0, 1] (by decide) rfl
  refine n_eq0 (tgt := 34) hx hb (by omega) dX7_band_6 (by decide) (fun c_h => ?_) (fun c_h => ?_)
  · skip
    refine lv_iconst (v := nI 0) hx hb dX7_band_34 (by decide) ?_
    exact r_iret C hw (Nat.le_refl _) (Nat.le_refl _) (⟨by unfold bandA; rw [if_neg (by have q9 := hbS_0 c_h; omega)]; rfl, rfl⟩) dX7_band_35
  · skip
    have hq := hbS_pos c_h
    obtain ⟨i_, hi_, rfl, hie⟩ := nat_of (x := x) (by omega)
    obtain ⟨b_, hb_, rfl, hbe⟩ := nat_of (x := y) (by omega)
    rw [hie, hbe] at hq
    have hci := nI_clamp hi_
    have hcb := nI_clamp hb_
    refine lv_iload_n hx hb dX7_band_9 rfl (lv_at hl 3 rfl) ?_
    refine lv_if_lt (tgt := 34) hx hb dX7_band_10 (by decide) (fun c_1 => ?_) (fun c_1 => ?_)
    · skip
      rw [lt0] at c_1
      refine lv_iconst (v := nI 0) hx hb dX7_band_34 (by decide) ?_
      exact r_iret C hw (Nat.le_refl _) (Nat.le_refl _) (⟨by unfold bandA; rw [if_neg (by omega)]; rfl, rfl⟩) dX7_band_35
    · skip
      rw [lt0] at c_1
      refine lv_iload_n hx hb dX7_band_13 rfl (lv_at hl 3 rfl) ?_
      refine lv_aload_n hx hb dX7_band_14 rfl (lv_at hl 0 rfl) ?_
      refine r_get C hw in_X7 0 rfl rfl 12 (by decide) lk236 rfl dX7_band_15 ?_
      refine lv_icmp_ge (tgt := 34) hx hb dX7_band_18 (by decide) (fun c_2 => ?_) (fun c_2 => ?_)
      · skip
        rw [nle (by omega)] at c_2
        refine lv_iconst (v := nI 0) hx hb dX7_band_34 (by decide) ?_
        exact r_iret C hw (Nat.le_refl _) (Nat.le_refl _) (⟨by unfold bandA; rw [if_neg (by omega)]; rfl, rfl⟩) dX7_band_35
      · skip
        rw [nle (by omega)] at c_2
        obtain ⟨t_, ht_, rfl, hte⟩ := nat_of (x := z) (by omega)
        rw [hte] at c_1 c_2
        have hct := nI_clamp ht_
        refine lv_aload_n hx hb dX7_band_21 rfl (lv_at hl 0 rfl) ?_
        refine r_get C hw in_X7 0 rfl rfl 13 (by decide) lk31 rfl dX7_band_22 ?_
        refine lv_iload_n hx hb dX7_band_25 rfl (lv_at hl 1 rfl) ?_
        refine r_aldIII (y := qa 13 i_) C hw 1 rfl (by omega) (by omega) (ptr_at _ (by omega)) dX7_band_26 ?_
        refine lv_iload_n hx hb dX7_band_27 rfl (lv_at hl 3 rfl) ?_
        refine r_aldII (y := ra 13 (i_ * 36 + t_)) C hw _ (at_r (at_l (pgr_at (by omega)))) (by omega) (by omega) (ptr_at _ (by omega)) dX7_band_28 ?_
        refine lv_iload_n hx hb dX7_band_29 rfl (lv_at hl 2 rfl) ?_
        refine r_iald C hw _ (at_r (at_r (at_l (grd_at (by omega))))) (by omega) (by omega) dX7_band_30 ?_
        refine lv_goto (tgt := 35) hx hb dX7_band_31 (by decide) ?_
        exact r_iret C hw (Nat.le_refl _) (Nat.le_refl _) (⟨by unfold bandA; rw [hie, hbe, hte, if_pos ⟨hq, by omega, by omega⟩, hci, hcb, hct, sqf_at SM (by omega)], rfl⟩) dX7_band_35
abbrev rm_c_rfactor : Room := { frames := 1, cells := 0, slots := 0, locals := 22 }
set_option maxHeartbeats 4000000 in
set_option maxRecDepth 100000 in
theorem c_rfactor (l : Launch) (g : GT) (sz : Nat) (mo : Nat) (a : Nat → Nat) (th ln pl nf dec ho oc orw fi at_ en ov ly rt sp pd md ex ch sz_ bd bn pr cr : Nat) (ra qa : Nat → Nat → Nat) (OS OF : Nat → Nat → Nat) (x y z : Int32) (h1 : ho ≤ 1) (h2 : oc ≤ 2) (h3 : ∀ i j, i < 2 → j < 32 → OS i j < 2 ^ 31) : CtI l g yX7_factor wsX7_factor rm_c_rfactor [.ref mo, .int x, .int y, .int z] ([(mo, .inr (7, (.int (nI th) :: .ref (a 1) :: .int (nI ln) :: .int (nI pl) :: .ref (a 4) :: .int (nI nf) :: .int (nI dec) :: .ref (a 7) :: .ref (a 8) :: .ref (a 9) :: .int (nI ho) :: .int (nI oc) :: .int (nI orw) :: .ref (a 13) :: .ref (a 14) :: .ref (a 15) :: .ref (a 16) :: .ref (a 17) :: .ref (a 18) :: .ref (a 19) :: .ref (a 20) :: .ref (a 21) :: .ref (a 22) :: .ref (a 23) :: .int (nI fi) :: .int (nI at_) :: .int (nI en) :: .int (nI ov) :: .int (nI ly) :: .int (nI rt) :: .int (nI sp) :: .int (nI pd) :: .int (nI md) :: .int (nI ex) :: .int (nI ch) :: .int (nI sz_) :: .int (nI bd) :: .int (nI bn) :: .int (nI pr) :: .int (nI cr) :: []))), ((a 14), aII g 2 (ptr 2 (ra 14))), ((a 15), aIII g 2 (ptr 2 (qa 15)))] ++ (grd g (ra 14) 2 32 (mN OS) ++ (pgr g (qa 15) 2 32 (fun c t => ra 15 (c * 32 + t)) ++ (grd g (ra 15) 64 3 (mN OF) ++ [])))) sz (fun _ => True) (fun rr u => rr = factA ho oc (sqN OS) (sq3 OF) x y z ∧ u = ([(mo, .inr (7, (.int (nI th) :: .ref (a 1) :: .int (nI ln) :: .int (nI pl) :: .ref (a 4) :: .int (nI nf) :: .int (nI dec) :: .ref (a 7) :: .ref (a 8) :: .ref (a 9) :: .int (nI ho) :: .int (nI oc) :: .int (nI orw) :: .ref (a 13) :: .ref (a 14) :: .ref (a 15) :: .ref (a 16) :: .ref (a 17) :: .ref (a 18) :: .ref (a 19) :: .ref (a 20) :: .ref (a 21) :: .ref (a 22) :: .ref (a 23) :: .int (nI fi) :: .int (nI at_) :: .int (nI en) :: .int (nI ov) :: .int (nI ly) :: .int (nI rt) :: .int (nI sp) :: .int (nI pd) :: .int (nI md) :: .int (nI ex) :: .int (nI ch) :: .int (nI sz_) :: .int (nI bd) :: .int (nI bn) :: .int (nI pr) :: .int (nI cr) :: []))), ((a 14), aII g 2 (ptr 2 (ra 14))), ((a 15), aIII g 2 (ptr 2 (qa 15)))] ++ (grd g (ra 14) 2 32 (mN OS) ++ (pgr g (qa 15) 2 32 (fun c t => ra 15 (c * 32 + t)) ++ (grd g (ra 15) 64 3 (mN OF) ++ []))))) (0) (0) := by
  refine ct_body (cc := cX7_factor) (nL := 4) (ret := (some .int)) (by decide) rfl (Nat.le_of_ble_eq_true rfl) ?_
  intro p e s m below meth c ls C hin hsz hB hw hl
  obtain ⟨hx, hb, hml, hown, hts, hK, hA, hr, hlk⟩ := id C
  have lk34 := hts (.fieldLink RX7 34 "SoundBenchModel" "oneSteps" "[[I") (by decide +kernel)
  have lk37 := hts (.fieldLink RX7 37 "SoundBenchModel" "oneFactor" "[[[I") (by decide +kernel)
  have in_X7 : ∀ w ∈ wsX70, w ∈ wsX7_factor := by unfold wsX7_factor; intro w h; simp only [List.mem_cons, List.mem_append, h, or_true, true_or]
  have hl : lv_has ls 4 [(0, .ref mo), (1, .int x), (2, .int y), (3, .int z)] := hl
  have hw : Wd g (va_A ([(mo, .inr (7, (.int (nI th) :: .ref (a 1) :: .int (nI ln) :: .int (nI pl) :: .ref (a 4) :: .int (nI nf) :: .int (nI dec) :: .ref (a 7) :: .ref (a 8) :: .ref (a 9) :: .int (nI ho) :: .int (nI oc) :: .int (nI orw) :: .ref (a 13) :: .ref (a 14) :: .ref (a 15) :: .ref (a 16) :: .ref (a 17) :: .ref (a 18) :: .ref (a 19) :: .ref (a 20) :: .ref (a 21) :: .ref (a 22) :: .ref (a 23) :: .int (nI fi) :: .int (nI at_) :: .int (nI en) :: .int (nI ov) :: .int (nI ly) :: .int (nI rt) :: .int (nI sp) :: .int (nI pd) :: .int (nI md) :: .int (nI ex) :: .int (nI ch) :: .int (nI sz_) :: .int (nI bd) :: .int (nI bn) :: .int (nI pr) :: .int (nI cr) :: []))), ((a 14), aII g 2 (ptr 2 (ra 14))), ((a 15), aIII g 2 (ptr 2 (qa 15)))] ++ (grd g (ra 14) 2 32 (mN OS) ++ (pgr g (qa 15) 2 32 (fun c t => ra 15 (c * 32 + t)) ++ (grd g (ra 15) 64 3 (mN OF) ++ [])))) sz) s.heap ([(mo, .inr (7, (.int (nI th) :: .ref (a 1) :: .int (nI ln) :: .int (nI pl) :: .ref (a 4) :: .int (nI nf) :: .int (nI dec) :: .ref (a 7) :: .ref (a 8) :: .ref (a 9) :: .int (nI ho) :: .int (nI oc) :: .int (nI orw) :: .ref (a 13) :: .ref (a 14) :: .ref (a 15) :: .ref (a 16) :: .ref (a 17) :: .ref (a 18) :: .ref (a 19) :: .ref (a 20) :: .ref (a 21) :: .ref (a 22) :: .ref (a 23) :: .int (nI fi) :: .int (nI at_) :: .int (nI en) :: .int (nI ov) :: .int (nI ly) :: .int (nI rt) :: .int (nI sp) :: .int (nI pd) :: .int (nI md) :: .int (nI ex) :: .int (nI ch) :: .int (nI sz_) :: .int (nI bd) :: .int (nI bn) :: .int (nI pr) :: .int (nI cr) :: []))), ((a 14), aII g 2 (ptr 2 (ra 14))), ((a 15), aIII g 2 (ptr 2 (qa 15)))] ++ (grd g (ra 14) 2 32 (mN OS) ++ (pgr g (qa 15) 2 32 (fun c t => ra 15 (c * 32 + t)) ++ (grd g (ra 15) 64 3 (mN OF) ++ [])))) s.heap [] := hw
  have hb9 := hbS_le ho oc x y
  refine lv_aload_n hx hb dX7_factor_0 rfl (lv_at hl 0 rfl) ?_
  refine lv_iload_n hx hb dX7_factor_1 rfl (lv_at hl 1 rfl) ?_
  refine lv_iload_n hx hb dX7_factor_2 rfl (lv_at hl 2 rfl) ?_
  have hwq : Wd g (va_A ([(mo, .inr (7, (.int (nI th) :: .ref (a 1) :: .int (nI ln) :: .int (nI pl) :: .ref (a 4) :: .int (nI nf) :: .int (nI dec) :: .ref (a 7) :: .ref (a 8) :: .ref (a 9) :: .int (nI ho) :: .int (nI oc) :: .int (nI orw) :: .ref (a 13) :: .ref (a 14) :: .ref (a 15) :: .ref (a 16) :: .ref (a 17) :: .ref (a 18) :: .ref (a 19) :: .ref (a 20) :: .ref (a 21) :: .ref (a 22) :: .ref (a 23) :: .int (nI fi) :: .int (nI at_) :: .int (nI en) :: .int (nI ov) :: .int (nI ly) :: .int (nI rt) :: .int (nI sp) :: .int (nI pd) :: .int (nI md) :: .int (nI ex) :: .int (nI ch) :: .int (nI sz_) :: .int (nI bd) :: .int (nI bn) :: .int (nI pr) :: .int (nI cr) :: []))), ((a 14), aII g 2 (ptr 2 (ra 14))), ((a 15), aIII g 2 (ptr 2 (qa 15)))] ++ (grd g (ra 14) 2 32 (mN OS) ++ (pgr g (qa 15) 2 32 (fun c t => ra 15 (c * 32 + t)) ++ (grd g (ra 15) 64 3 (mN OF) ++ [])))) sz) s.heap ([(mo, .inr (7, (.int (nI th) :: .ref (a 1) :: .int (nI ln) :: .int (nI pl) :: .ref (a 4) :: .int (nI nf) :: .int (nI dec) :: .ref (a 7) :: .ref (a 8) :: .ref (a 9) :: .int (nI ho) :: .int (nI oc) :: .int (nI orw) :: .ref (a 13) :: .ref (a 14) :: .ref (a 15) :: .ref (a 16) :: .ref (a 17) :: .ref (a 18) :: .ref (a 19) :: .ref (a 20) :: .ref (a 21) :: .ref (a 22) :: .ref (a 23) :: .int (nI fi) :: .int (nI at_) :: .int (nI en) :: .int (nI ov) :: .int (nI ly) :: .int (nI rt) :: .int (nI sp) :: .int (nI pd) :: .int (nI md) :: .int (nI ex) :: .int (nI ch) :: .int (nI sz_) :: .int (nI bd) :: .int (nI bn) :: .int (nI pr) :: .int (nI cr) :: [])))] ++ ([((a 14), aII g 2 (ptr 2 (ra 14))), ((a 15), aIII g 2 (ptr 2 (qa 15)))] ++ (grd g (ra 14) 2 32 (mN OS) ++ (pgr g (qa 15) 2 32 (fun c t => ra 15 (c * 32 + t)) ++ (grd g (ra 15) 64 3 (mN OF) ++ []))))) _ _ := Wd.subT (E := [(mo, .inr (7, (.int (nI th) :: .ref (a 1) :: .int (nI ln) :: .int (nI pl) :: .ref (a 4) :: .int (nI nf) :: .int (nI dec) :: .ref (a 7) :: .ref (a 8) :: .ref (a 9) :: .int (nI ho) :: .int (nI oc) :: .int (nI orw) :: .ref (a 13) :: .ref (a 14) :: .ref (a 15) :: .ref (a 16) :: .ref (a 17) :: .ref (a 18) :: .ref (a 19) :: .ref (a 20) :: .ref (a 21) :: .ref (a 22) :: .ref (a 23) :: .int (nI fi) :: .int (nI at_) :: .int (nI en) :: .int (nI ov) :: .int (nI ly) :: .int (nI rt) :: .int (nI sp) :: .int (nI pd) :: .int (nI md) :: .int (nI ex) :: .int (nI ch) :: .int (nI sz_) :: .int (nI bd) :: .int (nI bn) :: .int (nI pr) :: .int (nI cr) :: []))), ((a 14), aII g 2 (ptr 2 (ra 14))), ((a 15), aIII g 2 (ptr 2 (qa 15)))]) (E' := [(mo, .inr (7, (.int (nI th) :: .ref (a 1) :: .int (nI ln) :: .int (nI pl) :: .ref (a 4) :: .int (nI nf) :: .int (nI dec) :: .ref (a 7) :: .ref (a 8) :: .ref (a 9) :: .int (nI ho) :: .int (nI oc) :: .int (nI orw) :: .ref (a 13) :: .ref (a 14) :: .ref (a 15) :: .ref (a 16) :: .ref (a 17) :: .ref (a 18) :: .ref (a 19) :: .ref (a 20) :: .ref (a 21) :: .ref (a 22) :: .ref (a 23) :: .int (nI fi) :: .int (nI at_) :: .int (nI en) :: .int (nI ov) :: .int (nI ly) :: .int (nI rt) :: .int (nI sp) :: .int (nI pd) :: .int (nI md) :: .int (nI ex) :: .int (nI ch) :: .int (nI sz_) :: .int (nI bd) :: .int (nI bn) :: .int (nI pr) :: .int (nI cr) :: []))), ((a 14), aII g 2 (ptr 2 (ra 14))), ((a 15), aIII g 2 (ptr 2 (qa 15)))]) hw [0, 1, 2] (by decide) rfl
  refine kP_Vi (As := [.int x, .int y]) (rest := []) (w := [(mo, .inr (7, (.int (nI th) :: .ref (a 1) :: .int (nI ln) :: .int (nI pl) :: .ref (a 4) :: .int (nI nf) :: .int (nI dec) :: .ref (a 7) :: .ref (a 8) :: .ref (a 9) :: .int (nI ho) :: .int (nI oc) :: .int (nI orw) :: .ref (a 13) :: .ref (a 14) :: .ref (a 15) :: .ref (a 16) :: .ref (a 17) :: .ref (a 18) :: .ref (a 19) :: .ref (a 20) :: .ref (a 21) :: .ref (a 22) :: .ref (a 23) :: .int (nI fi) :: .int (nI at_) :: .int (nI en) :: .int (nI ov) :: .int (nI ly) :: .int (nI rt) :: .int (nI sp) :: .int (nI pd) :: .int (nI md) :: .int (nI ex) :: .int (nI ch) :: .int (nI sz_) :: .int (nI bd) :: .int (nI bn) :: .int (nI pr) :: .int (nI cr) :: [])))]) (wr := ([((a 14), aII g 2 (ptr 2 (ra 14))), ((a 15), aIII g 2 (ptr 2 (qa 15)))] ++ (grd g (ra 14) 2 32 (mN OS) ++ (pgr g (qa 15) 2 32 (fun c t => ra 15 (c * 32 + t)) ++ (grd g (ra 15) 64 3 (mN OF) ++ []))))) C hwq (c_isBand l g _ mo a th ln pl nf dec ho oc orw fi at_ en ov ly rt sp pd md ex ch sz_ bd bn pr cr x y h1 h2) (cwV 2 hts gX7_factor_X7_isBand rfl rfl rfl (by decide +kernel) ⟨Nat.le_of_ble_eq_true rfl, Nat.le_of_ble_eq_true rfl⟩) bl_T (fun _ _ _ => trivial) 0 rfl rfl rfl hl.1 rfl (Nat.le_of_ble_eq_true rfl) dX7_factor_3 ⟨Nat.le_of_ble_eq_true rfl, Nat.le_of_ble_eq_true rfl⟩ (fun r_1 u H locs hp hw => ?_)
  obtain ⟨rfl, rfl⟩ := hp
  have hw : Wd g (va_A ([(mo, .inr (7, (.int (nI th) :: .ref (a 1) :: .int (nI ln) :: .int (nI pl) :: .ref (a 4) :: .int (nI nf) :: .int (nI dec) :: .ref (a 7) :: .ref (a 8) :: .ref (a 9) :: .int (nI ho) :: .int (nI oc) :: .int (nI orw) :: .ref (a 13) :: .ref (a 14) :: .ref (a 15) :: .ref (a 16) :: .ref (a 17) :: .ref (a 18) :: .ref (a 19) :: .ref (a 20) :: .ref (a 21) :: .ref (a 22) :: .ref (a 23) :: .int (nI fi) :: .int (nI at_) :: .int (nI en) :: .int (nI ov) :: .int (nI ly) :: .int (nI rt) :: .int (nI sp) :: .int (nI pd) :: .int (nI md) :: .int (nI ex) :: .int (nI ch) :: .int (nI sz_) :: .int (nI bd) :: .int (nI bn) :: .int (nI pr) :: .int (nI cr) :: []))), ((a 14), aII g 2 (ptr 2 (ra 14))), ((a 15), aIII g 2 (ptr 2 (qa 15)))] ++ (grd g (ra 14) 2 32 (mN OS) ++ (pgr g (qa 15) 2 32 (fun c t => ra 15 (c * 32 + t)) ++ (grd g (ra 15) 64 3 (mN OF) ++ [])))) sz) s.heap ([(mo, .inr (7, (.int (nI th) :: .ref (a 1) :: .int (nI ln) :: .int (nI pl) :: .ref (a 4) :: .int (nI nf) :: .int (nI dec) :: .ref (a 7) :: .ref (a 8) :: .ref (a 9) :: .int (nI ho) :: .int (nI oc) :: .int (nI orw) :: .ref (a 13) :: .ref (a 14) :: .ref (a 15) :: .ref (a 16) :: .ref (a 17) :: .ref (a 18) :: .ref (a 19) :: .ref (a 20) :: .ref (a 21) :: .ref (a 22) :: .ref (a 23) :: .int (nI fi) :: .int (nI at_) :: .int (nI en) :: .int (nI ov) :: .int (nI ly) :: .int (nI rt) :: .int (nI sp) :: .int (nI pd) :: .int (nI md) :: .int (nI ex) :: .int (nI ch) :: .int (nI sz_) :: .int (nI bd) :: .int (nI bn) :: .int (nI pr) :: .int (nI cr) :: []))), ((a 14), aII g 2 (ptr 2 (ra 14))), ((a 15), aIII g 2 (ptr 2 (qa 15)))] ++ (grd g (ra 14) 2 32 (mN OS) ++ (pgr g (qa 15) 2 32 (fun c t => ra 15 (c * 32 + t)) ++ (grd g (ra 15) 64 3 (mN OF) ++ [])))) H locs := Wd.subT (E := [(mo, .inr (7, (.int (nI th) :: .ref (a 1) :: .int (nI ln) :: .int (nI pl) :: .ref (a 4) :: .int (nI nf) :: .int (nI dec) :: .ref (a 7) :: .ref (a 8) :: .ref (a 9) :: .int (nI ho) :: .int (nI oc) :: .int (nI orw) :: .ref (a 13) :: .ref (a 14) :: .ref (a 15) :: .ref (a 16) :: .ref (a 17) :: .ref (a 18) :: .ref (a 19) :: .ref (a 20) :: .ref (a 21) :: .ref (a 22) :: .ref (a 23) :: .int (nI fi) :: .int (nI at_) :: .int (nI en) :: .int (nI ov) :: .int (nI ly) :: .int (nI rt) :: .int (nI sp) :: .int (nI pd) :: .int (nI md) :: .int (nI ex) :: .int (nI ch) :: .int (nI sz_) :: .int (nI bd) :: .int (nI bn) :: .int (nI pr) :: .int (nI cr) :: []))), ((a 14), aII g 2 (ptr 2 (ra 14))), ((a 15), aIII g 2 (ptr 2 (qa 15)))]) (E' := [(mo, .inr (7, (.int (nI th) :: .ref (a 1) :: .int (nI ln) :: .int (nI pl) :: .ref (a 4) :: .int (nI nf) :: .int (nI dec) :: .ref (a 7) :: .ref (a 8) :: .ref (a 9) :: .int (nI ho) :: .int (nI oc) :: .int (nI orw) :: .ref (a 13) :: .ref (a 14) :: .ref (a 15) :: .ref (a 16) :: .ref (a 17) :: .ref (a 18) :: .ref (a 19) :: .ref (a 20) :: .ref (a 21) :: .ref (a 22) :: .ref (a 23) :: .int (nI fi) :: .int (nI at_) :: .int (nI en) :: .int (nI ov) :: .int (nI ly) :: .int (nI rt) :: .int (nI sp) :: .int (nI pd) :: .int (nI md) :: .int (nI ex) :: .int (nI ch) :: .int (nI sz_) :: .int (nI bd) :: .int (nI bn) :: .int (nI pr) :: .int (nI cr) :: []))), ((a 14), aII g 2 (ptr 2 (ra 14))), ((a 15), aIII g 2 (ptr 2 (qa 15)))]) hw [0, 1, 2] (by decide) rfl
  refine n_eq0 (tgt := 42) hx hb (by omega) dX7_factor_6 (by decide) (fun c_h => ?_) (fun c_h => ?_)
  · skip
    refine lv_iconst (v := (-1)) hx hb dX7_factor_42 (by decide) ?_
    exact r_iret C hw (Nat.le_refl _) (Nat.le_refl _) (⟨by unfold factA; rw [if_neg (by have q9 := hbS_0 c_h; omega)], rfl⟩) dX7_factor_43
  · skip
    have hq := hbS_pos c_h
    obtain ⟨i_, hi_, rfl, hie⟩ := nat_of (x := x) (by omega)
    obtain ⟨b_, hb_, rfl, hbe⟩ := nat_of (x := y) (by omega)
    rw [hie, hbe] at hq
    have hci := nI_clamp hi_
    have hcb := nI_clamp hb_
    have hos := h3 i_ b_ (by omega) (by omega)
    refine lv_aload_n hx hb dX7_factor_9 rfl (lv_at hl 0 rfl) ?_
    refine r_get C hw in_X7 0 rfl rfl 14 (by decide) lk34 rfl dX7_factor_10 ?_
    refine lv_iload_n hx hb dX7_factor_13 rfl (lv_at hl 1 rfl) ?_
    refine r_aldII (y := ra 14 i_) C hw 1 rfl (by omega) (by omega) (ptr_at _ (by omega)) dX7_factor_14 ?_
    refine lv_iload_n hx hb dX7_factor_15 rfl (lv_at hl 2 rfl) ?_
    refine r_iald C hw _ (at_r (at_l (grd_at (by omega)))) (by omega) (by omega) dX7_factor_16 ?_
    refine tp1 (v' := nI (OS i_ b_)) rfl ?_
    refine n_le0 (tgt := 42) hx hb (by omega) dX7_factor_17 (by decide) (fun c_s => ?_) (fun c_s => ?_)
    · skip
      refine lv_iconst (v := (-1)) hx hb dX7_factor_42 (by decide) ?_
      exact r_iret C hw (Nat.le_refl _) (Nat.le_refl _) (⟨by unfold factA; rw [hci, hcb, sqN_at OS (by omega), if_neg (by omega)], rfl⟩) dX7_factor_43
    · skip
      refine lv_iload_n hx hb dX7_factor_20 rfl (lv_at hl 3 rfl) ?_
      refine lv_if_lt (tgt := 42) hx hb dX7_factor_21 (by decide) (fun c_1 => ?_) (fun c_1 => ?_)
      · skip
        rw [lt0] at c_1
        refine lv_iconst (v := (-1)) hx hb dX7_factor_42 (by decide) ?_
        exact r_iret C hw (Nat.le_refl _) (Nat.le_refl _) (⟨by unfold factA; rw [hci, hcb, sqN_at OS (by omega), if_neg (by omega)], rfl⟩) dX7_factor_43
      · skip
        rw [lt0] at c_1
        refine lv_iload_n hx hb dX7_factor_24 rfl (lv_at hl 3 rfl) ?_
        refine lv_iconst (v := nI 3) hx hb dX7_factor_25 (by decide) ?_
        refine lv_icmp_ge (tgt := 42) hx hb dX7_factor_26 (by decide) (fun c_2 => ?_) (fun c_2 => ?_)
        · skip
          rw [nle (by omega)] at c_2
          refine lv_iconst (v := (-1)) hx hb dX7_factor_42 (by decide) ?_
          exact r_iret C hw (Nat.le_refl _) (Nat.le_refl _) (⟨by unfold factA; rw [hci, hcb, sqN_at OS (by omega), if_neg (by omega)], rfl⟩) dX7_factor_43
        · skip
          rw [nle (by omega)] at c_2
          obtain ⟨t_, ht_, rfl, hte⟩ := nat_of (x := z) (by omega)
          rw [hte] at c_1 c_2
          have hct := nI_clamp ht_
          refine lv_aload_n hx hb dX7_factor_29 rfl (lv_at hl 0 rfl) ?_
          refine r_get C hw in_X7 0 rfl rfl 15 (by decide) lk37 rfl dX7_factor_30 ?_
          refine lv_iload_n hx hb dX7_factor_33 rfl (lv_at hl 1 rfl) ?_
          refine r_aldIII (y := qa 15 i_) C hw 2 rfl (by omega) (by omega) (ptr_at _ (by omega)) dX7_factor_34 ?_
          refine lv_iload_n hx hb dX7_factor_35 rfl (lv_at hl 2 rfl) ?_
          refine r_aldII (y := ra 15 (i_ * 32 + b_)) C hw _ (at_r (at_r (at_l (pgr_at (by omega))))) (by omega) (by omega) (ptr_at _ (by omega)) dX7_factor_36 ?_
          refine lv_iload_n hx hb dX7_factor_37 rfl (lv_at hl 3 rfl) ?_
          refine r_iald C hw _ (at_r (at_r (at_r (at_l (grd_at (by omega)))))) (by omega) (by omega) dX7_factor_38 ?_
          refine tp1 (v' := nI (OF (i_ * 32 + b_) t_)) rfl ?_
          refine lv_goto (tgt := 43) hx hb dX7_factor_39 (by decide) ?_
          exact r_iret C hw (Nat.le_refl _) (Nat.le_refl _) (⟨by unfold factA; rw [hie, hbe, hte, hci, hcb, hct, sqN_at OS (by omega), sq3_at OF (by omega), if_pos ⟨hq, by omega, by omega⟩], rfl⟩) dX7_factor_43
abbrev rm_c_rpcm : Room := { frames := 0, cells := 0, slots := 0, locals := 0 }
set_option maxHeartbeats 4000000 in
set_option maxRecDepth 100000 in
theorem c_rpcm (l : Launch) (g : GT) (sz : Nat) (mo : Nat) (a : Nat → Nat) (th ln pl nf dec ho oc orw fi at_ en ov ly rt sp pd md ex ch sz_ bd bn pr cr : Nat) (ra qa : Nat → Nat → Nat) (PC : Nat → Nat → Int32) (PS : Nat → Nat) (x y : Int32) (h1 : ∀ i, i < 2 → PS i ≤ 48400) : CtI l g yX7_pcm wsX7_pcm rm_c_rpcm [.ref mo, .int x, .int y] ([(mo, .inr (7, (.int (nI th) :: .ref (a 1) :: .int (nI ln) :: .int (nI pl) :: .ref (a 4) :: .int (nI nf) :: .int (nI dec) :: .ref (a 7) :: .ref (a 8) :: .ref (a 9) :: .int (nI ho) :: .int (nI oc) :: .int (nI orw) :: .ref (a 13) :: .ref (a 14) :: .ref (a 15) :: .ref (a 16) :: .ref (a 17) :: .ref (a 18) :: .ref (a 19) :: .ref (a 20) :: .ref (a 21) :: .ref (a 22) :: .ref (a 23) :: .int (nI fi) :: .int (nI at_) :: .int (nI en) :: .int (nI ov) :: .int (nI ly) :: .int (nI rt) :: .int (nI sp) :: .int (nI pd) :: .int (nI md) :: .int (nI ex) :: .int (nI ch) :: .int (nI sz_) :: .int (nI bd) :: .int (nI bn) :: .int (nI pr) :: .int (nI cr) :: []))), ((a 7), aII g 2 (ptr 2 (ra 7))), ((a 8), aI g 2 (fun j => nI (PS j)))] ++ (grd g (ra 7) 2 48400 PC ++ [])) sz (fun _ => True) (fun rr u => rr = pcmA (PS 0) (PS 1) (PC 0) (PC 1) x y ∧ u = ([(mo, .inr (7, (.int (nI th) :: .ref (a 1) :: .int (nI ln) :: .int (nI pl) :: .ref (a 4) :: .int (nI nf) :: .int (nI dec) :: .ref (a 7) :: .ref (a 8) :: .ref (a 9) :: .int (nI ho) :: .int (nI oc) :: .int (nI orw) :: .ref (a 13) :: .ref (a 14) :: .ref (a 15) :: .ref (a 16) :: .ref (a 17) :: .ref (a 18) :: .ref (a 19) :: .ref (a 20) :: .ref (a 21) :: .ref (a 22) :: .ref (a 23) :: .int (nI fi) :: .int (nI at_) :: .int (nI en) :: .int (nI ov) :: .int (nI ly) :: .int (nI rt) :: .int (nI sp) :: .int (nI pd) :: .int (nI md) :: .int (nI ex) :: .int (nI ch) :: .int (nI sz_) :: .int (nI bd) :: .int (nI bn) :: .int (nI pr) :: .int (nI cr) :: []))), ((a 7), aII g 2 (ptr 2 (ra 7))), ((a 8), aI g 2 (fun j => nI (PS j)))] ++ (grd g (ra 7) 2 48400 PC ++ []))) (0) (0) := by
  refine ct_body (cc := cX7_pcm) (nL := 3) (ret := (some .int)) (by decide) rfl (Nat.le_of_ble_eq_true rfl) ?_
  intro p e s m below meth c ls C hin hsz hB hw hl
  obtain ⟨hx, hb, hml, hown, hts, hK, hA, hr, hlk⟩ := id C
  have lk19 := hts (.fieldLink RX7 19 "SoundBenchModel" "pcm" "[[I") (by decide +kernel)
  have lk22 := hts (.fieldLink RX7 22 "SoundBenchModel" "pcms" "[I") (by decide +kernel)
  have in_X7 : ∀ w ∈ wsX70, w ∈ wsX7_pcm := by unfold wsX7_pcm; intro w h; simp only [List.mem_cons, List.mem_append, h, or_true, true_or]
  have hl : lv_has ls 3 [(0, .ref mo), (1, .int x), (2, .int y)] := hl
  have hw : Wd g (va_A ([(mo, .inr (7, (.int (nI th) :: .ref (a 1) :: .int (nI ln) :: .int (nI pl) :: .ref (a 4) :: .int (nI nf) :: .int (nI dec) :: .ref (a 7) :: .ref (a 8) :: .ref (a 9) :: .int (nI ho) :: .int (nI oc) :: .int (nI orw) :: .ref (a 13) :: .ref (a 14) :: .ref (a 15) :: .ref (a 16) :: .ref (a 17) :: .ref (a 18) :: .ref (a 19) :: .ref (a 20) :: .ref (a 21) :: .ref (a 22) :: .ref (a 23) :: .int (nI fi) :: .int (nI at_) :: .int (nI en) :: .int (nI ov) :: .int (nI ly) :: .int (nI rt) :: .int (nI sp) :: .int (nI pd) :: .int (nI md) :: .int (nI ex) :: .int (nI ch) :: .int (nI sz_) :: .int (nI bd) :: .int (nI bn) :: .int (nI pr) :: .int (nI cr) :: []))), ((a 7), aII g 2 (ptr 2 (ra 7))), ((a 8), aI g 2 (fun j => nI (PS j)))] ++ (grd g (ra 7) 2 48400 PC ++ [])) sz) s.heap ([(mo, .inr (7, (.int (nI th) :: .ref (a 1) :: .int (nI ln) :: .int (nI pl) :: .ref (a 4) :: .int (nI nf) :: .int (nI dec) :: .ref (a 7) :: .ref (a 8) :: .ref (a 9) :: .int (nI ho) :: .int (nI oc) :: .int (nI orw) :: .ref (a 13) :: .ref (a 14) :: .ref (a 15) :: .ref (a 16) :: .ref (a 17) :: .ref (a 18) :: .ref (a 19) :: .ref (a 20) :: .ref (a 21) :: .ref (a 22) :: .ref (a 23) :: .int (nI fi) :: .int (nI at_) :: .int (nI en) :: .int (nI ov) :: .int (nI ly) :: .int (nI rt) :: .int (nI sp) :: .int (nI pd) :: .int (nI md) :: .int (nI ex) :: .int (nI ch) :: .int (nI sz_) :: .int (nI bd) :: .int (nI bn) :: .int (nI pr) :: .int (nI cr) :: []))), ((a 7), aII g 2 (ptr 2 (ra 7))), ((a 8), aI g 2 (fun j => nI (PS j)))] ++ (grd g (ra 7) 2 48400 PC ++ [])) s.heap [] := hw
  refine lv_iload_n hx hb dX7_pcm_0 rfl (lv_at hl 1 rfl) ?_
  refine lv_if_lt (tgt := 23) hx hb dX7_pcm_1 (by decide) (fun c_1 => ?_) (fun c_1 => ?_)
  · skip
    rw [lt0] at c_1
    refine lv_iconst (v := nI 0) hx hb dX7_pcm_23 (by decide) ?_
    refine lv_goto (tgt := 35) hx hb dX7_pcm_24 (by decide) ?_
    exact r_iret C hw (Nat.le_refl _) (Nat.le_refl _) (⟨(pcm_out (by omega)).symm, rfl⟩) dX7_pcm_35
  · skip
    rw [lt0] at c_1
    refine lv_iload_n hx hb dX7_pcm_4 rfl (lv_at hl 1 rfl) ?_
    refine lv_iconst (v := nI 1) hx hb dX7_pcm_5 (by decide) ?_
    refine lv_icmp_gt (tgt := 23) hx hb dX7_pcm_6 (by decide) (fun c_2 => ?_) (fun c_2 => ?_)
    · skip
      rw [nlt (by omega)] at c_2
      refine lv_iconst (v := nI 0) hx hb dX7_pcm_23 (by decide) ?_
      refine lv_goto (tgt := 35) hx hb dX7_pcm_24 (by decide) ?_
      exact r_iret C hw (Nat.le_refl _) (Nat.le_refl _) (⟨(pcm_out (by omega)).symm, rfl⟩) dX7_pcm_35
    · skip
      rw [nlt (by omega)] at c_2
      obtain ⟨c_, hc_, rfl, hce⟩ := nat_of (x := x) (by omega)
      rw [hce] at c_1 c_2
      have hps := h1 c_ (by omega)
      refine lv_iload_n hx hb dX7_pcm_9 rfl (lv_at hl 2 rfl) ?_
      refine lv_if_lt (tgt := 23) hx hb dX7_pcm_10 (by decide) (fun c_3 => ?_) (fun c_3 => ?_)
      · skip
        rw [lt0] at c_3
        refine lv_iconst (v := nI 0) hx hb dX7_pcm_23 (by decide) ?_
        refine lv_goto (tgt := 35) hx hb dX7_pcm_24 (by decide) ?_
        exact r_iret C hw (Nat.le_refl _) (Nat.le_refl _) (⟨by rw [pcm_at _ (by omega)]; exact (selX_out (by omega)).symm, rfl⟩) dX7_pcm_35
      · skip
        rw [lt0] at c_3
        refine lv_iload_n hx hb dX7_pcm_13 rfl (lv_at hl 2 rfl) ?_
        refine lv_aload_n hx hb dX7_pcm_14 rfl (lv_at hl 0 rfl) ?_
        refine r_get C hw in_X7 0 rfl rfl 8 (by decide) lk22 rfl dX7_pcm_15 ?_
        refine lv_iload_n hx hb dX7_pcm_18 rfl (lv_at hl 1 rfl) ?_
        refine r_iald C hw 2 rfl (by omega) (by omega) dX7_pcm_19 ?_
        refine lv_icmp_lt (tgt := 27) hx hb dX7_pcm_20 (by decide) (fun c_4 => ?_) (fun c_4 => ?_)
        · skip
          rw [ltn (by omega)] at c_4
          obtain ⟨i_, hi_, rfl, hie⟩ := nat_of (x := y) (by omega)
          rw [hie] at c_3 c_4
          refine lv_aload_n hx hb dX7_pcm_27 rfl (lv_at hl 0 rfl) ?_
          refine r_get C hw in_X7 0 rfl rfl 7 (by decide) lk19 rfl dX7_pcm_28 ?_
          refine lv_iload_n hx hb dX7_pcm_31 rfl (lv_at hl 1 rfl) ?_
          refine r_aldII (y := ra 7 c_) C hw 1 rfl (by omega) (by omega) (ptr_at _ (by omega)) dX7_pcm_32 ?_
          refine lv_iload_n hx hb dX7_pcm_33 rfl (lv_at hl 2 rfl) ?_
          refine r_iald C hw _ (at_r (at_l (grd_at (by omega)))) (by omega) (by omega) dX7_pcm_34 ?_
          exact r_iret C hw (Nat.le_refl _) (Nat.le_refl _) (⟨by rw [pcm_at _ (by omega), selX_in (by omega) (by omega)], rfl⟩) dX7_pcm_35
        · skip
          rw [ltn (by omega)] at c_4
          refine lv_iconst (v := nI 0) hx hb dX7_pcm_23 (by decide) ?_
          refine lv_goto (tgt := 35) hx hb dX7_pcm_24 (by decide) ?_
          exact r_iret C hw (Nat.le_refl _) (Nat.le_refl _) (⟨by rw [pcm_at _ (by omega)]; exact (selX_out (by omega)).symm, rfl⟩) dX7_pcm_35
abbrev rm_c_rmemory : Room := { frames := 0, cells := 0, slots := 0, locals := 0 }
set_option maxHeartbeats 4000000 in
set_option maxRecDepth 100000 in
theorem c_rmemory (l : Launch) (g : GT) (sz : Nat) (mo : Nat) (a : Nat → Nat) (th ln pl nf dec ho oc orw fi at_ en ov ly rt sp pd md ex ch sz_ bd bn pr cr : Nat) (ra qa : Nat → Nat → Nat) (V : Nat → Nat → Int32) (x y : Int32) : CtI l g yX7_memory wsX7_memory rm_c_rmemory [.ref mo, .int x, .int y] ([(mo, .inr (7, (.int (nI th) :: .ref (a 1) :: .int (nI ln) :: .int (nI pl) :: .ref (a 4) :: .int (nI nf) :: .int (nI dec) :: .ref (a 7) :: .ref (a 8) :: .ref (a 9) :: .int (nI ho) :: .int (nI oc) :: .int (nI orw) :: .ref (a 13) :: .ref (a 14) :: .ref (a 15) :: .ref (a 16) :: .ref (a 17) :: .ref (a 18) :: .ref (a 19) :: .ref (a 20) :: .ref (a 21) :: .ref (a 22) :: .ref (a 23) :: .int (nI fi) :: .int (nI at_) :: .int (nI en) :: .int (nI ov) :: .int (nI ly) :: .int (nI rt) :: .int (nI sp) :: .int (nI pd) :: .int (nI md) :: .int (nI ex) :: .int (nI ch) :: .int (nI sz_) :: .int (nI bd) :: .int (nI bn) :: .int (nI pr) :: .int (nI cr) :: []))), ((a 9), aII g 2 (ptr 2 (ra 9)))] ++ (grd g (ra 9) 2 1024 V ++ [])) sz (fun _ => True) (fun rr u => rr = pcmA 1024 1024 (V 0) (V 1) x y ∧ u = ([(mo, .inr (7, (.int (nI th) :: .ref (a 1) :: .int (nI ln) :: .int (nI pl) :: .ref (a 4) :: .int (nI nf) :: .int (nI dec) :: .ref (a 7) :: .ref (a 8) :: .ref (a 9) :: .int (nI ho) :: .int (nI oc) :: .int (nI orw) :: .ref (a 13) :: .ref (a 14) :: .ref (a 15) :: .ref (a 16) :: .ref (a 17) :: .ref (a 18) :: .ref (a 19) :: .ref (a 20) :: .ref (a 21) :: .ref (a 22) :: .ref (a 23) :: .int (nI fi) :: .int (nI at_) :: .int (nI en) :: .int (nI ov) :: .int (nI ly) :: .int (nI rt) :: .int (nI sp) :: .int (nI pd) :: .int (nI md) :: .int (nI ex) :: .int (nI ch) :: .int (nI sz_) :: .int (nI bd) :: .int (nI bn) :: .int (nI pr) :: .int (nI cr) :: []))), ((a 9), aII g 2 (ptr 2 (ra 9)))] ++ (grd g (ra 9) 2 1024 V ++ []))) (0) (0) := by
  refine ct_body (cc := cX7_memory) (nL := 3) (ret := (some .int)) (by decide) rfl (Nat.le_of_ble_eq_true rfl) ?_
  intro p e s m below meth c ls C hin hsz hB hw hl
  obtain ⟨hx, hb, hml, hown, hts, hK, hA, hr, hlk⟩ := id C
  have lk26 := hts (.fieldLink RX7 26 "SoundBenchModel" "v" "[[I") (by decide +kernel)
  have in_X7 : ∀ w ∈ wsX70, w ∈ wsX7_memory := by unfold wsX7_memory; intro w h; simp only [List.mem_cons, List.mem_append, h, or_true, true_or]
  have hl : lv_has ls 3 [(0, .ref mo), (1, .int x), (2, .int y)] := hl
  have hw : Wd g (va_A ([(mo, .inr (7, (.int (nI th) :: .ref (a 1) :: .int (nI ln) :: .int (nI pl) :: .ref (a 4) :: .int (nI nf) :: .int (nI dec) :: .ref (a 7) :: .ref (a 8) :: .ref (a 9) :: .int (nI ho) :: .int (nI oc) :: .int (nI orw) :: .ref (a 13) :: .ref (a 14) :: .ref (a 15) :: .ref (a 16) :: .ref (a 17) :: .ref (a 18) :: .ref (a 19) :: .ref (a 20) :: .ref (a 21) :: .ref (a 22) :: .ref (a 23) :: .int (nI fi) :: .int (nI at_) :: .int (nI en) :: .int (nI ov) :: .int (nI ly) :: .int (nI rt) :: .int (nI sp) :: .int (nI pd) :: .int (nI md) :: .int (nI ex) :: .int (nI ch) :: .int (nI sz_) :: .int (nI bd) :: .int (nI bn) :: .int (nI pr) :: .int (nI cr) :: []))), ((a 9), aII g 2 (ptr 2 (ra 9)))] ++ (grd g (ra 9) 2 1024 V ++ [])) sz) s.heap ([(mo, .inr (7, (.int (nI th) :: .ref (a 1) :: .int (nI ln) :: .int (nI pl) :: .ref (a 4) :: .int (nI nf) :: .int (nI dec) :: .ref (a 7) :: .ref (a 8) :: .ref (a 9) :: .int (nI ho) :: .int (nI oc) :: .int (nI orw) :: .ref (a 13) :: .ref (a 14) :: .ref (a 15) :: .ref (a 16) :: .ref (a 17) :: .ref (a 18) :: .ref (a 19) :: .ref (a 20) :: .ref (a 21) :: .ref (a 22) :: .ref (a 23) :: .int (nI fi) :: .int (nI at_) :: .int (nI en) :: .int (nI ov) :: .int (nI ly) :: .int (nI rt) :: .int (nI sp) :: .int (nI pd) :: .int (nI md) :: .int (nI ex) :: .int (nI ch) :: .int (nI sz_) :: .int (nI bd) :: .int (nI bn) :: .int (nI pr) :: .int (nI cr) :: []))), ((a 9), aII g 2 (ptr 2 (ra 9)))] ++ (grd g (ra 9) 2 1024 V ++ [])) s.heap [] := hw
  refine lv_iload_n hx hb dX7_memory_0 rfl (lv_at hl 1 rfl) ?_
  refine lv_if_lt (tgt := 20) hx hb dX7_memory_1 (by decide) (fun c_1 => ?_) (fun c_1 => ?_)
  · skip
    rw [lt0] at c_1
    refine lv_iconst (v := nI 0) hx hb dX7_memory_20 (by decide) ?_
    refine lv_goto (tgt := 32) hx hb dX7_memory_21 (by decide) ?_
    exact r_iret C hw (Nat.le_refl _) (Nat.le_refl _) (⟨(pcm_out (by omega)).symm, rfl⟩) dX7_memory_32
  · skip
    rw [lt0] at c_1
    refine lv_iload_n hx hb dX7_memory_4 rfl (lv_at hl 1 rfl) ?_
    refine lv_iconst (v := nI 1) hx hb dX7_memory_5 (by decide) ?_
    refine lv_icmp_gt (tgt := 20) hx hb dX7_memory_6 (by decide) (fun c_2 => ?_) (fun c_2 => ?_)
    · skip
      rw [nlt (by omega)] at c_2
      refine lv_iconst (v := nI 0) hx hb dX7_memory_20 (by decide) ?_
      refine lv_goto (tgt := 32) hx hb dX7_memory_21 (by decide) ?_
      exact r_iret C hw (Nat.le_refl _) (Nat.le_refl _) (⟨(pcm_out (by omega)).symm, rfl⟩) dX7_memory_32
    · skip
      rw [nlt (by omega)] at c_2
      obtain ⟨c_, hc_, rfl, hce⟩ := nat_of (x := x) (by omega)
      rw [hce] at c_1 c_2
      refine lv_iload_n hx hb dX7_memory_9 rfl (lv_at hl 2 rfl) ?_
      refine lv_if_lt (tgt := 20) hx hb dX7_memory_10 (by decide) (fun c_3 => ?_) (fun c_3 => ?_)
      · skip
        rw [lt0] at c_3
        refine lv_iconst (v := nI 0) hx hb dX7_memory_20 (by decide) ?_
        refine lv_goto (tgt := 32) hx hb dX7_memory_21 (by decide) ?_
        exact r_iret C hw (Nat.le_refl _) (Nat.le_refl _) (⟨by rw [pcm_at (md := fun _ => 1024) _ (by omega)]; exact (selX_out (by omega)).symm, rfl⟩) dX7_memory_32
      · skip
        rw [lt0] at c_3
        refine lv_iload_n hx hb dX7_memory_13 rfl (lv_at hl 2 rfl) ?_
        refine lv_sipush (v := nI 1023) hx hb dX7_memory_14 (by decide) ?_
        refine lv_icmp_le (tgt := 24) hx hb dX7_memory_17 (by decide) (fun c_4 => ?_) (fun c_4 => ?_)
        · skip
          rw [len_ (by omega)] at c_4
          obtain ⟨i_, hi_, rfl, hie⟩ := nat_of (x := y) (by omega)
          rw [hie] at c_3 c_4
          refine lv_aload_n hx hb dX7_memory_24 rfl (lv_at hl 0 rfl) ?_
          refine r_get C hw in_X7 0 rfl rfl 9 (by decide) lk26 rfl dX7_memory_25 ?_
          refine lv_iload_n hx hb dX7_memory_28 rfl (lv_at hl 1 rfl) ?_
          refine r_aldII (y := ra 9 c_) C hw 1 rfl (by omega) (by omega) (ptr_at _ (by omega)) dX7_memory_29 ?_
          refine lv_iload_n hx hb dX7_memory_30 rfl (lv_at hl 2 rfl) ?_
          refine r_iald C hw _ (at_r (at_l (grd_at (by omega)))) (by omega) (by omega) dX7_memory_31 ?_
          exact r_iret C hw (Nat.le_refl _) (Nat.le_refl _) (⟨by rw [pcm_at (md := fun _ => 1024) _ (by omega), selX_in (by omega) (by omega)], rfl⟩) dX7_memory_32
        · skip
          rw [len_ (by omega)] at c_4
          refine lv_iconst (v := nI 0) hx hb dX7_memory_20 (by decide) ?_
          refine lv_goto (tgt := 32) hx hb dX7_memory_21 (by decide) ?_
          exact r_iret C hw (Nat.le_refl _) (Nat.le_refl _) (⟨by rw [pcm_at (md := fun _ => 1024) _ (by omega)]; exact (selX_out (by omega)).symm, rfl⟩) dX7_memory_32
abbrev rm_c_rsum : Room := { frames := 1, cells := 0, slots := 0, locals := 22 }
set_option maxHeartbeats 4000000 in
set_option maxRecDepth 100000 in
theorem c_rsum (l : Launch) (g : GT) (sz : Nat) (mo : Nat) (a : Nat → Nat) (th ln pl nf dec ho oc orw fi at_ en ov ly rt sp pd md ex ch sz_ bd bn pr cr : Nat) (ra qa : Nat → Nat → Nat) (PC : Nat → Nat → Int32) (PS : Nat → Nat) (x y z : Int32) (h1 : ∀ i, i < 2 → PS i ≤ 48400) : CtI l g yX7_sum wsX7_sum rm_c_rsum [.ref mo, .int x, .int y, .int z] ([(mo, .inr (7, (.int (nI th) :: .ref (a 1) :: .int (nI ln) :: .int (nI pl) :: .ref (a 4) :: .int (nI nf) :: .int (nI dec) :: .ref (a 7) :: .ref (a 8) :: .ref (a 9) :: .int (nI ho) :: .int (nI oc) :: .int (nI orw) :: .ref (a 13) :: .ref (a 14) :: .ref (a 15) :: .ref (a 16) :: .ref (a 17) :: .ref (a 18) :: .ref (a 19) :: .ref (a 20) :: .ref (a 21) :: .ref (a 22) :: .ref (a 23) :: .int (nI fi) :: .int (nI at_) :: .int (nI en) :: .int (nI ov) :: .int (nI ly) :: .int (nI rt) :: .int (nI sp) :: .int (nI pd) :: .int (nI md) :: .int (nI ex) :: .int (nI ch) :: .int (nI sz_) :: .int (nI bd) :: .int (nI bn) :: .int (nI pr) :: .int (nI cr) :: []))), ((a 7), aII g 2 (ptr 2 (ra 7))), ((a 8), aI g 2 (fun j => nI (PS j)))] ++ (grd g (ra 7) 2 48400 PC ++ [])) sz (fun _ => True) (fun rr u => rr = sumA (PS 0) (PS 1) (PC 0) (PC 1) x y z ∧ u = ([(mo, .inr (7, (.int (nI th) :: .ref (a 1) :: .int (nI ln) :: .int (nI pl) :: .ref (a 4) :: .int (nI nf) :: .int (nI dec) :: .ref (a 7) :: .ref (a 8) :: .ref (a 9) :: .int (nI ho) :: .int (nI oc) :: .int (nI orw) :: .ref (a 13) :: .ref (a 14) :: .ref (a 15) :: .ref (a 16) :: .ref (a 17) :: .ref (a 18) :: .ref (a 19) :: .ref (a 20) :: .ref (a 21) :: .ref (a 22) :: .ref (a 23) :: .int (nI fi) :: .int (nI at_) :: .int (nI en) :: .int (nI ov) :: .int (nI ly) :: .int (nI rt) :: .int (nI sp) :: .int (nI pd) :: .int (nI md) :: .int (nI ex) :: .int (nI ch) :: .int (nI sz_) :: .int (nI bd) :: .int (nI bn) :: .int (nI pr) :: .int (nI cr) :: []))), ((a 7), aII g 2 (ptr 2 (ra 7))), ((a 8), aI g 2 (fun j => nI (PS j)))] ++ (grd g (ra 7) 2 48400 PC ++ []))) (0) (0) := by
  refine ct_body (cc := cX7_sum) (nL := 6) (ret := (some .int)) (by decide) rfl (Nat.le_of_ble_eq_true rfl) ?_
  intro p e s m below meth c ls C hin hsz hB hw hl
  obtain ⟨hx, hb, hml, hown, hts, hK, hA, hr, hlk⟩ := id C
  have hl : lv_has ls 6 [(0, .ref mo), (1, .int x), (2, .int y), (3, .int z)] := hl
  have hw : Wd g (va_A ([(mo, .inr (7, (.int (nI th) :: .ref (a 1) :: .int (nI ln) :: .int (nI pl) :: .ref (a 4) :: .int (nI nf) :: .int (nI dec) :: .ref (a 7) :: .ref (a 8) :: .ref (a 9) :: .int (nI ho) :: .int (nI oc) :: .int (nI orw) :: .ref (a 13) :: .ref (a 14) :: .ref (a 15) :: .ref (a 16) :: .ref (a 17) :: .ref (a 18) :: .ref (a 19) :: .ref (a 20) :: .ref (a 21) :: .ref (a 22) :: .ref (a 23) :: .int (nI fi) :: .int (nI at_) :: .int (nI en) :: .int (nI ov) :: .int (nI ly) :: .int (nI rt) :: .int (nI sp) :: .int (nI pd) :: .int (nI md) :: .int (nI ex) :: .int (nI ch) :: .int (nI sz_) :: .int (nI bd) :: .int (nI bn) :: .int (nI pr) :: .int (nI cr) :: []))), ((a 7), aII g 2 (ptr 2 (ra 7))), ((a 8), aI g 2 (fun j => nI (PS j)))] ++ (grd g (ra 7) 2 48400 PC ++ [])) sz) s.heap ([(mo, .inr (7, (.int (nI th) :: .ref (a 1) :: .int (nI ln) :: .int (nI pl) :: .ref (a 4) :: .int (nI nf) :: .int (nI dec) :: .ref (a 7) :: .ref (a 8) :: .ref (a 9) :: .int (nI ho) :: .int (nI oc) :: .int (nI orw) :: .ref (a 13) :: .ref (a 14) :: .ref (a 15) :: .ref (a 16) :: .ref (a 17) :: .ref (a 18) :: .ref (a 19) :: .ref (a 20) :: .ref (a 21) :: .ref (a 22) :: .ref (a 23) :: .int (nI fi) :: .int (nI at_) :: .int (nI en) :: .int (nI ov) :: .int (nI ly) :: .int (nI rt) :: .int (nI sp) :: .int (nI pd) :: .int (nI md) :: .int (nI ex) :: .int (nI ch) :: .int (nI sz_) :: .int (nI bd) :: .int (nI bn) :: .int (nI pr) :: .int (nI cr) :: []))), ((a 7), aII g 2 (ptr 2 (ra 7))), ((a 8), aI g 2 (fun j => nI (PS j)))] ++ (grd g (ra 7) 2 48400 PC ++ [])) s.heap [] := hw
  refine lv_iload_n hx hb dX7_sum_0 rfl (lv_at hl 2 rfl) ?_
  refine lv_if_lt (tgt := 18) hx hb dX7_sum_1 (by decide) (fun c_1 => ?_) (fun c_1 => ?_)
  · skip
    rw [lt0] at c_1
    refine lv_iconst (v := nI 0) hx hb dX7_sum_18 (by decide) ?_
    exact r_iret C hw (Nat.le_refl _) (Nat.le_refl _) (⟨(sum_out (by omega)).symm, rfl⟩) dX7_sum_19
  · skip
    rw [lt0] at c_1
    refine lv_iload_n hx hb dX7_sum_4 rfl (lv_at hl 3 rfl) ?_
    refine lv_iload_n hx hb dX7_sum_5 rfl (lv_at hl 2 rfl) ?_
    refine lv_icmp_lt (tgt := 18) hx hb dX7_sum_6 (by decide) (fun c_2 => ?_) (fun c_2 => ?_)
    · skip
      rw [Int32.lt_iff_toInt_lt] at c_2
      refine lv_iconst (v := nI 0) hx hb dX7_sum_18 (by decide) ?_
      exact r_iret C hw (Nat.le_refl _) (Nat.le_refl _) (⟨(sum_out (by omega)).symm, rfl⟩) dX7_sum_19
    · skip
      obtain ⟨a_, ha_, rfl, hae⟩ := nat_of (x := y) (by omega)
      obtain ⟨b_, hb_, rfl, hbe⟩ := nat_of (x := z) (by rw [Int32.lt_iff_toInt_lt] at c_2; omega)
      rw [Int32.lt_iff_toInt_lt, hae, hbe] at c_2
      refine lv_iload_n hx hb dX7_sum_9 rfl (lv_at hl 3 rfl) ?_
      refine lv_iload_n hx hb dX7_sum_10 rfl (lv_at hl 2 rfl) ?_
      refine n_sub hx hb dX7_sum_11 (by omega) ?_
      refine lv_sipush (v := nI 2000) hx hb dX7_sum_12 (by decide) ?_
      refine n_cle (tgt := 20) hx hb (by omega) (by omega) dX7_sum_15 (by decide) (fun c_3 => ?_) (fun c_3 => ?_)
      · skip
        refine lv_iconst (v := nI 0) hx hb dX7_sum_20 (by decide) ?_
        refine lv_istore (lv' := [(4, .int (nI 0)), (0, .ref mo), (1, .int x), (2, .int (nI a_)), (3, .int (nI b_))]) hx hb dX7_sum_21 hl (by decide) rfl (fun ls hl => ?_)
        refine lv_iconst (v := nI 0) hx hb dX7_sum_23 (by decide) ?_
        refine lv_istore (lv' := [(5, .int (nI 0)), (4, .int (nI 0)), (0, .ref mo), (1, .int x), (2, .int (nI a_)), (3, .int (nI b_))]) hx hb dX7_sum_24 hl (by decide) rfl (fun ls hl => ?_)
        refine lps (σ := Int32) (smF (fun y => pcmA (PS 0) (PS 1) (PC 0) (PC 1) x y) a_) (fun k s_ => True) (fun k s_ H locs ls => Wd g (va_A ([(mo, .inr (7, (.int (nI th) :: .ref (a 1) :: .int (nI ln) :: .int (nI pl) :: .ref (a 4) :: .int (nI nf) :: .int (nI dec) :: .ref (a 7) :: .ref (a 8) :: .ref (a 9) :: .int (nI ho) :: .int (nI oc) :: .int (nI orw) :: .ref (a 13) :: .ref (a 14) :: .ref (a 15) :: .ref (a 16) :: .ref (a 17) :: .ref (a 18) :: .ref (a 19) :: .ref (a 20) :: .ref (a 21) :: .ref (a 22) :: .ref (a 23) :: .int (nI fi) :: .int (nI at_) :: .int (nI en) :: .int (nI ov) :: .int (nI ly) :: .int (nI rt) :: .int (nI sp) :: .int (nI pd) :: .int (nI md) :: .int (nI ex) :: .int (nI ch) :: .int (nI sz_) :: .int (nI bd) :: .int (nI bn) :: .int (nI pr) :: .int (nI cr) :: []))), ((a 7), aII g 2 (ptr 2 (ra 7))), ((a 8), aI g 2 (fun j => nI (PS j)))] ++ (grd g (ra 7) 2 48400 PC ++ [])) sz) s.heap ([(mo, .inr (7, (.int (nI th) :: .ref (a 1) :: .int (nI ln) :: .int (nI pl) :: .ref (a 4) :: .int (nI nf) :: .int (nI dec) :: .ref (a 7) :: .ref (a 8) :: .ref (a 9) :: .int (nI ho) :: .int (nI oc) :: .int (nI orw) :: .ref (a 13) :: .ref (a 14) :: .ref (a 15) :: .ref (a 16) :: .ref (a 17) :: .ref (a 18) :: .ref (a 19) :: .ref (a 20) :: .ref (a 21) :: .ref (a 22) :: .ref (a 23) :: .int (nI fi) :: .int (nI at_) :: .int (nI en) :: .int (nI ov) :: .int (nI ly) :: .int (nI rt) :: .int (nI sp) :: .int (nI pd) :: .int (nI md) :: .int (nI ex) :: .int (nI ch) :: .int (nI sz_) :: .int (nI bd) :: .int (nI bn) :: .int (nI pr) :: .int (nI cr) :: []))), ((a 7), aII g 2 (ptr 2 (ra 7))), ((a 8), aI g 2 (fun j => nI (PS j)))] ++ (grd g (ra 7) 2 48400 PC ++ [])) H locs ∧ lv_has ls 6 [(0, .ref mo), (1, .int x), (2, .int (nI a_)), (3, .int (nI b_)), (4, .int s_), (5, .int (nI k))]) (b_ - a_) (0) ?_ ?_ (trivial) ⟨hw, (lv_sub hl [2, 3, 4, 5, 1, 0] rfl)⟩
        · intro s_ hJ hx_ H locs ls hI
          subst hx_
          obtain ⟨hw, hl⟩ := hI
          have hw : Wd g (va_A ([(mo, .inr (7, (.int (nI th) :: .ref (a 1) :: .int (nI ln) :: .int (nI pl) :: .ref (a 4) :: .int (nI nf) :: .int (nI dec) :: .ref (a 7) :: .ref (a 8) :: .ref (a 9) :: .int (nI ho) :: .int (nI oc) :: .int (nI orw) :: .ref (a 13) :: .ref (a 14) :: .ref (a 15) :: .ref (a 16) :: .ref (a 17) :: .ref (a 18) :: .ref (a 19) :: .ref (a 20) :: .ref (a 21) :: .ref (a 22) :: .ref (a 23) :: .int (nI fi) :: .int (nI at_) :: .int (nI en) :: .int (nI ov) :: .int (nI ly) :: .int (nI rt) :: .int (nI sp) :: .int (nI pd) :: .int (nI md) :: .int (nI ex) :: .int (nI ch) :: .int (nI sz_) :: .int (nI bd) :: .int (nI bn) :: .int (nI pr) :: .int (nI cr) :: []))), ((a 7), aII g 2 (ptr 2 (ra 7))), ((a 8), aI g 2 (fun j => nI (PS j)))] ++ (grd g (ra 7) 2 48400 PC ++ [])) sz) s.heap ([(mo, .inr (7, (.int (nI th) :: .ref (a 1) :: .int (nI ln) :: .int (nI pl) :: .ref (a 4) :: .int (nI nf) :: .int (nI dec) :: .ref (a 7) :: .ref (a 8) :: .ref (a 9) :: .int (nI ho) :: .int (nI oc) :: .int (nI orw) :: .ref (a 13) :: .ref (a 14) :: .ref (a 15) :: .ref (a 16) :: .ref (a 17) :: .ref (a 18) :: .ref (a 19) :: .ref (a 20) :: .ref (a 21) :: .ref (a 22) :: .ref (a 23) :: .int (nI fi) :: .int (nI at_) :: .int (nI en) :: .int (nI ov) :: .int (nI ly) :: .int (nI rt) :: .int (nI sp) :: .int (nI pd) :: .int (nI md) :: .int (nI ex) :: .int (nI ch) :: .int (nI sz_) :: .int (nI bd) :: .int (nI bn) :: .int (nI pr) :: .int (nI cr) :: []))), ((a 7), aII g 2 (ptr 2 (ra 7))), ((a 8), aI g 2 (fun j => nI (PS j)))] ++ (grd g (ra 7) 2 48400 PC ++ [])) H locs := hw
          have hl : lv_has ls 6 [(0, .ref mo), (1, .int x), (2, .int (nI a_)), (3, .int (nI b_)), (4, .int (lp (smF (fun y => pcmA (PS 0) (PS 1) (PC 0) (PC 1) x y) a_) (b_ - a_) 0)), (5, .int (nI (b_ - a_)))] := hl
          refine lv_iload hx hb dX7_sum_26 (lv_at hl 5 rfl) ?_
          refine lv_iload_n hx hb dX7_sum_28 rfl (lv_at hl 3 rfl) ?_
          refine lv_iload_n hx hb dX7_sum_29 rfl (lv_at hl 2 rfl) ?_
          refine n_sub hx hb dX7_sum_30 (by omega) ?_
          refine n_cge (tgt := 59) hx hb (by omega) (by omega) dX7_sum_31 (by decide) (fun c_1 => ?_) (fun c_1 => ?_)
          · skip
            refine lv_iload hx hb dX7_sum_59 (lv_at hl 4 rfl) ?_
            exact r_iret C hw (Nat.le_refl _) (Nat.le_refl _) (⟨sum_ref x (by omega) hb_ (by omega), rfl⟩) dX7_sum_61
          · skip
            exfalso; omega
        · intro k s_ hi hJ hxe H locs ls hI K
          obtain ⟨hw, hl⟩ := hI
          have hw : Wd g (va_A ([(mo, .inr (7, (.int (nI th) :: .ref (a 1) :: .int (nI ln) :: .int (nI pl) :: .ref (a 4) :: .int (nI nf) :: .int (nI dec) :: .ref (a 7) :: .ref (a 8) :: .ref (a 9) :: .int (nI ho) :: .int (nI oc) :: .int (nI orw) :: .ref (a 13) :: .ref (a 14) :: .ref (a 15) :: .ref (a 16) :: .ref (a 17) :: .ref (a 18) :: .ref (a 19) :: .ref (a 20) :: .ref (a 21) :: .ref (a 22) :: .ref (a 23) :: .int (nI fi) :: .int (nI at_) :: .int (nI en) :: .int (nI ov) :: .int (nI ly) :: .int (nI rt) :: .int (nI sp) :: .int (nI pd) :: .int (nI md) :: .int (nI ex) :: .int (nI ch) :: .int (nI sz_) :: .int (nI bd) :: .int (nI bn) :: .int (nI pr) :: .int (nI cr) :: []))), ((a 7), aII g 2 (ptr 2 (ra 7))), ((a 8), aI g 2 (fun j => nI (PS j)))] ++ (grd g (ra 7) 2 48400 PC ++ [])) sz) s.heap ([(mo, .inr (7, (.int (nI th) :: .ref (a 1) :: .int (nI ln) :: .int (nI pl) :: .ref (a 4) :: .int (nI nf) :: .int (nI dec) :: .ref (a 7) :: .ref (a 8) :: .ref (a 9) :: .int (nI ho) :: .int (nI oc) :: .int (nI orw) :: .ref (a 13) :: .ref (a 14) :: .ref (a 15) :: .ref (a 16) :: .ref (a 17) :: .ref (a 18) :: .ref (a 19) :: .ref (a 20) :: .ref (a 21) :: .ref (a 22) :: .ref (a 23) :: .int (nI fi) :: .int (nI at_) :: .int (nI en) :: .int (nI ov) :: .int (nI ly) :: .int (nI rt) :: .int (nI sp) :: .int (nI pd) :: .int (nI md) :: .int (nI ex) :: .int (nI ch) :: .int (nI sz_) :: .int (nI bd) :: .int (nI bn) :: .int (nI pr) :: .int (nI cr) :: []))), ((a 7), aII g 2 (ptr 2 (ra 7))), ((a 8), aI g 2 (fun j => nI (PS j)))] ++ (grd g (ra 7) 2 48400 PC ++ [])) H locs := hw
          have hl : lv_has ls 6 [(0, .ref mo), (1, .int x), (2, .int (nI a_)), (3, .int (nI b_)), (4, .int s_), (5, .int (nI k))] := hl
          refine lv_iload hx hb dX7_sum_26 (lv_at hl 5 rfl) ?_
          refine lv_iload_n hx hb dX7_sum_28 rfl (lv_at hl 3 rfl) ?_
          refine lv_iload_n hx hb dX7_sum_29 rfl (lv_at hl 2 rfl) ?_
          refine n_sub hx hb dX7_sum_30 (by omega) ?_
          refine n_cge (tgt := 59) hx hb (by omega) (by omega) dX7_sum_31 (by decide) (fun c_2 => ?_) (fun c_2 => ?_)
          · skip
            exfalso; omega
          · skip
            refine lv_iload hx hb dX7_sum_34 (lv_at hl 4 rfl) ?_
            refine lv_aload_n hx hb dX7_sum_36 rfl (lv_at hl 0 rfl) ?_
            refine lv_iload_n hx hb dX7_sum_37 rfl (lv_at hl 1 rfl) ?_
            refine lv_iload_n hx hb dX7_sum_38 rfl (lv_at hl 2 rfl) ?_
            refine lv_iload hx hb dX7_sum_39 (lv_at hl 5 rfl) ?_
            refine n_add hx hb dX7_sum_41 ?_
            have hwq : Wd g (va_A ([(mo, .inr (7, (.int (nI th) :: .ref (a 1) :: .int (nI ln) :: .int (nI pl) :: .ref (a 4) :: .int (nI nf) :: .int (nI dec) :: .ref (a 7) :: .ref (a 8) :: .ref (a 9) :: .int (nI ho) :: .int (nI oc) :: .int (nI orw) :: .ref (a 13) :: .ref (a 14) :: .ref (a 15) :: .ref (a 16) :: .ref (a 17) :: .ref (a 18) :: .ref (a 19) :: .ref (a 20) :: .ref (a 21) :: .ref (a 22) :: .ref (a 23) :: .int (nI fi) :: .int (nI at_) :: .int (nI en) :: .int (nI ov) :: .int (nI ly) :: .int (nI rt) :: .int (nI sp) :: .int (nI pd) :: .int (nI md) :: .int (nI ex) :: .int (nI ch) :: .int (nI sz_) :: .int (nI bd) :: .int (nI bn) :: .int (nI pr) :: .int (nI cr) :: []))), ((a 7), aII g 2 (ptr 2 (ra 7))), ((a 8), aI g 2 (fun j => nI (PS j)))] ++ (grd g (ra 7) 2 48400 PC ++ [])) sz) s.heap (([(mo, .inr (7, (.int (nI th) :: .ref (a 1) :: .int (nI ln) :: .int (nI pl) :: .ref (a 4) :: .int (nI nf) :: .int (nI dec) :: .ref (a 7) :: .ref (a 8) :: .ref (a 9) :: .int (nI ho) :: .int (nI oc) :: .int (nI orw) :: .ref (a 13) :: .ref (a 14) :: .ref (a 15) :: .ref (a 16) :: .ref (a 17) :: .ref (a 18) :: .ref (a 19) :: .ref (a 20) :: .ref (a 21) :: .ref (a 22) :: .ref (a 23) :: .int (nI fi) :: .int (nI at_) :: .int (nI en) :: .int (nI ov) :: .int (nI ly) :: .int (nI rt) :: .int (nI sp) :: .int (nI pd) :: .int (nI md) :: .int (nI ex) :: .int (nI ch) :: .int (nI sz_) :: .int (nI bd) :: .int (nI bn) :: .int (nI pr) :: .int (nI cr) :: []))), ((a 7), aII g 2 (ptr 2 (ra 7))), ((a 8), aI g 2 (fun j => nI (PS j)))] ++ (grd g (ra 7) 2 48400 PC ++ [])) ++ []) _ _ := Wd.swT (a := [(mo, .inr (7, (.int (nI th) :: .ref (a 1) :: .int (nI ln) :: .int (nI pl) :: .ref (a 4) :: .int (nI nf) :: .int (nI dec) :: .ref (a 7) :: .ref (a 8) :: .ref (a 9) :: .int (nI ho) :: .int (nI oc) :: .int (nI orw) :: .ref (a 13) :: .ref (a 14) :: .ref (a 15) :: .ref (a 16) :: .ref (a 17) :: .ref (a 18) :: .ref (a 19) :: .ref (a 20) :: .ref (a 21) :: .ref (a 22) :: .ref (a 23) :: .int (nI fi) :: .int (nI at_) :: .int (nI en) :: .int (nI ov) :: .int (nI ly) :: .int (nI rt) :: .int (nI sp) :: .int (nI pd) :: .int (nI md) :: .int (nI ex) :: .int (nI ch) :: .int (nI sz_) :: .int (nI bd) :: .int (nI bn) :: .int (nI pr) :: .int (nI cr) :: []))), ((a 7), aII g 2 (ptr 2 (ra 7))), ((a 8), aI g 2 (fun j => nI (PS j)))]) (b := []) (c := (grd g (ra 7) 2 48400 PC ++ [])) (Wd.subT (E := [(mo, .inr (7, (.int (nI th) :: .ref (a 1) :: .int (nI ln) :: .int (nI pl) :: .ref (a 4) :: .int (nI nf) :: .int (nI dec) :: .ref (a 7) :: .ref (a 8) :: .ref (a 9) :: .int (nI ho) :: .int (nI oc) :: .int (nI orw) :: .ref (a 13) :: .ref (a 14) :: .ref (a 15) :: .ref (a 16) :: .ref (a 17) :: .ref (a 18) :: .ref (a 19) :: .ref (a 20) :: .ref (a 21) :: .ref (a 22) :: .ref (a 23) :: .int (nI fi) :: .int (nI at_) :: .int (nI en) :: .int (nI ov) :: .int (nI ly) :: .int (nI rt) :: .int (nI sp) :: .int (nI pd) :: .int (nI md) :: .int (nI ex) :: .int (nI ch) :: .int (nI sz_) :: .int (nI bd) :: .int (nI bn) :: .int (nI pr) :: .int (nI cr) :: []))), ((a 7), aII g 2 (ptr 2 (ra 7))), ((a 8), aI g 2 (fun j => nI (PS j)))]) (E' := [(mo, .inr (7, (.int (nI th) :: .ref (a 1) :: .int (nI ln) :: .int (nI pl) :: .ref (a 4) :: .int (nI nf) :: .int (nI dec) :: .ref (a 7) :: .ref (a 8) :: .ref (a 9) :: .int (nI ho) :: .int (nI oc) :: .int (nI orw) :: .ref (a 13) :: .ref (a 14) :: .ref (a 15) :: .ref (a 16) :: .ref (a 17) :: .ref (a 18) :: .ref (a 19) :: .ref (a 20) :: .ref (a 21) :: .ref (a 22) :: .ref (a 23) :: .int (nI fi) :: .int (nI at_) :: .int (nI en) :: .int (nI ov) :: .int (nI ly) :: .int (nI rt) :: .int (nI sp) :: .int (nI pd) :: .int (nI md) :: .int (nI ex) :: .int (nI ch) :: .int (nI sz_) :: .int (nI bd) :: .int (nI bn) :: .int (nI pr) :: .int (nI cr) :: []))), ((a 7), aII g 2 (ptr 2 (ra 7))), ((a 8), aI g 2 (fun j => nI (PS j)))]) hw [0, 1, 2] (by decide) rfl)
            refine kP_Vi (As := [.int x, .int (nI (a_ + k))]) (rest := [.int s_]) (w := ([(mo, .inr (7, (.int (nI th) :: .ref (a 1) :: .int (nI ln) :: .int (nI pl) :: .ref (a 4) :: .int (nI nf) :: .int (nI dec) :: .ref (a 7) :: .ref (a 8) :: .ref (a 9) :: .int (nI ho) :: .int (nI oc) :: .int (nI orw) :: .ref (a 13) :: .ref (a 14) :: .ref (a 15) :: .ref (a 16) :: .ref (a 17) :: .ref (a 18) :: .ref (a 19) :: .ref (a 20) :: .ref (a 21) :: .ref (a 22) :: .ref (a 23) :: .int (nI fi) :: .int (nI at_) :: .int (nI en) :: .int (nI ov) :: .int (nI ly) :: .int (nI rt) :: .int (nI sp) :: .int (nI pd) :: .int (nI md) :: .int (nI ex) :: .int (nI ch) :: .int (nI sz_) :: .int (nI bd) :: .int (nI bn) :: .int (nI pr) :: .int (nI cr) :: []))), ((a 7), aII g 2 (ptr 2 (ra 7))), ((a 8), aI g 2 (fun j => nI (PS j)))] ++ (grd g (ra 7) 2 48400 PC ++ []))) (wr := []) C hwq (c_rpcm l g _ mo a th ln pl nf dec ho oc orw fi at_ en ov ly rt sp pd md ex ch sz_ bd bn pr cr ra qa PC PS x (nI (a_ + k)) h1) (cwV 2 hts gX7_sum_X7_pcm rfl rfl rfl (by decide +kernel) ⟨Nat.le_of_ble_eq_true rfl, Nat.le_of_ble_eq_true rfl⟩) bl_T (fun _ _ _ => trivial) 0 rfl rfl rfl hl.1 rfl (Nat.le_of_ble_eq_true rfl) dX7_sum_42 ⟨Nat.le_of_ble_eq_true rfl, Nat.le_of_ble_eq_true rfl⟩ (fun r_3 u H locs hp hw => ?_)
            obtain ⟨rfl, rfl⟩ := hp
            have hw := Wd.swT (a := [(mo, .inr (7, (.int (nI th) :: .ref (a 1) :: .int (nI ln) :: .int (nI pl) :: .ref (a 4) :: .int (nI nf) :: .int (nI dec) :: .ref (a 7) :: .ref (a 8) :: .ref (a 9) :: .int (nI ho) :: .int (nI oc) :: .int (nI orw) :: .ref (a 13) :: .ref (a 14) :: .ref (a 15) :: .ref (a 16) :: .ref (a 17) :: .ref (a 18) :: .ref (a 19) :: .ref (a 20) :: .ref (a 21) :: .ref (a 22) :: .ref (a 23) :: .int (nI fi) :: .int (nI at_) :: .int (nI en) :: .int (nI ov) :: .int (nI ly) :: .int (nI rt) :: .int (nI sp) :: .int (nI pd) :: .int (nI md) :: .int (nI ex) :: .int (nI ch) :: .int (nI sz_) :: .int (nI bd) :: .int (nI bn) :: .int (nI pr) :: .int (nI cr) :: []))), ((a 7), aII g 2 (ptr 2 (ra 7))), ((a 8), aI g 2 (fun j => nI (PS j)))]) (b := (grd g (ra 7) 2 48400 PC ++ [])) (c := []) hw
            have hw : Wd g (va_A ([(mo, .inr (7, (.int (nI th) :: .ref (a 1) :: .int (nI ln) :: .int (nI pl) :: .ref (a 4) :: .int (nI nf) :: .int (nI dec) :: .ref (a 7) :: .ref (a 8) :: .ref (a 9) :: .int (nI ho) :: .int (nI oc) :: .int (nI orw) :: .ref (a 13) :: .ref (a 14) :: .ref (a 15) :: .ref (a 16) :: .ref (a 17) :: .ref (a 18) :: .ref (a 19) :: .ref (a 20) :: .ref (a 21) :: .ref (a 22) :: .ref (a 23) :: .int (nI fi) :: .int (nI at_) :: .int (nI en) :: .int (nI ov) :: .int (nI ly) :: .int (nI rt) :: .int (nI sp) :: .int (nI pd) :: .int (nI md) :: .int (nI ex) :: .int (nI ch) :: .int (nI sz_) :: .int (nI bd) :: .int (nI bn) :: .int (nI pr) :: .int (nI cr) :: []))), ((a 7), aII g 2 (ptr 2 (ra 7))), ((a 8), aI g 2 (fun j => nI (PS j)))] ++ (grd g (ra 7) 2 48400 PC ++ [])) sz) s.heap ([(mo, .inr (7, (.int (nI th) :: .ref (a 1) :: .int (nI ln) :: .int (nI pl) :: .ref (a 4) :: .int (nI nf) :: .int (nI dec) :: .ref (a 7) :: .ref (a 8) :: .ref (a 9) :: .int (nI ho) :: .int (nI oc) :: .int (nI orw) :: .ref (a 13) :: .ref (a 14) :: .ref (a 15) :: .ref (a 16) :: .ref (a 17) :: .ref (a 18) :: .ref (a 19) :: .ref (a 20) :: .ref (a 21) :: .ref (a 22) :: .ref (a 23) :: .int (nI fi) :: .int (nI at_) :: .int (nI en) :: .int (nI ov) :: .int (nI ly) :: .int (nI rt) :: .int (nI sp) :: .int (nI pd) :: .int (nI md) :: .int (nI ex) :: .int (nI ch) :: .int (nI sz_) :: .int (nI bd) :: .int (nI bn) :: .int (nI pr) :: .int (nI cr) :: []))), ((a 7), aII g 2 (ptr 2 (ra 7))), ((a 8), aI g 2 (fun j => nI (PS j)))] ++ (grd g (ra 7) 2 48400 PC ++ [])) H locs := Wd.subT (E := [(mo, .inr (7, (.int (nI th) :: .ref (a 1) :: .int (nI ln) :: .int (nI pl) :: .ref (a 4) :: .int (nI nf) :: .int (nI dec) :: .ref (a 7) :: .ref (a 8) :: .ref (a 9) :: .int (nI ho) :: .int (nI oc) :: .int (nI orw) :: .ref (a 13) :: .ref (a 14) :: .ref (a 15) :: .ref (a 16) :: .ref (a 17) :: .ref (a 18) :: .ref (a 19) :: .ref (a 20) :: .ref (a 21) :: .ref (a 22) :: .ref (a 23) :: .int (nI fi) :: .int (nI at_) :: .int (nI en) :: .int (nI ov) :: .int (nI ly) :: .int (nI rt) :: .int (nI sp) :: .int (nI pd) :: .int (nI md) :: .int (nI ex) :: .int (nI ch) :: .int (nI sz_) :: .int (nI bd) :: .int (nI bn) :: .int (nI pr) :: .int (nI cr) :: []))), ((a 7), aII g 2 (ptr 2 (ra 7))), ((a 8), aI g 2 (fun j => nI (PS j)))]) (E' := [(mo, .inr (7, (.int (nI th) :: .ref (a 1) :: .int (nI ln) :: .int (nI pl) :: .ref (a 4) :: .int (nI nf) :: .int (nI dec) :: .ref (a 7) :: .ref (a 8) :: .ref (a 9) :: .int (nI ho) :: .int (nI oc) :: .int (nI orw) :: .ref (a 13) :: .ref (a 14) :: .ref (a 15) :: .ref (a 16) :: .ref (a 17) :: .ref (a 18) :: .ref (a 19) :: .ref (a 20) :: .ref (a 21) :: .ref (a 22) :: .ref (a 23) :: .int (nI fi) :: .int (nI at_) :: .int (nI en) :: .int (nI ov) :: .int (nI ly) :: .int (nI rt) :: .int (nI sp) :: .int (nI pd) :: .int (nI md) :: .int (nI ex) :: .int (nI ch) :: .int (nI sz_) :: .int (nI bd) :: .int (nI bn) :: .int (nI pr) :: .int (nI cr) :: []))), ((a 7), aII g 2 (ptr 2 (ra 7))), ((a 8), aI g 2 (fun j => nI (PS j)))]) hw [0, 1, 2] (by decide) rfl
            refine lv_iload hx hb dX7_sum_45 (lv_at hl 5 rfl) ?_
            refine lv_iconst (v := nI 1) hx hb dX7_sum_47 (by decide) ?_
            refine n_add hx hb dX7_sum_48 ?_
            refine lv_imul hx hb dX7_sum_49 ?_
            refine lv_iadd hx hb dX7_sum_50 ?_
            refine lv_istore (lv' := [(4, .int (s_ + ((pcmA (PS 0) (PS 1) (PC 0) (PC 1) x (nI (a_ + k))) * (nI (k + 1))))), (0, .ref mo), (1, .int x), (2, .int (nI a_)), (3, .int (nI b_)), (5, .int (nI k))]) hx hb dX7_sum_51 hl (by decide) rfl (fun ls hl => ?_)
            refine lv_iinc (v := (nI (k + 1))) (lv' := [(5, .int (nI (k + 1))), (4, .int (s_ + ((pcmA (PS 0) (PS 1) (PC 0) (PC 1) x (nI (a_ + k))) * (nI (k + 1))))), (0, .ref mo), (1, .int x), (2, .int (nI a_)), (3, .int (nI b_))]) hx hb dX7_sum_53 hl (k := 5) rfl (nI_add _ _) (by decide) rfl (fun ls hl => ?_)
            refine lv_goto (tgt := 26) hx hb dX7_sum_56 (by decide) ?_
            exact K (trivial) _ _ _ ⟨hw, (lv_sub hl [2, 3, 4, 5, 1, 0] rfl)⟩
      · skip
        refine lv_iconst (v := nI 0) hx hb dX7_sum_18 (by decide) ?_
        exact r_iret C hw (Nat.le_refl _) (Nat.le_refl _) (⟨(sum_out (by omega)).symm, rfl⟩) dX7_sum_19
abbrev rm_c_rcount : Room := { frames := 0, cells := 0, slots := 0, locals := 0 }
set_option maxHeartbeats 4000000 in
set_option maxRecDepth 100000 in
theorem c_rcount (l : Launch) (g : GT) (sz : Nat) (mo : Nat) (a : Nat → Nat) (th ln pl nf dec ho oc orw fi at_ en ov ly rt sp pd md ex ch sz_ bd bn pr cr : Nat) (PS : Nat → Nat) (x : Int32) : CtI l g yX7_count wsX7_count rm_c_rcount [.ref mo, .int x] [(mo, .inr (7, (.int (nI th) :: .ref (a 1) :: .int (nI ln) :: .int (nI pl) :: .ref (a 4) :: .int (nI nf) :: .int (nI dec) :: .ref (a 7) :: .ref (a 8) :: .ref (a 9) :: .int (nI ho) :: .int (nI oc) :: .int (nI orw) :: .ref (a 13) :: .ref (a 14) :: .ref (a 15) :: .ref (a 16) :: .ref (a 17) :: .ref (a 18) :: .ref (a 19) :: .ref (a 20) :: .ref (a 21) :: .ref (a 22) :: .ref (a 23) :: .int (nI fi) :: .int (nI at_) :: .int (nI en) :: .int (nI ov) :: .int (nI ly) :: .int (nI rt) :: .int (nI sp) :: .int (nI pd) :: .int (nI md) :: .int (nI ex) :: .int (nI ch) :: .int (nI sz_) :: .int (nI bd) :: .int (nI bn) :: .int (nI pr) :: .int (nI cr) :: []))), ((a 8), aI g 2 (fun j => nI (PS j)))] sz (fun _ => True) (fun rr u => rr = selX x 6 (countA ln pl nf dec (PS 0) (PS 1)) (-1) ∧ u = [(mo, .inr (7, (.int (nI th) :: .ref (a 1) :: .int (nI ln) :: .int (nI pl) :: .ref (a 4) :: .int (nI nf) :: .int (nI dec) :: .ref (a 7) :: .ref (a 8) :: .ref (a 9) :: .int (nI ho) :: .int (nI oc) :: .int (nI orw) :: .ref (a 13) :: .ref (a 14) :: .ref (a 15) :: .ref (a 16) :: .ref (a 17) :: .ref (a 18) :: .ref (a 19) :: .ref (a 20) :: .ref (a 21) :: .ref (a 22) :: .ref (a 23) :: .int (nI fi) :: .int (nI at_) :: .int (nI en) :: .int (nI ov) :: .int (nI ly) :: .int (nI rt) :: .int (nI sp) :: .int (nI pd) :: .int (nI md) :: .int (nI ex) :: .int (nI ch) :: .int (nI sz_) :: .int (nI bd) :: .int (nI bn) :: .int (nI pr) :: .int (nI cr) :: []))), ((a 8), aI g 2 (fun j => nI (PS j)))]) (0) (0) := by
  refine ct_body (cc := cX7_count) (nL := 2) (ret := (some .int)) (by decide) rfl (Nat.le_of_ble_eq_true rfl) ?_
  intro p e s m below meth c ls C hin hsz hB hw hl
  obtain ⟨hx, hb, hml, hown, hts, hK, hA, hr, hlk⟩ := id C
  have lk22 := hts (.fieldLink RX7 22 "SoundBenchModel" "pcms" "[I") (by decide +kernel)
  have lk103 := hts (.fieldLink RX7 103 "SoundBenchModel" "taped" "I") (by decide +kernel)
  have lk110 := hts (.fieldLink RX7 110 "SoundBenchModel" "place" "I") (by decide +kernel)
  have lk113 := hts (.fieldLink RX7 113 "SoundBenchModel" "frames" "I") (by decide +kernel)
  have lk116 := hts (.fieldLink RX7 116 "SoundBenchModel" "decoded" "I") (by decide +kernel)
  have in_X7 : ∀ w ∈ wsX70, w ∈ wsX7_count := by unfold wsX7_count; intro w h; simp only [List.mem_cons, List.mem_append, h, or_true, true_or]
  have hl : lv_has ls 2 [(0, .ref mo), (1, .int x)] := hl
  have hw : Wd g (va_A [(mo, .inr (7, (.int (nI th) :: .ref (a 1) :: .int (nI ln) :: .int (nI pl) :: .ref (a 4) :: .int (nI nf) :: .int (nI dec) :: .ref (a 7) :: .ref (a 8) :: .ref (a 9) :: .int (nI ho) :: .int (nI oc) :: .int (nI orw) :: .ref (a 13) :: .ref (a 14) :: .ref (a 15) :: .ref (a 16) :: .ref (a 17) :: .ref (a 18) :: .ref (a 19) :: .ref (a 20) :: .ref (a 21) :: .ref (a 22) :: .ref (a 23) :: .int (nI fi) :: .int (nI at_) :: .int (nI en) :: .int (nI ov) :: .int (nI ly) :: .int (nI rt) :: .int (nI sp) :: .int (nI pd) :: .int (nI md) :: .int (nI ex) :: .int (nI ch) :: .int (nI sz_) :: .int (nI bd) :: .int (nI bn) :: .int (nI pr) :: .int (nI cr) :: []))), ((a 8), aI g 2 (fun j => nI (PS j)))] sz) s.heap [(mo, .inr (7, (.int (nI th) :: .ref (a 1) :: .int (nI ln) :: .int (nI pl) :: .ref (a 4) :: .int (nI nf) :: .int (nI dec) :: .ref (a 7) :: .ref (a 8) :: .ref (a 9) :: .int (nI ho) :: .int (nI oc) :: .int (nI orw) :: .ref (a 13) :: .ref (a 14) :: .ref (a 15) :: .ref (a 16) :: .ref (a 17) :: .ref (a 18) :: .ref (a 19) :: .ref (a 20) :: .ref (a 21) :: .ref (a 22) :: .ref (a 23) :: .int (nI fi) :: .int (nI at_) :: .int (nI en) :: .int (nI ov) :: .int (nI ly) :: .int (nI rt) :: .int (nI sp) :: .int (nI pd) :: .int (nI md) :: .int (nI ex) :: .int (nI ch) :: .int (nI sz_) :: .int (nI bd) :: .int (nI bn) :: .int (nI pr) :: .int (nI cr) :: []))), ((a 8), aI g 2 (fun j => nI (PS j)))] s.heap [] := hw
  refine lv_iload_n hx hb dX7_count_0 rfl (lv_at hl 1 rfl) ?_
  rcases swx (x) 6 (by decide) with ⟨k_1, hk_1, ek_1⟩ | hk_1
  · obtain rfl | rfl | rfl | rfl | rfl | rfl : k_1 = 0 ∨ k_1 = 1 ∨ k_1 = 2 ∨ k_1 = 3 ∨ k_1 = 4 ∨ k_1 = 5 := by omega
    · refine lv_tableIn (off := 39) (tgt := 40) hx hb dX7_count_1 (by rw [ek_1]; decide) (by rw [ek_1]; decide) (by rw [ek_1]; decide) (by decide) ?_
      refine lv_aload_n hx hb dX7_count_40 rfl (lv_at hl 0 rfl) ?_
      refine r_get C hw in_X7 0 rfl rfl 2 (by decide) lk103 rfl dX7_count_41 ?_
      exact r_iret C hw (Nat.le_refl _) (Nat.le_refl _) (⟨by rw [ek_1, selX_in (by omega) (by omega)]; rfl, rfl⟩) dX7_count_44
    · refine lv_tableIn (off := 44) (tgt := 45) hx hb dX7_count_1 (by rw [ek_1]; decide) (by rw [ek_1]; decide) (by rw [ek_1]; decide) (by decide) ?_
      refine lv_aload_n hx hb dX7_count_45 rfl (lv_at hl 0 rfl) ?_
      refine r_get C hw in_X7 0 rfl rfl 3 (by decide) lk110 rfl dX7_count_46 ?_
      exact r_iret C hw (Nat.le_refl _) (Nat.le_refl _) (⟨by rw [ek_1, selX_in (by omega) (by omega)]; rfl, rfl⟩) dX7_count_49
    · refine lv_tableIn (off := 49) (tgt := 50) hx hb dX7_count_1 (by rw [ek_1]; decide) (by rw [ek_1]; decide) (by rw [ek_1]; decide) (by decide) ?_
      refine lv_aload_n hx hb dX7_count_50 rfl (lv_at hl 0 rfl) ?_
      refine r_get C hw in_X7 0 rfl rfl 5 (by decide) lk113 rfl dX7_count_51 ?_
      exact r_iret C hw (Nat.le_refl _) (Nat.le_refl _) (⟨by rw [ek_1, selX_in (by omega) (by omega)]; rfl, rfl⟩) dX7_count_54
    · refine lv_tableIn (off := 54) (tgt := 55) hx hb dX7_count_1 (by rw [ek_1]; decide) (by rw [ek_1]; decide) (by rw [ek_1]; decide) (by decide) ?_
      refine lv_aload_n hx hb dX7_count_55 rfl (lv_at hl 0 rfl) ?_
      refine r_get C hw in_X7 0 rfl rfl 6 (by decide) lk116 rfl dX7_count_56 ?_
      exact r_iret C hw (Nat.le_refl _) (Nat.le_refl _) (⟨by rw [ek_1, selX_in (by omega) (by omega)]; rfl, rfl⟩) dX7_count_59
    · refine lv_tableIn (off := 59) (tgt := 60) hx hb dX7_count_1 (by rw [ek_1]; decide) (by rw [ek_1]; decide) (by rw [ek_1]; decide) (by decide) ?_
      refine lv_aload_n hx hb dX7_count_60 rfl (lv_at hl 0 rfl) ?_
      refine r_get C hw in_X7 0 rfl rfl 8 (by decide) lk22 rfl dX7_count_61 ?_
      refine lv_iconst (v := nI 0) hx hb dX7_count_64 (by decide) ?_
      refine r_iald C hw 1 rfl (by omega) (by omega) dX7_count_65 ?_
      exact r_iret C hw (Nat.le_refl _) (Nat.le_refl _) (⟨by rw [ek_1, selX_in (by omega) (by omega)]; rfl, rfl⟩) dX7_count_66
    · refine lv_tableIn (off := 66) (tgt := 67) hx hb dX7_count_1 (by rw [ek_1]; decide) (by rw [ek_1]; decide) (by rw [ek_1]; decide) (by decide) ?_
      refine lv_aload_n hx hb dX7_count_67 rfl (lv_at hl 0 rfl) ?_
      refine r_get C hw in_X7 0 rfl rfl 8 (by decide) lk22 rfl dX7_count_68 ?_
      refine lv_iconst (v := nI 1) hx hb dX7_count_71 (by decide) ?_
      refine r_iald C hw 1 rfl (by omega) (by omega) dX7_count_72 ?_
      exact r_iret C hw (Nat.le_refl _) (Nat.le_refl _) (⟨by rw [ek_1, selX_in (by omega) (by omega)]; rfl, rfl⟩) dX7_count_73
  · refine lv_tableOut (tgt := 74) hx hb dX7_count_1 (by omega) (by decide) ?_
    refine lv_iconst (v := (-1)) hx hb dX7_count_74 (by decide) ?_
    exact r_iret C hw (Nat.le_refl _) (Nat.le_refl _) (⟨by rw [selX_out (by omega)], rfl⟩) dX7_count_75
abbrev rm_c_rclear : Room := { frames := 0, cells := 0, slots := 0, locals := 0 }
set_option maxHeartbeats 4000000 in
set_option maxRecDepth 100000 in
theorem c_rclear (l : Launch) (g : GT) (sz : Nat) (mo : Nat) (a : Nat → Nat) (th ln pl nf dec ho oc orw fi at_ en ov ly rt sp pd md ex ch sz_ bd bn pr cr : Nat) (ra qa : Nat → Nat → Nat) (V : Nat → Nat → Int32) (PS : Nat → Nat) : CtI l g yX7_clear wsX7_clear rm_c_rclear [.ref mo] ([(mo, .inr (7, (.int (nI th) :: .ref (a 1) :: .int (nI ln) :: .int (nI pl) :: .ref (a 4) :: .int (nI nf) :: .int (nI dec) :: .ref (a 7) :: .ref (a 8) :: .ref (a 9) :: .int (nI ho) :: .int (nI oc) :: .int (nI orw) :: .ref (a 13) :: .ref (a 14) :: .ref (a 15) :: .ref (a 16) :: .ref (a 17) :: .ref (a 18) :: .ref (a 19) :: .ref (a 20) :: .ref (a 21) :: .ref (a 22) :: .ref (a 23) :: .int (nI fi) :: .int (nI at_) :: .int (nI en) :: .int (nI ov) :: .int (nI ly) :: .int (nI rt) :: .int (nI sp) :: .int (nI pd) :: .int (nI md) :: .int (nI ex) :: .int (nI ch) :: .int (nI sz_) :: .int (nI bd) :: .int (nI bn) :: .int (nI pr) :: .int (nI cr) :: []))), ((a 9), aII g 2 (ptr 2 (ra 9))), ((a 8), aI g 2 (fun j => nI (PS j)))] ++ (grd g (ra 9) 2 1024 V ++ [])) sz (fun _ => True) (fun rr u => rr = nI nf ∧ u = ([(mo, .inr (7, (.int (nI th) :: .ref (a 1) :: .int (nI 0) :: .int (nI 0) :: .ref (a 4) :: .int (nI 0) :: .int (nI 0) :: .ref (a 7) :: .ref (a 8) :: .ref (a 9) :: .int (nI 0) :: .int (nI oc) :: .int (nI orw) :: .ref (a 13) :: .ref (a 14) :: .ref (a 15) :: .ref (a 16) :: .ref (a 17) :: .ref (a 18) :: .ref (a 19) :: .ref (a 20) :: .ref (a 21) :: .ref (a 22) :: .ref (a 23) :: .int (nI fi) :: .int (nI at_) :: .int (nI en) :: .int (nI ov) :: .int (nI ly) :: .int (nI rt) :: .int (nI sp) :: .int (nI pd) :: .int (nI md) :: .int (nI ex) :: .int (nI ch) :: .int (nI sz_) :: .int (nI bd) :: .int (nI bn) :: .int (nI pr) :: .int (nI cr) :: []))), ((a 9), aII g 2 (ptr 2 (ra 9))), ((a 8), aI g 2 (fun j => nI (pZ PS 2 j)))] ++ (grd g (ra 9) 2 1024 (vZ V 2 0) ++ []))) (0) (0) := by
  refine ct_body (cc := cX7_clear) (nL := 4) (ret := (some .int)) (by decide) rfl (Nat.le_of_ble_eq_true rfl) ?_
  intro p e s m below meth c ls C hin hsz hB hw hl
  obtain ⟨hx, hb, hml, hown, hts, hK, hA, hr, hlk⟩ := id C
  have lk22 := hts (.fieldLink RX7 22 "SoundBenchModel" "pcms" "[I") (by decide +kernel)
  have lk26 := hts (.fieldLink RX7 26 "SoundBenchModel" "v" "[[I") (by decide +kernel)
  have lk103 := hts (.fieldLink RX7 103 "SoundBenchModel" "taped" "I") (by decide +kernel)
  have lk110 := hts (.fieldLink RX7 110 "SoundBenchModel" "place" "I") (by decide +kernel)
  have lk113 := hts (.fieldLink RX7 113 "SoundBenchModel" "frames" "I") (by decide +kernel)
  have lk116 := hts (.fieldLink RX7 116 "SoundBenchModel" "decoded" "I") (by decide +kernel)
  have lk119 := hts (.fieldLink RX7 119 "SoundBenchModel" "hasOne" "Z") (by decide +kernel)
  have in_X7 : ∀ w ∈ wsX70, w ∈ wsX7_clear := by unfold wsX7_clear; intro w h; simp only [List.mem_cons, List.mem_append, h, or_true, true_or]
  have hl : lv_has ls 4 [(0, .ref mo)] := hl
  have hw : Wd g (va_A ([(mo, .inr (7, (.int (nI th) :: .ref (a 1) :: .int (nI ln) :: .int (nI pl) :: .ref (a 4) :: .int (nI nf) :: .int (nI dec) :: .ref (a 7) :: .ref (a 8) :: .ref (a 9) :: .int (nI ho) :: .int (nI oc) :: .int (nI orw) :: .ref (a 13) :: .ref (a 14) :: .ref (a 15) :: .ref (a 16) :: .ref (a 17) :: .ref (a 18) :: .ref (a 19) :: .ref (a 20) :: .ref (a 21) :: .ref (a 22) :: .ref (a 23) :: .int (nI fi) :: .int (nI at_) :: .int (nI en) :: .int (nI ov) :: .int (nI ly) :: .int (nI rt) :: .int (nI sp) :: .int (nI pd) :: .int (nI md) :: .int (nI ex) :: .int (nI ch) :: .int (nI sz_) :: .int (nI bd) :: .int (nI bn) :: .int (nI pr) :: .int (nI cr) :: []))), ((a 9), aII g 2 (ptr 2 (ra 9))), ((a 8), aI g 2 (fun j => nI (PS j)))] ++ (grd g (ra 9) 2 1024 V ++ [])) sz) s.heap ([(mo, .inr (7, (.int (nI th) :: .ref (a 1) :: .int (nI ln) :: .int (nI pl) :: .ref (a 4) :: .int (nI nf) :: .int (nI dec) :: .ref (a 7) :: .ref (a 8) :: .ref (a 9) :: .int (nI ho) :: .int (nI oc) :: .int (nI orw) :: .ref (a 13) :: .ref (a 14) :: .ref (a 15) :: .ref (a 16) :: .ref (a 17) :: .ref (a 18) :: .ref (a 19) :: .ref (a 20) :: .ref (a 21) :: .ref (a 22) :: .ref (a 23) :: .int (nI fi) :: .int (nI at_) :: .int (nI en) :: .int (nI ov) :: .int (nI ly) :: .int (nI rt) :: .int (nI sp) :: .int (nI pd) :: .int (nI md) :: .int (nI ex) :: .int (nI ch) :: .int (nI sz_) :: .int (nI bd) :: .int (nI bn) :: .int (nI pr) :: .int (nI cr) :: []))), ((a 9), aII g 2 (ptr 2 (ra 9))), ((a 8), aI g 2 (fun j => nI (PS j)))] ++ (grd g (ra 9) 2 1024 V ++ [])) s.heap [] := hw
  refine lv_aload_n hx hb dX7_clear_0 rfl (lv_at hl 0 rfl) ?_
  refine r_get C hw in_X7 0 rfl rfl 5 (by decide) lk113 rfl dX7_clear_1 ?_
  refine lv_istore_n (lv' := [(1, .int (nI nf)), (0, .ref mo)]) hx hb dX7_clear_4 rfl hl (by decide) rfl (fun ls hl => ?_)
  refine lv_aload_n hx hb dX7_clear_5 rfl (lv_at hl 1 rfl) ?_
  refine lv_iconst (v := nI 0) hx hb dX7_clear_6 (by decide) ?_
  refine r_put C hw in_X7 tyX7_ok nmX7 0 rfl rfl 2 (by decide) lk103 rfl rfl rfl (Nat.le_of_ble_eq_true rfl) (ws' := ([(mo, .inr (7, (.int (nI th) :: .ref (a 1) :: .int (nI 0) :: .int (nI pl) :: .ref (a 4) :: .int (nI nf) :: .int (nI dec) :: .ref (a 7) :: .ref (a 8) :: .ref (a 9) :: .int (nI ho) :: .int (nI oc) :: .int (nI orw) :: .ref (a 13) :: .ref (a 14) :: .ref (a 15) :: .ref (a 16) :: .ref (a 17) :: .ref (a 18) :: .ref (a 19) :: .ref (a 20) :: .ref (a 21) :: .ref (a 22) :: .ref (a 23) :: .int (nI fi) :: .int (nI at_) :: .int (nI en) :: .int (nI ov) :: .int (nI ly) :: .int (nI rt) :: .int (nI sp) :: .int (nI pd) :: .int (nI md) :: .int (nI ex) :: .int (nI ch) :: .int (nI sz_) :: .int (nI bd) :: .int (nI bn) :: .int (nI pr) :: .int (nI cr) :: []))), ((a 9), aII g 2 (ptr 2 (ra 9))), ((a 8), aI g 2 (fun j => nI (PS j)))] ++ (grd g (ra 9) 2 1024 V ++ []))) rfl dX7_clear_7 (fun H locs hw => ?_)
  refine lv_aload_n hx hb dX7_clear_10 rfl (lv_at hl 1 rfl) ?_
  refine lv_iconst (v := nI 0) hx hb dX7_clear_11 (by decide) ?_
  refine r_put C hw in_X7 tyX7_ok nmX7 0 rfl rfl 3 (by decide) lk110 rfl rfl rfl (Nat.le_of_ble_eq_true rfl) (ws' := ([(mo, .inr (7, (.int (nI th) :: .ref (a 1) :: .int (nI 0) :: .int (nI 0) :: .ref (a 4) :: .int (nI nf) :: .int (nI dec) :: .ref (a 7) :: .ref (a 8) :: .ref (a 9) :: .int (nI ho) :: .int (nI oc) :: .int (nI orw) :: .ref (a 13) :: .ref (a 14) :: .ref (a 15) :: .ref (a 16) :: .ref (a 17) :: .ref (a 18) :: .ref (a 19) :: .ref (a 20) :: .ref (a 21) :: .ref (a 22) :: .ref (a 23) :: .int (nI fi) :: .int (nI at_) :: .int (nI en) :: .int (nI ov) :: .int (nI ly) :: .int (nI rt) :: .int (nI sp) :: .int (nI pd) :: .int (nI md) :: .int (nI ex) :: .int (nI ch) :: .int (nI sz_) :: .int (nI bd) :: .int (nI bn) :: .int (nI pr) :: .int (nI cr) :: []))), ((a 9), aII g 2 (ptr 2 (ra 9))), ((a 8), aI g 2 (fun j => nI (PS j)))] ++ (grd g (ra 9) 2 1024 V ++ []))) rfl dX7_clear_12 (fun H locs hw => ?_)
  refine lv_aload_n hx hb dX7_clear_15 rfl (lv_at hl 1 rfl) ?_
  refine lv_iconst (v := nI 0) hx hb dX7_clear_16 (by decide) ?_
  refine r_put C hw in_X7 tyX7_ok nmX7 0 rfl rfl 5 (by decide) lk113 rfl rfl rfl (Nat.le_of_ble_eq_true rfl) (ws' := ([(mo, .inr (7, (.int (nI th) :: .ref (a 1) :: .int (nI 0) :: .int (nI 0) :: .ref (a 4) :: .int (nI 0) :: .int (nI dec) :: .ref (a 7) :: .ref (a 8) :: .ref (a 9) :: .int (nI ho) :: .int (nI oc) :: .int (nI orw) :: .ref (a 13) :: .ref (a 14) :: .ref (a 15) :: .ref (a 16) :: .ref (a 17) :: .ref (a 18) :: .ref (a 19) :: .ref (a 20) :: .ref (a 21) :: .ref (a 22) :: .ref (a 23) :: .int (nI fi) :: .int (nI at_) :: .int (nI en) :: .int (nI ov) :: .int (nI ly) :: .int (nI rt) :: .int (nI sp) :: .int (nI pd) :: .int (nI md) :: .int (nI ex) :: .int (nI ch) :: .int (nI sz_) :: .int (nI bd) :: .int (nI bn) :: .int (nI pr) :: .int (nI cr) :: []))), ((a 9), aII g 2 (ptr 2 (ra 9))), ((a 8), aI g 2 (fun j => nI (PS j)))] ++ (grd g (ra 9) 2 1024 V ++ []))) rfl dX7_clear_17 (fun H locs hw => ?_)
  refine lv_aload_n hx hb dX7_clear_20 rfl (lv_at hl 1 rfl) ?_
  refine lv_iconst (v := nI 0) hx hb dX7_clear_21 (by decide) ?_
  refine r_put C hw in_X7 tyX7_ok nmX7 0 rfl rfl 6 (by decide) lk116 rfl rfl rfl (Nat.le_of_ble_eq_true rfl) (ws' := ([(mo, .inr (7, (.int (nI th) :: .ref (a 1) :: .int (nI 0) :: .int (nI 0) :: .ref (a 4) :: .int (nI 0) :: .int (nI 0) :: .ref (a 7) :: .ref (a 8) :: .ref (a 9) :: .int (nI ho) :: .int (nI oc) :: .int (nI orw) :: .ref (a 13) :: .ref (a 14) :: .ref (a 15) :: .ref (a 16) :: .ref (a 17) :: .ref (a 18) :: .ref (a 19) :: .ref (a 20) :: .ref (a 21) :: .ref (a 22) :: .ref (a 23) :: .int (nI fi) :: .int (nI at_) :: .int (nI en) :: .int (nI ov) :: .int (nI ly) :: .int (nI rt) :: .int (nI sp) :: .int (nI pd) :: .int (nI md) :: .int (nI ex) :: .int (nI ch) :: .int (nI sz_) :: .int (nI bd) :: .int (nI bn) :: .int (nI pr) :: .int (nI cr) :: []))), ((a 9), aII g 2 (ptr 2 (ra 9))), ((a 8), aI g 2 (fun j => nI (PS j)))] ++ (grd g (ra 9) 2 1024 V ++ []))) rfl dX7_clear_22 (fun H locs hw => ?_)
  refine lv_aload_n hx hb dX7_clear_25 rfl (lv_at hl 1 rfl) ?_
  refine lv_iconst (v := nI 0) hx hb dX7_clear_26 (by decide) ?_
  refine r_put C hw in_X7 tyX7_ok nmX7 0 rfl rfl 10 (by decide) lk119 rfl (by decide) (by decide) (Nat.le_of_ble_eq_true rfl) (ws' := ([(mo, .inr (7, (.int (nI th) :: .ref (a 1) :: .int (nI 0) :: .int (nI 0) :: .ref (a 4) :: .int (nI 0) :: .int (nI 0) :: .ref (a 7) :: .ref (a 8) :: .ref (a 9) :: .int (nI 0) :: .int (nI oc) :: .int (nI orw) :: .ref (a 13) :: .ref (a 14) :: .ref (a 15) :: .ref (a 16) :: .ref (a 17) :: .ref (a 18) :: .ref (a 19) :: .ref (a 20) :: .ref (a 21) :: .ref (a 22) :: .ref (a 23) :: .int (nI fi) :: .int (nI at_) :: .int (nI en) :: .int (nI ov) :: .int (nI ly) :: .int (nI rt) :: .int (nI sp) :: .int (nI pd) :: .int (nI md) :: .int (nI ex) :: .int (nI ch) :: .int (nI sz_) :: .int (nI bd) :: .int (nI bn) :: .int (nI pr) :: .int (nI cr) :: []))), ((a 9), aII g 2 (ptr 2 (ra 9))), ((a 8), aI g 2 (fun j => nI (PS j)))] ++ (grd g (ra 9) 2 1024 V ++ []))) rfl dX7_clear_27 (fun H locs hw => ?_)
  refine lv_iconst (v := nI 0) hx hb dX7_clear_30 (by decide) ?_
  refine lv_istore_n (lv' := [(2, .int (nI 0)), (1, .int (nI nf)), (0, .ref mo)]) hx hb dX7_clear_31 rfl hl (by decide) rfl (fun ls hl => ?_)
  refine lpw (I := fun c H locs ls => Wd g (va_A ([(mo, .inr (7, (.int (nI th) :: .ref (a 1) :: .int (nI ln) :: .int (nI pl) :: .ref (a 4) :: .int (nI nf) :: .int (nI dec) :: .ref (a 7) :: .ref (a 8) :: .ref (a 9) :: .int (nI ho) :: .int (nI oc) :: .int (nI orw) :: .ref (a 13) :: .ref (a 14) :: .ref (a 15) :: .ref (a 16) :: .ref (a 17) :: .ref (a 18) :: .ref (a 19) :: .ref (a 20) :: .ref (a 21) :: .ref (a 22) :: .ref (a 23) :: .int (nI fi) :: .int (nI at_) :: .int (nI en) :: .int (nI ov) :: .int (nI ly) :: .int (nI rt) :: .int (nI sp) :: .int (nI pd) :: .int (nI md) :: .int (nI ex) :: .int (nI ch) :: .int (nI sz_) :: .int (nI bd) :: .int (nI bn) :: .int (nI pr) :: .int (nI cr) :: []))), ((a 9), aII g 2 (ptr 2 (ra 9))), ((a 8), aI g 2 (fun j => nI (PS j)))] ++ (grd g (ra 9) 2 1024 V ++ [])) sz) s.heap ([(mo, .inr (7, (.int (nI th) :: .ref (a 1) :: .int (nI 0) :: .int (nI 0) :: .ref (a 4) :: .int (nI 0) :: .int (nI 0) :: .ref (a 7) :: .ref (a 8) :: .ref (a 9) :: .int (nI 0) :: .int (nI oc) :: .int (nI orw) :: .ref (a 13) :: .ref (a 14) :: .ref (a 15) :: .ref (a 16) :: .ref (a 17) :: .ref (a 18) :: .ref (a 19) :: .ref (a 20) :: .ref (a 21) :: .ref (a 22) :: .ref (a 23) :: .int (nI fi) :: .int (nI at_) :: .int (nI en) :: .int (nI ov) :: .int (nI ly) :: .int (nI rt) :: .int (nI sp) :: .int (nI pd) :: .int (nI md) :: .int (nI ex) :: .int (nI ch) :: .int (nI sz_) :: .int (nI bd) :: .int (nI bn) :: .int (nI pr) :: .int (nI cr) :: []))), ((a 9), aII g 2 (ptr 2 (ra 9))), ((a 8), aI g 2 (fun j => nI (pZ PS c j)))] ++ (grd g (ra 9) 2 1024 (vZ V c 0) ++ [])) H locs ∧ lv_has ls 4 [(0, .ref mo), (1, .int (nI nf)), (2, .int (nI c))]) (2) ?_ ?_ (0) (by omega) ⟨(by rw [vZ_0, pZ_0]; exact hw), (lv_sub hl [2, 1, 0] rfl)⟩
  · intro H locs ls hI
    obtain ⟨hw, hl⟩ := hI
    refine lv_iload_n hx hb dX7_clear_32 rfl (lv_at hl 2 rfl) ?_
    refine lv_iconst (v := nI 2) hx hb dX7_clear_33 (by decide) ?_
    refine n_cge (tgt := 74) hx hb (by omega) (by omega) dX7_clear_34 (by decide) (fun c_1 => ?_) (fun c_1 => ?_)
    · skip
      refine lv_iload_n hx hb dX7_clear_74 rfl (lv_at hl 1 rfl) ?_
      exact r_iret C hw (Nat.le_refl _) (Nat.le_refl _) (⟨rfl, rfl⟩) dX7_clear_75
    · skip
      exfalso; omega
  · intro c H locs ls hi hI K
    obtain ⟨hw, hl⟩ := hI
    have hic := hi
    refine lv_iload_n hx hb dX7_clear_32 rfl (lv_at hl 2 rfl) ?_
    refine lv_iconst (v := nI 2) hx hb dX7_clear_33 (by decide) ?_
    refine n_cge (tgt := 74) hx hb (by omega) (by omega) dX7_clear_34 (by decide) (fun c_2 => ?_) (fun c_2 => ?_)
    · skip
      exfalso; omega
    · skip
      refine lv_aload_n hx hb dX7_clear_37 rfl (lv_at hl 0 rfl) ?_
      refine r_get C hw in_X7 0 rfl rfl 8 (by decide) lk22 rfl dX7_clear_38 ?_
      refine lv_iload_n hx hb dX7_clear_41 rfl (lv_at hl 2 rfl) ?_
      refine lv_iconst (v := nI 0) hx hb dX7_clear_42 (by decide) ?_
      refine r_iast C hw 2 rfl (by omega) (by omega) (ws' := ([(mo, .inr (7, (.int (nI th) :: .ref (a 1) :: .int (nI 0) :: .int (nI 0) :: .ref (a 4) :: .int (nI 0) :: .int (nI 0) :: .ref (a 7) :: .ref (a 8) :: .ref (a 9) :: .int (nI 0) :: .int (nI oc) :: .int (nI orw) :: .ref (a 13) :: .ref (a 14) :: .ref (a 15) :: .ref (a 16) :: .ref (a 17) :: .ref (a 18) :: .ref (a 19) :: .ref (a 20) :: .ref (a 21) :: .ref (a 22) :: .ref (a 23) :: .int (nI fi) :: .int (nI at_) :: .int (nI en) :: .int (nI ov) :: .int (nI ly) :: .int (nI rt) :: .int (nI sp) :: .int (nI pd) :: .int (nI md) :: .int (nI ex) :: .int (nI ch) :: .int (nI sz_) :: .int (nI bd) :: .int (nI bn) :: .int (nI pr) :: .int (nI cr) :: []))), ((a 9), aII g 2 (ptr 2 (ra 9))), ((a 8), aI g 2 (upd (fun j => nI (pZ PS c j)) c (nI 0)))] ++ (grd g (ra 9) 2 1024 (vZ V c 0) ++ []))) rfl dX7_clear_43 (fun H locs hw => ?_)
      rw [updN_I] at hw
      have hw : Wd g (va_A ([(mo, .inr (7, (.int (nI th) :: .ref (a 1) :: .int (nI ln) :: .int (nI pl) :: .ref (a 4) :: .int (nI nf) :: .int (nI dec) :: .ref (a 7) :: .ref (a 8) :: .ref (a 9) :: .int (nI ho) :: .int (nI oc) :: .int (nI orw) :: .ref (a 13) :: .ref (a 14) :: .ref (a 15) :: .ref (a 16) :: .ref (a 17) :: .ref (a 18) :: .ref (a 19) :: .ref (a 20) :: .ref (a 21) :: .ref (a 22) :: .ref (a 23) :: .int (nI fi) :: .int (nI at_) :: .int (nI en) :: .int (nI ov) :: .int (nI ly) :: .int (nI rt) :: .int (nI sp) :: .int (nI pd) :: .int (nI md) :: .int (nI ex) :: .int (nI ch) :: .int (nI sz_) :: .int (nI bd) :: .int (nI bn) :: .int (nI pr) :: .int (nI cr) :: []))), ((a 9), aII g 2 (ptr 2 (ra 9))), ((a 8), aI g 2 (fun j => nI (PS j)))] ++ (grd g (ra 9) 2 1024 V ++ [])) sz) s.heap ([(mo, .inr (7, (.int (nI th) :: .ref (a 1) :: .int (nI 0) :: .int (nI 0) :: .ref (a 4) :: .int (nI 0) :: .int (nI 0) :: .ref (a 7) :: .ref (a 8) :: .ref (a 9) :: .int (nI 0) :: .int (nI oc) :: .int (nI orw) :: .ref (a 13) :: .ref (a 14) :: .ref (a 15) :: .ref (a 16) :: .ref (a 17) :: .ref (a 18) :: .ref (a 19) :: .ref (a 20) :: .ref (a 21) :: .ref (a 22) :: .ref (a 23) :: .int (nI fi) :: .int (nI at_) :: .int (nI en) :: .int (nI ov) :: .int (nI ly) :: .int (nI rt) :: .int (nI sp) :: .int (nI pd) :: .int (nI md) :: .int (nI ex) :: .int (nI ch) :: .int (nI sz_) :: .int (nI bd) :: .int (nI bn) :: .int (nI pr) :: .int (nI cr) :: []))), ((a 9), aII g 2 (ptr 2 (ra 9))), ((a 8), aI g 2 (fun j => nI (updN (pZ PS c) c 0 j)))] ++ (grd g (ra 9) 2 1024 (vZ V c 0) ++ [])) H locs := hw
      refine lv_iconst (v := nI 0) hx hb dX7_clear_44 (by decide) ?_
      refine lv_istore_n (lv' := [(3, .int (nI 0)), (0, .ref mo), (1, .int (nI nf)), (2, .int (nI c))]) hx hb dX7_clear_45 rfl hl (by decide) rfl (fun ls hl => ?_)
      refine lpw (I := fun i H locs ls => Wd g (va_A ([(mo, .inr (7, (.int (nI th) :: .ref (a 1) :: .int (nI ln) :: .int (nI pl) :: .ref (a 4) :: .int (nI nf) :: .int (nI dec) :: .ref (a 7) :: .ref (a 8) :: .ref (a 9) :: .int (nI ho) :: .int (nI oc) :: .int (nI orw) :: .ref (a 13) :: .ref (a 14) :: .ref (a 15) :: .ref (a 16) :: .ref (a 17) :: .ref (a 18) :: .ref (a 19) :: .ref (a 20) :: .ref (a 21) :: .ref (a 22) :: .ref (a 23) :: .int (nI fi) :: .int (nI at_) :: .int (nI en) :: .int (nI ov) :: .int (nI ly) :: .int (nI rt) :: .int (nI sp) :: .int (nI pd) :: .int (nI md) :: .int (nI ex) :: .int (nI ch) :: .int (nI sz_) :: .int (nI bd) :: .int (nI bn) :: .int (nI pr) :: .int (nI cr) :: []))), ((a 9), aII g 2 (ptr 2 (ra 9))), ((a 8), aI g 2 (fun j => nI (PS j)))] ++ (grd g (ra 9) 2 1024 V ++ [])) sz) s.heap ([(mo, .inr (7, (.int (nI th) :: .ref (a 1) :: .int (nI 0) :: .int (nI 0) :: .ref (a 4) :: .int (nI 0) :: .int (nI 0) :: .ref (a 7) :: .ref (a 8) :: .ref (a 9) :: .int (nI 0) :: .int (nI oc) :: .int (nI orw) :: .ref (a 13) :: .ref (a 14) :: .ref (a 15) :: .ref (a 16) :: .ref (a 17) :: .ref (a 18) :: .ref (a 19) :: .ref (a 20) :: .ref (a 21) :: .ref (a 22) :: .ref (a 23) :: .int (nI fi) :: .int (nI at_) :: .int (nI en) :: .int (nI ov) :: .int (nI ly) :: .int (nI rt) :: .int (nI sp) :: .int (nI pd) :: .int (nI md) :: .int (nI ex) :: .int (nI ch) :: .int (nI sz_) :: .int (nI bd) :: .int (nI bn) :: .int (nI pr) :: .int (nI cr) :: []))), ((a 9), aII g 2 (ptr 2 (ra 9))), ((a 8), aI g 2 (fun j => nI (updN (pZ PS c) c 0 j)))] ++ (grd g (ra 9) 2 1024 (vZ V c i) ++ [])) H locs ∧ lv_has ls 4 [(0, .ref mo), (1, .int (nI nf)), (2, .int (nI c)), (3, .int (nI i))]) (1024) ?_ ?_ (0) (by omega) ⟨hw, (lv_sub hl [1, 2, 3, 0] rfl)⟩
      · intro H locs ls hI
        obtain ⟨hw, hl⟩ := hI
        refine lv_iload_n hx hb dX7_clear_46 rfl (lv_at hl 3 rfl) ?_
        refine lv_sipush (v := nI 1024) hx hb dX7_clear_47 (by decide) ?_
        refine n_cge (tgt := 68) hx hb (by omega) (by omega) dX7_clear_50 (by decide) (fun c_3 => ?_) (fun c_3 => ?_)
        · skip
          refine lv_iinc (v := (nI (c + 1))) (lv' := [(2, .int (nI (c + 1))), (0, .ref mo), (1, .int (nI nf)), (3, .int (nI 1024))]) hx hb dX7_clear_68 hl (k := 2) rfl (nI_add _ _) (by decide) rfl (fun ls hl => ?_)
          refine lv_goto (tgt := 32) hx hb dX7_clear_71 (by decide) ?_
          exact K _ _ _ ⟨(by rw [← vZ_u, ← pZ_s]; exact hw), (lv_sub hl [1, 2, 0] rfl)⟩
        · skip
          exfalso; omega
      · intro i H locs ls hi hI K
        obtain ⟨hw, hl⟩ := hI
        refine lv_iload_n hx hb dX7_clear_46 rfl (lv_at hl 3 rfl) ?_
        refine lv_sipush (v := nI 1024) hx hb dX7_clear_47 (by decide) ?_
        refine n_cge (tgt := 68) hx hb (by omega) (by omega) dX7_clear_50 (by decide) (fun c_4 => ?_) (fun c_4 => ?_)
        · skip
          exfalso; omega
        · skip
          refine lv_aload_n hx hb dX7_clear_53 rfl (lv_at hl 0 rfl) ?_
          refine r_get C hw in_X7 0 rfl rfl 9 (by decide) lk26 rfl dX7_clear_54 ?_
          refine lv_iload_n hx hb dX7_clear_57 rfl (lv_at hl 2 rfl) ?_
          refine r_aldII (y := ra 9 c) C hw 1 rfl (by omega) (by omega) (ptr_at _ (by omega)) dX7_clear_58 ?_
          refine lv_iload_n hx hb dX7_clear_59 rfl (lv_at hl 3 rfl) ?_
          refine lv_iconst (v := nI 0) hx hb dX7_clear_60 (by decide) ?_
          refine r_iast C hw _ (at_r (at_l (grd_at (by omega)))) (by omega) (by omega) (ws' := ([(mo, .inr (7, (.int (nI th) :: .ref (a 1) :: .int (nI 0) :: .int (nI 0) :: .ref (a 4) :: .int (nI 0) :: .int (nI 0) :: .ref (a 7) :: .ref (a 8) :: .ref (a 9) :: .int (nI 0) :: .int (nI oc) :: .int (nI orw) :: .ref (a 13) :: .ref (a 14) :: .ref (a 15) :: .ref (a 16) :: .ref (a 17) :: .ref (a 18) :: .ref (a 19) :: .ref (a 20) :: .ref (a 21) :: .ref (a 22) :: .ref (a 23) :: .int (nI fi) :: .int (nI at_) :: .int (nI en) :: .int (nI ov) :: .int (nI ly) :: .int (nI rt) :: .int (nI sp) :: .int (nI pd) :: .int (nI md) :: .int (nI ex) :: .int (nI ch) :: .int (nI sz_) :: .int (nI bd) :: .int (nI bn) :: .int (nI pr) :: .int (nI cr) :: []))), ((a 9), aII g 2 (ptr 2 (ra 9))), ((a 8), aI g 2 (fun j => nI (updN (pZ PS c) c 0 j)))] ++ (grd g (ra 9) 2 1024 (upd2 (vZ V c i) c i (nI 0)) ++ []))) (set_r (set_l (grd_at (by omega)) (grd_set (by omega)))) dX7_clear_61 (fun H locs hw => ?_)
          refine lv_iinc (v := (nI (i + 1))) (lv' := [(3, .int (nI (i + 1))), (0, .ref mo), (1, .int (nI nf)), (2, .int (nI c))]) hx hb dX7_clear_62 hl (k := 3) rfl (nI_add _ _) (by decide) rfl (fun ls hl => ?_)
          refine lv_goto (tgt := 46) hx hb dX7_clear_65 (by decide) ?_
          exact K _ _ _ ⟨(by rw [← vZ_s]; exact hw), (lv_sub hl [1, 2, 3, 0] rfl)⟩
