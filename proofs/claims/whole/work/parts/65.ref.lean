abbrev rm_c_rbits : Room := { frames := 0, cells := 0, slots := 0, locals := 0 }
set_option maxHeartbeats 4000000 in
set_option maxRecDepth 100000 in
theorem c_rbits (l : Launch) (g : GT) (sz : Nat) (mo : Nat) (a : Nat → Nat) (th ln pl nf dec ho oc orw fi at_ en ov ly rt sp pd md ex ch sz_ bd bn pr cr : Nat) (n : Nat) (T : Nat → Nat) (hT : ∀ j, T j < 256) (h1 : at_ ≤ en) (h2 : en ≤ 32000) (h3 : n ≤ 32) : CtI l g yX7_bits wsX7_bits rm_c_rbits [.ref mo, .int (nI n)] [(mo, .inr (7, (.int (nI th) :: .ref (a 1) :: .int (nI ln) :: .int (nI pl) :: .ref (a 4) :: .int (nI nf) :: .int (nI dec) :: .ref (a 7) :: .ref (a 8) :: .ref (a 9) :: .int (nI ho) :: .int (nI oc) :: .int (nI orw) :: .ref (a 13) :: .ref (a 14) :: .ref (a 15) :: .ref (a 16) :: .ref (a 17) :: .ref (a 18) :: .ref (a 19) :: .ref (a 20) :: .ref (a 21) :: .ref (a 22) :: .ref (a 23) :: .int (nI fi) :: .int (nI at_) :: .int (nI en) :: .int (nI ov) :: .int (nI ly) :: .int (nI rt) :: .int (nI sp) :: .int (nI pd) :: .int (nI md) :: .int (nI ex) :: .int (nI ch) :: .int (nI sz_) :: .int (nI bd) :: .int (nI bn) :: .int (nI pr) :: .int (nI cr) :: []))), ((a 1), aB g 4000 (fun j => nB (T j)))] sz (fun _ => True) (fun rr u => rr = nI (bkV T at_ en n) ∧ u = [(mo, .inr (7, (.int (nI th) :: .ref (a 1) :: .int (nI ln) :: .int (nI pl) :: .ref (a 4) :: .int (nI nf) :: .int (nI dec) :: .ref (a 7) :: .ref (a 8) :: .ref (a 9) :: .int (nI ho) :: .int (nI oc) :: .int (nI orw) :: .ref (a 13) :: .ref (a 14) :: .ref (a 15) :: .ref (a 16) :: .ref (a 17) :: .ref (a 18) :: .ref (a 19) :: .ref (a 20) :: .ref (a 21) :: .ref (a 22) :: .ref (a 23) :: .int (nI fi) :: .int (nI (bkP at_ en n)) :: .int (nI en) :: .int (nI (bkO at_ en n ov)) :: .int (nI ly) :: .int (nI rt) :: .int (nI sp) :: .int (nI pd) :: .int (nI md) :: .int (nI ex) :: .int (nI ch) :: .int (nI sz_) :: .int (nI bd) :: .int (nI bn) :: .int (nI pr) :: .int (nI cr) :: []))), ((a 1), aB g 4000 (fun j => nB (T j)))]) (0) (0) := by
  refine ct_body (cc := cX7_bits) (nL := 4) (ret := (some .int)) (by decide) rfl (Nat.le_of_ble_eq_true rfl) ?_
  intro p e s m below meth c ls C hin hsz hB hw hl
  obtain ⟨hx, hb, hml, hown, hts, hK, hA, hr, hlk⟩ := id C
  have lk9 := hts (.fieldLink RX7 9 "SoundBenchModel" "tape" "[B") (by decide +kernel)
  have lk123 := hts (.fieldLink RX7 123 "SoundBenchModel" "at" "I") (by decide +kernel)
  have lk126 := hts (.fieldLink RX7 126 "SoundBenchModel" "end" "I") (by decide +kernel)
  have lk129 := hts (.fieldLink RX7 129 "SoundBenchModel" "isOver" "Z") (by decide +kernel)
  have in_X7 : ∀ w ∈ wsX70, w ∈ wsX7_bits := by unfold wsX7_bits; intro w h; simp only [List.mem_cons, List.mem_append, h, or_true, true_or]
  have hl : lv_has ls 4 [(0, .ref mo), (1, .int (nI n))] := hl
  have hw : Wd g (va_A [(mo, .inr (7, (.int (nI th) :: .ref (a 1) :: .int (nI ln) :: .int (nI pl) :: .ref (a 4) :: .int (nI nf) :: .int (nI dec) :: .ref (a 7) :: .ref (a 8) :: .ref (a 9) :: .int (nI ho) :: .int (nI oc) :: .int (nI orw) :: .ref (a 13) :: .ref (a 14) :: .ref (a 15) :: .ref (a 16) :: .ref (a 17) :: .ref (a 18) :: .ref (a 19) :: .ref (a 20) :: .ref (a 21) :: .ref (a 22) :: .ref (a 23) :: .int (nI fi) :: .int (nI at_) :: .int (nI en) :: .int (nI ov) :: .int (nI ly) :: .int (nI rt) :: .int (nI sp) :: .int (nI pd) :: .int (nI md) :: .int (nI ex) :: .int (nI ch) :: .int (nI sz_) :: .int (nI bd) :: .int (nI bn) :: .int (nI pr) :: .int (nI cr) :: []))), ((a 1), aB g 4000 (fun j => nB (T j)))] sz) s.heap [(mo, .inr (7, (.int (nI th) :: .ref (a 1) :: .int (nI ln) :: .int (nI pl) :: .ref (a 4) :: .int (nI nf) :: .int (nI dec) :: .ref (a 7) :: .ref (a 8) :: .ref (a 9) :: .int (nI ho) :: .int (nI oc) :: .int (nI orw) :: .ref (a 13) :: .ref (a 14) :: .ref (a 15) :: .ref (a 16) :: .ref (a 17) :: .ref (a 18) :: .ref (a 19) :: .ref (a 20) :: .ref (a 21) :: .ref (a 22) :: .ref (a 23) :: .int (nI fi) :: .int (nI at_) :: .int (nI en) :: .int (nI ov) :: .int (nI ly) :: .int (nI rt) :: .int (nI sp) :: .int (nI pd) :: .int (nI md) :: .int (nI ex) :: .int (nI ch) :: .int (nI sz_) :: .int (nI bd) :: .int (nI bn) :: .int (nI pr) :: .int (nI cr) :: []))), ((a 1), aB g 4000 (fun j => nB (T j)))] s.heap [] := hw
  refine lv_iconst (v := nI 0) hx hb dX7_bits_0 (by decide) ?_
  refine lv_istore_n (lv' := [(2, .int (nI 0)), (0, .ref mo), (1, .int (nI n))]) hx hb dX7_bits_1 rfl hl (by decide) rfl (fun ls hl => ?_)
  refine lv_iconst (v := nI 0) hx hb dX7_bits_2 (by decide) ?_
  refine lv_istore_n (lv' := [(3, .int (nI 0)), (2, .int (nI 0)), (0, .ref mo), (1, .int (nI n))]) hx hb dX7_bits_3 rfl hl (by decide) rfl (fun ls hl => ?_)
  refine lpw (I := fun i H locs ls => Wd g (va_A [(mo, .inr (7, (.int (nI th) :: .ref (a 1) :: .int (nI ln) :: .int (nI pl) :: .ref (a 4) :: .int (nI nf) :: .int (nI dec) :: .ref (a 7) :: .ref (a 8) :: .ref (a 9) :: .int (nI ho) :: .int (nI oc) :: .int (nI orw) :: .ref (a 13) :: .ref (a 14) :: .ref (a 15) :: .ref (a 16) :: .ref (a 17) :: .ref (a 18) :: .ref (a 19) :: .ref (a 20) :: .ref (a 21) :: .ref (a 22) :: .ref (a 23) :: .int (nI fi) :: .int (nI at_) :: .int (nI en) :: .int (nI ov) :: .int (nI ly) :: .int (nI rt) :: .int (nI sp) :: .int (nI pd) :: .int (nI md) :: .int (nI ex) :: .int (nI ch) :: .int (nI sz_) :: .int (nI bd) :: .int (nI bn) :: .int (nI pr) :: .int (nI cr) :: []))), ((a 1), aB g 4000 (fun j => nB (T j)))] sz) s.heap [(mo, .inr (7, (.int (nI th) :: .ref (a 1) :: .int (nI ln) :: .int (nI pl) :: .ref (a 4) :: .int (nI nf) :: .int (nI dec) :: .ref (a 7) :: .ref (a 8) :: .ref (a 9) :: .int (nI ho) :: .int (nI oc) :: .int (nI orw) :: .ref (a 13) :: .ref (a 14) :: .ref (a 15) :: .ref (a 16) :: .ref (a 17) :: .ref (a 18) :: .ref (a 19) :: .ref (a 20) :: .ref (a 21) :: .ref (a 22) :: .ref (a 23) :: .int (nI fi) :: .int (nI (at_ + i)) :: .int (nI en) :: .int (nI ov) :: .int (nI ly) :: .int (nI rt) :: .int (nI sp) :: .int (nI pd) :: .int (nI md) :: .int (nI ex) :: .int (nI ch) :: .int (nI sz_) :: .int (nI bd) :: .int (nI bn) :: .int (nI pr) :: .int (nI cr) :: []))), ((a 1), aB g 4000 (fun j => nB (T j)))] H locs ∧ lv_has ls 4 [(0, .ref mo), (1, .int (nI n)), (2, .int (nI (bitsV T at_ i))), (3, .int (nI i))] ∧ at_ + i ≤ en) (n) ?_ ?_ (0) (by omega) ⟨hw, (lv_sub hl [2, 3, 1, 0] rfl), (by omega)⟩
  · intro H locs ls hI
    obtain ⟨hw, hl, hX⟩ := hI
    refine lv_iload_n hx hb dX7_bits_4 rfl (lv_at hl 3 rfl) ?_
    refine lv_iload_n hx hb dX7_bits_5 rfl (lv_at hl 1 rfl) ?_
    refine n_cge (tgt := 73) hx hb (by omega) (by omega) dX7_bits_6 (by decide) (fun c_1 => ?_) (fun c_1 => ?_)
    · skip
      refine lv_iload_n hx hb dX7_bits_73 rfl (lv_at hl 2 rfl) ?_
      exact r_iret C hw (Nat.le_refl _) (Nat.le_refl _) (⟨by unfold bkV; rw [if_pos (by omega)], by unfold bkP bkO; rw [if_pos (by omega), if_pos (by omega)]⟩) dX7_bits_74
    · skip
      exfalso; omega
  · intro i H locs ls hi hI K
    obtain ⟨hw, hl, hX⟩ := hI
    have hT1 := hT ((at_ + i) / 8)
    refine lv_iload_n hx hb dX7_bits_4 rfl (lv_at hl 3 rfl) ?_
    refine lv_iload_n hx hb dX7_bits_5 rfl (lv_at hl 1 rfl) ?_
    refine n_cge (tgt := 73) hx hb (by omega) (by omega) dX7_bits_6 (by decide) (fun c_2 => ?_) (fun c_2 => ?_)
    · skip
      exfalso; omega
    · skip
      refine lv_aload_n hx hb dX7_bits_9 rfl (lv_at hl 0 rfl) ?_
      refine r_get C hw in_X7 0 rfl rfl 25 (by decide) lk123 rfl dX7_bits_10 ?_
      refine lv_aload_n hx hb dX7_bits_13 rfl (lv_at hl 0 rfl) ?_
      refine r_get C hw in_X7 0 rfl rfl 26 (by decide) lk126 rfl dX7_bits_14 ?_
      refine n_clt (tgt := 27) hx hb (by omega) (by omega) dX7_bits_17 (by decide) (fun c_3 => ?_) (fun c_3 => ?_)
      · skip
        refine lv_iconst (v := nI 2) hx hb dX7_bits_27 (by decide) ?_
        refine lv_iload_n hx hb dX7_bits_28 rfl (lv_at hl 2 rfl) ?_
        refine n_mul hx hb dX7_bits_29 ?_
        refine lv_aload_n hx hb dX7_bits_30 rfl (lv_at hl 0 rfl) ?_
        refine r_get C hw in_X7 0 rfl rfl 1 (by decide) lk9 rfl dX7_bits_31 ?_
        refine lv_aload_n hx hb dX7_bits_34 rfl (lv_at hl 0 rfl) ?_
        refine r_get C hw in_X7 0 rfl rfl 25 (by decide) lk123 rfl dX7_bits_35 ?_
        refine lv_bipush (v := nI 8) hx hb dX7_bits_38 (by decide) ?_
        refine n_div hx hb dX7_bits_40 (by omega) (by omega) (by omega) ?_
        refine r_bald C hw 1 rfl (by omega) (by omega) dX7_bits_41 ?_
        refine lv_bipush (v := nI 7) hx hb dX7_bits_42 (by decide) ?_
        refine lv_aload_n hx hb dX7_bits_44 rfl (lv_at hl 0 rfl) ?_
        refine r_get C hw in_X7 0 rfl rfl 25 (by decide) lk123 rfl dX7_bits_45 ?_
        refine lv_bipush (v := nI 8) hx hb dX7_bits_48 (by decide) ?_
        refine n_rem hx hb dX7_bits_50 (by omega) (by omega) (by omega) ?_
        refine n_sub hx hb dX7_bits_51 (by omega) ?_
        refine lv_ishr hx hb dX7_bits_52 ?_
        refine lv_iconst (v := nI 1) hx hb dX7_bits_53 (by decide) ?_
        refine lv_iand hx hb dX7_bits_54 ?_
        refine tp1 (v' := (nI (T ((at_ + i) / 8) / 2 ^ (7 - (at_ + i) % 8) % 2))) (nB_bit hT1 (by omega)) ?_
        refine n_add hx hb dX7_bits_55 ?_
        refine lv_istore_n (lv' := [(2, .int (nI ((2 * (bitsV T at_ i)) + (T ((at_ + i) / 8) / 2 ^ (7 - (at_ + i) % 8) % 2)))), (0, .ref mo), (1, .int (nI n)), (3, .int (nI i))]) hx hb dX7_bits_56 rfl hl (by decide) rfl (fun ls hl => ?_)
        refine lv_aload_n hx hb dX7_bits_57 rfl (lv_at hl 1 rfl) ?_
        refine lv_dup hx hb dX7_bits_58 rfl ?_
        refine r_get C hw in_X7 0 rfl rfl 25 (by decide) lk123 rfl dX7_bits_59 ?_
        refine lv_iconst (v := nI 1) hx hb dX7_bits_62 (by decide) ?_
        refine n_add hx hb dX7_bits_63 ?_
        refine tp1 (v' := (nI (at_ + (i + 1)))) rfl ?_
        refine r_put C hw in_X7 tyX7_ok nmX7 0 rfl rfl 25 (by decide) lk123 rfl rfl rfl (Nat.le_of_ble_eq_true rfl) (ws' := [(mo, .inr (7, (.int (nI th) :: .ref (a 1) :: .int (nI ln) :: .int (nI pl) :: .ref (a 4) :: .int (nI nf) :: .int (nI dec) :: .ref (a 7) :: .ref (a 8) :: .ref (a 9) :: .int (nI ho) :: .int (nI oc) :: .int (nI orw) :: .ref (a 13) :: .ref (a 14) :: .ref (a 15) :: .ref (a 16) :: .ref (a 17) :: .ref (a 18) :: .ref (a 19) :: .ref (a 20) :: .ref (a 21) :: .ref (a 22) :: .ref (a 23) :: .int (nI fi) :: .int (nI (at_ + (i + 1))) :: .int (nI en) :: .int (nI ov) :: .int (nI ly) :: .int (nI rt) :: .int (nI sp) :: .int (nI pd) :: .int (nI md) :: .int (nI ex) :: .int (nI ch) :: .int (nI sz_) :: .int (nI bd) :: .int (nI bn) :: .int (nI pr) :: .int (nI cr) :: []))), ((a 1), aB g 4000 (fun j => nB (T j)))]) rfl dX7_bits_64 (fun H locs hw => ?_)
        refine lv_iinc (v := (nI (i + 1))) (lv' := [(3, .int (nI (i + 1))), (2, .int (nI ((2 * (bitsV T at_ i)) + (T ((at_ + i) / 8) / 2 ^ (7 - (at_ + i) % 8) % 2)))), (0, .ref mo), (1, .int (nI n))]) hx hb dX7_bits_67 hl (k := 3) rfl (nI_add _ _) (by decide) rfl (fun ls hl => ?_)
        refine lv_goto (tgt := 4) hx hb dX7_bits_70 (by decide) ?_
        exact K _ _ _ ⟨hw, (lv_sub hl [2, 3, 1, 0] rfl), (by omega)⟩
      · skip
        refine lv_aload_n hx hb dX7_bits_20 rfl (lv_at hl 0 rfl) ?_
        refine lv_iconst (v := nI 1) hx hb dX7_bits_21 (by decide) ?_
        refine r_put C hw in_X7 tyX7_ok nmX7 0 rfl rfl 27 (by decide) lk129 rfl (by decide) (by decide) (Nat.le_of_ble_eq_true rfl) (ws' := [(mo, .inr (7, (.int (nI th) :: .ref (a 1) :: .int (nI ln) :: .int (nI pl) :: .ref (a 4) :: .int (nI nf) :: .int (nI dec) :: .ref (a 7) :: .ref (a 8) :: .ref (a 9) :: .int (nI ho) :: .int (nI oc) :: .int (nI orw) :: .ref (a 13) :: .ref (a 14) :: .ref (a 15) :: .ref (a 16) :: .ref (a 17) :: .ref (a 18) :: .ref (a 19) :: .ref (a 20) :: .ref (a 21) :: .ref (a 22) :: .ref (a 23) :: .int (nI fi) :: .int (nI (at_ + i)) :: .int (nI en) :: .int (nI 1) :: .int (nI ly) :: .int (nI rt) :: .int (nI sp) :: .int (nI pd) :: .int (nI md) :: .int (nI ex) :: .int (nI ch) :: .int (nI sz_) :: .int (nI bd) :: .int (nI bn) :: .int (nI pr) :: .int (nI cr) :: []))), ((a 1), aB g 4000 (fun j => nB (T j)))]) rfl dX7_bits_22 (fun H locs hw => ?_)
        refine lv_iconst (v := nI 0) hx hb dX7_bits_25 (by decide) ?_
        exact r_iret C hw (Nat.le_refl _) (Nat.le_refl _) (⟨by unfold bkV; rw [if_neg (by omega)], by unfold bkP bkO; rw [if_neg (by omega), if_neg (by omega), show at_ + i = en by omega]⟩) dX7_bits_26
theorem c_rbitsF (l : Launch) (g : GT) (sz : Nat) (mo : Nat) (a : Nat → Nat) (th ln pl nf dec ho oc orw fi at_ en ov ly rt sp pd md ex ch sz_ bd bn pr cr : Nat) (n : Nat) (T : Nat → Nat) (hT : ∀ j, T j < 256) (h1 : at_ ≤ en) (h2 : en ≤ 32000) (h3 : n ≤ 32) (h4 : at_ + n ≤ en) : CtI l g yX7_bits wsX7_bits rm_c_rbits [.ref mo, .int (nI n)] [(mo, .inr (7, (.int (nI th) :: .ref (a 1) :: .int (nI ln) :: .int (nI pl) :: .ref (a 4) :: .int (nI nf) :: .int (nI dec) :: .ref (a 7) :: .ref (a 8) :: .ref (a 9) :: .int (nI ho) :: .int (nI oc) :: .int (nI orw) :: .ref (a 13) :: .ref (a 14) :: .ref (a 15) :: .ref (a 16) :: .ref (a 17) :: .ref (a 18) :: .ref (a 19) :: .ref (a 20) :: .ref (a 21) :: .ref (a 22) :: .ref (a 23) :: .int (nI fi) :: .int (nI at_) :: .int (nI en) :: .int (nI ov) :: .int (nI ly) :: .int (nI rt) :: .int (nI sp) :: .int (nI pd) :: .int (nI md) :: .int (nI ex) :: .int (nI ch) :: .int (nI sz_) :: .int (nI bd) :: .int (nI bn) :: .int (nI pr) :: .int (nI cr) :: []))), ((a 1), aB g 4000 (fun j => nB (T j)))] sz (fun _ => True) (fun rr u => rr = nI (bitsV T at_ n) ∧ u = [(mo, .inr (7, (.int (nI th) :: .ref (a 1) :: .int (nI ln) :: .int (nI pl) :: .ref (a 4) :: .int (nI nf) :: .int (nI dec) :: .ref (a 7) :: .ref (a 8) :: .ref (a 9) :: .int (nI ho) :: .int (nI oc) :: .int (nI orw) :: .ref (a 13) :: .ref (a 14) :: .ref (a 15) :: .ref (a 16) :: .ref (a 17) :: .ref (a 18) :: .ref (a 19) :: .ref (a 20) :: .ref (a 21) :: .ref (a 22) :: .ref (a 23) :: .int (nI fi) :: .int (nI (at_ + n)) :: .int (nI en) :: .int (nI ov) :: .int (nI ly) :: .int (nI rt) :: .int (nI sp) :: .int (nI pd) :: .int (nI md) :: .int (nI ex) :: .int (nI ch) :: .int (nI sz_) :: .int (nI bd) :: .int (nI bn) :: .int (nI pr) :: .int (nI cr) :: []))), ((a 1), aB g 4000 (fun j => nB (T j)))]) 0 0 := by
  have h := c_rbits l g sz mo a th ln pl nf dec ho oc orw fi at_ en ov ly rt sp pd md ex ch sz_ bd bn pr cr n T hT h1 h2 h3
  unfold bkV bkP bkO at h
  rw [if_pos h4, if_pos h4, if_pos h4] at h
  exact h
abbrev rm_c_put : Room := { frames := 0, cells := 0, slots := 0, locals := 0 }
set_option maxHeartbeats 4000000 in
set_option maxRecDepth 100000 in
theorem c_put (l : Launch) (g : GT) (sz : Nat) (mo : Nat) (a : Nat → Nat) (th ln pl nf dec ho oc orw fi at_ en ov ly rt sp pd md ex ch sz_ bd bn pr cr : Nat) (wd : Nat) (T : Nat → Nat) (h1 : ln + 4 ≤ 4000) (h2 : wd < 2 ^ 32) : CtV l g yX7_put wsX7_put rm_c_put [.ref mo, .int (nI wd)] [(mo, .inr (7, (.int (nI th) :: .ref (a 1) :: .int (nI ln) :: .int (nI pl) :: .ref (a 4) :: .int (nI nf) :: .int (nI dec) :: .ref (a 7) :: .ref (a 8) :: .ref (a 9) :: .int (nI ho) :: .int (nI oc) :: .int (nI orw) :: .ref (a 13) :: .ref (a 14) :: .ref (a 15) :: .ref (a 16) :: .ref (a 17) :: .ref (a 18) :: .ref (a 19) :: .ref (a 20) :: .ref (a 21) :: .ref (a 22) :: .ref (a 23) :: .int (nI fi) :: .int (nI at_) :: .int (nI en) :: .int (nI ov) :: .int (nI ly) :: .int (nI rt) :: .int (nI sp) :: .int (nI pd) :: .int (nI md) :: .int (nI ex) :: .int (nI ch) :: .int (nI sz_) :: .int (nI bd) :: .int (nI bn) :: .int (nI pr) :: .int (nI cr) :: []))), ((a 1), aB g 4000 (fun j => nB (T j)))] sz (fun _ => True) (fun u => u = [(mo, .inr (7, (.int (nI th) :: .ref (a 1) :: .int (nI (ln + 4)) :: .int (nI pl) :: .ref (a 4) :: .int (nI nf) :: .int (nI dec) :: .ref (a 7) :: .ref (a 8) :: .ref (a 9) :: .int (nI ho) :: .int (nI oc) :: .int (nI orw) :: .ref (a 13) :: .ref (a 14) :: .ref (a 15) :: .ref (a 16) :: .ref (a 17) :: .ref (a 18) :: .ref (a 19) :: .ref (a 20) :: .ref (a 21) :: .ref (a 22) :: .ref (a 23) :: .int (nI fi) :: .int (nI at_) :: .int (nI en) :: .int (nI ov) :: .int (nI ly) :: .int (nI rt) :: .int (nI sp) :: .int (nI pd) :: .int (nI md) :: .int (nI ex) :: .int (nI ch) :: .int (nI sz_) :: .int (nI bd) :: .int (nI bn) :: .int (nI pr) :: .int (nI cr) :: []))), ((a 1), aB g 4000 (fun j => nB (putW T ln wd j)))]) (0) (0) := by
  refine ct_body (cc := cX7_put) (nL := 3) (ret := none) (by decide) rfl (Nat.le_of_ble_eq_true rfl) ?_
  intro p e s m below meth c ls C hin hsz hB hw hl
  obtain ⟨hx, hb, hml, hown, hts, hK, hA, hr, hlk⟩ := id C
  have lk9 := hts (.fieldLink RX7 9 "SoundBenchModel" "tape" "[B") (by decide +kernel)
  have lk103 := hts (.fieldLink RX7 103 "SoundBenchModel" "taped" "I") (by decide +kernel)
  have in_X7 : ∀ w ∈ wsX70, w ∈ wsX7_put := by unfold wsX7_put; intro w h; simp only [List.mem_cons, List.mem_append, h, or_true, true_or]
  have hl : lv_has ls 3 [(0, .ref mo), (1, .int (nI wd))] := hl
  have hw : Wd g (va_A [(mo, .inr (7, (.int (nI th) :: .ref (a 1) :: .int (nI ln) :: .int (nI pl) :: .ref (a 4) :: .int (nI nf) :: .int (nI dec) :: .ref (a 7) :: .ref (a 8) :: .ref (a 9) :: .int (nI ho) :: .int (nI oc) :: .int (nI orw) :: .ref (a 13) :: .ref (a 14) :: .ref (a 15) :: .ref (a 16) :: .ref (a 17) :: .ref (a 18) :: .ref (a 19) :: .ref (a 20) :: .ref (a 21) :: .ref (a 22) :: .ref (a 23) :: .int (nI fi) :: .int (nI at_) :: .int (nI en) :: .int (nI ov) :: .int (nI ly) :: .int (nI rt) :: .int (nI sp) :: .int (nI pd) :: .int (nI md) :: .int (nI ex) :: .int (nI ch) :: .int (nI sz_) :: .int (nI bd) :: .int (nI bn) :: .int (nI pr) :: .int (nI cr) :: []))), ((a 1), aB g 4000 (fun j => nB (T j)))] sz) s.heap [(mo, .inr (7, (.int (nI th) :: .ref (a 1) :: .int (nI ln) :: .int (nI pl) :: .ref (a 4) :: .int (nI nf) :: .int (nI dec) :: .ref (a 7) :: .ref (a 8) :: .ref (a 9) :: .int (nI ho) :: .int (nI oc) :: .int (nI orw) :: .ref (a 13) :: .ref (a 14) :: .ref (a 15) :: .ref (a 16) :: .ref (a 17) :: .ref (a 18) :: .ref (a 19) :: .ref (a 20) :: .ref (a 21) :: .ref (a 22) :: .ref (a 23) :: .int (nI fi) :: .int (nI at_) :: .int (nI en) :: .int (nI ov) :: .int (nI ly) :: .int (nI rt) :: .int (nI sp) :: .int (nI pd) :: .int (nI md) :: .int (nI ex) :: .int (nI ch) :: .int (nI sz_) :: .int (nI bd) :: .int (nI bn) :: .int (nI pr) :: .int (nI cr) :: []))), ((a 1), aB g 4000 (fun j => nB (T j)))] s.heap [] := hw
  refine lv_bipush (v := nI 24) hx hb dX7_put_0 (by decide) ?_
  refine lv_istore_n (lv' := [(2, .int (nI 24)), (0, .ref mo), (1, .int (nI wd))]) hx hb dX7_put_2 rfl hl (by decide) rfl (fun ls hl => ?_)
  refine lv_iload_n hx hb dX7_put_3 rfl (lv_at hl 0 rfl) ?_
  refine lv_if_lt (tgt := 36) hx hb dX7_put_4 (by decide) (fun c_1 => ?_) (fun c_1 => ?_)
  · exact absurd c_1 (by decide)
  refine lv_aload_n hx hb dX7_put_7 rfl (lv_at hl 1 rfl) ?_
  refine r_get C hw in_X7 0 rfl rfl 1 (by decide) lk9 rfl dX7_put_8 ?_
  refine lv_aload_n hx hb dX7_put_11 rfl (lv_at hl 1 rfl) ?_
  refine r_get C hw in_X7 0 rfl rfl 2 (by decide) lk103 rfl dX7_put_12 ?_
  refine lv_iload_n hx hb dX7_put_15 rfl (lv_at hl 2 rfl) ?_
  refine lv_iload_n hx hb dX7_put_16 rfl (lv_at hl 0 rfl) ?_
  refine lv_ishr hx hb dX7_put_17 ?_
  refine lv_i2b hx hb dX7_put_18 rfl ?_
  refine tp1 (v' := (nB (wd / 16777216))) (by rw [nB_shr24, Nat.mod_eq_of_lt (by omega)]) ?_
  refine r_bast C hw 1 rfl (by omega) (by omega) (updB _ _ _) (ws' := [(mo, .inr (7, (.int (nI th) :: .ref (a 1) :: .int (nI ln) :: .int (nI pl) :: .ref (a 4) :: .int (nI nf) :: .int (nI dec) :: .ref (a 7) :: .ref (a 8) :: .ref (a 9) :: .int (nI ho) :: .int (nI oc) :: .int (nI orw) :: .ref (a 13) :: .ref (a 14) :: .ref (a 15) :: .ref (a 16) :: .ref (a 17) :: .ref (a 18) :: .ref (a 19) :: .ref (a 20) :: .ref (a 21) :: .ref (a 22) :: .ref (a 23) :: .int (nI fi) :: .int (nI at_) :: .int (nI en) :: .int (nI ov) :: .int (nI ly) :: .int (nI rt) :: .int (nI sp) :: .int (nI pd) :: .int (nI md) :: .int (nI ex) :: .int (nI ch) :: .int (nI sz_) :: .int (nI bd) :: .int (nI bn) :: .int (nI pr) :: .int (nI cr) :: []))), ((a 1), aB g 4000 (fun j => nB ((updN T ln (wd / 16777216)) j)))]) rfl dX7_put_19 (fun H locs hw => ?_)
  refine lv_aload_n hx hb dX7_put_20 rfl (lv_at hl 1 rfl) ?_
  refine lv_dup hx hb dX7_put_21 rfl ?_
  refine r_get C hw in_X7 0 rfl rfl 2 (by decide) lk103 rfl dX7_put_22 ?_
  refine lv_iconst (v := nI 1) hx hb dX7_put_25 (by decide) ?_
  refine n_add hx hb dX7_put_26 ?_
  refine tp1 (v' := (nI (ln + 1))) rfl ?_
  refine r_put C hw in_X7 tyX7_ok nmX7 0 rfl rfl 2 (by decide) lk103 rfl rfl rfl (Nat.le_of_ble_eq_true rfl) (ws' := [(mo, .inr (7, (.int (nI th) :: .ref (a 1) :: .int (nI (ln + 1)) :: .int (nI pl) :: .ref (a 4) :: .int (nI nf) :: .int (nI dec) :: .ref (a 7) :: .ref (a 8) :: .ref (a 9) :: .int (nI ho) :: .int (nI oc) :: .int (nI orw) :: .ref (a 13) :: .ref (a 14) :: .ref (a 15) :: .ref (a 16) :: .ref (a 17) :: .ref (a 18) :: .ref (a 19) :: .ref (a 20) :: .ref (a 21) :: .ref (a 22) :: .ref (a 23) :: .int (nI fi) :: .int (nI at_) :: .int (nI en) :: .int (nI ov) :: .int (nI ly) :: .int (nI rt) :: .int (nI sp) :: .int (nI pd) :: .int (nI md) :: .int (nI ex) :: .int (nI ch) :: .int (nI sz_) :: .int (nI bd) :: .int (nI bn) :: .int (nI pr) :: .int (nI cr) :: []))), ((a 1), aB g 4000 (fun j => nB ((updN T ln (wd / 16777216)) j)))]) rfl dX7_put_27 (fun H locs hw => ?_)
  refine lv_iinc (v := (nI 16)) (lv' := [(2, .int (nI 16)), (0, .ref mo), (1, .int (nI wd))]) hx hb dX7_put_30 hl (k := 0) rfl (by decide) (by decide) rfl (fun ls hl => ?_)
  refine lv_goto (tgt := 3) hx hb dX7_put_33 (by decide) ?_
  refine lv_iload_n hx hb dX7_put_3 rfl (lv_at hl 0 rfl) ?_
  refine lv_if_lt (tgt := 36) hx hb dX7_put_4 (by decide) (fun c_2 => ?_) (fun c_2 => ?_)
  · exact absurd c_2 (by decide)
  refine lv_aload_n hx hb dX7_put_7 rfl (lv_at hl 1 rfl) ?_
  refine r_get C hw in_X7 0 rfl rfl 1 (by decide) lk9 rfl dX7_put_8 ?_
  refine lv_aload_n hx hb dX7_put_11 rfl (lv_at hl 1 rfl) ?_
  refine r_get C hw in_X7 0 rfl rfl 2 (by decide) lk103 rfl dX7_put_12 ?_
  refine lv_iload_n hx hb dX7_put_15 rfl (lv_at hl 2 rfl) ?_
  refine lv_iload_n hx hb dX7_put_16 rfl (lv_at hl 0 rfl) ?_
  refine lv_ishr hx hb dX7_put_17 ?_
  refine lv_i2b hx hb dX7_put_18 rfl ?_
  refine tp1 (v' := (nB (wd / 65536 % 256))) (nB_shr16 wd) ?_
  refine r_bast C hw 1 rfl (by omega) (by omega) (updB _ _ _) (ws' := [(mo, .inr (7, (.int (nI th) :: .ref (a 1) :: .int (nI (ln + 1)) :: .int (nI pl) :: .ref (a 4) :: .int (nI nf) :: .int (nI dec) :: .ref (a 7) :: .ref (a 8) :: .ref (a 9) :: .int (nI ho) :: .int (nI oc) :: .int (nI orw) :: .ref (a 13) :: .ref (a 14) :: .ref (a 15) :: .ref (a 16) :: .ref (a 17) :: .ref (a 18) :: .ref (a 19) :: .ref (a 20) :: .ref (a 21) :: .ref (a 22) :: .ref (a 23) :: .int (nI fi) :: .int (nI at_) :: .int (nI en) :: .int (nI ov) :: .int (nI ly) :: .int (nI rt) :: .int (nI sp) :: .int (nI pd) :: .int (nI md) :: .int (nI ex) :: .int (nI ch) :: .int (nI sz_) :: .int (nI bd) :: .int (nI bn) :: .int (nI pr) :: .int (nI cr) :: []))), ((a 1), aB g 4000 (fun j => nB ((updN (updN T ln (wd / 16777216)) (ln + 1) (wd / 65536 % 256)) j)))]) rfl dX7_put_19 (fun H locs hw => ?_)
  refine lv_aload_n hx hb dX7_put_20 rfl (lv_at hl 1 rfl) ?_
  refine lv_dup hx hb dX7_put_21 rfl ?_
  refine r_get C hw in_X7 0 rfl rfl 2 (by decide) lk103 rfl dX7_put_22 ?_
  refine lv_iconst (v := nI 1) hx hb dX7_put_25 (by decide) ?_
  refine n_add hx hb dX7_put_26 ?_
  refine tp1 (v' := (nI (ln + 2))) rfl ?_
  refine r_put C hw in_X7 tyX7_ok nmX7 0 rfl rfl 2 (by decide) lk103 rfl rfl rfl (Nat.le_of_ble_eq_true rfl) (ws' := [(mo, .inr (7, (.int (nI th) :: .ref (a 1) :: .int (nI (ln + 2)) :: .int (nI pl) :: .ref (a 4) :: .int (nI nf) :: .int (nI dec) :: .ref (a 7) :: .ref (a 8) :: .ref (a 9) :: .int (nI ho) :: .int (nI oc) :: .int (nI orw) :: .ref (a 13) :: .ref (a 14) :: .ref (a 15) :: .ref (a 16) :: .ref (a 17) :: .ref (a 18) :: .ref (a 19) :: .ref (a 20) :: .ref (a 21) :: .ref (a 22) :: .ref (a 23) :: .int (nI fi) :: .int (nI at_) :: .int (nI en) :: .int (nI ov) :: .int (nI ly) :: .int (nI rt) :: .int (nI sp) :: .int (nI pd) :: .int (nI md) :: .int (nI ex) :: .int (nI ch) :: .int (nI sz_) :: .int (nI bd) :: .int (nI bn) :: .int (nI pr) :: .int (nI cr) :: []))), ((a 1), aB g 4000 (fun j => nB ((updN (updN T ln (wd / 16777216)) (ln + 1) (wd / 65536 % 256)) j)))]) rfl dX7_put_27 (fun H locs hw => ?_)
  refine lv_iinc (v := (nI 8)) (lv' := [(2, .int (nI 8)), (0, .ref mo), (1, .int (nI wd))]) hx hb dX7_put_30 hl (k := 0) rfl (by decide) (by decide) rfl (fun ls hl => ?_)
  refine lv_goto (tgt := 3) hx hb dX7_put_33 (by decide) ?_
  refine lv_iload_n hx hb dX7_put_3 rfl (lv_at hl 0 rfl) ?_
  refine lv_if_lt (tgt := 36) hx hb dX7_put_4 (by decide) (fun c_3 => ?_) (fun c_3 => ?_)
  · exact absurd c_3 (by decide)
  refine lv_aload_n hx hb dX7_put_7 rfl (lv_at hl 1 rfl) ?_
  refine r_get C hw in_X7 0 rfl rfl 1 (by decide) lk9 rfl dX7_put_8 ?_
  refine lv_aload_n hx hb dX7_put_11 rfl (lv_at hl 1 rfl) ?_
  refine r_get C hw in_X7 0 rfl rfl 2 (by decide) lk103 rfl dX7_put_12 ?_
  refine lv_iload_n hx hb dX7_put_15 rfl (lv_at hl 2 rfl) ?_
  refine lv_iload_n hx hb dX7_put_16 rfl (lv_at hl 0 rfl) ?_
  refine lv_ishr hx hb dX7_put_17 ?_
  refine lv_i2b hx hb dX7_put_18 rfl ?_
  refine tp1 (v' := (nB (wd / 256 % 256))) (nB_shr8 wd) ?_
  refine r_bast C hw 1 rfl (by omega) (by omega) (updB _ _ _) (ws' := [(mo, .inr (7, (.int (nI th) :: .ref (a 1) :: .int (nI (ln + 2)) :: .int (nI pl) :: .ref (a 4) :: .int (nI nf) :: .int (nI dec) :: .ref (a 7) :: .ref (a 8) :: .ref (a 9) :: .int (nI ho) :: .int (nI oc) :: .int (nI orw) :: .ref (a 13) :: .ref (a 14) :: .ref (a 15) :: .ref (a 16) :: .ref (a 17) :: .ref (a 18) :: .ref (a 19) :: .ref (a 20) :: .ref (a 21) :: .ref (a 22) :: .ref (a 23) :: .int (nI fi) :: .int (nI at_) :: .int (nI en) :: .int (nI ov) :: .int (nI ly) :: .int (nI rt) :: .int (nI sp) :: .int (nI pd) :: .int (nI md) :: .int (nI ex) :: .int (nI ch) :: .int (nI sz_) :: .int (nI bd) :: .int (nI bn) :: .int (nI pr) :: .int (nI cr) :: []))), ((a 1), aB g 4000 (fun j => nB ((updN (updN (updN T ln (wd / 16777216)) (ln + 1) (wd / 65536 % 256)) (ln + 2) (wd / 256 % 256)) j)))]) rfl dX7_put_19 (fun H locs hw => ?_)
  refine lv_aload_n hx hb dX7_put_20 rfl (lv_at hl 1 rfl) ?_
  refine lv_dup hx hb dX7_put_21 rfl ?_
  refine r_get C hw in_X7 0 rfl rfl 2 (by decide) lk103 rfl dX7_put_22 ?_
  refine lv_iconst (v := nI 1) hx hb dX7_put_25 (by decide) ?_
  refine n_add hx hb dX7_put_26 ?_
  refine tp1 (v' := (nI (ln + 3))) rfl ?_
  refine r_put C hw in_X7 tyX7_ok nmX7 0 rfl rfl 2 (by decide) lk103 rfl rfl rfl (Nat.le_of_ble_eq_true rfl) (ws' := [(mo, .inr (7, (.int (nI th) :: .ref (a 1) :: .int (nI (ln + 3)) :: .int (nI pl) :: .ref (a 4) :: .int (nI nf) :: .int (nI dec) :: .ref (a 7) :: .ref (a 8) :: .ref (a 9) :: .int (nI ho) :: .int (nI oc) :: .int (nI orw) :: .ref (a 13) :: .ref (a 14) :: .ref (a 15) :: .ref (a 16) :: .ref (a 17) :: .ref (a 18) :: .ref (a 19) :: .ref (a 20) :: .ref (a 21) :: .ref (a 22) :: .ref (a 23) :: .int (nI fi) :: .int (nI at_) :: .int (nI en) :: .int (nI ov) :: .int (nI ly) :: .int (nI rt) :: .int (nI sp) :: .int (nI pd) :: .int (nI md) :: .int (nI ex) :: .int (nI ch) :: .int (nI sz_) :: .int (nI bd) :: .int (nI bn) :: .int (nI pr) :: .int (nI cr) :: []))), ((a 1), aB g 4000 (fun j => nB ((updN (updN (updN T ln (wd / 16777216)) (ln + 1) (wd / 65536 % 256)) (ln + 2) (wd / 256 % 256)) j)))]) rfl dX7_put_27 (fun H locs hw => ?_)
  refine lv_iinc (v := (nI 0)) (lv' := [(2, .int (nI 0)), (0, .ref mo), (1, .int (nI wd))]) hx hb dX7_put_30 hl (k := 0) rfl (by decide) (by decide) rfl (fun ls hl => ?_)
  refine lv_goto (tgt := 3) hx hb dX7_put_33 (by decide) ?_
  refine lv_iload_n hx hb dX7_put_3 rfl (lv_at hl 0 rfl) ?_
  refine lv_if_lt (tgt := 36) hx hb dX7_put_4 (by decide) (fun c_4 => ?_) (fun c_4 => ?_)
  · exact absurd c_4 (by decide)
  refine lv_aload_n hx hb dX7_put_7 rfl (lv_at hl 1 rfl) ?_
  refine r_get C hw in_X7 0 rfl rfl 1 (by decide) lk9 rfl dX7_put_8 ?_
  refine lv_aload_n hx hb dX7_put_11 rfl (lv_at hl 1 rfl) ?_
  refine r_get C hw in_X7 0 rfl rfl 2 (by decide) lk103 rfl dX7_put_12 ?_
  refine lv_iload_n hx hb dX7_put_15 rfl (lv_at hl 2 rfl) ?_
  refine lv_iload_n hx hb dX7_put_16 rfl (lv_at hl 0 rfl) ?_
  refine lv_ishr hx hb dX7_put_17 ?_
  refine lv_i2b hx hb dX7_put_18 rfl ?_
  refine tp1 (v' := (nB (wd % 256))) (nB_shr0 wd) ?_
  refine r_bast C hw 1 rfl (by omega) (by omega) (updB _ _ _) (ws' := [(mo, .inr (7, (.int (nI th) :: .ref (a 1) :: .int (nI (ln + 3)) :: .int (nI pl) :: .ref (a 4) :: .int (nI nf) :: .int (nI dec) :: .ref (a 7) :: .ref (a 8) :: .ref (a 9) :: .int (nI ho) :: .int (nI oc) :: .int (nI orw) :: .ref (a 13) :: .ref (a 14) :: .ref (a 15) :: .ref (a 16) :: .ref (a 17) :: .ref (a 18) :: .ref (a 19) :: .ref (a 20) :: .ref (a 21) :: .ref (a 22) :: .ref (a 23) :: .int (nI fi) :: .int (nI at_) :: .int (nI en) :: .int (nI ov) :: .int (nI ly) :: .int (nI rt) :: .int (nI sp) :: .int (nI pd) :: .int (nI md) :: .int (nI ex) :: .int (nI ch) :: .int (nI sz_) :: .int (nI bd) :: .int (nI bn) :: .int (nI pr) :: .int (nI cr) :: []))), ((a 1), aB g 4000 (fun j => nB ((putW T ln wd) j)))]) rfl dX7_put_19 (fun H locs hw => ?_)
  refine lv_aload_n hx hb dX7_put_20 rfl (lv_at hl 1 rfl) ?_
  refine lv_dup hx hb dX7_put_21 rfl ?_
  refine r_get C hw in_X7 0 rfl rfl 2 (by decide) lk103 rfl dX7_put_22 ?_
  refine lv_iconst (v := nI 1) hx hb dX7_put_25 (by decide) ?_
  refine n_add hx hb dX7_put_26 ?_
  refine tp1 (v' := (nI (ln + 4))) rfl ?_
  refine r_put C hw in_X7 tyX7_ok nmX7 0 rfl rfl 2 (by decide) lk103 rfl rfl rfl (Nat.le_of_ble_eq_true rfl) (ws' := [(mo, .inr (7, (.int (nI th) :: .ref (a 1) :: .int (nI (ln + 4)) :: .int (nI pl) :: .ref (a 4) :: .int (nI nf) :: .int (nI dec) :: .ref (a 7) :: .ref (a 8) :: .ref (a 9) :: .int (nI ho) :: .int (nI oc) :: .int (nI orw) :: .ref (a 13) :: .ref (a 14) :: .ref (a 15) :: .ref (a 16) :: .ref (a 17) :: .ref (a 18) :: .ref (a 19) :: .ref (a 20) :: .ref (a 21) :: .ref (a 22) :: .ref (a 23) :: .int (nI fi) :: .int (nI at_) :: .int (nI en) :: .int (nI ov) :: .int (nI ly) :: .int (nI rt) :: .int (nI sp) :: .int (nI pd) :: .int (nI md) :: .int (nI ex) :: .int (nI ch) :: .int (nI sz_) :: .int (nI bd) :: .int (nI bn) :: .int (nI pr) :: .int (nI cr) :: []))), ((a 1), aB g 4000 (fun j => nB ((putW T ln wd) j)))]) rfl dX7_put_27 (fun H locs hw => ?_)
  refine lv_iinc (v := (-8)) (lv' := [(2, .int (-8)), (0, .ref mo), (1, .int (nI wd))]) hx hb dX7_put_30 hl (k := 0) rfl (by decide) (by decide) rfl (fun ls hl => ?_)
  refine lv_goto (tgt := 3) hx hb dX7_put_33 (by decide) ?_
  refine lv_iload_n hx hb dX7_put_3 rfl (lv_at hl 0 rfl) ?_
  refine lv_if_lt (tgt := 36) hx hb dX7_put_4 (by decide) (fun c_e => ?_) (fun c_e => ?_)
  · skip
    exact r_vret C hw (Nat.le_refl _) (Nat.le_refl _) (rfl) dX7_put_36
  · skip
    exact absurd (by decide) c_e
abbrev rm_c_rfeed : Room := { frames := 1, cells := 0, slots := 0, locals := 22 }
set_option maxHeartbeats 4000000 in
set_option maxRecDepth 100000 in
theorem c_rfeed (l : Launch) (g : GT) (sz : Nat) (mo : Nat) (a : Nat → Nat) (th ln pl nf dec ho oc orw fi at_ en ov ly rt sp pd md ex ch sz_ bd bn pr cr : Nat) (a_ b_ c_ d_ e_ : Nat) (T : Nat → Nat) (h2 : ln ≤ 4000) (h3 : a_ < 2 ^ 32) (h4 : b_ < 2 ^ 32) (h5 : c_ < 2 ^ 32) (h6 : d_ < 2 ^ 32) (h7 : e_ < 2 ^ 32) : CtI l g yX7_feed wsX7_feed rm_c_rfeed [.ref mo, .int (nI a_), .int (nI b_), .int (nI c_), .int (nI d_), .int (nI e_)] [(mo, .inr (7, (.int (nI th) :: .ref (a 1) :: .int (nI ln) :: .int (nI pl) :: .ref (a 4) :: .int (nI nf) :: .int (nI dec) :: .ref (a 7) :: .ref (a 8) :: .ref (a 9) :: .int (nI ho) :: .int (nI oc) :: .int (nI orw) :: .ref (a 13) :: .ref (a 14) :: .ref (a 15) :: .ref (a 16) :: .ref (a 17) :: .ref (a 18) :: .ref (a 19) :: .ref (a 20) :: .ref (a 21) :: .ref (a 22) :: .ref (a 23) :: .int (nI fi) :: .int (nI at_) :: .int (nI en) :: .int (nI ov) :: .int (nI ly) :: .int (nI rt) :: .int (nI sp) :: .int (nI pd) :: .int (nI md) :: .int (nI ex) :: .int (nI ch) :: .int (nI sz_) :: .int (nI bd) :: .int (nI bn) :: .int (nI pr) :: .int (nI cr) :: []))), ((a 1), aB g 4000 (fun j => nB (T j)))] sz (fun _ => True) (fun rr u => rr = (if ln + 20 ≤ 4000 then nI (ln + 20) else -1) ∧ u = (if ln + 20 ≤ 4000 then [(mo, .inr (7, (.int (nI th) :: .ref (a 1) :: .int (nI (ln + 20)) :: .int (nI pl) :: .ref (a 4) :: .int (nI nf) :: .int (nI dec) :: .ref (a 7) :: .ref (a 8) :: .ref (a 9) :: .int (nI ho) :: .int (nI oc) :: .int (nI orw) :: .ref (a 13) :: .ref (a 14) :: .ref (a 15) :: .ref (a 16) :: .ref (a 17) :: .ref (a 18) :: .ref (a 19) :: .ref (a 20) :: .ref (a 21) :: .ref (a 22) :: .ref (a 23) :: .int (nI fi) :: .int (nI at_) :: .int (nI en) :: .int (nI ov) :: .int (nI ly) :: .int (nI rt) :: .int (nI sp) :: .int (nI pd) :: .int (nI md) :: .int (nI ex) :: .int (nI ch) :: .int (nI sz_) :: .int (nI bd) :: .int (nI bn) :: .int (nI pr) :: .int (nI cr) :: []))), ((a 1), aB g 4000 (fun j => nB (feedT T ln a_ b_ c_ d_ e_ j)))] else [(mo, .inr (7, (.int (nI th) :: .ref (a 1) :: .int (nI ln) :: .int (nI pl) :: .ref (a 4) :: .int (nI nf) :: .int (nI dec) :: .ref (a 7) :: .ref (a 8) :: .ref (a 9) :: .int (nI ho) :: .int (nI oc) :: .int (nI orw) :: .ref (a 13) :: .ref (a 14) :: .ref (a 15) :: .ref (a 16) :: .ref (a 17) :: .ref (a 18) :: .ref (a 19) :: .ref (a 20) :: .ref (a 21) :: .ref (a 22) :: .ref (a 23) :: .int (nI fi) :: .int (nI at_) :: .int (nI en) :: .int (nI ov) :: .int (nI ly) :: .int (nI rt) :: .int (nI sp) :: .int (nI pd) :: .int (nI md) :: .int (nI ex) :: .int (nI ch) :: .int (nI sz_) :: .int (nI bd) :: .int (nI bn) :: .int (nI pr) :: .int (nI cr) :: []))), ((a 1), aB g 4000 (fun j => nB (T j)))])) (0) (0) := by
  refine ct_body (cc := cX7_feed) (nL := 6) (ret := (some .int)) (by decide) rfl (Nat.le_of_ble_eq_true rfl) ?_
  intro p e s m below meth c ls C hin hsz hB hw hl
  obtain ⟨hx, hb, hml, hown, hts, hK, hA, hr, hlk⟩ := id C
  have lk103 := hts (.fieldLink RX7 103 "SoundBenchModel" "taped" "I") (by decide +kernel)
  have in_X7 : ∀ w ∈ wsX70, w ∈ wsX7_feed := by unfold wsX7_feed; intro w h; simp only [List.mem_cons, List.mem_append, h, or_true, true_or]
  have hl : lv_has ls 6 [(0, .ref mo), (1, .int (nI a_)), (2, .int (nI b_)), (3, .int (nI c_)), (4, .int (nI d_)), (5, .int (nI e_))] := hl
  have hw : Wd g (va_A [(mo, .inr (7, (.int (nI th) :: .ref (a 1) :: .int (nI ln) :: .int (nI pl) :: .ref (a 4) :: .int (nI nf) :: .int (nI dec) :: .ref (a 7) :: .ref (a 8) :: .ref (a 9) :: .int (nI ho) :: .int (nI oc) :: .int (nI orw) :: .ref (a 13) :: .ref (a 14) :: .ref (a 15) :: .ref (a 16) :: .ref (a 17) :: .ref (a 18) :: .ref (a 19) :: .ref (a 20) :: .ref (a 21) :: .ref (a 22) :: .ref (a 23) :: .int (nI fi) :: .int (nI at_) :: .int (nI en) :: .int (nI ov) :: .int (nI ly) :: .int (nI rt) :: .int (nI sp) :: .int (nI pd) :: .int (nI md) :: .int (nI ex) :: .int (nI ch) :: .int (nI sz_) :: .int (nI bd) :: .int (nI bn) :: .int (nI pr) :: .int (nI cr) :: []))), ((a 1), aB g 4000 (fun j => nB (T j)))] sz) s.heap [(mo, .inr (7, (.int (nI th) :: .ref (a 1) :: .int (nI ln) :: .int (nI pl) :: .ref (a 4) :: .int (nI nf) :: .int (nI dec) :: .ref (a 7) :: .ref (a 8) :: .ref (a 9) :: .int (nI ho) :: .int (nI oc) :: .int (nI orw) :: .ref (a 13) :: .ref (a 14) :: .ref (a 15) :: .ref (a 16) :: .ref (a 17) :: .ref (a 18) :: .ref (a 19) :: .ref (a 20) :: .ref (a 21) :: .ref (a 22) :: .ref (a 23) :: .int (nI fi) :: .int (nI at_) :: .int (nI en) :: .int (nI ov) :: .int (nI ly) :: .int (nI rt) :: .int (nI sp) :: .int (nI pd) :: .int (nI md) :: .int (nI ex) :: .int (nI ch) :: .int (nI sz_) :: .int (nI bd) :: .int (nI bn) :: .int (nI pr) :: .int (nI cr) :: []))), ((a 1), aB g 4000 (fun j => nB (T j)))] s.heap [] := hw
  refine lv_aload_n hx hb dX7_feed_0 rfl (lv_at hl 0 rfl) ?_
  refine r_get C hw in_X7 0 rfl rfl 2 (by decide) lk103 rfl dX7_feed_1 ?_
  refine lv_bipush (v := nI 20) hx hb dX7_feed_4 (by decide) ?_
  refine n_add hx hb dX7_feed_6 ?_
  refine lv_sipush (v := nI 4000) hx hb dX7_feed_7 (by decide) ?_
  refine n_cle (tgt := 15) hx hb (by omega) (by omega) dX7_feed_10 (by decide) (fun c_1 => ?_) (fun c_1 => ?_)
  · skip
    refine lv_aload_n hx hb dX7_feed_15 rfl (lv_at hl 0 rfl) ?_
    refine lv_iload_n hx hb dX7_feed_16 rfl (lv_at hl 1 rfl) ?_
    refine k_Vv (As := [.int (nI a_)]) (rest := []) (wr := []) C hw (c_put l g _ mo a th ln pl nf dec ho oc orw fi at_ en ov ly rt sp pd md ex ch sz_ bd bn pr cr a_ (T) (by omega) (by omega)) (cwV 1 hts gX7_feed_X7_put rfl rfl rfl (by decide +kernel) ⟨Nat.le_of_ble_eq_true rfl, Nat.le_of_ble_eq_true rfl⟩) bl_T (fun _ _ _ => trivial) [0, 1] [] (by decide) rfl rfl (by decide) (by decide) 0 rfl rfl rfl hl.1 rfl (Nat.le_of_ble_eq_true rfl) dX7_feed_17 ⟨Nat.le_of_ble_eq_true rfl, Nat.le_of_ble_eq_true rfl⟩ (fun u H locs hp hw => ?_)
    obtain rfl := hp
    have hw := Wd.sub (ws' := [(mo, .inr (7, (.int (nI th) :: .ref (a 1) :: .int (nI (ln + 4)) :: .int (nI pl) :: .ref (a 4) :: .int (nI nf) :: .int (nI dec) :: .ref (a 7) :: .ref (a 8) :: .ref (a 9) :: .int (nI ho) :: .int (nI oc) :: .int (nI orw) :: .ref (a 13) :: .ref (a 14) :: .ref (a 15) :: .ref (a 16) :: .ref (a 17) :: .ref (a 18) :: .ref (a 19) :: .ref (a 20) :: .ref (a 21) :: .ref (a 22) :: .ref (a 23) :: .int (nI fi) :: .int (nI at_) :: .int (nI en) :: .int (nI ov) :: .int (nI ly) :: .int (nI rt) :: .int (nI sp) :: .int (nI pd) :: .int (nI md) :: .int (nI ex) :: .int (nI ch) :: .int (nI sz_) :: .int (nI bd) :: .int (nI bn) :: .int (nI pr) :: .int (nI cr) :: []))), ((a 1), aB g 4000 (fun j => nB ((putW T ln a_) j)))]) hw [0, 1] (by decide) rfl
    refine lv_aload_n hx hb dX7_feed_20 rfl (lv_at hl 0 rfl) ?_
    refine lv_iload_n hx hb dX7_feed_21 rfl (lv_at hl 2 rfl) ?_
    refine k_Vv (As := [.int (nI b_)]) (rest := []) (wr := []) C hw (c_put l g _ mo a th (ln + 4) pl nf dec ho oc orw fi at_ en ov ly rt sp pd md ex ch sz_ bd bn pr cr b_ (putW T ln a_) (by omega) (by omega)) (cwV 1 hts gX7_feed_X7_put rfl rfl rfl (by decide +kernel) ⟨Nat.le_of_ble_eq_true rfl, Nat.le_of_ble_eq_true rfl⟩) bl_T (fun _ _ _ => trivial) [0, 1] [] (by decide) rfl rfl (by decide) (by decide) 0 rfl rfl rfl hl.1 rfl (Nat.le_of_ble_eq_true rfl) dX7_feed_22 ⟨Nat.le_of_ble_eq_true rfl, Nat.le_of_ble_eq_true rfl⟩ (fun u H locs hp hw => ?_)
    obtain rfl := hp
    have hw := Wd.sub (ws' := [(mo, .inr (7, (.int (nI th) :: .ref (a 1) :: .int (nI (ln + 8)) :: .int (nI pl) :: .ref (a 4) :: .int (nI nf) :: .int (nI dec) :: .ref (a 7) :: .ref (a 8) :: .ref (a 9) :: .int (nI ho) :: .int (nI oc) :: .int (nI orw) :: .ref (a 13) :: .ref (a 14) :: .ref (a 15) :: .ref (a 16) :: .ref (a 17) :: .ref (a 18) :: .ref (a 19) :: .ref (a 20) :: .ref (a 21) :: .ref (a 22) :: .ref (a 23) :: .int (nI fi) :: .int (nI at_) :: .int (nI en) :: .int (nI ov) :: .int (nI ly) :: .int (nI rt) :: .int (nI sp) :: .int (nI pd) :: .int (nI md) :: .int (nI ex) :: .int (nI ch) :: .int (nI sz_) :: .int (nI bd) :: .int (nI bn) :: .int (nI pr) :: .int (nI cr) :: []))), ((a 1), aB g 4000 (fun j => nB ((putW (putW T ln a_) (ln + 4) b_) j)))]) hw [0, 1] (by decide) rfl
    refine lv_aload_n hx hb dX7_feed_25 rfl (lv_at hl 0 rfl) ?_
    refine lv_iload_n hx hb dX7_feed_26 rfl (lv_at hl 3 rfl) ?_
    refine k_Vv (As := [.int (nI c_)]) (rest := []) (wr := []) C hw (c_put l g _ mo a th (ln + 8) pl nf dec ho oc orw fi at_ en ov ly rt sp pd md ex ch sz_ bd bn pr cr c_ (putW (putW T ln a_) (ln + 4) b_) (by omega) (by omega)) (cwV 1 hts gX7_feed_X7_put rfl rfl rfl (by decide +kernel) ⟨Nat.le_of_ble_eq_true rfl, Nat.le_of_ble_eq_true rfl⟩) bl_T (fun _ _ _ => trivial) [0, 1] [] (by decide) rfl rfl (by decide) (by decide) 0 rfl rfl rfl hl.1 rfl (Nat.le_of_ble_eq_true rfl) dX7_feed_27 ⟨Nat.le_of_ble_eq_true rfl, Nat.le_of_ble_eq_true rfl⟩ (fun u H locs hp hw => ?_)
    obtain rfl := hp
    have hw := Wd.sub (ws' := [(mo, .inr (7, (.int (nI th) :: .ref (a 1) :: .int (nI (ln + 12)) :: .int (nI pl) :: .ref (a 4) :: .int (nI nf) :: .int (nI dec) :: .ref (a 7) :: .ref (a 8) :: .ref (a 9) :: .int (nI ho) :: .int (nI oc) :: .int (nI orw) :: .ref (a 13) :: .ref (a 14) :: .ref (a 15) :: .ref (a 16) :: .ref (a 17) :: .ref (a 18) :: .ref (a 19) :: .ref (a 20) :: .ref (a 21) :: .ref (a 22) :: .ref (a 23) :: .int (nI fi) :: .int (nI at_) :: .int (nI en) :: .int (nI ov) :: .int (nI ly) :: .int (nI rt) :: .int (nI sp) :: .int (nI pd) :: .int (nI md) :: .int (nI ex) :: .int (nI ch) :: .int (nI sz_) :: .int (nI bd) :: .int (nI bn) :: .int (nI pr) :: .int (nI cr) :: []))), ((a 1), aB g 4000 (fun j => nB ((putW (putW (putW T ln a_) (ln + 4) b_) (ln + 8) c_) j)))]) hw [0, 1] (by decide) rfl
    refine lv_aload_n hx hb dX7_feed_30 rfl (lv_at hl 0 rfl) ?_
    refine lv_iload hx hb dX7_feed_31 (lv_at hl 4 rfl) ?_
    refine k_Vv (As := [.int (nI d_)]) (rest := []) (wr := []) C hw (c_put l g _ mo a th (ln + 12) pl nf dec ho oc orw fi at_ en ov ly rt sp pd md ex ch sz_ bd bn pr cr d_ (putW (putW (putW T ln a_) (ln + 4) b_) (ln + 8) c_) (by omega) (by omega)) (cwV 1 hts gX7_feed_X7_put rfl rfl rfl (by decide +kernel) ⟨Nat.le_of_ble_eq_true rfl, Nat.le_of_ble_eq_true rfl⟩) bl_T (fun _ _ _ => trivial) [0, 1] [] (by decide) rfl rfl (by decide) (by decide) 0 rfl rfl rfl hl.1 rfl (Nat.le_of_ble_eq_true rfl) dX7_feed_33 ⟨Nat.le_of_ble_eq_true rfl, Nat.le_of_ble_eq_true rfl⟩ (fun u H locs hp hw => ?_)
    obtain rfl := hp
    have hw := Wd.sub (ws' := [(mo, .inr (7, (.int (nI th) :: .ref (a 1) :: .int (nI (ln + 16)) :: .int (nI pl) :: .ref (a 4) :: .int (nI nf) :: .int (nI dec) :: .ref (a 7) :: .ref (a 8) :: .ref (a 9) :: .int (nI ho) :: .int (nI oc) :: .int (nI orw) :: .ref (a 13) :: .ref (a 14) :: .ref (a 15) :: .ref (a 16) :: .ref (a 17) :: .ref (a 18) :: .ref (a 19) :: .ref (a 20) :: .ref (a 21) :: .ref (a 22) :: .ref (a 23) :: .int (nI fi) :: .int (nI at_) :: .int (nI en) :: .int (nI ov) :: .int (nI ly) :: .int (nI rt) :: .int (nI sp) :: .int (nI pd) :: .int (nI md) :: .int (nI ex) :: .int (nI ch) :: .int (nI sz_) :: .int (nI bd) :: .int (nI bn) :: .int (nI pr) :: .int (nI cr) :: []))), ((a 1), aB g 4000 (fun j => nB ((putW (putW (putW (putW T ln a_) (ln + 4) b_) (ln + 8) c_) (ln + 12) d_) j)))]) hw [0, 1] (by decide) rfl
    refine lv_aload_n hx hb dX7_feed_36 rfl (lv_at hl 0 rfl) ?_
    refine lv_iload hx hb dX7_feed_37 (lv_at hl 5 rfl) ?_
    refine k_Vv (As := [.int (nI e_)]) (rest := []) (wr := []) C hw (c_put l g _ mo a th (ln + 16) pl nf dec ho oc orw fi at_ en ov ly rt sp pd md ex ch sz_ bd bn pr cr e_ (putW (putW (putW (putW T ln a_) (ln + 4) b_) (ln + 8) c_) (ln + 12) d_) (by omega) (by omega)) (cwV 1 hts gX7_feed_X7_put rfl rfl rfl (by decide +kernel) ⟨Nat.le_of_ble_eq_true rfl, Nat.le_of_ble_eq_true rfl⟩) bl_T (fun _ _ _ => trivial) [0, 1] [] (by decide) rfl rfl (by decide) (by decide) 0 rfl rfl rfl hl.1 rfl (Nat.le_of_ble_eq_true rfl) dX7_feed_39 ⟨Nat.le_of_ble_eq_true rfl, Nat.le_of_ble_eq_true rfl⟩ (fun u H locs hp hw => ?_)
    obtain rfl := hp
    have hw := Wd.sub (ws' := [(mo, .inr (7, (.int (nI th) :: .ref (a 1) :: .int (nI (ln + 20)) :: .int (nI pl) :: .ref (a 4) :: .int (nI nf) :: .int (nI dec) :: .ref (a 7) :: .ref (a 8) :: .ref (a 9) :: .int (nI ho) :: .int (nI oc) :: .int (nI orw) :: .ref (a 13) :: .ref (a 14) :: .ref (a 15) :: .ref (a 16) :: .ref (a 17) :: .ref (a 18) :: .ref (a 19) :: .ref (a 20) :: .ref (a 21) :: .ref (a 22) :: .ref (a 23) :: .int (nI fi) :: .int (nI at_) :: .int (nI en) :: .int (nI ov) :: .int (nI ly) :: .int (nI rt) :: .int (nI sp) :: .int (nI pd) :: .int (nI md) :: .int (nI ex) :: .int (nI ch) :: .int (nI sz_) :: .int (nI bd) :: .int (nI bn) :: .int (nI pr) :: .int (nI cr) :: []))), ((a 1), aB g 4000 (fun j => nB ((putW (putW (putW (putW (putW T ln a_) (ln + 4) b_) (ln + 8) c_) (ln + 12) d_) (ln + 16) e_) j)))]) hw [0, 1] (by decide) rfl
    refine lv_aload_n hx hb dX7_feed_42 rfl (lv_at hl 0 rfl) ?_
    refine r_get C hw in_X7 0 rfl rfl 2 (by decide) lk103 rfl dX7_feed_43 ?_
    exact r_iret C hw (Nat.le_refl _) (Nat.le_refl _) (⟨by rw [if_pos (by omega)], by rw [if_pos (by omega)]; rfl⟩) dX7_feed_46
  · skip
    refine lv_iconst (v := (-1)) hx hb dX7_feed_13 (by decide) ?_
    exact r_iret C hw (Nat.le_refl _) (Nat.le_refl _) (⟨by rw [if_neg (by omega)], by rw [if_neg (by omega)]⟩) dX7_feed_14
abbrev rm_c_rend : Room := { frames := 0, cells := 0, slots := 0, locals := 0 }
set_option maxHeartbeats 4000000 in
set_option maxRecDepth 100000 in
theorem c_rend (l : Launch) (g : GT) (sz : Nat) (mo : Nat) (a : Nat → Nat) (th ln pl nf dec ho oc orw fi at_ en ov ly rt sp pd md ex ch sz_ bd bn pr cr : Nat) (x : Int32) (h1 : pl ≤ ln) (h2 : ln ≤ 4000) : CtI l g yX7_end wsX7_end rm_c_rend [.ref mo, .int x] [(mo, .inr (7, (.int (nI th) :: .ref (a 1) :: .int (nI ln) :: .int (nI pl) :: .ref (a 4) :: .int (nI nf) :: .int (nI dec) :: .ref (a 7) :: .ref (a 8) :: .ref (a 9) :: .int (nI ho) :: .int (nI oc) :: .int (nI orw) :: .ref (a 13) :: .ref (a 14) :: .ref (a 15) :: .ref (a 16) :: .ref (a 17) :: .ref (a 18) :: .ref (a 19) :: .ref (a 20) :: .ref (a 21) :: .ref (a 22) :: .ref (a 23) :: .int (nI fi) :: .int (nI at_) :: .int (nI en) :: .int (nI ov) :: .int (nI ly) :: .int (nI rt) :: .int (nI sp) :: .int (nI pd) :: .int (nI md) :: .int (nI ex) :: .int (nI ch) :: .int (nI sz_) :: .int (nI bd) :: .int (nI bn) :: .int (nI pr) :: .int (nI cr) :: [])))] sz (fun _ => True) (fun rr u => rr = optI (endC x pl ln) ∧ u = [(mo, .inr (7, (.int (nI th) :: .ref (a 1) :: .int (nI ((endC x pl ln).getD ln)) :: .int (nI pl) :: .ref (a 4) :: .int (nI nf) :: .int (nI dec) :: .ref (a 7) :: .ref (a 8) :: .ref (a 9) :: .int (nI ho) :: .int (nI oc) :: .int (nI orw) :: .ref (a 13) :: .ref (a 14) :: .ref (a 15) :: .ref (a 16) :: .ref (a 17) :: .ref (a 18) :: .ref (a 19) :: .ref (a 20) :: .ref (a 21) :: .ref (a 22) :: .ref (a 23) :: .int (nI fi) :: .int (nI at_) :: .int (nI en) :: .int (nI ov) :: .int (nI ly) :: .int (nI rt) :: .int (nI sp) :: .int (nI pd) :: .int (nI md) :: .int (nI ex) :: .int (nI ch) :: .int (nI sz_) :: .int (nI bd) :: .int (nI bn) :: .int (nI pr) :: .int (nI cr) :: [])))]) (0) (0) := by
  refine ct_body (cc := cX7_end) (nL := 2) (ret := (some .int)) (by decide) rfl (Nat.le_of_ble_eq_true rfl) ?_
  intro p e s m below meth c ls C hin hsz hB hw hl
  obtain ⟨hx, hb, hml, hown, hts, hK, hA, hr, hlk⟩ := id C
  have lk103 := hts (.fieldLink RX7 103 "SoundBenchModel" "taped" "I") (by decide +kernel)
  have lk110 := hts (.fieldLink RX7 110 "SoundBenchModel" "place" "I") (by decide +kernel)
  have in_X7 : ∀ w ∈ wsX70, w ∈ wsX7_end := by unfold wsX7_end; intro w h; simp only [List.mem_cons, List.mem_append, h, or_true, true_or]
  have hl : lv_has ls 2 [(0, .ref mo), (1, .int x)] := hl
  have hw : Wd g (va_A [(mo, .inr (7, (.int (nI th) :: .ref (a 1) :: .int (nI ln) :: .int (nI pl) :: .ref (a 4) :: .int (nI nf) :: .int (nI dec) :: .ref (a 7) :: .ref (a 8) :: .ref (a 9) :: .int (nI ho) :: .int (nI oc) :: .int (nI orw) :: .ref (a 13) :: .ref (a 14) :: .ref (a 15) :: .ref (a 16) :: .ref (a 17) :: .ref (a 18) :: .ref (a 19) :: .ref (a 20) :: .ref (a 21) :: .ref (a 22) :: .ref (a 23) :: .int (nI fi) :: .int (nI at_) :: .int (nI en) :: .int (nI ov) :: .int (nI ly) :: .int (nI rt) :: .int (nI sp) :: .int (nI pd) :: .int (nI md) :: .int (nI ex) :: .int (nI ch) :: .int (nI sz_) :: .int (nI bd) :: .int (nI bn) :: .int (nI pr) :: .int (nI cr) :: [])))] sz) s.heap [(mo, .inr (7, (.int (nI th) :: .ref (a 1) :: .int (nI ln) :: .int (nI pl) :: .ref (a 4) :: .int (nI nf) :: .int (nI dec) :: .ref (a 7) :: .ref (a 8) :: .ref (a 9) :: .int (nI ho) :: .int (nI oc) :: .int (nI orw) :: .ref (a 13) :: .ref (a 14) :: .ref (a 15) :: .ref (a 16) :: .ref (a 17) :: .ref (a 18) :: .ref (a 19) :: .ref (a 20) :: .ref (a 21) :: .ref (a 22) :: .ref (a 23) :: .int (nI fi) :: .int (nI at_) :: .int (nI en) :: .int (nI ov) :: .int (nI ly) :: .int (nI rt) :: .int (nI sp) :: .int (nI pd) :: .int (nI md) :: .int (nI ex) :: .int (nI ch) :: .int (nI sz_) :: .int (nI bd) :: .int (nI bn) :: .int (nI pr) :: .int (nI cr) :: [])))] s.heap [] := hw
  refine lv_iload_n hx hb dX7_end_0 rfl (lv_at hl 1 rfl) ?_
  refine lv_aload_n hx hb dX7_end_1 rfl (lv_at hl 0 rfl) ?_
  refine r_get C hw in_X7 0 rfl rfl 3 (by decide) lk110 rfl dX7_end_2 ?_
  refine lv_icmp_lt (tgt := 16) hx hb dX7_end_5 (by decide) (fun c_1 => ?_) (fun c_1 => ?_)
  · skip
    rw [ltn (by omega)] at c_1
    refine lv_iconst (v := (-1)) hx hb dX7_end_16 (by decide) ?_
    exact r_iret C hw (Nat.le_refl _) (Nat.le_refl _) (⟨by unfold endC; rw [if_neg (by omega)]; rfl, by unfold endC; rw [if_neg (by omega)]; rfl⟩) dX7_end_17
  · skip
    rw [ltn (by omega)] at c_1
    refine lv_iload_n hx hb dX7_end_8 rfl (lv_at hl 1 rfl) ?_
    refine lv_aload_n hx hb dX7_end_9 rfl (lv_at hl 0 rfl) ?_
    refine r_get C hw in_X7 0 rfl rfl 2 (by decide) lk103 rfl dX7_end_10 ?_
    refine lv_icmp_le (tgt := 18) hx hb dX7_end_13 (by decide) (fun c_2 => ?_) (fun c_2 => ?_)
    · skip
      rw [len_ (by omega)] at c_2
      have hcd : (pl : Int) ≤ x.toInt ∧ x.toInt ≤ ln := by omega
      obtain ⟨j, hj, rfl, hje⟩ := nat_of (x := x) (by omega)
      rw [hje] at hcd
      refine lv_aload_n hx hb dX7_end_18 rfl (lv_at hl 0 rfl) ?_
      refine lv_iload_n hx hb dX7_end_19 rfl (lv_at hl 1 rfl) ?_
      refine r_put C hw in_X7 tyX7_ok nmX7 0 rfl rfl 2 (by decide) lk103 rfl rfl rfl (Nat.le_of_ble_eq_true rfl) (ws' := [(mo, .inr (7, (.int (nI th) :: .ref (a 1) :: .int (nI j) :: .int (nI pl) :: .ref (a 4) :: .int (nI nf) :: .int (nI dec) :: .ref (a 7) :: .ref (a 8) :: .ref (a 9) :: .int (nI ho) :: .int (nI oc) :: .int (nI orw) :: .ref (a 13) :: .ref (a 14) :: .ref (a 15) :: .ref (a 16) :: .ref (a 17) :: .ref (a 18) :: .ref (a 19) :: .ref (a 20) :: .ref (a 21) :: .ref (a 22) :: .ref (a 23) :: .int (nI fi) :: .int (nI at_) :: .int (nI en) :: .int (nI ov) :: .int (nI ly) :: .int (nI rt) :: .int (nI sp) :: .int (nI pd) :: .int (nI md) :: .int (nI ex) :: .int (nI ch) :: .int (nI sz_) :: .int (nI bd) :: .int (nI bn) :: .int (nI pr) :: .int (nI cr) :: [])))]) rfl dX7_end_20 (fun H locs hw => ?_)
      refine lv_iload_n hx hb dX7_end_23 rfl (lv_at hl 1 rfl) ?_
      exact r_iret C hw (Nat.le_refl _) (Nat.le_refl _) (⟨by unfold endC; rw [hje, if_pos hcd]; simp only [Int.toNat_natCast]; rfl, by unfold endC; rw [hje, if_pos hcd]; simp only [Int.toNat_natCast]; rfl⟩) dX7_end_24
    · skip
      rw [len_ (by omega)] at c_2
      refine lv_iconst (v := (-1)) hx hb dX7_end_16 (by decide) ?_
      exact r_iret C hw (Nat.le_refl _) (Nat.le_refl _) (⟨by unfold endC; rw [if_neg (by omega)]; rfl, by unfold endC; rw [if_neg (by omega)]; rfl⟩) dX7_end_17
abbrev rm_c_rset : Room := { frames := 0, cells := 0, slots := 0, locals := 0 }
set_option maxHeartbeats 4000000 in
set_option maxRecDepth 100000 in
theorem c_rset (l : Launch) (g : GT) (sz : Nat) (mo : Nat) (a : Nat → Nat) (th ln pl nf dec ho oc orw fi at_ en ov ly rt sp pd md ex ch sz_ bd bn pr cr : Nat) (x : Int32) (b_ : Nat) (T : Nat → Nat) (hT : ∀ j, T j < 256) (h1 : pl ≤ ln) (h2 : ln ≤ 4000) : CtI l g yX7_set wsX7_set rm_c_rset [.ref mo, .int x, .int (nI b_)] [(mo, .inr (7, (.int (nI th) :: .ref (a 1) :: .int (nI ln) :: .int (nI pl) :: .ref (a 4) :: .int (nI nf) :: .int (nI dec) :: .ref (a 7) :: .ref (a 8) :: .ref (a 9) :: .int (nI ho) :: .int (nI oc) :: .int (nI orw) :: .ref (a 13) :: .ref (a 14) :: .ref (a 15) :: .ref (a 16) :: .ref (a 17) :: .ref (a 18) :: .ref (a 19) :: .ref (a 20) :: .ref (a 21) :: .ref (a 22) :: .ref (a 23) :: .int (nI fi) :: .int (nI at_) :: .int (nI en) :: .int (nI ov) :: .int (nI ly) :: .int (nI rt) :: .int (nI sp) :: .int (nI pd) :: .int (nI md) :: .int (nI ex) :: .int (nI ch) :: .int (nI sz_) :: .int (nI bd) :: .int (nI bn) :: .int (nI pr) :: .int (nI cr) :: []))), ((a 1), aB g 4000 (fun j => nB (T j)))] sz (fun _ => True) (fun rr u => rr = optI ((setC x pl ln).map T) ∧ u = [(mo, .inr (7, (.int (nI th) :: .ref (a 1) :: .int (nI ln) :: .int (nI pl) :: .ref (a 4) :: .int (nI nf) :: .int (nI dec) :: .ref (a 7) :: .ref (a 8) :: .ref (a 9) :: .int (nI ho) :: .int (nI oc) :: .int (nI orw) :: .ref (a 13) :: .ref (a 14) :: .ref (a 15) :: .ref (a 16) :: .ref (a 17) :: .ref (a 18) :: .ref (a 19) :: .ref (a 20) :: .ref (a 21) :: .ref (a 22) :: .ref (a 23) :: .int (nI fi) :: .int (nI at_) :: .int (nI en) :: .int (nI ov) :: .int (nI ly) :: .int (nI rt) :: .int (nI sp) :: .int (nI pd) :: .int (nI md) :: .int (nI ex) :: .int (nI ch) :: .int (nI sz_) :: .int (nI bd) :: .int (nI bn) :: .int (nI pr) :: .int (nI cr) :: []))), ((a 1), aB g 4000 (fun j => nB (setT T (setC x pl ln) (b_ % 256) j)))]) (0) (0) := by
  refine ct_body (cc := cX7_set) (nL := 4) (ret := (some .int)) (by decide) rfl (Nat.le_of_ble_eq_true rfl) ?_
  intro p e s m below meth c ls C hin hsz hB hw hl
  obtain ⟨hx, hb, hml, hown, hts, hK, hA, hr, hlk⟩ := id C
  have lk9 := hts (.fieldLink RX7 9 "SoundBenchModel" "tape" "[B") (by decide +kernel)
  have lk103 := hts (.fieldLink RX7 103 "SoundBenchModel" "taped" "I") (by decide +kernel)
  have lk110 := hts (.fieldLink RX7 110 "SoundBenchModel" "place" "I") (by decide +kernel)
  have in_X7 : ∀ w ∈ wsX70, w ∈ wsX7_set := by unfold wsX7_set; intro w h; simp only [List.mem_cons, List.mem_append, h, or_true, true_or]
  have hl : lv_has ls 4 [(0, .ref mo), (1, .int x), (2, .int (nI b_))] := hl
  have hw : Wd g (va_A [(mo, .inr (7, (.int (nI th) :: .ref (a 1) :: .int (nI ln) :: .int (nI pl) :: .ref (a 4) :: .int (nI nf) :: .int (nI dec) :: .ref (a 7) :: .ref (a 8) :: .ref (a 9) :: .int (nI ho) :: .int (nI oc) :: .int (nI orw) :: .ref (a 13) :: .ref (a 14) :: .ref (a 15) :: .ref (a 16) :: .ref (a 17) :: .ref (a 18) :: .ref (a 19) :: .ref (a 20) :: .ref (a 21) :: .ref (a 22) :: .ref (a 23) :: .int (nI fi) :: .int (nI at_) :: .int (nI en) :: .int (nI ov) :: .int (nI ly) :: .int (nI rt) :: .int (nI sp) :: .int (nI pd) :: .int (nI md) :: .int (nI ex) :: .int (nI ch) :: .int (nI sz_) :: .int (nI bd) :: .int (nI bn) :: .int (nI pr) :: .int (nI cr) :: []))), ((a 1), aB g 4000 (fun j => nB (T j)))] sz) s.heap [(mo, .inr (7, (.int (nI th) :: .ref (a 1) :: .int (nI ln) :: .int (nI pl) :: .ref (a 4) :: .int (nI nf) :: .int (nI dec) :: .ref (a 7) :: .ref (a 8) :: .ref (a 9) :: .int (nI ho) :: .int (nI oc) :: .int (nI orw) :: .ref (a 13) :: .ref (a 14) :: .ref (a 15) :: .ref (a 16) :: .ref (a 17) :: .ref (a 18) :: .ref (a 19) :: .ref (a 20) :: .ref (a 21) :: .ref (a 22) :: .ref (a 23) :: .int (nI fi) :: .int (nI at_) :: .int (nI en) :: .int (nI ov) :: .int (nI ly) :: .int (nI rt) :: .int (nI sp) :: .int (nI pd) :: .int (nI md) :: .int (nI ex) :: .int (nI ch) :: .int (nI sz_) :: .int (nI bd) :: .int (nI bn) :: .int (nI pr) :: .int (nI cr) :: []))), ((a 1), aB g 4000 (fun j => nB (T j)))] s.heap [] := hw
  refine lv_iload_n hx hb dX7_set_0 rfl (lv_at hl 1 rfl) ?_
  refine lv_aload_n hx hb dX7_set_1 rfl (lv_at hl 0 rfl) ?_
  refine r_get C hw in_X7 0 rfl rfl 3 (by decide) lk110 rfl dX7_set_2 ?_
  refine lv_icmp_lt (tgt := 16) hx hb dX7_set_5 (by decide) (fun c_1 => ?_) (fun c_1 => ?_)
  · skip
    rw [ltn (by omega)] at c_1
    refine lv_iconst (v := (-1)) hx hb dX7_set_16 (by decide) ?_
    exact r_iret C hw (Nat.le_refl _) (Nat.le_refl _) (⟨by unfold setC; rw [if_neg (by omega)]; rfl, by unfold setC; rw [if_neg (by omega)]; rfl⟩) dX7_set_17
  · skip
    rw [ltn (by omega)] at c_1
    refine lv_iload_n hx hb dX7_set_8 rfl (lv_at hl 1 rfl) ?_
    refine lv_aload_n hx hb dX7_set_9 rfl (lv_at hl 0 rfl) ?_
    refine r_get C hw in_X7 0 rfl rfl 2 (by decide) lk103 rfl dX7_set_10 ?_
    refine lv_icmp_lt (tgt := 18) hx hb dX7_set_13 (by decide) (fun c_2 => ?_) (fun c_2 => ?_)
    · skip
      rw [ltn (by omega)] at c_2
      have hcd : (pl : Int) ≤ x.toInt ∧ x.toInt < ln := by omega
      obtain ⟨ji, hj, rfl, hje⟩ := nat_of (x := x) (by omega)
      rw [hje] at hcd
      refine lv_aload_n hx hb dX7_set_18 rfl (lv_at hl 0 rfl) ?_
      refine r_get C hw in_X7 0 rfl rfl 1 (by decide) lk9 rfl dX7_set_19 ?_
      refine lv_iload_n hx hb dX7_set_22 rfl (lv_at hl 1 rfl) ?_
      refine r_bald C hw 1 rfl (by omega) (by omega) dX7_set_23 ?_
      refine lv_sipush (v := nI 255) hx hb dX7_set_24 (by decide) ?_
      refine lv_iand hx hb dX7_set_27 ?_
      refine tp1 (v' := (nI (T ji))) (nB_and (hT ji)) ?_
      refine lv_istore_n (lv' := [(3, .int (nI (T ji))), (0, .ref mo), (1, .int (nI ji)), (2, .int (nI b_))]) hx hb dX7_set_28 rfl hl (by decide) rfl (fun ls hl => ?_)
      refine lv_aload_n hx hb dX7_set_29 rfl (lv_at hl 1 rfl) ?_
      refine r_get C hw in_X7 0 rfl rfl 1 (by decide) lk9 rfl dX7_set_30 ?_
      refine lv_iload_n hx hb dX7_set_33 rfl (lv_at hl 2 rfl) ?_
      refine lv_iload_n hx hb dX7_set_34 rfl (lv_at hl 3 rfl) ?_
      refine lv_i2b hx hb dX7_set_35 rfl ?_
      refine tp1 (v' := (nB (b_ % 256))) (nB_low b_) ?_
      refine r_bast C hw 1 rfl (by omega) (by omega) (updB _ _ _) (ws' := [(mo, .inr (7, (.int (nI th) :: .ref (a 1) :: .int (nI ln) :: .int (nI pl) :: .ref (a 4) :: .int (nI nf) :: .int (nI dec) :: .ref (a 7) :: .ref (a 8) :: .ref (a 9) :: .int (nI ho) :: .int (nI oc) :: .int (nI orw) :: .ref (a 13) :: .ref (a 14) :: .ref (a 15) :: .ref (a 16) :: .ref (a 17) :: .ref (a 18) :: .ref (a 19) :: .ref (a 20) :: .ref (a 21) :: .ref (a 22) :: .ref (a 23) :: .int (nI fi) :: .int (nI at_) :: .int (nI en) :: .int (nI ov) :: .int (nI ly) :: .int (nI rt) :: .int (nI sp) :: .int (nI pd) :: .int (nI md) :: .int (nI ex) :: .int (nI ch) :: .int (nI sz_) :: .int (nI bd) :: .int (nI bn) :: .int (nI pr) :: .int (nI cr) :: []))), ((a 1), aB g 4000 (fun j => nB (updN T ji (b_ % 256) j)))]) rfl dX7_set_36 (fun H locs hw => ?_)
      refine lv_iload_n hx hb dX7_set_37 rfl (lv_at hl 0 rfl) ?_
      exact r_iret C hw (Nat.le_refl _) (Nat.le_refl _) (⟨by unfold setC; rw [hje, if_pos hcd]; simp only [Int.toNat_natCast]; rfl, by unfold setC; rw [hje, if_pos hcd]; simp only [Int.toNat_natCast]; rfl⟩) dX7_set_38
    · skip
      rw [ltn (by omega)] at c_2
      refine lv_iconst (v := (-1)) hx hb dX7_set_16 (by decide) ?_
      exact r_iret C hw (Nat.le_refl _) (Nat.le_refl _) (⟨by unfold setC; rw [if_neg (by omega)]; rfl, by unfold setC; rw [if_neg (by omega)]; rfl⟩) dX7_set_17
abbrev rm_c_checked : Room := { frames := 1, cells := 0, slots := 0, locals := 23 }
set_option maxHeartbeats 4000000 in
set_option maxRecDepth 100000 in
theorem c_checked (l : Launch) (g : GT) (sz : Nat) (mo : Nat) (a : Nat → Nat) (th ln pl nf dec ho oc orw fi at_ en ov ly rt sp pd md ex ch sz_ bd bn pr cr : Nat) (n : Nat) (T : Nat → Nat) (hT : ∀ j, T j < 256) (h1 : at_ ≤ en) (h2 : en ≤ 32000) (h3 : n ≤ 16) (h4 : 1 ≤ n) (h5 : ov ≤ 1) (hcr : cr < 65536) : CtI l g yX7_checked wsX7_checked rm_c_checked [.ref mo, .int (nI n)] [(mo, .inr (7, (.int (nI th) :: .ref (a 1) :: .int (nI ln) :: .int (nI pl) :: .ref (a 4) :: .int (nI nf) :: .int (nI dec) :: .ref (a 7) :: .ref (a 8) :: .ref (a 9) :: .int (nI ho) :: .int (nI oc) :: .int (nI orw) :: .ref (a 13) :: .ref (a 14) :: .ref (a 15) :: .ref (a 16) :: .ref (a 17) :: .ref (a 18) :: .ref (a 19) :: .ref (a 20) :: .ref (a 21) :: .ref (a 22) :: .ref (a 23) :: .int (nI fi) :: .int (nI at_) :: .int (nI en) :: .int (nI ov) :: .int (nI ly) :: .int (nI rt) :: .int (nI sp) :: .int (nI pd) :: .int (nI md) :: .int (nI ex) :: .int (nI ch) :: .int (nI sz_) :: .int (nI bd) :: .int (nI bn) :: .int (nI pr) :: .int (nI cr) :: []))), ((a 1), aB g 4000 (fun j => nB (T j)))] sz (fun _ => True) (fun rr u => rr = nI (bkV T at_ en n) ∧ u = [(mo, .inr (7, (.int (nI th) :: .ref (a 1) :: .int (nI ln) :: .int (nI pl) :: .ref (a 4) :: .int (nI nf) :: .int (nI dec) :: .ref (a 7) :: .ref (a 8) :: .ref (a 9) :: .int (nI ho) :: .int (nI oc) :: .int (nI orw) :: .ref (a 13) :: .ref (a 14) :: .ref (a 15) :: .ref (a 16) :: .ref (a 17) :: .ref (a 18) :: .ref (a 19) :: .ref (a 20) :: .ref (a 21) :: .ref (a 22) :: .ref (a 23) :: .int (nI fi) :: .int (nI (bkP at_ en n)) :: .int (nI en) :: .int (nI (bkO at_ en n ov)) :: .int (nI ly) :: .int (nI rt) :: .int (nI sp) :: .int (nI pd) :: .int (nI md) :: .int (nI ex) :: .int (nI ch) :: .int (nI sz_) :: .int (nI bd) :: .int (nI bn) :: .int (nI pr) :: .int (nI (ckV T at_ en n ov cr)) :: []))), ((a 1), aB g 4000 (fun j => nB (T j)))]) (0) (0) := by
  refine ct_body (cc := cX7_checked) (nL := 5) (ret := (some .int)) (by decide) rfl (Nat.le_of_ble_eq_true rfl) ?_
  intro p e s m below meth c ls C hin hsz hB hw hl
  obtain ⟨hx, hb, hml, hown, hts, hK, hA, hr, hlk⟩ := id C
  have lk129 := hts (.fieldLink RX7 129 "SoundBenchModel" "isOver" "Z") (by decide +kernel)
  have lk195 := hts (.fieldLink RX7 195 "SoundBenchModel" "crc" "I") (by decide +kernel)
  have in_X7 : ∀ w ∈ wsX70, w ∈ wsX7_checked := by unfold wsX7_checked; intro w h; simp only [List.mem_cons, List.mem_append, h, or_true, true_or]
  have hl : lv_has ls 5 [(0, .ref mo), (1, .int (nI n))] := hl
  have hw : Wd g (va_A [(mo, .inr (7, (.int (nI th) :: .ref (a 1) :: .int (nI ln) :: .int (nI pl) :: .ref (a 4) :: .int (nI nf) :: .int (nI dec) :: .ref (a 7) :: .ref (a 8) :: .ref (a 9) :: .int (nI ho) :: .int (nI oc) :: .int (nI orw) :: .ref (a 13) :: .ref (a 14) :: .ref (a 15) :: .ref (a 16) :: .ref (a 17) :: .ref (a 18) :: .ref (a 19) :: .ref (a 20) :: .ref (a 21) :: .ref (a 22) :: .ref (a 23) :: .int (nI fi) :: .int (nI at_) :: .int (nI en) :: .int (nI ov) :: .int (nI ly) :: .int (nI rt) :: .int (nI sp) :: .int (nI pd) :: .int (nI md) :: .int (nI ex) :: .int (nI ch) :: .int (nI sz_) :: .int (nI bd) :: .int (nI bn) :: .int (nI pr) :: .int (nI cr) :: []))), ((a 1), aB g 4000 (fun j => nB (T j)))] sz) s.heap [(mo, .inr (7, (.int (nI th) :: .ref (a 1) :: .int (nI ln) :: .int (nI pl) :: .ref (a 4) :: .int (nI nf) :: .int (nI dec) :: .ref (a 7) :: .ref (a 8) :: .ref (a 9) :: .int (nI ho) :: .int (nI oc) :: .int (nI orw) :: .ref (a 13) :: .ref (a 14) :: .ref (a 15) :: .ref (a 16) :: .ref (a 17) :: .ref (a 18) :: .ref (a 19) :: .ref (a 20) :: .ref (a 21) :: .ref (a 22) :: .ref (a 23) :: .int (nI fi) :: .int (nI at_) :: .int (nI en) :: .int (nI ov) :: .int (nI ly) :: .int (nI rt) :: .int (nI sp) :: .int (nI pd) :: .int (nI md) :: .int (nI ex) :: .int (nI ch) :: .int (nI sz_) :: .int (nI bd) :: .int (nI bn) :: .int (nI pr) :: .int (nI cr) :: []))), ((a 1), aB g 4000 (fun j => nB (T j)))] s.heap [] := hw
  have hb8 : bkV T at_ en n < 65536 := Nat.lt_of_lt_of_le (bkV_lt T at_ en n) (pow16 h3)
  have ho8 : bkO at_ en n ov ≤ 1 := bkO_le h5
  refine lv_aload_n hx hb dX7_checked_0 rfl (lv_at hl 0 rfl) ?_
  refine lv_iload_n hx hb dX7_checked_1 rfl (lv_at hl 1 rfl) ?_
  refine k_Vi (As := [.int (nI n)]) (rest := []) (wr := []) C hw (c_rbits l g _ mo a th ln pl nf dec ho oc orw fi at_ en ov ly rt sp pd md ex ch sz_ bd bn pr cr n T hT (by omega) (by omega) (by omega)) (cwV 1 hts gX7_checked_X7_bits rfl rfl rfl (by decide +kernel) ⟨Nat.le_of_ble_eq_true rfl, Nat.le_of_ble_eq_true rfl⟩) bl_T (fun _ _ _ => trivial) [0, 1] [] (by decide) rfl rfl (by decide) (by decide) 0 rfl rfl rfl hl.1 rfl (Nat.le_of_ble_eq_true rfl) dX7_checked_2 ⟨Nat.le_of_ble_eq_true rfl, Nat.le_of_ble_eq_true rfl⟩ (fun r_1 u H locs hp hw => ?_)
  obtain ⟨rfl, rfl⟩ := hp
  have hw := Wd.sub (ws' := [(mo, .inr (7, (.int (nI th) :: .ref (a 1) :: .int (nI ln) :: .int (nI pl) :: .ref (a 4) :: .int (nI nf) :: .int (nI dec) :: .ref (a 7) :: .ref (a 8) :: .ref (a 9) :: .int (nI ho) :: .int (nI oc) :: .int (nI orw) :: .ref (a 13) :: .ref (a 14) :: .ref (a 15) :: .ref (a 16) :: .ref (a 17) :: .ref (a 18) :: .ref (a 19) :: .ref (a 20) :: .ref (a 21) :: .ref (a 22) :: .ref (a 23) :: .int (nI fi) :: .int (nI (bkP at_ en n)) :: .int (nI en) :: .int (nI (bkO at_ en n ov)) :: .int (nI ly) :: .int (nI rt) :: .int (nI sp) :: .int (nI pd) :: .int (nI md) :: .int (nI ex) :: .int (nI ch) :: .int (nI sz_) :: .int (nI bd) :: .int (nI bn) :: .int (nI pr) :: .int (nI cr) :: []))), ((a 1), aB g 4000 (fun j => nB (T j)))]) hw [0, 1] (by decide) rfl
  refine lv_istore_n (lv' := [(2, .int (nI (bkV T at_ en n))), (0, .ref mo), (1, .int (nI n))]) hx hb dX7_checked_5 rfl hl (by decide) rfl (fun ls hl => ?_)
  refine lv_iload_n hx hb dX7_checked_6 rfl (lv_at hl 2 rfl) ?_
  refine lv_iconst (v := nI 1) hx hb dX7_checked_7 (by decide) ?_
  refine lv_isub hx hb dX7_checked_8 ?_
  refine lv_istore_n (lv' := [(3, .int ((nI n) - (nI 1))), (2, .int (nI (bkV T at_ en n))), (0, .ref mo), (1, .int (nI n))]) hx hb dX7_checked_9 rfl hl (by decide) rfl (fun ls hl => ?_)
  by_cases hov : bkO at_ en n ov = 0
  · obtain ⟨hf, hv0⟩ := bkO_0 hov
    refine lpw (I := fun i H locs ls => Wd g (va_A [(mo, .inr (7, (.int (nI th) :: .ref (a 1) :: .int (nI ln) :: .int (nI pl) :: .ref (a 4) :: .int (nI nf) :: .int (nI dec) :: .ref (a 7) :: .ref (a 8) :: .ref (a 9) :: .int (nI ho) :: .int (nI oc) :: .int (nI orw) :: .ref (a 13) :: .ref (a 14) :: .ref (a 15) :: .ref (a 16) :: .ref (a 17) :: .ref (a 18) :: .ref (a 19) :: .ref (a 20) :: .ref (a 21) :: .ref (a 22) :: .ref (a 23) :: .int (nI fi) :: .int (nI at_) :: .int (nI en) :: .int (nI ov) :: .int (nI ly) :: .int (nI rt) :: .int (nI sp) :: .int (nI pd) :: .int (nI md) :: .int (nI ex) :: .int (nI ch) :: .int (nI sz_) :: .int (nI bd) :: .int (nI bn) :: .int (nI pr) :: .int (nI cr) :: []))), ((a 1), aB g 4000 (fun j => nB (T j)))] sz) s.heap [(mo, .inr (7, (.int (nI th) :: .ref (a 1) :: .int (nI ln) :: .int (nI pl) :: .ref (a 4) :: .int (nI nf) :: .int (nI dec) :: .ref (a 7) :: .ref (a 8) :: .ref (a 9) :: .int (nI ho) :: .int (nI oc) :: .int (nI orw) :: .ref (a 13) :: .ref (a 14) :: .ref (a 15) :: .ref (a 16) :: .ref (a 17) :: .ref (a 18) :: .ref (a 19) :: .ref (a 20) :: .ref (a 21) :: .ref (a 22) :: .ref (a 23) :: .int (nI fi) :: .int (nI (bkP at_ en n)) :: .int (nI en) :: .int (nI (bkO at_ en n ov)) :: .int (nI ly) :: .int (nI rt) :: .int (nI sp) :: .int (nI pd) :: .int (nI md) :: .int (nI ex) :: .int (nI ch) :: .int (nI sz_) :: .int (nI bd) :: .int (nI bn) :: .int (nI pr) :: .int (nI (crcB T at_ i cr)) :: []))), ((a 1), aB g 4000 (fun j => nB (T j)))] H locs ∧ lv_has ls 5 [(0, .ref mo), (2, .int (nI (bkV T at_ en n))), (3, .int (nI (n - i) - nI 1))]) (n) ?_ ?_ (0) (by omega) ⟨hw, (lv_sub hl [2, 1, 0] rfl)⟩
    · intro H locs ls hI
      obtain ⟨hw, hl⟩ := hI
      refine lv_iload_n hx hb dX7_checked_10 rfl (lv_at hl 2 rfl) ?_
      refine lv_if_lt (tgt := 70) hx hb dX7_checked_11 (by decide) (fun c_e => ?_) (fun c_e => ?_)
      · skip
        refine lv_iload_n hx hb dX7_checked_70 rfl (lv_at hl 1 rfl) ?_
        exact r_iret C hw (Nat.le_refl _) (Nat.le_refl _) (⟨rfl, by unfold ckV; rw [if_pos ⟨hf, hv0⟩]⟩) dX7_checked_71
      · skip
        exact absurd (by rw [Nat.sub_self]; decide) c_e
    · intro i H locs ls hi hI K
      obtain ⟨hw, hl⟩ := hI
      have hc9 : crcB T at_ i cr < 65536 := crcB_lt hcr
      have e3 : nI (n - i) - nI 1 = nI (n - 1 - i) := by rw [pk_sub (by omega)]; exact congrArg nI (by omega)
      rw [e3] at hl
      refine lv_iload_n hx hb dX7_checked_10 rfl (lv_at hl 2 rfl) ?_
      refine n_lt0 (tgt := 70) hx hb (by omega) dX7_checked_11 (by decide) ?_
      refine lv_aload_n hx hb dX7_checked_14 rfl (lv_at hl 0 rfl) ?_
      refine r_get C hw in_X7 0 rfl rfl 27 (by decide) lk129 rfl dX7_checked_15 ?_
      refine n_ne0 (tgt := 70) hx hb (by omega) dX7_checked_18 (by decide) (fun c_3 => ?_) (fun c_3 => ?_)
      · skip
        exfalso; omega
      · skip
        refine lv_aload_n hx hb dX7_checked_21 rfl (lv_at hl 0 rfl) ?_
        refine r_get C hw in_X7 0 rfl rfl 39 (by decide) lk195 rfl dX7_checked_22 ?_
        refine lv_bipush (v := nI 15) hx hb dX7_checked_25 (by decide) ?_
        refine n_shr (d := 32768) hx hb (by decide) (by omega) (by omega) dX7_checked_27 ?_
        refine lv_iconst (v := nI 1) hx hb dX7_checked_28 (by decide) ?_
        refine n_and (d := 2) hx hb 1 (by decide) (by decide) (by omega) (by omega) dX7_checked_29 ?_
        refine lv_iload_n hx hb dX7_checked_30 rfl (lv_at hl 1 rfl) ?_
        refine lv_iload_n hx hb dX7_checked_31 rfl (lv_at hl 2 rfl) ?_
        refine n_shr (d := 2 ^ (n - 1 - i)) hx hb rfl (by omega) (by omega) dX7_checked_32 ?_
        refine lv_iconst (v := nI 1) hx hb dX7_checked_33 (by decide) ?_
        refine n_and (d := 2) hx hb 1 (by decide) (by decide) (by omega) (Nat.lt_of_le_of_lt (Nat.div_le_self _ _) (by omega)) dX7_checked_34 ?_
        refine tp1 (v' := (nI (bitAt T (at_ + i)))) (congrArg nI (by unfold bkV; rw [if_pos hf]; exact bitsV_bit T at_ hi)) ?_
        refine lv_ixor hx hb dX7_checked_35 ?_
        refine tp1 (v' := (nI (if crcB T at_ i cr / 32768 % 2 = bitAt T (at_ + i) then 0 else 1))) (xor01 (by omega) (bitAt_lt _ _)) ?_
        refine lv_istore (lv' := [(4, .int (nI (if crcB T at_ i cr / 32768 % 2 = bitAt T (at_ + i) then 0 else 1))), (0, .ref mo), (2, .int (nI (bkV T at_ en n))), (3, .int (nI (n - 1 - i)))]) hx hb dX7_checked_36 hl (by decide) rfl (fun ls hl => ?_)
        refine lv_aload_n hx hb dX7_checked_38 rfl (lv_at hl 1 rfl) ?_
        refine lv_aload_n hx hb dX7_checked_39 rfl (lv_at hl 1 rfl) ?_
        refine r_get C hw in_X7 0 rfl rfl 39 (by decide) lk195 rfl dX7_checked_40 ?_
        refine lv_iconst (v := nI 1) hx hb dX7_checked_43 (by decide) ?_
        refine n_shl (d := 2) hx hb (by decide) (by omega) (by omega) dX7_checked_44 ?_
        refine lv_ldc (v := nI 65535) hx hb hown (hts (.constant RX7 198 (65535)) (by decide +kernel)) dX7_checked_45 ?_
        refine n_and (d := 65536) hx hb 16 (by decide) (by decide) (by omega) (by omega) dX7_checked_47 ?_
        refine lv_iload hx hb dX7_checked_48 (lv_at hl 0 rfl) ?_
        refine lv_iconst (v := nI 1) hx hb dX7_checked_50 (by decide) ?_
        refine n_cne (tgt := 59) hx hb (by split <;> omega) (by omega) dX7_checked_51 (by decide) (fun c_b => ?_) (fun c_b => ?_)
        · skip
          refine lv_iconst (v := nI 0) hx hb dX7_checked_59 (by decide) ?_
          refine lv_ixor hx hb dX7_checked_60 ?_
          refine tp1 (v' := (nI (crcB T at_ (i + 1) cr))) (crc_ne hc9 c_b) ?_
          refine r_put C hw in_X7 tyX7_ok nmX7 0 rfl rfl 39 (by decide) lk195 rfl rfl rfl (Nat.le_of_ble_eq_true rfl) (ws' := [(mo, .inr (7, (.int (nI th) :: .ref (a 1) :: .int (nI ln) :: .int (nI pl) :: .ref (a 4) :: .int (nI nf) :: .int (nI dec) :: .ref (a 7) :: .ref (a 8) :: .ref (a 9) :: .int (nI ho) :: .int (nI oc) :: .int (nI orw) :: .ref (a 13) :: .ref (a 14) :: .ref (a 15) :: .ref (a 16) :: .ref (a 17) :: .ref (a 18) :: .ref (a 19) :: .ref (a 20) :: .ref (a 21) :: .ref (a 22) :: .ref (a 23) :: .int (nI fi) :: .int (nI (bkP at_ en n)) :: .int (nI en) :: .int (nI (bkO at_ en n ov)) :: .int (nI ly) :: .int (nI rt) :: .int (nI sp) :: .int (nI pd) :: .int (nI md) :: .int (nI ex) :: .int (nI ch) :: .int (nI sz_) :: .int (nI bd) :: .int (nI bn) :: .int (nI pr) :: .int (nI (crcB T at_ (i + 1) cr)) :: []))), ((a 1), aB g 4000 (fun j => nB (T j)))]) rfl dX7_checked_61 (fun H locs hw => ?_)
          refine lv_iinc (v := (nI (n - (i + 1)) - nI 1)) (lv' := [(3, .int (nI (n - (i + 1)) - nI 1)), (4, .int (nI (if crcB T at_ i cr / 32768 % 2 = bitAt T (at_ + i) then 0 else 1))), (0, .ref mo), (2, .int (nI (bkV T at_ en n)))]) hx hb dX7_checked_64 hl (k := 3) rfl (by rw [dec_I, show n - (i + 1) = n - 1 - i by omega]) (by decide) rfl (fun ls hl => ?_)
          refine lv_goto (tgt := 10) hx hb dX7_checked_67 (by decide) ?_
          exact K _ _ _ ⟨hw, (lv_sub hl [2, 3, 0] rfl)⟩
        · skip
          refine lv_ldc (v := nI 32773) hx hb hown (hts (.constant RX7 199 (32773)) (by decide +kernel)) dX7_checked_54 ?_
          refine lv_goto (tgt := 60) hx hb dX7_checked_56 (by decide) ?_
          refine lv_ixor hx hb dX7_checked_60 ?_
          refine tp1 (v' := (nI (crcB T at_ (i + 1) cr))) (crc_eq hc9 c_b) ?_
          refine r_put C hw in_X7 tyX7_ok nmX7 0 rfl rfl 39 (by decide) lk195 rfl rfl rfl (Nat.le_of_ble_eq_true rfl) (ws' := [(mo, .inr (7, (.int (nI th) :: .ref (a 1) :: .int (nI ln) :: .int (nI pl) :: .ref (a 4) :: .int (nI nf) :: .int (nI dec) :: .ref (a 7) :: .ref (a 8) :: .ref (a 9) :: .int (nI ho) :: .int (nI oc) :: .int (nI orw) :: .ref (a 13) :: .ref (a 14) :: .ref (a 15) :: .ref (a 16) :: .ref (a 17) :: .ref (a 18) :: .ref (a 19) :: .ref (a 20) :: .ref (a 21) :: .ref (a 22) :: .ref (a 23) :: .int (nI fi) :: .int (nI (bkP at_ en n)) :: .int (nI en) :: .int (nI (bkO at_ en n ov)) :: .int (nI ly) :: .int (nI rt) :: .int (nI sp) :: .int (nI pd) :: .int (nI md) :: .int (nI ex) :: .int (nI ch) :: .int (nI sz_) :: .int (nI bd) :: .int (nI bn) :: .int (nI pr) :: .int (nI (crcB T at_ (i + 1) cr)) :: []))), ((a 1), aB g 4000 (fun j => nB (T j)))]) rfl dX7_checked_61 (fun H locs hw => ?_)
          refine lv_iinc (v := (nI (n - (i + 1)) - nI 1)) (lv' := [(3, .int (nI (n - (i + 1)) - nI 1)), (4, .int (nI (if crcB T at_ i cr / 32768 % 2 = bitAt T (at_ + i) then 0 else 1))), (0, .ref mo), (2, .int (nI (bkV T at_ en n)))]) hx hb dX7_checked_64 hl (k := 3) rfl (by rw [dec_I, show n - (i + 1) = n - 1 - i by omega]) (by decide) rfl (fun ls hl => ?_)
          refine lv_goto (tgt := 10) hx hb dX7_checked_67 (by decide) ?_
          exact K _ _ _ ⟨hw, (lv_sub hl [2, 3, 0] rfl)⟩
  · have hn := bkO_n0 hov
    rw [pk_sub (show 1 ≤ n by omega)] at hl
    refine lv_iload_n hx hb dX7_checked_10 rfl (lv_at hl 0 rfl) ?_
    refine n_lt0 (tgt := 70) hx hb (by omega) dX7_checked_11 (by decide) ?_
    refine lv_aload_n hx hb dX7_checked_14 rfl (lv_at hl 2 rfl) ?_
    refine r_get C hw in_X7 0 rfl rfl 27 (by decide) lk129 rfl dX7_checked_15 ?_
    refine n_ne0 (tgt := 70) hx hb (by omega) dX7_checked_18 (by decide) (fun c_o => ?_) (fun c_o => ?_)
    · skip
      refine lv_iload_n hx hb dX7_checked_70 rfl (lv_at hl 1 rfl) ?_
      exact r_iret C hw (Nat.le_refl _) (Nat.le_refl _) (⟨rfl, by unfold ckV; rw [if_neg hn]⟩) dX7_checked_71
    · skip
      exfalso; omega
abbrev rm_c_rbandsOf : Room := { frames := 0, cells := 0, slots := 0, locals := 0 }
set_option maxHeartbeats 4000000 in
set_option maxRecDepth 100000 in
theorem c_rbandsOf (l : Launch) (g : GT) (sz : Nat) (mo : Nat) (a : Nat → Nat) (th ln pl nf dec ho oc orw fi at_ en ov ly rt sp pd md ex ch sz_ bd bn pr cr : Nat) (k_ : Nat) (h1 : sp = 44100 ∨ sp = 48000 ∨ sp = 32000) (h2 : k_ < 56 ∨ k_ ≤ 80 ∨ 96 ≤ k_) (h3 : k_ ≤ 480) : CtI l g yX7_bandsOf wsX7_bandsOf rm_c_rbandsOf [.ref mo, .int (nI k_)] [(mo, .inr (7, (.int (nI th) :: .ref (a 1) :: .int (nI ln) :: .int (nI pl) :: .ref (a 4) :: .int (nI nf) :: .int (nI dec) :: .ref (a 7) :: .ref (a 8) :: .ref (a 9) :: .int (nI ho) :: .int (nI oc) :: .int (nI orw) :: .ref (a 13) :: .ref (a 14) :: .ref (a 15) :: .ref (a 16) :: .ref (a 17) :: .ref (a 18) :: .ref (a 19) :: .ref (a 20) :: .ref (a 21) :: .ref (a 22) :: .ref (a 23) :: .int (nI fi) :: .int (nI at_) :: .int (nI en) :: .int (nI ov) :: .int (nI ly) :: .int (nI rt) :: .int (nI sp) :: .int (nI pd) :: .int (nI md) :: .int (nI ex) :: .int (nI ch) :: .int (nI sz_) :: .int (nI bd) :: .int (nI bn) :: .int (nI pr) :: .int (nI cr) :: [])))] sz (fun _ => True) (fun rr u => rr = nI (twoB k_ sp) ∧ u = [(mo, .inr (7, (.int (nI th) :: .ref (a 1) :: .int (nI ln) :: .int (nI pl) :: .ref (a 4) :: .int (nI nf) :: .int (nI dec) :: .ref (a 7) :: .ref (a 8) :: .ref (a 9) :: .int (nI ho) :: .int (nI oc) :: .int (nI orw) :: .ref (a 13) :: .ref (a 14) :: .ref (a 15) :: .ref (a 16) :: .ref (a 17) :: .ref (a 18) :: .ref (a 19) :: .ref (a 20) :: .ref (a 21) :: .ref (a 22) :: .ref (a 23) :: .int (nI fi) :: .int (nI at_) :: .int (nI en) :: .int (nI ov) :: .int (nI ly) :: .int (nI rt) :: .int (nI sp) :: .int (nI pd) :: .int (nI md) :: .int (nI ex) :: .int (nI ch) :: .int (nI sz_) :: .int (nI bd) :: .int (nI bn) :: .int (nI pr) :: .int (nI cr) :: [])))]) (0) (0) := by
  refine ct_body (cc := cX7_bandsOf) (nL := 2) (ret := (some .int)) (by decide) rfl (Nat.le_of_ble_eq_true rfl) ?_
  intro p e s m below meth c ls C hin hsz hB hw hl
  obtain ⟨hx, hb, hml, hown, hts, hK, hA, hr, hlk⟩ := id C
  have lk156 := hts (.fieldLink RX7 156 "SoundBenchModel" "sampling" "I") (by decide +kernel)
  have in_X7 : ∀ w ∈ wsX70, w ∈ wsX7_bandsOf := by unfold wsX7_bandsOf; intro w h; simp only [List.mem_cons, List.mem_append, h, or_true, true_or]
  have hl : lv_has ls 2 [(0, .ref mo), (1, .int (nI k_))] := hl
  have hw : Wd g (va_A [(mo, .inr (7, (.int (nI th) :: .ref (a 1) :: .int (nI ln) :: .int (nI pl) :: .ref (a 4) :: .int (nI nf) :: .int (nI dec) :: .ref (a 7) :: .ref (a 8) :: .ref (a 9) :: .int (nI ho) :: .int (nI oc) :: .int (nI orw) :: .ref (a 13) :: .ref (a 14) :: .ref (a 15) :: .ref (a 16) :: .ref (a 17) :: .ref (a 18) :: .ref (a 19) :: .ref (a 20) :: .ref (a 21) :: .ref (a 22) :: .ref (a 23) :: .int (nI fi) :: .int (nI at_) :: .int (nI en) :: .int (nI ov) :: .int (nI ly) :: .int (nI rt) :: .int (nI sp) :: .int (nI pd) :: .int (nI md) :: .int (nI ex) :: .int (nI ch) :: .int (nI sz_) :: .int (nI bd) :: .int (nI bn) :: .int (nI pr) :: .int (nI cr) :: [])))] sz) s.heap [(mo, .inr (7, (.int (nI th) :: .ref (a 1) :: .int (nI ln) :: .int (nI pl) :: .ref (a 4) :: .int (nI nf) :: .int (nI dec) :: .ref (a 7) :: .ref (a 8) :: .ref (a 9) :: .int (nI ho) :: .int (nI oc) :: .int (nI orw) :: .ref (a 13) :: .ref (a 14) :: .ref (a 15) :: .ref (a 16) :: .ref (a 17) :: .ref (a 18) :: .ref (a 19) :: .ref (a 20) :: .ref (a 21) :: .ref (a 22) :: .ref (a 23) :: .int (nI fi) :: .int (nI at_) :: .int (nI en) :: .int (nI ov) :: .int (nI ly) :: .int (nI rt) :: .int (nI sp) :: .int (nI pd) :: .int (nI md) :: .int (nI ex) :: .int (nI ch) :: .int (nI sz_) :: .int (nI bd) :: .int (nI bn) :: .int (nI pr) :: .int (nI cr) :: [])))] s.heap [] := hw
  refine lv_iload_n hx hb dX7_bandsOf_0 rfl (lv_at hl 1 rfl) ?_
  refine lv_bipush (v := nI 56) hx hb dX7_bandsOf_1 (by decide) ?_
  refine n_clt (tgt := 24) hx hb (by omega) (by omega) dX7_bandsOf_3 (by decide) (fun c_1 => ?_) (fun c_1 => ?_)
  · skip
    refine lv_iload_n hx hb dX7_bandsOf_24 rfl (lv_at hl 1 rfl) ?_
    refine lv_bipush (v := nI 96) hx hb dX7_bandsOf_25 (by decide) ?_
    refine n_clt (tgt := 35) hx hb (by omega) (by omega) dX7_bandsOf_27 (by decide) (fun c_2 => ?_) (fun c_2 => ?_)
    · skip
      refine lv_aload_n hx hb dX7_bandsOf_35 rfl (lv_at hl 0 rfl) ?_
      refine r_get C hw in_X7 0 rfl rfl 30 (by decide) lk156 rfl dX7_bandsOf_36 ?_
      refine lv_sipush (v := nI 32000) hx hb dX7_bandsOf_39 (by decide) ?_
      refine n_ceq (tgt := 50) hx hb (by omega) (by omega) dX7_bandsOf_42 (by decide) (fun c_3 => ?_) (fun c_3 => ?_)
      · skip
        refine lv_bipush (v := nI 12) hx hb dX7_bandsOf_50 (by decide) ?_
        exact r_iret C hw (Nat.le_refl _) (Nat.le_refl _) (⟨congrArg nI (by unfold twoB; (repeat' split) <;> omega), rfl⟩) dX7_bandsOf_52
      · skip
        refine lv_bipush (v := nI 8) hx hb dX7_bandsOf_45 (by decide) ?_
        refine lv_goto (tgt := 52) hx hb dX7_bandsOf_47 (by decide) ?_
        exact r_iret C hw (Nat.le_refl _) (Nat.le_refl _) (⟨congrArg nI (by unfold twoB; (repeat' split) <;> omega), rfl⟩) dX7_bandsOf_52
    · skip
      refine lv_bipush (v := nI 30) hx hb dX7_bandsOf_30 (by decide) ?_
      refine lv_goto (tgt := 52) hx hb dX7_bandsOf_32 (by decide) ?_
      exact r_iret C hw (Nat.le_refl _) (Nat.le_refl _) (⟨congrArg nI (by unfold twoB; (repeat' split) <;> omega), rfl⟩) dX7_bandsOf_52
  · skip
    refine lv_iload_n hx hb dX7_bandsOf_6 rfl (lv_at hl 1 rfl) ?_
    refine lv_bipush (v := nI 80) hx hb dX7_bandsOf_7 (by decide) ?_
    refine n_cle (tgt := 21) hx hb (by omega) (by omega) dX7_bandsOf_9 (by decide) (fun c_4 => ?_) (fun c_4 => ?_)
    · skip
      refine lv_bipush (v := nI 27) hx hb dX7_bandsOf_21 (by decide) ?_
      exact r_iret C hw (Nat.le_refl _) (Nat.le_refl _) (⟨congrArg nI (by unfold twoB; (repeat' split) <;> omega), rfl⟩) dX7_bandsOf_23
    · skip
      refine lv_aload_n hx hb dX7_bandsOf_12 rfl (lv_at hl 0 rfl) ?_
      refine r_get C hw in_X7 0 rfl rfl 30 (by decide) lk156 rfl dX7_bandsOf_13 ?_
      refine lv_ldc (v := nI 48000) hx hb hown (hts (.constant RX7 155 (48000)) (by decide +kernel)) dX7_bandsOf_16 ?_
      refine n_cne (tgt := 24) hx hb (by omega) (by omega) dX7_bandsOf_18 (by decide) (fun c_5 => ?_) (fun c_5 => ?_)
      · skip
        refine lv_iload_n hx hb dX7_bandsOf_24 rfl (lv_at hl 1 rfl) ?_
        refine lv_bipush (v := nI 96) hx hb dX7_bandsOf_25 (by decide) ?_
        refine n_clt (tgt := 35) hx hb (by omega) (by omega) dX7_bandsOf_27 (by decide) (fun c_6 => ?_) (fun c_6 => ?_)
        · skip
          refine lv_aload_n hx hb dX7_bandsOf_35 rfl (lv_at hl 0 rfl) ?_
          refine r_get C hw in_X7 0 rfl rfl 30 (by decide) lk156 rfl dX7_bandsOf_36 ?_
          refine lv_sipush (v := nI 32000) hx hb dX7_bandsOf_39 (by decide) ?_
          refine n_ceq (tgt := 50) hx hb (by omega) (by omega) dX7_bandsOf_42 (by decide) (fun c_7 => ?_) (fun c_7 => ?_)
          · skip
            refine lv_bipush (v := nI 12) hx hb dX7_bandsOf_50 (by decide) ?_
            exact r_iret C hw (Nat.le_refl _) (Nat.le_refl _) (⟨congrArg nI (by unfold twoB; (repeat' split) <;> omega), rfl⟩) dX7_bandsOf_52
          · skip
            refine lv_bipush (v := nI 8) hx hb dX7_bandsOf_45 (by decide) ?_
            refine lv_goto (tgt := 52) hx hb dX7_bandsOf_47 (by decide) ?_
            exact r_iret C hw (Nat.le_refl _) (Nat.le_refl _) (⟨congrArg nI (by unfold twoB; (repeat' split) <;> omega), rfl⟩) dX7_bandsOf_52
        · skip
          refine lv_bipush (v := nI 30) hx hb dX7_bandsOf_30 (by decide) ?_
          refine lv_goto (tgt := 52) hx hb dX7_bandsOf_32 (by decide) ?_
          exact r_iret C hw (Nat.le_refl _) (Nat.le_refl _) (⟨congrArg nI (by unfold twoB; (repeat' split) <;> omega), rfl⟩) dX7_bandsOf_52
      · skip
        refine lv_bipush (v := nI 27) hx hb dX7_bandsOf_21 (by decide) ?_
        exact r_iret C hw (Nat.le_refl _) (Nat.le_refl _) (⟨congrArg nI (by unfold twoB; (repeat' split) <;> omega), rfl⟩) dX7_bandsOf_23
abbrev rm_c_isFirst : Room := { frames := 0, cells := 0, slots := 0, locals := 0 }
set_option maxHeartbeats 4000000 in
set_option maxRecDepth 100000 in
theorem c_isFirst (l : Launch) (g : GT) (sz : Nat) (mo : Nat) (a : Nat → Nat) (th ln pl nf dec ho oc orw fi at_ en ov ly rt sp pd md ex ch sz_ bd bn pr cr : Nat) (h1 : bn ≤ 32) : CtI l g yX7_isFirstTable wsX7_isFirstTable rm_c_isFirst [.ref mo] [(mo, .inr (7, (.int (nI th) :: .ref (a 1) :: .int (nI ln) :: .int (nI pl) :: .ref (a 4) :: .int (nI nf) :: .int (nI dec) :: .ref (a 7) :: .ref (a 8) :: .ref (a 9) :: .int (nI ho) :: .int (nI oc) :: .int (nI orw) :: .ref (a 13) :: .ref (a 14) :: .ref (a 15) :: .ref (a 16) :: .ref (a 17) :: .ref (a 18) :: .ref (a 19) :: .ref (a 20) :: .ref (a 21) :: .ref (a 22) :: .ref (a 23) :: .int (nI fi) :: .int (nI at_) :: .int (nI en) :: .int (nI ov) :: .int (nI ly) :: .int (nI rt) :: .int (nI sp) :: .int (nI pd) :: .int (nI md) :: .int (nI ex) :: .int (nI ch) :: .int (nI sz_) :: .int (nI bd) :: .int (nI bn) :: .int (nI pr) :: .int (nI cr) :: [])))] sz (fun _ => True) (fun rr u => rr = nI (fT bn) ∧ u = [(mo, .inr (7, (.int (nI th) :: .ref (a 1) :: .int (nI ln) :: .int (nI pl) :: .ref (a 4) :: .int (nI nf) :: .int (nI dec) :: .ref (a 7) :: .ref (a 8) :: .ref (a 9) :: .int (nI ho) :: .int (nI oc) :: .int (nI orw) :: .ref (a 13) :: .ref (a 14) :: .ref (a 15) :: .ref (a 16) :: .ref (a 17) :: .ref (a 18) :: .ref (a 19) :: .ref (a 20) :: .ref (a 21) :: .ref (a 22) :: .ref (a 23) :: .int (nI fi) :: .int (nI at_) :: .int (nI en) :: .int (nI ov) :: .int (nI ly) :: .int (nI rt) :: .int (nI sp) :: .int (nI pd) :: .int (nI md) :: .int (nI ex) :: .int (nI ch) :: .int (nI sz_) :: .int (nI bd) :: .int (nI bn) :: .int (nI pr) :: .int (nI cr) :: [])))]) (0) (0) := by
  refine ct_body (cc := cX7_isFirstTable) (nL := 1) (ret := (some .boolean)) (by decide) rfl (Nat.le_of_ble_eq_true rfl) ?_
  intro p e s m below meth c ls C hin hsz hB hw hl
  obtain ⟨hx, hb, hml, hown, hts, hK, hA, hr, hlk⟩ := id C
  have lk169 := hts (.fieldLink RX7 169 "SoundBenchModel" "bands" "I") (by decide +kernel)
  have in_X7 : ∀ w ∈ wsX70, w ∈ wsX7_isFirstTable := by unfold wsX7_isFirstTable; intro w h; simp only [List.mem_cons, List.mem_append, h, or_true, true_or]
  have hl : lv_has ls 1 [(0, .ref mo)] := hl
  have hw : Wd g (va_A [(mo, .inr (7, (.int (nI th) :: .ref (a 1) :: .int (nI ln) :: .int (nI pl) :: .ref (a 4) :: .int (nI nf) :: .int (nI dec) :: .ref (a 7) :: .ref (a 8) :: .ref (a 9) :: .int (nI ho) :: .int (nI oc) :: .int (nI orw) :: .ref (a 13) :: .ref (a 14) :: .ref (a 15) :: .ref (a 16) :: .ref (a 17) :: .ref (a 18) :: .ref (a 19) :: .ref (a 20) :: .ref (a 21) :: .ref (a 22) :: .ref (a 23) :: .int (nI fi) :: .int (nI at_) :: .int (nI en) :: .int (nI ov) :: .int (nI ly) :: .int (nI rt) :: .int (nI sp) :: .int (nI pd) :: .int (nI md) :: .int (nI ex) :: .int (nI ch) :: .int (nI sz_) :: .int (nI bd) :: .int (nI bn) :: .int (nI pr) :: .int (nI cr) :: [])))] sz) s.heap [(mo, .inr (7, (.int (nI th) :: .ref (a 1) :: .int (nI ln) :: .int (nI pl) :: .ref (a 4) :: .int (nI nf) :: .int (nI dec) :: .ref (a 7) :: .ref (a 8) :: .ref (a 9) :: .int (nI ho) :: .int (nI oc) :: .int (nI orw) :: .ref (a 13) :: .ref (a 14) :: .ref (a 15) :: .ref (a 16) :: .ref (a 17) :: .ref (a 18) :: .ref (a 19) :: .ref (a 20) :: .ref (a 21) :: .ref (a 22) :: .ref (a 23) :: .int (nI fi) :: .int (nI at_) :: .int (nI en) :: .int (nI ov) :: .int (nI ly) :: .int (nI rt) :: .int (nI sp) :: .int (nI pd) :: .int (nI md) :: .int (nI ex) :: .int (nI ch) :: .int (nI sz_) :: .int (nI bd) :: .int (nI bn) :: .int (nI pr) :: .int (nI cr) :: [])))] s.heap [] := hw
  refine lv_aload_n hx hb dX7_isFirstTable_0 rfl (lv_at hl 0 rfl) ?_
  refine r_get C hw in_X7 0 rfl rfl 37 (by decide) lk169 rfl dX7_isFirstTable_1 ?_
  refine lv_bipush (v := nI 12) hx hb dX7_isFirstTable_4 (by decide) ?_
  refine n_cle (tgt := 13) hx hb (by omega) (by omega) dX7_isFirstTable_6 (by decide) (fun c_1 => ?_) (fun c_1 => ?_)
  · skip
    refine lv_iconst (v := nI 0) hx hb dX7_isFirstTable_13 (by decide) ?_
    exact r_zret C hw (by decide) (Nat.le_refl _) (Nat.le_refl _) (⟨congrArg nI (by unfold fT; (repeat' split) <;> omega), rfl⟩) dX7_isFirstTable_14
  · skip
    refine lv_iconst (v := nI 1) hx hb dX7_isFirstTable_9 (by decide) ?_
    refine lv_goto (tgt := 14) hx hb dX7_isFirstTable_10 (by decide) ?_
    exact r_zret C hw (by decide) (Nat.le_refl _) (Nat.le_refl _) (⟨congrArg nI (by unfold fT; (repeat' split) <;> omega), rfl⟩) dX7_isFirstTable_14
abbrev rm_c_rallocBits : Room := { frames := 1, cells := 0, slots := 0, locals := 20 }
set_option maxHeartbeats 4000000 in
set_option maxRecDepth 100000 in
theorem c_rallocBits (l : Launch) (g : GT) (sz : Nat) (mo : Nat) (a : Nat → Nat) (th ln pl nf dec ho oc orw fi at_ en ov ly rt sp pd md ex ch sz_ bd bn pr cr : Nat) (b : Nat) (h1 : bn ≤ 32) (h2 : b < 32) (h3 : ly ≤ 2) : CtI l g yX7_allocationBits wsX7_allocationBits rm_c_rallocBits [.ref mo, .int (nI b)] [(mo, .inr (7, (.int (nI th) :: .ref (a 1) :: .int (nI ln) :: .int (nI pl) :: .ref (a 4) :: .int (nI nf) :: .int (nI dec) :: .ref (a 7) :: .ref (a 8) :: .ref (a 9) :: .int (nI ho) :: .int (nI oc) :: .int (nI orw) :: .ref (a 13) :: .ref (a 14) :: .ref (a 15) :: .ref (a 16) :: .ref (a 17) :: .ref (a 18) :: .ref (a 19) :: .ref (a 20) :: .ref (a 21) :: .ref (a 22) :: .ref (a 23) :: .int (nI fi) :: .int (nI at_) :: .int (nI en) :: .int (nI ov) :: .int (nI ly) :: .int (nI rt) :: .int (nI sp) :: .int (nI pd) :: .int (nI md) :: .int (nI ex) :: .int (nI ch) :: .int (nI sz_) :: .int (nI bd) :: .int (nI bn) :: .int (nI pr) :: .int (nI cr) :: [])))] sz (fun _ => True) (fun rr u => rr = nI (aBits ly (fT bn) b) ∧ u = [(mo, .inr (7, (.int (nI th) :: .ref (a 1) :: .int (nI ln) :: .int (nI pl) :: .ref (a 4) :: .int (nI nf) :: .int (nI dec) :: .ref (a 7) :: .ref (a 8) :: .ref (a 9) :: .int (nI ho) :: .int (nI oc) :: .int (nI orw) :: .ref (a 13) :: .ref (a 14) :: .ref (a 15) :: .ref (a 16) :: .ref (a 17) :: .ref (a 18) :: .ref (a 19) :: .ref (a 20) :: .ref (a 21) :: .ref (a 22) :: .ref (a 23) :: .int (nI fi) :: .int (nI at_) :: .int (nI en) :: .int (nI ov) :: .int (nI ly) :: .int (nI rt) :: .int (nI sp) :: .int (nI pd) :: .int (nI md) :: .int (nI ex) :: .int (nI ch) :: .int (nI sz_) :: .int (nI bd) :: .int (nI bn) :: .int (nI pr) :: .int (nI cr) :: [])))]) (0) (0) := by
  refine ct_body (cc := cX7_allocationBits) (nL := 2) (ret := (some .int)) (by decide) rfl (Nat.le_of_ble_eq_true rfl) ?_
  intro p e s m below meth c ls C hin hsz hB hw hl
  obtain ⟨hx, hb, hml, hown, hts, hK, hA, hr, hlk⟩ := id C
  have lk148 := hts (.fieldLink RX7 148 "SoundBenchModel" "layer" "I") (by decide +kernel)
  have in_X7 : ∀ w ∈ wsX70, w ∈ wsX7_allocationBits := by unfold wsX7_allocationBits; intro w h; simp only [List.mem_cons, List.mem_append, h, or_true, true_or]
  have hl : lv_has ls 2 [(0, .ref mo), (1, .int (nI b))] := hl
  have hw : Wd g (va_A [(mo, .inr (7, (.int (nI th) :: .ref (a 1) :: .int (nI ln) :: .int (nI pl) :: .ref (a 4) :: .int (nI nf) :: .int (nI dec) :: .ref (a 7) :: .ref (a 8) :: .ref (a 9) :: .int (nI ho) :: .int (nI oc) :: .int (nI orw) :: .ref (a 13) :: .ref (a 14) :: .ref (a 15) :: .ref (a 16) :: .ref (a 17) :: .ref (a 18) :: .ref (a 19) :: .ref (a 20) :: .ref (a 21) :: .ref (a 22) :: .ref (a 23) :: .int (nI fi) :: .int (nI at_) :: .int (nI en) :: .int (nI ov) :: .int (nI ly) :: .int (nI rt) :: .int (nI sp) :: .int (nI pd) :: .int (nI md) :: .int (nI ex) :: .int (nI ch) :: .int (nI sz_) :: .int (nI bd) :: .int (nI bn) :: .int (nI pr) :: .int (nI cr) :: [])))] sz) s.heap [(mo, .inr (7, (.int (nI th) :: .ref (a 1) :: .int (nI ln) :: .int (nI pl) :: .ref (a 4) :: .int (nI nf) :: .int (nI dec) :: .ref (a 7) :: .ref (a 8) :: .ref (a 9) :: .int (nI ho) :: .int (nI oc) :: .int (nI orw) :: .ref (a 13) :: .ref (a 14) :: .ref (a 15) :: .ref (a 16) :: .ref (a 17) :: .ref (a 18) :: .ref (a 19) :: .ref (a 20) :: .ref (a 21) :: .ref (a 22) :: .ref (a 23) :: .int (nI fi) :: .int (nI at_) :: .int (nI en) :: .int (nI ov) :: .int (nI ly) :: .int (nI rt) :: .int (nI sp) :: .int (nI pd) :: .int (nI md) :: .int (nI ex) :: .int (nI ch) :: .int (nI sz_) :: .int (nI bd) :: .int (nI bn) :: .int (nI pr) :: .int (nI cr) :: [])))] s.heap [] := hw
  have h9 := fT_le bn
  refine lv_aload_n hx hb dX7_allocationBits_0 rfl (lv_at hl 0 rfl) ?_
  refine r_get C hw in_X7 0 rfl rfl 28 (by decide) lk148 rfl dX7_allocationBits_1 ?_
  refine lv_iconst (v := nI 1) hx hb dX7_allocationBits_4 (by decide) ?_
  refine n_cne (tgt := 10) hx hb (by omega) (by omega) dX7_allocationBits_5 (by decide) (fun c_1 => ?_) (fun c_1 => ?_)
  · skip
    refine lv_aload_n hx hb dX7_allocationBits_10 rfl (lv_at hl 0 rfl) ?_
    refine k_Vi (As := []) (rest := []) (wr := []) C hw (c_isFirst l g _ mo a th ln pl nf dec ho oc orw fi at_ en ov ly rt sp pd md ex ch sz_ bd bn pr cr (by omega)) (cwV 0 hts gX7_allocationBits_X7_isFirstTable rfl rfl rfl (by decide +kernel) ⟨Nat.le_of_ble_eq_true rfl, Nat.le_of_ble_eq_true rfl⟩) bl_T (fun _ _ _ => trivial) [0] [] (by decide) rfl rfl (by decide) (by decide) 0 rfl rfl rfl hl.1 rfl (Nat.le_of_ble_eq_true rfl) dX7_allocationBits_11 ⟨Nat.le_of_ble_eq_true rfl, Nat.le_of_ble_eq_true rfl⟩ (fun r_2 u H locs hp hw => ?_)
    obtain ⟨rfl, rfl⟩ := hp
    have hw := Wd.sub (ws' := [(mo, .inr (7, (.int (nI th) :: .ref (a 1) :: .int (nI ln) :: .int (nI pl) :: .ref (a 4) :: .int (nI nf) :: .int (nI dec) :: .ref (a 7) :: .ref (a 8) :: .ref (a 9) :: .int (nI ho) :: .int (nI oc) :: .int (nI orw) :: .ref (a 13) :: .ref (a 14) :: .ref (a 15) :: .ref (a 16) :: .ref (a 17) :: .ref (a 18) :: .ref (a 19) :: .ref (a 20) :: .ref (a 21) :: .ref (a 22) :: .ref (a 23) :: .int (nI fi) :: .int (nI at_) :: .int (nI en) :: .int (nI ov) :: .int (nI ly) :: .int (nI rt) :: .int (nI sp) :: .int (nI pd) :: .int (nI md) :: .int (nI ex) :: .int (nI ch) :: .int (nI sz_) :: .int (nI bd) :: .int (nI bn) :: .int (nI pr) :: .int (nI cr) :: [])))]) hw [0] (by decide) rfl
    refine n_eq0 (tgt := 39) hx hb (by omega) dX7_allocationBits_14 (by decide) (fun c_3 => ?_) (fun c_3 => ?_)
    · skip
      refine lv_iload_n hx hb dX7_allocationBits_39 rfl (lv_at hl 1 rfl) ?_
      refine lv_iconst (v := nI 2) hx hb dX7_allocationBits_40 (by decide) ?_
      refine n_cge (tgt := 48) hx hb (by omega) (by omega) dX7_allocationBits_41 (by decide) (fun c_4 => ?_) (fun c_4 => ?_)
      · skip
        refine lv_iconst (v := nI 3) hx hb dX7_allocationBits_48 (by decide) ?_
        exact r_iret C hw (Nat.le_refl _) (Nat.le_refl _) (⟨congrArg nI (by unfold aBits; (repeat' split) <;> omega), rfl⟩) dX7_allocationBits_49
      · skip
        refine lv_iconst (v := nI 4) hx hb dX7_allocationBits_44 (by decide) ?_
        refine lv_goto (tgt := 49) hx hb dX7_allocationBits_45 (by decide) ?_
        exact r_iret C hw (Nat.le_refl _) (Nat.le_refl _) (⟨congrArg nI (by unfold aBits; (repeat' split) <;> omega), rfl⟩) dX7_allocationBits_49
    · skip
      refine lv_iload_n hx hb dX7_allocationBits_17 rfl (lv_at hl 1 rfl) ?_
      refine lv_bipush (v := nI 11) hx hb dX7_allocationBits_18 (by decide) ?_
      refine n_cge (tgt := 27) hx hb (by omega) (by omega) dX7_allocationBits_20 (by decide) (fun c_5 => ?_) (fun c_5 => ?_)
      · skip
        refine lv_iload_n hx hb dX7_allocationBits_27 rfl (lv_at hl 1 rfl) ?_
        refine lv_bipush (v := nI 23) hx hb dX7_allocationBits_28 (by decide) ?_
        refine n_cge (tgt := 37) hx hb (by omega) (by omega) dX7_allocationBits_30 (by decide) (fun c_6 => ?_) (fun c_6 => ?_)
        · skip
          refine lv_iconst (v := nI 2) hx hb dX7_allocationBits_37 (by decide) ?_
          exact r_iret C hw (Nat.le_refl _) (Nat.le_refl _) (⟨congrArg nI (by unfold aBits; (repeat' split) <;> omega), rfl⟩) dX7_allocationBits_38
        · skip
          refine lv_iconst (v := nI 3) hx hb dX7_allocationBits_33 (by decide) ?_
          refine lv_goto (tgt := 38) hx hb dX7_allocationBits_34 (by decide) ?_
          exact r_iret C hw (Nat.le_refl _) (Nat.le_refl _) (⟨congrArg nI (by unfold aBits; (repeat' split) <;> omega), rfl⟩) dX7_allocationBits_38
      · skip
        refine lv_iconst (v := nI 4) hx hb dX7_allocationBits_23 (by decide) ?_
        refine lv_goto (tgt := 38) hx hb dX7_allocationBits_24 (by decide) ?_
        exact r_iret C hw (Nat.le_refl _) (Nat.le_refl _) (⟨congrArg nI (by unfold aBits; (repeat' split) <;> omega), rfl⟩) dX7_allocationBits_38
  · skip
    refine lv_iconst (v := nI 4) hx hb dX7_allocationBits_8 (by decide) ?_
    exact r_iret C hw (Nat.le_refl _) (Nat.le_refl _) (⟨congrArg nI (by unfold aBits; (repeat' split) <;> omega), rfl⟩) dX7_allocationBits_9
abbrev rm_c_classOf : Room := { frames := 1, cells := 0, slots := 0, locals := 20 }
set_option maxHeartbeats 4000000 in
set_option maxRecDepth 100000 in
theorem c_classOf (l : Launch) (g : GT) (sz : Nat) (mo : Nat) (a : Nat → Nat) (th ln pl nf dec ho oc orw fi at_ en ov ly rt sp pd md ex ch sz_ bd bn pr cr : Nat) (b al : Nat) (h1 : bn ≤ 32) (h2 : b < 32) (h4 : 1 ≤ al) (h5 : al < 2 ^ aBits 2 (fT bn) b) : CtI l g yX7_classOf wsX7_classOf rm_c_classOf [.ref mo, .int (nI b), .int (nI al)] [(mo, .inr (7, (.int (nI th) :: .ref (a 1) :: .int (nI ln) :: .int (nI pl) :: .ref (a 4) :: .int (nI nf) :: .int (nI dec) :: .ref (a 7) :: .ref (a 8) :: .ref (a 9) :: .int (nI ho) :: .int (nI oc) :: .int (nI orw) :: .ref (a 13) :: .ref (a 14) :: .ref (a 15) :: .ref (a 16) :: .ref (a 17) :: .ref (a 18) :: .ref (a 19) :: .ref (a 20) :: .ref (a 21) :: .ref (a 22) :: .ref (a 23) :: .int (nI fi) :: .int (nI at_) :: .int (nI en) :: .int (nI ov) :: .int (nI ly) :: .int (nI rt) :: .int (nI sp) :: .int (nI pd) :: .int (nI md) :: .int (nI ex) :: .int (nI ch) :: .int (nI sz_) :: .int (nI bd) :: .int (nI bn) :: .int (nI pr) :: .int (nI cr) :: [])))] sz (fun _ => True) (fun rr u => rr = nI (tN (stepT (fT bn) b) (al - 1)) ∧ u = [(mo, .inr (7, (.int (nI th) :: .ref (a 1) :: .int (nI ln) :: .int (nI pl) :: .ref (a 4) :: .int (nI nf) :: .int (nI dec) :: .ref (a 7) :: .ref (a 8) :: .ref (a 9) :: .int (nI ho) :: .int (nI oc) :: .int (nI orw) :: .ref (a 13) :: .ref (a 14) :: .ref (a 15) :: .ref (a 16) :: .ref (a 17) :: .ref (a 18) :: .ref (a 19) :: .ref (a 20) :: .ref (a 21) :: .ref (a 22) :: .ref (a 23) :: .int (nI fi) :: .int (nI at_) :: .int (nI en) :: .int (nI ov) :: .int (nI ly) :: .int (nI rt) :: .int (nI sp) :: .int (nI pd) :: .int (nI md) :: .int (nI ex) :: .int (nI ch) :: .int (nI sz_) :: .int (nI bd) :: .int (nI bn) :: .int (nI pr) :: .int (nI cr) :: [])))]) (0) (0) := by
  refine ct_body (cc := cX7_classOf) (nL := 3) (ret := (some .int)) (by decide) rfl (Nat.le_of_ble_eq_true rfl) ?_
  intro p e s m below meth c ls C hin hsz hB hw hl
  obtain ⟨hx, hb, hml, hown, hts, hK, hA, hr, hlk⟩ := id C
  have hl : lv_has ls 3 [(0, .ref mo), (1, .int (nI b)), (2, .int (nI al))] := hl
  have hw : Wd g (va_A [(mo, .inr (7, (.int (nI th) :: .ref (a 1) :: .int (nI ln) :: .int (nI pl) :: .ref (a 4) :: .int (nI nf) :: .int (nI dec) :: .ref (a 7) :: .ref (a 8) :: .ref (a 9) :: .int (nI ho) :: .int (nI oc) :: .int (nI orw) :: .ref (a 13) :: .ref (a 14) :: .ref (a 15) :: .ref (a 16) :: .ref (a 17) :: .ref (a 18) :: .ref (a 19) :: .ref (a 20) :: .ref (a 21) :: .ref (a 22) :: .ref (a 23) :: .int (nI fi) :: .int (nI at_) :: .int (nI en) :: .int (nI ov) :: .int (nI ly) :: .int (nI rt) :: .int (nI sp) :: .int (nI pd) :: .int (nI md) :: .int (nI ex) :: .int (nI ch) :: .int (nI sz_) :: .int (nI bd) :: .int (nI bn) :: .int (nI pr) :: .int (nI cr) :: [])))] sz) s.heap [(mo, .inr (7, (.int (nI th) :: .ref (a 1) :: .int (nI ln) :: .int (nI pl) :: .ref (a 4) :: .int (nI nf) :: .int (nI dec) :: .ref (a 7) :: .ref (a 8) :: .ref (a 9) :: .int (nI ho) :: .int (nI oc) :: .int (nI orw) :: .ref (a 13) :: .ref (a 14) :: .ref (a 15) :: .ref (a 16) :: .ref (a 17) :: .ref (a 18) :: .ref (a 19) :: .ref (a 20) :: .ref (a 21) :: .ref (a 22) :: .ref (a 23) :: .int (nI fi) :: .int (nI at_) :: .int (nI en) :: .int (nI ov) :: .int (nI ly) :: .int (nI rt) :: .int (nI sp) :: .int (nI pd) :: .int (nI md) :: .int (nI ex) :: .int (nI ch) :: .int (nI sz_) :: .int (nI bd) :: .int (nI bn) :: .int (nI pr) :: .int (nI cr) :: [])))] s.heap [] := hw
  have h9 := fT_le bn
  have h8 := al16 h5
  refine lv_aload_n hx hb dX7_classOf_0 rfl (lv_at hl 0 rfl) ?_
  refine k_Vi (As := []) (rest := []) (wr := []) C hw (c_isFirst l g _ mo a th ln pl nf dec ho oc orw fi at_ en ov ly rt sp pd md ex ch sz_ bd bn pr cr (by omega)) (cwV 0 hts gX7_classOf_X7_isFirstTable rfl rfl rfl (by decide +kernel) ⟨Nat.le_of_ble_eq_true rfl, Nat.le_of_ble_eq_true rfl⟩) bl_T (fun _ _ _ => trivial) [0] [] (by decide) rfl rfl (by decide) (by decide) 0 rfl rfl rfl hl.1 rfl (Nat.le_of_ble_eq_true rfl) dX7_classOf_1 ⟨Nat.le_of_ble_eq_true rfl, Nat.le_of_ble_eq_true rfl⟩ (fun r_1 u H locs hp hw => ?_)
  obtain ⟨rfl, rfl⟩ := hp
  have hw := Wd.sub (ws' := [(mo, .inr (7, (.int (nI th) :: .ref (a 1) :: .int (nI ln) :: .int (nI pl) :: .ref (a 4) :: .int (nI nf) :: .int (nI dec) :: .ref (a 7) :: .ref (a 8) :: .ref (a 9) :: .int (nI ho) :: .int (nI oc) :: .int (nI orw) :: .ref (a 13) :: .ref (a 14) :: .ref (a 15) :: .ref (a 16) :: .ref (a 17) :: .ref (a 18) :: .ref (a 19) :: .ref (a 20) :: .ref (a 21) :: .ref (a 22) :: .ref (a 23) :: .int (nI fi) :: .int (nI at_) :: .int (nI en) :: .int (nI ov) :: .int (nI ly) :: .int (nI rt) :: .int (nI sp) :: .int (nI pd) :: .int (nI md) :: .int (nI ex) :: .int (nI ch) :: .int (nI sz_) :: .int (nI bd) :: .int (nI bn) :: .int (nI pr) :: .int (nI cr) :: [])))]) hw [0] (by decide) rfl
  refine n_ne0 (tgt := 20) hx hb (by omega) dX7_classOf_4 (by decide) (fun c_2 => ?_) (fun c_2 => ?_)
  · skip
    refine lv_iload_n hx hb dX7_classOf_20 rfl (lv_at hl 1 rfl) ?_
    refine lv_iconst (v := nI 3) hx hb dX7_classOf_21 (by decide) ?_
    refine n_cge (tgt := 47) hx hb (by omega) (by omega) dX7_classOf_22 (by decide) (fun c_3 => ?_) (fun c_3 => ?_)
    · skip
      refine lv_iload_n hx hb dX7_classOf_47 rfl (lv_at hl 1 rfl) ?_
      refine lv_bipush (v := nI 11) hx hb dX7_classOf_48 (by decide) ?_
      refine n_cge (tgt := 68) hx hb (by omega) (by omega) dX7_classOf_50 (by decide) (fun c_4 => ?_) (fun c_4 => ?_)
      · skip
        refine lv_iload_n hx hb dX7_classOf_68 rfl (lv_at hl 1 rfl) ?_
        refine lv_bipush (v := nI 23) hx hb dX7_classOf_69 (by decide) ?_
        refine n_cge (tgt := 91) hx hb (by omega) (by omega) dX7_classOf_71 (by decide) (fun c_5 => ?_) (fun c_5 => ?_)
        · skip
          refine lv_iload_n hx hb dX7_classOf_91 rfl (lv_at hl 2 rfl) ?_
          refine lv_iconst (v := nI 3) hx hb dX7_classOf_92 (by decide) ?_
          refine n_cne (tgt := 101) hx hb (by omega) (by omega) dX7_classOf_93 (by decide) (fun c_6 => ?_) (fun c_6 => ?_)
          · skip
            refine lv_iload_n hx hb dX7_classOf_101 rfl (lv_at hl 2 rfl) ?_
            refine lv_iconst (v := nI 1) hx hb dX7_classOf_102 (by decide) ?_
            refine n_sub hx hb dX7_classOf_103 (by omega) ?_
            exact r_iret C hw (Nat.le_refl _) (Nat.le_refl _) (⟨congrArg nI (by rw [← cls_ok h4 h5]; unfold clsR; (repeat' split) <;> omega), rfl⟩) dX7_classOf_104
          · skip
            refine lv_bipush (v := nI 16) hx hb dX7_classOf_96 (by decide) ?_
            refine lv_goto (tgt := 104) hx hb dX7_classOf_98 (by decide) ?_
            exact r_iret C hw (Nat.le_refl _) (Nat.le_refl _) (⟨congrArg nI (by rw [← cls_ok h4 h5]; unfold clsR; (repeat' split) <;> omega), rfl⟩) dX7_classOf_104
        · skip
          refine lv_iload_n hx hb dX7_classOf_74 rfl (lv_at hl 2 rfl) ?_
          refine lv_bipush (v := nI 7) hx hb dX7_classOf_75 (by decide) ?_
          refine n_cne (tgt := 85) hx hb (by omega) (by omega) dX7_classOf_77 (by decide) (fun c_7 => ?_) (fun c_7 => ?_)
          · skip
            refine lv_iload_n hx hb dX7_classOf_85 rfl (lv_at hl 2 rfl) ?_
            refine lv_iconst (v := nI 1) hx hb dX7_classOf_86 (by decide) ?_
            refine n_sub hx hb dX7_classOf_87 (by omega) ?_
            refine lv_goto (tgt := 104) hx hb dX7_classOf_88 (by decide) ?_
            exact r_iret C hw (Nat.le_refl _) (Nat.le_refl _) (⟨congrArg nI (by rw [← cls_ok h4 h5]; unfold clsR; (repeat' split) <;> omega), rfl⟩) dX7_classOf_104
          · skip
            refine lv_bipush (v := nI 16) hx hb dX7_classOf_80 (by decide) ?_
            refine lv_goto (tgt := 104) hx hb dX7_classOf_82 (by decide) ?_
            exact r_iret C hw (Nat.le_refl _) (Nat.le_refl _) (⟨congrArg nI (by rw [← cls_ok h4 h5]; unfold clsR; (repeat' split) <;> omega), rfl⟩) dX7_classOf_104
      · skip
        refine lv_iload_n hx hb dX7_classOf_53 rfl (lv_at hl 2 rfl) ?_
        refine lv_bipush (v := nI 15) hx hb dX7_classOf_54 (by decide) ?_
        refine n_cne (tgt := 64) hx hb (by omega) (by omega) dX7_classOf_56 (by decide) (fun c_8 => ?_) (fun c_8 => ?_)
        · skip
          refine lv_iload_n hx hb dX7_classOf_64 rfl (lv_at hl 2 rfl) ?_
          refine lv_iconst (v := nI 1) hx hb dX7_classOf_65 (by decide) ?_
          refine n_sub hx hb dX7_classOf_66 (by omega) ?_
          exact r_iret C hw (Nat.le_refl _) (Nat.le_refl _) (⟨congrArg nI (by rw [← cls_ok h4 h5]; unfold clsR; (repeat' split) <;> omega), rfl⟩) dX7_classOf_67
        · skip
          refine lv_bipush (v := nI 16) hx hb dX7_classOf_59 (by decide) ?_
          refine lv_goto (tgt := 67) hx hb dX7_classOf_61 (by decide) ?_
          exact r_iret C hw (Nat.le_refl _) (Nat.le_refl _) (⟨congrArg nI (by rw [← cls_ok h4 h5]; unfold clsR; (repeat' split) <;> omega), rfl⟩) dX7_classOf_67
    · skip
      refine lv_iload_n hx hb dX7_classOf_25 rfl (lv_at hl 2 rfl) ?_
      refine lv_iconst (v := nI 1) hx hb dX7_classOf_26 (by decide) ?_
      refine n_cne (tgt := 34) hx hb (by omega) (by omega) dX7_classOf_27 (by decide) (fun c_9 => ?_) (fun c_9 => ?_)
      · skip
        refine lv_iload_n hx hb dX7_classOf_34 rfl (lv_at hl 2 rfl) ?_
        refine lv_iconst (v := nI 2) hx hb dX7_classOf_35 (by decide) ?_
        refine n_cne (tgt := 43) hx hb (by omega) (by omega) dX7_classOf_36 (by decide) (fun c_10 => ?_) (fun c_10 => ?_)
        · skip
          refine lv_iload_n hx hb dX7_classOf_43 rfl (lv_at hl 2 rfl) ?_
          refine lv_iconst (v := nI 1) hx hb dX7_classOf_44 (by decide) ?_
          refine n_add hx hb dX7_classOf_45 ?_
          exact r_iret C hw (Nat.le_refl _) (Nat.le_refl _) (⟨congrArg nI (by rw [← cls_ok h4 h5]; unfold clsR; (repeat' split) <;> omega), rfl⟩) dX7_classOf_46
        · skip
          refine lv_iconst (v := nI 2) hx hb dX7_classOf_39 (by decide) ?_
          refine lv_goto (tgt := 46) hx hb dX7_classOf_40 (by decide) ?_
          exact r_iret C hw (Nat.le_refl _) (Nat.le_refl _) (⟨congrArg nI (by rw [← cls_ok h4 h5]; unfold clsR; (repeat' split) <;> omega), rfl⟩) dX7_classOf_46
      · skip
        refine lv_iconst (v := nI 0) hx hb dX7_classOf_30 (by decide) ?_
        refine lv_goto (tgt := 46) hx hb dX7_classOf_31 (by decide) ?_
        exact r_iret C hw (Nat.le_refl _) (Nat.le_refl _) (⟨congrArg nI (by rw [← cls_ok h4 h5]; unfold clsR; (repeat' split) <;> omega), rfl⟩) dX7_classOf_46
  · skip
    refine lv_iload_n hx hb dX7_classOf_7 rfl (lv_at hl 2 rfl) ?_
    refine lv_iconst (v := nI 3) hx hb dX7_classOf_8 (by decide) ?_
    refine n_cge (tgt := 18) hx hb (by omega) (by omega) dX7_classOf_9 (by decide) (fun c_11 => ?_) (fun c_11 => ?_)
    · skip
      refine lv_iload_n hx hb dX7_classOf_18 rfl (lv_at hl 2 rfl) ?_
      exact r_iret C hw (Nat.le_refl _) (Nat.le_refl _) (⟨congrArg nI (by rw [← cls_ok h4 h5]; unfold clsR; (repeat' split) <;> omega), rfl⟩) dX7_classOf_19
    · skip
      refine lv_iload_n hx hb dX7_classOf_12 rfl (lv_at hl 2 rfl) ?_
      refine lv_iconst (v := nI 1) hx hb dX7_classOf_13 (by decide) ?_
      refine n_sub hx hb dX7_classOf_14 (by omega) ?_
      refine lv_goto (tgt := 19) hx hb dX7_classOf_15 (by decide) ?_
      exact r_iret C hw (Nat.le_refl _) (Nat.le_refl _) (⟨congrArg nI (by rw [← cls_ok h4 h5]; unfold clsR; (repeat' split) <;> omega), rfl⟩) dX7_classOf_19
abbrev rm_c_stepsBy : Room := { frames := 2, cells := 0, slots := 0, locals := 42 }
set_option maxHeartbeats 4000000 in
set_option maxRecDepth 100000 in
theorem c_stepsBy (l : Launch) (g : GT) (sz : Nat) (mo : Nat) (a : Nat → Nat) (th ln pl nf dec ho oc orw fi at_ en ov ly rt sp pd md ex ch sz_ bd bn pr cr : Nat) (b al : Nat) (h1 : bn ≤ 32) (h2 : b < 32) (h3 : ly = 1 ∨ ly = 2) (h4 : ly = 1 → al ≠ 15) (h5 : al < 2 ^ aBits ly (fT bn) b) : CtI l g yX7_stepsBy wsX7_stepsBy rm_c_stepsBy [.ref mo, .int (nI b), .int (nI al)] [(mo, .inr (7, (.int (nI th) :: .ref (a 1) :: .int (nI ln) :: .int (nI pl) :: .ref (a 4) :: .int (nI nf) :: .int (nI dec) :: .ref (a 7) :: .ref (a 8) :: .ref (a 9) :: .int (nI ho) :: .int (nI oc) :: .int (nI orw) :: .ref (a 13) :: .ref (a 14) :: .ref (a 15) :: .ref (a 16) :: .ref (a 17) :: .ref (a 18) :: .ref (a 19) :: .ref (a 20) :: .ref (a 21) :: .ref (a 22) :: .ref (a 23) :: .int (nI fi) :: .int (nI at_) :: .int (nI en) :: .int (nI ov) :: .int (nI ly) :: .int (nI rt) :: .int (nI sp) :: .int (nI pd) :: .int (nI md) :: .int (nI ex) :: .int (nI ch) :: .int (nI sz_) :: .int (nI bd) :: .int (nI bn) :: .int (nI pr) :: .int (nI cr) :: [])))] sz (fun _ => True) (fun rr u => rr = nI (stepL ly (fT bn) b al) ∧ u = [(mo, .inr (7, (.int (nI th) :: .ref (a 1) :: .int (nI ln) :: .int (nI pl) :: .ref (a 4) :: .int (nI nf) :: .int (nI dec) :: .ref (a 7) :: .ref (a 8) :: .ref (a 9) :: .int (nI ho) :: .int (nI oc) :: .int (nI orw) :: .ref (a 13) :: .ref (a 14) :: .ref (a 15) :: .ref (a 16) :: .ref (a 17) :: .ref (a 18) :: .ref (a 19) :: .ref (a 20) :: .ref (a 21) :: .ref (a 22) :: .ref (a 23) :: .int (nI fi) :: .int (nI at_) :: .int (nI en) :: .int (nI ov) :: .int (nI ly) :: .int (nI rt) :: .int (nI sp) :: .int (nI pd) :: .int (nI md) :: .int (nI ex) :: .int (nI ch) :: .int (nI sz_) :: .int (nI bd) :: .int (nI bn) :: .int (nI pr) :: .int (nI cr) :: [])))]) (0) (0) := by
  refine ct_body (cc := cX7_stepsBy) (nL := 4) (ret := (some .int)) (by decide) rfl (Nat.le_of_ble_eq_true rfl) ?_
  intro p e s m below meth c ls C hin hsz hB hw hl
  obtain ⟨hx, hb, hml, hown, hts, hK, hA, hr, hlk⟩ := id C
  have lk148 := hts (.fieldLink RX7 148 "SoundBenchModel" "layer" "I") (by decide +kernel)
  have in_X7 : ∀ w ∈ wsX70, w ∈ wsX7_stepsBy := by unfold wsX7_stepsBy; intro w h; simp only [List.mem_cons, List.mem_append, h, or_true, true_or]
  have hl : lv_has ls 4 [(0, .ref mo), (1, .int (nI b)), (2, .int (nI al))] := hl
  have hw : Wd g (va_A [(mo, .inr (7, (.int (nI th) :: .ref (a 1) :: .int (nI ln) :: .int (nI pl) :: .ref (a 4) :: .int (nI nf) :: .int (nI dec) :: .ref (a 7) :: .ref (a 8) :: .ref (a 9) :: .int (nI ho) :: .int (nI oc) :: .int (nI orw) :: .ref (a 13) :: .ref (a 14) :: .ref (a 15) :: .ref (a 16) :: .ref (a 17) :: .ref (a 18) :: .ref (a 19) :: .ref (a 20) :: .ref (a 21) :: .ref (a 22) :: .ref (a 23) :: .int (nI fi) :: .int (nI at_) :: .int (nI en) :: .int (nI ov) :: .int (nI ly) :: .int (nI rt) :: .int (nI sp) :: .int (nI pd) :: .int (nI md) :: .int (nI ex) :: .int (nI ch) :: .int (nI sz_) :: .int (nI bd) :: .int (nI bn) :: .int (nI pr) :: .int (nI cr) :: [])))] sz) s.heap [(mo, .inr (7, (.int (nI th) :: .ref (a 1) :: .int (nI ln) :: .int (nI pl) :: .ref (a 4) :: .int (nI nf) :: .int (nI dec) :: .ref (a 7) :: .ref (a 8) :: .ref (a 9) :: .int (nI ho) :: .int (nI oc) :: .int (nI orw) :: .ref (a 13) :: .ref (a 14) :: .ref (a 15) :: .ref (a 16) :: .ref (a 17) :: .ref (a 18) :: .ref (a 19) :: .ref (a 20) :: .ref (a 21) :: .ref (a 22) :: .ref (a 23) :: .int (nI fi) :: .int (nI at_) :: .int (nI en) :: .int (nI ov) :: .int (nI ly) :: .int (nI rt) :: .int (nI sp) :: .int (nI pd) :: .int (nI md) :: .int (nI ex) :: .int (nI ch) :: .int (nI sz_) :: .int (nI bd) :: .int (nI bn) :: .int (nI pr) :: .int (nI cr) :: [])))] s.heap [] := hw
  have h9 := fT_le bn
  have h8 := al16 h5
  have h7 := pow_al h8
  have h6 := Nat.one_le_two_pow (n := al + 1)
  have q1 := tN16 (fT bn) b (al - 1)
  have q2 := pow16 q1
  have q3 := Nat.one_le_two_pow (n := tN (stepT (fT bn) b) (al - 1))
  refine lv_iload_n hx hb dX7_stepsBy_0 rfl (lv_at hl 2 rfl) ?_
  refine n_ne0 (tgt := 6) hx hb (by omega) dX7_stepsBy_1 (by decide) (fun c_1 => ?_) (fun c_1 => ?_)
  · skip
    refine lv_aload_n hx hb dX7_stepsBy_6 rfl (lv_at hl 0 rfl) ?_
    refine r_get C hw in_X7 0 rfl rfl 28 (by decide) lk148 rfl dX7_stepsBy_7 ?_
    refine lv_iconst (v := nI 1) hx hb dX7_stepsBy_10 (by decide) ?_
    refine n_cne (tgt := 22) hx hb (by omega) (by omega) dX7_stepsBy_11 (by decide) (fun c_2 => ?_) (fun c_2 => ?_)
    · skip
      refine lv_aload_n hx hb dX7_stepsBy_22 rfl (lv_at hl 0 rfl) ?_
      refine lv_iload_n hx hb dX7_stepsBy_23 rfl (lv_at hl 1 rfl) ?_
      refine lv_iload_n hx hb dX7_stepsBy_24 rfl (lv_at hl 2 rfl) ?_
      refine k_Vi (As := [.int (nI b), .int (nI al)]) (rest := []) (wr := []) C hw (c_classOf l g _ mo a th ln pl nf dec ho oc orw fi at_ en ov ly rt sp pd md ex ch sz_ bd bn pr cr b al h1 h2 (by omega) (by rw [show ly = 2 by omega] at h5; exact h5)) (cwV 2 hts gX7_stepsBy_X7_classOf rfl rfl rfl (by decide +kernel) ⟨Nat.le_of_ble_eq_true rfl, Nat.le_of_ble_eq_true rfl⟩) bl_T (fun _ _ _ => trivial) [0] [] (by decide) rfl rfl (by decide) (by decide) 0 rfl rfl rfl hl.1 rfl (Nat.le_of_ble_eq_true rfl) dX7_stepsBy_25 ⟨Nat.le_of_ble_eq_true rfl, Nat.le_of_ble_eq_true rfl⟩ (fun r_3 u H locs hp hw => ?_)
      obtain ⟨rfl, rfl⟩ := hp
      have hw := Wd.sub (ws' := [(mo, .inr (7, (.int (nI th) :: .ref (a 1) :: .int (nI ln) :: .int (nI pl) :: .ref (a 4) :: .int (nI nf) :: .int (nI dec) :: .ref (a 7) :: .ref (a 8) :: .ref (a 9) :: .int (nI ho) :: .int (nI oc) :: .int (nI orw) :: .ref (a 13) :: .ref (a 14) :: .ref (a 15) :: .ref (a 16) :: .ref (a 17) :: .ref (a 18) :: .ref (a 19) :: .ref (a 20) :: .ref (a 21) :: .ref (a 22) :: .ref (a 23) :: .int (nI fi) :: .int (nI at_) :: .int (nI en) :: .int (nI ov) :: .int (nI ly) :: .int (nI rt) :: .int (nI sp) :: .int (nI pd) :: .int (nI md) :: .int (nI ex) :: .int (nI ch) :: .int (nI sz_) :: .int (nI bd) :: .int (nI bn) :: .int (nI pr) :: .int (nI cr) :: [])))]) hw [0] (by decide) rfl
      refine lv_istore_n (lv' := [(3, .int (nI (tN (stepT (fT bn) b) (al - 1)))), (0, .ref mo), (1, .int (nI b)), (2, .int (nI al))]) hx hb dX7_stepsBy_28 rfl hl (by decide) rfl (fun ls hl => ?_)
      refine lv_iload_n hx hb dX7_stepsBy_29 rfl (lv_at hl 0 rfl) ?_
      refine lv_iconst (v := nI 4) hx hb dX7_stepsBy_30 (by decide) ?_
      refine n_cge (tgt := 42) hx hb (by omega) (by omega) dX7_stepsBy_31 (by decide) (fun c_4 => ?_) (fun c_4 => ?_)
      · skip
        refine lv_iconst (v := nI 1) hx hb dX7_stepsBy_42 (by decide) ?_
        refine lv_iload_n hx hb dX7_stepsBy_43 rfl (lv_at hl 0 rfl) ?_
        refine n_shl (d := 2 ^ (tN (stepT (fT bn) b) (al - 1))) hx hb rfl (by omega) (by omega) dX7_stepsBy_44 ?_
        refine lv_iconst (v := nI 1) hx hb dX7_stepsBy_45 (by decide) ?_
        refine n_sub hx hb dX7_stepsBy_46 (by omega) ?_
        exact r_iret C hw (Nat.le_refl _) (Nat.le_refl _) (⟨congrArg nI (by unfold stepL stN; rw [if_neg (by omega), if_neg (by omega), if_pos (alen (by rw [show ly = 2 by omega] at h5; exact h5))]; (repeat' split) <;> omega), rfl⟩) dX7_stepsBy_47
      · skip
        refine lv_iconst (v := nI 2) hx hb dX7_stepsBy_34 (by decide) ?_
        refine lv_iload_n hx hb dX7_stepsBy_35 rfl (lv_at hl 0 rfl) ?_
        refine n_mul hx hb dX7_stepsBy_36 ?_
        refine lv_iconst (v := nI 3) hx hb dX7_stepsBy_37 (by decide) ?_
        refine n_add hx hb dX7_stepsBy_38 ?_
        refine lv_goto (tgt := 47) hx hb dX7_stepsBy_39 (by decide) ?_
        exact r_iret C hw (Nat.le_refl _) (Nat.le_refl _) (⟨congrArg nI (by unfold stepL stN; rw [if_neg (by omega), if_neg (by omega), if_pos (alen (by rw [show ly = 2 by omega] at h5; exact h5))]; (repeat' split) <;> omega), rfl⟩) dX7_stepsBy_47
    · skip
      refine lv_iconst (v := nI 1) hx hb dX7_stepsBy_14 (by decide) ?_
      refine lv_iload_n hx hb dX7_stepsBy_15 rfl (lv_at hl 2 rfl) ?_
      refine lv_iconst (v := nI 1) hx hb dX7_stepsBy_16 (by decide) ?_
      refine n_add hx hb dX7_stepsBy_17 ?_
      refine n_shl (d := 2 ^ (al + 1)) hx hb rfl (by omega) (by omega) dX7_stepsBy_18 ?_
      refine lv_iconst (v := nI 1) hx hb dX7_stepsBy_19 (by decide) ?_
      refine n_sub hx hb dX7_stepsBy_20 (by omega) ?_
      exact r_iret C hw (Nat.le_refl _) (Nat.le_refl _) (⟨congrArg nI (by unfold stepL; rw [if_neg (by omega), if_pos (by omega), if_pos (by omega), Nat.one_mul]), rfl⟩) dX7_stepsBy_21
  · skip
    refine lv_iconst (v := nI 0) hx hb dX7_stepsBy_4 (by decide) ?_
    exact r_iret C hw (Nat.le_refl _) (Nat.le_refl _) (⟨congrArg nI (by unfold stepL; rw [if_pos (by omega)]), rfl⟩) dX7_stepsBy_5
abbrev rm_c_bitsOf : Room := { frames := 0, cells := 0, slots := 0, locals := 0 }
set_option maxHeartbeats 4000000 in
set_option maxRecDepth 100000 in
theorem c_bitsOf (l : Launch) (g : GT) (sz : Nat) (k_ : Nat) (h1 : k_ ≤ 16) : CtI l g yX7_bitsOf wsX7_bitsOf rm_c_bitsOf [.int (nI (2 ^ k_ - 1))] [] sz (fun _ => True) (fun rr u => rr = nI k_ ∧ u = []) (0) (0) := by
  refine ct_body (cc := cX7_bitsOf) (nL := 2) (ret := (some .int)) (by decide) rfl (Nat.le_of_ble_eq_true rfl) ?_
  intro p e s m below meth c ls C hin hsz hB hw hl
  obtain ⟨hx, hb, hml, hown, hts, hK, hA, hr, hlk⟩ := id C
  have hl : lv_has ls 2 [(0, .int (nI (2 ^ k_ - 1)))] := hl
  have hw : Wd g (va_A [] sz) s.heap [] s.heap [] := hw
  have h7 := pow16 h1
  have h8 := Nat.one_le_two_pow (n := k_)
  refine lv_iconst (v := nI 0) hx hb dX7_bitsOf_0 (by decide) ?_
  refine lv_istore_n (lv' := [(1, .int (nI 0)), (0, .int (nI (2 ^ k_ - 1)))]) hx hb dX7_bitsOf_1 rfl hl (by decide) rfl (fun ls hl => ?_)
  refine lpw (I := fun i H locs ls => Wd g (va_A [] sz) s.heap [] H locs ∧ lv_has ls 2 [(0, .int (nI (2 ^ k_ - 1))), (1, .int (nI i))]) (k_) ?_ ?_ (0) (by omega) ⟨hw, (lv_sub hl [1, 0] rfl)⟩
  · intro H locs ls hI
    obtain ⟨hw, hl⟩ := hI
    have h9 := h7
    refine lv_iconst (v := nI 1) hx hb dX7_bitsOf_2 (by decide) ?_
    refine lv_iload_n hx hb dX7_bitsOf_3 rfl (lv_at hl 1 rfl) ?_
    refine n_shl (d := 2 ^ k_) hx hb rfl (by omega) (by omega) dX7_bitsOf_4 ?_
    refine lv_iload_n hx hb dX7_bitsOf_5 rfl (lv_at hl 0 rfl) ?_
    refine n_cgt (tgt := 15) hx hb (by omega) (by omega) dX7_bitsOf_6 (by decide) (fun c_1 => ?_) (fun c_1 => ?_)
    · skip
      refine lv_iload_n hx hb dX7_bitsOf_15 rfl (lv_at hl 1 rfl) ?_
      exact r_iret C hw (Nat.le_refl _) (Nat.le_refl _) (⟨rfl, rfl⟩) dX7_bitsOf_16
    · skip
      exfalso; omega
  · intro i H locs ls hi hI K
    obtain ⟨hw, hl⟩ := hI
    have h9 := pow16 (show i ≤ 16 by omega)
    have h6 := Nat.pow_lt_pow_right (a := 2) (by omega) hi
    refine lv_iconst (v := nI 1) hx hb dX7_bitsOf_2 (by decide) ?_
    refine lv_iload_n hx hb dX7_bitsOf_3 rfl (lv_at hl 1 rfl) ?_
    refine n_shl (d := 2 ^ i) hx hb rfl (by omega) (by omega) dX7_bitsOf_4 ?_
    refine lv_iload_n hx hb dX7_bitsOf_5 rfl (lv_at hl 0 rfl) ?_
    refine n_cgt (tgt := 15) hx hb (by omega) (by omega) dX7_bitsOf_6 (by decide) (fun c_2 => ?_) (fun c_2 => ?_)
    · skip
      exfalso; omega
    · skip
      refine lv_iinc (v := (nI (i + 1))) (lv' := [(1, .int (nI (i + 1))), (0, .int (nI (2 ^ k_ - 1)))]) hx hb dX7_bitsOf_9 hl (k := 1) rfl (nI_add _ _) (by decide) rfl (fun ls hl => ?_)
      refine lv_goto (tgt := 2) hx hb dX7_bitsOf_12 (by decide) ?_
      exact K _ _ _ ⟨hw, (lv_sub hl [1, 0] rfl)⟩
abbrev rm_c_rcos : Room := { frames := 0, cells := 0, slots := 0, locals := 0 }
set_option maxHeartbeats 4000000 in
set_option maxRecDepth 100000 in
theorem c_rcos (l : Launch) (g : GT) (sz : Nat) (mo : Nat) (a : Nat → Nat) (th ln pl nf dec ho oc orw fi at_ en ov ly rt sp pd md ex ch sz_ bd bn pr cr : Nat) (n : Nat) (h1 : n < 2 ^ 31) : CtI l g yX7_cosineOf wsX7_cosineOf rm_c_rcos [.ref mo, .int (nI n)] [(mo, .inr (7, (.int (nI th) :: .ref (a 1) :: .int (nI ln) :: .int (nI pl) :: .ref (a 4) :: .int (nI nf) :: .int (nI dec) :: .ref (a 7) :: .ref (a 8) :: .ref (a 9) :: .int (nI ho) :: .int (nI oc) :: .int (nI orw) :: .ref (a 13) :: .ref (a 14) :: .ref (a 15) :: .ref (a 16) :: .ref (a 17) :: .ref (a 18) :: .ref (a 19) :: .ref (a 20) :: .ref (a 21) :: .ref (a 22) :: .ref (a 23) :: .int (nI fi) :: .int (nI at_) :: .int (nI en) :: .int (nI ov) :: .int (nI ly) :: .int (nI rt) :: .int (nI sp) :: .int (nI pd) :: .int (nI md) :: .int (nI ex) :: .int (nI ch) :: .int (nI sz_) :: .int (nI bd) :: .int (nI bn) :: .int (nI pr) :: .int (nI cr) :: []))), ((a 22), aI g 33 (fun j => nI (tN 9 j)))] sz (fun _ => True) (fun rr u => rr = cosA (n % 128) ∧ u = [(mo, .inr (7, (.int (nI th) :: .ref (a 1) :: .int (nI ln) :: .int (nI pl) :: .ref (a 4) :: .int (nI nf) :: .int (nI dec) :: .ref (a 7) :: .ref (a 8) :: .ref (a 9) :: .int (nI ho) :: .int (nI oc) :: .int (nI orw) :: .ref (a 13) :: .ref (a 14) :: .ref (a 15) :: .ref (a 16) :: .ref (a 17) :: .ref (a 18) :: .ref (a 19) :: .ref (a 20) :: .ref (a 21) :: .ref (a 22) :: .ref (a 23) :: .int (nI fi) :: .int (nI at_) :: .int (nI en) :: .int (nI ov) :: .int (nI ly) :: .int (nI rt) :: .int (nI sp) :: .int (nI pd) :: .int (nI md) :: .int (nI ex) :: .int (nI ch) :: .int (nI sz_) :: .int (nI bd) :: .int (nI bn) :: .int (nI pr) :: .int (nI cr) :: []))), ((a 22), aI g 33 (fun j => nI (tN 9 j)))]) (0) (0) := by
  refine ct_body (cc := cX7_cosineOf) (nL := 3) (ret := (some .int)) (by decide) rfl (Nat.le_of_ble_eq_true rfl) ?_
  intro p e s m below meth c ls C hin hsz hB hw hl
  obtain ⟨hx, hb, hml, hown, hts, hK, hA, hr, hlk⟩ := id C
  have lk58 := hts (.fieldLink RX7 58 "SoundBenchModel" "cosine" "[I") (by decide +kernel)
  have in_X7 : ∀ w ∈ wsX70, w ∈ wsX7_cosineOf := by unfold wsX7_cosineOf; intro w h; simp only [List.mem_cons, List.mem_append, h, or_true, true_or]
  have hl : lv_has ls 3 [(0, .ref mo), (1, .int (nI n))] := hl
  have hw : Wd g (va_A [(mo, .inr (7, (.int (nI th) :: .ref (a 1) :: .int (nI ln) :: .int (nI pl) :: .ref (a 4) :: .int (nI nf) :: .int (nI dec) :: .ref (a 7) :: .ref (a 8) :: .ref (a 9) :: .int (nI ho) :: .int (nI oc) :: .int (nI orw) :: .ref (a 13) :: .ref (a 14) :: .ref (a 15) :: .ref (a 16) :: .ref (a 17) :: .ref (a 18) :: .ref (a 19) :: .ref (a 20) :: .ref (a 21) :: .ref (a 22) :: .ref (a 23) :: .int (nI fi) :: .int (nI at_) :: .int (nI en) :: .int (nI ov) :: .int (nI ly) :: .int (nI rt) :: .int (nI sp) :: .int (nI pd) :: .int (nI md) :: .int (nI ex) :: .int (nI ch) :: .int (nI sz_) :: .int (nI bd) :: .int (nI bn) :: .int (nI pr) :: .int (nI cr) :: []))), ((a 22), aI g 33 (fun j => nI (tN 9 j)))] sz) s.heap [(mo, .inr (7, (.int (nI th) :: .ref (a 1) :: .int (nI ln) :: .int (nI pl) :: .ref (a 4) :: .int (nI nf) :: .int (nI dec) :: .ref (a 7) :: .ref (a 8) :: .ref (a 9) :: .int (nI ho) :: .int (nI oc) :: .int (nI orw) :: .ref (a 13) :: .ref (a 14) :: .ref (a 15) :: .ref (a 16) :: .ref (a 17) :: .ref (a 18) :: .ref (a 19) :: .ref (a 20) :: .ref (a 21) :: .ref (a 22) :: .ref (a 23) :: .int (nI fi) :: .int (nI at_) :: .int (nI en) :: .int (nI ov) :: .int (nI ly) :: .int (nI rt) :: .int (nI sp) :: .int (nI pd) :: .int (nI md) :: .int (nI ex) :: .int (nI ch) :: .int (nI sz_) :: .int (nI bd) :: .int (nI bn) :: .int (nI pr) :: .int (nI cr) :: []))), ((a 22), aI g 33 (fun j => nI (tN 9 j)))] s.heap [] := hw
  refine lv_iload_n hx hb dX7_cosineOf_0 rfl (lv_at hl 1 rfl) ?_
  refine lv_sipush (v := nI 128) hx hb dX7_cosineOf_1 (by decide) ?_
  refine n_rem hx hb dX7_cosineOf_4 (by omega) (by omega) (by omega) ?_
  refine lv_istore_n (lv' := [(2, .int (nI (n % 128))), (0, .ref mo), (1, .int (nI n))]) hx hb dX7_cosineOf_5 rfl hl (by decide) rfl (fun ls hl => ?_)
  refine lv_iload_n hx hb dX7_cosineOf_6 rfl (lv_at hl 0 rfl) ?_
  refine lv_bipush (v := nI 64) hx hb dX7_cosineOf_7 (by decide) ?_
  refine n_cle (tgt := 20) hx hb (by omega) (by omega) dX7_cosineOf_9 (by decide) (fun c_1 => ?_) (fun c_1 => ?_)
  · skip
    refine lv_iload_n hx hb dX7_cosineOf_20 rfl (lv_at hl 0 rfl) ?_
    refine lv_istore_n (lv' := [(2, .int (nI (n % 128))), (0, .ref mo), (1, .int (nI n))]) hx hb dX7_cosineOf_21 rfl hl (by decide) rfl (fun ls hl => ?_)
    refine lv_iload_n hx hb dX7_cosineOf_22 rfl (lv_at hl 0 rfl) ?_
    refine lv_bipush (v := nI 32) hx hb dX7_cosineOf_23 (by decide) ?_
    refine n_cle (tgt := 41) hx hb (by omega) (by omega) dX7_cosineOf_25 (by decide) (fun c_2 => ?_) (fun c_2 => ?_)
    · skip
      refine lv_aload_n hx hb dX7_cosineOf_41 rfl (lv_at hl 1 rfl) ?_
      refine r_get C hw in_X7 0 rfl rfl 22 (by decide) lk58 rfl dX7_cosineOf_42 ?_
      refine lv_iload_n hx hb dX7_cosineOf_45 rfl (lv_at hl 0 rfl) ?_
      refine r_iald C hw 1 rfl (by omega) (by omega) dX7_cosineOf_46 ?_
      exact r_iret C hw (Nat.le_refl _) (Nat.le_refl _) (⟨by unfold cosA cosW; rw [if_pos (show n % 128 < 128 by omega)]; (repeat' split) <;> first | rfl | omega, rfl⟩) dX7_cosineOf_47
    · skip
      refine lv_aload_n hx hb dX7_cosineOf_28 rfl (lv_at hl 1 rfl) ?_
      refine r_get C hw in_X7 0 rfl rfl 22 (by decide) lk58 rfl dX7_cosineOf_29 ?_
      refine lv_bipush (v := nI 64) hx hb dX7_cosineOf_32 (by decide) ?_
      refine lv_iload_n hx hb dX7_cosineOf_34 rfl (lv_at hl 0 rfl) ?_
      refine n_sub hx hb dX7_cosineOf_35 (by omega) ?_
      refine r_iald C hw 1 rfl (by omega) (by omega) dX7_cosineOf_36 ?_
      refine lv_ineg hx hb dX7_cosineOf_37 ?_
      refine lv_goto (tgt := 47) hx hb dX7_cosineOf_38 (by decide) ?_
      exact r_iret C hw (Nat.le_refl _) (Nat.le_refl _) (⟨by unfold cosA cosW; rw [if_pos (show n % 128 < 128 by omega)]; (repeat' split) <;> first | rfl | omega, rfl⟩) dX7_cosineOf_47
  · skip
    refine lv_sipush (v := nI 128) hx hb dX7_cosineOf_12 (by decide) ?_
    refine lv_iload_n hx hb dX7_cosineOf_15 rfl (lv_at hl 0 rfl) ?_
    refine n_sub hx hb dX7_cosineOf_16 (by omega) ?_
    refine lv_goto (tgt := 21) hx hb dX7_cosineOf_17 (by decide) ?_
    refine lv_istore_n (lv' := [(2, .int (nI (128 - (n % 128)))), (0, .ref mo), (1, .int (nI n))]) hx hb dX7_cosineOf_21 rfl hl (by decide) rfl (fun ls hl => ?_)
    refine lv_iload_n hx hb dX7_cosineOf_22 rfl (lv_at hl 0 rfl) ?_
    refine lv_bipush (v := nI 32) hx hb dX7_cosineOf_23 (by decide) ?_
    refine n_cle (tgt := 41) hx hb (by omega) (by omega) dX7_cosineOf_25 (by decide) (fun c_3 => ?_) (fun c_3 => ?_)
    · skip
      refine lv_aload_n hx hb dX7_cosineOf_41 rfl (lv_at hl 1 rfl) ?_
      refine r_get C hw in_X7 0 rfl rfl 22 (by decide) lk58 rfl dX7_cosineOf_42 ?_
      refine lv_iload_n hx hb dX7_cosineOf_45 rfl (lv_at hl 0 rfl) ?_
      refine r_iald C hw 1 rfl (by omega) (by omega) dX7_cosineOf_46 ?_
      exact r_iret C hw (Nat.le_refl _) (Nat.le_refl _) (⟨by unfold cosA cosW; rw [if_pos (show n % 128 < 128 by omega)]; (repeat' split) <;> first | rfl | omega, rfl⟩) dX7_cosineOf_47
    · skip
      refine lv_aload_n hx hb dX7_cosineOf_28 rfl (lv_at hl 1 rfl) ?_
      refine r_get C hw in_X7 0 rfl rfl 22 (by decide) lk58 rfl dX7_cosineOf_29 ?_
      refine lv_bipush (v := nI 64) hx hb dX7_cosineOf_32 (by decide) ?_
      refine lv_iload_n hx hb dX7_cosineOf_34 rfl (lv_at hl 0 rfl) ?_
      refine n_sub hx hb dX7_cosineOf_35 (by omega) ?_
      refine r_iald C hw 1 rfl (by omega) (by omega) dX7_cosineOf_36 ?_
      refine lv_ineg hx hb dX7_cosineOf_37 ?_
      refine lv_goto (tgt := 47) hx hb dX7_cosineOf_38 (by decide) ?_
      exact r_iret C hw (Nat.le_refl _) (Nat.le_refl _) (⟨by unfold cosA cosW; rw [if_pos (show n % 128 < 128 by omega)]; (repeat' split) <;> first | rfl | omega, rfl⟩) dX7_cosineOf_47
abbrev rm_c_rwin : Room := { frames := 0, cells := 0, slots := 0, locals := 0 }
set_option maxHeartbeats 4000000 in
set_option maxRecDepth 100000 in
theorem c_rwin (l : Launch) (g : GT) (sz : Nat) (mo : Nat) (a : Nat → Nat) (th ln pl nf dec ho oc orw fi at_ en ov ly rt sp pd md ex ch sz_ bd bn pr cr : Nat) (n : Nat) (h1 : n < 512) : CtI l g yX7_windowOf wsX7_windowOf rm_c_rwin [.ref mo, .int (nI n)] [(mo, .inr (7, (.int (nI th) :: .ref (a 1) :: .int (nI ln) :: .int (nI pl) :: .ref (a 4) :: .int (nI nf) :: .int (nI dec) :: .ref (a 7) :: .ref (a 8) :: .ref (a 9) :: .int (nI ho) :: .int (nI oc) :: .int (nI orw) :: .ref (a 13) :: .ref (a 14) :: .ref (a 15) :: .ref (a 16) :: .ref (a 17) :: .ref (a 18) :: .ref (a 19) :: .ref (a 20) :: .ref (a 21) :: .ref (a 22) :: .ref (a 23) :: .int (nI fi) :: .int (nI at_) :: .int (nI en) :: .int (nI ov) :: .int (nI ly) :: .int (nI rt) :: .int (nI sp) :: .int (nI pd) :: .int (nI md) :: .int (nI ex) :: .int (nI ch) :: .int (nI sz_) :: .int (nI bd) :: .int (nI bn) :: .int (nI pr) :: .int (nI cr) :: []))), ((a 23), aI g 257 (fun j => sV 10 j))] sz (fun _ => True) (fun rr u => rr = winA n ∧ u = [(mo, .inr (7, (.int (nI th) :: .ref (a 1) :: .int (nI ln) :: .int (nI pl) :: .ref (a 4) :: .int (nI nf) :: .int (nI dec) :: .ref (a 7) :: .ref (a 8) :: .ref (a 9) :: .int (nI ho) :: .int (nI oc) :: .int (nI orw) :: .ref (a 13) :: .ref (a 14) :: .ref (a 15) :: .ref (a 16) :: .ref (a 17) :: .ref (a 18) :: .ref (a 19) :: .ref (a 20) :: .ref (a 21) :: .ref (a 22) :: .ref (a 23) :: .int (nI fi) :: .int (nI at_) :: .int (nI en) :: .int (nI ov) :: .int (nI ly) :: .int (nI rt) :: .int (nI sp) :: .int (nI pd) :: .int (nI md) :: .int (nI ex) :: .int (nI ch) :: .int (nI sz_) :: .int (nI bd) :: .int (nI bn) :: .int (nI pr) :: .int (nI cr) :: []))), ((a 23), aI g 257 (fun j => sV 10 j))]) (0) (0) := by
  refine ct_body (cc := cX7_windowOf) (nL := 3) (ret := (some .int)) (by decide) rfl (Nat.le_of_ble_eq_true rfl) ?_
  intro p e s m below meth c ls C hin hsz hB hw hl
  obtain ⟨hx, hb, hml, hown, hts, hK, hA, hr, hlk⟩ := id C
  have lk96 := hts (.fieldLink RX7 96 "SoundBenchModel" "window" "[I") (by decide +kernel)
  have in_X7 : ∀ w ∈ wsX70, w ∈ wsX7_windowOf := by unfold wsX7_windowOf; intro w h; simp only [List.mem_cons, List.mem_append, h, or_true, true_or]
  have hl : lv_has ls 3 [(0, .ref mo), (1, .int (nI n))] := hl
  have hw : Wd g (va_A [(mo, .inr (7, (.int (nI th) :: .ref (a 1) :: .int (nI ln) :: .int (nI pl) :: .ref (a 4) :: .int (nI nf) :: .int (nI dec) :: .ref (a 7) :: .ref (a 8) :: .ref (a 9) :: .int (nI ho) :: .int (nI oc) :: .int (nI orw) :: .ref (a 13) :: .ref (a 14) :: .ref (a 15) :: .ref (a 16) :: .ref (a 17) :: .ref (a 18) :: .ref (a 19) :: .ref (a 20) :: .ref (a 21) :: .ref (a 22) :: .ref (a 23) :: .int (nI fi) :: .int (nI at_) :: .int (nI en) :: .int (nI ov) :: .int (nI ly) :: .int (nI rt) :: .int (nI sp) :: .int (nI pd) :: .int (nI md) :: .int (nI ex) :: .int (nI ch) :: .int (nI sz_) :: .int (nI bd) :: .int (nI bn) :: .int (nI pr) :: .int (nI cr) :: []))), ((a 23), aI g 257 (fun j => sV 10 j))] sz) s.heap [(mo, .inr (7, (.int (nI th) :: .ref (a 1) :: .int (nI ln) :: .int (nI pl) :: .ref (a 4) :: .int (nI nf) :: .int (nI dec) :: .ref (a 7) :: .ref (a 8) :: .ref (a 9) :: .int (nI ho) :: .int (nI oc) :: .int (nI orw) :: .ref (a 13) :: .ref (a 14) :: .ref (a 15) :: .ref (a 16) :: .ref (a 17) :: .ref (a 18) :: .ref (a 19) :: .ref (a 20) :: .ref (a 21) :: .ref (a 22) :: .ref (a 23) :: .int (nI fi) :: .int (nI at_) :: .int (nI en) :: .int (nI ov) :: .int (nI ly) :: .int (nI rt) :: .int (nI sp) :: .int (nI pd) :: .int (nI md) :: .int (nI ex) :: .int (nI ch) :: .int (nI sz_) :: .int (nI bd) :: .int (nI bn) :: .int (nI pr) :: .int (nI cr) :: []))), ((a 23), aI g 257 (fun j => sV 10 j))] s.heap [] := hw
  refine lv_iload_n hx hb dX7_windowOf_0 rfl (lv_at hl 1 rfl) ?_
  refine lv_sipush (v := nI 256) hx hb dX7_windowOf_1 (by decide) ?_
  refine n_cgt (tgt := 14) hx hb (by omega) (by omega) dX7_windowOf_4 (by decide) (fun c_1 => ?_) (fun c_1 => ?_)
  · skip
    refine lv_sipush (v := nI 512) hx hb dX7_windowOf_14 (by decide) ?_
    refine lv_iload_n hx hb dX7_windowOf_17 rfl (lv_at hl 1 rfl) ?_
    refine n_sub hx hb dX7_windowOf_18 (by omega) ?_
    refine lv_istore_n (lv' := [(2, .int (nI (512 - n))), (0, .ref mo), (1, .int (nI n))]) hx hb dX7_windowOf_19 rfl hl (by decide) rfl (fun ls hl => ?_)
    refine lv_iload_n hx hb dX7_windowOf_20 rfl (lv_at hl 0 rfl) ?_
    refine lv_bipush (v := nI 64) hx hb dX7_windowOf_21 (by decide) ?_
    refine n_rem hx hb dX7_windowOf_23 (by omega) (by omega) (by omega) ?_
    refine n_ne0 (tgt := 36) hx hb (by omega) dX7_windowOf_24 (by decide) (fun c_2 => ?_) (fun c_2 => ?_)
    · skip
      refine lv_aload_n hx hb dX7_windowOf_36 rfl (lv_at hl 1 rfl) ?_
      refine r_get C hw in_X7 0 rfl rfl 23 (by decide) lk96 rfl dX7_windowOf_37 ?_
      refine lv_iload_n hx hb dX7_windowOf_40 rfl (lv_at hl 0 rfl) ?_
      refine r_iald C hw 1 rfl (by omega) (by omega) dX7_windowOf_41 ?_
      refine lv_ineg hx hb dX7_windowOf_42 ?_
      exact r_iret C hw (Nat.le_refl _) (Nat.le_refl _) (⟨by unfold winA winW; rw [if_pos h1]; (repeat' split) <;> first | rfl | omega, rfl⟩) dX7_windowOf_43
    · skip
      refine lv_aload_n hx hb dX7_windowOf_27 rfl (lv_at hl 1 rfl) ?_
      refine r_get C hw in_X7 0 rfl rfl 23 (by decide) lk96 rfl dX7_windowOf_28 ?_
      refine lv_iload_n hx hb dX7_windowOf_31 rfl (lv_at hl 0 rfl) ?_
      refine r_iald C hw 1 rfl (by omega) (by omega) dX7_windowOf_32 ?_
      refine lv_goto (tgt := 43) hx hb dX7_windowOf_33 (by decide) ?_
      exact r_iret C hw (Nat.le_refl _) (Nat.le_refl _) (⟨by unfold winA winW; rw [if_pos h1]; (repeat' split) <;> first | rfl | omega, rfl⟩) dX7_windowOf_43
  · skip
    refine lv_aload_n hx hb dX7_windowOf_7 rfl (lv_at hl 0 rfl) ?_
    refine r_get C hw in_X7 0 rfl rfl 23 (by decide) lk96 rfl dX7_windowOf_8 ?_
    refine lv_iload_n hx hb dX7_windowOf_11 rfl (lv_at hl 1 rfl) ?_
    refine r_iald C hw 1 rfl (by omega) (by omega) dX7_windowOf_12 ?_
    exact r_iret C hw (Nat.le_refl _) (Nat.le_refl _) (⟨by unfold winA winW; rw [if_pos h1]; (repeat' split) <;> first | rfl | omega, rfl⟩) dX7_windowOf_13
