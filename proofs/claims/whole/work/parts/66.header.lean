abbrev rm_c_header : Room := { frames := 1, cells := 0, slots := 0, locals := 23 }
set_option maxHeartbeats 4000000 in
set_option maxRecDepth 100000 in
theorem c_header (l : Launch) (g : GT) (sz : Nat) (mo : Nat) (a : Nat → Nat) (th ln pl nf dec ho oc orw fi at_ en ov ly rt sp pd md ex ch sz_ bd bn pr cr : Nat) (pp wq : Nat) (T : Nat → Nat) (hT : ∀ j, T j < 256) (hwd : wq = wdS T pp) (h1 : pp + 4 ≤ ln) (h2 : ln ≤ 4000) : CtI l g yX7_header wsX7_header rm_c_header [.ref mo, .int (nI pp)] [(mo, .inr (7, (.int (nI th) :: .ref (a 1) :: .int (nI ln) :: .int (nI pl) :: .ref (a 4) :: .int (nI nf) :: .int (nI dec) :: .ref (a 7) :: .ref (a 8) :: .ref (a 9) :: .int (nI ho) :: .int (nI oc) :: .int (nI orw) :: .ref (a 13) :: .ref (a 14) :: .ref (a 15) :: .ref (a 16) :: .ref (a 17) :: .ref (a 18) :: .ref (a 19) :: .ref (a 20) :: .ref (a 21) :: .ref (a 22) :: .ref (a 23) :: .int (nI fi) :: .int (nI at_) :: .int (nI en) :: .int (nI ov) :: .int (nI ly) :: .int (nI rt) :: .int (nI sp) :: .int (nI pd) :: .int (nI md) :: .int (nI ex) :: .int (nI ch) :: .int (nI sz_) :: .int (nI bd) :: .int (nI bn) :: .int (nI pr) :: .int (nI cr) :: []))), ((a 1), aB g 4000 (fun j => nB (T j))), ((a 21), aI g 14 (fun j => nI (tN 0 (j + 1))))] sz (fun _ => True) (fun rr u => rr = nI (goodS wq) ∧ ∃ (at1 en1 ov1 ly1 rt1 sp1 pd1 md1 ex1 ch1 sz1 bd1 bn1 pr1 : Nat), u = [(mo, .inr (7, (.int (nI th) :: .ref (a 1) :: .int (nI ln) :: .int (nI pl) :: .ref (a 4) :: .int (nI nf) :: .int (nI dec) :: .ref (a 7) :: .ref (a 8) :: .ref (a 9) :: .int (nI ho) :: .int (nI oc) :: .int (nI orw) :: .ref (a 13) :: .ref (a 14) :: .ref (a 15) :: .ref (a 16) :: .ref (a 17) :: .ref (a 18) :: .ref (a 19) :: .ref (a 20) :: .ref (a 21) :: .ref (a 22) :: .ref (a 23) :: .int (nI fi) :: .int (nI at1) :: .int (nI en1) :: .int (nI ov1) :: .int (nI ly1) :: .int (nI rt1) :: .int (nI sp1) :: .int (nI pd1) :: .int (nI md1) :: .int (nI ex1) :: .int (nI ch1) :: .int (nI sz1) :: .int (nI bd1) :: .int (nI bn1) :: .int (nI pr1) :: .int (nI cr) :: []))), ((a 1), aB g 4000 (fun j => nB (T j))), ((a 21), aI g 14 (fun j => nI (tN 0 (j + 1))))] ∧ (goodS wq ≠ 0 → ly1 = layerS wq ∧ rt1 = rateS wq ∧ sp1 = sampS wq ∧ md1 = modeS wq ∧ ch1 = chS wq ∧ sz1 = byS wq ∧ bd1 = boundS wq ∧ bn1 = bandS wq ∧ pr1 = chkS wq)) (0) (0) := by
  refine ct_body (cc := cX7_header) (nL := 9) (ret := (some .boolean)) (by decide) rfl (Nat.le_of_ble_eq_true rfl) ?_
  intro p e s m below meth c ls C hin hsz hB hw hl
  obtain ⟨hx, hb, hml, hown, hts, hK, hA, hr, hlk⟩ := id C
  have lk55 := hts (.fieldLink RX7 55 "SoundBenchModel" "rates" "[I") (by decide +kernel)
  have lk103 := hts (.fieldLink RX7 103 "SoundBenchModel" "taped" "I") (by decide +kernel)
  have lk123 := hts (.fieldLink RX7 123 "SoundBenchModel" "at" "I") (by decide +kernel)
  have lk126 := hts (.fieldLink RX7 126 "SoundBenchModel" "end" "I") (by decide +kernel)
  have lk129 := hts (.fieldLink RX7 129 "SoundBenchModel" "isOver" "Z") (by decide +kernel)
  have lk136 := hts (.fieldLink RX7 136 "SoundBenchModel" "isProtected" "Z") (by decide +kernel)
  have lk139 := hts (.fieldLink RX7 139 "SoundBenchModel" "padding" "I") (by decide +kernel)
  have lk142 := hts (.fieldLink RX7 142 "SoundBenchModel" "mode" "I") (by decide +kernel)
  have lk145 := hts (.fieldLink RX7 145 "SoundBenchModel" "extension" "I") (by decide +kernel)
  have lk148 := hts (.fieldLink RX7 148 "SoundBenchModel" "layer" "I") (by decide +kernel)
  have lk151 := hts (.fieldLink RX7 151 "SoundBenchModel" "rate" "I") (by decide +kernel)
  have lk156 := hts (.fieldLink RX7 156 "SoundBenchModel" "sampling" "I") (by decide +kernel)
  have lk159 := hts (.fieldLink RX7 159 "SoundBenchModel" "channels" "I") (by decide +kernel)
  have lk163 := hts (.fieldLink RX7 163 "SoundBenchModel" "size" "I") (by decide +kernel)
  have lk169 := hts (.fieldLink RX7 169 "SoundBenchModel" "bands" "I") (by decide +kernel)
  have lk172 := hts (.fieldLink RX7 172 "SoundBenchModel" "bound" "I") (by decide +kernel)
  have in_X7 : ∀ w ∈ wsX70, w ∈ wsX7_header := by unfold wsX7_header; intro w h; simp only [List.mem_cons, List.mem_append, h, or_true, true_or]
  have hl : lv_has ls 9 [(0, .ref mo), (1, .int (nI pp))] := hl
  have hw : Wd g (va_A [(mo, .inr (7, (.int (nI th) :: .ref (a 1) :: .int (nI ln) :: .int (nI pl) :: .ref (a 4) :: .int (nI nf) :: .int (nI dec) :: .ref (a 7) :: .ref (a 8) :: .ref (a 9) :: .int (nI ho) :: .int (nI oc) :: .int (nI orw) :: .ref (a 13) :: .ref (a 14) :: .ref (a 15) :: .ref (a 16) :: .ref (a 17) :: .ref (a 18) :: .ref (a 19) :: .ref (a 20) :: .ref (a 21) :: .ref (a 22) :: .ref (a 23) :: .int (nI fi) :: .int (nI at_) :: .int (nI en) :: .int (nI ov) :: .int (nI ly) :: .int (nI rt) :: .int (nI sp) :: .int (nI pd) :: .int (nI md) :: .int (nI ex) :: .int (nI ch) :: .int (nI sz_) :: .int (nI bd) :: .int (nI bn) :: .int (nI pr) :: .int (nI cr) :: []))), ((a 1), aB g 4000 (fun j => nB (T j))), ((a 21), aI g 14 (fun j => nI (tN 0 (j + 1))))] sz) s.heap [(mo, .inr (7, (.int (nI th) :: .ref (a 1) :: .int (nI ln) :: .int (nI pl) :: .ref (a 4) :: .int (nI nf) :: .int (nI dec) :: .ref (a 7) :: .ref (a 8) :: .ref (a 9) :: .int (nI ho) :: .int (nI oc) :: .int (nI orw) :: .ref (a 13) :: .ref (a 14) :: .ref (a 15) :: .ref (a 16) :: .ref (a 17) :: .ref (a 18) :: .ref (a 19) :: .ref (a 20) :: .ref (a 21) :: .ref (a 22) :: .ref (a 23) :: .int (nI fi) :: .int (nI at_) :: .int (nI en) :: .int (nI ov) :: .int (nI ly) :: .int (nI rt) :: .int (nI sp) :: .int (nI pd) :: .int (nI md) :: .int (nI ex) :: .int (nI ch) :: .int (nI sz_) :: .int (nI bd) :: .int (nI bn) :: .int (nI pr) :: .int (nI cr) :: []))), ((a 1), aB g 4000 (fun j => nB (T j))), ((a 21), aI g 14 (fun j => nI (tN 0 (j + 1))))] s.heap [] := hw
  have hwl : wq < 2 ^ 32 := by rw [hwd]; exact wdS_lt hT pp
  have e_39 : bitsV T (8 * pp) 12 = wq / 1048576 := by have h9 := wd_bits hT pp 0 12 20 rfl; rw [← hwd] at h9; have h8 : bitsV T (8 * pp) 12 = wq / 1048576 % 4096 := h9; omega
  have e_45 : bitsV T (8 * pp + 12) 1 = wq / 524288 % 2 := by rw [hwd]; exact wd_bits hT pp 12 1 19 rfl
  have e_51 : bitsV T (8 * pp + 13) 2 = wq / 131072 % 4 := by rw [hwd]; exact wd_bits hT pp 13 2 17 rfl
  have e_59 : bitsV T (8 * pp + 15) 1 = wq / 65536 % 2 := by rw [hwd]; exact wd_bits hT pp 15 1 16 rfl
  have e_75 : bitsV T (8 * pp + 16) 4 = wq / 4096 % 16 := by rw [hwd]; exact wd_bits hT pp 16 4 12 rfl
  have e_82 : bitsV T (8 * pp + 20) 2 = wq / 1024 % 4 := by rw [hwd]; exact wd_bits hT pp 20 2 10 rfl
  have e_90 : bitsV T (8 * pp + 22) 1 = wq / 512 % 2 := by rw [hwd]; exact wd_bits hT pp 22 1 9 rfl
  have e_105 : bitsV T (8 * pp + 24) 2 = modeS wq := by rw [hwd]; exact wd_bits hT pp 24 2 6 rfl
  have e_114 : bitsV T (8 * pp + 26) 2 = wq / 16 % 4 := by rw [hwd]; exact wd_bits hT pp 26 2 4 rfl
  have e_128 : bitsV T (8 * pp + 30) 2 = wq % 4 := by have h9 := wd_bits hT pp 30 2 0 rfl; rw [← hwd] at h9; have h8 : bitsV T (8 * pp + 30) 2 = wq / 1 % 4 := h9; omega
  refine lv_iload_n hx hb dX7_header_0 rfl (lv_at hl 1 rfl) ?_
  refine lv_iconst (v := nI 4) hx hb dX7_header_1 (by decide) ?_
  refine n_add hx hb dX7_header_2 ?_
  refine lv_aload_n hx hb dX7_header_3 rfl (lv_at hl 0 rfl) ?_
  refine r_get C hw in_X7 0 rfl rfl 2 (by decide) lk103 rfl dX7_header_4 ?_
  refine n_cle (tgt := 12) hx hb (by omega) (by omega) dX7_header_7 (by decide) (fun c_1 => ?_) (fun c_1 => ?_)
  · skip
    refine lv_aload_n hx hb dX7_header_12 rfl (lv_at hl 0 rfl) ?_
    refine lv_bipush (v := nI 8) hx hb dX7_header_13 (by decide) ?_
    refine lv_iload_n hx hb dX7_header_15 rfl (lv_at hl 1 rfl) ?_
    refine n_mul hx hb dX7_header_16 ?_
    refine r_put C hw in_X7 tyX7_ok nmX7 0 rfl rfl 25 (by decide) lk123 rfl rfl rfl (Nat.le_of_ble_eq_true rfl) (ws' := [(mo, .inr (7, (.int (nI th) :: .ref (a 1) :: .int (nI ln) :: .int (nI pl) :: .ref (a 4) :: .int (nI nf) :: .int (nI dec) :: .ref (a 7) :: .ref (a 8) :: .ref (a 9) :: .int (nI ho) :: .int (nI oc) :: .int (nI orw) :: .ref (a 13) :: .ref (a 14) :: .ref (a 15) :: .ref (a 16) :: .ref (a 17) :: .ref (a 18) :: .ref (a 19) :: .ref (a 20) :: .ref (a 21) :: .ref (a 22) :: .ref (a 23) :: .int (nI fi) :: .int (nI (8 * pp)) :: .int (nI en) :: .int (nI ov) :: .int (nI ly) :: .int (nI rt) :: .int (nI sp) :: .int (nI pd) :: .int (nI md) :: .int (nI ex) :: .int (nI ch) :: .int (nI sz_) :: .int (nI bd) :: .int (nI bn) :: .int (nI pr) :: .int (nI cr) :: []))), ((a 1), aB g 4000 (fun j => nB (T j))), ((a 21), aI g 14 (fun j => nI (tN 0 (j + 1))))]) rfl dX7_header_17 (fun H locs hw => ?_)
    refine lv_aload_n hx hb dX7_header_20 rfl (lv_at hl 0 rfl) ?_
    refine lv_bipush (v := nI 8) hx hb dX7_header_21 (by decide) ?_
    refine lv_iload_n hx hb dX7_header_23 rfl (lv_at hl 1 rfl) ?_
    refine n_mul hx hb dX7_header_24 ?_
    refine lv_bipush (v := nI 32) hx hb dX7_header_25 (by decide) ?_
    refine n_add hx hb dX7_header_27 ?_
    refine r_put C hw in_X7 tyX7_ok nmX7 0 rfl rfl 26 (by decide) lk126 rfl rfl rfl (Nat.le_of_ble_eq_true rfl) (ws' := [(mo, .inr (7, (.int (nI th) :: .ref (a 1) :: .int (nI ln) :: .int (nI pl) :: .ref (a 4) :: .int (nI nf) :: .int (nI dec) :: .ref (a 7) :: .ref (a 8) :: .ref (a 9) :: .int (nI ho) :: .int (nI oc) :: .int (nI orw) :: .ref (a 13) :: .ref (a 14) :: .ref (a 15) :: .ref (a 16) :: .ref (a 17) :: .ref (a 18) :: .ref (a 19) :: .ref (a 20) :: .ref (a 21) :: .ref (a 22) :: .ref (a 23) :: .int (nI fi) :: .int (nI (8 * pp)) :: .int (nI ((8 * pp) + 32)) :: .int (nI ov) :: .int (nI ly) :: .int (nI rt) :: .int (nI sp) :: .int (nI pd) :: .int (nI md) :: .int (nI ex) :: .int (nI ch) :: .int (nI sz_) :: .int (nI bd) :: .int (nI bn) :: .int (nI pr) :: .int (nI cr) :: []))), ((a 1), aB g 4000 (fun j => nB (T j))), ((a 21), aI g 14 (fun j => nI (tN 0 (j + 1))))]) rfl dX7_header_28 (fun H locs hw => ?_)
    refine lv_aload_n hx hb dX7_header_31 rfl (lv_at hl 0 rfl) ?_
    refine lv_iconst (v := nI 0) hx hb dX7_header_32 (by decide) ?_
    refine r_put C hw in_X7 tyX7_ok nmX7 0 rfl rfl 27 (by decide) lk129 rfl (by decide) (by decide) (Nat.le_of_ble_eq_true rfl) (ws' := [(mo, .inr (7, (.int (nI th) :: .ref (a 1) :: .int (nI ln) :: .int (nI pl) :: .ref (a 4) :: .int (nI nf) :: .int (nI dec) :: .ref (a 7) :: .ref (a 8) :: .ref (a 9) :: .int (nI ho) :: .int (nI oc) :: .int (nI orw) :: .ref (a 13) :: .ref (a 14) :: .ref (a 15) :: .ref (a 16) :: .ref (a 17) :: .ref (a 18) :: .ref (a 19) :: .ref (a 20) :: .ref (a 21) :: .ref (a 22) :: .ref (a 23) :: .int (nI fi) :: .int (nI (8 * pp)) :: .int (nI ((8 * pp) + 32)) :: .int (nI 0) :: .int (nI ly) :: .int (nI rt) :: .int (nI sp) :: .int (nI pd) :: .int (nI md) :: .int (nI ex) :: .int (nI ch) :: .int (nI sz_) :: .int (nI bd) :: .int (nI bn) :: .int (nI pr) :: .int (nI cr) :: []))), ((a 1), aB g 4000 (fun j => nB (T j))), ((a 21), aI g 14 (fun j => nI (tN 0 (j + 1))))]) rfl dX7_header_33 (fun H locs hw => ?_)
    refine lv_aload_n hx hb dX7_header_36 rfl (lv_at hl 0 rfl) ?_
    refine lv_bipush (v := nI 12) hx hb dX7_header_37 (by decide) ?_
    refine k_Vi (As := [.int (nI 12)]) (rest := []) (wr := [((a 21), aI g 14 (fun j => nI (tN 0 (j + 1))))]) C hw (c_rbitsF l g _ mo a th ln pl nf dec ho oc orw fi (8 * pp) ((8 * pp) + 32) 0 ly rt sp pd md ex ch sz_ bd bn pr cr 12 T hT (by omega) (by omega) (by omega) (by omega)) (cwV 1 hts gX7_header_X7_bits rfl rfl rfl (by decide +kernel) ⟨Nat.le_of_ble_eq_true rfl, Nat.le_of_ble_eq_true rfl⟩) bl_T (fun _ _ _ => trivial) [0, 1] [2] (by decide) rfl rfl (by decide) (by decide) 0 rfl rfl rfl hl.1 rfl (Nat.le_of_ble_eq_true rfl) dX7_header_39 ⟨Nat.le_of_ble_eq_true rfl, Nat.le_of_ble_eq_true rfl⟩ (fun r_2 u H locs hp hw => ?_)
    obtain ⟨rfl, rfl⟩ := hp
    have hw := Wd.sub (ws' := [(mo, .inr (7, (.int (nI th) :: .ref (a 1) :: .int (nI ln) :: .int (nI pl) :: .ref (a 4) :: .int (nI nf) :: .int (nI dec) :: .ref (a 7) :: .ref (a 8) :: .ref (a 9) :: .int (nI ho) :: .int (nI oc) :: .int (nI orw) :: .ref (a 13) :: .ref (a 14) :: .ref (a 15) :: .ref (a 16) :: .ref (a 17) :: .ref (a 18) :: .ref (a 19) :: .ref (a 20) :: .ref (a 21) :: .ref (a 22) :: .ref (a 23) :: .int (nI fi) :: .int (nI (8 * pp + 12)) :: .int (nI ((8 * pp) + 32)) :: .int (nI 0) :: .int (nI ly) :: .int (nI rt) :: .int (nI sp) :: .int (nI pd) :: .int (nI md) :: .int (nI ex) :: .int (nI ch) :: .int (nI sz_) :: .int (nI bd) :: .int (nI bn) :: .int (nI pr) :: .int (nI cr) :: []))), ((a 1), aB g 4000 (fun j => nB (T j))), ((a 21), aI g 14 (fun j => nI (tN 0 (j + 1))))]) hw [1, 2, 0] (by decide) rfl
    refine tp1 (v' := (nI (wq / 1048576))) (congrArg nI e_39) ?_
    refine lv_istore_n (lv' := [(2, .int (nI (wq / 1048576))), (0, .ref mo), (1, .int (nI pp))]) hx hb dX7_header_42 rfl hl (by decide) rfl (fun ls hl => ?_)
    refine lv_aload_n hx hb dX7_header_43 rfl (lv_at hl 1 rfl) ?_
    refine lv_iconst (v := nI 1) hx hb dX7_header_44 (by decide) ?_
    refine k_Vi (As := [.int (nI 1)]) (rest := []) (wr := [((a 21), aI g 14 (fun j => nI (tN 0 (j + 1))))]) C hw (c_rbitsF l g _ mo a th ln pl nf dec ho oc orw fi (8 * pp + 12) ((8 * pp) + 32) 0 ly rt sp pd md ex ch sz_ bd bn pr cr 1 T hT (by omega) (by omega) (by omega) (by omega)) (cwV 1 hts gX7_header_X7_bits rfl rfl rfl (by decide +kernel) ⟨Nat.le_of_ble_eq_true rfl, Nat.le_of_ble_eq_true rfl⟩) bl_T (fun _ _ _ => trivial) [0, 1] [2] (by decide) rfl rfl (by decide) (by decide) 0 rfl rfl rfl hl.1 rfl (Nat.le_of_ble_eq_true rfl) dX7_header_45 ⟨Nat.le_of_ble_eq_true rfl, Nat.le_of_ble_eq_true rfl⟩ (fun r_3 u H locs hp hw => ?_)
    obtain ⟨rfl, rfl⟩ := hp
    have hw := Wd.sub (ws' := [(mo, .inr (7, (.int (nI th) :: .ref (a 1) :: .int (nI ln) :: .int (nI pl) :: .ref (a 4) :: .int (nI nf) :: .int (nI dec) :: .ref (a 7) :: .ref (a 8) :: .ref (a 9) :: .int (nI ho) :: .int (nI oc) :: .int (nI orw) :: .ref (a 13) :: .ref (a 14) :: .ref (a 15) :: .ref (a 16) :: .ref (a 17) :: .ref (a 18) :: .ref (a 19) :: .ref (a 20) :: .ref (a 21) :: .ref (a 22) :: .ref (a 23) :: .int (nI fi) :: .int (nI (8 * pp + 13)) :: .int (nI ((8 * pp) + 32)) :: .int (nI 0) :: .int (nI ly) :: .int (nI rt) :: .int (nI sp) :: .int (nI pd) :: .int (nI md) :: .int (nI ex) :: .int (nI ch) :: .int (nI sz_) :: .int (nI bd) :: .int (nI bn) :: .int (nI pr) :: .int (nI cr) :: []))), ((a 1), aB g 4000 (fun j => nB (T j))), ((a 21), aI g 14 (fun j => nI (tN 0 (j + 1))))]) hw [1, 2, 0] (by decide) rfl
    refine tp1 (v' := (nI (wq / 524288 % 2))) (congrArg nI e_45) ?_
    refine lv_istore_n (lv' := [(3, .int (nI (wq / 524288 % 2))), (2, .int (nI (wq / 1048576))), (0, .ref mo), (1, .int (nI pp))]) hx hb dX7_header_48 rfl hl (by decide) rfl (fun ls hl => ?_)
    refine lv_aload_n hx hb dX7_header_49 rfl (lv_at hl 2 rfl) ?_
    refine lv_iconst (v := nI 2) hx hb dX7_header_50 (by decide) ?_
    refine k_Vi (As := [.int (nI 2)]) (rest := []) (wr := [((a 21), aI g 14 (fun j => nI (tN 0 (j + 1))))]) C hw (c_rbitsF l g _ mo a th ln pl nf dec ho oc orw fi (8 * pp + 13) ((8 * pp) + 32) 0 ly rt sp pd md ex ch sz_ bd bn pr cr 2 T hT (by omega) (by omega) (by omega) (by omega)) (cwV 1 hts gX7_header_X7_bits rfl rfl rfl (by decide +kernel) ⟨Nat.le_of_ble_eq_true rfl, Nat.le_of_ble_eq_true rfl⟩) bl_T (fun _ _ _ => trivial) [0, 1] [2] (by decide) rfl rfl (by decide) (by decide) 0 rfl rfl rfl hl.1 rfl (Nat.le_of_ble_eq_true rfl) dX7_header_51 ⟨Nat.le_of_ble_eq_true rfl, Nat.le_of_ble_eq_true rfl⟩ (fun r_4 u H locs hp hw => ?_)
    obtain ⟨rfl, rfl⟩ := hp
    have hw := Wd.sub (ws' := [(mo, .inr (7, (.int (nI th) :: .ref (a 1) :: .int (nI ln) :: .int (nI pl) :: .ref (a 4) :: .int (nI nf) :: .int (nI dec) :: .ref (a 7) :: .ref (a 8) :: .ref (a 9) :: .int (nI ho) :: .int (nI oc) :: .int (nI orw) :: .ref (a 13) :: .ref (a 14) :: .ref (a 15) :: .ref (a 16) :: .ref (a 17) :: .ref (a 18) :: .ref (a 19) :: .ref (a 20) :: .ref (a 21) :: .ref (a 22) :: .ref (a 23) :: .int (nI fi) :: .int (nI (8 * pp + 15)) :: .int (nI ((8 * pp) + 32)) :: .int (nI 0) :: .int (nI ly) :: .int (nI rt) :: .int (nI sp) :: .int (nI pd) :: .int (nI md) :: .int (nI ex) :: .int (nI ch) :: .int (nI sz_) :: .int (nI bd) :: .int (nI bn) :: .int (nI pr) :: .int (nI cr) :: []))), ((a 1), aB g 4000 (fun j => nB (T j))), ((a 21), aI g 14 (fun j => nI (tN 0 (j + 1))))]) hw [1, 2, 0] (by decide) rfl
    refine tp1 (v' := (nI (wq / 131072 % 4))) (congrArg nI e_51) ?_
    refine lv_istore (lv' := [(4, .int (nI (wq / 131072 % 4))), (3, .int (nI (wq / 524288 % 2))), (2, .int (nI (wq / 1048576))), (0, .ref mo), (1, .int (nI pp))]) hx hb dX7_header_54 hl (by decide) rfl (fun ls hl => ?_)
    refine lv_aload_n hx hb dX7_header_56 rfl (lv_at hl 3 rfl) ?_
    refine lv_aload_n hx hb dX7_header_57 rfl (lv_at hl 3 rfl) ?_
    refine lv_iconst (v := nI 1) hx hb dX7_header_58 (by decide) ?_
    refine k_Vi (As := [.int (nI 1)]) (rest := [.ref mo]) (wr := [((a 21), aI g 14 (fun j => nI (tN 0 (j + 1))))]) C hw (c_rbitsF l g _ mo a th ln pl nf dec ho oc orw fi (8 * pp + 15) ((8 * pp) + 32) 0 ly rt sp pd md ex ch sz_ bd bn pr cr 1 T hT (by omega) (by omega) (by omega) (by omega)) (cwV 1 hts gX7_header_X7_bits rfl rfl rfl (by decide +kernel) ⟨Nat.le_of_ble_eq_true rfl, Nat.le_of_ble_eq_true rfl⟩) bl_T (fun _ _ _ => trivial) [0, 1] [2] (by decide) rfl rfl (by decide) (by decide) 0 rfl rfl rfl hl.1 rfl (Nat.le_of_ble_eq_true rfl) dX7_header_59 ⟨Nat.le_of_ble_eq_true rfl, Nat.le_of_ble_eq_true rfl⟩ (fun r_5 u H locs hp hw => ?_)
    obtain ⟨rfl, rfl⟩ := hp
    have hw := Wd.sub (ws' := [(mo, .inr (7, (.int (nI th) :: .ref (a 1) :: .int (nI ln) :: .int (nI pl) :: .ref (a 4) :: .int (nI nf) :: .int (nI dec) :: .ref (a 7) :: .ref (a 8) :: .ref (a 9) :: .int (nI ho) :: .int (nI oc) :: .int (nI orw) :: .ref (a 13) :: .ref (a 14) :: .ref (a 15) :: .ref (a 16) :: .ref (a 17) :: .ref (a 18) :: .ref (a 19) :: .ref (a 20) :: .ref (a 21) :: .ref (a 22) :: .ref (a 23) :: .int (nI fi) :: .int (nI (8 * pp + 16)) :: .int (nI ((8 * pp) + 32)) :: .int (nI 0) :: .int (nI ly) :: .int (nI rt) :: .int (nI sp) :: .int (nI pd) :: .int (nI md) :: .int (nI ex) :: .int (nI ch) :: .int (nI sz_) :: .int (nI bd) :: .int (nI bn) :: .int (nI pr) :: .int (nI cr) :: []))), ((a 1), aB g 4000 (fun j => nB (T j))), ((a 21), aI g 14 (fun j => nI (tN 0 (j + 1))))]) hw [1, 2, 0] (by decide) rfl
    refine tp1 (v' := (nI (wq / 65536 % 2))) (congrArg nI e_59) ?_
    refine jw (pcj := 70) (restj := [.int (nI (chkS wq)), .ref mo]) (fun H locs ls => Wd g (va_A [(mo, .inr (7, (.int (nI th) :: .ref (a 1) :: .int (nI ln) :: .int (nI pl) :: .ref (a 4) :: .int (nI nf) :: .int (nI dec) :: .ref (a 7) :: .ref (a 8) :: .ref (a 9) :: .int (nI ho) :: .int (nI oc) :: .int (nI orw) :: .ref (a 13) :: .ref (a 14) :: .ref (a 15) :: .ref (a 16) :: .ref (a 17) :: .ref (a 18) :: .ref (a 19) :: .ref (a 20) :: .ref (a 21) :: .ref (a 22) :: .ref (a 23) :: .int (nI fi) :: .int (nI at_) :: .int (nI en) :: .int (nI ov) :: .int (nI ly) :: .int (nI rt) :: .int (nI sp) :: .int (nI pd) :: .int (nI md) :: .int (nI ex) :: .int (nI ch) :: .int (nI sz_) :: .int (nI bd) :: .int (nI bn) :: .int (nI pr) :: .int (nI cr) :: []))), ((a 1), aB g 4000 (fun j => nB (T j))), ((a 21), aI g 14 (fun j => nI (tN 0 (j + 1))))] sz) s.heap [(mo, .inr (7, (.int (nI th) :: .ref (a 1) :: .int (nI ln) :: .int (nI pl) :: .ref (a 4) :: .int (nI nf) :: .int (nI dec) :: .ref (a 7) :: .ref (a 8) :: .ref (a 9) :: .int (nI ho) :: .int (nI oc) :: .int (nI orw) :: .ref (a 13) :: .ref (a 14) :: .ref (a 15) :: .ref (a 16) :: .ref (a 17) :: .ref (a 18) :: .ref (a 19) :: .ref (a 20) :: .ref (a 21) :: .ref (a 22) :: .ref (a 23) :: .int (nI fi) :: .int (nI (8 * pp + 16)) :: .int (nI ((8 * pp) + 32)) :: .int (nI 0) :: .int (nI ly) :: .int (nI rt) :: .int (nI sp) :: .int (nI pd) :: .int (nI md) :: .int (nI ex) :: .int (nI ch) :: .int (nI sz_) :: .int (nI bd) :: .int (nI bn) :: .int (nI pr) :: .int (nI cr) :: []))), ((a 1), aB g 4000 (fun j => nB (T j))), ((a 21), aI g 14 (fun j => nI (tN 0 (j + 1))))] H locs ∧ lv_has ls 9 [(4, .int (nI (wq / 131072 % 4))), (3, .int (nI (wq / 524288 % 2))), (2, .int (nI (wq / 1048576))), (0, .ref mo), (1, .int (nI pp))]) ?_ ?_
    · intro H locs ls hJ
      obtain ⟨hw, hl⟩ := hJ
      refine r_put C hw in_X7 tyX7_ok nmX7 0 rfl rfl 38 (by decide) lk136 rfl (narZ (chk_le wq)) (fitZ (chk_le wq)) (Nat.le_of_ble_eq_true rfl) (ws' := [(mo, .inr (7, (.int (nI th) :: .ref (a 1) :: .int (nI ln) :: .int (nI pl) :: .ref (a 4) :: .int (nI nf) :: .int (nI dec) :: .ref (a 7) :: .ref (a 8) :: .ref (a 9) :: .int (nI ho) :: .int (nI oc) :: .int (nI orw) :: .ref (a 13) :: .ref (a 14) :: .ref (a 15) :: .ref (a 16) :: .ref (a 17) :: .ref (a 18) :: .ref (a 19) :: .ref (a 20) :: .ref (a 21) :: .ref (a 22) :: .ref (a 23) :: .int (nI fi) :: .int (nI (8 * pp + 16)) :: .int (nI ((8 * pp) + 32)) :: .int (nI 0) :: .int (nI ly) :: .int (nI rt) :: .int (nI sp) :: .int (nI pd) :: .int (nI md) :: .int (nI ex) :: .int (nI ch) :: .int (nI sz_) :: .int (nI bd) :: .int (nI bn) :: .int (nI (chkS wq)) :: .int (nI cr) :: []))), ((a 1), aB g 4000 (fun j => nB (T j))), ((a 21), aI g 14 (fun j => nI (tN 0 (j + 1))))]) rfl dX7_header_70 (fun H locs hw => ?_)
      refine lv_aload_n hx hb dX7_header_73 rfl (lv_at hl 3 rfl) ?_
      refine lv_iconst (v := nI 4) hx hb dX7_header_74 (by decide) ?_
      refine k_Vi (As := [.int (nI 4)]) (rest := []) (wr := [((a 21), aI g 14 (fun j => nI (tN 0 (j + 1))))]) C hw (c_rbitsF l g _ mo a th ln pl nf dec ho oc orw fi (8 * pp + 16) ((8 * pp) + 32) 0 ly rt sp pd md ex ch sz_ bd bn (chkS wq) cr 4 T hT (by omega) (by omega) (by omega) (by omega)) (cwV 1 hts gX7_header_X7_bits rfl rfl rfl (by decide +kernel) ⟨Nat.le_of_ble_eq_true rfl, Nat.le_of_ble_eq_true rfl⟩) bl_T (fun _ _ _ => trivial) [0, 1] [2] (by decide) rfl rfl (by decide) (by decide) 0 rfl rfl rfl hl.1 rfl (Nat.le_of_ble_eq_true rfl) dX7_header_75 ⟨Nat.le_of_ble_eq_true rfl, Nat.le_of_ble_eq_true rfl⟩ (fun r_6 u H locs hp hw => ?_)
      obtain ⟨rfl, rfl⟩ := hp
      have hw := Wd.sub (ws' := [(mo, .inr (7, (.int (nI th) :: .ref (a 1) :: .int (nI ln) :: .int (nI pl) :: .ref (a 4) :: .int (nI nf) :: .int (nI dec) :: .ref (a 7) :: .ref (a 8) :: .ref (a 9) :: .int (nI ho) :: .int (nI oc) :: .int (nI orw) :: .ref (a 13) :: .ref (a 14) :: .ref (a 15) :: .ref (a 16) :: .ref (a 17) :: .ref (a 18) :: .ref (a 19) :: .ref (a 20) :: .ref (a 21) :: .ref (a 22) :: .ref (a 23) :: .int (nI fi) :: .int (nI (8 * pp + 20)) :: .int (nI ((8 * pp) + 32)) :: .int (nI 0) :: .int (nI ly) :: .int (nI rt) :: .int (nI sp) :: .int (nI pd) :: .int (nI md) :: .int (nI ex) :: .int (nI ch) :: .int (nI sz_) :: .int (nI bd) :: .int (nI bn) :: .int (nI (chkS wq)) :: .int (nI cr) :: []))), ((a 1), aB g 4000 (fun j => nB (T j))), ((a 21), aI g 14 (fun j => nI (tN 0 (j + 1))))]) hw [1, 2, 0] (by decide) rfl
      refine tp1 (v' := (nI (wq / 4096 % 16))) (congrArg nI e_75) ?_
      refine lv_istore (lv' := [(5, .int (nI (wq / 4096 % 16))), (4, .int (nI (wq / 131072 % 4))), (3, .int (nI (wq / 524288 % 2))), (2, .int (nI (wq / 1048576))), (0, .ref mo), (1, .int (nI pp))]) hx hb dX7_header_78 hl (by decide) rfl (fun ls hl => ?_)
      refine lv_aload_n hx hb dX7_header_80 rfl (lv_at hl 4 rfl) ?_
      refine lv_iconst (v := nI 2) hx hb dX7_header_81 (by decide) ?_
      refine k_Vi (As := [.int (nI 2)]) (rest := []) (wr := [((a 21), aI g 14 (fun j => nI (tN 0 (j + 1))))]) C hw (c_rbitsF l g _ mo a th ln pl nf dec ho oc orw fi (8 * pp + 20) ((8 * pp) + 32) 0 ly rt sp pd md ex ch sz_ bd bn (chkS wq) cr 2 T hT (by omega) (by omega) (by omega) (by omega)) (cwV 1 hts gX7_header_X7_bits rfl rfl rfl (by decide +kernel) ⟨Nat.le_of_ble_eq_true rfl, Nat.le_of_ble_eq_true rfl⟩) bl_T (fun _ _ _ => trivial) [0, 1] [2] (by decide) rfl rfl (by decide) (by decide) 0 rfl rfl rfl hl.1 rfl (Nat.le_of_ble_eq_true rfl) dX7_header_82 ⟨Nat.le_of_ble_eq_true rfl, Nat.le_of_ble_eq_true rfl⟩ (fun r_7 u H locs hp hw => ?_)
      obtain ⟨rfl, rfl⟩ := hp
      have hw := Wd.sub (ws' := [(mo, .inr (7, (.int (nI th) :: .ref (a 1) :: .int (nI ln) :: .int (nI pl) :: .ref (a 4) :: .int (nI nf) :: .int (nI dec) :: .ref (a 7) :: .ref (a 8) :: .ref (a 9) :: .int (nI ho) :: .int (nI oc) :: .int (nI orw) :: .ref (a 13) :: .ref (a 14) :: .ref (a 15) :: .ref (a 16) :: .ref (a 17) :: .ref (a 18) :: .ref (a 19) :: .ref (a 20) :: .ref (a 21) :: .ref (a 22) :: .ref (a 23) :: .int (nI fi) :: .int (nI (8 * pp + 22)) :: .int (nI ((8 * pp) + 32)) :: .int (nI 0) :: .int (nI ly) :: .int (nI rt) :: .int (nI sp) :: .int (nI pd) :: .int (nI md) :: .int (nI ex) :: .int (nI ch) :: .int (nI sz_) :: .int (nI bd) :: .int (nI bn) :: .int (nI (chkS wq)) :: .int (nI cr) :: []))), ((a 1), aB g 4000 (fun j => nB (T j))), ((a 21), aI g 14 (fun j => nI (tN 0 (j + 1))))]) hw [1, 2, 0] (by decide) rfl
      refine tp1 (v' := (nI (wq / 1024 % 4))) (congrArg nI e_82) ?_
      refine lv_istore (lv' := [(6, .int (nI (wq / 1024 % 4))), (5, .int (nI (wq / 4096 % 16))), (4, .int (nI (wq / 131072 % 4))), (3, .int (nI (wq / 524288 % 2))), (2, .int (nI (wq / 1048576))), (0, .ref mo), (1, .int (nI pp))]) hx hb dX7_header_85 hl (by decide) rfl (fun ls hl => ?_)
      refine lv_aload_n hx hb dX7_header_87 rfl (lv_at hl 5 rfl) ?_
      refine lv_aload_n hx hb dX7_header_88 rfl (lv_at hl 5 rfl) ?_
      refine lv_iconst (v := nI 1) hx hb dX7_header_89 (by decide) ?_
      refine k_Vi (As := [.int (nI 1)]) (rest := [.ref mo]) (wr := [((a 21), aI g 14 (fun j => nI (tN 0 (j + 1))))]) C hw (c_rbitsF l g _ mo a th ln pl nf dec ho oc orw fi (8 * pp + 22) ((8 * pp) + 32) 0 ly rt sp pd md ex ch sz_ bd bn (chkS wq) cr 1 T hT (by omega) (by omega) (by omega) (by omega)) (cwV 1 hts gX7_header_X7_bits rfl rfl rfl (by decide +kernel) ⟨Nat.le_of_ble_eq_true rfl, Nat.le_of_ble_eq_true rfl⟩) bl_T (fun _ _ _ => trivial) [0, 1] [2] (by decide) rfl rfl (by decide) (by decide) 0 rfl rfl rfl hl.1 rfl (Nat.le_of_ble_eq_true rfl) dX7_header_90 ⟨Nat.le_of_ble_eq_true rfl, Nat.le_of_ble_eq_true rfl⟩ (fun r_8 u H locs hp hw => ?_)
      obtain ⟨rfl, rfl⟩ := hp
      have hw := Wd.sub (ws' := [(mo, .inr (7, (.int (nI th) :: .ref (a 1) :: .int (nI ln) :: .int (nI pl) :: .ref (a 4) :: .int (nI nf) :: .int (nI dec) :: .ref (a 7) :: .ref (a 8) :: .ref (a 9) :: .int (nI ho) :: .int (nI oc) :: .int (nI orw) :: .ref (a 13) :: .ref (a 14) :: .ref (a 15) :: .ref (a 16) :: .ref (a 17) :: .ref (a 18) :: .ref (a 19) :: .ref (a 20) :: .ref (a 21) :: .ref (a 22) :: .ref (a 23) :: .int (nI fi) :: .int (nI (8 * pp + 23)) :: .int (nI ((8 * pp) + 32)) :: .int (nI 0) :: .int (nI ly) :: .int (nI rt) :: .int (nI sp) :: .int (nI pd) :: .int (nI md) :: .int (nI ex) :: .int (nI ch) :: .int (nI sz_) :: .int (nI bd) :: .int (nI bn) :: .int (nI (chkS wq)) :: .int (nI cr) :: []))), ((a 1), aB g 4000 (fun j => nB (T j))), ((a 21), aI g 14 (fun j => nI (tN 0 (j + 1))))]) hw [1, 2, 0] (by decide) rfl
      refine tp1 (v' := (nI (wq / 512 % 2))) (congrArg nI e_90) ?_
      refine r_put C hw in_X7 tyX7_ok nmX7 0 rfl rfl 31 (by decide) lk139 rfl rfl rfl (Nat.le_of_ble_eq_true rfl) (ws' := [(mo, .inr (7, (.int (nI th) :: .ref (a 1) :: .int (nI ln) :: .int (nI pl) :: .ref (a 4) :: .int (nI nf) :: .int (nI dec) :: .ref (a 7) :: .ref (a 8) :: .ref (a 9) :: .int (nI ho) :: .int (nI oc) :: .int (nI orw) :: .ref (a 13) :: .ref (a 14) :: .ref (a 15) :: .ref (a 16) :: .ref (a 17) :: .ref (a 18) :: .ref (a 19) :: .ref (a 20) :: .ref (a 21) :: .ref (a 22) :: .ref (a 23) :: .int (nI fi) :: .int (nI (8 * pp + 23)) :: .int (nI ((8 * pp) + 32)) :: .int (nI 0) :: .int (nI ly) :: .int (nI rt) :: .int (nI sp) :: .int (nI (wq / 512 % 2)) :: .int (nI md) :: .int (nI ex) :: .int (nI ch) :: .int (nI sz_) :: .int (nI bd) :: .int (nI bn) :: .int (nI (chkS wq)) :: .int (nI cr) :: []))), ((a 1), aB g 4000 (fun j => nB (T j))), ((a 21), aI g 14 (fun j => nI (tN 0 (j + 1))))]) rfl dX7_header_93 (fun H locs hw => ?_)
      refine lv_aload_n hx hb dX7_header_96 rfl (lv_at hl 5 rfl) ?_
      refine lv_iconst (v := nI 1) hx hb dX7_header_97 (by decide) ?_
      refine k_Vi (As := [.int (nI 1)]) (rest := []) (wr := [((a 21), aI g 14 (fun j => nI (tN 0 (j + 1))))]) C hw (c_rbitsF l g _ mo a th ln pl nf dec ho oc orw fi (8 * pp + 23) ((8 * pp) + 32) 0 ly rt sp (wq / 512 % 2) md ex ch sz_ bd bn (chkS wq) cr 1 T hT (by omega) (by omega) (by omega) (by omega)) (cwV 1 hts gX7_header_X7_bits rfl rfl rfl (by decide +kernel) ⟨Nat.le_of_ble_eq_true rfl, Nat.le_of_ble_eq_true rfl⟩) bl_T (fun _ _ _ => trivial) [0, 1] [2] (by decide) rfl rfl (by decide) (by decide) 0 rfl rfl rfl hl.1 rfl (Nat.le_of_ble_eq_true rfl) dX7_header_98 ⟨Nat.le_of_ble_eq_true rfl, Nat.le_of_ble_eq_true rfl⟩ (fun r_9 u H locs hp hw => ?_)
      obtain ⟨rfl, rfl⟩ := hp
      have hw := Wd.sub (ws' := [(mo, .inr (7, (.int (nI th) :: .ref (a 1) :: .int (nI ln) :: .int (nI pl) :: .ref (a 4) :: .int (nI nf) :: .int (nI dec) :: .ref (a 7) :: .ref (a 8) :: .ref (a 9) :: .int (nI ho) :: .int (nI oc) :: .int (nI orw) :: .ref (a 13) :: .ref (a 14) :: .ref (a 15) :: .ref (a 16) :: .ref (a 17) :: .ref (a 18) :: .ref (a 19) :: .ref (a 20) :: .ref (a 21) :: .ref (a 22) :: .ref (a 23) :: .int (nI fi) :: .int (nI (8 * pp + 24)) :: .int (nI ((8 * pp) + 32)) :: .int (nI 0) :: .int (nI ly) :: .int (nI rt) :: .int (nI sp) :: .int (nI (wq / 512 % 2)) :: .int (nI md) :: .int (nI ex) :: .int (nI ch) :: .int (nI sz_) :: .int (nI bd) :: .int (nI bn) :: .int (nI (chkS wq)) :: .int (nI cr) :: []))), ((a 1), aB g 4000 (fun j => nB (T j))), ((a 21), aI g 14 (fun j => nI (tN 0 (j + 1))))]) hw [1, 2, 0] (by decide) rfl
      refine lv_pop hx hb dX7_header_101 rfl ?_
      refine lv_aload_n hx hb dX7_header_102 rfl (lv_at hl 5 rfl) ?_
      refine lv_aload_n hx hb dX7_header_103 rfl (lv_at hl 5 rfl) ?_
      refine lv_iconst (v := nI 2) hx hb dX7_header_104 (by decide) ?_
      refine k_Vi (As := [.int (nI 2)]) (rest := [.ref mo]) (wr := [((a 21), aI g 14 (fun j => nI (tN 0 (j + 1))))]) C hw (c_rbitsF l g _ mo a th ln pl nf dec ho oc orw fi (8 * pp + 24) ((8 * pp) + 32) 0 ly rt sp (wq / 512 % 2) md ex ch sz_ bd bn (chkS wq) cr 2 T hT (by omega) (by omega) (by omega) (by omega)) (cwV 1 hts gX7_header_X7_bits rfl rfl rfl (by decide +kernel) ⟨Nat.le_of_ble_eq_true rfl, Nat.le_of_ble_eq_true rfl⟩) bl_T (fun _ _ _ => trivial) [0, 1] [2] (by decide) rfl rfl (by decide) (by decide) 0 rfl rfl rfl hl.1 rfl (Nat.le_of_ble_eq_true rfl) dX7_header_105 ⟨Nat.le_of_ble_eq_true rfl, Nat.le_of_ble_eq_true rfl⟩ (fun r_10 u H locs hp hw => ?_)
      obtain ⟨rfl, rfl⟩ := hp
      have hw := Wd.sub (ws' := [(mo, .inr (7, (.int (nI th) :: .ref (a 1) :: .int (nI ln) :: .int (nI pl) :: .ref (a 4) :: .int (nI nf) :: .int (nI dec) :: .ref (a 7) :: .ref (a 8) :: .ref (a 9) :: .int (nI ho) :: .int (nI oc) :: .int (nI orw) :: .ref (a 13) :: .ref (a 14) :: .ref (a 15) :: .ref (a 16) :: .ref (a 17) :: .ref (a 18) :: .ref (a 19) :: .ref (a 20) :: .ref (a 21) :: .ref (a 22) :: .ref (a 23) :: .int (nI fi) :: .int (nI (8 * pp + 26)) :: .int (nI ((8 * pp) + 32)) :: .int (nI 0) :: .int (nI ly) :: .int (nI rt) :: .int (nI sp) :: .int (nI (wq / 512 % 2)) :: .int (nI md) :: .int (nI ex) :: .int (nI ch) :: .int (nI sz_) :: .int (nI bd) :: .int (nI bn) :: .int (nI (chkS wq)) :: .int (nI cr) :: []))), ((a 1), aB g 4000 (fun j => nB (T j))), ((a 21), aI g 14 (fun j => nI (tN 0 (j + 1))))]) hw [1, 2, 0] (by decide) rfl
      refine tp1 (v' := (nI (modeS wq))) (congrArg nI e_105) ?_
      refine r_put C hw in_X7 tyX7_ok nmX7 0 rfl rfl 32 (by decide) lk142 rfl rfl rfl (Nat.le_of_ble_eq_true rfl) (ws' := [(mo, .inr (7, (.int (nI th) :: .ref (a 1) :: .int (nI ln) :: .int (nI pl) :: .ref (a 4) :: .int (nI nf) :: .int (nI dec) :: .ref (a 7) :: .ref (a 8) :: .ref (a 9) :: .int (nI ho) :: .int (nI oc) :: .int (nI orw) :: .ref (a 13) :: .ref (a 14) :: .ref (a 15) :: .ref (a 16) :: .ref (a 17) :: .ref (a 18) :: .ref (a 19) :: .ref (a 20) :: .ref (a 21) :: .ref (a 22) :: .ref (a 23) :: .int (nI fi) :: .int (nI (8 * pp + 26)) :: .int (nI ((8 * pp) + 32)) :: .int (nI 0) :: .int (nI ly) :: .int (nI rt) :: .int (nI sp) :: .int (nI (wq / 512 % 2)) :: .int (nI (modeS wq)) :: .int (nI ex) :: .int (nI ch) :: .int (nI sz_) :: .int (nI bd) :: .int (nI bn) :: .int (nI (chkS wq)) :: .int (nI cr) :: []))), ((a 1), aB g 4000 (fun j => nB (T j))), ((a 21), aI g 14 (fun j => nI (tN 0 (j + 1))))]) rfl dX7_header_108 (fun H locs hw => ?_)
      refine lv_aload_n hx hb dX7_header_111 rfl (lv_at hl 5 rfl) ?_
      refine lv_aload_n hx hb dX7_header_112 rfl (lv_at hl 5 rfl) ?_
      refine lv_iconst (v := nI 2) hx hb dX7_header_113 (by decide) ?_
      refine k_Vi (As := [.int (nI 2)]) (rest := [.ref mo]) (wr := [((a 21), aI g 14 (fun j => nI (tN 0 (j + 1))))]) C hw (c_rbitsF l g _ mo a th ln pl nf dec ho oc orw fi (8 * pp + 26) ((8 * pp) + 32) 0 ly rt sp (wq / 512 % 2) (modeS wq) ex ch sz_ bd bn (chkS wq) cr 2 T hT (by omega) (by omega) (by omega) (by omega)) (cwV 1 hts gX7_header_X7_bits rfl rfl rfl (by decide +kernel) ⟨Nat.le_of_ble_eq_true rfl, Nat.le_of_ble_eq_true rfl⟩) bl_T (fun _ _ _ => trivial) [0, 1] [2] (by decide) rfl rfl (by decide) (by decide) 0 rfl rfl rfl hl.1 rfl (Nat.le_of_ble_eq_true rfl) dX7_header_114 ⟨Nat.le_of_ble_eq_true rfl, Nat.le_of_ble_eq_true rfl⟩ (fun r_11 u H locs hp hw => ?_)
      obtain ⟨rfl, rfl⟩ := hp
      have hw := Wd.sub (ws' := [(mo, .inr (7, (.int (nI th) :: .ref (a 1) :: .int (nI ln) :: .int (nI pl) :: .ref (a 4) :: .int (nI nf) :: .int (nI dec) :: .ref (a 7) :: .ref (a 8) :: .ref (a 9) :: .int (nI ho) :: .int (nI oc) :: .int (nI orw) :: .ref (a 13) :: .ref (a 14) :: .ref (a 15) :: .ref (a 16) :: .ref (a 17) :: .ref (a 18) :: .ref (a 19) :: .ref (a 20) :: .ref (a 21) :: .ref (a 22) :: .ref (a 23) :: .int (nI fi) :: .int (nI (8 * pp + 28)) :: .int (nI ((8 * pp) + 32)) :: .int (nI 0) :: .int (nI ly) :: .int (nI rt) :: .int (nI sp) :: .int (nI (wq / 512 % 2)) :: .int (nI (modeS wq)) :: .int (nI ex) :: .int (nI ch) :: .int (nI sz_) :: .int (nI bd) :: .int (nI bn) :: .int (nI (chkS wq)) :: .int (nI cr) :: []))), ((a 1), aB g 4000 (fun j => nB (T j))), ((a 21), aI g 14 (fun j => nI (tN 0 (j + 1))))]) hw [1, 2, 0] (by decide) rfl
      refine tp1 (v' := (nI (wq / 16 % 4))) (congrArg nI e_114) ?_
      refine r_put C hw in_X7 tyX7_ok nmX7 0 rfl rfl 33 (by decide) lk145 rfl rfl rfl (Nat.le_of_ble_eq_true rfl) (ws' := [(mo, .inr (7, (.int (nI th) :: .ref (a 1) :: .int (nI ln) :: .int (nI pl) :: .ref (a 4) :: .int (nI nf) :: .int (nI dec) :: .ref (a 7) :: .ref (a 8) :: .ref (a 9) :: .int (nI ho) :: .int (nI oc) :: .int (nI orw) :: .ref (a 13) :: .ref (a 14) :: .ref (a 15) :: .ref (a 16) :: .ref (a 17) :: .ref (a 18) :: .ref (a 19) :: .ref (a 20) :: .ref (a 21) :: .ref (a 22) :: .ref (a 23) :: .int (nI fi) :: .int (nI (8 * pp + 28)) :: .int (nI ((8 * pp) + 32)) :: .int (nI 0) :: .int (nI ly) :: .int (nI rt) :: .int (nI sp) :: .int (nI (wq / 512 % 2)) :: .int (nI (modeS wq)) :: .int (nI (wq / 16 % 4)) :: .int (nI ch) :: .int (nI sz_) :: .int (nI bd) :: .int (nI bn) :: .int (nI (chkS wq)) :: .int (nI cr) :: []))), ((a 1), aB g 4000 (fun j => nB (T j))), ((a 21), aI g 14 (fun j => nI (tN 0 (j + 1))))]) rfl dX7_header_117 (fun H locs hw => ?_)
      refine lv_aload_n hx hb dX7_header_120 rfl (lv_at hl 5 rfl) ?_
      refine lv_iconst (v := nI 2) hx hb dX7_header_121 (by decide) ?_
      refine k_Vi (As := [.int (nI 2)]) (rest := []) (wr := [((a 21), aI g 14 (fun j => nI (tN 0 (j + 1))))]) C hw (c_rbitsF l g _ mo a th ln pl nf dec ho oc orw fi (8 * pp + 28) ((8 * pp) + 32) 0 ly rt sp (wq / 512 % 2) (modeS wq) (wq / 16 % 4) ch sz_ bd bn (chkS wq) cr 2 T hT (by omega) (by omega) (by omega) (by omega)) (cwV 1 hts gX7_header_X7_bits rfl rfl rfl (by decide +kernel) ⟨Nat.le_of_ble_eq_true rfl, Nat.le_of_ble_eq_true rfl⟩) bl_T (fun _ _ _ => trivial) [0, 1] [2] (by decide) rfl rfl (by decide) (by decide) 0 rfl rfl rfl hl.1 rfl (Nat.le_of_ble_eq_true rfl) dX7_header_122 ⟨Nat.le_of_ble_eq_true rfl, Nat.le_of_ble_eq_true rfl⟩ (fun r_12 u H locs hp hw => ?_)
      obtain ⟨rfl, rfl⟩ := hp
      have hw := Wd.sub (ws' := [(mo, .inr (7, (.int (nI th) :: .ref (a 1) :: .int (nI ln) :: .int (nI pl) :: .ref (a 4) :: .int (nI nf) :: .int (nI dec) :: .ref (a 7) :: .ref (a 8) :: .ref (a 9) :: .int (nI ho) :: .int (nI oc) :: .int (nI orw) :: .ref (a 13) :: .ref (a 14) :: .ref (a 15) :: .ref (a 16) :: .ref (a 17) :: .ref (a 18) :: .ref (a 19) :: .ref (a 20) :: .ref (a 21) :: .ref (a 22) :: .ref (a 23) :: .int (nI fi) :: .int (nI (8 * pp + 30)) :: .int (nI ((8 * pp) + 32)) :: .int (nI 0) :: .int (nI ly) :: .int (nI rt) :: .int (nI sp) :: .int (nI (wq / 512 % 2)) :: .int (nI (modeS wq)) :: .int (nI (wq / 16 % 4)) :: .int (nI ch) :: .int (nI sz_) :: .int (nI bd) :: .int (nI bn) :: .int (nI (chkS wq)) :: .int (nI cr) :: []))), ((a 1), aB g 4000 (fun j => nB (T j))), ((a 21), aI g 14 (fun j => nI (tN 0 (j + 1))))]) hw [1, 2, 0] (by decide) rfl
      refine lv_pop hx hb dX7_header_125 rfl ?_
      refine lv_aload_n hx hb dX7_header_126 rfl (lv_at hl 5 rfl) ?_
      refine lv_iconst (v := nI 2) hx hb dX7_header_127 (by decide) ?_
      refine k_Vi (As := [.int (nI 2)]) (rest := []) (wr := [((a 21), aI g 14 (fun j => nI (tN 0 (j + 1))))]) C hw (c_rbitsF l g _ mo a th ln pl nf dec ho oc orw fi (8 * pp + 30) ((8 * pp) + 32) 0 ly rt sp (wq / 512 % 2) (modeS wq) (wq / 16 % 4) ch sz_ bd bn (chkS wq) cr 2 T hT (by omega) (by omega) (by omega) (by omega)) (cwV 1 hts gX7_header_X7_bits rfl rfl rfl (by decide +kernel) ⟨Nat.le_of_ble_eq_true rfl, Nat.le_of_ble_eq_true rfl⟩) bl_T (fun _ _ _ => trivial) [0, 1] [2] (by decide) rfl rfl (by decide) (by decide) 0 rfl rfl rfl hl.1 rfl (Nat.le_of_ble_eq_true rfl) dX7_header_128 ⟨Nat.le_of_ble_eq_true rfl, Nat.le_of_ble_eq_true rfl⟩ (fun r_13 u H locs hp hw => ?_)
      obtain ⟨rfl, rfl⟩ := hp
      have hw := Wd.sub (ws' := [(mo, .inr (7, (.int (nI th) :: .ref (a 1) :: .int (nI ln) :: .int (nI pl) :: .ref (a 4) :: .int (nI nf) :: .int (nI dec) :: .ref (a 7) :: .ref (a 8) :: .ref (a 9) :: .int (nI ho) :: .int (nI oc) :: .int (nI orw) :: .ref (a 13) :: .ref (a 14) :: .ref (a 15) :: .ref (a 16) :: .ref (a 17) :: .ref (a 18) :: .ref (a 19) :: .ref (a 20) :: .ref (a 21) :: .ref (a 22) :: .ref (a 23) :: .int (nI fi) :: .int (nI (8 * pp + 32)) :: .int (nI ((8 * pp) + 32)) :: .int (nI 0) :: .int (nI ly) :: .int (nI rt) :: .int (nI sp) :: .int (nI (wq / 512 % 2)) :: .int (nI (modeS wq)) :: .int (nI (wq / 16 % 4)) :: .int (nI ch) :: .int (nI sz_) :: .int (nI bd) :: .int (nI bn) :: .int (nI (chkS wq)) :: .int (nI cr) :: []))), ((a 1), aB g 4000 (fun j => nB (T j))), ((a 21), aI g 14 (fun j => nI (tN 0 (j + 1))))]) hw [1, 2, 0] (by decide) rfl
      refine tp1 (v' := (nI (wq % 4))) (congrArg nI e_128) ?_
      refine lv_istore (lv' := [(7, .int (nI (wq % 4))), (6, .int (nI (wq / 1024 % 4))), (5, .int (nI (wq / 4096 % 16))), (4, .int (nI (wq / 131072 % 4))), (3, .int (nI (wq / 524288 % 2))), (2, .int (nI (wq / 1048576))), (0, .ref mo), (1, .int (nI pp))]) hx hb dX7_header_131 hl (by decide) rfl (fun ls hl => ?_)
      refine lv_iload_n hx hb dX7_header_133 rfl (lv_at hl 5 rfl) ?_
      refine lv_sipush (v := nI 4095) hx hb dX7_header_134 (by decide) ?_
      refine n_cne (tgt := 176) hx hb (by omega) (by omega) dX7_header_137 (by decide) (fun c_14 => ?_) (fun c_14 => ?_)
      · skip
        refine lv_iconst (v := nI 0) hx hb dX7_header_176 (by decide) ?_
        have hg0 : goodS wq = 0 := good_bad (fun q => by have q1 := q.1; have q2 := q.2.1; have q3 := q.2.2.1; have q4 := q.2.2.2.1; have q5 := q.2.2.2.2.1; have q6 := q.2.2.2.2.2.1; have q7 := q.2.2.2.2.2.2; omega)
        exact r_zret C hw (by decide) (Nat.le_refl _) (Nat.le_refl _) (⟨congrArg nI hg0.symm, _, _, _, _, _, _, _, _, _, _, _, _, _, _, rfl, fun q => absurd hg0 q⟩) dX7_header_177
      · skip
        refine lv_iload_n hx hb dX7_header_140 rfl (lv_at hl 4 rfl) ?_
        refine lv_iconst (v := nI 1) hx hb dX7_header_141 (by decide) ?_
        refine n_cne (tgt := 176) hx hb (by omega) (by omega) dX7_header_142 (by decide) (fun c_15 => ?_) (fun c_15 => ?_)
        · skip
          refine lv_iconst (v := nI 0) hx hb dX7_header_176 (by decide) ?_
          have hg0 : goodS wq = 0 := good_bad (fun q => by have q1 := q.1; have q2 := q.2.1; have q3 := q.2.2.1; have q4 := q.2.2.2.1; have q5 := q.2.2.2.2.1; have q6 := q.2.2.2.2.2.1; have q7 := q.2.2.2.2.2.2; omega)
          exact r_zret C hw (by decide) (Nat.le_refl _) (Nat.le_refl _) (⟨congrArg nI hg0.symm, _, _, _, _, _, _, _, _, _, _, _, _, _, _, rfl, fun q => absurd hg0 q⟩) dX7_header_177
        · skip
          refine lv_iload hx hb dX7_header_145 (lv_at hl 3 rfl) ?_
          refine lv_iconst (v := nI 2) hx hb dX7_header_147 (by decide) ?_
          refine n_clt (tgt := 176) hx hb (by omega) (by omega) dX7_header_148 (by decide) (fun c_16 => ?_) (fun c_16 => ?_)
          · skip
            refine lv_iconst (v := nI 0) hx hb dX7_header_176 (by decide) ?_
            have hg0 : goodS wq = 0 := good_bad (fun q => by have q1 := q.1; have q2 := q.2.1; have q3 := q.2.2.1; have q4 := q.2.2.2.1; have q5 := q.2.2.2.2.1; have q6 := q.2.2.2.2.2.1; have q7 := q.2.2.2.2.2.2; omega)
            exact r_zret C hw (by decide) (Nat.le_refl _) (Nat.le_refl _) (⟨congrArg nI hg0.symm, _, _, _, _, _, _, _, _, _, _, _, _, _, _, rfl, fun q => absurd hg0 q⟩) dX7_header_177
          · skip
            refine lv_iload hx hb dX7_header_151 (lv_at hl 2 rfl) ?_
            refine lv_iconst (v := nI 1) hx hb dX7_header_153 (by decide) ?_
            refine n_clt (tgt := 176) hx hb (by omega) (by omega) dX7_header_154 (by decide) (fun c_17 => ?_) (fun c_17 => ?_)
            · skip
              refine lv_iconst (v := nI 0) hx hb dX7_header_176 (by decide) ?_
              have hg0 : goodS wq = 0 := good_bad (fun q => by have q1 := q.1; have q2 := q.2.1; have q3 := q.2.2.1; have q4 := q.2.2.2.1; have q5 := q.2.2.2.2.1; have q6 := q.2.2.2.2.2.1; have q7 := q.2.2.2.2.2.2; omega)
              exact r_zret C hw (by decide) (Nat.le_refl _) (Nat.le_refl _) (⟨congrArg nI hg0.symm, _, _, _, _, _, _, _, _, _, _, _, _, _, _, rfl, fun q => absurd hg0 q⟩) dX7_header_177
            · skip
              refine lv_iload hx hb dX7_header_157 (lv_at hl 2 rfl) ?_
              refine lv_bipush (v := nI 14) hx hb dX7_header_159 (by decide) ?_
              refine n_cgt (tgt := 176) hx hb (by omega) (by omega) dX7_header_161 (by decide) (fun c_18 => ?_) (fun c_18 => ?_)
              · skip
                refine lv_iconst (v := nI 0) hx hb dX7_header_176 (by decide) ?_
                have hg0 : goodS wq = 0 := good_bad (fun q => by have q1 := q.1; have q2 := q.2.1; have q3 := q.2.2.1; have q4 := q.2.2.2.1; have q5 := q.2.2.2.2.1; have q6 := q.2.2.2.2.2.1; have q7 := q.2.2.2.2.2.2; omega)
                exact r_zret C hw (by decide) (Nat.le_refl _) (Nat.le_refl _) (⟨congrArg nI hg0.symm, _, _, _, _, _, _, _, _, _, _, _, _, _, _, rfl, fun q => absurd hg0 q⟩) dX7_header_177
              · skip
                refine lv_iload hx hb dX7_header_164 (lv_at hl 1 rfl) ?_
                refine lv_iconst (v := nI 3) hx hb dX7_header_166 (by decide) ?_
                refine n_ceq (tgt := 176) hx hb (by omega) (by omega) dX7_header_167 (by decide) (fun c_19 => ?_) (fun c_19 => ?_)
                · skip
                  refine lv_iconst (v := nI 0) hx hb dX7_header_176 (by decide) ?_
                  have hg0 : goodS wq = 0 := good_bad (fun q => by have q1 := q.1; have q2 := q.2.1; have q3 := q.2.2.1; have q4 := q.2.2.2.1; have q5 := q.2.2.2.2.1; have q6 := q.2.2.2.2.2.1; have q7 := q.2.2.2.2.2.2; omega)
                  exact r_zret C hw (by decide) (Nat.le_refl _) (Nat.le_refl _) (⟨congrArg nI hg0.symm, _, _, _, _, _, _, _, _, _, _, _, _, _, _, rfl, fun q => absurd hg0 q⟩) dX7_header_177
                · skip
                  refine lv_iload hx hb dX7_header_170 (lv_at hl 0 rfl) ?_
                  refine lv_iconst (v := nI 2) hx hb dX7_header_172 (by decide) ?_
                  refine n_cne (tgt := 178) hx hb (by omega) (by omega) dX7_header_173 (by decide) (fun c_20 => ?_) (fun c_20 => ?_)
                  · skip
                    have hm : mainS wq := ⟨by omega, by omega, by omega, by omega, by omega, by omega, by omega⟩
                    have hly := layer_of hm.2.2.1
                    have hrt := rate_of hm
                    have hr9 := rate_le wq
                    have hsp := samp_of hm.2.2.2.2.2.1
                    have hs3 : sampS wq = 44100 ∨ sampS wq = 48000 ∨ sampS wq = 32000 := by rw [hsp]; (repeat' split) <;> omega
                    have hgm := good_main hm
                    have hlw := lowS_or (rateS wq)
                    have hsu := suit_or (rateS wq) (modeS wq)
                    have hch := ch_le wq
                    have hmd := mode_le wq
                    have hbn := band_le wq
                    have hcr := cr_le wq
                    have hl0 := layer_le wq
                    refine lv_aload_n hx hb dX7_header_178 rfl (lv_at hl 6 rfl) ?_
                    refine lv_iload hx hb dX7_header_179 (lv_at hl 3 rfl) ?_
                    refine lv_iconst (v := nI 3) hx hb dX7_header_181 (by decide) ?_
                    refine jw (pcj := 190) (restj := [.int (nI (layerS wq)), .ref mo]) (fun H locs ls => Wd g (va_A [(mo, .inr (7, (.int (nI th) :: .ref (a 1) :: .int (nI ln) :: .int (nI pl) :: .ref (a 4) :: .int (nI nf) :: .int (nI dec) :: .ref (a 7) :: .ref (a 8) :: .ref (a 9) :: .int (nI ho) :: .int (nI oc) :: .int (nI orw) :: .ref (a 13) :: .ref (a 14) :: .ref (a 15) :: .ref (a 16) :: .ref (a 17) :: .ref (a 18) :: .ref (a 19) :: .ref (a 20) :: .ref (a 21) :: .ref (a 22) :: .ref (a 23) :: .int (nI fi) :: .int (nI at_) :: .int (nI en) :: .int (nI ov) :: .int (nI ly) :: .int (nI rt) :: .int (nI sp) :: .int (nI pd) :: .int (nI md) :: .int (nI ex) :: .int (nI ch) :: .int (nI sz_) :: .int (nI bd) :: .int (nI bn) :: .int (nI pr) :: .int (nI cr) :: []))), ((a 1), aB g 4000 (fun j => nB (T j))), ((a 21), aI g 14 (fun j => nI (tN 0 (j + 1))))] sz) s.heap [(mo, .inr (7, (.int (nI th) :: .ref (a 1) :: .int (nI ln) :: .int (nI pl) :: .ref (a 4) :: .int (nI nf) :: .int (nI dec) :: .ref (a 7) :: .ref (a 8) :: .ref (a 9) :: .int (nI ho) :: .int (nI oc) :: .int (nI orw) :: .ref (a 13) :: .ref (a 14) :: .ref (a 15) :: .ref (a 16) :: .ref (a 17) :: .ref (a 18) :: .ref (a 19) :: .ref (a 20) :: .ref (a 21) :: .ref (a 22) :: .ref (a 23) :: .int (nI fi) :: .int (nI (8 * pp + 32)) :: .int (nI ((8 * pp) + 32)) :: .int (nI 0) :: .int (nI ly) :: .int (nI rt) :: .int (nI sp) :: .int (nI (wq / 512 % 2)) :: .int (nI (modeS wq)) :: .int (nI (wq / 16 % 4)) :: .int (nI ch) :: .int (nI sz_) :: .int (nI bd) :: .int (nI bn) :: .int (nI (chkS wq)) :: .int (nI cr) :: []))), ((a 1), aB g 4000 (fun j => nB (T j))), ((a 21), aI g 14 (fun j => nI (tN 0 (j + 1))))] H locs ∧ lv_has ls 9 [(7, .int (nI (wq % 4))), (6, .int (nI (wq / 1024 % 4))), (5, .int (nI (wq / 4096 % 16))), (4, .int (nI (wq / 131072 % 4))), (3, .int (nI (wq / 524288 % 2))), (2, .int (nI (wq / 1048576))), (0, .ref mo), (1, .int (nI pp))]) ?_ ?_
                    · intro H locs ls hJ
                      obtain ⟨hw, hl⟩ := hJ
                      refine r_put C hw in_X7 tyX7_ok nmX7 0 rfl rfl 28 (by decide) lk148 rfl rfl rfl (Nat.le_of_ble_eq_true rfl) (ws' := [(mo, .inr (7, (.int (nI th) :: .ref (a 1) :: .int (nI ln) :: .int (nI pl) :: .ref (a 4) :: .int (nI nf) :: .int (nI dec) :: .ref (a 7) :: .ref (a 8) :: .ref (a 9) :: .int (nI ho) :: .int (nI oc) :: .int (nI orw) :: .ref (a 13) :: .ref (a 14) :: .ref (a 15) :: .ref (a 16) :: .ref (a 17) :: .ref (a 18) :: .ref (a 19) :: .ref (a 20) :: .ref (a 21) :: .ref (a 22) :: .ref (a 23) :: .int (nI fi) :: .int (nI (8 * pp + 32)) :: .int (nI ((8 * pp) + 32)) :: .int (nI 0) :: .int (nI (layerS wq)) :: .int (nI rt) :: .int (nI sp) :: .int (nI (wq / 512 % 2)) :: .int (nI (modeS wq)) :: .int (nI (wq / 16 % 4)) :: .int (nI ch) :: .int (nI sz_) :: .int (nI bd) :: .int (nI bn) :: .int (nI (chkS wq)) :: .int (nI cr) :: []))), ((a 1), aB g 4000 (fun j => nB (T j))), ((a 21), aI g 14 (fun j => nI (tN 0 (j + 1))))]) rfl dX7_header_190 (fun H locs hw => ?_)
                      refine lv_aload_n hx hb dX7_header_193 rfl (lv_at hl 6 rfl) ?_
                      refine lv_aload_n hx hb dX7_header_194 rfl (lv_at hl 6 rfl) ?_
                      refine r_get C hw in_X7 0 rfl rfl 28 (by decide) lk148 rfl dX7_header_195 ?_
                      refine lv_iconst (v := nI 1) hx hb dX7_header_198 (by decide) ?_
                      refine jw (pcj := 219) (restj := [.int (nI (rateS wq)), .ref mo]) (fun H locs ls => Wd g (va_A [(mo, .inr (7, (.int (nI th) :: .ref (a 1) :: .int (nI ln) :: .int (nI pl) :: .ref (a 4) :: .int (nI nf) :: .int (nI dec) :: .ref (a 7) :: .ref (a 8) :: .ref (a 9) :: .int (nI ho) :: .int (nI oc) :: .int (nI orw) :: .ref (a 13) :: .ref (a 14) :: .ref (a 15) :: .ref (a 16) :: .ref (a 17) :: .ref (a 18) :: .ref (a 19) :: .ref (a 20) :: .ref (a 21) :: .ref (a 22) :: .ref (a 23) :: .int (nI fi) :: .int (nI at_) :: .int (nI en) :: .int (nI ov) :: .int (nI ly) :: .int (nI rt) :: .int (nI sp) :: .int (nI pd) :: .int (nI md) :: .int (nI ex) :: .int (nI ch) :: .int (nI sz_) :: .int (nI bd) :: .int (nI bn) :: .int (nI pr) :: .int (nI cr) :: []))), ((a 1), aB g 4000 (fun j => nB (T j))), ((a 21), aI g 14 (fun j => nI (tN 0 (j + 1))))] sz) s.heap [(mo, .inr (7, (.int (nI th) :: .ref (a 1) :: .int (nI ln) :: .int (nI pl) :: .ref (a 4) :: .int (nI nf) :: .int (nI dec) :: .ref (a 7) :: .ref (a 8) :: .ref (a 9) :: .int (nI ho) :: .int (nI oc) :: .int (nI orw) :: .ref (a 13) :: .ref (a 14) :: .ref (a 15) :: .ref (a 16) :: .ref (a 17) :: .ref (a 18) :: .ref (a 19) :: .ref (a 20) :: .ref (a 21) :: .ref (a 22) :: .ref (a 23) :: .int (nI fi) :: .int (nI (8 * pp + 32)) :: .int (nI ((8 * pp) + 32)) :: .int (nI 0) :: .int (nI (layerS wq)) :: .int (nI rt) :: .int (nI sp) :: .int (nI (wq / 512 % 2)) :: .int (nI (modeS wq)) :: .int (nI (wq / 16 % 4)) :: .int (nI ch) :: .int (nI sz_) :: .int (nI bd) :: .int (nI bn) :: .int (nI (chkS wq)) :: .int (nI cr) :: []))), ((a 1), aB g 4000 (fun j => nB (T j))), ((a 21), aI g 14 (fun j => nI (tN 0 (j + 1))))] H locs ∧ lv_has ls 9 [(7, .int (nI (wq % 4))), (6, .int (nI (wq / 1024 % 4))), (5, .int (nI (wq / 4096 % 16))), (4, .int (nI (wq / 131072 % 4))), (3, .int (nI (wq / 524288 % 2))), (2, .int (nI (wq / 1048576))), (0, .ref mo), (1, .int (nI pp))]) ?_ ?_
                      · intro H locs ls hJ
                        obtain ⟨hw, hl⟩ := hJ
                        refine r_put C hw in_X7 tyX7_ok nmX7 0 rfl rfl 29 (by decide) lk151 rfl rfl rfl (Nat.le_of_ble_eq_true rfl) (ws' := [(mo, .inr (7, (.int (nI th) :: .ref (a 1) :: .int (nI ln) :: .int (nI pl) :: .ref (a 4) :: .int (nI nf) :: .int (nI dec) :: .ref (a 7) :: .ref (a 8) :: .ref (a 9) :: .int (nI ho) :: .int (nI oc) :: .int (nI orw) :: .ref (a 13) :: .ref (a 14) :: .ref (a 15) :: .ref (a 16) :: .ref (a 17) :: .ref (a 18) :: .ref (a 19) :: .ref (a 20) :: .ref (a 21) :: .ref (a 22) :: .ref (a 23) :: .int (nI fi) :: .int (nI (8 * pp + 32)) :: .int (nI ((8 * pp) + 32)) :: .int (nI 0) :: .int (nI (layerS wq)) :: .int (nI (rateS wq)) :: .int (nI sp) :: .int (nI (wq / 512 % 2)) :: .int (nI (modeS wq)) :: .int (nI (wq / 16 % 4)) :: .int (nI ch) :: .int (nI sz_) :: .int (nI bd) :: .int (nI bn) :: .int (nI (chkS wq)) :: .int (nI cr) :: []))), ((a 1), aB g 4000 (fun j => nB (T j))), ((a 21), aI g 14 (fun j => nI (tN 0 (j + 1))))]) rfl dX7_header_219 (fun H locs hw => ?_)
                        refine lv_aload_n hx hb dX7_header_222 rfl (lv_at hl 6 rfl) ?_
                        refine lv_iload hx hb dX7_header_223 (lv_at hl 1 rfl) ?_
                        refine jw (pcj := 247) (restj := [.int (nI (sampS wq)), .ref mo]) (fun H locs ls => Wd g (va_A [(mo, .inr (7, (.int (nI th) :: .ref (a 1) :: .int (nI ln) :: .int (nI pl) :: .ref (a 4) :: .int (nI nf) :: .int (nI dec) :: .ref (a 7) :: .ref (a 8) :: .ref (a 9) :: .int (nI ho) :: .int (nI oc) :: .int (nI orw) :: .ref (a 13) :: .ref (a 14) :: .ref (a 15) :: .ref (a 16) :: .ref (a 17) :: .ref (a 18) :: .ref (a 19) :: .ref (a 20) :: .ref (a 21) :: .ref (a 22) :: .ref (a 23) :: .int (nI fi) :: .int (nI at_) :: .int (nI en) :: .int (nI ov) :: .int (nI ly) :: .int (nI rt) :: .int (nI sp) :: .int (nI pd) :: .int (nI md) :: .int (nI ex) :: .int (nI ch) :: .int (nI sz_) :: .int (nI bd) :: .int (nI bn) :: .int (nI pr) :: .int (nI cr) :: []))), ((a 1), aB g 4000 (fun j => nB (T j))), ((a 21), aI g 14 (fun j => nI (tN 0 (j + 1))))] sz) s.heap [(mo, .inr (7, (.int (nI th) :: .ref (a 1) :: .int (nI ln) :: .int (nI pl) :: .ref (a 4) :: .int (nI nf) :: .int (nI dec) :: .ref (a 7) :: .ref (a 8) :: .ref (a 9) :: .int (nI ho) :: .int (nI oc) :: .int (nI orw) :: .ref (a 13) :: .ref (a 14) :: .ref (a 15) :: .ref (a 16) :: .ref (a 17) :: .ref (a 18) :: .ref (a 19) :: .ref (a 20) :: .ref (a 21) :: .ref (a 22) :: .ref (a 23) :: .int (nI fi) :: .int (nI (8 * pp + 32)) :: .int (nI ((8 * pp) + 32)) :: .int (nI 0) :: .int (nI (layerS wq)) :: .int (nI (rateS wq)) :: .int (nI sp) :: .int (nI (wq / 512 % 2)) :: .int (nI (modeS wq)) :: .int (nI (wq / 16 % 4)) :: .int (nI ch) :: .int (nI sz_) :: .int (nI bd) :: .int (nI bn) :: .int (nI (chkS wq)) :: .int (nI cr) :: []))), ((a 1), aB g 4000 (fun j => nB (T j))), ((a 21), aI g 14 (fun j => nI (tN 0 (j + 1))))] H locs ∧ lv_has ls 9 [(7, .int (nI (wq % 4))), (6, .int (nI (wq / 1024 % 4))), (5, .int (nI (wq / 4096 % 16))), (4, .int (nI (wq / 131072 % 4))), (3, .int (nI (wq / 524288 % 2))), (2, .int (nI (wq / 1048576))), (0, .ref mo), (1, .int (nI pp))]) ?_ ?_
                        · intro H locs ls hJ
                          obtain ⟨hw, hl⟩ := hJ
                          refine r_put C hw in_X7 tyX7_ok nmX7 0 rfl rfl 30 (by decide) lk156 rfl rfl rfl (Nat.le_of_ble_eq_true rfl) (ws' := [(mo, .inr (7, (.int (nI th) :: .ref (a 1) :: .int (nI ln) :: .int (nI pl) :: .ref (a 4) :: .int (nI nf) :: .int (nI dec) :: .ref (a 7) :: .ref (a 8) :: .ref (a 9) :: .int (nI ho) :: .int (nI oc) :: .int (nI orw) :: .ref (a 13) :: .ref (a 14) :: .ref (a 15) :: .ref (a 16) :: .ref (a 17) :: .ref (a 18) :: .ref (a 19) :: .ref (a 20) :: .ref (a 21) :: .ref (a 22) :: .ref (a 23) :: .int (nI fi) :: .int (nI (8 * pp + 32)) :: .int (nI ((8 * pp) + 32)) :: .int (nI 0) :: .int (nI (layerS wq)) :: .int (nI (rateS wq)) :: .int (nI (sampS wq)) :: .int (nI (wq / 512 % 2)) :: .int (nI (modeS wq)) :: .int (nI (wq / 16 % 4)) :: .int (nI ch) :: .int (nI sz_) :: .int (nI bd) :: .int (nI bn) :: .int (nI (chkS wq)) :: .int (nI cr) :: []))), ((a 1), aB g 4000 (fun j => nB (T j))), ((a 21), aI g 14 (fun j => nI (tN 0 (j + 1))))]) rfl dX7_header_247 (fun H locs hw => ?_)
                          refine lv_aload_n hx hb dX7_header_250 rfl (lv_at hl 6 rfl) ?_
                          refine lv_aload_n hx hb dX7_header_251 rfl (lv_at hl 6 rfl) ?_
                          refine r_get C hw in_X7 0 rfl rfl 32 (by decide) lk142 rfl dX7_header_252 ?_
                          refine lv_iconst (v := nI 3) hx hb dX7_header_255 (by decide) ?_
                          refine jw (pcj := 264) (restj := [.int (nI (chS wq)), .ref mo]) (fun H locs ls => Wd g (va_A [(mo, .inr (7, (.int (nI th) :: .ref (a 1) :: .int (nI ln) :: .int (nI pl) :: .ref (a 4) :: .int (nI nf) :: .int (nI dec) :: .ref (a 7) :: .ref (a 8) :: .ref (a 9) :: .int (nI ho) :: .int (nI oc) :: .int (nI orw) :: .ref (a 13) :: .ref (a 14) :: .ref (a 15) :: .ref (a 16) :: .ref (a 17) :: .ref (a 18) :: .ref (a 19) :: .ref (a 20) :: .ref (a 21) :: .ref (a 22) :: .ref (a 23) :: .int (nI fi) :: .int (nI at_) :: .int (nI en) :: .int (nI ov) :: .int (nI ly) :: .int (nI rt) :: .int (nI sp) :: .int (nI pd) :: .int (nI md) :: .int (nI ex) :: .int (nI ch) :: .int (nI sz_) :: .int (nI bd) :: .int (nI bn) :: .int (nI pr) :: .int (nI cr) :: []))), ((a 1), aB g 4000 (fun j => nB (T j))), ((a 21), aI g 14 (fun j => nI (tN 0 (j + 1))))] sz) s.heap [(mo, .inr (7, (.int (nI th) :: .ref (a 1) :: .int (nI ln) :: .int (nI pl) :: .ref (a 4) :: .int (nI nf) :: .int (nI dec) :: .ref (a 7) :: .ref (a 8) :: .ref (a 9) :: .int (nI ho) :: .int (nI oc) :: .int (nI orw) :: .ref (a 13) :: .ref (a 14) :: .ref (a 15) :: .ref (a 16) :: .ref (a 17) :: .ref (a 18) :: .ref (a 19) :: .ref (a 20) :: .ref (a 21) :: .ref (a 22) :: .ref (a 23) :: .int (nI fi) :: .int (nI (8 * pp + 32)) :: .int (nI ((8 * pp) + 32)) :: .int (nI 0) :: .int (nI (layerS wq)) :: .int (nI (rateS wq)) :: .int (nI (sampS wq)) :: .int (nI (wq / 512 % 2)) :: .int (nI (modeS wq)) :: .int (nI (wq / 16 % 4)) :: .int (nI ch) :: .int (nI sz_) :: .int (nI bd) :: .int (nI bn) :: .int (nI (chkS wq)) :: .int (nI cr) :: []))), ((a 1), aB g 4000 (fun j => nB (T j))), ((a 21), aI g 14 (fun j => nI (tN 0 (j + 1))))] H locs ∧ lv_has ls 9 [(7, .int (nI (wq % 4))), (6, .int (nI (wq / 1024 % 4))), (5, .int (nI (wq / 4096 % 16))), (4, .int (nI (wq / 131072 % 4))), (3, .int (nI (wq / 524288 % 2))), (2, .int (nI (wq / 1048576))), (0, .ref mo), (1, .int (nI pp))]) ?_ ?_
                          · intro H locs ls hJ
                            obtain ⟨hw, hl⟩ := hJ
                            refine r_put C hw in_X7 tyX7_ok nmX7 0 rfl rfl 34 (by decide) lk159 rfl rfl rfl (Nat.le_of_ble_eq_true rfl) (ws' := [(mo, .inr (7, (.int (nI th) :: .ref (a 1) :: .int (nI ln) :: .int (nI pl) :: .ref (a 4) :: .int (nI nf) :: .int (nI dec) :: .ref (a 7) :: .ref (a 8) :: .ref (a 9) :: .int (nI ho) :: .int (nI oc) :: .int (nI orw) :: .ref (a 13) :: .ref (a 14) :: .ref (a 15) :: .ref (a 16) :: .ref (a 17) :: .ref (a 18) :: .ref (a 19) :: .ref (a 20) :: .ref (a 21) :: .ref (a 22) :: .ref (a 23) :: .int (nI fi) :: .int (nI (8 * pp + 32)) :: .int (nI ((8 * pp) + 32)) :: .int (nI 0) :: .int (nI (layerS wq)) :: .int (nI (rateS wq)) :: .int (nI (sampS wq)) :: .int (nI (wq / 512 % 2)) :: .int (nI (modeS wq)) :: .int (nI (wq / 16 % 4)) :: .int (nI (chS wq)) :: .int (nI sz_) :: .int (nI bd) :: .int (nI bn) :: .int (nI (chkS wq)) :: .int (nI cr) :: []))), ((a 1), aB g 4000 (fun j => nB (T j))), ((a 21), aI g 14 (fun j => nI (tN 0 (j + 1))))]) rfl dX7_header_264 (fun H locs hw => ?_)
                            refine lv_aload_n hx hb dX7_header_267 rfl (lv_at hl 6 rfl) ?_
                            refine r_get C hw in_X7 0 rfl rfl 29 (by decide) lk151 rfl dX7_header_268 ?_
                            refine lv_bipush (v := nI 32) hx hb dX7_header_271 (by decide) ?_
                            refine jw (pcj := 308) (restj := [.int (nI (lowS (rateS wq)))]) (fun H locs ls => Wd g (va_A [(mo, .inr (7, (.int (nI th) :: .ref (a 1) :: .int (nI ln) :: .int (nI pl) :: .ref (a 4) :: .int (nI nf) :: .int (nI dec) :: .ref (a 7) :: .ref (a 8) :: .ref (a 9) :: .int (nI ho) :: .int (nI oc) :: .int (nI orw) :: .ref (a 13) :: .ref (a 14) :: .ref (a 15) :: .ref (a 16) :: .ref (a 17) :: .ref (a 18) :: .ref (a 19) :: .ref (a 20) :: .ref (a 21) :: .ref (a 22) :: .ref (a 23) :: .int (nI fi) :: .int (nI at_) :: .int (nI en) :: .int (nI ov) :: .int (nI ly) :: .int (nI rt) :: .int (nI sp) :: .int (nI pd) :: .int (nI md) :: .int (nI ex) :: .int (nI ch) :: .int (nI sz_) :: .int (nI bd) :: .int (nI bn) :: .int (nI pr) :: .int (nI cr) :: []))), ((a 1), aB g 4000 (fun j => nB (T j))), ((a 21), aI g 14 (fun j => nI (tN 0 (j + 1))))] sz) s.heap [(mo, .inr (7, (.int (nI th) :: .ref (a 1) :: .int (nI ln) :: .int (nI pl) :: .ref (a 4) :: .int (nI nf) :: .int (nI dec) :: .ref (a 7) :: .ref (a 8) :: .ref (a 9) :: .int (nI ho) :: .int (nI oc) :: .int (nI orw) :: .ref (a 13) :: .ref (a 14) :: .ref (a 15) :: .ref (a 16) :: .ref (a 17) :: .ref (a 18) :: .ref (a 19) :: .ref (a 20) :: .ref (a 21) :: .ref (a 22) :: .ref (a 23) :: .int (nI fi) :: .int (nI (8 * pp + 32)) :: .int (nI ((8 * pp) + 32)) :: .int (nI 0) :: .int (nI (layerS wq)) :: .int (nI (rateS wq)) :: .int (nI (sampS wq)) :: .int (nI (wq / 512 % 2)) :: .int (nI (modeS wq)) :: .int (nI (wq / 16 % 4)) :: .int (nI (chS wq)) :: .int (nI sz_) :: .int (nI bd) :: .int (nI bn) :: .int (nI (chkS wq)) :: .int (nI cr) :: []))), ((a 1), aB g 4000 (fun j => nB (T j))), ((a 21), aI g 14 (fun j => nI (tN 0 (j + 1))))] H locs ∧ lv_has ls 9 [(7, .int (nI (wq % 4))), (6, .int (nI (wq / 1024 % 4))), (5, .int (nI (wq / 4096 % 16))), (4, .int (nI (wq / 131072 % 4))), (3, .int (nI (wq / 524288 % 2))), (2, .int (nI (wq / 1048576))), (0, .ref mo), (1, .int (nI pp))]) ?_ ?_
                            · intro H locs ls hJ
                              obtain ⟨hw, hl⟩ := hJ
                              refine lv_istore (lv' := [(8, .int (nI (lowS (rateS wq)))), (7, .int (nI (wq % 4))), (6, .int (nI (wq / 1024 % 4))), (5, .int (nI (wq / 4096 % 16))), (4, .int (nI (wq / 131072 % 4))), (3, .int (nI (wq / 524288 % 2))), (2, .int (nI (wq / 1048576))), (0, .ref mo), (1, .int (nI pp))]) hx hb dX7_header_308 hl (by decide) rfl (fun ls hl => ?_)
                              refine lv_aload_n hx hb dX7_header_310 rfl (lv_at hl 7 rfl) ?_
                              refine r_get C hw in_X7 0 rfl rfl 28 (by decide) lk148 rfl dX7_header_311 ?_
                              refine lv_iconst (v := nI 2) hx hb dX7_header_314 (by decide) ?_
                              refine jw (pcj := 351) (restj := []) (fun H locs ls => Wd g (va_A [(mo, .inr (7, (.int (nI th) :: .ref (a 1) :: .int (nI ln) :: .int (nI pl) :: .ref (a 4) :: .int (nI nf) :: .int (nI dec) :: .ref (a 7) :: .ref (a 8) :: .ref (a 9) :: .int (nI ho) :: .int (nI oc) :: .int (nI orw) :: .ref (a 13) :: .ref (a 14) :: .ref (a 15) :: .ref (a 16) :: .ref (a 17) :: .ref (a 18) :: .ref (a 19) :: .ref (a 20) :: .ref (a 21) :: .ref (a 22) :: .ref (a 23) :: .int (nI fi) :: .int (nI at_) :: .int (nI en) :: .int (nI ov) :: .int (nI ly) :: .int (nI rt) :: .int (nI sp) :: .int (nI pd) :: .int (nI md) :: .int (nI ex) :: .int (nI ch) :: .int (nI sz_) :: .int (nI bd) :: .int (nI bn) :: .int (nI pr) :: .int (nI cr) :: []))), ((a 1), aB g 4000 (fun j => nB (T j))), ((a 21), aI g 14 (fun j => nI (tN 0 (j + 1))))] sz) s.heap [(mo, .inr (7, (.int (nI th) :: .ref (a 1) :: .int (nI ln) :: .int (nI pl) :: .ref (a 4) :: .int (nI nf) :: .int (nI dec) :: .ref (a 7) :: .ref (a 8) :: .ref (a 9) :: .int (nI ho) :: .int (nI oc) :: .int (nI orw) :: .ref (a 13) :: .ref (a 14) :: .ref (a 15) :: .ref (a 16) :: .ref (a 17) :: .ref (a 18) :: .ref (a 19) :: .ref (a 20) :: .ref (a 21) :: .ref (a 22) :: .ref (a 23) :: .int (nI fi) :: .int (nI (8 * pp + 32)) :: .int (nI ((8 * pp) + 32)) :: .int (nI 0) :: .int (nI (layerS wq)) :: .int (nI (rateS wq)) :: .int (nI (sampS wq)) :: .int (nI (wq / 512 % 2)) :: .int (nI (modeS wq)) :: .int (nI (wq / 16 % 4)) :: .int (nI (chS wq)) :: .int (nI sz_) :: .int (nI bd) :: .int (nI bn) :: .int (nI (chkS wq)) :: .int (nI cr) :: []))), ((a 1), aB g 4000 (fun j => nB (T j))), ((a 21), aI g 14 (fun j => nI (tN 0 (j + 1))))] H locs ∧ lv_has ls 9 [(8, .int (nI (lowS (rateS wq)))), (7, .int (nI (wq % 4))), (6, .int (nI (wq / 1024 % 4))), (5, .int (nI (wq / 4096 % 16))), (4, .int (nI (wq / 131072 % 4))), (3, .int (nI (wq / 524288 % 2))), (2, .int (nI (wq / 1048576))), (0, .ref mo), (1, .int (nI pp))] ∧ (goodS wq = 1)) ?_ ?_
                              · intro H locs ls hJ
                                obtain ⟨hw, hl, hg1⟩ := hJ
                                refine lv_aload_n hx hb dX7_header_351 rfl (lv_at hl 7 rfl) ?_
                                refine lv_aload_n hx hb dX7_header_352 rfl (lv_at hl 7 rfl) ?_
                                refine r_get C hw in_X7 0 rfl rfl 28 (by decide) lk148 rfl dX7_header_353 ?_
                                refine lv_iconst (v := nI 1) hx hb dX7_header_356 (by decide) ?_
                                refine jw (pcj := 400) (restj := [.int (nI (byS wq)), .ref mo]) (fun H locs ls => Wd g (va_A [(mo, .inr (7, (.int (nI th) :: .ref (a 1) :: .int (nI ln) :: .int (nI pl) :: .ref (a 4) :: .int (nI nf) :: .int (nI dec) :: .ref (a 7) :: .ref (a 8) :: .ref (a 9) :: .int (nI ho) :: .int (nI oc) :: .int (nI orw) :: .ref (a 13) :: .ref (a 14) :: .ref (a 15) :: .ref (a 16) :: .ref (a 17) :: .ref (a 18) :: .ref (a 19) :: .ref (a 20) :: .ref (a 21) :: .ref (a 22) :: .ref (a 23) :: .int (nI fi) :: .int (nI at_) :: .int (nI en) :: .int (nI ov) :: .int (nI ly) :: .int (nI rt) :: .int (nI sp) :: .int (nI pd) :: .int (nI md) :: .int (nI ex) :: .int (nI ch) :: .int (nI sz_) :: .int (nI bd) :: .int (nI bn) :: .int (nI pr) :: .int (nI cr) :: []))), ((a 1), aB g 4000 (fun j => nB (T j))), ((a 21), aI g 14 (fun j => nI (tN 0 (j + 1))))] sz) s.heap [(mo, .inr (7, (.int (nI th) :: .ref (a 1) :: .int (nI ln) :: .int (nI pl) :: .ref (a 4) :: .int (nI nf) :: .int (nI dec) :: .ref (a 7) :: .ref (a 8) :: .ref (a 9) :: .int (nI ho) :: .int (nI oc) :: .int (nI orw) :: .ref (a 13) :: .ref (a 14) :: .ref (a 15) :: .ref (a 16) :: .ref (a 17) :: .ref (a 18) :: .ref (a 19) :: .ref (a 20) :: .ref (a 21) :: .ref (a 22) :: .ref (a 23) :: .int (nI fi) :: .int (nI (8 * pp + 32)) :: .int (nI ((8 * pp) + 32)) :: .int (nI 0) :: .int (nI (layerS wq)) :: .int (nI (rateS wq)) :: .int (nI (sampS wq)) :: .int (nI (wq / 512 % 2)) :: .int (nI (modeS wq)) :: .int (nI (wq / 16 % 4)) :: .int (nI (chS wq)) :: .int (nI sz_) :: .int (nI bd) :: .int (nI bn) :: .int (nI (chkS wq)) :: .int (nI cr) :: []))), ((a 1), aB g 4000 (fun j => nB (T j))), ((a 21), aI g 14 (fun j => nI (tN 0 (j + 1))))] H locs ∧ lv_has ls 9 [(8, .int (nI (lowS (rateS wq)))), (7, .int (nI (wq % 4))), (6, .int (nI (wq / 1024 % 4))), (5, .int (nI (wq / 4096 % 16))), (4, .int (nI (wq / 131072 % 4))), (3, .int (nI (wq / 524288 % 2))), (2, .int (nI (wq / 1048576))), (0, .ref mo), (1, .int (nI pp))]) ?_ ?_
                                · intro H locs ls hJ
                                  obtain ⟨hw, hl⟩ := hJ
                                  refine r_put C hw in_X7 tyX7_ok nmX7 0 rfl rfl 35 (by decide) lk163 rfl rfl rfl (Nat.le_of_ble_eq_true rfl) (ws' := [(mo, .inr (7, (.int (nI th) :: .ref (a 1) :: .int (nI ln) :: .int (nI pl) :: .ref (a 4) :: .int (nI nf) :: .int (nI dec) :: .ref (a 7) :: .ref (a 8) :: .ref (a 9) :: .int (nI ho) :: .int (nI oc) :: .int (nI orw) :: .ref (a 13) :: .ref (a 14) :: .ref (a 15) :: .ref (a 16) :: .ref (a 17) :: .ref (a 18) :: .ref (a 19) :: .ref (a 20) :: .ref (a 21) :: .ref (a 22) :: .ref (a 23) :: .int (nI fi) :: .int (nI (8 * pp + 32)) :: .int (nI ((8 * pp) + 32)) :: .int (nI 0) :: .int (nI (layerS wq)) :: .int (nI (rateS wq)) :: .int (nI (sampS wq)) :: .int (nI (wq / 512 % 2)) :: .int (nI (modeS wq)) :: .int (nI (wq / 16 % 4)) :: .int (nI (chS wq)) :: .int (nI (byS wq)) :: .int (nI bd) :: .int (nI bn) :: .int (nI (chkS wq)) :: .int (nI cr) :: []))), ((a 1), aB g 4000 (fun j => nB (T j))), ((a 21), aI g 14 (fun j => nI (tN 0 (j + 1))))]) rfl dX7_header_400 (fun H locs hw => ?_)
                                  refine lv_aload_n hx hb dX7_header_403 rfl (lv_at hl 7 rfl) ?_
                                  refine lv_aload_n hx hb dX7_header_404 rfl (lv_at hl 7 rfl) ?_
                                  refine r_get C hw in_X7 0 rfl rfl 28 (by decide) lk148 rfl dX7_header_405 ?_
                                  refine lv_iconst (v := nI 1) hx hb dX7_header_408 (by decide) ?_
                                  refine jw (pcj := 430) (restj := [.int (nI (bandS wq)), .ref mo]) (fun H locs ls => Wd g (va_A [(mo, .inr (7, (.int (nI th) :: .ref (a 1) :: .int (nI ln) :: .int (nI pl) :: .ref (a 4) :: .int (nI nf) :: .int (nI dec) :: .ref (a 7) :: .ref (a 8) :: .ref (a 9) :: .int (nI ho) :: .int (nI oc) :: .int (nI orw) :: .ref (a 13) :: .ref (a 14) :: .ref (a 15) :: .ref (a 16) :: .ref (a 17) :: .ref (a 18) :: .ref (a 19) :: .ref (a 20) :: .ref (a 21) :: .ref (a 22) :: .ref (a 23) :: .int (nI fi) :: .int (nI at_) :: .int (nI en) :: .int (nI ov) :: .int (nI ly) :: .int (nI rt) :: .int (nI sp) :: .int (nI pd) :: .int (nI md) :: .int (nI ex) :: .int (nI ch) :: .int (nI sz_) :: .int (nI bd) :: .int (nI bn) :: .int (nI pr) :: .int (nI cr) :: []))), ((a 1), aB g 4000 (fun j => nB (T j))), ((a 21), aI g 14 (fun j => nI (tN 0 (j + 1))))] sz) s.heap [(mo, .inr (7, (.int (nI th) :: .ref (a 1) :: .int (nI ln) :: .int (nI pl) :: .ref (a 4) :: .int (nI nf) :: .int (nI dec) :: .ref (a 7) :: .ref (a 8) :: .ref (a 9) :: .int (nI ho) :: .int (nI oc) :: .int (nI orw) :: .ref (a 13) :: .ref (a 14) :: .ref (a 15) :: .ref (a 16) :: .ref (a 17) :: .ref (a 18) :: .ref (a 19) :: .ref (a 20) :: .ref (a 21) :: .ref (a 22) :: .ref (a 23) :: .int (nI fi) :: .int (nI (8 * pp + 32)) :: .int (nI ((8 * pp) + 32)) :: .int (nI 0) :: .int (nI (layerS wq)) :: .int (nI (rateS wq)) :: .int (nI (sampS wq)) :: .int (nI (wq / 512 % 2)) :: .int (nI (modeS wq)) :: .int (nI (wq / 16 % 4)) :: .int (nI (chS wq)) :: .int (nI (byS wq)) :: .int (nI bd) :: .int (nI bn) :: .int (nI (chkS wq)) :: .int (nI cr) :: []))), ((a 1), aB g 4000 (fun j => nB (T j))), ((a 21), aI g 14 (fun j => nI (tN 0 (j + 1))))] H locs ∧ lv_has ls 9 [(8, .int (nI (lowS (rateS wq)))), (7, .int (nI (wq % 4))), (6, .int (nI (wq / 1024 % 4))), (5, .int (nI (wq / 4096 % 16))), (4, .int (nI (wq / 131072 % 4))), (3, .int (nI (wq / 524288 % 2))), (2, .int (nI (wq / 1048576))), (0, .ref mo), (1, .int (nI pp))]) ?_ ?_
                                  · intro H locs ls hJ
                                    obtain ⟨hw, hl⟩ := hJ
                                    refine r_put C hw in_X7 tyX7_ok nmX7 0 rfl rfl 37 (by decide) lk169 rfl rfl rfl (Nat.le_of_ble_eq_true rfl) (ws' := [(mo, .inr (7, (.int (nI th) :: .ref (a 1) :: .int (nI ln) :: .int (nI pl) :: .ref (a 4) :: .int (nI nf) :: .int (nI dec) :: .ref (a 7) :: .ref (a 8) :: .ref (a 9) :: .int (nI ho) :: .int (nI oc) :: .int (nI orw) :: .ref (a 13) :: .ref (a 14) :: .ref (a 15) :: .ref (a 16) :: .ref (a 17) :: .ref (a 18) :: .ref (a 19) :: .ref (a 20) :: .ref (a 21) :: .ref (a 22) :: .ref (a 23) :: .int (nI fi) :: .int (nI (8 * pp + 32)) :: .int (nI ((8 * pp) + 32)) :: .int (nI 0) :: .int (nI (layerS wq)) :: .int (nI (rateS wq)) :: .int (nI (sampS wq)) :: .int (nI (wq / 512 % 2)) :: .int (nI (modeS wq)) :: .int (nI (wq / 16 % 4)) :: .int (nI (chS wq)) :: .int (nI (byS wq)) :: .int (nI bd) :: .int (nI (bandS wq)) :: .int (nI (chkS wq)) :: .int (nI cr) :: []))), ((a 1), aB g 4000 (fun j => nB (T j))), ((a 21), aI g 14 (fun j => nI (tN 0 (j + 1))))]) rfl dX7_header_430 (fun H locs hw => ?_)
                                    refine lv_aload_n hx hb dX7_header_433 rfl (lv_at hl 7 rfl) ?_
                                    refine lv_aload_n hx hb dX7_header_434 rfl (lv_at hl 7 rfl) ?_
                                    refine r_get C hw in_X7 0 rfl rfl 32 (by decide) lk142 rfl dX7_header_435 ?_
                                    refine lv_iconst (v := nI 1) hx hb dX7_header_438 (by decide) ?_
                                    refine jw (pcj := 472) (restj := [.int (nI (boundS wq)), .ref mo]) (fun H locs ls => Wd g (va_A [(mo, .inr (7, (.int (nI th) :: .ref (a 1) :: .int (nI ln) :: .int (nI pl) :: .ref (a 4) :: .int (nI nf) :: .int (nI dec) :: .ref (a 7) :: .ref (a 8) :: .ref (a 9) :: .int (nI ho) :: .int (nI oc) :: .int (nI orw) :: .ref (a 13) :: .ref (a 14) :: .ref (a 15) :: .ref (a 16) :: .ref (a 17) :: .ref (a 18) :: .ref (a 19) :: .ref (a 20) :: .ref (a 21) :: .ref (a 22) :: .ref (a 23) :: .int (nI fi) :: .int (nI at_) :: .int (nI en) :: .int (nI ov) :: .int (nI ly) :: .int (nI rt) :: .int (nI sp) :: .int (nI pd) :: .int (nI md) :: .int (nI ex) :: .int (nI ch) :: .int (nI sz_) :: .int (nI bd) :: .int (nI bn) :: .int (nI pr) :: .int (nI cr) :: []))), ((a 1), aB g 4000 (fun j => nB (T j))), ((a 21), aI g 14 (fun j => nI (tN 0 (j + 1))))] sz) s.heap [(mo, .inr (7, (.int (nI th) :: .ref (a 1) :: .int (nI ln) :: .int (nI pl) :: .ref (a 4) :: .int (nI nf) :: .int (nI dec) :: .ref (a 7) :: .ref (a 8) :: .ref (a 9) :: .int (nI ho) :: .int (nI oc) :: .int (nI orw) :: .ref (a 13) :: .ref (a 14) :: .ref (a 15) :: .ref (a 16) :: .ref (a 17) :: .ref (a 18) :: .ref (a 19) :: .ref (a 20) :: .ref (a 21) :: .ref (a 22) :: .ref (a 23) :: .int (nI fi) :: .int (nI (8 * pp + 32)) :: .int (nI ((8 * pp) + 32)) :: .int (nI 0) :: .int (nI (layerS wq)) :: .int (nI (rateS wq)) :: .int (nI (sampS wq)) :: .int (nI (wq / 512 % 2)) :: .int (nI (modeS wq)) :: .int (nI (wq / 16 % 4)) :: .int (nI (chS wq)) :: .int (nI (byS wq)) :: .int (nI bd) :: .int (nI (bandS wq)) :: .int (nI (chkS wq)) :: .int (nI cr) :: []))), ((a 1), aB g 4000 (fun j => nB (T j))), ((a 21), aI g 14 (fun j => nI (tN 0 (j + 1))))] H locs ∧ lv_has ls 9 [(8, .int (nI (lowS (rateS wq)))), (7, .int (nI (wq % 4))), (6, .int (nI (wq / 1024 % 4))), (5, .int (nI (wq / 4096 % 16))), (4, .int (nI (wq / 131072 % 4))), (3, .int (nI (wq / 524288 % 2))), (2, .int (nI (wq / 1048576))), (0, .ref mo), (1, .int (nI pp))]) ?_ ?_
                                    · intro H locs ls hJ
                                      obtain ⟨hw, hl⟩ := hJ
                                      refine r_put C hw in_X7 tyX7_ok nmX7 0 rfl rfl 36 (by decide) lk172 rfl rfl rfl (Nat.le_of_ble_eq_true rfl) (ws' := [(mo, .inr (7, (.int (nI th) :: .ref (a 1) :: .int (nI ln) :: .int (nI pl) :: .ref (a 4) :: .int (nI nf) :: .int (nI dec) :: .ref (a 7) :: .ref (a 8) :: .ref (a 9) :: .int (nI ho) :: .int (nI oc) :: .int (nI orw) :: .ref (a 13) :: .ref (a 14) :: .ref (a 15) :: .ref (a 16) :: .ref (a 17) :: .ref (a 18) :: .ref (a 19) :: .ref (a 20) :: .ref (a 21) :: .ref (a 22) :: .ref (a 23) :: .int (nI fi) :: .int (nI (8 * pp + 32)) :: .int (nI ((8 * pp) + 32)) :: .int (nI 0) :: .int (nI (layerS wq)) :: .int (nI (rateS wq)) :: .int (nI (sampS wq)) :: .int (nI (wq / 512 % 2)) :: .int (nI (modeS wq)) :: .int (nI (wq / 16 % 4)) :: .int (nI (chS wq)) :: .int (nI (byS wq)) :: .int (nI (boundS wq)) :: .int (nI (bandS wq)) :: .int (nI (chkS wq)) :: .int (nI cr) :: []))), ((a 1), aB g 4000 (fun j => nB (T j))), ((a 21), aI g 14 (fun j => nI (tN 0 (j + 1))))]) rfl dX7_header_472 (fun H locs hw => ?_)
                                      refine lv_iconst (v := nI 1) hx hb dX7_header_475 (by decide) ?_
                                      exact r_zret C hw (by decide) (Nat.le_refl _) (Nat.le_refl _) (⟨congrArg nI hg1.symm, _, _, _, _, _, _, _, _, _, _, _, _, _, _, rfl, fun _ => ⟨rfl, rfl, rfl, rfl, rfl, rfl, rfl, rfl, rfl⟩⟩) dX7_header_476
                                    · intro J_21
                                      refine n_cne (tgt := 468) hx hb (by omega) (by omega) dX7_header_439 (by decide) (fun c_22 => ?_) (fun c_22 => ?_)
                                      · skip
                                        refine lv_aload_n hx hb dX7_header_468 rfl (lv_at hl 7 rfl) ?_
                                        refine r_get C hw in_X7 0 rfl rfl 37 (by decide) lk169 rfl dX7_header_469 ?_
                                        refine tp1 (v' := (nI (boundS wq))) (congrArg nI (by unfold boundS; (repeat' split) <;> omega)) ?_
                                        exact J_21 _ _ _ ⟨hw, (lv_sub hl [0, 1, 2, 3, 4, 5, 6, 7, 8] rfl)⟩
                                      · skip
                                        refine lv_iconst (v := nI 4) hx hb dX7_header_442 (by decide) ?_
                                        refine lv_aload_n hx hb dX7_header_443 rfl (lv_at hl 7 rfl) ?_
                                        refine r_get C hw in_X7 0 rfl rfl 33 (by decide) lk145 rfl dX7_header_444 ?_
                                        refine lv_iconst (v := nI 1) hx hb dX7_header_447 (by decide) ?_
                                        refine n_add hx hb dX7_header_448 ?_
                                        refine n_mul hx hb dX7_header_449 ?_
                                        refine lv_aload_n hx hb dX7_header_450 rfl (lv_at hl 7 rfl) ?_
                                        refine r_get C hw in_X7 0 rfl rfl 37 (by decide) lk169 rfl dX7_header_451 ?_
                                        refine n_cge (tgt := 468) hx hb (by omega) (by omega) dX7_header_454 (by decide) (fun c_23 => ?_) (fun c_23 => ?_)
                                        · skip
                                          refine lv_aload_n hx hb dX7_header_468 rfl (lv_at hl 7 rfl) ?_
                                          refine r_get C hw in_X7 0 rfl rfl 37 (by decide) lk169 rfl dX7_header_469 ?_
                                          refine tp1 (v' := (nI (boundS wq))) (congrArg nI (by unfold boundS; (repeat' split) <;> omega)) ?_
                                          exact J_21 _ _ _ ⟨hw, (lv_sub hl [0, 1, 2, 3, 4, 5, 6, 7, 8] rfl)⟩
                                        · skip
                                          refine lv_iconst (v := nI 4) hx hb dX7_header_457 (by decide) ?_
                                          refine lv_aload_n hx hb dX7_header_458 rfl (lv_at hl 7 rfl) ?_
                                          refine r_get C hw in_X7 0 rfl rfl 33 (by decide) lk145 rfl dX7_header_459 ?_
                                          refine lv_iconst (v := nI 1) hx hb dX7_header_462 (by decide) ?_
                                          refine n_add hx hb dX7_header_463 ?_
                                          refine n_mul hx hb dX7_header_464 ?_
                                          refine lv_goto (tgt := 472) hx hb dX7_header_465 (by decide) ?_
                                          refine tp1 (v' := (nI (boundS wq))) (congrArg nI (by unfold boundS; (repeat' split) <;> omega)) ?_
                                          exact J_21 _ _ _ ⟨hw, (lv_sub hl [0, 1, 2, 3, 4, 5, 6, 7, 8] rfl)⟩
                                  · intro J_24
                                    refine n_cne (tgt := 417) hx hb (by omega) (by omega) dX7_header_409 (by decide) (fun c_25 => ?_) (fun c_25 => ?_)
                                    · skip
                                      refine lv_aload_n hx hb dX7_header_417 rfl (lv_at hl 7 rfl) ?_
                                      refine lv_aload_n hx hb dX7_header_418 rfl (lv_at hl 7 rfl) ?_
                                      refine r_get C hw in_X7 0 rfl rfl 29 (by decide) lk151 rfl dX7_header_419 ?_
                                      refine lv_aload_n hx hb dX7_header_422 rfl (lv_at hl 7 rfl) ?_
                                      refine r_get C hw in_X7 0 rfl rfl 34 (by decide) lk159 rfl dX7_header_423 ?_
                                      refine n_div hx hb dX7_header_426 (by omega) (by omega) (by omega) ?_
                                      refine k_Vi (As := [.int (nI ((rateS wq) / (chS wq)))]) (rest := [.ref mo]) (wr := [((a 1), aB g 4000 (fun j => nB (T j))), ((a 21), aI g 14 (fun j => nI (tN 0 (j + 1))))]) C hw (c_rbandsOf l g _ mo a th ln pl nf dec ho oc orw fi (8 * pp + 32) ((8 * pp) + 32) 0 (layerS wq) (rateS wq) (sampS wq) (wq / 512 % 2) (modeS wq) (wq / 16 % 4) (chS wq) (byS wq) bd bn (chkS wq) cr (rateS wq / chS wq) hs3 (cr_gap hm (by omega)) hcr) (cwV 1 hts gX7_header_X7_bandsOf rfl rfl rfl (by decide +kernel) ⟨Nat.le_of_ble_eq_true rfl, Nat.le_of_ble_eq_true rfl⟩) bl_T (fun _ _ _ => trivial) [0] [1, 2] (by decide) rfl rfl (by decide) (by decide) 0 rfl rfl rfl hl.1 rfl (Nat.le_of_ble_eq_true rfl) dX7_header_427 ⟨Nat.le_of_ble_eq_true rfl, Nat.le_of_ble_eq_true rfl⟩ (fun r_26 u H locs hp hw => ?_)
                                      obtain ⟨rfl, rfl⟩ := hp
                                      have hw := Wd.sub (ws' := [(mo, .inr (7, (.int (nI th) :: .ref (a 1) :: .int (nI ln) :: .int (nI pl) :: .ref (a 4) :: .int (nI nf) :: .int (nI dec) :: .ref (a 7) :: .ref (a 8) :: .ref (a 9) :: .int (nI ho) :: .int (nI oc) :: .int (nI orw) :: .ref (a 13) :: .ref (a 14) :: .ref (a 15) :: .ref (a 16) :: .ref (a 17) :: .ref (a 18) :: .ref (a 19) :: .ref (a 20) :: .ref (a 21) :: .ref (a 22) :: .ref (a 23) :: .int (nI fi) :: .int (nI (8 * pp + 32)) :: .int (nI ((8 * pp) + 32)) :: .int (nI 0) :: .int (nI (layerS wq)) :: .int (nI (rateS wq)) :: .int (nI (sampS wq)) :: .int (nI (wq / 512 % 2)) :: .int (nI (modeS wq)) :: .int (nI (wq / 16 % 4)) :: .int (nI (chS wq)) :: .int (nI (byS wq)) :: .int (nI bd) :: .int (nI bn) :: .int (nI (chkS wq)) :: .int (nI cr) :: []))), ((a 1), aB g 4000 (fun j => nB (T j))), ((a 21), aI g 14 (fun j => nI (tN 0 (j + 1))))]) hw [2, 0, 1] (by decide) rfl
                                      refine tp1 (v' := (nI (bandS wq))) (congrArg nI (by unfold bandS; first | rw [if_pos (by omega)] | rw [if_neg (by omega)]; rfl)) ?_
                                      exact J_24 _ _ _ ⟨hw, (lv_sub hl [0, 1, 2, 3, 4, 5, 6, 7, 8] rfl)⟩
                                    · skip
                                      refine lv_bipush (v := nI 32) hx hb dX7_header_412 (by decide) ?_
                                      refine lv_goto (tgt := 430) hx hb dX7_header_414 (by decide) ?_
                                      refine tp1 (v' := (nI (bandS wq))) (congrArg nI (by unfold bandS; first | rw [if_pos (by omega)] | rw [if_neg (by omega)]; rfl)) ?_
                                      exact J_24 _ _ _ ⟨hw, (lv_sub hl [0, 1, 2, 3, 4, 5, 6, 7, 8] rfl)⟩
                                · intro J_27
                                  refine n_cne (tgt := 383) hx hb (by omega) (by omega) dX7_header_357 (by decide) (fun c_28 => ?_) (fun c_28 => ?_)
                                  · skip
                                    refine lv_ldc (v := nI 144000) hx hb hown (hts (.constant RX7 162 (144000)) (by decide +kernel)) dX7_header_383 ?_
                                    refine lv_aload_n hx hb dX7_header_385 rfl (lv_at hl 7 rfl) ?_
                                    refine r_get C hw in_X7 0 rfl rfl 29 (by decide) lk151 rfl dX7_header_386 ?_
                                    refine n_mul hx hb dX7_header_389 ?_
                                    refine lv_aload_n hx hb dX7_header_390 rfl (lv_at hl 7 rfl) ?_
                                    refine r_get C hw in_X7 0 rfl rfl 30 (by decide) lk156 rfl dX7_header_391 ?_
                                    refine n_div hx hb dX7_header_394 (by omega) (by omega) (by omega) ?_
                                    refine lv_aload_n hx hb dX7_header_395 rfl (lv_at hl 7 rfl) ?_
                                    refine r_get C hw in_X7 0 rfl rfl 31 (by decide) lk139 rfl dX7_header_396 ?_
                                    refine n_add hx hb dX7_header_399 ?_
                                    refine tp1 (v' := (nI (byS wq))) (congrArg nI (by unfold byS bytesS; rw [if_neg (by omega)]; first | rw [if_pos (by omega)] | rw [if_neg (by omega)])) ?_
                                    exact J_27 _ _ _ ⟨hw, (lv_sub hl [0, 1, 2, 3, 4, 5, 6, 7, 8] rfl)⟩
                                  · skip
                                    refine lv_iconst (v := nI 4) hx hb dX7_header_360 (by decide) ?_
                                    refine lv_sipush (v := nI 12000) hx hb dX7_header_361 (by decide) ?_
                                    refine lv_aload_n hx hb dX7_header_364 rfl (lv_at hl 7 rfl) ?_
                                    refine r_get C hw in_X7 0 rfl rfl 29 (by decide) lk151 rfl dX7_header_365 ?_
                                    refine n_mul hx hb dX7_header_368 ?_
                                    refine lv_aload_n hx hb dX7_header_369 rfl (lv_at hl 7 rfl) ?_
                                    refine r_get C hw in_X7 0 rfl rfl 30 (by decide) lk156 rfl dX7_header_370 ?_
                                    refine n_div hx hb dX7_header_373 (by omega) (by omega) (by omega) ?_
                                    refine lv_aload_n hx hb dX7_header_374 rfl (lv_at hl 7 rfl) ?_
                                    refine r_get C hw in_X7 0 rfl rfl 31 (by decide) lk139 rfl dX7_header_375 ?_
                                    refine n_add hx hb dX7_header_378 ?_
                                    refine n_mul hx hb dX7_header_379 ?_
                                    refine lv_goto (tgt := 400) hx hb dX7_header_380 (by decide) ?_
                                    refine tp1 (v' := (nI (byS wq))) (congrArg nI (by unfold byS bytesS; rw [if_neg (by omega)]; first | rw [if_pos (by omega)] | rw [if_neg (by omega)])) ?_
                                    exact J_27 _ _ _ ⟨hw, (lv_sub hl [0, 1, 2, 3, 4, 5, 6, 7, 8] rfl)⟩
                              · intro J_29
                                refine n_cne (tgt := 351) hx hb (by omega) (by omega) dX7_header_315 (by decide) (fun c_30 => ?_) (fun c_30 => ?_)
                                · skip
                                  exact J_29 _ _ _ ⟨hw, (lv_sub hl [0, 1, 2, 3, 4, 5, 6, 7, 8] rfl), (by rw [hgm]; (repeat' split) <;> omega)⟩
                                · skip
                                  refine lv_iload hx hb dX7_header_318 (lv_at hl 0 rfl) ?_
                                  refine n_eq0 (tgt := 331) hx hb (by omega) dX7_header_320 (by decide) (fun c_31 => ?_) (fun c_31 => ?_)
                                  · skip
                                    refine lv_aload_n hx hb dX7_header_331 rfl (lv_at hl 7 rfl) ?_
                                    refine r_get C hw in_X7 0 rfl rfl 29 (by decide) lk151 rfl dX7_header_332 ?_
                                    refine lv_sipush (v := nI 224) hx hb dX7_header_335 (by decide) ?_
                                    refine n_clt (tgt := 351) hx hb (by omega) (by omega) dX7_header_338 (by decide) (fun c_32 => ?_) (fun c_32 => ?_)
                                    · skip
                                      exact J_29 _ _ _ ⟨hw, (lv_sub hl [0, 1, 2, 3, 4, 5, 6, 7, 8] rfl), (by rw [hgm]; (repeat' split) <;> omega)⟩
                                    · skip
                                      refine lv_aload_n hx hb dX7_header_341 rfl (lv_at hl 7 rfl) ?_
                                      refine r_get C hw in_X7 0 rfl rfl 32 (by decide) lk142 rfl dX7_header_342 ?_
                                      refine lv_iconst (v := nI 3) hx hb dX7_header_345 (by decide) ?_
                                      refine n_cne (tgt := 351) hx hb (by omega) (by omega) dX7_header_346 (by decide) (fun c_33 => ?_) (fun c_33 => ?_)
                                      · skip
                                        exact J_29 _ _ _ ⟨hw, (lv_sub hl [0, 1, 2, 3, 4, 5, 6, 7, 8] rfl), (by rw [hgm]; (repeat' split) <;> omega)⟩
                                      · skip
                                        refine lv_iconst (v := nI 0) hx hb dX7_header_349 (by decide) ?_
                                        have hg0 : goodS wq = 0 := by rw [hgm, if_neg (by omega)]; omega
                                        exact r_zret C hw (by decide) (Nat.le_refl _) (Nat.le_refl _) (⟨congrArg nI hg0.symm, _, _, _, _, _, _, _, _, _, _, _, _, _, _, rfl, fun q => absurd hg0 q⟩) dX7_header_350
                                  · skip
                                    refine lv_aload_n hx hb dX7_header_323 rfl (lv_at hl 7 rfl) ?_
                                    refine r_get C hw in_X7 0 rfl rfl 32 (by decide) lk142 rfl dX7_header_324 ?_
                                    refine lv_iconst (v := nI 3) hx hb dX7_header_327 (by decide) ?_
                                    refine n_cne (tgt := 349) hx hb (by omega) (by omega) dX7_header_328 (by decide) (fun c_34 => ?_) (fun c_34 => ?_)
                                    · skip
                                      refine lv_iconst (v := nI 0) hx hb dX7_header_349 (by decide) ?_
                                      have hg0 : goodS wq = 0 := by rw [hgm, if_neg (by omega)]; omega
                                      exact r_zret C hw (by decide) (Nat.le_refl _) (Nat.le_refl _) (⟨congrArg nI hg0.symm, _, _, _, _, _, _, _, _, _, _, _, _, _, _, rfl, fun q => absurd hg0 q⟩) dX7_header_350
                                    · skip
                                      refine lv_aload_n hx hb dX7_header_331 rfl (lv_at hl 7 rfl) ?_
                                      refine r_get C hw in_X7 0 rfl rfl 29 (by decide) lk151 rfl dX7_header_332 ?_
                                      refine lv_sipush (v := nI 224) hx hb dX7_header_335 (by decide) ?_
                                      refine n_clt (tgt := 351) hx hb (by omega) (by omega) dX7_header_338 (by decide) (fun c_35 => ?_) (fun c_35 => ?_)
                                      · skip
                                        exact J_29 _ _ _ ⟨hw, (lv_sub hl [0, 1, 2, 3, 4, 5, 6, 7, 8] rfl), (by rw [hgm]; (repeat' split) <;> omega)⟩
                                      · skip
                                        refine lv_aload_n hx hb dX7_header_341 rfl (lv_at hl 7 rfl) ?_
                                        refine r_get C hw in_X7 0 rfl rfl 32 (by decide) lk142 rfl dX7_header_342 ?_
                                        refine lv_iconst (v := nI 3) hx hb dX7_header_345 (by decide) ?_
                                        refine n_cne (tgt := 351) hx hb (by omega) (by omega) dX7_header_346 (by decide) (fun c_36 => ?_) (fun c_36 => ?_)
                                        · skip
                                          exact J_29 _ _ _ ⟨hw, (lv_sub hl [0, 1, 2, 3, 4, 5, 6, 7, 8] rfl), (by rw [hgm]; (repeat' split) <;> omega)⟩
                                        · skip
                                          refine lv_iconst (v := nI 0) hx hb dX7_header_349 (by decide) ?_
                                          have hg0 : goodS wq = 0 := by rw [hgm, if_neg (by omega)]; omega
                                          exact r_zret C hw (by decide) (Nat.le_refl _) (Nat.le_refl _) (⟨congrArg nI hg0.symm, _, _, _, _, _, _, _, _, _, _, _, _, _, _, rfl, fun q => absurd hg0 q⟩) dX7_header_350
                            · intro J_37
                              refine n_ceq (tgt := 303) hx hb (by omega) (by omega) dX7_header_273 (by decide) (fun c_38 => ?_) (fun c_38 => ?_)
                              · skip
                                refine lv_iconst (v := nI 1) hx hb dX7_header_303 (by decide) ?_
                                refine lv_goto (tgt := 308) hx hb dX7_header_304 (by decide) ?_
                                refine tp1 (v' := (nI (lowS (rateS wq)))) (congrArg nI (by omega)) ?_
                                exact J_37 _ _ _ ⟨hw, (lv_sub hl [0, 1, 2, 3, 4, 5, 6, 7] rfl)⟩
                              · skip
                                refine lv_aload_n hx hb dX7_header_276 rfl (lv_at hl 6 rfl) ?_
                                refine r_get C hw in_X7 0 rfl rfl 29 (by decide) lk151 rfl dX7_header_277 ?_
                                refine lv_bipush (v := nI 48) hx hb dX7_header_280 (by decide) ?_
                                refine n_ceq (tgt := 303) hx hb (by omega) (by omega) dX7_header_282 (by decide) (fun c_39 => ?_) (fun c_39 => ?_)
                                · skip
                                  refine lv_iconst (v := nI 1) hx hb dX7_header_303 (by decide) ?_
                                  refine lv_goto (tgt := 308) hx hb dX7_header_304 (by decide) ?_
                                  refine tp1 (v' := (nI (lowS (rateS wq)))) (congrArg nI (by omega)) ?_
                                  exact J_37 _ _ _ ⟨hw, (lv_sub hl [0, 1, 2, 3, 4, 5, 6, 7] rfl)⟩
                                · skip
                                  refine lv_aload_n hx hb dX7_header_285 rfl (lv_at hl 6 rfl) ?_
                                  refine r_get C hw in_X7 0 rfl rfl 29 (by decide) lk151 rfl dX7_header_286 ?_
                                  refine lv_bipush (v := nI 56) hx hb dX7_header_289 (by decide) ?_
                                  refine n_ceq (tgt := 303) hx hb (by omega) (by omega) dX7_header_291 (by decide) (fun c_40 => ?_) (fun c_40 => ?_)
                                  · skip
                                    refine lv_iconst (v := nI 1) hx hb dX7_header_303 (by decide) ?_
                                    refine lv_goto (tgt := 308) hx hb dX7_header_304 (by decide) ?_
                                    refine tp1 (v' := (nI (lowS (rateS wq)))) (congrArg nI (by omega)) ?_
                                    exact J_37 _ _ _ ⟨hw, (lv_sub hl [0, 1, 2, 3, 4, 5, 6, 7] rfl)⟩
                                  · skip
                                    refine lv_aload_n hx hb dX7_header_294 rfl (lv_at hl 6 rfl) ?_
                                    refine r_get C hw in_X7 0 rfl rfl 29 (by decide) lk151 rfl dX7_header_295 ?_
                                    refine lv_bipush (v := nI 80) hx hb dX7_header_298 (by decide) ?_
                                    refine n_cne (tgt := 307) hx hb (by omega) (by omega) dX7_header_300 (by decide) (fun c_41 => ?_) (fun c_41 => ?_)
                                    · skip
                                      refine lv_iconst (v := nI 0) hx hb dX7_header_307 (by decide) ?_
                                      refine tp1 (v' := (nI (lowS (rateS wq)))) (congrArg nI (by omega)) ?_
                                      exact J_37 _ _ _ ⟨hw, (lv_sub hl [0, 1, 2, 3, 4, 5, 6, 7] rfl)⟩
                                    · skip
                                      refine lv_iconst (v := nI 1) hx hb dX7_header_303 (by decide) ?_
                                      refine lv_goto (tgt := 308) hx hb dX7_header_304 (by decide) ?_
                                      refine tp1 (v' := (nI (lowS (rateS wq)))) (congrArg nI (by omega)) ?_
                                      exact J_37 _ _ _ ⟨hw, (lv_sub hl [0, 1, 2, 3, 4, 5, 6, 7] rfl)⟩
                          · intro J_42
                            refine n_cne (tgt := 263) hx hb (by omega) (by omega) dX7_header_256 (by decide) (fun c_43 => ?_) (fun c_43 => ?_)
                            · skip
                              refine lv_iconst (v := nI 2) hx hb dX7_header_263 (by decide) ?_
                              refine tp1 (v' := (nI (chS wq))) (congrArg nI (by unfold chS; (repeat' split) <;> omega)) ?_
                              exact J_42 _ _ _ ⟨hw, (lv_sub hl [0, 1, 2, 3, 4, 5, 6, 7] rfl)⟩
                            · skip
                              refine lv_iconst (v := nI 1) hx hb dX7_header_259 (by decide) ?_
                              refine lv_goto (tgt := 264) hx hb dX7_header_260 (by decide) ?_
                              refine tp1 (v' := (nI (chS wq))) (congrArg nI (by unfold chS; (repeat' split) <;> omega)) ?_
                              exact J_42 _ _ _ ⟨hw, (lv_sub hl [0, 1, 2, 3, 4, 5, 6, 7] rfl)⟩
                        · intro J_44
                          refine n_ne0 (tgt := 233) hx hb (by omega) dX7_header_225 (by decide) (fun c_45 => ?_) (fun c_45 => ?_)
                          · skip
                            refine lv_iload hx hb dX7_header_233 (lv_at hl 1 rfl) ?_
                            refine lv_iconst (v := nI 1) hx hb dX7_header_235 (by decide) ?_
                            refine n_cne (tgt := 244) hx hb (by omega) (by omega) dX7_header_236 (by decide) (fun c_46 => ?_) (fun c_46 => ?_)
                            · skip
                              refine lv_sipush (v := nI 32000) hx hb dX7_header_244 (by decide) ?_
                              refine tp1 (v' := (nI (sampS wq))) (congrArg nI (by rw [hsp]; (repeat' split) <;> omega)) ?_
                              exact J_44 _ _ _ ⟨hw, (lv_sub hl [0, 1, 2, 3, 4, 5, 6, 7] rfl)⟩
                            · skip
                              refine lv_ldc (v := nI 48000) hx hb hown (hts (.constant RX7 155 (48000)) (by decide +kernel)) dX7_header_239 ?_
                              refine lv_goto (tgt := 247) hx hb dX7_header_241 (by decide) ?_
                              refine tp1 (v' := (nI (sampS wq))) (congrArg nI (by rw [hsp]; (repeat' split) <;> omega)) ?_
                              exact J_44 _ _ _ ⟨hw, (lv_sub hl [0, 1, 2, 3, 4, 5, 6, 7] rfl)⟩
                          · skip
                            refine lv_ldc (v := nI 44100) hx hb hown (hts (.constant RX7 154 (44100)) (by decide +kernel)) dX7_header_228 ?_
                            refine lv_goto (tgt := 247) hx hb dX7_header_230 (by decide) ?_
                            refine tp1 (v' := (nI (sampS wq))) (congrArg nI (by rw [hsp]; (repeat' split) <;> omega)) ?_
                            exact J_44 _ _ _ ⟨hw, (lv_sub hl [0, 1, 2, 3, 4, 5, 6, 7] rfl)⟩
                      · intro J_47
                        refine n_cne (tgt := 210) hx hb (by omega) (by omega) dX7_header_199 (by decide) (fun c_48 => ?_) (fun c_48 => ?_)
                        · skip
                          refine lv_aload_n hx hb dX7_header_210 rfl (lv_at hl 6 rfl) ?_
                          refine r_get C hw in_X7 0 rfl rfl 21 (by decide) lk55 rfl dX7_header_211 ?_
                          refine lv_iload hx hb dX7_header_214 (lv_at hl 2 rfl) ?_
                          refine lv_iconst (v := nI 1) hx hb dX7_header_216 (by decide) ?_
                          refine n_sub hx hb dX7_header_217 (by omega) ?_
                          refine r_iald C hw 2 rfl (by omega) (by omega) dX7_header_218 ?_
                          refine tp1 (v' := (nI (tN 0 (wq / 4096 % 16)))) (congrArg (fun z => nI (tN 0 z)) (by omega)) ?_
                          refine tp1 (v' := (nI (rateS wq))) (congrArg nI (by rw [hrt]; first | rw [if_pos (by omega)] | rw [if_neg (by omega)])) ?_
                          exact J_47 _ _ _ ⟨hw, (lv_sub hl [0, 1, 2, 3, 4, 5, 6, 7] rfl)⟩
                        · skip
                          refine lv_bipush (v := nI 32) hx hb dX7_header_202 (by decide) ?_
                          refine lv_iload hx hb dX7_header_204 (lv_at hl 2 rfl) ?_
                          refine n_mul hx hb dX7_header_206 ?_
                          refine lv_goto (tgt := 219) hx hb dX7_header_207 (by decide) ?_
                          refine tp1 (v' := (nI (rateS wq))) (congrArg nI (by rw [hrt]; first | rw [if_pos (by omega)] | rw [if_neg (by omega)])) ?_
                          exact J_47 _ _ _ ⟨hw, (lv_sub hl [0, 1, 2, 3, 4, 5, 6, 7] rfl)⟩
                    · intro J_49
                      refine n_cne (tgt := 189) hx hb (by omega) (by omega) dX7_header_182 (by decide) (fun c_50 => ?_) (fun c_50 => ?_)
                      · skip
                        refine lv_iconst (v := nI 2) hx hb dX7_header_189 (by decide) ?_
                        refine tp1 (v' := (nI (layerS wq))) (congrArg nI (by omega)) ?_
                        exact J_49 _ _ _ ⟨hw, (lv_sub hl [0, 1, 2, 3, 4, 5, 6, 7] rfl)⟩
                      · skip
                        refine lv_iconst (v := nI 1) hx hb dX7_header_185 (by decide) ?_
                        refine lv_goto (tgt := 190) hx hb dX7_header_186 (by decide) ?_
                        refine tp1 (v' := (nI (layerS wq))) (congrArg nI (by omega)) ?_
                        exact J_49 _ _ _ ⟨hw, (lv_sub hl [0, 1, 2, 3, 4, 5, 6, 7] rfl)⟩
                  · skip
                    refine lv_iconst (v := nI 0) hx hb dX7_header_176 (by decide) ?_
                    have hg0 : goodS wq = 0 := good_bad (fun q => by have q1 := q.1; have q2 := q.2.1; have q3 := q.2.2.1; have q4 := q.2.2.2.1; have q5 := q.2.2.2.2.1; have q6 := q.2.2.2.2.2.1; have q7 := q.2.2.2.2.2.2; omega)
                    exact r_zret C hw (by decide) (Nat.le_refl _) (Nat.le_refl _) (⟨congrArg nI hg0.symm, _, _, _, _, _, _, _, _, _, _, _, _, _, _, rfl, fun q => absurd hg0 q⟩) dX7_header_177
    · intro J_51
      refine n_ne0 (tgt := 69) hx hb (by omega) dX7_header_62 (by decide) (fun c_52 => ?_) (fun c_52 => ?_)
      · skip
        refine lv_iconst (v := nI 0) hx hb dX7_header_69 (by decide) ?_
        refine tp1 (v' := (nI (chkS wq))) (congrArg nI (by unfold chkS; (repeat' split) <;> omega)) ?_
        exact J_51 _ _ _ ⟨hw, (lv_sub hl [0, 1, 2, 3, 4] rfl)⟩
      · skip
        refine lv_iconst (v := nI 1) hx hb dX7_header_65 (by decide) ?_
        refine lv_goto (tgt := 70) hx hb dX7_header_66 (by decide) ?_
        refine tp1 (v' := (nI (chkS wq))) (congrArg nI (by unfold chkS; (repeat' split) <;> omega)) ?_
        exact J_51 _ _ _ ⟨hw, (lv_sub hl [0, 1, 2, 3, 4] rfl)⟩
  · skip
    exfalso; omega
