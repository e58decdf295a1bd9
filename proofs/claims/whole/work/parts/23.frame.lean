abbrev rm_c_samplesAtOnce : Room := { frames := 0, cells := 0, slots := 0, locals := 0 }
set_option maxHeartbeats 4000000 in
set_option maxRecDepth 100000 in
theorem c_samplesAtOnce (l : Launch) (g : GT) (sz : Nat) (o : Nat) (st ly ck rt sp byt md ch bn ft bd oc : Nat) (h1 : ly < 2 ^ 31) : CtI l g yX2_samplesAtOnce wsX2_samplesAtOnce rm_c_samplesAtOnce [.ref o] [(o, .inr (2, [.int (nI st), .int (nI ly), .int (nI ck), .int (nI rt), .int (nI sp), .int (nI byt), .int (nI md), .int (nI ch), .int (nI bn), .int (nI ft), .int (nI bd), .int (nI oc)]))] sz (fun _ => True) (fun r u => r = nI (if ly = 1 then 1 else 3) ∧ u = [(o, .inr (2, [.int (nI st), .int (nI ly), .int (nI ck), .int (nI rt), .int (nI sp), .int (nI byt), .int (nI md), .int (nI ch), .int (nI bn), .int (nI ft), .int (nI bd), .int (nI oc)]))]) (0) (0) := by
  refine ct_body (cc := cX2_samplesAtOnce) (nL := 1) (ret := (some .int)) (by decide) rfl (Nat.le_of_ble_eq_true rfl) ?_
  intro p e s m below meth c ls C hin hsz hB hw hl
  obtain ⟨hx, hb, hml, hown, hts, hK, hA, hr, hlk⟩ := id C
  have lk19 := hts (.fieldLink RX2 19 "SoundBench$Frame" "layer" "I") (by decide +kernel)
  have in_X2 : ∀ w ∈ wsX20, w ∈ wsX2_samplesAtOnce := by unfold wsX2_samplesAtOnce; intro w h; simp only [List.mem_cons, List.mem_append, h, or_true, true_or]
  have hl : lv_has ls 1 [(0, .ref o)] := hl
  have hw : Wd g (va_A [(o, .inr (2, [.int (nI st), .int (nI ly), .int (nI ck), .int (nI rt), .int (nI sp), .int (nI byt), .int (nI md), .int (nI ch), .int (nI bn), .int (nI ft), .int (nI bd), .int (nI oc)]))] sz) s.heap [(o, .inr (2, [.int (nI st), .int (nI ly), .int (nI ck), .int (nI rt), .int (nI sp), .int (nI byt), .int (nI md), .int (nI ch), .int (nI bn), .int (nI ft), .int (nI bd), .int (nI oc)]))] s.heap [] := hw
  refine lv_aload_n hx hb dX2_samplesAtOnce_0 rfl (lv_at hl 0 rfl) ?_
  refine r_get C hw in_X2 0 rfl rfl 1 (by decide) lk19 rfl dX2_samplesAtOnce_1 ?_
  refine lv_iconst (v := nI 1) hx hb dX2_samplesAtOnce_4 (by decide) ?_
  refine n_cne (tgt := 12) hx hb (by omega) (by omega) dX2_samplesAtOnce_5 (by decide) (fun c_1 => ?_) (fun c_1 => ?_)
  · skip
    refine lv_iconst (v := nI 3) hx hb dX2_samplesAtOnce_12 (by decide) ?_
    exact r_iret C hw (Nat.le_refl _) (Nat.le_refl _) (⟨by (repeat' split) <;> first | rfl | omega, rfl⟩) dX2_samplesAtOnce_13
  · skip
    refine lv_iconst (v := nI 1) hx hb dX2_samplesAtOnce_8 (by decide) ?_
    refine lv_goto (tgt := 13) hx hb dX2_samplesAtOnce_9 (by decide) ?_
    exact r_iret C hw (Nat.le_refl _) (Nat.le_refl _) (⟨by (repeat' split) <;> first | rfl | omega, rfl⟩) dX2_samplesAtOnce_13
abbrev rm_c_channelsTold : Room := { frames := 0, cells := 0, slots := 0, locals := 0 }
set_option maxHeartbeats 4000000 in
set_option maxRecDepth 100000 in
theorem c_channelsTold (l : Launch) (g : GT) (sz : Nat) (o b : Nat) (st ly ck rt sp byt md ch bn ft bd oc : Nat) (h1 : b < 2 ^ 31) (h2 : bd < 2 ^ 31) : CtI l g yX2_channelsTold wsX2_channelsTold rm_c_channelsTold [.ref o, .int (nI b)] [(o, .inr (2, [.int (nI st), .int (nI ly), .int (nI ck), .int (nI rt), .int (nI sp), .int (nI byt), .int (nI md), .int (nI ch), .int (nI bn), .int (nI ft), .int (nI bd), .int (nI oc)]))] sz (fun _ => True) (fun r u => r = nI (if b < bd then ch else 1) ∧ u = [(o, .inr (2, [.int (nI st), .int (nI ly), .int (nI ck), .int (nI rt), .int (nI sp), .int (nI byt), .int (nI md), .int (nI ch), .int (nI bn), .int (nI ft), .int (nI bd), .int (nI oc)]))]) (0) (0) := by
  refine ct_body (cc := cX2_channelsTold) (nL := 2) (ret := (some .int)) (by decide) rfl (Nat.le_of_ble_eq_true rfl) ?_
  intro p e s m below meth c ls C hin hsz hB hw hl
  obtain ⟨hx, hb, hml, hown, hts, hK, hA, hr, hlk⟩ := id C
  have lk51 := hts (.fieldLink RX2 51 "SoundBench$Frame" "channels" "I") (by decide +kernel)
  have lk69 := hts (.fieldLink RX2 69 "SoundBench$Frame" "bound" "I") (by decide +kernel)
  have in_X2 : ∀ w ∈ wsX20, w ∈ wsX2_channelsTold := by unfold wsX2_channelsTold; intro w h; simp only [List.mem_cons, List.mem_append, h, or_true, true_or]
  have hl : lv_has ls 2 [(0, .ref o), (1, .int (nI b))] := hl
  have hw : Wd g (va_A [(o, .inr (2, [.int (nI st), .int (nI ly), .int (nI ck), .int (nI rt), .int (nI sp), .int (nI byt), .int (nI md), .int (nI ch), .int (nI bn), .int (nI ft), .int (nI bd), .int (nI oc)]))] sz) s.heap [(o, .inr (2, [.int (nI st), .int (nI ly), .int (nI ck), .int (nI rt), .int (nI sp), .int (nI byt), .int (nI md), .int (nI ch), .int (nI bn), .int (nI ft), .int (nI bd), .int (nI oc)]))] s.heap [] := hw
  refine lv_iload_n hx hb dX2_channelsTold_0 rfl (lv_at hl 1 rfl) ?_
  refine lv_aload_n hx hb dX2_channelsTold_1 rfl (lv_at hl 0 rfl) ?_
  refine r_get C hw in_X2 0 rfl rfl 10 (by decide) lk69 rfl dX2_channelsTold_2 ?_
  refine n_cge (tgt := 15) hx hb (by omega) (by omega) dX2_channelsTold_5 (by decide) (fun c_1 => ?_) (fun c_1 => ?_)
  · skip
    refine lv_iconst (v := nI 1) hx hb dX2_channelsTold_15 (by decide) ?_
    exact r_iret C hw (Nat.le_refl _) (Nat.le_refl _) (⟨by (repeat' split) <;> first | rfl | omega, rfl⟩) dX2_channelsTold_16
  · skip
    refine lv_aload_n hx hb dX2_channelsTold_8 rfl (lv_at hl 0 rfl) ?_
    refine r_get C hw in_X2 0 rfl rfl 7 (by decide) lk51 rfl dX2_channelsTold_9 ?_
    refine lv_goto (tgt := 16) hx hb dX2_channelsTold_12 (by decide) ?_
    exact r_iret C hw (Nat.le_refl _) (Nat.le_refl _) (⟨by (repeat' split) <;> first | rfl | omega, rfl⟩) dX2_channelsTold_16
abbrev rm_c_tell : Room := { frames := 1, cells := 0, slots := 0, locals := 20 }
set_option maxHeartbeats 4000000 in
set_option maxRecDepth 100000 in
theorem c_tell (l : Launch) (g : GT) (sz : Nat) (o : Nat) (x : Int32) (st ly ck rt sp byt md ch bn ft bd oc : Nat) (h1 : ly < 2 ^ 31) (h2 : oc < 2 ^ 31) : CtI l g yX2_tell wsX2_tell rm_c_tell [.ref o, .int x] [(o, .inr (2, [.int (nI st), .int (nI ly), .int (nI ck), .int (nI rt), .int (nI sp), .int (nI byt), .int (nI md), .int (nI ch), .int (nI bn), .int (nI ft), .int (nI bd), .int (nI oc)]))] sz (fun _ => True) (fun r u => r = selX x 10 (tellS st ly rt sp byt md ch bd oc) (-1) ∧ u = [(o, .inr (2, [.int (nI st), .int (nI ly), .int (nI ck), .int (nI rt), .int (nI sp), .int (nI byt), .int (nI md), .int (nI ch), .int (nI bn), .int (nI ft), .int (nI bd), .int (nI oc)]))]) (0) (0) := by
  refine ct_body (cc := cX2_tell) (nL := 2) (ret := (some .int)) (by decide) rfl (Nat.le_of_ble_eq_true rfl) ?_
  intro p e s m below meth c ls C hin hsz hB hw hl
  obtain ⟨hx, hb, hml, hown, hts, hK, hA, hr, hlk⟩ := id C
  have lk9 := hts (.fieldLink RX2 9 "SoundBench$Frame" "start" "I") (by decide +kernel)
  have lk19 := hts (.fieldLink RX2 19 "SoundBench$Frame" "layer" "I") (by decide +kernel)
  have lk29 := hts (.fieldLink RX2 29 "SoundBench$Frame" "rate" "I") (by decide +kernel)
  have lk35 := hts (.fieldLink RX2 35 "SoundBench$Frame" "sampling" "I") (by decide +kernel)
  have lk42 := hts (.fieldLink RX2 42 "SoundBench$Frame" "bytes" "I") (by decide +kernel)
  have lk48 := hts (.fieldLink RX2 48 "SoundBench$Frame" "mode" "I") (by decide +kernel)
  have lk51 := hts (.fieldLink RX2 51 "SoundBench$Frame" "channels" "I") (by decide +kernel)
  have lk69 := hts (.fieldLink RX2 69 "SoundBench$Frame" "bound" "I") (by decide +kernel)
  have lk72 := hts (.fieldLink RX2 72 "SoundBench$Frame" "outcome" "I") (by decide +kernel)
  have in_X2 : ∀ w ∈ wsX20, w ∈ wsX2_tell := by unfold wsX2_tell; intro w h; simp only [List.mem_cons, List.mem_append, h, or_true, true_or]
  have hl : lv_has ls 2 [(0, .ref o), (1, .int x)] := hl
  have hw : Wd g (va_A [(o, .inr (2, [.int (nI st), .int (nI ly), .int (nI ck), .int (nI rt), .int (nI sp), .int (nI byt), .int (nI md), .int (nI ch), .int (nI bn), .int (nI ft), .int (nI bd), .int (nI oc)]))] sz) s.heap [(o, .inr (2, [.int (nI st), .int (nI ly), .int (nI ck), .int (nI rt), .int (nI sp), .int (nI byt), .int (nI md), .int (nI ch), .int (nI bn), .int (nI ft), .int (nI bd), .int (nI oc)]))] s.heap [] := hw
  refine lv_iload_n hx hb dX2_tell_0 rfl (lv_at hl 1 rfl) ?_
  rcases swx (x) 10 (by decide) with ⟨k_1, hk_1, ek_1⟩ | hk_1
  · obtain rfl | rfl | rfl | rfl | rfl | rfl | rfl | rfl | rfl | rfl : k_1 = 0 ∨ k_1 = 1 ∨ k_1 = 2 ∨ k_1 = 3 ∨ k_1 = 4 ∨ k_1 = 5 ∨ k_1 = 6 ∨ k_1 = 7 ∨ k_1 = 8 ∨ k_1 = 9 := by omega
    · refine lv_tableIn (off := 55) (tgt := 56) hx hb dX2_tell_1 (by rw [ek_1]; decide) (by rw [ek_1]; decide) (by rw [ek_1]; decide) (by decide) ?_
      refine lv_aload_n hx hb dX2_tell_56 rfl (lv_at hl 0 rfl) ?_
      refine r_get C hw in_X2 0 rfl rfl 11 (by decide) lk72 rfl dX2_tell_57 ?_
      exact r_iret C hw (Nat.le_refl _) (Nat.le_refl _) (⟨by rw [ek_1, selX_in (by omega) (by omega)]; rfl, rfl⟩) dX2_tell_60
    · refine lv_tableIn (off := 60) (tgt := 61) hx hb dX2_tell_1 (by rw [ek_1]; decide) (by rw [ek_1]; decide) (by rw [ek_1]; decide) (by decide) ?_
      refine lv_aload_n hx hb dX2_tell_61 rfl (lv_at hl 0 rfl) ?_
      refine r_get C hw in_X2 0 rfl rfl 0 (by decide) lk9 rfl dX2_tell_62 ?_
      exact r_iret C hw (Nat.le_refl _) (Nat.le_refl _) (⟨by rw [ek_1, selX_in (by omega) (by omega)]; rfl, rfl⟩) dX2_tell_65
    · refine lv_tableIn (off := 65) (tgt := 66) hx hb dX2_tell_1 (by rw [ek_1]; decide) (by rw [ek_1]; decide) (by rw [ek_1]; decide) (by decide) ?_
      refine lv_aload_n hx hb dX2_tell_66 rfl (lv_at hl 0 rfl) ?_
      refine r_get C hw in_X2 0 rfl rfl 5 (by decide) lk42 rfl dX2_tell_67 ?_
      exact r_iret C hw (Nat.le_refl _) (Nat.le_refl _) (⟨by rw [ek_1, selX_in (by omega) (by omega)]; rfl, rfl⟩) dX2_tell_70
    · refine lv_tableIn (off := 70) (tgt := 71) hx hb dX2_tell_1 (by rw [ek_1]; decide) (by rw [ek_1]; decide) (by rw [ek_1]; decide) (by decide) ?_
      refine lv_aload_n hx hb dX2_tell_71 rfl (lv_at hl 0 rfl) ?_
      refine r_get C hw in_X2 0 rfl rfl 1 (by decide) lk19 rfl dX2_tell_72 ?_
      exact r_iret C hw (Nat.le_refl _) (Nat.le_refl _) (⟨by rw [ek_1, selX_in (by omega) (by omega)]; rfl, rfl⟩) dX2_tell_75
    · refine lv_tableIn (off := 75) (tgt := 76) hx hb dX2_tell_1 (by rw [ek_1]; decide) (by rw [ek_1]; decide) (by rw [ek_1]; decide) (by decide) ?_
      refine lv_aload_n hx hb dX2_tell_76 rfl (lv_at hl 0 rfl) ?_
      refine r_get C hw in_X2 0 rfl rfl 3 (by decide) lk29 rfl dX2_tell_77 ?_
      exact r_iret C hw (Nat.le_refl _) (Nat.le_refl _) (⟨by rw [ek_1, selX_in (by omega) (by omega)]; rfl, rfl⟩) dX2_tell_80
    · refine lv_tableIn (off := 80) (tgt := 81) hx hb dX2_tell_1 (by rw [ek_1]; decide) (by rw [ek_1]; decide) (by rw [ek_1]; decide) (by decide) ?_
      refine lv_aload_n hx hb dX2_tell_81 rfl (lv_at hl 0 rfl) ?_
      refine r_get C hw in_X2 0 rfl rfl 4 (by decide) lk35 rfl dX2_tell_82 ?_
      exact r_iret C hw (Nat.le_refl _) (Nat.le_refl _) (⟨by rw [ek_1, selX_in (by omega) (by omega)]; rfl, rfl⟩) dX2_tell_85
    · refine lv_tableIn (off := 85) (tgt := 86) hx hb dX2_tell_1 (by rw [ek_1]; decide) (by rw [ek_1]; decide) (by rw [ek_1]; decide) (by decide) ?_
      refine lv_aload_n hx hb dX2_tell_86 rfl (lv_at hl 0 rfl) ?_
      refine r_get C hw in_X2 0 rfl rfl 6 (by decide) lk48 rfl dX2_tell_87 ?_
      exact r_iret C hw (Nat.le_refl _) (Nat.le_refl _) (⟨by rw [ek_1, selX_in (by omega) (by omega)]; rfl, rfl⟩) dX2_tell_90
    · refine lv_tableIn (off := 90) (tgt := 91) hx hb dX2_tell_1 (by rw [ek_1]; decide) (by rw [ek_1]; decide) (by rw [ek_1]; decide) (by decide) ?_
      refine lv_aload_n hx hb dX2_tell_91 rfl (lv_at hl 0 rfl) ?_
      refine r_get C hw in_X2 0 rfl rfl 7 (by decide) lk51 rfl dX2_tell_92 ?_
      exact r_iret C hw (Nat.le_refl _) (Nat.le_refl _) (⟨by rw [ek_1, selX_in (by omega) (by omega)]; rfl, rfl⟩) dX2_tell_95
    · refine lv_tableIn (off := 95) (tgt := 96) hx hb dX2_tell_1 (by rw [ek_1]; decide) (by rw [ek_1]; decide) (by rw [ek_1]; decide) (by decide) ?_
      refine lv_aload_n hx hb dX2_tell_96 rfl (lv_at hl 0 rfl) ?_
      refine r_get C hw in_X2 0 rfl rfl 10 (by decide) lk69 rfl dX2_tell_97 ?_
      exact r_iret C hw (Nat.le_refl _) (Nat.le_refl _) (⟨by rw [ek_1, selX_in (by omega) (by omega)]; rfl, rfl⟩) dX2_tell_100
    · refine lv_tableIn (off := 100) (tgt := 101) hx hb dX2_tell_1 (by rw [ek_1]; decide) (by rw [ek_1]; decide) (by rw [ek_1]; decide) (by decide) ?_
      refine lv_aload_n hx hb dX2_tell_101 rfl (lv_at hl 0 rfl) ?_
      refine r_get C hw in_X2 0 rfl rfl 11 (by decide) lk72 rfl dX2_tell_102 ?_
      refine n_ne0 (tgt := 121) hx hb (by omega) dX2_tell_105 (by decide) (fun c_2 => ?_) (fun c_2 => ?_)
      · skip
        refine lv_iconst (v := nI 0) hx hb dX2_tell_121 (by decide) ?_
        exact r_iret C hw (Nat.le_refl _) (Nat.le_refl _) (⟨by rw [ek_1, selX_in (by omega) (by omega)]; unfold tellS; (repeat' split) <;> first | rfl | omega, rfl⟩) dX2_tell_122
      · skip
        refine lv_bipush (v := nI 12) hx hb dX2_tell_108 (by decide) ?_
        refine lv_aload_n hx hb dX2_tell_110 rfl (lv_at hl 0 rfl) ?_
        refine k_Vi (As := []) (rest := [.int (nI 12)]) (wr := []) C hw (c_samplesAtOnce l g _ o st ly ck rt sp byt md ch bn ft bd oc (by omega)) (cwV 0 hts gX2_tell_X2_samplesAtOnce rfl rfl rfl (by decide +kernel) ⟨Nat.le_of_ble_eq_true rfl, Nat.le_of_ble_eq_true rfl⟩) bl_T (fun _ _ _ => trivial) [0] [] (by decide) rfl rfl (by decide) (by decide) 0 rfl rfl rfl hl.1 rfl (Nat.le_of_ble_eq_true rfl) dX2_tell_111 ⟨Nat.le_of_ble_eq_true rfl, Nat.le_of_ble_eq_true rfl⟩ (fun r_3 u H locs hp hw => ?_)
        obtain ⟨rfl, rfl⟩ := hp
        have hw := Wd.sub (ws' := [(o, .inr (2, [.int (nI st), .int (nI ly), .int (nI ck), .int (nI rt), .int (nI sp), .int (nI byt), .int (nI md), .int (nI ch), .int (nI bn), .int (nI ft), .int (nI bd), .int (nI oc)]))]) hw [0] (by decide) rfl
        refine n_mul hx hb dX2_tell_114 ?_
        refine lv_bipush (v := nI 32) hx hb dX2_tell_115 (by decide) ?_
        refine n_mul hx hb dX2_tell_117 ?_
        refine lv_goto (tgt := 122) hx hb dX2_tell_118 (by decide) ?_
        exact r_iret C hw (Nat.le_refl _) (Nat.le_refl _) (⟨by rw [ek_1, selX_in (by omega) (by omega)]; unfold tellS; (repeat' split) <;> first | rfl | omega, rfl⟩) dX2_tell_122
  · refine lv_tableOut (tgt := 123) hx hb dX2_tell_1 (by omega) (by decide) ?_
    refine lv_iconst (v := (-1)) hx hb dX2_tell_123 (by decide) ?_
    exact r_iret C hw (Nat.le_refl _) (Nat.le_refl _) (⟨by rw [selX_out (by omega)], rfl⟩) dX2_tell_124
