abbrev rm_c_isLost : Room := { frames := 0, cells := 0, slots := 0, locals := 0 }
set_option maxHeartbeats 4000000 in
set_option maxRecDepth 100000 in
theorem c_isLost (l : Launch) (g : GT) (sz : Nat) (r o sl co tp fb lim pos bey bad : Nat) (h1 : bad ≤ 1) (h2 : bey ≤ 1) : CtI l g yX3_isLost wsX3_isLost rm_c_isLost [.ref r] [(r, .inr (3, [.ref o, .ref sl, .ref co, .int (nI bad)])), (o, .inr (0, [.ref tp, .int (nI fb), .int (nI lim), .int (nI pos), .int (nI bey)]))] sz (fun _ => True) (fun rr u => rr = nI (if bad = 0 ∧ bey = 0 then 0 else 1) ∧ u = [(r, .inr (3, [.ref o, .ref sl, .ref co, .int (nI bad)])), (o, .inr (0, [.ref tp, .int (nI fb), .int (nI lim), .int (nI pos), .int (nI bey)]))]) (0) (0) := by
  refine ct_body (cc := cX3_isLost) (nL := 1) (ret := (some .boolean)) (by decide) rfl (Nat.le_of_ble_eq_true rfl) ?_
  intro p e s m below meth c ls C hin hsz hB hw hl
  obtain ⟨hx, hb, hml, hown, hts, hK, hA, hr, hlk⟩ := id C
  have lk12 := hts (.fieldLink RX3 12 "SoundBench$FrameReader" "bits" "LSoundBench$Bits;") (by decide +kernel)
  have lk38 := hts (.fieldLink RX3 38 "SoundBench$FrameReader" "bad" "Z") (by decide +kernel)
  have lk69 := hts (.fieldLink RX3 69 "SoundBench$Bits" "beyond" "Z") (by decide +kernel)
  have in_X3 : ∀ w ∈ wsX30, w ∈ wsX3_isLost := by unfold wsX3_isLost; intro w h; simp only [List.mem_cons, List.mem_append, h, or_true, true_or]
  have in_X0 : ∀ w ∈ wsX00, w ∈ wsX3_isLost := by unfold wsX3_isLost; intro w h; simp only [List.mem_cons, List.mem_append, h, or_true, true_or]
  have hl : lv_has ls 1 [(0, .ref r)] := hl
  have hw : Wd g (va_A [(r, .inr (3, [.ref o, .ref sl, .ref co, .int (nI bad)])), (o, .inr (0, [.ref tp, .int (nI fb), .int (nI lim), .int (nI pos), .int (nI bey)]))] sz) s.heap [(r, .inr (3, [.ref o, .ref sl, .ref co, .int (nI bad)])), (o, .inr (0, [.ref tp, .int (nI fb), .int (nI lim), .int (nI pos), .int (nI bey)]))] s.heap [] := hw
  refine lv_aload_n hx hb dX3_isLost_0 rfl (lv_at hl 0 rfl) ?_
  refine r_get C hw in_X3 0 rfl rfl 3 (by decide) lk38 rfl dX3_isLost_1 ?_
  refine n_ne0 (tgt := 17) hx hb (by omega) dX3_isLost_4 (by decide) (fun c_1 => ?_) (fun c_1 => ?_)
  · skip
    refine lv_iconst (v := nI 1) hx hb dX3_isLost_17 (by decide) ?_
    refine lv_goto (tgt := 22) hx hb dX3_isLost_18 (by decide) ?_
    exact r_zret C hw (by decide) (Nat.le_refl _) (Nat.le_refl _) (⟨by (repeat' split) <;> first | rfl | omega, rfl⟩) dX3_isLost_22
  · skip
    refine lv_aload_n hx hb dX3_isLost_7 rfl (lv_at hl 0 rfl) ?_
    refine r_get C hw in_X3 0 rfl rfl 0 (by decide) lk12 rfl dX3_isLost_8 ?_
    refine r_get C hw in_X0 1 rfl rfl 4 (by decide) lk69 rfl dX3_isLost_11 ?_
    refine n_eq0 (tgt := 21) hx hb (by omega) dX3_isLost_14 (by decide) (fun c_2 => ?_) (fun c_2 => ?_)
    · skip
      refine lv_iconst (v := nI 0) hx hb dX3_isLost_21 (by decide) ?_
      exact r_zret C hw (by decide) (Nat.le_refl _) (Nat.le_refl _) (⟨by (repeat' split) <;> first | rfl | omega, rfl⟩) dX3_isLost_22
    · skip
      refine lv_iconst (v := nI 1) hx hb dX3_isLost_17 (by decide) ?_
      refine lv_goto (tgt := 22) hx hb dX3_isLost_18 (by decide) ?_
      exact r_zret C hw (by decide) (Nat.le_refl _) (Nat.le_refl _) (⟨by (repeat' split) <;> first | rfl | omega, rfl⟩) dX3_isLost_22
abbrev rm_c_takeSteps : Room := { frames := 2, cells := 0, slots := 0, locals := 45 }
set_option maxHeartbeats 4000000 in
set_option maxRecDepth 100000 in
theorem c_takeSteps (l : Launch) (g : GT) (sz : Nat) (tb : Nat → Nat) (r o sl co tp n fb lim pos bey bad : Nat) (T : Nat → Nat) (f b : Nat) (st ly ck rt sp byt md ch bn ft bd oc : Nat) (hT : ∀ j, T j < 256) (hn : n < 2 ^ 27) (hl1 : 8 * fb + lim ≤ 8 * n) (hp1 : pos ≤ lim) (h1 : b < 2 ^ 31) (h2 : ft ≤ 1) (h3 : ly < 2 ^ 31) : CtI l g yX3_takeSteps wsX3_takeSteps rm_c_takeSteps [.ref r, .ref f, .int (nI b)] [(r, .inr (3, [.ref o, .ref sl, .ref co, .int (nI bad)])), (o, .inr (0, [.ref tp, .int (nI fb), .int (nI lim), .int (nI pos), .int (nI bey)])), (tp, aI g n (fun j => nI (T j))), (f, .inr (2, [.int (nI st), .int (nI ly), .int (nI ck), .int (nI rt), .int (nI sp), .int (nI byt), .int (nI md), .int (nI ch), .int (nI bn), .int (nI ft), .int (nI bd), .int (nI oc)]))] sz (fun U => Sx tb (va_A [(r, .inr (3, [.ref o, .ref sl, .ref co, .int (nI bad)])), (o, .inr (0, [.ref tp, .int (nI fb), .int (nI lim), .int (nI pos), .int (nI bey)])), (tp, aI g n (fun j => nI (T j))), (f, .inr (2, [.int (nI st), .int (nI ly), .int (nI ck), .int (nI rt), .int (nI sp), .int (nI byt), .int (nI md), .int (nI ch), .int (nI bn), .int (nI ft), .int (nI bd), .int (nI oc)]))] sz) U U.heap) (fun x u => x = nI (stepL ly ft b (tkV T (8 * fb) lim pos (aBits ly ft b))) ∧ u = [(r, .inr (3, [.ref o, .ref sl, .ref co, .int (nI (if stepB ly ft b (tkV T (8 * fb) lim pos (aBits ly ft b)) = 1 then 1 else bad))])), (o, .inr (0, [.ref tp, .int (nI fb), .int (nI lim), .int (nI (tkP lim pos (aBits ly ft b))), .int (nI (tkB lim pos (aBits ly ft b) bey))])), (tp, aI g n (fun j => nI (T j))), (f, .inr (2, [.int (nI st), .int (nI ly), .int (nI ck), .int (nI rt), .int (nI sp), .int (nI byt), .int (nI md), .int (nI ch), .int (nI bn), .int (nI ft), .int (nI bd), .int (nI oc)]))]) (0) (0) := by
  refine ct_body (cc := cX3_takeSteps) (nL := 4) (ret := (some .int)) (by decide) rfl (Nat.le_of_ble_eq_true rfl) ?_
  intro p e s m below meth c ls C hin hsz hB hw hl
  obtain ⟨hx, hb, hml, hown, hts, hK, hA, hr, hlk⟩ := id C
  have lk12 := hts (.fieldLink RX3 12 "SoundBench$FrameReader" "bits" "LSoundBench$Bits;") (by decide +kernel)
  have lk38 := hts (.fieldLink RX3 38 "SoundBench$FrameReader" "bad" "Z") (by decide +kernel)
  have in_X3 : ∀ w ∈ wsX30, w ∈ wsX3_takeSteps := by unfold wsX3_takeSteps; intro w h; simp only [List.mem_cons, List.mem_append, h, or_true, true_or]
  have hl : lv_has ls 4 [(0, .ref r), (1, .ref f), (2, .int (nI b))] := hl
  have hw : Wd g (va_A [(r, .inr (3, [.ref o, .ref sl, .ref co, .int (nI bad)])), (o, .inr (0, [.ref tp, .int (nI fb), .int (nI lim), .int (nI pos), .int (nI bey)])), (tp, aI g n (fun j => nI (T j))), (f, .inr (2, [.int (nI st), .int (nI ly), .int (nI ck), .int (nI rt), .int (nI sp), .int (nI byt), .int (nI md), .int (nI ch), .int (nI bn), .int (nI ft), .int (nI bd), .int (nI oc)]))] sz) s.heap [(r, .inr (3, [.ref o, .ref sl, .ref co, .int (nI bad)])), (o, .inr (0, [.ref tp, .int (nI fb), .int (nI lim), .int (nI pos), .int (nI bey)])), (tp, aI g n (fun j => nI (T j))), (f, .inr (2, [.int (nI st), .int (nI ly), .int (nI ck), .int (nI rt), .int (nI sp), .int (nI byt), .int (nI md), .int (nI ch), .int (nI bn), .int (nI ft), .int (nI bd), .int (nI oc)]))] s.heap [] := hw
  have ha := aBits_le ly ft b
  have hv := tkV_lt T (8 * fb) lim pos (aBits ly ft b)
  have hv2 := Nat.pow_le_pow_right (n := 2) (by omega) ha
  have hL := stOK_le (stepL_OK ly ft b (tkV T (8 * fb) lim pos (aBits ly ft b)))
  refine lv_aload_n hx hb dX3_takeSteps_0 rfl (lv_at hl 1 rfl) ?_
  refine lv_iload_n hx hb dX3_takeSteps_1 rfl (lv_at hl 2 rfl) ?_
  refine lv_aload_n hx hb dX3_takeSteps_2 rfl (lv_at hl 0 rfl) ?_
  refine r_get C hw in_X3 0 rfl rfl 0 (by decide) lk12 rfl dX3_takeSteps_3 ?_
  refine lv_aload_n hx hb dX3_takeSteps_6 rfl (lv_at hl 1 rfl) ?_
  refine lv_iload_n hx hb dX3_takeSteps_7 rfl (lv_at hl 2 rfl) ?_
  refine k_Vi (As := [.int (nI b)]) (rest := [.ref o, .int (nI b), .ref f]) (wr := [(r, .inr (3, [.ref o, .ref sl, .ref co, .int (nI bad)])), (o, .inr (0, [.ref tp, .int (nI fb), .int (nI lim), .int (nI pos), .int (nI bey)])), (tp, aI g n (fun j => nI (T j)))]) C hw (c_allocationBits l g _ tb f b st ly ck rt sp byt md ch bn ft bd oc (by omega) (by omega) (by omega)) (cwV 1 hts gX3_takeSteps_X2_allocationBits rfl rfl rfl (by decide +kernel) ⟨Nat.le_of_ble_eq_true rfl, Nat.le_of_ble_eq_true rfl⟩) sx_bl (sx_call C hw hB [3] rfl) [3] [0, 1, 2] (by decide) rfl rfl (by decide) (by decide) 3 rfl rfl rfl hl.1 rfl (Nat.le_of_ble_eq_true rfl) dX3_takeSteps_8 ⟨Nat.le_of_ble_eq_true rfl, Nat.le_of_ble_eq_true rfl⟩ (fun r_1 u H locs hp hw => ?_)
  obtain ⟨rfl, rfl⟩ := hp
  have hw := Wd.sub (ws' := [(r, .inr (3, [.ref o, .ref sl, .ref co, .int (nI bad)])), (o, .inr (0, [.ref tp, .int (nI fb), .int (nI lim), .int (nI pos), .int (nI bey)])), (tp, aI g n (fun j => nI (T j))), (f, .inr (2, [.int (nI st), .int (nI ly), .int (nI ck), .int (nI rt), .int (nI sp), .int (nI byt), .int (nI md), .int (nI ch), .int (nI bn), .int (nI ft), .int (nI bd), .int (nI oc)]))]) hw [0, 1, 2, 3] (by decide) rfl
  refine k_Vi (As := [.int (nI (aBits ly ft b))]) (rest := [.int (nI b), .ref f]) (wr := [(r, .inr (3, [.ref o, .ref sl, .ref co, .int (nI bad)])), (f, .inr (2, [.int (nI st), .int (nI ly), .int (nI ck), .int (nI rt), .int (nI sp), .int (nI byt), .int (nI md), .int (nI ch), .int (nI bn), .int (nI ft), .int (nI bd), .int (nI oc)]))]) C hw (c_take l g _ o tp n fb lim pos bey (aBits ly ft b) T hT hn hl1 hp1 (by omega)) (cwV 1 hts gX3_takeSteps_X0_take rfl rfl rfl (by decide +kernel) ⟨Nat.le_of_ble_eq_true rfl, Nat.le_of_ble_eq_true rfl⟩) bl_T (fun _ _ _ => trivial) [1, 2] [0, 3] (by decide) rfl rfl (by decide) (by decide) 1 rfl rfl rfl hl.1 rfl (Nat.le_of_ble_eq_true rfl) dX3_takeSteps_11 ⟨Nat.le_of_ble_eq_true rfl, Nat.le_of_ble_eq_true rfl⟩ (fun r_2 u H locs hp hw => ?_)
  obtain ⟨rfl, rfl⟩ := hp
  have hw := Wd.sub (ws' := [(r, .inr (3, [.ref o, .ref sl, .ref co, .int (nI bad)])), (o, .inr (0, [.ref tp, .int (nI fb), .int (nI lim), .int (nI (tkP lim pos (aBits ly ft b))), .int (nI (tkB lim pos (aBits ly ft b) bey))])), (tp, aI g n (fun j => nI (T j))), (f, .inr (2, [.int (nI st), .int (nI ly), .int (nI ck), .int (nI rt), .int (nI sp), .int (nI byt), .int (nI md), .int (nI ch), .int (nI bn), .int (nI ft), .int (nI bd), .int (nI oc)]))]) hw [0, 2, 3, 1] (by decide) rfl
  refine k_Vi (As := [.int (nI b), .int (nI (tkV T (8 * fb) lim pos (aBits ly ft b)))]) (rest := []) (wr := [(r, .inr (3, [.ref o, .ref sl, .ref co, .int (nI bad)])), (o, .inr (0, [.ref tp, .int (nI fb), .int (nI lim), .int (nI (tkP lim pos (aBits ly ft b))), .int (nI (tkB lim pos (aBits ly ft b) bey))])), (tp, aI g n (fun j => nI (T j)))]) C hw (c_stepsOf l g _ tb f b (tkV T (8 * fb) lim pos (aBits ly ft b)) st ly ck rt sp byt md ch bn ft bd oc (by omega) (by omega) (by omega) (by omega)) (cwV 2 hts gX3_takeSteps_X2_stepsOf rfl rfl rfl (by decide +kernel) ⟨Nat.le_of_ble_eq_true rfl, Nat.le_of_ble_eq_true rfl⟩) sx_bl (sx_call C hw hB [3] rfl) [3] [0, 1, 2] (by decide) rfl rfl (by decide) (by decide) 3 rfl rfl rfl hl.1 rfl (Nat.le_of_ble_eq_true rfl) dX3_takeSteps_14 ⟨Nat.le_of_ble_eq_true rfl, Nat.le_of_ble_eq_true rfl⟩ (fun r_3 u H locs hp hw => ?_)
  obtain ⟨rfl, rfl⟩ := hp
  have hw := Wd.sub (ws' := [(r, .inr (3, [.ref o, .ref sl, .ref co, .int (nI bad)])), (o, .inr (0, [.ref tp, .int (nI fb), .int (nI lim), .int (nI (tkP lim pos (aBits ly ft b))), .int (nI (tkB lim pos (aBits ly ft b) bey))])), (tp, aI g n (fun j => nI (T j))), (f, .inr (2, [.int (nI st), .int (nI ly), .int (nI ck), .int (nI rt), .int (nI sp), .int (nI byt), .int (nI md), .int (nI ch), .int (nI bn), .int (nI ft), .int (nI bd), .int (nI oc)]))]) hw [0, 1, 2, 3] (by decide) rfl
  refine lv_istore_n (lv' := [(3, .int (if stepB ly ft b (tkV T (8 * fb) lim pos (aBits ly ft b)) = 1 then -1 else nI (stepL ly ft b (tkV T (8 * fb) lim pos (aBits ly ft b))))), (0, .ref r), (1, .ref f), (2, .int (nI b))]) hx hb dX3_takeSteps_17 rfl hl (by decide) rfl (fun ls hl => ?_)
  refine lv_iload_n hx hb dX3_takeSteps_18 rfl (lv_at hl 0 rfl) ?_
  refine lv_iconst (v := (-1)) hx hb dX3_takeSteps_19 (by decide) ?_
  refine lv_icmp_ne (tgt := 30) hx hb dX3_takeSteps_20 (by decide) (fun c_x => ?_) (fun c_x => ?_)
  · skip
    have hb1 : stepB ly ft b (tkV T (8 * fb) lim pos (aBits ly ft b)) ≠ 1 := fun q => c_x (by rw [if_pos q])
    rw [if_neg hb1] at hl
    refine lv_iload_n hx hb dX3_takeSteps_30 rfl (lv_at hl 0 rfl) ?_
    exact r_iret C hw (Nat.le_refl _) (Nat.le_refl _) (⟨rfl, by rw [if_neg hb1]⟩) dX3_takeSteps_31
  · skip
    have hb1 : stepB ly ft b (tkV T (8 * fb) lim pos (aBits ly ft b)) = 1 := Classical.byContradiction fun q => by { rw [if_neg q] at c_x; exact absurd c_x (by have := nI_pos' (n := stepL ly ft b (tkV T (8 * fb) lim pos (aBits ly ft b))) (by omega); intro z; rw [z] at this; exact absurd this (by decide)) }
    refine lv_aload_n hx hb dX3_takeSteps_23 rfl (lv_at hl 1 rfl) ?_
    refine lv_iconst (v := nI 1) hx hb dX3_takeSteps_24 (by decide) ?_
    refine r_put C hw in_X3 tyX3_ok nmX3 0 rfl rfl 3 (by decide) lk38 rfl (by decide) (by decide) (Nat.le_of_ble_eq_true rfl) (ws' := [(r, .inr (3, [.ref o, .ref sl, .ref co, .int (nI 1)])), (o, .inr (0, [.ref tp, .int (nI fb), .int (nI lim), .int (nI (tkP lim pos (aBits ly ft b))), .int (nI (tkB lim pos (aBits ly ft b) bey))])), (tp, aI g n (fun j => nI (T j))), (f, .inr (2, [.int (nI st), .int (nI ly), .int (nI ck), .int (nI rt), .int (nI sp), .int (nI byt), .int (nI md), .int (nI ch), .int (nI bn), .int (nI ft), .int (nI bd), .int (nI oc)]))]) rfl dX3_takeSteps_25 (fun H locs hw => ?_)
    refine lv_iconst (v := nI 0) hx hb dX3_takeSteps_28 (by decide) ?_
    exact r_iret C hw (Nat.le_refl _) (Nat.le_refl _) (⟨by rw [stepL_bad hb1], by rw [if_pos hb1]⟩) dX3_takeSteps_29
