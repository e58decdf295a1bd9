abbrev rm_c_copyOfI (m_ : Nat) : Room := { frames := 1, cells := 1, slots := m_, locals := 18 }
set_option maxHeartbeats 4000000 in
set_option maxRecDepth 100000 in
theorem c_copyOfI (l : Launch) (g : GT) (sz : Nat) (a n m_ : Nat) (f : Nat → Int32) (h1 : m_ ≠ n) (h2 : n < 2 ^ 31) (h3 : m_ ≤ 67108864) : CtR l g yJ7_copyOf_59c91 wsJ7_copyOf_59c91 (rm_c_copyOfI m_) [.ref a, .int (nI m_)] [(a, aI g n f)] sz (fun _ => True) (fun rr u => u = [(a, aI g n f), (rr, aI g m_ (va_cpy f (fun _ => 0) 0 0 (min n m_)))]) (1) (m_) := by
  refine ct_body (cc := cJ7_copyOf_59c91) (nL := 3) (ret := (some (.array .int))) (by decide) rfl (Nat.le_of_ble_eq_true rfl) ?_
  intro p e s m below meth c ls C hin hsz hB hw hl
  obtain ⟨hx, hb, hml, hown, hts, hK, hA, hr, hlk⟩ := id C
  have hl : lv_has ls 3 [(0, .ref a), (1, .int (nI m_))] := hl
  have hw : Wd g (va_A [(a, aI g n f)] sz) s.heap [(a, aI g n f)] s.heap [] := hw
  refine lv_iload_n hx hb dJ7_copyOf_59c91_0 rfl (lv_at hl 1 rfl) ?_
  refine lv_aload_n hx hb dJ7_copyOf_59c91_1 rfl (lv_at hl 0 rfl) ?_
  refine r_alen C hw 0 0 rfl rfl rfl dJ7_copyOf_59c91_2 ?_
  refine n_cne (tgt := 14) hx hb (by omega) (by omega) dJ7_copyOf_59c91_3 (by decide) (fun c_1 => ?_) (fun c_1 => ?_)
  · skip
    refine lv_iload_n hx hb dJ7_copyOf_59c91_14 rfl (lv_at hl 1 rfl) ?_
    refine r_newI C hw (hts (.arrayClass .int) (by decide +kernel)) (by omega) (Nat.le_of_ble_eq_true rfl) (by show 0 + m_ ≤ m_; omega) dJ7_copyOf_59c91_15 (fun q H hw => ?_)
    have hw : Wd g (va_A [(a, aI g n f)] sz) s.heap [(a, aI g n f), (q, aI g m_ (fun _ => 0))] H _ := hw
    refine lv_astore_n (lv' := [(2, .ref q), (0, .ref a), (1, .int (nI m_))]) hx hb dJ7_copyOf_59c91_17 rfl hl (by decide) rfl (fun ls hl => ?_)
    refine lv_aload_n hx hb dJ7_copyOf_59c91_18 rfl (lv_at hl 1 rfl) ?_
    refine lv_iconst (v := nI 0) hx hb dJ7_copyOf_59c91_19 (by decide) ?_
    refine lv_aload_n hx hb dJ7_copyOf_59c91_20 rfl (lv_at hl 0 rfl) ?_
    refine lv_iconst (v := nI 0) hx hb dJ7_copyOf_59c91_21 (by decide) ?_
    refine lv_aload_n hx hb dJ7_copyOf_59c91_22 rfl (lv_at hl 1 rfl) ?_
    refine r_alen C hw 0 0 rfl rfl rfl dJ7_copyOf_59c91_23 ?_
    refine lv_iload_n hx hb dJ7_copyOf_59c91_24 rfl (lv_at hl 2 rfl) ?_
    refine va_mmin hx hb (hml.trans hl.1.symm) hown (hts (.methodLink RJ7 304 Lib.Math.min.name) (by decide +kernel)) (hts (.static Lib.Math.min.name) (by decide +kernel)) (hts (.initialized "java/lang/Math") (by decide +kernel)) (hts (.code Lib.Math.min.name Lib.Math.min.code 2 (some .int)) (by decide +kernel)) (Nat.le_of_ble_eq_true rfl) (Nat.le_of_ble_eq_true rfl) (Nat.le_of_ble_eq_true rfl) (by show 0 + m_ ≤ m_; omega) dJ7_copyOf_59c91_25 ?_
    refine tp1 (min_nI (by omega) (by omega)) ?_
    refine r_copyI C hw (hml.trans hl.1.symm) (hts (.methodLink RJ7 150 arraycopyName) (by decide +kernel)) (hts (.native arraycopyName) (by decide +kernel)) (hts (.static arraycopyName) (by decide +kernel)) (hts (.initialized "java/lang/System") (by decide +kernel)) 0 1 rfl rfl (by omega) (by omega) (by omega) (Nat.le_of_ble_eq_true rfl) (Nat.le_of_ble_eq_true rfl) dJ7_copyOf_59c91_28 (ws' := [(a, aI g n f), (q, aI g m_ (va_cpy f (fun _ => 0) 0 0 (min n m_)))]) rfl (fun H locs hw => ?_)
    refine lv_aload_n hx hb dJ7_copyOf_59c91_31 rfl (lv_at hl 0 rfl) ?_
    exact r_aret (Post := fun rr u => u = [(a, aI g n f), (rr, aI g m_ (va_cpy f (fun _ => 0) 0 0 (min n m_)))]) C hw (Or.inr ⟨_, rfl⟩) (Nat.le_refl _) (by omega) (rfl) dJ7_copyOf_59c91_32
  · skip
    exfalso; omega
abbrev rm_c_makeRoom (md more cap : Nat) : Room := { frames := 2, cells := 1, slots := 2 * (capS md more cap - cap), locals := 40 }
set_option maxHeartbeats 4000000 in
set_option maxRecDepth 100000 in
theorem c_makeRoom (l : Launch) (g : GT) (sz : Nat) (v wv nu su sa nw md cap more : Nat) (sm : Nat → Int32) (h1 : md ≤ cap) (h2 : cap < 2 ^ 24) (h3 : md + more < 2 ^ 24) : CtV l g yX4_makeRoom wsX4_makeRoom (rm_c_makeRoom md more cap) [.ref v, .int (nI more)] [(v, .inr (4, [.ref wv, .ref nu, .int (nI nw), .ref su, .ref sa, .int (nI md)])), (sa, aI g cap sm)] sz (fun _ => True) (fun u => ∃ (sa2 : Nat) (sm2 : Nat → Int32), u = [(v, .inr (4, [.ref wv, .ref nu, .int (nI nw), .ref su, .ref sa2, .int (nI md)])), (sa2, aI g (capS md more cap) sm2)] ∧ ∀ j, j < md → sm2 j = sm j) (1) (2 * (capS md more cap - cap)) := by
  refine ct_body (cc := cX4_makeRoom) (nL := 3) (ret := none) (by decide) rfl (Nat.le_of_ble_eq_true rfl) ?_
  intro p e s m below meth c ls C hin hsz hB hw hl
  obtain ⟨hx, hb, hml, hown, hts, hK, hA, hr, hlk⟩ := id C
  have lk19 := hts (.fieldLink RX4 19 "SoundBench$Voice" "samples" "[I") (by decide +kernel)
  have lk36 := hts (.fieldLink RX4 36 "SoundBench$Voice" "made" "I") (by decide +kernel)
  have in_X4 : ∀ w ∈ wsX40, w ∈ wsX4_makeRoom := by unfold wsX4_makeRoom; intro w h; simp only [List.mem_cons, List.mem_append, h, or_true, true_or]
  have hl : lv_has ls 3 [(0, .ref v), (1, .int (nI more))] := hl
  have hw : Wd g (va_A [(v, .inr (4, [.ref wv, .ref nu, .int (nI nw), .ref su, .ref sa, .int (nI md)])), (sa, aI g cap sm)] sz) s.heap [(v, .inr (4, [.ref wv, .ref nu, .int (nI nw), .ref su, .ref sa, .int (nI md)])), (sa, aI g cap sm)] s.heap [] := hw
  refine lv_aload_n hx hb dX4_makeRoom_0 rfl (lv_at hl 0 rfl) ?_
  refine r_get C hw in_X4 0 rfl rfl 5 (by decide) lk36 rfl dX4_makeRoom_1 ?_
  refine lv_iload_n hx hb dX4_makeRoom_4 rfl (lv_at hl 1 rfl) ?_
  refine n_add hx hb dX4_makeRoom_5 ?_
  refine lv_istore_n (lv' := [(2, .int (nI (md + more))), (0, .ref v), (1, .int (nI more))]) hx hb dX4_makeRoom_6 rfl hl (by decide) rfl (fun ls hl => ?_)
  refine lv_iload_n hx hb dX4_makeRoom_7 rfl (lv_at hl 0 rfl) ?_
  refine lv_aload_n hx hb dX4_makeRoom_8 rfl (lv_at hl 1 rfl) ?_
  refine r_get C hw in_X4 0 rfl rfl 4 (by decide) lk19 rfl dX4_makeRoom_9 ?_
  refine r_alen C hw 1 0 rfl rfl rfl dX4_makeRoom_12 ?_
  refine n_cle (tgt := 38) hx hb (by omega) (by omega) dX4_makeRoom_13 (by decide) (fun c_1 => ?_) (fun c_1 => ?_)
  · skip
    have hcS : capS md more cap = cap := if_pos (by omega)
    exact r_vret C hw (Nat.zero_le _) (Nat.zero_le _) (⟨_, _, by rw [hcS], fun _ _ => rfl⟩) dX4_makeRoom_38
  · skip
    have hcS : capS md more cap = max (md + more) (2 * cap) := if_neg (by omega)
    refine lv_aload_n hx hb dX4_makeRoom_16 rfl (lv_at hl 1 rfl) ?_
    refine lv_aload_n hx hb dX4_makeRoom_17 rfl (lv_at hl 1 rfl) ?_
    refine r_get C hw in_X4 0 rfl rfl 4 (by decide) lk19 rfl dX4_makeRoom_18 ?_
    refine lv_iload_n hx hb dX4_makeRoom_21 rfl (lv_at hl 0 rfl) ?_
    refine lv_iconst (v := nI 2) hx hb dX4_makeRoom_22 (by decide) ?_
    refine lv_aload_n hx hb dX4_makeRoom_23 rfl (lv_at hl 1 rfl) ?_
    refine r_get C hw in_X4 0 rfl rfl 4 (by decide) lk19 rfl dX4_makeRoom_24 ?_
    refine r_alen C hw 1 0 rfl rfl rfl dX4_makeRoom_27 ?_
    refine n_mul hx hb dX4_makeRoom_28 ?_
    refine va_mmax hx hb (hml.trans hl.1.symm) hown (hts (.methodLink RX4 68 Lib.Math.max.name) (by decide +kernel)) (hts (.static Lib.Math.max.name) (by decide +kernel)) (hts (.initialized "java/lang/Math") (by decide +kernel)) (hts (.code Lib.Math.max.name Lib.Math.max.code 2 (some .int)) (by decide +kernel)) (Nat.le_of_ble_eq_true rfl) (Nat.le_of_ble_eq_true rfl) (Nat.le_of_ble_eq_true rfl) (Nat.zero_le _) dX4_makeRoom_29 ?_
    refine tp1 (max_nI (by omega) (by omega)) ?_
    refine k_Sr (As := [.ref sa, .int (nI (max (md + more) (2 * cap)))]) (rest := [.ref v]) (wr := [(v, .inr (4, [.ref wv, .ref nu, .int (nI nw), .ref su, .ref sa, .int (nI md)]))]) C hw (c_copyOfI l g _ sa cap (max (md + more) (2 * cap)) sm (by omega) (by omega) (by omega)) (va_cwS 2 hts gX4_makeRoom_J7_copyOf_59c91 rfl rfl rfl (by decide +kernel) ⟨Nat.le_of_ble_eq_true rfl, Nat.le_of_ble_eq_true rfl⟩) bl_T (fun _ _ _ => trivial) [1] [0] (by decide) rfl rfl (by decide) (by decide) rfl hl.1 rfl (Nat.le_of_ble_eq_true rfl) dX4_makeRoom_32 ⟨Nat.le_of_ble_eq_true rfl, by show 0 + max (md + more) (2 * cap) ≤ 2 * (capS md more cap - cap); omega⟩ (fun r_2 u H locs hp hw => ?_)
    subst hp
    have hw := Wd.sub (ws' := [(v, .inr (4, [.ref wv, .ref nu, .int (nI nw), .ref su, .ref sa, .int (nI md)])), (sa, aI g cap sm), (r_2, aI g (max (md + more) (2 * cap)) (va_cpy sm (fun _ => 0) 0 0 (min cap (max (md + more) (2 * cap)))))]) hw [0, 1, 2] (by decide) rfl
    refine r_put C hw in_X4 tyX4_ok nmX4 0 rfl rfl 4 (by decide) lk19 rfl rfl rfl (Nat.le_of_ble_eq_true rfl) (ws' := [(v, .inr (4, [.ref wv, .ref nu, .int (nI nw), .ref su, .ref r_2, .int (nI md)])), (sa, aI g cap sm), (r_2, aI g (max (md + more) (2 * cap)) (va_cpy sm (fun _ => 0) 0 0 (min cap (max (md + more) (2 * cap)))))]) rfl dX4_makeRoom_35 (fun H locs hw => ?_)
    have hw := Wd.sub (ws' := [(v, .inr (4, [.ref wv, .ref nu, .int (nI nw), .ref su, .ref r_2, .int (nI md)])), (r_2, aI g (max (md + more) (2 * cap)) (va_cpy sm (fun _ => 0) 0 0 (min cap (max (md + more) (2 * cap)))))]) hw [0, 2] (by decide) rfl
    exact r_vret C hw (Nat.le_refl _) (by show 0 + max (md + more) (2 * cap) ≤ 2 * (capS md more cap - cap); omega) (⟨_, _, by rw [hcS], fun j hj => by rw [pk_cpy_in (by omega) (by omega)]; congr 1; omega⟩) dX4_makeRoom_38
abbrev rm_c_sound (md kr cap : Nat) : Room := { frames := 3, cells := 1, slots := 2 * (capS md (kr * 32) cap - cap), locals := 64 }
set_option maxHeartbeats 4000000 in
set_option maxRecDepth 100000 in
theorem c_sound (l : Launch) (g : GT) (sz : Nat) (v wv wc ww nu su sa nw md cap k ks kf km kc kr c_ : Nat) (num sm row : Nat → Int32) (sum_ : Nat → Int64) (h1 : md ≤ cap) (h2 : cap < 2 ^ 24) (h3 : md + kr * 32 < 2 ^ 23) (h4 : nw < 1024) (h5 : kr ≤ 36) (h6 : c_ ≤ 1) : CtV l g yX4_sound wsX4_sound (rm_c_sound md kr cap) [.ref v, .ref k, .int (nI c_)] [(v, .inr (4, [.ref wv, .ref nu, .int (nI nw), .ref su, .ref sa, .int (nI md)])), (wv, .inr (5, [.ref wc, .ref ww])), (wc, aI g 128 cosA), (ww, aI g 512 winA), (nu, aI g 1024 num), (su, aJ g 64 sum_), (sa, aI g cap sm), (k, .inr (1, [.int (nI kc), .int (nI kr), .ref ks, .ref kf, .ref km])), (km, aI g 2304 row)] sz (fun _ => True) (fun u => ∃ (sa2 : Nat) (s2 : Nat → Int64) (sm2 : Nat → Int32), u = [(v, .inr (4, [.ref wv, .ref nu, .int (nI ((lp (sdF row c_) kr (nw, num)).1)), .ref su, .ref sa2, .int (nI (md + 32 * kr))])), (wv, .inr (5, [.ref wc, .ref ww])), (wc, aI g 128 cosA), (ww, aI g 512 winA), (nu, aI g 1024 ((lp (sdF row c_) kr (nw, num)).2)), (su, aJ g 64 s2), (sa2, aI g (capS md (kr * 32) cap) sm2), (k, .inr (1, [.int (nI kc), .int (nI kr), .ref ks, .ref kf, .ref km])), (km, aI g 2304 row)] ∧ (∀ j, j < md → sm2 j = sm j) ∧ ∀ t, t < kr → ∀ j, j < 32 → sm2 (md + 32 * t + j) = pcS (lp (sdF row c_) (t + 1) (nw, num)) j) (1) (2 * (capS md (kr * 32) cap - cap)) := by
  refine ct_body (cc := cX4_sound) (nL := 4) (ret := none) (by decide) rfl (Nat.le_of_ble_eq_true rfl) ?_
  intro p e s m below meth c ls C hin hsz hB hw hl
  obtain ⟨hx, hb, hml, hown, hts, hK, hA, hr, hlk⟩ := id C
  have lk49 := hts (.fieldLink RX4 49 "SoundBench$Content" "rows" "I") (by decide +kernel)
  have lk58 := hts (.fieldLink RX4 58 "SoundBench$Content" "samples" "[I") (by decide +kernel)
  have in_X1 : ∀ w ∈ wsX10, w ∈ wsX4_sound := by unfold wsX4_sound; intro w h; simp only [List.mem_cons, List.mem_append, h, or_true, true_or]
  have hl : lv_has ls 4 [(0, .ref v), (1, .ref k), (2, .int (nI c_))] := hl
  have hw : Wd g (va_A [(v, .inr (4, [.ref wv, .ref nu, .int (nI nw), .ref su, .ref sa, .int (nI md)])), (wv, .inr (5, [.ref wc, .ref ww])), (wc, aI g 128 cosA), (ww, aI g 512 winA), (nu, aI g 1024 num), (su, aJ g 64 sum_), (sa, aI g cap sm), (k, .inr (1, [.int (nI kc), .int (nI kr), .ref ks, .ref kf, .ref km])), (km, aI g 2304 row)] sz) s.heap [(v, .inr (4, [.ref wv, .ref nu, .int (nI nw), .ref su, .ref sa, .int (nI md)])), (wv, .inr (5, [.ref wc, .ref ww])), (wc, aI g 128 cosA), (ww, aI g 512 winA), (nu, aI g 1024 num), (su, aJ g 64 sum_), (sa, aI g cap sm), (k, .inr (1, [.int (nI kc), .int (nI kr), .ref ks, .ref kf, .ref km])), (km, aI g 2304 row)] s.heap [] := hw
  have hk32 := k32_eq
  have hcg := capS_ge md (kr * 32) cap
  have hcl : capS md (kr * 32) cap < 2 ^ 26 := by unfold capS; split <;> omega
  refine lv_aload_n hx hb dX4_sound_0 rfl (lv_at hl 0 rfl) ?_
  refine lv_aload_n hx hb dX4_sound_1 rfl (lv_at hl 1 rfl) ?_
  refine r_get C hw in_X1 7 rfl rfl 1 (by decide) lk49 rfl dX4_sound_2 ?_
  refine lv_bipush (v := nI 32) hx hb dX4_sound_5 (by decide) ?_
  refine n_mul hx hb dX4_sound_7 ?_
  refine k_Vv (As := [.int (nI (kr * 32))]) (rest := []) (wr := [(wv, .inr (5, [.ref wc, .ref ww])), (wc, aI g 128 cosA), (ww, aI g 512 winA), (nu, aI g 1024 num), (su, aJ g 64 sum_), (k, .inr (1, [.int (nI kc), .int (nI kr), .ref ks, .ref kf, .ref km])), (km, aI g 2304 row)]) C hw (c_makeRoom l g _ v wv nu su sa nw md cap (kr * 32) sm h1 h2 (by omega)) (cwV 1 hts gX4_sound_X4_makeRoom rfl rfl rfl (by decide +kernel) ⟨Nat.le_of_ble_eq_true rfl, Nat.le_of_ble_eq_true rfl⟩) bl_T (fun _ _ _ => trivial) [0, 6] [1, 2, 3, 4, 5, 7, 8] (by decide) rfl rfl (by decide) (by decide) 0 rfl rfl rfl hl.1 rfl (Nat.le_of_ble_eq_true rfl) dX4_sound_8 ⟨Nat.le_of_ble_eq_true rfl, by show 0 + 2 * (capS md (kr * 32) cap - cap) ≤ 2 * (capS md (kr * 32) cap - cap); omega⟩ (fun u H locs hp hw => ?_)
  obtain ⟨sa2, sm0, rfl, hsm⟩ := hp
  have hw := Wd.sub (ws' := [(v, .inr (4, [.ref wv, .ref nu, .int (nI nw), .ref su, .ref sa2, .int (nI md)])), (wv, .inr (5, [.ref wc, .ref ww])), (wc, aI g 128 cosA), (ww, aI g 512 winA), (nu, aI g 1024 num), (su, aJ g 64 sum_), (sa2, aI g (capS md (kr * 32) cap) sm0), (k, .inr (1, [.int (nI kc), .int (nI kr), .ref ks, .ref kf, .ref km])), (km, aI g 2304 row)]) hw [7, 0, 1, 2, 3, 4, 8, 5, 6] (by decide) rfl
  refine lv_iconst (v := nI 0) hx hb dX4_sound_11 (by decide) ?_
  refine lv_istore_n (lv' := [(3, .int (nI 0)), (0, .ref v), (1, .ref k), (2, .int (nI c_))]) hx hb dX4_sound_12 rfl hl (by decide) rfl (fun ls hl => ?_)
  refine lps (σ := Nat × (Nat → Int32)) (sdF row c_) (fun i x => x.1 < 1024) (fun i x H locs ls => ∃ (s1 : Nat → Int64) (sm1 : Nat → Int32), Wd g (va_A [(v, .inr (4, [.ref wv, .ref nu, .int (nI nw), .ref su, .ref sa, .int (nI md)])), (wv, .inr (5, [.ref wc, .ref ww])), (wc, aI g 128 cosA), (ww, aI g 512 winA), (nu, aI g 1024 num), (su, aJ g 64 sum_), (sa, aI g cap sm), (k, .inr (1, [.int (nI kc), .int (nI kr), .ref ks, .ref kf, .ref km])), (km, aI g 2304 row)] sz) s.heap [(v, .inr (4, [.ref wv, .ref nu, .int (nI x.1), .ref su, .ref sa2, .int (nI (md + 32 * i))])), (wv, .inr (5, [.ref wc, .ref ww])), (wc, aI g 128 cosA), (ww, aI g 512 winA), (nu, aI g 1024 x.2), (su, aJ g 64 s1), (sa2, aI g (capS md (kr * 32) cap) sm1), (k, .inr (1, [.int (nI kc), .int (nI kr), .ref ks, .ref kf, .ref km])), (km, aI g 2304 row)] H locs ∧ lv_has ls 4 [(0, .ref v), (1, .ref k), (2, .int (nI c_)), (3, .int (nI i))] ∧ ((∀ j, j < md → sm1 j = sm j) ∧ ∀ t, t < i → ∀ j, j < 32 → sm1 (md + 32 * t + j) = pcS (lp (sdF row c_) (t + 1) (nw, num)) j)) (kr) ((nw, num)) ?_ ?_ (h4) ⟨_, _, hw, (lv_sub hl [1, 2, 3, 0] rfl), ⟨hsm, fun t ht => by omega⟩⟩
  · intro x hJ hx_ H locs ls hI
    subst hx_
    obtain ⟨s1, sm1, hw, hl, hE⟩ := hI
    have hw : Wd g (va_A [(v, .inr (4, [.ref wv, .ref nu, .int (nI nw), .ref su, .ref sa, .int (nI md)])), (wv, .inr (5, [.ref wc, .ref ww])), (wc, aI g 128 cosA), (ww, aI g 512 winA), (nu, aI g 1024 num), (su, aJ g 64 sum_), (sa, aI g cap sm), (k, .inr (1, [.int (nI kc), .int (nI kr), .ref ks, .ref kf, .ref km])), (km, aI g 2304 row)] sz) s.heap [(v, .inr (4, [.ref wv, .ref nu, .int (nI ((lp (sdF row c_) kr (nw, num)).1)), .ref su, .ref sa2, .int (nI (md + 32 * kr))])), (wv, .inr (5, [.ref wc, .ref ww])), (wc, aI g 128 cosA), (ww, aI g 512 winA), (nu, aI g 1024 ((lp (sdF row c_) kr (nw, num)).2)), (su, aJ g 64 s1), (sa2, aI g (capS md (kr * 32) cap) sm1), (k, .inr (1, [.int (nI kc), .int (nI kr), .ref ks, .ref kf, .ref km])), (km, aI g 2304 row)] H locs := hw
    have hl : lv_has ls 4 [(0, .ref v), (1, .ref k), (2, .int (nI c_)), (3, .int (nI kr))] := hl
    refine lv_iload_n hx hb dX4_sound_13 rfl (lv_at hl 3 rfl) ?_
    refine lv_aload_n hx hb dX4_sound_14 rfl (lv_at hl 1 rfl) ?_
    refine r_get C hw in_X1 7 rfl rfl 1 (by decide) lk49 rfl dX4_sound_15 ?_
    refine n_cge (tgt := 44) hx hb (by omega) (by omega) dX4_sound_18 (by decide) (fun c_2 => ?_) (fun c_2 => ?_)
    · skip
      exact r_vret C hw (by omega) (by omega) (⟨_, _, _, rfl, hE⟩) dX4_sound_44
    · skip
      exfalso; omega
  · intro i x hi hJ hxe H locs ls hI K
    obtain ⟨xa, xn⟩ := x
    obtain ⟨s1, sm1, hw, hl, hE⟩ := hI
    dsimp only at hJ
    have hw : Wd g (va_A [(v, .inr (4, [.ref wv, .ref nu, .int (nI nw), .ref su, .ref sa, .int (nI md)])), (wv, .inr (5, [.ref wc, .ref ww])), (wc, aI g 128 cosA), (ww, aI g 512 winA), (nu, aI g 1024 num), (su, aJ g 64 sum_), (sa, aI g cap sm), (k, .inr (1, [.int (nI kc), .int (nI kr), .ref ks, .ref kf, .ref km])), (km, aI g 2304 row)] sz) s.heap [(v, .inr (4, [.ref wv, .ref nu, .int (nI xa), .ref su, .ref sa2, .int (nI (md + 32 * i))])), (wv, .inr (5, [.ref wc, .ref ww])), (wc, aI g 128 cosA), (ww, aI g 512 winA), (nu, aI g 1024 xn), (su, aJ g 64 s1), (sa2, aI g (capS md (kr * 32) cap) sm1), (k, .inr (1, [.int (nI kc), .int (nI kr), .ref ks, .ref kf, .ref km])), (km, aI g 2304 row)] H locs := hw
    have hl : lv_has ls 4 [(0, .ref v), (1, .ref k), (2, .int (nI c_)), (3, .int (nI i))] := hl
    refine lv_iload_n hx hb dX4_sound_13 rfl (lv_at hl 3 rfl) ?_
    refine lv_aload_n hx hb dX4_sound_14 rfl (lv_at hl 1 rfl) ?_
    refine r_get C hw in_X1 7 rfl rfl 1 (by decide) lk49 rfl dX4_sound_15 ?_
    refine n_cge (tgt := 44) hx hb (by omega) (by omega) dX4_sound_18 (by decide) (fun c_3 => ?_) (fun c_3 => ?_)
    · skip
      exfalso; omega
    · skip
      refine lv_aload_n hx hb dX4_sound_21 rfl (lv_at hl 0 rfl) ?_
      refine lv_aload_n hx hb dX4_sound_22 rfl (lv_at hl 1 rfl) ?_
      refine r_get C hw in_X1 7 rfl rfl 4 (by decide) lk58 rfl dX4_sound_23 ?_
      refine lv_iload_n hx hb dX4_sound_26 rfl (lv_at hl 2 rfl) ?_
      refine lv_iload_n hx hb dX4_sound_27 rfl (lv_at hl 3 rfl) ?_
      refine k_Si (As := [.int (nI c_), .int (nI i)]) (rest := [.ref km, .ref v]) (wr := [(v, .inr (4, [.ref wv, .ref nu, .int (nI xa), .ref su, .ref sa2, .int (nI (md + 32 * i))])), (wv, .inr (5, [.ref wc, .ref ww])), (wc, aI g 128 cosA), (ww, aI g 512 winA), (nu, aI g 1024 xn), (su, aJ g 64 s1), (sa2, aI g (capS md (kr * 32) cap) sm1), (k, .inr (1, [.int (nI kc), .int (nI kr), .ref ks, .ref kf, .ref km])), (km, aI g 2304 row)]) C hw (c_rowIndex l g _ c_ i) (va_cwS 2 hts gX4_sound_X1_rowIndex rfl rfl rfl (by decide +kernel) ⟨Nat.le_of_ble_eq_true rfl, Nat.le_of_ble_eq_true rfl⟩) bl_T (fun _ _ _ => trivial) [] [0, 1, 2, 3, 4, 5, 6, 7, 8] (by decide) rfl rfl (by decide) (by decide) rfl hl.1 rfl (Nat.le_of_ble_eq_true rfl) dX4_sound_28 ⟨by show 0 + 1 + 0 ≤ 1; omega, by show 0 + 2 * (capS md (kr * 32) cap - cap) + 0 ≤ 2 * (capS md (kr * 32) cap - cap); omega⟩ (fun r_4 u H locs hp hw => ?_)
      obtain ⟨rfl, rfl⟩ := hp
      have hw := Wd.sub (ws' := [(v, .inr (4, [.ref wv, .ref nu, .int (nI xa), .ref su, .ref sa2, .int (nI (md + 32 * i))])), (wv, .inr (5, [.ref wc, .ref ww])), (wc, aI g 128 cosA), (ww, aI g 512 winA), (nu, aI g 1024 xn), (su, aJ g 64 s1), (sa2, aI g (capS md (kr * 32) cap) sm1), (k, .inr (1, [.int (nI kc), .int (nI kr), .ref ks, .ref kf, .ref km])), (km, aI g 2304 row)]) hw [0, 1, 2, 3, 4, 5, 6, 7, 8] (by decide) rfl
      refine k_Vv (As := [.ref km, .int (nI ((c_ * 36 + i) * 32))]) (rest := []) (wr := [(ww, aI g 512 winA), (sa2, aI g (capS md (kr * 32) cap) sm1), (k, .inr (1, [.int (nI kc), .int (nI kr), .ref ks, .ref kf, .ref km]))]) C hw (c_takeRow l g _ v wv wc ww nu su sa2 km 2304 xa (md + 32 * i) ((c_ * 36 + i) * 32) xn row s1 hJ (by omega) (by omega)) (cwV 2 hts gX4_sound_X4_takeRow rfl rfl rfl (by decide +kernel) ⟨Nat.le_of_ble_eq_true rfl, Nat.le_of_ble_eq_true rfl⟩) bl_T (fun _ _ _ => trivial) [0, 1, 2, 4, 5, 8] [3, 6, 7] (by decide) rfl rfl (by decide) (by decide) 0 rfl rfl rfl hl.1 rfl (Nat.le_of_ble_eq_true rfl) dX4_sound_31 ⟨by show 0 + 1 + 0 + 0 ≤ 1; omega, by show 0 + 2 * (capS md (kr * 32) cap - cap) + 0 + 0 ≤ 2 * (capS md (kr * 32) cap - cap); omega⟩ (fun u H locs hp hw => ?_)
      obtain ⟨s2, rfl⟩ := hp
      have hw := Wd.sub (ws' := [(v, .inr (4, [.ref wv, .ref nu, .int (nI ((rowS row ((c_ * 36 + i) * 32) (xa, xn)).1)), .ref su, .ref sa2, .int (nI (md + 32 * i))])), (wv, .inr (5, [.ref wc, .ref ww])), (wc, aI g 128 cosA), (ww, aI g 512 winA), (nu, aI g 1024 ((rowS row ((c_ * 36 + i) * 32) (xa, xn)).2)), (su, aJ g 64 s2), (sa2, aI g (capS md (kr * 32) cap) sm1), (k, .inr (1, [.int (nI kc), .int (nI kr), .ref ks, .ref kf, .ref km])), (km, aI g 2304 row)]) hw [3, 4, 5, 0, 6, 7, 1, 2, 8] (by decide) rfl
      refine lv_aload_n hx hb dX4_sound_34 rfl (lv_at hl 0 rfl) ?_
      refine k_Vv (As := []) (rest := []) (wr := [(wc, aI g 128 cosA), (su, aJ g 64 s2), (k, .inr (1, [.int (nI kc), .int (nI kr), .ref ks, .ref kf, .ref km])), (km, aI g 2304 row)]) C hw (c_makeSamples l g _ v wv wc ww nu su sa2 (rowS row ((c_ * 36 + i) * 32) (xa, xn)).1 (md + 32 * i) (capS md (kr * 32) cap) (rowS row ((c_ * 36 + i) * 32) (xa, xn)).2 sm1 (rowS_lt _ _ _) (by omega) (by omega)) (cwV 0 hts gX4_sound_X4_makeSamples rfl rfl rfl (by decide +kernel) ⟨Nat.le_of_ble_eq_true rfl, Nat.le_of_ble_eq_true rfl⟩) bl_T (fun _ _ _ => trivial) [0, 1, 3, 4, 6] [2, 5, 7, 8] (by decide) rfl rfl (by decide) (by decide) 0 rfl rfl rfl hl.1 rfl (Nat.le_of_ble_eq_true rfl) dX4_sound_35 ⟨by show 0 + 1 + 0 + 0 + 0 ≤ 1; omega, by show 0 + 2 * (capS md (kr * 32) cap - cap) + 0 + 0 + 0 ≤ 2 * (capS md (kr * 32) cap - cap); omega⟩ (fun u H locs hp hw => ?_)
      obtain rfl := hp
      have hw := Wd.sub (ws' := [(v, .inr (4, [.ref wv, .ref nu, .int (nI ((rowS row ((c_ * 36 + i) * 32) (xa, xn)).1)), .ref su, .ref sa2, .int (nI (md + 32 * i + 32))])), (wv, .inr (5, [.ref wc, .ref ww])), (wc, aI g 128 cosA), (ww, aI g 512 winA), (nu, aI g 1024 ((rowS row ((c_ * 36 + i) * 32) (xa, xn)).2)), (su, aJ g 64 s2), (sa2, aI g (capS md (kr * 32) cap) (lp (fun i_ f => upd f (md + 32 * i + i_) (pcS ((rowS row ((c_ * 36 + i) * 32) (xa, xn)).1, (rowS row ((c_ * 36 + i) * 32) (xa, xn)).2) i_)) k32 sm1)), (k, .inr (1, [.int (nI kc), .int (nI kr), .ref ks, .ref kf, .ref km])), (km, aI g 2304 row)]) hw [4, 5, 0, 6, 7, 1, 8, 2, 3] (by decide) rfl
      refine lv_iinc (v := (nI (i + 1))) (lv' := [(3, .int (nI (i + 1))), (0, .ref v), (1, .ref k), (2, .int (nI c_))]) hx hb dX4_sound_38 hl (k := 3) rfl (nI_add _ _) (by decide) rfl (fun ls hl => ?_)
      refine lv_goto (tgt := 13) hx hb dX4_sound_41 (by decide) ?_
      exact K (rowS_lt _ _ _) _ _ _ ⟨_, _, hw, (lv_sub hl [1, 2, 3, 0] rfl), sd_step hxe hE⟩
