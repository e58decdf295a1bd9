abbrev rm_c_copyO3 (m_ : Nat) : Room := { frames := 1, cells := 1, slots := m_, locals := 18 }
set_option maxHeartbeats 4000000 in
set_option maxRecDepth 100000 in
theorem c_copyO3 (l : Launch) (g : GT) (sz : Nat) (tb : Nat → Nat) (a n m_ : Nat) (f : Nat → Option Nat) (frs : List (Nat × FrD)) (hf : lsF frs n f) (h2 : n < 2 ^ 30) (h3 : m_ ≤ 67108864) : CtR l g yJ7_copyOf_6403c wsJ7_copyOf_6403c (rm_c_copyO3 m_) [.ref a, .int (nI m_), .ref (tb 12)] ([(a, aO g n f)] ++ fpl frs) sz (fun U => Sx tb (va_A ([(a, aO g n f)] ++ fpl frs) sz) U U.heap) (fun rr u => u = ([(a, aO g n f), (rr, aO g m_ (va_cpy f (fun _ => none) 0 0 (min n m_)))] ++ fpl frs)) (1) (m_) := by
  refine ct_body (cc := cJ7_copyOf_6403c) (nL := 4) (ret := (some (.array (.object "java/lang/Object")))) (by decide) rfl (Nat.le_of_ble_eq_true rfl) ?_
  intro p e s m below meth c ls C hin hsz hB hw hl
  obtain ⟨hx, hb, hml, hown, hts, hK, hA, hr, hlk⟩ := id C
  have hl : lv_has ls 4 [(0, .ref a), (1, .int (nI m_)), (2, .ref (tb 12))] := hl
  have hw : Wd g (va_A ([(a, aO g n f)] ++ fpl frs) sz) s.heap ([(a, aO g n f)] ++ fpl frs) s.heap [] := hw
  refine lv_aload_n hx hb dJ7_copyOf_6403c_0 rfl (lv_at hl 2 rfl) ?_
  refine va_ldcM hx hb hown (hts (.classLink RJ7 110 "[Ljava/lang/Object;") (by decide +kernel)) hB.2.2.2.1 dJ7_copyOf_6403c_1 ?_
  refine lv_acmp_ne (rx := some (tb 12)) (ry := some (tb 12)) (tgt := 13) hx hb dJ7_copyOf_6403c_3 (by decide) (fun c_1 => ?_) (fun c_1 => ?_)
  · exact absurd rfl c_1
  refine lv_iload_n hx hb dJ7_copyOf_6403c_6 rfl (lv_at hl 1 rfl) ?_
  refine r_newO C hw hB (hts (.classLink RJ7 2 "java/lang/Object") (by decide +kernel)) (by omega) (Nat.le_of_ble_eq_true rfl) (by show 0 + m_ ≤ m_; omega) dJ7_copyOf_6403c_7 (fun q H hw => ?_)
  have hw : Wd g (va_A ([(a, aO g n f)] ++ fpl frs) sz) s.heap ([(a, aO g n f), (q, aO g m_ (fun _ => none))] ++ fpl frs) H _ := Wd.swT hw
  refine lv_goto (tgt := 24) hx hb dJ7_copyOf_6403c_10 (by decide) ?_
  refine lv_astore_n (lv' := [(3, .ref q), (0, .ref a), (1, .int (nI m_)), (2, .ref (tb 12))]) hx hb dJ7_copyOf_6403c_24 rfl hl (by decide) rfl (fun ls hl => ?_)
  refine lv_aload_n hx hb dJ7_copyOf_6403c_25 rfl (lv_at hl 1 rfl) ?_
  refine lv_iconst (v := nI 0) hx hb dJ7_copyOf_6403c_26 (by decide) ?_
  refine lv_aload_n hx hb dJ7_copyOf_6403c_27 rfl (lv_at hl 0 rfl) ?_
  refine lv_iconst (v := nI 0) hx hb dJ7_copyOf_6403c_28 (by decide) ?_
  refine lv_aload_n hx hb dJ7_copyOf_6403c_29 rfl (lv_at hl 1 rfl) ?_
  refine r_alen C hw 0 3 rfl rfl rfl dJ7_copyOf_6403c_30 ?_
  refine lv_iload_n hx hb dJ7_copyOf_6403c_31 rfl (lv_at hl 2 rfl) ?_
  refine va_mmin hx hb (hml.trans hl.1.symm) hown (hts (.methodLink RJ7 304 Lib.Math.min.name) (by decide +kernel)) (hts (.static Lib.Math.min.name) (by decide +kernel)) (hts (.initialized "java/lang/Math") (by decide +kernel)) (hts (.code Lib.Math.min.name Lib.Math.min.code 2 (some .int)) (by decide +kernel)) (Nat.le_of_ble_eq_true rfl) (Nat.le_of_ble_eq_true rfl) (Nat.le_of_ble_eq_true rfl) (by show 0 + m_ ≤ m_; omega) dJ7_copyOf_6403c_32 ?_
  refine tp1 (min_nI (by omega) (by omega)) ?_
  refine r_copyO C hw hB (hml.trans hl.1.symm) (hts (.methodLink RJ7 150 arraycopyName) (by decide +kernel)) (hts (.native arraycopyName) (by decide +kernel)) (hts (.static arraycopyName) (by decide +kernel)) (hts (.initialized "java/lang/System") (by decide +kernel)) 0 1 rfl rfl (by omega) (by omega) (by omega) (fun i hi y hy => by { obtain ⟨fs, hm⟩ := lsF_mem hf (show i < n by omega) hy; exact ⟨fs, List.mem_append_right _ hm⟩ }) (Nat.le_of_ble_eq_true rfl) (Nat.le_of_ble_eq_true rfl) dJ7_copyOf_6403c_35 (ws' := ([(a, aO g n f), (q, aO g m_ (va_cpy f (fun _ => none) 0 0 (min n m_)))] ++ fpl frs)) rfl (fun H locs hw => ?_)
  refine lv_aload_n hx hb dJ7_copyOf_6403c_38 rfl (lv_at hl 0 rfl) ?_
  exact r_aret (Post := fun rr u => u = ([(a, aO g n f), (rr, aO g m_ (va_cpy f (fun _ => none) 0 0 (min n m_)))] ++ fpl frs)) C hw (Or.inr ⟨_, rfl⟩) (Nat.le_refl _) (by omega) (rfl) dJ7_copyOf_6403c_39
abbrev rm_c_copyO2 (m_ : Nat) : Room := { frames := 2, cells := 1, slots := m_, locals := 41 }
set_option maxHeartbeats 4000000 in
set_option maxRecDepth 100000 in
theorem c_copyO2 (l : Launch) (g : GT) (sz : Nat) (tb : Nat → Nat) (a n m_ : Nat) (f : Nat → Option Nat) (frs : List (Nat × FrD)) (hf : lsF frs n f) (h2 : n < 2 ^ 30) (h3 : m_ ≤ 67108864) : CtR l g yJ7_copyOf_1904c wsJ7_copyOf_1904c (rm_c_copyO2 m_) [.ref a, .int (nI m_)] ([(a, aO g n f)] ++ fpl frs) sz (fun U => Sx tb (va_A ([(a, aO g n f)] ++ fpl frs) sz) U U.heap) (fun rr u => u = ([(a, aO g n f), (rr, aO g m_ (va_cpy f (fun _ => none) 0 0 (min n m_)))] ++ fpl frs)) (1) (m_) := by
  refine ct_body (cc := cJ7_copyOf_1904c) (nL := 2) (ret := (some (.array (.object "java/lang/Object")))) (by decide) rfl (Nat.le_of_ble_eq_true rfl) ?_
  intro p e s m below meth c ls C hin hsz hB hw hl
  obtain ⟨hx, hb, hml, hown, hts, hK, hA, hr, hlk⟩ := id C
  have hl : lv_has ls 2 [(0, .ref a), (1, .int (nI m_))] := hl
  have hw : Wd g (va_A ([(a, aO g n f)] ++ fpl frs) sz) s.heap ([(a, aO g n f)] ++ fpl frs) s.heap [] := hw
  refine lv_aload_n hx hb dJ7_copyOf_1904c_0 rfl (lv_at hl 0 rfl) ?_
  refine lv_iload_n hx hb dJ7_copyOf_1904c_1 rfl (lv_at hl 1 rfl) ?_
  refine lv_aload_n hx hb dJ7_copyOf_1904c_2 rfl (lv_at hl 0 rfl) ?_
  refine r_getC C hw hB (hml.trans hl.1.symm) (hts (.methodLink RJ7 86 ⟨"java/lang/Object", "getClass", "()Ljava/lang/Class;"⟩) (by decide +kernel)) (hts (.selects "[Ljava/lang/Object;" ⟨"java/lang/Object", "getClass", "()Ljava/lang/Class;"⟩ ⟨"java/lang/Object", "getClass", "()Ljava/lang/Class;"⟩) (by decide +kernel)) (hts (.instanceMethod ⟨"java/lang/Object", "getClass", "()Ljava/lang/Class;"⟩) (by decide +kernel)) (hts (.native ⟨"java/lang/Object", "getClass", "()Ljava/lang/Class;"⟩) (by decide +kernel)) 0 rfl (Nat.le_of_ble_eq_true rfl) (Nat.le_of_ble_eq_true rfl) dJ7_copyOf_1904c_3 ?_
  have hwq : Wd g (va_A ([(a, aO g n f)] ++ fpl frs) sz) s.heap (([(a, aO g n f)] ++ fpl frs) ++ []) _ _ := Wd.swT (a := [(a, aO g n f)]) (b := []) (c := fpl frs) (Wd.subT (E := [(a, aO g n f)]) (E' := [(a, aO g n f)]) hw [0] (by decide) rfl)
  refine kP_Sr (As := [.ref a, .int (nI m_), .ref (tb 12)]) (rest := []) (w := ([(a, aO g n f)] ++ fpl frs)) (wr := []) C hwq (c_copyO3 l g _ tb a n m_ f frs hf h2 h3) (va_cwS 3 hts gJ7_copyOf_1904c_J7_copyOf_6403c rfl rfl rfl (by decide +kernel) ⟨Nat.le_of_ble_eq_true rfl, Nat.le_of_ble_eq_true rfl⟩) sx_bl (sx_callP C hwq hB) rfl hl.1 rfl (Nat.le_of_ble_eq_true rfl) dJ7_copyOf_1904c_6 ⟨Nat.le_of_ble_eq_true rfl, by show 0 + m_ ≤ m_; omega⟩ (fun r_1 u H locs hp hw => ?_)
  subst hp
  have hw := Wd.swT (a := [(a, aO g n f), (r_1, aO g m_ (va_cpy f (fun _ => none) 0 0 (min n m_)))]) (b := fpl frs) (c := []) hw
  have hw : Wd g (va_A ([(a, aO g n f)] ++ fpl frs) sz) s.heap ([(a, aO g n f), (r_1, aO g m_ (va_cpy f (fun _ => none) 0 0 (min n m_)))] ++ fpl frs) H locs := Wd.subT (E := [(a, aO g n f), (r_1, aO g m_ (va_cpy f (fun _ => none) 0 0 (min n m_)))]) (E' := [(a, aO g n f), (r_1, aO g m_ (va_cpy f (fun _ => none) 0 0 (min n m_)))]) hw [0, 1] (by decide) rfl
  exact r_aret (Post := fun rr u => u = ([(a, aO g n f), (rr, aO g m_ (va_cpy f (fun _ => none) 0 0 (min n m_)))] ++ fpl frs)) C hw (Or.inr ⟨_, rfl⟩) (Nat.le_refl _) (by omega) (rfl) dJ7_copyOf_1904c_9
abbrev rm_c_growI0 : Room := { frames := 1, cells := 1, slots := 10, locals := 14 }
set_option maxHeartbeats 4000000 in
set_option maxRecDepth 100000 in
theorem c_growI0 (l : Launch) (g : GT) (sz : Nat) (tb : Nat → Nat) (al : Nat) (mc_ : Int32) : CtR l g yJx4a65c_grow_92f84 wsJx4a65c_grow_92f84 rm_c_growI0 [.ref al, .int (nI 1)] [(al, .inr (8, [.int mc_, .ref (tb 11), .int (nI 0)]))] sz (fun U => Sx tb (va_A [(al, .inr (8, [.int mc_, .ref (tb 11), .int (nI 0)]))] sz) U U.heap) (fun rr u => u = [(al, .inr (8, [.int mc_, .ref rr, .int (nI 0)])), (rr, aO g 10 (fun _ => none))]) (1) (10) := by
  refine ct_body (cc := cJx4a65c_grow_92f84) (nL := 4) (ret := (some (.array (.object "java/lang/Object")))) (by decide) rfl (Nat.le_of_ble_eq_true rfl) ?_
  intro p e s m below meth c ls C hin hsz hB hw hl
  obtain ⟨hx, hb, hml, hown, hts, hK, hA, hr, hlk⟩ := id C
  have lk9 := hts (.fieldLink RJx4a65c 9 "java/util/ArrayList" "elementData" "[Ljava/lang/Object;") (by decide +kernel)
  have lk39 := hts (.fieldLink RJx4a65c 39 "java/util/ArrayList" "DEFAULTCAPACITY_EMPTY_ELEMENTDATA" "[Ljava/lang/Object;") (by decide +kernel)
  have in_Jx4a65c : ∀ w ∈ wsJx4a65c0, w ∈ wsJx4a65c_grow_92f84 := by unfold wsJx4a65c_grow_92f84; intro w h; simp only [List.mem_cons, List.mem_append, h, or_true, true_or]
  have hl : lv_has ls 4 [(0, .ref al), (1, .int (nI 1))] := hl
  have hw : Wd g (va_A [(al, .inr (8, [.int mc_, .ref (tb 11), .int (nI 0)]))] sz) s.heap [(al, .inr (8, [.int mc_, .ref (tb 11), .int (nI 0)]))] s.heap [] := hw
  refine lv_aload_n hx hb dJx4a65c_grow_92f84_0 rfl (lv_at hl 0 rfl) ?_
  refine r_get C hw in_Jx4a65c 0 rfl rfl 1 (by decide) lk9 rfl dJx4a65c_grow_92f84_1 ?_
  refine r_tlenE C hw hB dJx4a65c_grow_92f84_4 ?_
  refine lv_istore_n (lv' := [(2, .int (nI 0)), (0, .ref al), (1, .int (nI 1))]) hx hb dJx4a65c_grow_92f84_5 rfl hl (by decide) rfl (fun ls hl => ?_)
  refine lv_iload_n hx hb dJx4a65c_grow_92f84_6 rfl (lv_at hl 0 rfl) ?_
  refine lv_if_gt (tgt := 20) hx hb dJx4a65c_grow_92f84_7 (by decide) (fun c_1 => ?_) (fun c_1 => ?_)
  · exact absurd c_1 (by decide)
  refine lv_aload_n hx hb dJx4a65c_grow_92f84_10 rfl (lv_at hl 1 rfl) ?_
  refine r_get C hw in_Jx4a65c 0 rfl rfl 1 (by decide) lk9 rfl dJx4a65c_grow_92f84_11 ?_
  refine r_gsE C hw hB lk39 dJx4a65c_grow_92f84_14 ?_
  refine lv_acmp_eq (rx := some (tb 11)) (ry := some (tb 11)) (tgt := 45) hx hb dJx4a65c_grow_92f84_17 (by decide) (fun c_2 => ?_) (fun c_2 => ?_)
  rotate_left
  · exact absurd rfl c_2
  refine lv_aload_n hx hb dJx4a65c_grow_92f84_45 rfl (lv_at hl 1 rfl) ?_
  refine lv_bipush (v := nI 10) hx hb dJx4a65c_grow_92f84_46 (by decide) ?_
  refine lv_iload_n hx hb dJx4a65c_grow_92f84_48 rfl (lv_at hl 2 rfl) ?_
  refine va_mmax hx hb (hml.trans hl.1.symm) hown (hts (.methodLink RJx4a65c 79 Lib.Math.max.name) (by decide +kernel)) (hts (.static Lib.Math.max.name) (by decide +kernel)) (hts (.initialized "java/lang/Math") (by decide +kernel)) (hts (.code Lib.Math.max.name Lib.Math.max.code 2 (some .int)) (by decide +kernel)) (Nat.le_of_ble_eq_true rfl) (Nat.le_of_ble_eq_true rfl) (Nat.le_of_ble_eq_true rfl) (Nat.le_of_ble_eq_true rfl) dJx4a65c_grow_92f84_49 ?_
  refine tp1 (max_nI (by omega) (by omega)) ?_
  refine tp1 (v' := (nI 10)) (congrArg nI (by decide)) ?_
  refine r_newO C hw hB (hts (.classLink RJx4a65c 7 "java/lang/Object") (by decide +kernel)) (by omega) (Nat.le_of_ble_eq_true rfl) (Nat.le_of_ble_eq_true rfl) dJx4a65c_grow_92f84_52 (fun q H hw => ?_)
  have hw : Wd g (va_A [(al, .inr (8, [.int mc_, .ref (tb 11), .int (nI 0)]))] sz) s.heap [(al, .inr (8, [.int mc_, .ref (tb 11), .int (nI 0)])), (q, aO g 10 (fun _ => none))] H _ := hw
  refine lv_dup_x1 hx hb dJx4a65c_grow_92f84_55 rfl rfl ?_
  refine r_put C hw in_Jx4a65c tyJx4a65c_ok nmJx4a65c 0 rfl rfl 1 (by decide) lk9 rfl rfl rfl (Nat.le_of_ble_eq_true rfl) (ws' := [(al, .inr (8, [.int mc_, .ref q, .int (nI 0)])), (q, aO g 10 (fun _ => none))]) rfl dJx4a65c_grow_92f84_56 (fun H locs hw => ?_)
  exact r_aret (Post := fun rr u => u = [(al, .inr (8, [.int mc_, .ref rr, .int (nI 0)])), (rr, aO g 10 (fun _ => none))]) C hw (Or.inr ⟨_, rfl⟩) (Nat.le_refl _) (Nat.le_refl _) (rfl) dJx4a65c_grow_92f84_59
abbrev rm_c_grow0 : Room := { frames := 2, cells := 1, slots := 10, locals := 37 }
set_option maxHeartbeats 4000000 in
set_option maxRecDepth 100000 in
theorem c_grow0 (l : Launch) (g : GT) (sz : Nat) (tb : Nat → Nat) (al : Nat) (mc_ : Int32) : CtR l g yJx4a65c_grow_d5877 wsJx4a65c_grow_d5877 rm_c_grow0 [.ref al] [(al, .inr (8, [.int mc_, .ref (tb 11), .int (nI 0)]))] sz (fun U => Sx tb (va_A [(al, .inr (8, [.int mc_, .ref (tb 11), .int (nI 0)]))] sz) U U.heap) (fun rr u => u = [(al, .inr (8, [.int mc_, .ref rr, .int (nI 0)])), (rr, aO g 10 (fun _ => none))]) (1) (10) := by
  refine ct_body (cc := cJx4a65c_grow_d5877) (nL := 1) (ret := (some (.array (.object "java/lang/Object")))) (by decide) rfl (Nat.le_of_ble_eq_true rfl) ?_
  intro p e s m below meth c ls C hin hsz hB hw hl
  obtain ⟨hx, hb, hml, hown, hts, hK, hA, hr, hlk⟩ := id C
  have lk48 := hts (.fieldLink RJx4a65c 48 "java/util/ArrayList" "size" "I") (by decide +kernel)
  have in_Jx4a65c : ∀ w ∈ wsJx4a65c0, w ∈ wsJx4a65c_grow_d5877 := by unfold wsJx4a65c_grow_d5877; intro w h; simp only [List.mem_cons, List.mem_append, h, or_true, true_or]
  have hl : lv_has ls 1 [(0, .ref al)] := hl
  have hw : Wd g (va_A [(al, .inr (8, [.int mc_, .ref (tb 11), .int (nI 0)]))] sz) s.heap [(al, .inr (8, [.int mc_, .ref (tb 11), .int (nI 0)]))] s.heap [] := hw
  refine lv_aload_n hx hb dJx4a65c_grow_d5877_0 rfl (lv_at hl 0 rfl) ?_
  refine lv_aload_n hx hb dJx4a65c_grow_d5877_1 rfl (lv_at hl 0 rfl) ?_
  refine r_get C hw in_Jx4a65c 0 rfl rfl 2 (by decide) lk48 rfl dJx4a65c_grow_d5877_2 ?_
  refine lv_iconst (v := nI 1) hx hb dJx4a65c_grow_d5877_5 (by decide) ?_
  refine n_add hx hb dJx4a65c_grow_d5877_6 ?_
  refine tp1 (v' := (nI 1)) (congrArg nI (by decide)) ?_
  refine k_Vr (As := [.int (nI 1)]) (rest := []) (wr := []) C hw (c_growI0 l g _ tb al mc_) (cwV 1 hts gJx4a65c_grow_d5877_Jx4a65c_grow_92f84 rfl rfl rfl (by decide +kernel) ⟨Nat.le_of_ble_eq_true rfl, Nat.le_of_ble_eq_true rfl⟩) sx_bl (sx_call C hw hB [0] rfl) [0] [] (by decide) rfl rfl (by decide) (by decide) 0 rfl rfl rfl hl.1 rfl (Nat.le_of_ble_eq_true rfl) dJx4a65c_grow_d5877_7 ⟨Nat.le_of_ble_eq_true rfl, Nat.le_of_ble_eq_true rfl⟩ (fun r_1 u H locs hp hw => ?_)
  subst hp
  have hw := Wd.sub (ws' := [(al, .inr (8, [.int mc_, .ref r_1, .int (nI 0)])), (r_1, aO g 10 (fun _ => none))]) hw [0, 1] (by decide) rfl
  exact r_aret (Post := fun rr u => u = [(al, .inr (8, [.int mc_, .ref rr, .int (nI 0)])), (rr, aO g 10 (fun _ => none))]) C hw (Or.inr ⟨_, rfl⟩) (Nat.le_refl _) (Nat.le_refl _) (rfl) dJx4a65c_grow_d5877_10
abbrev rm_c_growI1 (cap : Nat) : Room := { frames := 3, cells := 1, slots := growC cap, locals := 62 }
set_option maxHeartbeats 4000000 in
set_option maxRecDepth 100000 in
theorem c_growI1 (l : Launch) (g : GT) (sz : Nat) (tb : Nat → Nat) (al ed n cap : Nat) (mc_ : Int32) (f : Nat → Option Nat) (frs : List (Nat × FrD)) (hf : lsF frs cap f) (hlen : frs.length = n) (hcn : n = cap) (h0 : 0 < cap) (h2 : cap < 2 ^ 24) : CtR l g yJx4a65c_grow_92f84 wsJx4a65c_grow_92f84 (rm_c_growI1 cap) [.ref al, .int (nI (n + 1))] ([(al, .inr (8, [.int mc_, .ref ed, .int (nI n)])), (ed, aO g cap f)] ++ fpl frs) sz (fun U => Sx tb (va_A ([(al, .inr (8, [.int mc_, .ref ed, .int (nI n)])), (ed, aO g cap f)] ++ fpl frs) sz) U U.heap) (fun rr u => ∃ f2, u = ([(al, .inr (8, [.int mc_, .ref rr, .int (nI n)])), (rr, aO g (growC cap) f2)] ++ fpl frs) ∧ lsF frs (growC cap) f2) (1) (growC cap) := by
  refine ct_body (cc := cJx4a65c_grow_92f84) (nL := 4) (ret := (some (.array (.object "java/lang/Object")))) (by decide) rfl (Nat.le_of_ble_eq_true rfl) ?_
  intro p e s m below meth c ls C hin hsz hB hw hl
  obtain ⟨hx, hb, hml, hown, hts, hK, hA, hr, hlk⟩ := id C
  have lk9 := hts (.fieldLink RJx4a65c 9 "java/util/ArrayList" "elementData" "[Ljava/lang/Object;") (by decide +kernel)
  have in_Jx4a65c : ∀ w ∈ wsJx4a65c0, w ∈ wsJx4a65c_grow_92f84 := by unfold wsJx4a65c_grow_92f84; intro w h; simp only [List.mem_cons, List.mem_append, h, or_true, true_or]
  have hl : lv_has ls 4 [(0, .ref al), (1, .int (nI (n + 1)))] := hl
  have hw : Wd g (va_A ([(al, .inr (8, [.int mc_, .ref ed, .int (nI n)])), (ed, aO g cap f)] ++ fpl frs) sz) s.heap ([(al, .inr (8, [.int mc_, .ref ed, .int (nI n)])), (ed, aO g cap f)] ++ fpl frs) s.heap [] := hw
  refine lv_aload_n hx hb dJx4a65c_grow_92f84_0 rfl (lv_at hl 0 rfl) ?_
  refine r_get C hw in_Jx4a65c 0 rfl rfl 1 (by decide) lk9 rfl dJx4a65c_grow_92f84_1 ?_
  refine r_alen C hw 1 3 rfl rfl rfl dJx4a65c_grow_92f84_4 ?_
  refine lv_istore_n (lv' := [(2, .int (nI cap)), (0, .ref al), (1, .int (nI (n + 1)))]) hx hb dJx4a65c_grow_92f84_5 rfl hl (by decide) rfl (fun ls hl => ?_)
  refine lv_iload_n hx hb dJx4a65c_grow_92f84_6 rfl (lv_at hl 0 rfl) ?_
  refine n_gt0 (tgt := 20) hx hb (by omega) dJx4a65c_grow_92f84_7 (by decide) (fun c_1 => ?_) (fun c_1 => ?_)
  · skip
    refine lv_iload_n hx hb dJx4a65c_grow_92f84_20 rfl (lv_at hl 0 rfl) ?_
    refine lv_iload_n hx hb dJx4a65c_grow_92f84_21 rfl (lv_at hl 2 rfl) ?_
    refine lv_iload_n hx hb dJx4a65c_grow_92f84_22 rfl (lv_at hl 0 rfl) ?_
    refine n_sub hx hb dJx4a65c_grow_92f84_23 (by omega) ?_
    refine lv_iload_n hx hb dJx4a65c_grow_92f84_24 rfl (lv_at hl 0 rfl) ?_
    refine lv_iconst (v := nI 1) hx hb dJx4a65c_grow_92f84_25 (by decide) ?_
    refine n_shr (d := 2) hx hb (by decide) (by omega) (by omega) dJx4a65c_grow_92f84_26 ?_
    have hwq : Wd g (va_A ([(al, .inr (8, [.int mc_, .ref ed, .int (nI n)])), (ed, aO g cap f)] ++ fpl frs) sz) s.heap ([] ++ ([(al, .inr (8, [.int mc_, .ref ed, .int (nI n)])), (ed, aO g cap f)] ++ fpl frs)) _ _ := Wd.subT (E := [(al, .inr (8, [.int mc_, .ref ed, .int (nI n)])), (ed, aO g cap f)]) (E' := [(al, .inr (8, [.int mc_, .ref ed, .int (nI n)])), (ed, aO g cap f)]) hw [0, 1] (by decide) rfl
    refine kP_Si (As := [.int (nI cap), .int (nI ((n + 1) - cap)), .int (nI (cap / 2))]) (rest := []) (w := []) (wr := ([(al, .inr (8, [.int mc_, .ref ed, .int (nI n)])), (ed, aO g cap f)] ++ fpl frs)) C hwq (c_newLength l g _ cap (n + 1 - cap) (cap / 2) (by omega) (by omega) (by omega) (by omega)) (va_cwS 3 hts gJx4a65c_grow_92f84_J8_newLength_cabcc rfl rfl rfl (by decide +kernel) ⟨Nat.le_of_ble_eq_true rfl, Nat.le_of_ble_eq_true rfl⟩) bl_T (fun _ _ _ => trivial) rfl hl.1 rfl (Nat.le_of_ble_eq_true rfl) dJx4a65c_grow_92f84_27 ⟨Nat.le_of_ble_eq_true rfl, Nat.le_of_ble_eq_true rfl⟩ (fun r_2 u H locs hp hw => ?_)
    obtain ⟨rfl, rfl⟩ := hp
    have hw : Wd g (va_A ([(al, .inr (8, [.int mc_, .ref ed, .int (nI n)])), (ed, aO g cap f)] ++ fpl frs) sz) s.heap ([(al, .inr (8, [.int mc_, .ref ed, .int (nI n)])), (ed, aO g cap f)] ++ fpl frs) H locs := Wd.subT (E := [(al, .inr (8, [.int mc_, .ref ed, .int (nI n)])), (ed, aO g cap f)]) (E' := [(al, .inr (8, [.int mc_, .ref ed, .int (nI n)])), (ed, aO g cap f)]) hw [0, 1] (by decide) rfl
    refine lv_istore_n (lv' := [(3, .int (nI (cap + max (n + 1 - cap) (cap / 2)))), (2, .int (nI cap)), (0, .ref al), (1, .int (nI (n + 1)))]) hx hb dJx4a65c_grow_92f84_30 rfl hl (by decide) rfl (fun ls hl => ?_)
    refine lv_aload_n hx hb dJx4a65c_grow_92f84_31 rfl (lv_at hl 2 rfl) ?_
    refine lv_aload_n hx hb dJx4a65c_grow_92f84_32 rfl (lv_at hl 2 rfl) ?_
    refine r_get C hw in_Jx4a65c 0 rfl rfl 1 (by decide) lk9 rfl dJx4a65c_grow_92f84_33 ?_
    refine lv_iload_n hx hb dJx4a65c_grow_92f84_36 rfl (lv_at hl 0 rfl) ?_
    have hwq : Wd g (va_A ([(al, .inr (8, [.int mc_, .ref ed, .int (nI n)])), (ed, aO g cap f)] ++ fpl frs) sz) s.heap (([(ed, aO g cap f)] ++ fpl frs) ++ [(al, .inr (8, [.int mc_, .ref ed, .int (nI n)]))]) _ _ := Wd.swT (a := [(ed, aO g cap f)]) (b := [(al, .inr (8, [.int mc_, .ref ed, .int (nI n)]))]) (c := fpl frs) (Wd.subT (E := [(al, .inr (8, [.int mc_, .ref ed, .int (nI n)])), (ed, aO g cap f)]) (E' := [(ed, aO g cap f), (al, .inr (8, [.int mc_, .ref ed, .int (nI n)]))]) hw [1, 0] (by decide) rfl)
    refine kP_Sr (As := [.ref ed, .int (nI (cap + max (n + 1 - cap) (cap / 2)))]) (rest := [.ref al]) (w := ([(ed, aO g cap f)] ++ fpl frs)) (wr := [(al, .inr (8, [.int mc_, .ref ed, .int (nI n)]))]) C hwq (c_copyO2 l g _ tb ed cap (cap + max (n + 1 - cap) (cap / 2)) f frs hf (by omega) (by omega)) (va_cwS 2 hts gJx4a65c_grow_92f84_J7_copyOf_1904c rfl rfl rfl (by decide +kernel) ⟨Nat.le_of_ble_eq_true rfl, Nat.le_of_ble_eq_true rfl⟩) sx_bl (sx_callP C hwq hB) rfl hl.1 rfl (Nat.le_of_ble_eq_true rfl) dJx4a65c_grow_92f84_37 ⟨Nat.le_of_ble_eq_true rfl, by show 0 + (cap + max (n + 1 - cap) (cap / 2)) ≤ growC cap; unfold growC; omega⟩ (fun r_3 u H locs hp hw => ?_)
    subst hp
    have hw := Wd.swT (a := [(ed, aO g cap f), (r_3, aO g (cap + max (n + 1 - cap) (cap / 2)) (va_cpy f (fun _ => none) 0 0 (min cap (cap + max (n + 1 - cap) (cap / 2)))))]) (b := fpl frs) (c := [(al, .inr (8, [.int mc_, .ref ed, .int (nI n)]))]) hw
    have hw : Wd g (va_A ([(al, .inr (8, [.int mc_, .ref ed, .int (nI n)])), (ed, aO g cap f)] ++ fpl frs) sz) s.heap ([(al, .inr (8, [.int mc_, .ref ed, .int (nI n)])), (ed, aO g cap f), (r_3, aO g (cap + max (n + 1 - cap) (cap / 2)) (va_cpy f (fun _ => none) 0 0 (min cap (cap + max (n + 1 - cap) (cap / 2)))))] ++ fpl frs) H locs := Wd.subT (E := [(ed, aO g cap f), (r_3, aO g (cap + max (n + 1 - cap) (cap / 2)) (va_cpy f (fun _ => none) 0 0 (min cap (cap + max (n + 1 - cap) (cap / 2))))), (al, .inr (8, [.int mc_, .ref ed, .int (nI n)]))]) (E' := [(al, .inr (8, [.int mc_, .ref ed, .int (nI n)])), (ed, aO g cap f), (r_3, aO g (cap + max (n + 1 - cap) (cap / 2)) (va_cpy f (fun _ => none) 0 0 (min cap (cap + max (n + 1 - cap) (cap / 2)))))]) hw [2, 0, 1] (by decide) rfl
    refine lv_dup_x1 hx hb dJx4a65c_grow_92f84_40 rfl rfl ?_
    refine r_put C hw in_Jx4a65c tyJx4a65c_ok nmJx4a65c 0 rfl rfl 1 (by decide) lk9 rfl rfl rfl (Nat.le_of_ble_eq_true rfl) (ws' := ([(al, .inr (8, [.int mc_, .ref r_3, .int (nI n)])), (ed, aO g cap f), (r_3, aO g (cap + max (n + 1 - cap) (cap / 2)) (va_cpy f (fun _ => none) 0 0 (min cap (cap + max (n + 1 - cap) (cap / 2)))))] ++ fpl frs)) rfl dJx4a65c_grow_92f84_41 (fun H locs hw => ?_)
    have hw := Wd.subT (E := [(al, .inr (8, [.int mc_, .ref r_3, .int (nI n)])), (ed, aO g cap f), (r_3, aO g (cap + max (n + 1 - cap) (cap / 2)) (va_cpy f (fun _ => none) 0 0 (min cap (cap + max (n + 1 - cap) (cap / 2)))))]) (E' := [(al, .inr (8, [.int mc_, .ref r_3, .int (nI n)])), (r_3, aO g (cap + max (n + 1 - cap) (cap / 2)) (va_cpy f (fun _ => none) 0 0 (min cap (cap + max (n + 1 - cap) (cap / 2)))))]) hw [0, 2] (by decide) rfl
    rw [show cap + max (n + 1 - cap) (cap / 2) = growC cap by unfold growC; omega] at hw
    exact r_aret (Post := fun rr u => ∃ f2, u = ([(al, .inr (8, [.int mc_, .ref rr, .int (nI n)])), (rr, aO g (growC cap) f2)] ++ fpl frs) ∧ lsF frs (growC cap) f2) C hw (Or.inr ⟨_, rfl⟩) (Nat.le_refl _) (by show 0 + (cap + max (n + 1 - cap) (cap / 2)) ≤ growC cap; unfold growC; omega) (⟨_, rfl, lsF_cpy hf (by omega) (by unfold growC; omega)⟩) dJx4a65c_grow_92f84_44
  · skip
    exfalso; omega
abbrev rm_c_grow1 (cap : Nat) : Room := { frames := 4, cells := 1, slots := growC cap, locals := 85 }
set_option maxHeartbeats 4000000 in
set_option maxRecDepth 100000 in
theorem c_grow1 (l : Launch) (g : GT) (sz : Nat) (tb : Nat → Nat) (al ed n cap : Nat) (mc_ : Int32) (f : Nat → Option Nat) (frs : List (Nat × FrD)) (hf : lsF frs cap f) (hlen : frs.length = n) (hcn : n = cap) (h0 : 0 < cap) (h2 : cap < 2 ^ 24) : CtR l g yJx4a65c_grow_d5877 wsJx4a65c_grow_d5877 (rm_c_grow1 cap) [.ref al] ([(al, .inr (8, [.int mc_, .ref ed, .int (nI n)])), (ed, aO g cap f)] ++ fpl frs) sz (fun U => Sx tb (va_A ([(al, .inr (8, [.int mc_, .ref ed, .int (nI n)])), (ed, aO g cap f)] ++ fpl frs) sz) U U.heap) (fun rr u => ∃ f2, u = ([(al, .inr (8, [.int mc_, .ref rr, .int (nI n)])), (rr, aO g (growC cap) f2)] ++ fpl frs) ∧ lsF frs (growC cap) f2) (1) (growC cap) := by
  refine ct_body (cc := cJx4a65c_grow_d5877) (nL := 1) (ret := (some (.array (.object "java/lang/Object")))) (by decide) rfl (Nat.le_of_ble_eq_true rfl) ?_
  intro p e s m below meth c ls C hin hsz hB hw hl
  obtain ⟨hx, hb, hml, hown, hts, hK, hA, hr, hlk⟩ := id C
  have lk48 := hts (.fieldLink RJx4a65c 48 "java/util/ArrayList" "size" "I") (by decide +kernel)
  have in_Jx4a65c : ∀ w ∈ wsJx4a65c0, w ∈ wsJx4a65c_grow_d5877 := by unfold wsJx4a65c_grow_d5877; intro w h; simp only [List.mem_cons, List.mem_append, h, or_true, true_or]
  have hl : lv_has ls 1 [(0, .ref al)] := hl
  have hw : Wd g (va_A ([(al, .inr (8, [.int mc_, .ref ed, .int (nI n)])), (ed, aO g cap f)] ++ fpl frs) sz) s.heap ([(al, .inr (8, [.int mc_, .ref ed, .int (nI n)])), (ed, aO g cap f)] ++ fpl frs) s.heap [] := hw
  refine lv_aload_n hx hb dJx4a65c_grow_d5877_0 rfl (lv_at hl 0 rfl) ?_
  refine lv_aload_n hx hb dJx4a65c_grow_d5877_1 rfl (lv_at hl 0 rfl) ?_
  refine r_get C hw in_Jx4a65c 0 rfl rfl 2 (by decide) lk48 rfl dJx4a65c_grow_d5877_2 ?_
  refine lv_iconst (v := nI 1) hx hb dJx4a65c_grow_d5877_5 (by decide) ?_
  refine n_add hx hb dJx4a65c_grow_d5877_6 ?_
  have hwq : Wd g (va_A ([(al, .inr (8, [.int mc_, .ref ed, .int (nI n)])), (ed, aO g cap f)] ++ fpl frs) sz) s.heap (([(al, .inr (8, [.int mc_, .ref ed, .int (nI n)])), (ed, aO g cap f)] ++ fpl frs) ++ []) _ _ := Wd.swT (a := [(al, .inr (8, [.int mc_, .ref ed, .int (nI n)])), (ed, aO g cap f)]) (b := []) (c := fpl frs) (Wd.subT (E := [(al, .inr (8, [.int mc_, .ref ed, .int (nI n)])), (ed, aO g cap f)]) (E' := [(al, .inr (8, [.int mc_, .ref ed, .int (nI n)])), (ed, aO g cap f)]) hw [0, 1] (by decide) rfl)
  refine kP_Vr (As := [.int (nI (n + 1))]) (rest := []) (w := ([(al, .inr (8, [.int mc_, .ref ed, .int (nI n)])), (ed, aO g cap f)] ++ fpl frs)) (wr := []) C hwq (c_growI1 l g _ tb al ed n cap mc_ f frs hf hlen hcn h0 h2) (cwV 1 hts gJx4a65c_grow_d5877_Jx4a65c_grow_92f84 rfl rfl rfl (by decide +kernel) ⟨Nat.le_of_ble_eq_true rfl, Nat.le_of_ble_eq_true rfl⟩) sx_bl (sx_callP C hwq hB) 0 rfl rfl rfl hl.1 rfl (Nat.le_of_ble_eq_true rfl) dJx4a65c_grow_d5877_7 ⟨Nat.le_of_ble_eq_true rfl, by show 0 + growC cap ≤ growC cap; omega⟩ (fun r_1 u H locs hp hw => ?_)
  obtain ⟨f2, rfl, hf2⟩ := hp
  have hw := Wd.swT (a := [(al, .inr (8, [.int mc_, .ref r_1, .int (nI n)])), (r_1, aO g (growC cap) f2)]) (b := fpl frs) (c := []) hw
  have hw : Wd g (va_A ([(al, .inr (8, [.int mc_, .ref ed, .int (nI n)])), (ed, aO g cap f)] ++ fpl frs) sz) s.heap ([(al, .inr (8, [.int mc_, .ref r_1, .int (nI n)])), (r_1, aO g (growC cap) f2)] ++ fpl frs) H locs := Wd.subT (E := [(al, .inr (8, [.int mc_, .ref r_1, .int (nI n)])), (r_1, aO g (growC cap) f2)]) (E' := [(al, .inr (8, [.int mc_, .ref r_1, .int (nI n)])), (r_1, aO g (growC cap) f2)]) hw [0, 1] (by decide) rfl
  exact r_aret (Post := fun rr u => ∃ f2, u = ([(al, .inr (8, [.int mc_, .ref rr, .int (nI n)])), (rr, aO g (growC cap) f2)] ++ fpl frs) ∧ lsF frs (growC cap) f2) C hw (Or.inr ⟨_, rfl⟩) (Nat.le_refl _) (by omega) (⟨_, rfl, hf2⟩) dJx4a65c_grow_d5877_10
abbrev rm_c_add21 (cap n : Nat) : Room := { frames := 5, cells := 1, slots := 4 * (growS cap n - cap), locals := 105 }
set_option maxHeartbeats 4000000 in
set_option maxRecDepth 100000 in
theorem c_add21 (l : Launch) (g : GT) (sz : Nat) (tb : Nat → Nat) (al ed n cap x : Nat) (xd : FrD) (mc_ : Int32) (f : Nat → Option Nat) (frs : List (Nat × FrD)) (hf : lsF frs cap f) (hlen : frs.length = n) (h0 : 0 < cap) (h1 : n ≤ cap) (h2 : cap < 2 ^ 24) : CtV l g yJx4a65c_add_72be8 wsJx4a65c_add_72be8 (rm_c_add21 cap n) [.ref al, .ref x, .ref ed, .int (nI n)] ([(al, .inr (8, [.int mc_, .ref ed, .int (nI n)])), (x, .inr (2, frL xd)), (ed, aO g cap f)] ++ fpl frs) sz (fun U => Sx tb (va_A ([(al, .inr (8, [.int mc_, .ref ed, .int (nI n)])), (x, .inr (2, frL xd)), (ed, aO g cap f)] ++ fpl frs) sz) U U.heap) (fun u => ∃ (ed2 : Nat) (edT2 : va_W), u = ([(al, .inr (8, [.int mc_, .ref ed2, .int (nI (n + 1))])), (x, .inr (2, frL xd))] ++ (edT2 ++ fpl frs)) ∧ LsOK tb g ed2 edT2 (frs ++ [(x, xd)]) (growS cap n)) (1) (4 * (growS cap n - cap)) := by
  refine ct_body (cc := cJx4a65c_add_72be8) (nL := 4) (ret := none) (by decide) rfl (Nat.le_of_ble_eq_true rfl) ?_
  intro p e s m below meth c ls C hin hsz hB hw hl
  obtain ⟨hx, hb, hml, hown, hts, hK, hA, hr, hlk⟩ := id C
  have lk48 := hts (.fieldLink RJx4a65c 48 "java/util/ArrayList" "size" "I") (by decide +kernel)
  have in_Jx4a65c : ∀ w ∈ wsJx4a65c0, w ∈ wsJx4a65c_add_72be8 := by unfold wsJx4a65c_add_72be8; intro w h; simp only [List.mem_cons, List.mem_append, h, or_true, true_or]
  have hl : lv_has ls 4 [(0, .ref al), (1, .ref x), (2, .ref ed), (3, .int (nI n))] := hl
  have hw : Wd g (va_A ([(al, .inr (8, [.int mc_, .ref ed, .int (nI n)])), (x, .inr (2, frL xd)), (ed, aO g cap f)] ++ fpl frs) sz) s.heap ([(al, .inr (8, [.int mc_, .ref ed, .int (nI n)])), (x, .inr (2, frL xd)), (ed, aO g cap f)] ++ fpl frs) s.heap [] := hw
  refine lv_iload_n hx hb dJx4a65c_add_72be8_0 rfl (lv_at hl 3 rfl) ?_
  refine lv_aload_n hx hb dJx4a65c_add_72be8_1 rfl (lv_at hl 2 rfl) ?_
  refine r_alen C hw 2 3 rfl rfl rfl dJx4a65c_add_72be8_2 ?_
  refine n_cne (tgt := 11) hx hb (by omega) (by omega) dJx4a65c_add_72be8_3 (by decide) (fun c_1 => ?_) (fun c_1 => ?_)
  · skip
    have hgs : growS cap n = cap := if_neg (by omega)
    refine lv_aload_n hx hb dJx4a65c_add_72be8_11 rfl (lv_at hl 2 rfl) ?_
    refine lv_iload_n hx hb dJx4a65c_add_72be8_12 rfl (lv_at hl 3 rfl) ?_
    refine lv_aload_n hx hb dJx4a65c_add_72be8_13 rfl (lv_at hl 1 rfl) ?_
    refine r_astF C hw hB 2 1 rfl rfl (by omega) (by omega) (ws' := ([(al, .inr (8, [.int mc_, .ref ed, .int (nI n)])), (x, .inr (2, frL xd)), (ed, aO g cap (va_up f n (some x)))] ++ fpl frs)) rfl dJx4a65c_add_72be8_14 (fun H locs hw => ?_)
    refine lv_aload_n hx hb dJx4a65c_add_72be8_15 rfl (lv_at hl 0 rfl) ?_
    refine lv_iload_n hx hb dJx4a65c_add_72be8_16 rfl (lv_at hl 3 rfl) ?_
    refine lv_iconst (v := nI 1) hx hb dJx4a65c_add_72be8_17 (by decide) ?_
    refine n_add hx hb dJx4a65c_add_72be8_18 ?_
    refine r_put C hw in_Jx4a65c tyJx4a65c_ok nmJx4a65c 0 rfl rfl 2 (by decide) lk48 rfl rfl rfl (Nat.le_of_ble_eq_true rfl) (ws' := ([(al, .inr (8, [.int mc_, .ref ed, .int (nI (n + 1))])), (x, .inr (2, frL xd)), (ed, aO g cap (va_up f n (some x)))] ++ fpl frs)) rfl dJx4a65c_add_72be8_19 (fun H locs hw => ?_)
    exact r_vret C hw (Nat.zero_le _) (Nat.zero_le _) (⟨_, [_], rfl, by rw [hgs]; exact Or.inr ⟨_, rfl, by omega, by rw [List.length_append]; show frs.length + 1 ≤ _; omega, lsF_add hf (x, xd) hlen⟩⟩) dJx4a65c_add_72be8_22
  · skip
    have hcn : n = cap := by omega
    have hgs : growS cap n = growC cap := by unfold growS; rw [if_pos hcn, if_neg (by omega)]
    have hgc : cap < growC cap ∧ growC cap ≤ 4 * (growC cap - cap) ∧ growC cap < 2 ^ 26 := by unfold growC; omega
    refine lv_aload_n hx hb dJx4a65c_add_72be8_6 rfl (lv_at hl 0 rfl) ?_
    have hwq : Wd g (va_A ([(al, .inr (8, [.int mc_, .ref ed, .int (nI n)])), (x, .inr (2, frL xd)), (ed, aO g cap f)] ++ fpl frs) sz) s.heap (([(al, .inr (8, [.int mc_, .ref ed, .int (nI n)])), (ed, aO g cap f)] ++ fpl frs) ++ [(x, .inr (2, frL xd))]) _ _ := Wd.swT (a := [(al, .inr (8, [.int mc_, .ref ed, .int (nI n)])), (ed, aO g cap f)]) (b := [(x, .inr (2, frL xd))]) (c := fpl frs) (Wd.subT (E := [(al, .inr (8, [.int mc_, .ref ed, .int (nI n)])), (x, .inr (2, frL xd)), (ed, aO g cap f)]) (E' := [(al, .inr (8, [.int mc_, .ref ed, .int (nI n)])), (ed, aO g cap f), (x, .inr (2, frL xd))]) hw [0, 2, 1] (by decide) rfl)
    refine kP_Vr (As := []) (rest := []) (w := ([(al, .inr (8, [.int mc_, .ref ed, .int (nI n)])), (ed, aO g cap f)] ++ fpl frs)) (wr := [(x, .inr (2, frL xd))]) C hwq (c_grow1 l g _ tb al ed n cap mc_ f frs hf hlen hcn h0 h2) (cwV 0 hts gJx4a65c_add_72be8_Jx4a65c_grow_d5877 rfl rfl rfl (by decide +kernel) ⟨Nat.le_of_ble_eq_true rfl, Nat.le_of_ble_eq_true rfl⟩) sx_bl (sx_callP C hwq hB) 0 rfl rfl rfl hl.1 rfl (Nat.le_of_ble_eq_true rfl) dJx4a65c_add_72be8_7 ⟨Nat.le_of_ble_eq_true rfl, by show 0 + growC cap ≤ 4 * (growS cap n - cap); omega⟩ (fun r_2 u H locs hp hw => ?_)
    obtain ⟨f2, rfl, hf2⟩ := hp
    have hw := Wd.swT (a := [(al, .inr (8, [.int mc_, .ref r_2, .int (nI n)])), (r_2, aO g (growC cap) f2)]) (b := fpl frs) (c := [(x, .inr (2, frL xd))]) hw
    have hw : Wd g (va_A ([(al, .inr (8, [.int mc_, .ref ed, .int (nI n)])), (x, .inr (2, frL xd)), (ed, aO g cap f)] ++ fpl frs) sz) s.heap ([(al, .inr (8, [.int mc_, .ref r_2, .int (nI n)])), (x, .inr (2, frL xd)), (r_2, aO g (growC cap) f2)] ++ fpl frs) H locs := Wd.subT (E := [(al, .inr (8, [.int mc_, .ref r_2, .int (nI n)])), (r_2, aO g (growC cap) f2), (x, .inr (2, frL xd))]) (E' := [(al, .inr (8, [.int mc_, .ref r_2, .int (nI n)])), (x, .inr (2, frL xd)), (r_2, aO g (growC cap) f2)]) hw [0, 2, 1] (by decide) rfl
    refine lv_astore_n (lv' := [(2, .ref r_2), (0, .ref al), (1, .ref x), (3, .int (nI n))]) hx hb dJx4a65c_add_72be8_10 rfl hl (by decide) rfl (fun ls hl => ?_)
    refine lv_aload_n hx hb dJx4a65c_add_72be8_11 rfl (lv_at hl 0 rfl) ?_
    refine lv_iload_n hx hb dJx4a65c_add_72be8_12 rfl (lv_at hl 3 rfl) ?_
    refine lv_aload_n hx hb dJx4a65c_add_72be8_13 rfl (lv_at hl 2 rfl) ?_
    refine r_astF C hw hB 2 1 rfl rfl (by omega) (by omega) (ws' := ([(al, .inr (8, [.int mc_, .ref r_2, .int (nI n)])), (x, .inr (2, frL xd)), (r_2, aO g (growC cap) (va_up f2 n (some x)))] ++ fpl frs)) rfl dJx4a65c_add_72be8_14 (fun H locs hw => ?_)
    refine lv_aload_n hx hb dJx4a65c_add_72be8_15 rfl (lv_at hl 1 rfl) ?_
    refine lv_iload_n hx hb dJx4a65c_add_72be8_16 rfl (lv_at hl 3 rfl) ?_
    refine lv_iconst (v := nI 1) hx hb dJx4a65c_add_72be8_17 (by decide) ?_
    refine n_add hx hb dJx4a65c_add_72be8_18 ?_
    refine r_put C hw in_Jx4a65c tyJx4a65c_ok nmJx4a65c 0 rfl rfl 2 (by decide) lk48 rfl rfl rfl (Nat.le_of_ble_eq_true rfl) (ws' := ([(al, .inr (8, [.int mc_, .ref r_2, .int (nI (n + 1))])), (x, .inr (2, frL xd)), (r_2, aO g (growC cap) (va_up f2 n (some x)))] ++ fpl frs)) rfl dJx4a65c_add_72be8_19 (fun H locs hw => ?_)
    exact r_vret C hw (Nat.le_refl _) (by show 0 + growC cap ≤ 4 * (growS cap n - cap); omega) (⟨_, [_], rfl, by rw [hgs]; exact Or.inr ⟨_, rfl, by omega, by rw [List.length_append]; show frs.length + 1 ≤ _; omega, lsF_add hf2 (x, xd) hlen⟩⟩) dJx4a65c_add_72be8_22
abbrev rm_c_add11 (cap n : Nat) : Room := { frames := 6, cells := 1, slots := 4 * (growS cap n - cap), locals := 128 }
set_option maxHeartbeats 4000000 in
set_option maxRecDepth 100000 in
theorem c_add11 (l : Launch) (g : GT) (sz : Nat) (tb : Nat → Nat) (al ed n cap x : Nat) (xd : FrD) (mc_ : Int32) (f : Nat → Option Nat) (frs : List (Nat × FrD)) (hf : lsF frs cap f) (hlen : frs.length = n) (h0 : 0 < cap) (h1 : n ≤ cap) (h2 : cap < 2 ^ 24) : CtI l g yJx4a65c_add_9ea2d wsJx4a65c_add_9ea2d (rm_c_add11 cap n) [.ref al, .ref x] ([(al, .inr (8, [.int mc_, .ref ed, .int (nI n)])), (x, .inr (2, frL xd)), (ed, aO g cap f)] ++ fpl frs) sz (fun U => Sx tb (va_A ([(al, .inr (8, [.int mc_, .ref ed, .int (nI n)])), (x, .inr (2, frL xd)), (ed, aO g cap f)] ++ fpl frs) sz) U U.heap) (fun rr u => ∃ (ed2 : Nat) (edT2 : va_W), u = ([(al, .inr (8, [.int (mc_ + nI 1), .ref ed2, .int (nI (n + 1))])), (x, .inr (2, frL xd))] ++ (edT2 ++ fpl frs)) ∧ LsOK tb g ed2 edT2 (frs ++ [(x, xd)]) (growS cap n)) (1) (4 * (growS cap n - cap)) := by
  refine ct_body (cc := cJx4a65c_add_9ea2d) (nL := 2) (ret := (some .boolean)) (by decide) rfl (Nat.le_of_ble_eq_true rfl) ?_
  intro p e s m below meth c ls C hin hsz hB hw hl
  obtain ⟨hx, hb, hml, hown, hts, hK, hA, hr, hlk⟩ := id C
  have lk9 := hts (.fieldLink RJx4a65c 9 "java/util/ArrayList" "elementData" "[Ljava/lang/Object;") (by decide +kernel)
  have lk48 := hts (.fieldLink RJx4a65c 48 "java/util/ArrayList" "size" "I") (by decide +kernel)
  have lk63 := hts (.fieldLink RJx4a65c 63 "java/util/ArrayList" "modCount" "I") (by decide +kernel)
  have in_Jx4a65c : ∀ w ∈ wsJx4a65c0, w ∈ wsJx4a65c_add_9ea2d := by unfold wsJx4a65c_add_9ea2d; intro w h; simp only [List.mem_cons, List.mem_append, h, or_true, true_or]
  have hl : lv_has ls 2 [(0, .ref al), (1, .ref x)] := hl
  have hw : Wd g (va_A ([(al, .inr (8, [.int mc_, .ref ed, .int (nI n)])), (x, .inr (2, frL xd)), (ed, aO g cap f)] ++ fpl frs) sz) s.heap ([(al, .inr (8, [.int mc_, .ref ed, .int (nI n)])), (x, .inr (2, frL xd)), (ed, aO g cap f)] ++ fpl frs) s.heap [] := hw
  refine lv_aload_n hx hb dJx4a65c_add_9ea2d_0 rfl (lv_at hl 0 rfl) ?_
  refine lv_dup hx hb dJx4a65c_add_9ea2d_1 rfl ?_
  refine r_get2 C hw in_Jx4a65c 0 rfl rfl 0 (by decide) lk63 (hts (.sameField "java/util/ArrayList" "java/util/AbstractList" "modCount" "I") (by decide +kernel)) rfl dJx4a65c_add_9ea2d_2 ?_
  refine lv_iconst (v := nI 1) hx hb dJx4a65c_add_9ea2d_5 (by decide) ?_
  refine lv_iadd hx hb dJx4a65c_add_9ea2d_6 ?_
  refine r_put2 C hw in_Jx4a65c tyJx4a65c_ok nmJx4a65c 0 rfl rfl 0 (by decide) lk63 (hts (.sameField "java/util/ArrayList" "java/util/AbstractList" "modCount" "I") (by decide +kernel)) rfl rfl rfl (Nat.le_of_ble_eq_true rfl) (ws' := ([(al, .inr (8, [.int (mc_ + (nI 1)), .ref ed, .int (nI n)])), (x, .inr (2, frL xd)), (ed, aO g cap f)] ++ fpl frs)) rfl dJx4a65c_add_9ea2d_7 (fun H locs hw => ?_)
  refine lv_aload_n hx hb dJx4a65c_add_9ea2d_10 rfl (lv_at hl 0 rfl) ?_
  refine lv_aload_n hx hb dJx4a65c_add_9ea2d_11 rfl (lv_at hl 1 rfl) ?_
  refine lv_aload_n hx hb dJx4a65c_add_9ea2d_12 rfl (lv_at hl 0 rfl) ?_
  refine r_get C hw in_Jx4a65c 0 rfl rfl 1 (by decide) lk9 rfl dJx4a65c_add_9ea2d_13 ?_
  refine lv_aload_n hx hb dJx4a65c_add_9ea2d_16 rfl (lv_at hl 0 rfl) ?_
  refine r_get C hw in_Jx4a65c 0 rfl rfl 2 (by decide) lk48 rfl dJx4a65c_add_9ea2d_17 ?_
  have hwq : Wd g (va_A ([(al, .inr (8, [.int mc_, .ref ed, .int (nI n)])), (x, .inr (2, frL xd)), (ed, aO g cap f)] ++ fpl frs) sz) s.heap (([(al, .inr (8, [.int (mc_ + (nI 1)), .ref ed, .int (nI n)])), (x, .inr (2, frL xd)), (ed, aO g cap f)] ++ fpl frs) ++ []) _ _ := Wd.swT (a := [(al, .inr (8, [.int (mc_ + (nI 1)), .ref ed, .int (nI n)])), (x, .inr (2, frL xd)), (ed, aO g cap f)]) (b := []) (c := fpl frs) (Wd.subT (E := [(al, .inr (8, [.int (mc_ + (nI 1)), .ref ed, .int (nI n)])), (x, .inr (2, frL xd)), (ed, aO g cap f)]) (E' := [(al, .inr (8, [.int (mc_ + (nI 1)), .ref ed, .int (nI n)])), (x, .inr (2, frL xd)), (ed, aO g cap f)]) hw [0, 1, 2] (by decide) rfl)
  refine kP_Vv (As := [.ref x, .ref ed, .int (nI n)]) (rest := []) (w := ([(al, .inr (8, [.int (mc_ + (nI 1)), .ref ed, .int (nI n)])), (x, .inr (2, frL xd)), (ed, aO g cap f)] ++ fpl frs)) (wr := []) C hwq (c_add21 l g _ tb al ed n cap x xd (mc_ + nI 1) f frs hf hlen h0 h1 h2) (cwV 3 hts gJx4a65c_add_9ea2d_Jx4a65c_add_72be8 rfl rfl rfl (by decide +kernel) ⟨Nat.le_of_ble_eq_true rfl, Nat.le_of_ble_eq_true rfl⟩) sx_bl (sx_callP C hwq hB) 0 rfl rfl rfl hl.1 rfl (Nat.le_of_ble_eq_true rfl) dJx4a65c_add_9ea2d_20 ⟨Nat.le_of_ble_eq_true rfl, by show 0 + 4 * (growS cap n - cap) ≤ 4 * (growS cap n - cap); omega⟩ (fun u H locs hp hw => ?_)
  obtain ⟨ed2, edT2, rfl, hL⟩ := hp
  have hw := Wd.swT (a := [(al, .inr (8, [.int (mc_ + nI 1), .ref ed2, .int (nI (n + 1))])), (x, .inr (2, frL xd))]) (b := (edT2 ++ fpl frs)) (c := []) hw
  have hw : Wd g (va_A ([(al, .inr (8, [.int mc_, .ref ed, .int (nI n)])), (x, .inr (2, frL xd)), (ed, aO g cap f)] ++ fpl frs) sz) s.heap ([(al, .inr (8, [.int (mc_ + nI 1), .ref ed2, .int (nI (n + 1))])), (x, .inr (2, frL xd))] ++ (edT2 ++ fpl frs)) H locs := Wd.subT (E := [(al, .inr (8, [.int (mc_ + nI 1), .ref ed2, .int (nI (n + 1))])), (x, .inr (2, frL xd))]) (E' := [(al, .inr (8, [.int (mc_ + nI 1), .ref ed2, .int (nI (n + 1))])), (x, .inr (2, frL xd))]) hw [0, 1] (by decide) rfl
  refine lv_iconst (v := nI 1) hx hb dJx4a65c_add_9ea2d_23 (by decide) ?_
  exact r_zret C hw (by decide) (Nat.le_refl _) (by omega) (⟨_, _, rfl, hL⟩) dJx4a65c_add_9ea2d_24
abbrev rm_c_add20 : Room := { frames := 3, cells := 1, slots := 40, locals := 57 }
set_option maxHeartbeats 4000000 in
set_option maxRecDepth 100000 in
theorem c_add20 (l : Launch) (g : GT) (sz : Nat) (tb : Nat → Nat) (al x : Nat) (xd : FrD) (mc_ : Int32) : CtV l g yJx4a65c_add_72be8 wsJx4a65c_add_72be8 rm_c_add20 [.ref al, .ref x, .ref (tb 11), .int (nI 0)] ([(al, .inr (8, [.int mc_, .ref (tb 11), .int (nI 0)])), (x, .inr (2, frL xd))] ++ ([] ++ fpl [])) sz (fun U => Sx tb (va_A ([(al, .inr (8, [.int mc_, .ref (tb 11), .int (nI 0)])), (x, .inr (2, frL xd))] ++ ([] ++ fpl [])) sz) U U.heap) (fun u => ∃ (ed2 : Nat) (edT2 : va_W), u = ([(al, .inr (8, [.int mc_, .ref ed2, .int (nI 1)])), (x, .inr (2, frL xd))] ++ (edT2 ++ fpl [])) ∧ LsOK tb g ed2 edT2 ([] ++ [(x, xd)]) (growS 0 0)) (1) (40) := by
  refine ct_body (cc := cJx4a65c_add_72be8) (nL := 4) (ret := none) (by decide) rfl (Nat.le_of_ble_eq_true rfl) ?_
  intro p e s m below meth c ls C hin hsz hB hw hl
  obtain ⟨hx, hb, hml, hown, hts, hK, hA, hr, hlk⟩ := id C
  have lk48 := hts (.fieldLink RJx4a65c 48 "java/util/ArrayList" "size" "I") (by decide +kernel)
  have in_Jx4a65c : ∀ w ∈ wsJx4a65c0, w ∈ wsJx4a65c_add_72be8 := by unfold wsJx4a65c_add_72be8; intro w h; simp only [List.mem_cons, List.mem_append, h, or_true, true_or]
  have hl : lv_has ls 4 [(0, .ref al), (1, .ref x), (2, .ref (tb 11)), (3, .int (nI 0))] := hl
  have hw : Wd g (va_A ([(al, .inr (8, [.int mc_, .ref (tb 11), .int (nI 0)])), (x, .inr (2, frL xd))] ++ ([] ++ fpl [])) sz) s.heap ([(al, .inr (8, [.int mc_, .ref (tb 11), .int (nI 0)])), (x, .inr (2, frL xd))] ++ ([] ++ fpl [])) s.heap [] := hw
  refine lv_iload_n hx hb dJx4a65c_add_72be8_0 rfl (lv_at hl 3 rfl) ?_
  refine lv_aload_n hx hb dJx4a65c_add_72be8_1 rfl (lv_at hl 2 rfl) ?_
  refine r_tlenE C hw hB dJx4a65c_add_72be8_2 ?_
  refine n_cne (tgt := 11) hx hb (by omega) (by omega) dJx4a65c_add_72be8_3 (by decide) (fun c_1 => ?_) (fun c_1 => ?_)
  · skip
    exfalso; omega
  · skip
    refine lv_aload_n hx hb dJx4a65c_add_72be8_6 rfl (lv_at hl 0 rfl) ?_
    have hwq : Wd g (va_A ([(al, .inr (8, [.int mc_, .ref (tb 11), .int (nI 0)])), (x, .inr (2, frL xd))] ++ ([] ++ fpl [])) sz) s.heap ([(al, .inr (8, [.int mc_, .ref (tb 11), .int (nI 0)]))] ++ ([(x, .inr (2, frL xd))] ++ ([] ++ fpl []))) _ _ := Wd.subT (E := [(al, .inr (8, [.int mc_, .ref (tb 11), .int (nI 0)])), (x, .inr (2, frL xd))]) (E' := [(al, .inr (8, [.int mc_, .ref (tb 11), .int (nI 0)])), (x, .inr (2, frL xd))]) hw [0, 1] (by decide) rfl
    refine kP_Vr (As := []) (rest := []) (w := [(al, .inr (8, [.int mc_, .ref (tb 11), .int (nI 0)]))]) (wr := ([(x, .inr (2, frL xd))] ++ ([] ++ fpl []))) C hwq (c_grow0 l g _ tb al mc_) (cwV 0 hts gJx4a65c_add_72be8_Jx4a65c_grow_d5877 rfl rfl rfl (by decide +kernel) ⟨Nat.le_of_ble_eq_true rfl, Nat.le_of_ble_eq_true rfl⟩) sx_bl (sx_callP C hwq hB) 0 rfl rfl rfl hl.1 rfl (Nat.le_of_ble_eq_true rfl) dJx4a65c_add_72be8_7 ⟨Nat.le_of_ble_eq_true rfl, by decide⟩ (fun r_2 u H locs hp hw => ?_)
    subst hp
    have hw : Wd g (va_A ([(al, .inr (8, [.int mc_, .ref (tb 11), .int (nI 0)])), (x, .inr (2, frL xd))] ++ ([] ++ fpl [])) sz) s.heap ([(al, .inr (8, [.int mc_, .ref r_2, .int (nI 0)])), (x, .inr (2, frL xd)), (r_2, aO g 10 (fun _ => none))] ++ ([] ++ fpl [])) H locs := Wd.subT (E := [(al, .inr (8, [.int mc_, .ref r_2, .int (nI 0)])), (r_2, aO g 10 (fun _ => none)), (x, .inr (2, frL xd))]) (E' := [(al, .inr (8, [.int mc_, .ref r_2, .int (nI 0)])), (x, .inr (2, frL xd)), (r_2, aO g 10 (fun _ => none))]) hw [0, 2, 1] (by decide) rfl
    refine lv_astore_n (lv' := [(2, .ref r_2), (0, .ref al), (1, .ref x), (3, .int (nI 0))]) hx hb dJx4a65c_add_72be8_10 rfl hl (by decide) rfl (fun ls hl => ?_)
    refine lv_aload_n hx hb dJx4a65c_add_72be8_11 rfl (lv_at hl 0 rfl) ?_
    refine lv_iload_n hx hb dJx4a65c_add_72be8_12 rfl (lv_at hl 3 rfl) ?_
    refine lv_aload_n hx hb dJx4a65c_add_72be8_13 rfl (lv_at hl 2 rfl) ?_
    refine r_astF C hw hB 2 1 rfl rfl (by omega) (by omega) (ws' := ([(al, .inr (8, [.int mc_, .ref r_2, .int (nI 0)])), (x, .inr (2, frL xd)), (r_2, aO g 10 (va_up (fun _ => none) 0 (some x)))] ++ ([] ++ fpl []))) rfl dJx4a65c_add_72be8_14 (fun H locs hw => ?_)
    refine lv_aload_n hx hb dJx4a65c_add_72be8_15 rfl (lv_at hl 1 rfl) ?_
    refine lv_iload_n hx hb dJx4a65c_add_72be8_16 rfl (lv_at hl 3 rfl) ?_
    refine lv_iconst (v := nI 1) hx hb dJx4a65c_add_72be8_17 (by decide) ?_
    refine n_add hx hb dJx4a65c_add_72be8_18 ?_
    refine tp1 (v' := (nI 1)) (congrArg nI (by decide)) ?_
    refine r_put C hw in_Jx4a65c tyJx4a65c_ok nmJx4a65c 0 rfl rfl 2 (by decide) lk48 rfl rfl rfl (Nat.le_of_ble_eq_true rfl) (ws' := ([(al, .inr (8, [.int mc_, .ref r_2, .int (nI 1)])), (x, .inr (2, frL xd)), (r_2, aO g 10 (va_up (fun _ => none) 0 (some x)))] ++ ([] ++ fpl []))) rfl dJx4a65c_add_72be8_19 (fun H locs hw => ?_)
    exact r_vret C hw (Nat.le_refl _) (by decide) (⟨_, [_], rfl, Or.inr ⟨_, rfl, by decide, (by show 1 ≤ growS 0 0; decide), lsF_add (lsF_none 10) (x, xd) rfl⟩⟩) dJx4a65c_add_72be8_22
abbrev rm_c_add10 : Room := { frames := 6, cells := 1, slots := 40, locals := 128 }
set_option maxHeartbeats 4000000 in
set_option maxRecDepth 100000 in
theorem c_add10 (l : Launch) (g : GT) (sz : Nat) (tb : Nat → Nat) (al x : Nat) (xd : FrD) (mc_ : Int32) : CtI l g yJx4a65c_add_9ea2d wsJx4a65c_add_9ea2d rm_c_add10 [.ref al, .ref x] ([(al, .inr (8, [.int mc_, .ref (tb 11), .int (nI 0)])), (x, .inr (2, frL xd))] ++ ([] ++ fpl [])) sz (fun U => Sx tb (va_A ([(al, .inr (8, [.int mc_, .ref (tb 11), .int (nI 0)])), (x, .inr (2, frL xd))] ++ ([] ++ fpl [])) sz) U U.heap) (fun rr u => ∃ (ed2 : Nat) (edT2 : va_W), u = ([(al, .inr (8, [.int (mc_ + nI 1), .ref ed2, .int (nI 1)])), (x, .inr (2, frL xd))] ++ (edT2 ++ fpl [])) ∧ LsOK tb g ed2 edT2 ([] ++ [(x, xd)]) (growS 0 0)) (1) (40) := by
  refine ct_body (cc := cJx4a65c_add_9ea2d) (nL := 2) (ret := (some .boolean)) (by decide) rfl (Nat.le_of_ble_eq_true rfl) ?_
  intro p e s m below meth c ls C hin hsz hB hw hl
  obtain ⟨hx, hb, hml, hown, hts, hK, hA, hr, hlk⟩ := id C
  have lk9 := hts (.fieldLink RJx4a65c 9 "java/util/ArrayList" "elementData" "[Ljava/lang/Object;") (by decide +kernel)
  have lk48 := hts (.fieldLink RJx4a65c 48 "java/util/ArrayList" "size" "I") (by decide +kernel)
  have lk63 := hts (.fieldLink RJx4a65c 63 "java/util/ArrayList" "modCount" "I") (by decide +kernel)
  have in_Jx4a65c : ∀ w ∈ wsJx4a65c0, w ∈ wsJx4a65c_add_9ea2d := by unfold wsJx4a65c_add_9ea2d; intro w h; simp only [List.mem_cons, List.mem_append, h, or_true, true_or]
  have hl : lv_has ls 2 [(0, .ref al), (1, .ref x)] := hl
  have hw : Wd g (va_A ([(al, .inr (8, [.int mc_, .ref (tb 11), .int (nI 0)])), (x, .inr (2, frL xd))] ++ ([] ++ fpl [])) sz) s.heap ([(al, .inr (8, [.int mc_, .ref (tb 11), .int (nI 0)])), (x, .inr (2, frL xd))] ++ ([] ++ fpl [])) s.heap [] := hw
  refine lv_aload_n hx hb dJx4a65c_add_9ea2d_0 rfl (lv_at hl 0 rfl) ?_
  refine lv_dup hx hb dJx4a65c_add_9ea2d_1 rfl ?_
  refine r_get2 C hw in_Jx4a65c 0 rfl rfl 0 (by decide) lk63 (hts (.sameField "java/util/ArrayList" "java/util/AbstractList" "modCount" "I") (by decide +kernel)) rfl dJx4a65c_add_9ea2d_2 ?_
  refine lv_iconst (v := nI 1) hx hb dJx4a65c_add_9ea2d_5 (by decide) ?_
  refine lv_iadd hx hb dJx4a65c_add_9ea2d_6 ?_
  refine r_put2 C hw in_Jx4a65c tyJx4a65c_ok nmJx4a65c 0 rfl rfl 0 (by decide) lk63 (hts (.sameField "java/util/ArrayList" "java/util/AbstractList" "modCount" "I") (by decide +kernel)) rfl rfl rfl (Nat.le_of_ble_eq_true rfl) (ws' := ([(al, .inr (8, [.int (mc_ + (nI 1)), .ref (tb 11), .int (nI 0)])), (x, .inr (2, frL xd))] ++ ([] ++ fpl []))) rfl dJx4a65c_add_9ea2d_7 (fun H locs hw => ?_)
  refine lv_aload_n hx hb dJx4a65c_add_9ea2d_10 rfl (lv_at hl 0 rfl) ?_
  refine lv_aload_n hx hb dJx4a65c_add_9ea2d_11 rfl (lv_at hl 1 rfl) ?_
  refine lv_aload_n hx hb dJx4a65c_add_9ea2d_12 rfl (lv_at hl 0 rfl) ?_
  refine r_get C hw in_Jx4a65c 0 rfl rfl 1 (by decide) lk9 rfl dJx4a65c_add_9ea2d_13 ?_
  refine lv_aload_n hx hb dJx4a65c_add_9ea2d_16 rfl (lv_at hl 0 rfl) ?_
  refine r_get C hw in_Jx4a65c 0 rfl rfl 2 (by decide) lk48 rfl dJx4a65c_add_9ea2d_17 ?_
  have hwq : Wd g (va_A ([(al, .inr (8, [.int mc_, .ref (tb 11), .int (nI 0)])), (x, .inr (2, frL xd))] ++ ([] ++ fpl [])) sz) s.heap (([(al, .inr (8, [.int (mc_ + (nI 1)), .ref (tb 11), .int (nI 0)])), (x, .inr (2, frL xd))] ++ ([] ++ fpl [])) ++ []) _ _ := Wd.swT (a := [(al, .inr (8, [.int (mc_ + (nI 1)), .ref (tb 11), .int (nI 0)])), (x, .inr (2, frL xd))]) (b := []) (c := ([] ++ fpl [])) (Wd.subT (E := [(al, .inr (8, [.int (mc_ + (nI 1)), .ref (tb 11), .int (nI 0)])), (x, .inr (2, frL xd))]) (E' := [(al, .inr (8, [.int (mc_ + (nI 1)), .ref (tb 11), .int (nI 0)])), (x, .inr (2, frL xd))]) hw [0, 1] (by decide) rfl)
  refine kP_Vv (As := [.ref x, .ref (tb 11), .int (nI 0)]) (rest := []) (w := ([(al, .inr (8, [.int (mc_ + (nI 1)), .ref (tb 11), .int (nI 0)])), (x, .inr (2, frL xd))] ++ ([] ++ fpl []))) (wr := []) C hwq (c_add20 l g _ tb al x xd (mc_ + nI 1)) (cwV 3 hts gJx4a65c_add_9ea2d_Jx4a65c_add_72be8 rfl rfl rfl (by decide +kernel) ⟨Nat.le_of_ble_eq_true rfl, Nat.le_of_ble_eq_true rfl⟩) sx_bl (sx_callP C hwq hB) 0 rfl rfl rfl hl.1 rfl (Nat.le_of_ble_eq_true rfl) dJx4a65c_add_9ea2d_20 ⟨Nat.le_of_ble_eq_true rfl, by decide⟩ (fun u H locs hp hw => ?_)
  obtain ⟨ed2, edT2, rfl, hL⟩ := hp
  have hw := Wd.swT (a := [(al, .inr (8, [.int (mc_ + nI 1), .ref ed2, .int (nI 1)])), (x, .inr (2, frL xd))]) (b := (edT2 ++ fpl [])) (c := []) hw
  have hw : Wd g (va_A ([(al, .inr (8, [.int mc_, .ref (tb 11), .int (nI 0)])), (x, .inr (2, frL xd))] ++ ([] ++ fpl [])) sz) s.heap ([(al, .inr (8, [.int (mc_ + nI 1), .ref ed2, .int (nI 1)])), (x, .inr (2, frL xd))] ++ (edT2 ++ fpl [])) H locs := Wd.subT (E := [(al, .inr (8, [.int (mc_ + nI 1), .ref ed2, .int (nI 1)])), (x, .inr (2, frL xd))]) (E' := [(al, .inr (8, [.int (mc_ + nI 1), .ref ed2, .int (nI 1)])), (x, .inr (2, frL xd))]) hw [0, 1] (by decide) rfl
  refine lv_iconst (v := nI 1) hx hb dJx4a65c_add_9ea2d_23 (by decide) ?_
  exact r_zret C hw (by decide) (Nat.le_refl _) (Nat.le_refl _) (⟨_, _, rfl, hL⟩) dJx4a65c_add_9ea2d_24
/-- add, whichever row the list has -/
theorem c_add (l : Launch) (g : GT) (sz : Nat) (tb : Nat → Nat) (al ed n cap x : Nat) (xd : FrD) (mc_ : Int32) (frs : List (Nat × FrD)) (edT : va_W) (hL : LsOK tb g ed edT frs cap) (hl : frs.length = n) (h2 : cap < 2 ^ 24) : CtI l g yJx4a65c_add_9ea2d wsJx4a65c_add_9ea2d (rm_c_add11 cap n) [.ref al, .ref x] ([(al, .inr (8, [.int mc_, .ref ed, .int (nI n)])), (x, .inr (2, frL xd))] ++ (edT ++ fpl frs)) sz (fun U => Sx tb (va_A ([(al, .inr (8, [.int mc_, .ref ed, .int (nI n)])), (x, .inr (2, frL xd))] ++ (edT ++ fpl frs)) sz) U U.heap) (fun rr u => ∃ (ed2 : Nat) (edT2 : va_W), u = ([(al, .inr (8, [.int (mc_ + nI 1), .ref ed2, .int (nI (n + 1))])), (x, .inr (2, frL xd))] ++ (edT2 ++ fpl frs)) ∧ LsOK tb g ed2 edT2 (frs ++ [(x, xd)]) (growS cap n)) 1 (4 * (growS cap n - cap)) := by
  rcases hL with ⟨rfl, rfl, rfl, rfl⟩ | ⟨f, rfl, h0, h1, hf⟩
  · subst hl
    exact c_add10 l g sz tb al x xd mc_
  · exact c_add11 l g sz tb al ed n cap x xd mc_ f frs hf hl h0 (by omega) h2
