abbrev rm_c_alA : Room := { frames := 1, cells := 0, slots := 0, locals := 12 }
set_option maxHeartbeats 4000000 in
set_option maxRecDepth 100000 in
theorem c_alA (l : Launch) (g : GT) (sz : Nat) (al : Nat) : CtV l g yJxa1e45_init_da8c8 wsJxa1e45_init_da8c8 rm_c_alA [.ref al] [] sz (fun _ => True) (fun u => u = []) (0) (0) := by
  refine ct_body (cc := cJxa1e45_init_da8c8) (nL := 1) (ret := none) (by decide) rfl (Nat.le_of_ble_eq_true rfl) ?_
  intro p e s m below meth c ls C hin hsz hB hw hl
  obtain ⟨hx, hb, hml, hown, hts, hK, hA, hr, hlk⟩ := id C
  have hl : lv_has ls 1 [(0, .ref al)] := hl
  have hw : Wd g (va_A [] sz) s.heap [] s.heap [] := hw
  refine lv_aload_n hx hb dJxa1e45_init_da8c8_0 rfl (lv_at hl 0 rfl) ?_
  refine W.objInit hx hb hown (hts (.methodLink RJxa1e45 1 objectInit) (by decide +kernel)) (hts (.instanceMethod objectInit) (by decide +kernel)) (hts (.code objectInit ⟨#[0xb1]⟩ 1 none) (by decide +kernel)) rfl (by rw [hml]; exact hl.1) rfl dJxa1e45_init_da8c8_1 (Nat.le_of_ble_eq_true rfl) (Nat.le_of_ble_eq_true rfl) ?_
  refine W.eq (g2 := F0 m 4 ls []) rfl ?_
  exact r_vret C hw (Nat.le_refl _) (Nat.le_refl _) (rfl) dJxa1e45_init_da8c8_4
abbrev rm_c_alB : Room := { frames := 2, cells := 0, slots := 0, locals := 32 }
set_option maxHeartbeats 4000000 in
set_option maxRecDepth 100000 in
theorem c_alB (l : Launch) (g : GT) (sz : Nat) (al : Nat) : CtV l g yJxc12de_init_da8c8 wsJxc12de_init_da8c8 rm_c_alB [.ref al] [(al, .inr (8, [.int (nI 0), .null, .int (nI 0)]))] sz (fun _ => True) (fun u => u = [(al, .inr (8, [.int (nI 0), .null, .int (nI 0)]))]) (0) (0) := by
  refine ct_body (cc := cJxc12de_init_da8c8) (nL := 1) (ret := none) (by decide) rfl (Nat.le_of_ble_eq_true rfl) ?_
  intro p e s m below meth c ls C hin hsz hB hw hl
  obtain ⟨hx, hb, hml, hown, hts, hK, hA, hr, hlk⟩ := id C
  have lk7 := hts (.fieldLink RJxc12de 7 "java/util/AbstractList" "modCount" "I") (by decide +kernel)
  have in_Jx4a65c : ∀ w ∈ wsJx4a65c0, w ∈ wsJxc12de_init_da8c8 := by unfold wsJxc12de_init_da8c8; intro w h; simp only [List.mem_cons, List.mem_append, h, or_true, true_or]
  have hl : lv_has ls 1 [(0, .ref al)] := hl
  have hw : Wd g (va_A [(al, .inr (8, [.int (nI 0), .null, .int (nI 0)]))] sz) s.heap [(al, .inr (8, [.int (nI 0), .null, .int (nI 0)]))] s.heap [] := hw
  refine lv_aload_n hx hb dJxc12de_init_da8c8_0 rfl (lv_at hl 0 rfl) ?_
  refine k_Iv (As := []) (rest := []) (wr := [(al, .inr (8, [.int (nI 0), .null, .int (nI 0)]))]) C hw (c_alA l g _ al) (cwI 0 hts gJxc12de_init_da8c8_Jxa1e45_init_da8c8 rfl rfl rfl (hts (.initialized RJxa1e45) (by decide +kernel)) (hts (.methodLink RJxc12de 1 yJxa1e45_init_da8c8) (by decide +kernel)) (hts (.instanceMethod yJxa1e45_init_da8c8) (by decide +kernel)) rfl (by decide +kernel) ⟨Nat.le_of_ble_eq_true rfl, Nat.le_of_ble_eq_true rfl⟩) bl_T (fun _ _ _ => trivial) [] [0] (by decide) rfl rfl (by decide) (by decide) rfl hl.1 rfl (Nat.le_of_ble_eq_true rfl) dJxc12de_init_da8c8_1 ⟨Nat.le_of_ble_eq_true rfl, Nat.le_of_ble_eq_true rfl⟩ (fun u H locs hp hw => ?_)
  obtain rfl := hp
  have hw := Wd.sub (ws' := [(al, .inr (8, [.int (nI 0), .null, .int (nI 0)]))]) hw [0] (by decide) rfl
  refine lv_aload_n hx hb dJxc12de_init_da8c8_4 rfl (lv_at hl 0 rfl) ?_
  refine lv_iconst (v := nI 0) hx hb dJxc12de_init_da8c8_5 (by decide) ?_
  refine r_put C hw in_Jx4a65c tyJx4a65c_ok nmJx4a65c 0 rfl rfl 0 (by decide) lk7 rfl rfl rfl (Nat.le_of_ble_eq_true rfl) (ws' := [(al, .inr (8, [.int (nI 0), .null, .int (nI 0)]))]) rfl dJxc12de_init_da8c8_6 (fun H locs hw => ?_)
  exact r_vret C hw (Nat.le_refl _) (Nat.le_refl _) (rfl) dJxc12de_init_da8c8_9
abbrev rm_c_alInit : Room := { frames := 3, cells := 0, slots := 0, locals := 52 }
set_option maxHeartbeats 4000000 in
set_option maxRecDepth 100000 in
theorem c_alInit (l : Launch) (g : GT) (sz : Nat) (tb : Nat → Nat) (al : Nat) : CtV l g yJx4a65c_init_da8c8 wsJx4a65c_init_da8c8 rm_c_alInit [.ref al] [(al, .inr (8, [.int (nI 0), .null, .int (nI 0)]))] sz (fun U => Sx tb (va_A [(al, .inr (8, [.int (nI 0), .null, .int (nI 0)]))] sz) U U.heap) (fun u => u = [(al, .inr (8, [.int (nI 0), .ref (tb 11), .int (nI 0)]))]) (0) (0) := by
  refine ct_body (cc := cJx4a65c_init_da8c8) (nL := 1) (ret := none) (by decide) rfl (Nat.le_of_ble_eq_true rfl) ?_
  intro p e s m below meth c ls C hin hsz hB hw hl
  obtain ⟨hx, hb, hml, hown, hts, hK, hA, hr, hlk⟩ := id C
  have lk9 := hts (.fieldLink RJx4a65c 9 "java/util/ArrayList" "elementData" "[Ljava/lang/Object;") (by decide +kernel)
  have lk39 := hts (.fieldLink RJx4a65c 39 "java/util/ArrayList" "DEFAULTCAPACITY_EMPTY_ELEMENTDATA" "[Ljava/lang/Object;") (by decide +kernel)
  have in_Jx4a65c : ∀ w ∈ wsJx4a65c0, w ∈ wsJx4a65c_init_da8c8 := by unfold wsJx4a65c_init_da8c8; intro w h; simp only [List.mem_cons, List.mem_append, h, or_true, true_or]
  have hl : lv_has ls 1 [(0, .ref al)] := hl
  have hw : Wd g (va_A [(al, .inr (8, [.int (nI 0), .null, .int (nI 0)]))] sz) s.heap [(al, .inr (8, [.int (nI 0), .null, .int (nI 0)]))] s.heap [] := hw
  refine lv_aload_n hx hb dJx4a65c_init_da8c8_0 rfl (lv_at hl 0 rfl) ?_
  refine k_Iv (As := []) (rest := []) (wr := []) C hw (c_alB l g _ al) (cwI 0 hts gJx4a65c_init_da8c8_Jxc12de_init_da8c8 rfl rfl rfl (hts (.initialized RJxc12de) (by decide +kernel)) (hts (.methodLink RJx4a65c 1 yJxc12de_init_da8c8) (by decide +kernel)) (hts (.instanceMethod yJxc12de_init_da8c8) (by decide +kernel)) rfl (by decide +kernel) ⟨Nat.le_of_ble_eq_true rfl, Nat.le_of_ble_eq_true rfl⟩) bl_T (fun _ _ _ => trivial) [0] [] (by decide) rfl rfl (by decide) (by decide) rfl hl.1 rfl (Nat.le_of_ble_eq_true rfl) dJx4a65c_init_da8c8_1 ⟨Nat.le_of_ble_eq_true rfl, Nat.le_of_ble_eq_true rfl⟩ (fun u H locs hp hw => ?_)
  obtain rfl := hp
  have hw := Wd.sub (ws' := [(al, .inr (8, [.int (nI 0), .null, .int (nI 0)]))]) hw [0] (by decide) rfl
  refine lv_aload_n hx hb dJx4a65c_init_da8c8_4 rfl (lv_at hl 0 rfl) ?_
  refine r_gsE C hw hB lk39 dJx4a65c_init_da8c8_5 ?_
  refine r_put C hw in_Jx4a65c tyJx4a65c_ok nmJx4a65c 0 rfl rfl 1 (by decide) lk9 rfl rfl rfl (Nat.le_of_ble_eq_true rfl) (ws' := [(al, .inr (8, [.int (nI 0), .ref (tb 11), .int (nI 0)]))]) rfl dJx4a65c_init_da8c8_8 (fun H locs hw => ?_)
  exact r_vret C hw (Nat.le_refl _) (Nat.le_refl _) (rfl) dJx4a65c_init_da8c8_11
abbrev rm_c_alSize : Room := { frames := 0, cells := 0, slots := 0, locals := 0 }
set_option maxHeartbeats 4000000 in
set_option maxRecDepth 100000 in
theorem c_alSize (l : Launch) (g : GT) (sz : Nat) (al ed n : Nat) (mc_ : Int32) : CtI l g yJx4a65c_size_8abf5 wsJx4a65c_size_8abf5 rm_c_alSize [.ref al] [(al, .inr (8, [.int mc_, .ref ed, .int (nI n)]))] sz (fun _ => True) (fun rr u => rr = nI n ∧ u = [(al, .inr (8, [.int mc_, .ref ed, .int (nI n)]))]) (0) (0) := by
  refine ct_body (cc := cJx4a65c_size_8abf5) (nL := 1) (ret := (some .int)) (by decide) rfl (Nat.le_of_ble_eq_true rfl) ?_
  intro p e s m below meth c ls C hin hsz hB hw hl
  obtain ⟨hx, hb, hml, hown, hts, hK, hA, hr, hlk⟩ := id C
  have lk48 := hts (.fieldLink RJx4a65c 48 "java/util/ArrayList" "size" "I") (by decide +kernel)
  have in_Jx4a65c : ∀ w ∈ wsJx4a65c0, w ∈ wsJx4a65c_size_8abf5 := by unfold wsJx4a65c_size_8abf5; intro w h; simp only [List.mem_cons, List.mem_append, h, or_true, true_or]
  have hl : lv_has ls 1 [(0, .ref al)] := hl
  have hw : Wd g (va_A [(al, .inr (8, [.int mc_, .ref ed, .int (nI n)]))] sz) s.heap [(al, .inr (8, [.int mc_, .ref ed, .int (nI n)]))] s.heap [] := hw
  refine lv_aload_n hx hb dJx4a65c_size_8abf5_0 rfl (lv_at hl 0 rfl) ?_
  refine r_get C hw in_Jx4a65c 0 rfl rfl 2 (by decide) lk48 rfl dJx4a65c_size_8abf5_1 ?_
  exact r_iret C hw (Nat.le_refl _) (Nat.le_refl _) (⟨rfl, rfl⟩) dJx4a65c_size_8abf5_4
abbrev rm_c_alClear1 : Room := { frames := 0, cells := 0, slots := 0, locals := 0 }
set_option maxHeartbeats 4000000 in
set_option maxRecDepth 100000 in
theorem c_alClear1 (l : Launch) (g : GT) (sz : Nat) (al ed n cap : Nat) (mc_ : Int32) (f : Nat → Option Nat) (h1 : n ≤ cap) (h2 : cap < 2 ^ 30) : CtV l g yJx4a65c_clear_da8c8 wsJx4a65c_clear_da8c8 rm_c_alClear1 [.ref al] [(al, .inr (8, [.int mc_, .ref ed, .int (nI n)])), (ed, aO g cap f)] sz (fun _ => True) (fun u => u = [(al, .inr (8, [.int (mc_ + nI 1), .ref ed, .int (nI 0)])), (ed, aO g cap (fun j => if j < n then none else f j))]) (0) (0) := by
  refine ct_body (cc := cJx4a65c_clear_da8c8) (nL := 4) (ret := none) (by decide) rfl (Nat.le_of_ble_eq_true rfl) ?_
  intro p e s m below meth c ls C hin hsz hB hw hl
  obtain ⟨hx, hb, hml, hown, hts, hK, hA, hr, hlk⟩ := id C
  have lk9 := hts (.fieldLink RJx4a65c 9 "java/util/ArrayList" "elementData" "[Ljava/lang/Object;") (by decide +kernel)
  have lk48 := hts (.fieldLink RJx4a65c 48 "java/util/ArrayList" "size" "I") (by decide +kernel)
  have lk63 := hts (.fieldLink RJx4a65c 63 "java/util/ArrayList" "modCount" "I") (by decide +kernel)
  have in_Jx4a65c : ∀ w ∈ wsJx4a65c0, w ∈ wsJx4a65c_clear_da8c8 := by unfold wsJx4a65c_clear_da8c8; intro w h; simp only [List.mem_cons, List.mem_append, h, or_true, true_or]
  have hl : lv_has ls 4 [(0, .ref al)] := hl
  have hw : Wd g (va_A [(al, .inr (8, [.int mc_, .ref ed, .int (nI n)])), (ed, aO g cap f)] sz) s.heap [(al, .inr (8, [.int mc_, .ref ed, .int (nI n)])), (ed, aO g cap f)] s.heap [] := hw
  refine lv_aload_n hx hb dJx4a65c_clear_da8c8_0 rfl (lv_at hl 0 rfl) ?_
  refine lv_dup hx hb dJx4a65c_clear_da8c8_1 rfl ?_
  refine r_get2 C hw in_Jx4a65c 0 rfl rfl 0 (by decide) lk63 (hts (.sameField "java/util/ArrayList" "java/util/AbstractList" "modCount" "I") (by decide +kernel)) rfl dJx4a65c_clear_da8c8_2 ?_
  refine lv_iconst (v := nI 1) hx hb dJx4a65c_clear_da8c8_5 (by decide) ?_
  refine lv_iadd hx hb dJx4a65c_clear_da8c8_6 ?_
  refine r_put2 C hw in_Jx4a65c tyJx4a65c_ok nmJx4a65c 0 rfl rfl 0 (by decide) lk63 (hts (.sameField "java/util/ArrayList" "java/util/AbstractList" "modCount" "I") (by decide +kernel)) rfl rfl rfl (Nat.le_of_ble_eq_true rfl) (ws' := [(al, .inr (8, [.int (mc_ + (nI 1)), .ref ed, .int (nI n)])), (ed, aO g cap f)]) rfl dJx4a65c_clear_da8c8_7 (fun H locs hw => ?_)
  refine lv_aload_n hx hb dJx4a65c_clear_da8c8_10 rfl (lv_at hl 0 rfl) ?_
  refine r_get C hw in_Jx4a65c 0 rfl rfl 1 (by decide) lk9 rfl dJx4a65c_clear_da8c8_11 ?_
  refine lv_astore_n (lv' := [(1, .ref ed), (0, .ref al)]) hx hb dJx4a65c_clear_da8c8_14 rfl hl (by decide) rfl (fun ls hl => ?_)
  refine lv_aload_n hx hb dJx4a65c_clear_da8c8_15 rfl (lv_at hl 1 rfl) ?_
  refine r_get C hw in_Jx4a65c 0 rfl rfl 2 (by decide) lk48 rfl dJx4a65c_clear_da8c8_16 ?_
  refine lv_istore_n (lv' := [(2, .int (nI n)), (1, .ref ed), (0, .ref al)]) hx hb dJx4a65c_clear_da8c8_19 rfl hl (by decide) rfl (fun ls hl => ?_)
  refine lv_aload_n hx hb dJx4a65c_clear_da8c8_20 rfl (lv_at hl 2 rfl) ?_
  refine lv_iconst (v := nI 0) hx hb dJx4a65c_clear_da8c8_21 (by decide) ?_
  refine lv_dup_x1 hx hb dJx4a65c_clear_da8c8_22 rfl rfl ?_
  refine r_put C hw in_Jx4a65c tyJx4a65c_ok nmJx4a65c 0 rfl rfl 2 (by decide) lk48 rfl rfl rfl (Nat.le_of_ble_eq_true rfl) (ws' := [(al, .inr (8, [.int (mc_ + (nI 1)), .ref ed, .int (nI 0)])), (ed, aO g cap f)]) rfl dJx4a65c_clear_da8c8_23 (fun H locs hw => ?_)
  refine lv_istore_n (lv' := [(3, .int (nI 0)), (2, .int (nI n)), (1, .ref ed), (0, .ref al)]) hx hb dJx4a65c_clear_da8c8_26 rfl hl (by decide) rfl (fun ls hl => ?_)
  refine lpw (I := fun i H locs ls => Wd g (va_A [(al, .inr (8, [.int mc_, .ref ed, .int (nI n)])), (ed, aO g cap f)] sz) s.heap [(al, .inr (8, [.int (mc_ + nI 1), .ref ed, .int (nI 0)])), (ed, aO g cap (fun j => if j < i then none else f j))] H locs ∧ lv_has ls 4 [(0, .ref al), (1, .ref ed), (2, .int (nI n)), (3, .int (nI i))]) (n) ?_ ?_ (0) (by omega) ⟨(by rw [tabZ (h := fun _ => none)]; exact hw), (lv_sub hl [3, 2, 1, 0] rfl)⟩
  · intro H locs ls hI
    obtain ⟨hw, hl⟩ := hI
    refine lv_iload_n hx hb dJx4a65c_clear_da8c8_27 rfl (lv_at hl 3 rfl) ?_
    refine lv_iload_n hx hb dJx4a65c_clear_da8c8_28 rfl (lv_at hl 2 rfl) ?_
    refine n_cge (tgt := 42) hx hb (by omega) (by omega) dJx4a65c_clear_da8c8_29 (by decide) (fun c_1 => ?_) (fun c_1 => ?_)
    · skip
      exact r_vret C hw (Nat.le_refl _) (Nat.le_refl _) (rfl) dJx4a65c_clear_da8c8_42
    · skip
      exfalso; omega
  · intro i H locs ls hi hI K
    obtain ⟨hw, hl⟩ := hI
    refine lv_iload_n hx hb dJx4a65c_clear_da8c8_27 rfl (lv_at hl 3 rfl) ?_
    refine lv_iload_n hx hb dJx4a65c_clear_da8c8_28 rfl (lv_at hl 2 rfl) ?_
    refine n_cge (tgt := 42) hx hb (by omega) (by omega) dJx4a65c_clear_da8c8_29 (by decide) (fun c_2 => ?_) (fun c_2 => ?_)
    · skip
      exfalso; omega
    · skip
      refine lv_aload_n hx hb dJx4a65c_clear_da8c8_32 rfl (lv_at hl 1 rfl) ?_
      refine lv_iload_n hx hb dJx4a65c_clear_da8c8_33 rfl (lv_at hl 3 rfl) ?_
      refine lv_null hx hb dJx4a65c_clear_da8c8_34 ?_
      refine r_astN C hw 1 rfl (by omega) (by omega) (ws' := [(al, .inr (8, [.int (mc_ + nI 1), .ref ed, .int (nI 0)])), (ed, aO g cap (va_up (fun j => if j < i then none else f j) i none))]) rfl dJx4a65c_clear_da8c8_35 (fun H locs hw => ?_)
      refine lv_iinc (v := (nI (i + 1))) (lv' := [(3, .int (nI (i + 1))), (0, .ref al), (1, .ref ed), (2, .int (nI n))]) hx hb dJx4a65c_clear_da8c8_36 hl (k := 3) rfl (nI_add _ _) (by decide) rfl (fun ls hl => ?_)
      refine lv_goto (tgt := 27) hx hb dJx4a65c_clear_da8c8_39 (by decide) ?_
      exact K _ _ _ ⟨(by rw [nullF_s] at hw; exact hw), (lv_sub hl [1, 2, 3, 0] rfl)⟩
set_option maxHeartbeats 4000000 in
set_option maxRecDepth 100000 in
theorem c_alClear0 (l : Launch) (g : GT) (sz : Nat) (tb : Nat → Nat) (al : Nat) (mc_ : Int32) : CtV l g yJx4a65c_clear_da8c8 wsJx4a65c_clear_da8c8 rm_c_alClear1 [.ref al] [(al, .inr (8, [.int mc_, .ref (tb 11), .int (nI 0)]))] sz (fun _ => True) (fun u => u = [(al, .inr (8, [.int (mc_ + nI 1), .ref (tb 11), .int (nI 0)]))]) (0) (0) := by
  refine ct_body (cc := cJx4a65c_clear_da8c8) (nL := 4) (ret := none) (by decide) rfl (Nat.le_of_ble_eq_true rfl) ?_
  intro p e s m below meth c ls C hin hsz hB hw hl
  obtain ⟨hx, hb, hml, hown, hts, hK, hA, hr, hlk⟩ := id C
  have lk9 := hts (.fieldLink RJx4a65c 9 "java/util/ArrayList" "elementData" "[Ljava/lang/Object;") (by decide +kernel)
  have lk48 := hts (.fieldLink RJx4a65c 48 "java/util/ArrayList" "size" "I") (by decide +kernel)
  have lk63 := hts (.fieldLink RJx4a65c 63 "java/util/ArrayList" "modCount" "I") (by decide +kernel)
  have in_Jx4a65c : ∀ w ∈ wsJx4a65c0, w ∈ wsJx4a65c_clear_da8c8 := by unfold wsJx4a65c_clear_da8c8; intro w h; simp only [List.mem_cons, List.mem_append, h, or_true, true_or]
  have hl : lv_has ls 4 [(0, .ref al)] := hl
  have hw : Wd g (va_A [(al, .inr (8, [.int mc_, .ref (tb 11), .int (nI 0)]))] sz) s.heap [(al, .inr (8, [.int mc_, .ref (tb 11), .int (nI 0)]))] s.heap [] := hw
  refine lv_aload_n hx hb dJx4a65c_clear_da8c8_0 rfl (lv_at hl 0 rfl) ?_
  refine lv_dup hx hb dJx4a65c_clear_da8c8_1 rfl ?_
  refine r_get2 C hw in_Jx4a65c 0 rfl rfl 0 (by decide) lk63 (hts (.sameField "java/util/ArrayList" "java/util/AbstractList" "modCount" "I") (by decide +kernel)) rfl dJx4a65c_clear_da8c8_2 ?_
  refine lv_iconst (v := nI 1) hx hb dJx4a65c_clear_da8c8_5 (by decide) ?_
  refine lv_iadd hx hb dJx4a65c_clear_da8c8_6 ?_
  refine r_put2 C hw in_Jx4a65c tyJx4a65c_ok nmJx4a65c 0 rfl rfl 0 (by decide) lk63 (hts (.sameField "java/util/ArrayList" "java/util/AbstractList" "modCount" "I") (by decide +kernel)) rfl rfl rfl (Nat.le_of_ble_eq_true rfl) (ws' := [(al, .inr (8, [.int (mc_ + (nI 1)), .ref (tb 11), .int (nI 0)]))]) rfl dJx4a65c_clear_da8c8_7 (fun H locs hw => ?_)
  refine lv_aload_n hx hb dJx4a65c_clear_da8c8_10 rfl (lv_at hl 0 rfl) ?_
  refine r_get C hw in_Jx4a65c 0 rfl rfl 1 (by decide) lk9 rfl dJx4a65c_clear_da8c8_11 ?_
  refine lv_astore_n (lv' := [(1, .ref (tb 11)), (0, .ref al)]) hx hb dJx4a65c_clear_da8c8_14 rfl hl (by decide) rfl (fun ls hl => ?_)
  refine lv_aload_n hx hb dJx4a65c_clear_da8c8_15 rfl (lv_at hl 1 rfl) ?_
  refine r_get C hw in_Jx4a65c 0 rfl rfl 2 (by decide) lk48 rfl dJx4a65c_clear_da8c8_16 ?_
  refine lv_istore_n (lv' := [(2, .int (nI 0)), (1, .ref (tb 11)), (0, .ref al)]) hx hb dJx4a65c_clear_da8c8_19 rfl hl (by decide) rfl (fun ls hl => ?_)
  refine lv_aload_n hx hb dJx4a65c_clear_da8c8_20 rfl (lv_at hl 2 rfl) ?_
  refine lv_iconst (v := nI 0) hx hb dJx4a65c_clear_da8c8_21 (by decide) ?_
  refine lv_dup_x1 hx hb dJx4a65c_clear_da8c8_22 rfl rfl ?_
  refine r_put C hw in_Jx4a65c tyJx4a65c_ok nmJx4a65c 0 rfl rfl 2 (by decide) lk48 rfl rfl rfl (Nat.le_of_ble_eq_true rfl) (ws' := [(al, .inr (8, [.int (mc_ + (nI 1)), .ref (tb 11), .int (nI 0)]))]) rfl dJx4a65c_clear_da8c8_23 (fun H locs hw => ?_)
  refine lv_istore_n (lv' := [(3, .int (nI 0)), (2, .int (nI 0)), (1, .ref (tb 11)), (0, .ref al)]) hx hb dJx4a65c_clear_da8c8_26 rfl hl (by decide) rfl (fun ls hl => ?_)
  refine lv_iload_n hx hb dJx4a65c_clear_da8c8_27 rfl (lv_at hl 0 rfl) ?_
  refine lv_iload_n hx hb dJx4a65c_clear_da8c8_28 rfl (lv_at hl 1 rfl) ?_
  refine n_cge (tgt := 42) hx hb (by omega) (by omega) dJx4a65c_clear_da8c8_29 (by decide) (fun c_1 => ?_) (fun c_1 => ?_)
  · skip
    exact r_vret C hw (Nat.le_refl _) (Nat.le_refl _) (rfl) dJx4a65c_clear_da8c8_42
  · skip
    exfalso; omega
abbrev rm_c_chk3 : Room := { frames := 0, cells := 0, slots := 0, locals := 0 }
set_option maxHeartbeats 4000000 in
set_option maxRecDepth 100000 in
theorem c_chk3 (l : Launch) (g : GT) (sz : Nat) (i n : Nat) (h1 : i < n) (h2 : n < 2 ^ 31) : CtI l g yJ3_checkIndex_8e157 wsJ3_checkIndex_8e157 rm_c_chk3 [.int (nI i), .int (nI n), .null] [] sz (fun _ => True) (fun rr u => rr = nI i ∧ u = []) (0) (0) := by
  refine ct_body (cc := cJ3_checkIndex_8e157) (nL := 3) (ret := (some .int)) (by decide) rfl (Nat.le_of_ble_eq_true rfl) ?_
  intro p e s m below meth c ls C hin hsz hB hw hl
  obtain ⟨hx, hb, hml, hown, hts, hK, hA, hr, hlk⟩ := id C
  have hl : lv_has ls 3 [(0, .int (nI i)), (1, .int (nI n)), (2, .null)] := hl
  have hw : Wd g (va_A [] sz) s.heap [] s.heap [] := hw
  refine lv_iload_n hx hb dJ3_checkIndex_8e157_0 rfl (lv_at hl 0 rfl) ?_
  refine n_lt0 (tgt := 9) hx hb (by omega) dJ3_checkIndex_8e157_1 (by decide) ?_
  refine lv_iload_n hx hb dJ3_checkIndex_8e157_4 rfl (lv_at hl 0 rfl) ?_
  refine lv_iload_n hx hb dJ3_checkIndex_8e157_5 rfl (lv_at hl 1 rfl) ?_
  refine n_clt (tgt := 16) hx hb (by omega) (by omega) dJ3_checkIndex_8e157_6 (by decide) (fun c_2 => ?_) (fun c_2 => ?_)
  · skip
    refine lv_iload_n hx hb dJ3_checkIndex_8e157_16 rfl (lv_at hl 0 rfl) ?_
    exact r_iret C hw (Nat.le_refl _) (Nat.le_refl _) (⟨rfl, rfl⟩) dJ3_checkIndex_8e157_17
  · skip
    exfalso; omega
abbrev rm_c_chk15 : Room := { frames := 1, cells := 0, slots := 0, locals := 22 }
set_option maxHeartbeats 4000000 in
set_option maxRecDepth 100000 in
theorem c_chk15 (l : Launch) (g : GT) (sz : Nat) (i n : Nat) (h1 : i < n) (h2 : n < 2 ^ 31) : CtI l g yJ15_checkIndex_7cf53 wsJ15_checkIndex_7cf53 rm_c_chk15 [.int (nI i), .int (nI n)] [] sz (fun _ => True) (fun rr u => rr = nI i ∧ u = []) (0) (0) := by
  refine ct_body (cc := cJ15_checkIndex_7cf53) (nL := 2) (ret := (some .int)) (by decide) rfl (Nat.le_of_ble_eq_true rfl) ?_
  intro p e s m below meth c ls C hin hsz hB hw hl
  obtain ⟨hx, hb, hml, hown, hts, hK, hA, hr, hlk⟩ := id C
  have hl : lv_has ls 2 [(0, .int (nI i)), (1, .int (nI n))] := hl
  have hw : Wd g (va_A [] sz) s.heap [] s.heap [] := hw
  refine lv_iload_n hx hb dJ15_checkIndex_7cf53_0 rfl (lv_at hl 0 rfl) ?_
  refine lv_iload_n hx hb dJ15_checkIndex_7cf53_1 rfl (lv_at hl 1 rfl) ?_
  refine lv_null hx hb dJ15_checkIndex_7cf53_2 ?_
  refine k_Si (As := [.int (nI i), .int (nI n), .null]) (rest := []) (wr := []) C hw (c_chk3 l g _ i n h1 h2) (va_cwS 3 hts gJ15_checkIndex_7cf53_J3_checkIndex_8e157 rfl rfl rfl (by decide +kernel) ⟨Nat.le_of_ble_eq_true rfl, Nat.le_of_ble_eq_true rfl⟩) bl_T (fun _ _ _ => trivial) [] [] (by decide) rfl rfl (by decide) (by decide) rfl hl.1 rfl (Nat.le_of_ble_eq_true rfl) dJ15_checkIndex_7cf53_3 ⟨Nat.le_of_ble_eq_true rfl, Nat.le_of_ble_eq_true rfl⟩ (fun r_1 u H locs hp hw => ?_)
  obtain ⟨rfl, rfl⟩ := hp
  have hw := Wd.sub (ws' := []) hw [] (by decide) rfl
  exact r_iret C hw (Nat.le_refl _) (Nat.le_refl _) (⟨rfl, rfl⟩) dJ15_checkIndex_7cf53_6
abbrev rm_c_elementData : Room := { frames := 0, cells := 0, slots := 0, locals := 0 }
set_option maxHeartbeats 4000000 in
set_option maxRecDepth 100000 in
theorem c_elementData (l : Launch) (g : GT) (sz : Nat) (al ed n cap i y : Nat) (mc_ : Int32) (f : Nat → Option Nat) (h1 : i < cap) (h2 : cap < 2 ^ 30) (hy : f i = some y) : CtR l g yJx4a65c_elementData_915e3 wsJx4a65c_elementData_915e3 rm_c_elementData [.ref al, .int (nI i)] [(al, .inr (8, [.int mc_, .ref ed, .int (nI n)])), (ed, aO g cap f)] sz (fun _ => True) (fun rr u => rr = y ∧ u = [(al, .inr (8, [.int mc_, .ref ed, .int (nI n)])), (ed, aO g cap f)]) (0) (0) := by
  refine ct_body (cc := cJx4a65c_elementData_915e3) (nL := 2) (ret := (some (.object "java/lang/Object"))) (by decide) rfl (Nat.le_of_ble_eq_true rfl) ?_
  intro p e s m below meth c ls C hin hsz hB hw hl
  obtain ⟨hx, hb, hml, hown, hts, hK, hA, hr, hlk⟩ := id C
  have lk9 := hts (.fieldLink RJx4a65c 9 "java/util/ArrayList" "elementData" "[Ljava/lang/Object;") (by decide +kernel)
  have in_Jx4a65c : ∀ w ∈ wsJx4a65c0, w ∈ wsJx4a65c_elementData_915e3 := by unfold wsJx4a65c_elementData_915e3; intro w h; simp only [List.mem_cons, List.mem_append, h, or_true, true_or]
  have hl : lv_has ls 2 [(0, .ref al), (1, .int (nI i))] := hl
  have hw : Wd g (va_A [(al, .inr (8, [.int mc_, .ref ed, .int (nI n)])), (ed, aO g cap f)] sz) s.heap [(al, .inr (8, [.int mc_, .ref ed, .int (nI n)])), (ed, aO g cap f)] s.heap [] := hw
  refine lv_aload_n hx hb dJx4a65c_elementData_915e3_0 rfl (lv_at hl 0 rfl) ?_
  refine r_get C hw in_Jx4a65c 0 rfl rfl 1 (by decide) lk9 rfl dJx4a65c_elementData_915e3_1 ?_
  refine lv_iload_n hx hb dJx4a65c_elementData_915e3_4 rfl (lv_at hl 1 rfl) ?_
  refine r_aldO C hw 1 rfl (by omega) (by omega) (hy) dJx4a65c_elementData_915e3_5 ?_
  exact r_aret (Post := fun rr u => rr = y ∧ u = [(al, .inr (8, [.int mc_, .ref ed, .int (nI n)])), (ed, aO g cap f)]) C hw (Or.inl ⟨_, rfl⟩) (Nat.le_refl _) (Nat.le_refl _) (⟨rfl, rfl⟩) dJx4a65c_elementData_915e3_6
abbrev rm_c_alGet : Room := { frames := 2, cells := 0, slots := 0, locals := 43 }
set_option maxHeartbeats 4000000 in
set_option maxRecDepth 100000 in
theorem c_alGet (l : Launch) (g : GT) (sz : Nat) (al ed n cap i y : Nat) (mc_ : Int32) (f : Nat → Option Nat) (h1 : i < cap) (h2 : cap < 2 ^ 30) (h3 : i < n) (h4 : n ≤ cap) (hy : f i = some y) : CtR l g yJx4a65c_get_915e3 wsJx4a65c_get_915e3 rm_c_alGet [.ref al, .int (nI i)] [(al, .inr (8, [.int mc_, .ref ed, .int (nI n)])), (ed, aO g cap f)] sz (fun _ => True) (fun rr u => rr = y ∧ u = [(al, .inr (8, [.int mc_, .ref ed, .int (nI n)])), (ed, aO g cap f)]) (0) (0) := by
  refine ct_body (cc := cJx4a65c_get_915e3) (nL := 2) (ret := (some (.object "java/lang/Object"))) (by decide) rfl (Nat.le_of_ble_eq_true rfl) ?_
  intro p e s m below meth c ls C hin hsz hB hw hl
  obtain ⟨hx, hb, hml, hown, hts, hK, hA, hr, hlk⟩ := id C
  have lk48 := hts (.fieldLink RJx4a65c 48 "java/util/ArrayList" "size" "I") (by decide +kernel)
  have in_Jx4a65c : ∀ w ∈ wsJx4a65c0, w ∈ wsJx4a65c_get_915e3 := by unfold wsJx4a65c_get_915e3; intro w h; simp only [List.mem_cons, List.mem_append, h, or_true, true_or]
  have hl : lv_has ls 2 [(0, .ref al), (1, .int (nI i))] := hl
  have hw : Wd g (va_A [(al, .inr (8, [.int mc_, .ref ed, .int (nI n)])), (ed, aO g cap f)] sz) s.heap [(al, .inr (8, [.int mc_, .ref ed, .int (nI n)])), (ed, aO g cap f)] s.heap [] := hw
  refine lv_iload_n hx hb dJx4a65c_get_915e3_0 rfl (lv_at hl 1 rfl) ?_
  refine lv_aload_n hx hb dJx4a65c_get_915e3_1 rfl (lv_at hl 0 rfl) ?_
  refine r_get C hw in_Jx4a65c 0 rfl rfl 2 (by decide) lk48 rfl dJx4a65c_get_915e3_2 ?_
  refine k_Si (As := [.int (nI i), .int (nI n)]) (rest := []) (wr := [(al, .inr (8, [.int mc_, .ref ed, .int (nI n)])), (ed, aO g cap f)]) C hw (c_chk15 l g _ i n h3 (by omega)) (va_cwS 2 hts gJx4a65c_get_915e3_J15_checkIndex_7cf53 rfl rfl rfl (by decide +kernel) ⟨Nat.le_of_ble_eq_true rfl, Nat.le_of_ble_eq_true rfl⟩) bl_T (fun _ _ _ => trivial) [] [0, 1] (by decide) rfl rfl (by decide) (by decide) rfl hl.1 rfl (Nat.le_of_ble_eq_true rfl) dJx4a65c_get_915e3_5 ⟨Nat.le_of_ble_eq_true rfl, Nat.le_of_ble_eq_true rfl⟩ (fun r_1 u H locs hp hw => ?_)
  obtain ⟨rfl, rfl⟩ := hp
  have hw := Wd.sub (ws' := [(al, .inr (8, [.int mc_, .ref ed, .int (nI n)])), (ed, aO g cap f)]) hw [0, 1] (by decide) rfl
  refine lv_pop hx hb dJx4a65c_get_915e3_8 rfl ?_
  refine lv_aload_n hx hb dJx4a65c_get_915e3_9 rfl (lv_at hl 0 rfl) ?_
  refine lv_iload_n hx hb dJx4a65c_get_915e3_10 rfl (lv_at hl 1 rfl) ?_
  refine k_Vr (As := [.int (nI i)]) (rest := []) (wr := []) C hw (c_elementData l g _ al ed n cap i y mc_ f h1 h2 hy) (cwV 1 hts gJx4a65c_get_915e3_Jx4a65c_elementData_915e3 rfl rfl rfl (by decide +kernel) ⟨Nat.le_of_ble_eq_true rfl, Nat.le_of_ble_eq_true rfl⟩) bl_T (fun _ _ _ => trivial) [0, 1] [] (by decide) rfl rfl (by decide) (by decide) 0 rfl rfl rfl hl.1 rfl (Nat.le_of_ble_eq_true rfl) dJx4a65c_get_915e3_11 ⟨Nat.le_of_ble_eq_true rfl, Nat.le_of_ble_eq_true rfl⟩ (fun r_2 u H locs hp hw => ?_)
  obtain ⟨hr_, rfl⟩ := hp
  rw [hr_]
  have hw := Wd.sub (ws' := [(al, .inr (8, [.int mc_, .ref ed, .int (nI n)])), (ed, aO g cap f)]) hw [0, 1] (by decide) rfl
  exact r_aret (Post := fun rr u => rr = y ∧ u = [(al, .inr (8, [.int mc_, .ref ed, .int (nI n)])), (ed, aO g cap f)]) C hw (Or.inl ⟨_, rfl⟩) (Nat.le_refl _) (Nat.le_refl _) (⟨rfl, rfl⟩) dJx4a65c_get_915e3_14
abbrev rm_c_newLength : Room := { frames := 1, cells := 0, slots := 0, locals := 14 }
set_option maxHeartbeats 4000000 in
set_option maxRecDepth 100000 in
theorem c_newLength (l : Launch) (g : GT) (sz : Nat) (a b c_ : Nat) (h1 : a < 2 ^ 29) (h2 : b < 2 ^ 29) (h3 : c_ < 2 ^ 29) (h4 : 0 < a + max b c_) : CtI l g yJ8_newLength_cabcc wsJ8_newLength_cabcc rm_c_newLength [.int (nI a), .int (nI b), .int (nI c_)] [] sz (fun _ => True) (fun rr u => rr = nI (a + max b c_) ∧ u = []) (0) (0) := by
  refine ct_body (cc := cJ8_newLength_cabcc) (nL := 4) (ret := (some .int)) (by decide) rfl (Nat.le_of_ble_eq_true rfl) ?_
  intro p e s m below meth c ls C hin hsz hB hw hl
  obtain ⟨hx, hb, hml, hown, hts, hK, hA, hr, hlk⟩ := id C
  have hl : lv_has ls 4 [(0, .int (nI a)), (1, .int (nI b)), (2, .int (nI c_))] := hl
  have hw : Wd g (va_A [] sz) s.heap [] s.heap [] := hw
  refine lv_iload_n hx hb dJ8_newLength_cabcc_0 rfl (lv_at hl 0 rfl) ?_
  refine lv_iload_n hx hb dJ8_newLength_cabcc_1 rfl (lv_at hl 1 rfl) ?_
  refine lv_iload_n hx hb dJ8_newLength_cabcc_2 rfl (lv_at hl 2 rfl) ?_
  refine va_mmax hx hb (hml.trans hl.1.symm) hown (hts (.methodLink RJ8 194 Lib.Math.max.name) (by decide +kernel)) (hts (.static Lib.Math.max.name) (by decide +kernel)) (hts (.initialized "java/lang/Math") (by decide +kernel)) (hts (.code Lib.Math.max.name Lib.Math.max.code 2 (some .int)) (by decide +kernel)) (Nat.le_of_ble_eq_true rfl) (Nat.le_of_ble_eq_true rfl) (Nat.le_of_ble_eq_true rfl) (Nat.le_of_ble_eq_true rfl) dJ8_newLength_cabcc_3 ?_
  refine tp1 (max_nI (by omega) (by omega)) ?_
  refine n_add hx hb dJ8_newLength_cabcc_6 ?_
  refine lv_istore_n (lv' := [(3, .int (nI (a + (max b c_)))), (0, .int (nI a)), (1, .int (nI b)), (2, .int (nI c_))]) hx hb dJ8_newLength_cabcc_7 rfl hl (by decide) rfl (fun ls hl => ?_)
  refine lv_iconst (v := nI 0) hx hb dJ8_newLength_cabcc_8 (by decide) ?_
  refine lv_iload_n hx hb dJ8_newLength_cabcc_9 rfl (lv_at hl 0 rfl) ?_
  refine n_cge (tgt := 21) hx hb (by omega) (by omega) dJ8_newLength_cabcc_10 (by decide) (fun c_1 => ?_) (fun c_1 => ?_)
  · skip
    exfalso; omega
  · skip
    refine lv_iload_n hx hb dJ8_newLength_cabcc_13 rfl (lv_at hl 0 rfl) ?_
    refine lv_ldc (v := nI 2147483639) hx hb hown (hts (.constant RJ8 200 (2147483639)) (by decide +kernel)) dJ8_newLength_cabcc_14 ?_
    refine n_cgt (tgt := 21) hx hb (by omega) (by omega) dJ8_newLength_cabcc_16 (by decide) (fun c_2 => ?_) (fun c_2 => ?_)
    · skip
      exfalso; omega
    · skip
      refine lv_iload_n hx hb dJ8_newLength_cabcc_19 rfl (lv_at hl 0 rfl) ?_
      exact r_iret C hw (Nat.le_refl _) (Nat.le_refl _) (⟨rfl, rfl⟩) dJ8_newLength_cabcc_20
