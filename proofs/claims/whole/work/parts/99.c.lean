theorem t21_eq : (fun j => if j < 14 then nI (tN 0 (j + 1)) else 0) = fun j => nI (tN 0 (j + 1)) := by
  funext j
  by_cases h : j < 14
  · rw [if_pos h]
  · rw [if_neg h]
    have e : tN 0 (j + 1) = 0 := by
      show ((tab 0).getD (j + 1) 0).toNat = 0
      rw [List.getD_eq_getElem?_getD, List.getElem?_eq_none (by show 15 ≤ j + 1; omega)]
      rfl
    rw [e, nI_0]
theorem t22_eq : (fun j => if j < 33 then nI (tN 9 j) else 0) = fun j => nI (tN 9 j) := by
  funext j
  by_cases h : j < 33
  · rw [if_pos h]
  · rw [if_neg h]
    have e : tN 9 j = 0 := by
      show ((tab 9).getD j 0).toNat = 0
      rw [List.getD_eq_getElem?_getD, List.getElem?_eq_none (by show 33 ≤ j; omega)]
      rfl
    rw [e, nI_0]
theorem t23_eq : (fun j => if j < 257 then sV 10 j else 0) = fun j => sV 10 j := by
  funext j
  by_cases h : j < 257
  · rw [if_pos h]
  · rw [if_neg h]
    show 0 = Int32.ofInt ((tab 10).getD j 0)
    have hlen : (tab 10).length = 257 := by decide +kernel
    rw [List.getD_eq_getElem?_getD, List.getElem?_eq_none (by omega)]
    rfl
set_option maxHeartbeats 4000000 in
set_option maxRecDepth 100000 in
theorem whole_start {p : Program} {e : Env} {s : State} {m : MethodId} {below : List Frame} {meth : Method} {c : Code} (l : Launch) {b L : Nat} {xs : Nat → Int32} (hL : L ≤ 3072) (C0 : lw_At p s m meth c b L xs) : W p l e room_1 s m #[Value.ref b] below meth c s.heap [] 0 0 (lw_Z below #[Value.ref b] s) (entryFrame m ([Value.ref b] : List Value).toArray 4) := by
  obtain ⟨hx, hb, hr, hml, hown, hts, hX, hbl, hlocks, hgv⟩ := id C0
  obtain ⟨tb, hSx⟩ := sx_start hts hgv
  obtain ⟨g, hK, hOv⟩ := k_start hts
  have C : Cx p s m #[Value.ref b] meth c code 4 ret wsL_law RL g (aS s) := ⟨hx, hb, hml, hown, fun w h => hts w (wsL_law_in w h), hK, fun _ h => h, hr, hlocks⟩
  have hts : ∀ w ∈ wsL_law, w.before #[Value.ref b] s = true := C.2.2.2.2.1
  have hw : Wd g (aS s) s.heap [] s.heap [] := ⟨fun k q h => by simp at h, ⟨fun i j p q h => by simp at h, fun k q h => by simp at h⟩, va_S.rf⟩
  have hl := lv_entry ([.ref b]) (n := 4) (Nat.le_of_ble_eq_true rfl)
  rw [lg_entry_eq]
  generalize (lg_sl ([.ref b]) ++ List.replicate (4 - (lg_sl ([.ref b])).length) Slot.unset).toArray = ls at hl ⊢
  have hl : lv_has ls 4 [(0, .ref b)] := hl
  refine r_new (ci := 6) C hw inlX6 tyX6_ok (hts (.classLink RL 7 RX6) (by decide +kernel)) (hts (.instantiable RX6 10) (by decide +kernel)) (hts (.initialized RX6) (by decide +kernel)) rfl [.null, .int (nI 0), .int (nI 0), .null, .int (nI 0), .null, .null, .null, .null, .null] (fun j hj => by rcases (show j = 0 ∨ j = 1 ∨ j = 2 ∨ j = 3 ∨ j = 4 ∨ j = 5 ∨ j = 6 ∨ j = 7 ∨ j = 8 ∨ j = 9 by omega) with rfl | rfl | rfl | rfl | rfl | rfl | rfl | rfl | rfl | rfl <;> rfl) (Nat.le_of_ble_eq_true rfl) (Nat.le_of_ble_eq_true rfl) dL_law_0 (fun sb H hw => ?_)
  refine lv_dup hx hb dL_law_3 rfl ?_
  have hw : Wd g (aS s) s.heap ([(sb, .inr (6, [.null, .int (nI 0), .int (nI 0), .null, .int (nI 0), .null, .null, .null, .null, .null]))] ++ []) H _ := hw
  refine kP_Iv (As := []) (rest := [.ref sb]) (w := [(sb, .inr (6, [.null, .int (nI 0), .int (nI 0), .null, .int (nI 0), .null, .null, .null, .null, .null]))]) (wr := []) C hw (c_sb0 l g H.size tb sb) (cwI 0 hts gL_law_X6_init rfl rfl rfl (hts (.initialized RX6) (by decide +kernel)) (hts (.methodLink RL 9 yX6_init) (by decide +kernel)) (hts (.instanceMethod yX6_init) (by decide +kernel)) rfl (by decide +kernel) ⟨Nat.le_of_ble_eq_true rfl, Nat.le_of_ble_eq_true rfl⟩) sx_bl (sx_callP C hw hSx) rfl hl.1 rfl (Nat.le_of_ble_eq_true rfl) dL_law_4 ⟨Nat.le_of_ble_eq_true rfl, Nat.le_of_ble_eq_true rfl⟩ (fun u H locs hp hw => ?_)
  obtain ⟨tp, al, r, o, sl, co_, k, ks, kf, km, k2, ks2, kf2, km2, wv, wc, ww, v, nu, su, sa, v2, nu2, su2, sb2, tq, hu⟩ := hp
  have hE := comp_init tb g sb tp al r o sl co_ k ks kf km k2 ks2 kf2 km2 wv wc ww v nu su sa v2 nu2 su2 sb2 tq
  rw [← hu] at hE
  rw [List.append_nil] at hw
  refine lv_astore_n (lv' := [(1, .ref sb), (0, .ref b)]) hx hb dL_law_7 rfl hl (by decide) rfl (fun ls hl => ?_)
  refine r_new (ci := 7) C hw inlX7 tyX7_ok (hts (.classLink RL 10 RX7) (by decide +kernel)) (hts (.instantiable RX7 40) (by decide +kernel)) (hts (.initialized RX7) (by decide +kernel)) rfl (.int (nI 0) :: .null :: .int (nI 0) :: .int (nI 0) :: .null :: .int (nI 0) :: .int (nI 0) :: .null :: .null :: .null :: .int (nI 0) :: .int (nI 0) :: .int (nI 0) :: .null :: .null :: .null :: .null :: .null :: .null :: .null :: .null :: .null :: .null :: .null :: .int (nI 0) :: .int (nI 0) :: .int (nI 0) :: .int (nI 0) :: .int (nI 0) :: .int (nI 0) :: .int (nI 0) :: .int (nI 0) :: .int (nI 0) :: .int (nI 0) :: .int (nI 0) :: .int (nI 0) :: .int (nI 0) :: .int (nI 0) :: .int (nI 0) :: .int (nI 0) :: []) (fun j hj => by rcases (show j = 0 ∨ j = 1 ∨ j = 2 ∨ j = 3 ∨ j = 4 ∨ j = 5 ∨ j = 6 ∨ j = 7 ∨ j = 8 ∨ j = 9 ∨ j = 10 ∨ j = 11 ∨ j = 12 ∨ j = 13 ∨ j = 14 ∨ j = 15 ∨ j = 16 ∨ j = 17 ∨ j = 18 ∨ j = 19 ∨ j = 20 ∨ j = 21 ∨ j = 22 ∨ j = 23 ∨ j = 24 ∨ j = 25 ∨ j = 26 ∨ j = 27 ∨ j = 28 ∨ j = 29 ∨ j = 30 ∨ j = 31 ∨ j = 32 ∨ j = 33 ∨ j = 34 ∨ j = 35 ∨ j = 36 ∨ j = 37 ∨ j = 38 ∨ j = 39 by omega) with rfl | rfl | rfl | rfl | rfl | rfl | rfl | rfl | rfl | rfl | rfl | rfl | rfl | rfl | rfl | rfl | rfl | rfl | rfl | rfl | rfl | rfl | rfl | rfl | rfl | rfl | rfl | rfl | rfl | rfl | rfl | rfl | rfl | rfl | rfl | rfl | rfl | rfl | rfl | rfl <;> rfl) (Nat.le_of_ble_eq_true rfl) (Nat.le_of_ble_eq_true rfl) dL_law_8 (fun mo H hw => ?_)
  refine lv_dup hx hb dL_law_11 rfl ?_
  have hw : Wd g (aS s) s.heap (([(mo, .inr (7, (.int (nI 0) :: .null :: .int (nI 0) :: .int (nI 0) :: .null :: .int (nI 0) :: .int (nI 0) :: .null :: .null :: .null :: .int (nI 0) :: .int (nI 0) :: .int (nI 0) :: .null :: .null :: .null :: .null :: .null :: .null :: .null :: .null :: .null :: .null :: .null :: .int (nI 0) :: .int (nI 0) :: .int (nI 0) :: .int (nI 0) :: .int (nI 0) :: .int (nI 0) :: .int (nI 0) :: .int (nI 0) :: .int (nI 0) :: .int (nI 0) :: .int (nI 0) :: .int (nI 0) :: .int (nI 0) :: .int (nI 0) :: .int (nI 0) :: .int (nI 0) :: [])))] ++ []) ++ u) H locs := by rw [List.append_nil]; exact hw.comm
  refine kP_Iv (As := []) (rest := [.ref mo]) (w := [(mo, .inr (7, (.int (nI 0) :: .null :: .int (nI 0) :: .int (nI 0) :: .null :: .int (nI 0) :: .int (nI 0) :: .null :: .null :: .null :: .int (nI 0) :: .int (nI 0) :: .int (nI 0) :: .null :: .null :: .null :: .null :: .null :: .null :: .null :: .null :: .null :: .null :: .null :: .int (nI 0) :: .int (nI 0) :: .int (nI 0) :: .int (nI 0) :: .int (nI 0) :: .int (nI 0) :: .int (nI 0) :: .int (nI 0) :: .int (nI 0) :: .int (nI 0) :: .int (nI 0) :: .int (nI 0) :: .int (nI 0) :: .int (nI 0) :: .int (nI 0) :: .int (nI 0) :: [])))] ++ []) (wr := u) C hw (c_init7 l g H.size mo) (cwI 0 hts gL_law_X7_init rfl rfl rfl (hts (.initialized RX7) (by decide +kernel)) (hts (.methodLink RL 12 yX7_init) (by decide +kernel)) (hts (.instanceMethod yX7_init) (by decide +kernel)) rfl (by decide +kernel) ⟨Nat.le_of_ble_eq_true rfl, Nat.le_of_ble_eq_true rfl⟩) ovb_bl (fun U _ hW => hOv.warm hW) rfl hl.1 rfl (Nat.le_of_ble_eq_true rfl) dL_law_12 ⟨Nat.le_of_ble_eq_true rfl, Nat.le_of_ble_eq_true rfl⟩ (fun u2 H locs hp hw => ?_)
  obtain ⟨a, ra, qa, hu2⟩ := hp
  have hF := ref_init g mo a ra qa (fB := fun _ => 0) (fP := fun _ => 0) (f21 := fun j => if j < 14 then nI (tN 0 (j + 1)) else 0) (f22 := fun j => if j < 33 then nI (tN 9 j) else 0) (f23 := fun j => if j < 257 then sV 10 j else 0) (z := fun _ _ => 0) (funext fun _ => (show (0 : Int32) = nB 0 from by decide +kernel)) (funext fun _ => nI_0.symm) t21_eq t22_eq t23_eq (funext fun _ => funext fun _ => nI_0.symm)
  rw [← hu2] at hF
  refine lv_astore_n (lv' := [(2, .ref mo), (1, .ref sb), (0, .ref b)]) hx hb dL_law_15 rfl hl (by decide) rfl (fun ls hl => ?_)
  refine lv_iconst (v := nI 0) hx hb dL_law_16 (by decide) ?_
  refine lv_istore_n (lv' := [(3, .int (nI 0)), (2, .ref mo), (1, .ref sb), (0, .ref b)]) hx hb dL_law_17 rfl hl (by decide) rfl (fun ls hl => ?_)
  refine W.widen (k := 600 + 160 * 0) (n := 130000 + 480 * 0 + Phi (0, 0, 0)) (Nat.le_of_ble_eq_true rfl) (Nat.le_of_ble_eq_true rfl) ?_
  exact law_loop l hL C hX hbl hSx 512 0 _ _ _ _ u u2 H locs ls rfl hE hF hw.comm (lv_sub hl [3, 2, 1, 0] rfl)
