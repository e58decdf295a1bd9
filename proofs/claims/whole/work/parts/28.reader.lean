abbrev rm_c_takeAllocations : Room := { frames := 3, cells := 0, slots := 0, locals := 68 }
set_option maxHeartbeats 4000000 in
set_option maxRecDepth 100000 in
theorem c_takeAllocations (l : Launch) (g : GT) (sz : Nat) (tb : Nat → Nat) (r o sl co_ tp n fb lim : Nat) (T : Nat → Nat) (f k ks kf km kc kr : Nat) (st ly ck rt sp byt md ch bn ft bd oc : Nat) (x0 : Nat × Nat × Nat × (Nat → Nat)) (hT : ∀ j, T j < 256) (hn : n < 2 ^ 27) (hl1 : 8 * fb + lim ≤ 8 * n) (hj : jA lim x0) (h1 : bn ≤ 32) (h2 : ft ≤ 1) (h3 : ly < 2 ^ 31) (h4 : ch ≤ 2) (h5 : bd ≤ 32) : CtV l g yX3_takeAllocations wsX3_takeAllocations rm_c_takeAllocations [.ref r, .ref f, .ref k] [(r, .inr (3, [.ref o, .ref sl, .ref co_, .int (nI x0.2.2.1)])), (o, .inr (0, [.ref tp, .int (nI fb), .int (nI lim), .int (nI x0.1), .int (nI x0.2.1)])), (tp, aI g n (fun j => nI (T j))), (f, .inr (2, [.int (nI st), .int (nI ly), .int (nI ck), .int (nI rt), .int (nI sp), .int (nI byt), .int (nI md), .int (nI ch), .int (nI bn), .int (nI ft), .int (nI bd), .int (nI oc)])), (k, .inr (1, [.int (nI kc), .int (nI kr), .ref ks, .ref kf, .ref km])), (ks, aI g 64 (fun j => nI (x0.2.2.2 j)))] sz (fun U => Sx tb (va_A [(r, .inr (3, [.ref o, .ref sl, .ref co_, .int (nI x0.2.2.1)])), (o, .inr (0, [.ref tp, .int (nI fb), .int (nI lim), .int (nI x0.1), .int (nI x0.2.1)])), (tp, aI g n (fun j => nI (T j))), (f, .inr (2, [.int (nI st), .int (nI ly), .int (nI ck), .int (nI rt), .int (nI sp), .int (nI byt), .int (nI md), .int (nI ch), .int (nI bn), .int (nI ft), .int (nI bd), .int (nI oc)])), (k, .inr (1, [.int (nI kc), .int (nI kr), .ref ks, .ref kf, .ref km])), (ks, aI g 64 (fun j => nI (x0.2.2.2 j)))] sz) U U.heap) (fun u => u = [(r, .inr (3, [.ref o, .ref sl, .ref co_, .int (nI ((lp (alB T (8 * fb) lim ly ft ch bd) bn x0).2.2.1))])), (o, .inr (0, [.ref tp, .int (nI fb), .int (nI lim), .int (nI ((lp (alB T (8 * fb) lim ly ft ch bd) bn x0).1)), .int (nI ((lp (alB T (8 * fb) lim ly ft ch bd) bn x0).2.1))])), (tp, aI g n (fun j => nI (T j))), (f, .inr (2, [.int (nI st), .int (nI ly), .int (nI ck), .int (nI rt), .int (nI sp), .int (nI byt), .int (nI md), .int (nI ch), .int (nI bn), .int (nI ft), .int (nI bd), .int (nI oc)])), (k, .inr (1, [.int (nI kc), .int (nI kr), .ref ks, .ref kf, .ref km])), (ks, aI g 64 (fun j => nI ((lp (alB T (8 * fb) lim ly ft ch bd) bn x0).2.2.2 j)))]) (0) (0) := by
  refine ct_body (cc := cX3_takeAllocations) (nL := 8) (ret := none) (by decide) rfl (Nat.le_of_ble_eq_true rfl) ?_
  intro p e s m below meth c ls C hin hsz hB hw hl
  obtain ⟨hx, hb, hml, hown, hts, hK, hA, hr, hlk⟩ := id C
  have lk42 := hts (.fieldLink RX3 42 "SoundBench$Frame" "channels" "I") (by decide +kernel)
  have lk85 := hts (.fieldLink RX3 85 "SoundBench$Frame" "bands" "I") (by decide +kernel)
  have lk95 := hts (.fieldLink RX3 95 "SoundBench$Content" "steps" "[I") (by decide +kernel)
  have in_X2 : ∀ w ∈ wsX20, w ∈ wsX3_takeAllocations := by unfold wsX3_takeAllocations; intro w h; simp only [List.mem_cons, List.mem_append, h, or_true, true_or]
  have in_X1 : ∀ w ∈ wsX10, w ∈ wsX3_takeAllocations := by unfold wsX3_takeAllocations; intro w h; simp only [List.mem_cons, List.mem_append, h, or_true, true_or]
  have hl : lv_has ls 8 [(0, .ref r), (1, .ref f), (2, .ref k)] := hl
  have hw : Wd g (va_A [(r, .inr (3, [.ref o, .ref sl, .ref co_, .int (nI x0.2.2.1)])), (o, .inr (0, [.ref tp, .int (nI fb), .int (nI lim), .int (nI x0.1), .int (nI x0.2.1)])), (tp, aI g n (fun j => nI (T j))), (f, .inr (2, [.int (nI st), .int (nI ly), .int (nI ck), .int (nI rt), .int (nI sp), .int (nI byt), .int (nI md), .int (nI ch), .int (nI bn), .int (nI ft), .int (nI bd), .int (nI oc)])), (k, .inr (1, [.int (nI kc), .int (nI kr), .ref ks, .ref kf, .ref km])), (ks, aI g 64 (fun j => nI (x0.2.2.2 j)))] sz) s.heap [(r, .inr (3, [.ref o, .ref sl, .ref co_, .int (nI x0.2.2.1)])), (o, .inr (0, [.ref tp, .int (nI fb), .int (nI lim), .int (nI x0.1), .int (nI x0.2.1)])), (tp, aI g n (fun j => nI (T j))), (f, .inr (2, [.int (nI st), .int (nI ly), .int (nI ck), .int (nI rt), .int (nI sp), .int (nI byt), .int (nI md), .int (nI ch), .int (nI bn), .int (nI ft), .int (nI bd), .int (nI oc)])), (k, .inr (1, [.int (nI kc), .int (nI kr), .ref ks, .ref kf, .ref km])), (ks, aI g 64 (fun j => nI (x0.2.2.2 j)))] s.heap [] := hw
  refine lv_iconst (v := nI 0) hx hb dX3_takeAllocations_0 (by decide) ?_
  refine lv_istore_n (lv' := [(3, .int (nI 0)), (0, .ref r), (1, .ref f), (2, .ref k)]) hx hb dX3_takeAllocations_1 rfl hl (by decide) rfl (fun ls hl => ?_)
  refine lps (σ := Nat × Nat × Nat × (Nat → Nat)) (alB T (8 * fb) lim ly ft ch bd) (fun i x => jA lim (x.1, x.2.1, x.2.2.1, x.2.2.2)) (fun i x H locs ls => Wd g (va_A [(r, .inr (3, [.ref o, .ref sl, .ref co_, .int (nI x0.2.2.1)])), (o, .inr (0, [.ref tp, .int (nI fb), .int (nI lim), .int (nI x0.1), .int (nI x0.2.1)])), (tp, aI g n (fun j => nI (T j))), (f, .inr (2, [.int (nI st), .int (nI ly), .int (nI ck), .int (nI rt), .int (nI sp), .int (nI byt), .int (nI md), .int (nI ch), .int (nI bn), .int (nI ft), .int (nI bd), .int (nI oc)])), (k, .inr (1, [.int (nI kc), .int (nI kr), .ref ks, .ref kf, .ref km])), (ks, aI g 64 (fun j => nI (x0.2.2.2 j)))] sz) s.heap [(r, .inr (3, [.ref o, .ref sl, .ref co_, .int (nI x.2.2.1)])), (o, .inr (0, [.ref tp, .int (nI fb), .int (nI lim), .int (nI x.1), .int (nI x.2.1)])), (tp, aI g n (fun j => nI (T j))), (f, .inr (2, [.int (nI st), .int (nI ly), .int (nI ck), .int (nI rt), .int (nI sp), .int (nI byt), .int (nI md), .int (nI ch), .int (nI bn), .int (nI ft), .int (nI bd), .int (nI oc)])), (k, .inr (1, [.int (nI kc), .int (nI kr), .ref ks, .ref kf, .ref km])), (ks, aI g 64 (fun j => nI (x.2.2.2 j)))] H locs ∧ lv_has ls 8 [(0, .ref r), (1, .ref f), (2, .ref k), (3, .int (nI i))]) (bn) (x0) ?_ ?_ (hj) ⟨hw, (lv_sub hl [1, 2, 3, 0] rfl)⟩
  · intro x hJ hx_ H locs ls hI
    subst hx_
    obtain ⟨hw, hl⟩ := hI
    have hw : Wd g (va_A [(r, .inr (3, [.ref o, .ref sl, .ref co_, .int (nI x0.2.2.1)])), (o, .inr (0, [.ref tp, .int (nI fb), .int (nI lim), .int (nI x0.1), .int (nI x0.2.1)])), (tp, aI g n (fun j => nI (T j))), (f, .inr (2, [.int (nI st), .int (nI ly), .int (nI ck), .int (nI rt), .int (nI sp), .int (nI byt), .int (nI md), .int (nI ch), .int (nI bn), .int (nI ft), .int (nI bd), .int (nI oc)])), (k, .inr (1, [.int (nI kc), .int (nI kr), .ref ks, .ref kf, .ref km])), (ks, aI g 64 (fun j => nI (x0.2.2.2 j)))] sz) s.heap [(r, .inr (3, [.ref o, .ref sl, .ref co_, .int (nI ((lp (alB T (8 * fb) lim ly ft ch bd) bn x0).2.2.1))])), (o, .inr (0, [.ref tp, .int (nI fb), .int (nI lim), .int (nI ((lp (alB T (8 * fb) lim ly ft ch bd) bn x0).1)), .int (nI ((lp (alB T (8 * fb) lim ly ft ch bd) bn x0).2.1))])), (tp, aI g n (fun j => nI (T j))), (f, .inr (2, [.int (nI st), .int (nI ly), .int (nI ck), .int (nI rt), .int (nI sp), .int (nI byt), .int (nI md), .int (nI ch), .int (nI bn), .int (nI ft), .int (nI bd), .int (nI oc)])), (k, .inr (1, [.int (nI kc), .int (nI kr), .ref ks, .ref kf, .ref km])), (ks, aI g 64 (fun j => nI ((lp (alB T (8 * fb) lim ly ft ch bd) bn x0).2.2.2 j)))] H locs := hw
    have hl : lv_has ls 8 [(0, .ref r), (1, .ref f), (2, .ref k), (3, .int (nI bn))] := hl
    refine lv_iload_n hx hb dX3_takeAllocations_2 rfl (lv_at hl 3 rfl) ?_
    refine lv_aload_n hx hb dX3_takeAllocations_3 rfl (lv_at hl 1 rfl) ?_
    refine r_get C hw in_X2 3 rfl rfl 8 (by decide) lk85 rfl dX3_takeAllocations_4 ?_
    refine n_cge (tgt := 79) hx hb (by omega) (by omega) dX3_takeAllocations_7 (by decide) (fun c_1 => ?_) (fun c_1 => ?_)
    · skip
      exact r_vret C hw (Nat.le_refl _) (Nat.le_refl _) (rfl) dX3_takeAllocations_79
    · skip
      exfalso; omega
  · intro i x hi hJ hxe H locs ls hI K
    obtain ⟨pa, ba, da, sa⟩ := x
    obtain ⟨hw, hl⟩ := hI
    dsimp only at hJ
    have hw : Wd g (va_A [(r, .inr (3, [.ref o, .ref sl, .ref co_, .int (nI x0.2.2.1)])), (o, .inr (0, [.ref tp, .int (nI fb), .int (nI lim), .int (nI x0.1), .int (nI x0.2.1)])), (tp, aI g n (fun j => nI (T j))), (f, .inr (2, [.int (nI st), .int (nI ly), .int (nI ck), .int (nI rt), .int (nI sp), .int (nI byt), .int (nI md), .int (nI ch), .int (nI bn), .int (nI ft), .int (nI bd), .int (nI oc)])), (k, .inr (1, [.int (nI kc), .int (nI kr), .ref ks, .ref kf, .ref km])), (ks, aI g 64 (fun j => nI (x0.2.2.2 j)))] sz) s.heap [(r, .inr (3, [.ref o, .ref sl, .ref co_, .int (nI da)])), (o, .inr (0, [.ref tp, .int (nI fb), .int (nI lim), .int (nI pa), .int (nI ba)])), (tp, aI g n (fun j => nI (T j))), (f, .inr (2, [.int (nI st), .int (nI ly), .int (nI ck), .int (nI rt), .int (nI sp), .int (nI byt), .int (nI md), .int (nI ch), .int (nI bn), .int (nI ft), .int (nI bd), .int (nI oc)])), (k, .inr (1, [.int (nI kc), .int (nI kr), .ref ks, .ref kf, .ref km])), (ks, aI g 64 (fun j => nI (sa j)))] H locs := hw
    have hl : lv_has ls 8 [(0, .ref r), (1, .ref f), (2, .ref k), (3, .int (nI i))] := hl
    have hc1 : (if i < bd then ch else 1) ≤ 2 := by split <;> omega
    refine lv_iload_n hx hb dX3_takeAllocations_2 rfl (lv_at hl 3 rfl) ?_
    refine lv_aload_n hx hb dX3_takeAllocations_3 rfl (lv_at hl 1 rfl) ?_
    refine r_get C hw in_X2 3 rfl rfl 8 (by decide) lk85 rfl dX3_takeAllocations_4 ?_
    refine n_cge (tgt := 79) hx hb (by omega) (by omega) dX3_takeAllocations_7 (by decide) (fun c_2 => ?_) (fun c_2 => ?_)
    · skip
      exfalso; omega
    · skip
      refine lv_aload_n hx hb dX3_takeAllocations_10 rfl (lv_at hl 1 rfl) ?_
      refine lv_iload_n hx hb dX3_takeAllocations_11 rfl (lv_at hl 3 rfl) ?_
      refine k_Vi (As := [.int (nI i)]) (rest := []) (wr := [(r, .inr (3, [.ref o, .ref sl, .ref co_, .int (nI da)])), (o, .inr (0, [.ref tp, .int (nI fb), .int (nI lim), .int (nI pa), .int (nI ba)])), (tp, aI g n (fun j => nI (T j))), (k, .inr (1, [.int (nI kc), .int (nI kr), .ref ks, .ref kf, .ref km])), (ks, aI g 64 (fun j => nI (sa j)))]) C hw (c_channelsTold l g _ f i st ly ck rt sp byt md ch bn ft bd oc (by omega) (by omega)) (cwV 1 hts gX3_takeAllocations_X2_channelsTold rfl rfl rfl (by decide +kernel) ⟨Nat.le_of_ble_eq_true rfl, Nat.le_of_ble_eq_true rfl⟩) bl_T (fun _ _ _ => trivial) [3] [0, 1, 2, 4, 5] (by decide) rfl rfl (by decide) (by decide) 3 rfl rfl rfl hl.1 rfl (Nat.le_of_ble_eq_true rfl) dX3_takeAllocations_12 ⟨Nat.le_of_ble_eq_true rfl, Nat.le_of_ble_eq_true rfl⟩ (fun r_3 u H locs hp hw => ?_)
      obtain ⟨rfl, rfl⟩ := hp
      have hw := Wd.sub (ws' := [(r, .inr (3, [.ref o, .ref sl, .ref co_, .int (nI da)])), (o, .inr (0, [.ref tp, .int (nI fb), .int (nI lim), .int (nI pa), .int (nI ba)])), (tp, aI g n (fun j => nI (T j))), (f, .inr (2, [.int (nI st), .int (nI ly), .int (nI ck), .int (nI rt), .int (nI sp), .int (nI byt), .int (nI md), .int (nI ch), .int (nI bn), .int (nI ft), .int (nI bd), .int (nI oc)])), (k, .inr (1, [.int (nI kc), .int (nI kr), .ref ks, .ref kf, .ref km])), (ks, aI g 64 (fun j => nI (sa j)))]) hw [0, 1, 2, 5, 3, 4] (by decide) rfl
      refine lv_istore (lv' := [(4, .int (nI (if i < bd then ch else 1))), (0, .ref r), (1, .ref f), (2, .ref k), (3, .int (nI i))]) hx hb dX3_takeAllocations_15 hl (by decide) rfl (fun ls hl => ?_)
      refine lv_iconst (v := nI 0) hx hb dX3_takeAllocations_17 (by decide) ?_
      refine lv_istore (lv' := [(5, .int (nI 0)), (4, .int (nI (if i < bd then ch else 1))), (0, .ref r), (1, .ref f), (2, .ref k), (3, .int (nI i))]) hx hb dX3_takeAllocations_18 hl (by decide) rfl (fun ls hl => ?_)
      refine lps (σ := Nat × Nat × Nat × (Nat → Nat)) (alC T (8 * fb) lim ly ft ch i) (fun c y => jA lim (y.1, y.2.1, y.2.2.1, y.2.2.2)) (fun c y H locs ls => Wd g (va_A [(r, .inr (3, [.ref o, .ref sl, .ref co_, .int (nI x0.2.2.1)])), (o, .inr (0, [.ref tp, .int (nI fb), .int (nI lim), .int (nI x0.1), .int (nI x0.2.1)])), (tp, aI g n (fun j => nI (T j))), (f, .inr (2, [.int (nI st), .int (nI ly), .int (nI ck), .int (nI rt), .int (nI sp), .int (nI byt), .int (nI md), .int (nI ch), .int (nI bn), .int (nI ft), .int (nI bd), .int (nI oc)])), (k, .inr (1, [.int (nI kc), .int (nI kr), .ref ks, .ref kf, .ref km])), (ks, aI g 64 (fun j => nI (x0.2.2.2 j)))] sz) s.heap [(r, .inr (3, [.ref o, .ref sl, .ref co_, .int (nI y.2.2.1)])), (o, .inr (0, [.ref tp, .int (nI fb), .int (nI lim), .int (nI y.1), .int (nI y.2.1)])), (tp, aI g n (fun j => nI (T j))), (f, .inr (2, [.int (nI st), .int (nI ly), .int (nI ck), .int (nI rt), .int (nI sp), .int (nI byt), .int (nI md), .int (nI ch), .int (nI bn), .int (nI ft), .int (nI bd), .int (nI oc)])), (k, .inr (1, [.int (nI kc), .int (nI kr), .ref ks, .ref kf, .ref km])), (ks, aI g 64 (fun j => nI (y.2.2.2 j)))] H locs ∧ lv_has ls 8 [(0, .ref r), (1, .ref f), (2, .ref k), (3, .int (nI i)), (4, .int (nI (if i < bd then ch else 1))), (5, .int (nI c))]) (if i < bd then ch else 1) ((pa, ba, da, sa)) ?_ ?_ (hJ) ⟨hw, (lv_sub hl [2, 3, 4, 5, 1, 0] rfl)⟩
      · intro y hJ hx_ H locs ls hI
        subst hx_
        obtain ⟨hw, hl⟩ := hI
        have hw : Wd g (va_A [(r, .inr (3, [.ref o, .ref sl, .ref co_, .int (nI x0.2.2.1)])), (o, .inr (0, [.ref tp, .int (nI fb), .int (nI lim), .int (nI x0.1), .int (nI x0.2.1)])), (tp, aI g n (fun j => nI (T j))), (f, .inr (2, [.int (nI st), .int (nI ly), .int (nI ck), .int (nI rt), .int (nI sp), .int (nI byt), .int (nI md), .int (nI ch), .int (nI bn), .int (nI ft), .int (nI bd), .int (nI oc)])), (k, .inr (1, [.int (nI kc), .int (nI kr), .ref ks, .ref kf, .ref km])), (ks, aI g 64 (fun j => nI (x0.2.2.2 j)))] sz) s.heap [(r, .inr (3, [.ref o, .ref sl, .ref co_, .int (nI ((lp (alC T (8 * fb) lim ly ft ch i) (if i < bd then ch else 1) (pa, ba, da, sa)).2.2.1))])), (o, .inr (0, [.ref tp, .int (nI fb), .int (nI lim), .int (nI ((lp (alC T (8 * fb) lim ly ft ch i) (if i < bd then ch else 1) (pa, ba, da, sa)).1)), .int (nI ((lp (alC T (8 * fb) lim ly ft ch i) (if i < bd then ch else 1) (pa, ba, da, sa)).2.1))])), (tp, aI g n (fun j => nI (T j))), (f, .inr (2, [.int (nI st), .int (nI ly), .int (nI ck), .int (nI rt), .int (nI sp), .int (nI byt), .int (nI md), .int (nI ch), .int (nI bn), .int (nI ft), .int (nI bd), .int (nI oc)])), (k, .inr (1, [.int (nI kc), .int (nI kr), .ref ks, .ref kf, .ref km])), (ks, aI g 64 (fun j => nI ((lp (alC T (8 * fb) lim ly ft ch i) (if i < bd then ch else 1) (pa, ba, da, sa)).2.2.2 j)))] H locs := hw
        have hl : lv_has ls 8 [(0, .ref r), (1, .ref f), (2, .ref k), (3, .int (nI i)), (4, .int (nI (if i < bd then ch else 1))), (5, .int (nI (if i < bd then ch else 1)))] := hl
        refine lv_iload hx hb dX3_takeAllocations_20 (lv_at hl 5 rfl) ?_
        refine lv_iload hx hb dX3_takeAllocations_22 (lv_at hl 4 rfl) ?_
        refine n_cge (tgt := 73) hx hb (by omega) (by omega) dX3_takeAllocations_24 (by decide) (fun c_4 => ?_) (fun c_4 => ?_)
        · skip
          refine lv_iinc (v := (nI (i + 1))) (lv' := [(3, .int (nI (i + 1))), (0, .ref r), (1, .ref f), (2, .ref k), (4, .int (nI (if i < bd then ch else 1))), (5, .int (nI (if i < bd then ch else 1)))]) hx hb dX3_takeAllocations_73 hl (k := 3) rfl (nI_add _ _) (by decide) rfl (fun ls hl => ?_)
          refine lv_goto (tgt := 2) hx hb dX3_takeAllocations_76 (by decide) ?_
          exact K (hJ) _ _ _ ⟨hw, (lv_sub hl [1, 2, 3, 0] rfl)⟩
        · skip
          exfalso; omega
      · intro c y hi hJ hxe H locs ls hI K
        obtain ⟨pb, bb, db, sb⟩ := y
        obtain ⟨hw, hl⟩ := hI
        dsimp only at hJ
        have hw : Wd g (va_A [(r, .inr (3, [.ref o, .ref sl, .ref co_, .int (nI x0.2.2.1)])), (o, .inr (0, [.ref tp, .int (nI fb), .int (nI lim), .int (nI x0.1), .int (nI x0.2.1)])), (tp, aI g n (fun j => nI (T j))), (f, .inr (2, [.int (nI st), .int (nI ly), .int (nI ck), .int (nI rt), .int (nI sp), .int (nI byt), .int (nI md), .int (nI ch), .int (nI bn), .int (nI ft), .int (nI bd), .int (nI oc)])), (k, .inr (1, [.int (nI kc), .int (nI kr), .ref ks, .ref kf, .ref km])), (ks, aI g 64 (fun j => nI (x0.2.2.2 j)))] sz) s.heap [(r, .inr (3, [.ref o, .ref sl, .ref co_, .int (nI db)])), (o, .inr (0, [.ref tp, .int (nI fb), .int (nI lim), .int (nI pb), .int (nI bb)])), (tp, aI g n (fun j => nI (T j))), (f, .inr (2, [.int (nI st), .int (nI ly), .int (nI ck), .int (nI rt), .int (nI sp), .int (nI byt), .int (nI md), .int (nI ch), .int (nI bn), .int (nI ft), .int (nI bd), .int (nI oc)])), (k, .inr (1, [.int (nI kc), .int (nI kr), .ref ks, .ref kf, .ref km])), (ks, aI g 64 (fun j => nI (sb j)))] H locs := hw
        have hl : lv_has ls 8 [(0, .ref r), (1, .ref f), (2, .ref k), (3, .int (nI i)), (4, .int (nI (if i < bd then ch else 1))), (5, .int (nI c))] := hl
        have hJ1 := hJ
        have hc2 : (if i < bd then ch else 1) ≤ ch ∨ ch < 1 := by split <;> omega
        refine lv_iload hx hb dX3_takeAllocations_20 (lv_at hl 5 rfl) ?_
        refine lv_iload hx hb dX3_takeAllocations_22 (lv_at hl 4 rfl) ?_
        refine n_cge (tgt := 73) hx hb (by omega) (by omega) dX3_takeAllocations_24 (by decide) (fun c_5 => ?_) (fun c_5 => ?_)
        · skip
          exfalso; omega
        · skip
          refine lv_aload_n hx hb dX3_takeAllocations_27 rfl (lv_at hl 0 rfl) ?_
          refine lv_aload_n hx hb dX3_takeAllocations_28 rfl (lv_at hl 1 rfl) ?_
          refine lv_iload_n hx hb dX3_takeAllocations_29 rfl (lv_at hl 3 rfl) ?_
          refine k_Vi (As := [.ref f, .int (nI i)]) (rest := []) (wr := [(k, .inr (1, [.int (nI kc), .int (nI kr), .ref ks, .ref kf, .ref km])), (ks, aI g 64 (fun j => nI (sb j)))]) C hw (c_takeSteps l g _ tb r o sl co_ tp n fb lim pb bb db T f i st ly ck rt sp byt md ch bn ft bd oc hT hn hl1 hJ.1 (by omega) (by omega) (by omega)) (cwV 2 hts gX3_takeAllocations_X3_takeSteps rfl rfl rfl (by decide +kernel) ⟨Nat.le_of_ble_eq_true rfl, Nat.le_of_ble_eq_true rfl⟩) sx_bl (sx_call C hw hB [0, 1, 2, 3] rfl) [0, 1, 2, 3] [4, 5] (by decide) rfl rfl (by decide) (by decide) 0 rfl rfl rfl hl.1 rfl (Nat.le_of_ble_eq_true rfl) dX3_takeAllocations_30 ⟨Nat.le_of_ble_eq_true rfl, Nat.le_of_ble_eq_true rfl⟩ (fun r_6 u H locs hp hw => ?_)
          obtain ⟨rfl, rfl⟩ := hp
          have hw := Wd.sub (ws' := [(r, .inr (3, [.ref o, .ref sl, .ref co_, .int (nI (if stepB ly ft i (tkV T (8 * fb) lim pb (aBits ly ft i)) = 1 then 1 else db))])), (o, .inr (0, [.ref tp, .int (nI fb), .int (nI lim), .int (nI (tkP lim pb (aBits ly ft i))), .int (nI (tkB lim pb (aBits ly ft i) bb))])), (tp, aI g n (fun j => nI (T j))), (f, .inr (2, [.int (nI st), .int (nI ly), .int (nI ck), .int (nI rt), .int (nI sp), .int (nI byt), .int (nI md), .int (nI ch), .int (nI bn), .int (nI ft), .int (nI bd), .int (nI oc)])), (k, .inr (1, [.int (nI kc), .int (nI kr), .ref ks, .ref kf, .ref km])), (ks, aI g 64 (fun j => nI (sb j)))]) hw [2, 3, 4, 5, 0, 1] (by decide) rfl
          refine lv_istore (lv' := [(6, .int (nI (stepL ly ft i (tkV T (8 * fb) lim pb (aBits ly ft i))))), (0, .ref r), (1, .ref f), (2, .ref k), (3, .int (nI i)), (4, .int (nI (if i < bd then ch else 1))), (5, .int (nI c))]) hx hb dX3_takeAllocations_33 hl (by decide) rfl (fun ls hl => ?_)
          refine lv_iload hx hb dX3_takeAllocations_35 (lv_at hl 6 rfl) ?_
          refine lv_istore (lv' := [(7, .int (nI c)), (6, .int (nI (stepL ly ft i (tkV T (8 * fb) lim pb (aBits ly ft i))))), (0, .ref r), (1, .ref f), (2, .ref k), (3, .int (nI i)), (4, .int (nI (if i < bd then ch else 1))), (5, .int (nI c))]) hx hb dX3_takeAllocations_37 hl (by decide) rfl (fun ls hl => ?_)
          refine lps (σ := Nat → Nat) (fun t st => updN st ((c + t) * 32 + i) (stepL ly ft i (tkV T (8 * fb) lim pb (aBits ly ft i)))) (fun t z => True) (fun t z H locs ls => Wd g (va_A [(r, .inr (3, [.ref o, .ref sl, .ref co_, .int (nI x0.2.2.1)])), (o, .inr (0, [.ref tp, .int (nI fb), .int (nI lim), .int (nI x0.1), .int (nI x0.2.1)])), (tp, aI g n (fun j => nI (T j))), (f, .inr (2, [.int (nI st), .int (nI ly), .int (nI ck), .int (nI rt), .int (nI sp), .int (nI byt), .int (nI md), .int (nI ch), .int (nI bn), .int (nI ft), .int (nI bd), .int (nI oc)])), (k, .inr (1, [.int (nI kc), .int (nI kr), .ref ks, .ref kf, .ref km])), (ks, aI g 64 (fun j => nI (x0.2.2.2 j)))] sz) s.heap [(r, .inr (3, [.ref o, .ref sl, .ref co_, .int (nI (if stepB ly ft i (tkV T (8 * fb) lim pb (aBits ly ft i)) = 1 then 1 else db))])), (o, .inr (0, [.ref tp, .int (nI fb), .int (nI lim), .int (nI (tkP lim pb (aBits ly ft i))), .int (nI (tkB lim pb (aBits ly ft i) bb))])), (tp, aI g n (fun j => nI (T j))), (f, .inr (2, [.int (nI st), .int (nI ly), .int (nI ck), .int (nI rt), .int (nI sp), .int (nI byt), .int (nI md), .int (nI ch), .int (nI bn), .int (nI ft), .int (nI bd), .int (nI oc)])), (k, .inr (1, [.int (nI kc), .int (nI kr), .ref ks, .ref kf, .ref km])), (ks, aI g 64 (fun j => nI (z j)))] H locs ∧ lv_has ls 8 [(0, .ref r), (1, .ref f), (2, .ref k), (3, .int (nI i)), (4, .int (nI (if i < bd then ch else 1))), (5, .int (nI c)), (6, .int (nI (stepL ly ft i (tkV T (8 * fb) lim pb (aBits ly ft i))))), (7, .int (nI (c + t)))]) (ch - c) (sb) ?_ ?_ (trivial) ⟨hw, (lv_sub hl [2, 3, 4, 5, 6, 7, 1, 0] rfl)⟩
          · intro z hJ hx_ H locs ls hI
            subst hx_
            obtain ⟨hw, hl⟩ := hI
            have hw : Wd g (va_A [(r, .inr (3, [.ref o, .ref sl, .ref co_, .int (nI x0.2.2.1)])), (o, .inr (0, [.ref tp, .int (nI fb), .int (nI lim), .int (nI x0.1), .int (nI x0.2.1)])), (tp, aI g n (fun j => nI (T j))), (f, .inr (2, [.int (nI st), .int (nI ly), .int (nI ck), .int (nI rt), .int (nI sp), .int (nI byt), .int (nI md), .int (nI ch), .int (nI bn), .int (nI ft), .int (nI bd), .int (nI oc)])), (k, .inr (1, [.int (nI kc), .int (nI kr), .ref ks, .ref kf, .ref km])), (ks, aI g 64 (fun j => nI (x0.2.2.2 j)))] sz) s.heap [(r, .inr (3, [.ref o, .ref sl, .ref co_, .int (nI (if stepB ly ft i (tkV T (8 * fb) lim pb (aBits ly ft i)) = 1 then 1 else db))])), (o, .inr (0, [.ref tp, .int (nI fb), .int (nI lim), .int (nI (tkP lim pb (aBits ly ft i))), .int (nI (tkB lim pb (aBits ly ft i) bb))])), (tp, aI g n (fun j => nI (T j))), (f, .inr (2, [.int (nI st), .int (nI ly), .int (nI ck), .int (nI rt), .int (nI sp), .int (nI byt), .int (nI md), .int (nI ch), .int (nI bn), .int (nI ft), .int (nI bd), .int (nI oc)])), (k, .inr (1, [.int (nI kc), .int (nI kr), .ref ks, .ref kf, .ref km])), (ks, aI g 64 (fun j => nI ((lp (fun t st => updN st ((c + t) * 32 + i) (stepL ly ft i (tkV T (8 * fb) lim pb (aBits ly ft i)))) (ch - c) sb) j)))] H locs := hw
            have hl : lv_has ls 8 [(0, .ref r), (1, .ref f), (2, .ref k), (3, .int (nI i)), (4, .int (nI (if i < bd then ch else 1))), (5, .int (nI c)), (6, .int (nI (stepL ly ft i (tkV T (8 * fb) lim pb (aBits ly ft i))))), (7, .int (nI (c + (ch - c))))] := hl
            refine lv_iload hx hb dX3_takeAllocations_39 (lv_at hl 7 rfl) ?_
            refine lv_aload_n hx hb dX3_takeAllocations_41 rfl (lv_at hl 1 rfl) ?_
            refine r_get C hw in_X2 3 rfl rfl 7 (by decide) lk42 rfl dX3_takeAllocations_42 ?_
            refine n_cge (tgt := 67) hx hb (by omega) (by omega) dX3_takeAllocations_45 (by decide) (fun c_7 => ?_) (fun c_7 => ?_)
            · skip
              refine lv_iinc (v := (nI (c + 1))) (lv' := [(5, .int (nI (c + 1))), (0, .ref r), (1, .ref f), (2, .ref k), (3, .int (nI i)), (4, .int (nI (if i < bd then ch else 1))), (6, .int (nI (stepL ly ft i (tkV T (8 * fb) lim pb (aBits ly ft i))))), (7, .int (nI (c + (ch - c))))]) hx hb dX3_takeAllocations_67 hl (k := 5) rfl (nI_add _ _) (by decide) rfl (fun ls hl => ?_)
              refine lv_goto (tgt := 20) hx hb dX3_takeAllocations_70 (by decide) ?_
              exact K (alC_j hJ1) _ _ _ ⟨hw, (lv_sub hl [1, 2, 3, 4, 5, 0] rfl)⟩
            · skip
              exfalso; omega
          · intro t z hi hJ hxe H locs ls hI K
            obtain ⟨hw, hl⟩ := hI
            have hw : Wd g (va_A [(r, .inr (3, [.ref o, .ref sl, .ref co_, .int (nI x0.2.2.1)])), (o, .inr (0, [.ref tp, .int (nI fb), .int (nI lim), .int (nI x0.1), .int (nI x0.2.1)])), (tp, aI g n (fun j => nI (T j))), (f, .inr (2, [.int (nI st), .int (nI ly), .int (nI ck), .int (nI rt), .int (nI sp), .int (nI byt), .int (nI md), .int (nI ch), .int (nI bn), .int (nI ft), .int (nI bd), .int (nI oc)])), (k, .inr (1, [.int (nI kc), .int (nI kr), .ref ks, .ref kf, .ref km])), (ks, aI g 64 (fun j => nI (x0.2.2.2 j)))] sz) s.heap [(r, .inr (3, [.ref o, .ref sl, .ref co_, .int (nI (if stepB ly ft i (tkV T (8 * fb) lim pb (aBits ly ft i)) = 1 then 1 else db))])), (o, .inr (0, [.ref tp, .int (nI fb), .int (nI lim), .int (nI (tkP lim pb (aBits ly ft i))), .int (nI (tkB lim pb (aBits ly ft i) bb))])), (tp, aI g n (fun j => nI (T j))), (f, .inr (2, [.int (nI st), .int (nI ly), .int (nI ck), .int (nI rt), .int (nI sp), .int (nI byt), .int (nI md), .int (nI ch), .int (nI bn), .int (nI ft), .int (nI bd), .int (nI oc)])), (k, .inr (1, [.int (nI kc), .int (nI kr), .ref ks, .ref kf, .ref km])), (ks, aI g 64 (fun j => nI (z j)))] H locs := hw
            have hl : lv_has ls 8 [(0, .ref r), (1, .ref f), (2, .ref k), (3, .int (nI i)), (4, .int (nI (if i < bd then ch else 1))), (5, .int (nI c)), (6, .int (nI (stepL ly ft i (tkV T (8 * fb) lim pb (aBits ly ft i))))), (7, .int (nI (c + t)))] := hl
            refine lv_iload hx hb dX3_takeAllocations_39 (lv_at hl 7 rfl) ?_
            refine lv_aload_n hx hb dX3_takeAllocations_41 rfl (lv_at hl 1 rfl) ?_
            refine r_get C hw in_X2 3 rfl rfl 7 (by decide) lk42 rfl dX3_takeAllocations_42 ?_
            refine n_cge (tgt := 67) hx hb (by omega) (by omega) dX3_takeAllocations_45 (by decide) (fun c_8 => ?_) (fun c_8 => ?_)
            · skip
              exfalso; omega
            · skip
              refine lv_aload_n hx hb dX3_takeAllocations_48 rfl (lv_at hl 2 rfl) ?_
              refine r_get C hw in_X1 4 rfl rfl 2 (by decide) lk95 rfl dX3_takeAllocations_49 ?_
              refine lv_iload hx hb dX3_takeAllocations_52 (lv_at hl 7 rfl) ?_
              refine lv_iload_n hx hb dX3_takeAllocations_54 rfl (lv_at hl 3 rfl) ?_
              refine k_Si (As := [.int (nI (c + t)), .int (nI i)]) (rest := [.ref ks]) (wr := [(r, .inr (3, [.ref o, .ref sl, .ref co_, .int (nI (if stepB ly ft i (tkV T (8 * fb) lim pb (aBits ly ft i)) = 1 then 1 else db))])), (o, .inr (0, [.ref tp, .int (nI fb), .int (nI lim), .int (nI (tkP lim pb (aBits ly ft i))), .int (nI (tkB lim pb (aBits ly ft i) bb))])), (tp, aI g n (fun j => nI (T j))), (f, .inr (2, [.int (nI st), .int (nI ly), .int (nI ck), .int (nI rt), .int (nI sp), .int (nI byt), .int (nI md), .int (nI ch), .int (nI bn), .int (nI ft), .int (nI bd), .int (nI oc)])), (k, .inr (1, [.int (nI kc), .int (nI kr), .ref ks, .ref kf, .ref km])), (ks, aI g 64 (fun j => nI (z j)))]) C hw (c_bandIndex l g _ (c + t) i) (va_cwS 2 hts gX3_takeAllocations_X1_bandIndex rfl rfl rfl (by decide +kernel) ⟨Nat.le_of_ble_eq_true rfl, Nat.le_of_ble_eq_true rfl⟩) bl_T (fun _ _ _ => trivial) [] [0, 1, 2, 3, 4, 5] (by decide) rfl rfl (by decide) (by decide) rfl hl.1 rfl (Nat.le_of_ble_eq_true rfl) dX3_takeAllocations_55 ⟨Nat.le_of_ble_eq_true rfl, Nat.le_of_ble_eq_true rfl⟩ (fun r_9 u H locs hp hw => ?_)
              obtain ⟨rfl, rfl⟩ := hp
              have hw := Wd.sub (ws' := [(r, .inr (3, [.ref o, .ref sl, .ref co_, .int (nI (if stepB ly ft i (tkV T (8 * fb) lim pb (aBits ly ft i)) = 1 then 1 else db))])), (o, .inr (0, [.ref tp, .int (nI fb), .int (nI lim), .int (nI (tkP lim pb (aBits ly ft i))), .int (nI (tkB lim pb (aBits ly ft i) bb))])), (tp, aI g n (fun j => nI (T j))), (f, .inr (2, [.int (nI st), .int (nI ly), .int (nI ck), .int (nI rt), .int (nI sp), .int (nI byt), .int (nI md), .int (nI ch), .int (nI bn), .int (nI ft), .int (nI bd), .int (nI oc)])), (k, .inr (1, [.int (nI kc), .int (nI kr), .ref ks, .ref kf, .ref km])), (ks, aI g 64 (fun j => nI (z j)))]) hw [0, 1, 2, 3, 4, 5] (by decide) rfl
              refine lv_iload hx hb dX3_takeAllocations_58 (lv_at hl 6 rfl) ?_
              refine r_iast C hw 5 rfl (by omega) (by omega) (ws' := [(r, .inr (3, [.ref o, .ref sl, .ref co_, .int (nI (if stepB ly ft i (tkV T (8 * fb) lim pb (aBits ly ft i)) = 1 then 1 else db))])), (o, .inr (0, [.ref tp, .int (nI fb), .int (nI lim), .int (nI (tkP lim pb (aBits ly ft i))), .int (nI (tkB lim pb (aBits ly ft i) bb))])), (tp, aI g n (fun j => nI (T j))), (f, .inr (2, [.int (nI st), .int (nI ly), .int (nI ck), .int (nI rt), .int (nI sp), .int (nI byt), .int (nI md), .int (nI ch), .int (nI bn), .int (nI ft), .int (nI bd), .int (nI oc)])), (k, .inr (1, [.int (nI kc), .int (nI kr), .ref ks, .ref kf, .ref km])), (ks, aI g 64 (upd (fun j => nI (z j)) ((c + t) * 32 + i) (nI (stepL ly ft i (tkV T (8 * fb) lim pb (aBits ly ft i))))))]) rfl dX3_takeAllocations_60 (fun H locs hw => ?_)
              rw [updN_I] at hw
              have hw : Wd g (va_A [(r, .inr (3, [.ref o, .ref sl, .ref co_, .int (nI x0.2.2.1)])), (o, .inr (0, [.ref tp, .int (nI fb), .int (nI lim), .int (nI x0.1), .int (nI x0.2.1)])), (tp, aI g n (fun j => nI (T j))), (f, .inr (2, [.int (nI st), .int (nI ly), .int (nI ck), .int (nI rt), .int (nI sp), .int (nI byt), .int (nI md), .int (nI ch), .int (nI bn), .int (nI ft), .int (nI bd), .int (nI oc)])), (k, .inr (1, [.int (nI kc), .int (nI kr), .ref ks, .ref kf, .ref km])), (ks, aI g 64 (fun j => nI (x0.2.2.2 j)))] sz) s.heap [(r, .inr (3, [.ref o, .ref sl, .ref co_, .int (nI (if stepB ly ft i (tkV T (8 * fb) lim pb (aBits ly ft i)) = 1 then 1 else db))])), (o, .inr (0, [.ref tp, .int (nI fb), .int (nI lim), .int (nI (tkP lim pb (aBits ly ft i))), .int (nI (tkB lim pb (aBits ly ft i) bb))])), (tp, aI g n (fun j => nI (T j))), (f, .inr (2, [.int (nI st), .int (nI ly), .int (nI ck), .int (nI rt), .int (nI sp), .int (nI byt), .int (nI md), .int (nI ch), .int (nI bn), .int (nI ft), .int (nI bd), .int (nI oc)])), (k, .inr (1, [.int (nI kc), .int (nI kr), .ref ks, .ref kf, .ref km])), (ks, aI g 64 (fun j => nI (updN z ((c + t) * 32 + i) (stepL ly ft i (tkV T (8 * fb) lim pb (aBits ly ft i))) j)))] H locs := hw
              refine lv_iinc (v := (nI (c + t + 1))) (lv' := [(7, .int (nI (c + t + 1))), (0, .ref r), (1, .ref f), (2, .ref k), (3, .int (nI i)), (4, .int (nI (if i < bd then ch else 1))), (5, .int (nI c)), (6, .int (nI (stepL ly ft i (tkV T (8 * fb) lim pb (aBits ly ft i)))))]) hx hb dX3_takeAllocations_61 hl (k := 7) rfl (nI_add _ _) (by decide) rfl (fun ls hl => ?_)
              refine lv_goto (tgt := 39) hx hb dX3_takeAllocations_64 (by decide) ?_
              exact K (trivial) _ _ _ ⟨hw, (lv_sub hl [1, 2, 3, 4, 5, 6, 7, 0] rfl)⟩
abbrev rm_c_takeSelections : Room := { frames := 1, cells := 0, slots := 0, locals := 24 }
set_option maxHeartbeats 4000000 in
set_option maxRecDepth 100000 in
theorem c_takeSelections (l : Launch) (g : GT) (sz : Nat) (r o sl co_ tp n fb lim : Nat) (T : Nat → Nat) (f k ks kf km kc kr bad : Nat) (st_ : Nat → Nat) (st ly ck rt sp byt md ch bn ft bd oc : Nat) (x0 : Nat × Nat × (Nat → Nat)) (hT : ∀ j, T j < 256) (hn : n < 2 ^ 27) (hl1 : 8 * fb + lim ≤ 8 * n) (hj : jS lim x0) (hs : ∀ j, stOK (st_ j)) (h1 : bn ≤ 32) (h3 : ly < 2 ^ 31) (h4 : ch ≤ 2) : CtV l g yX3_takeSelections wsX3_takeSelections rm_c_takeSelections [.ref r, .ref f, .ref k] [(r, .inr (3, [.ref o, .ref sl, .ref co_, .int (nI bad)])), (o, .inr (0, [.ref tp, .int (nI fb), .int (nI lim), .int (nI x0.1), .int (nI x0.2.1)])), (tp, aI g n (fun j => nI (T j))), (f, .inr (2, [.int (nI st), .int (nI ly), .int (nI ck), .int (nI rt), .int (nI sp), .int (nI byt), .int (nI md), .int (nI ch), .int (nI bn), .int (nI ft), .int (nI bd), .int (nI oc)])), (k, .inr (1, [.int (nI kc), .int (nI kr), .ref ks, .ref kf, .ref km])), (ks, aI g 64 (fun j => nI (st_ j))), (sl, aI g 64 (fun j => nI (x0.2.2 j)))] sz (fun _ => True) (fun u => u = [(r, .inr (3, [.ref o, .ref sl, .ref co_, .int (nI bad)])), (o, .inr (0, [.ref tp, .int (nI fb), .int (nI lim), .int (nI ((seA T (8 * fb) lim st_ ch ly bn (x0.1, x0.2.1, (fun j => if j < 64 then 2 else x0.2.2 j))).1)), .int (nI ((seA T (8 * fb) lim st_ ch ly bn (x0.1, x0.2.1, (fun j => if j < 64 then 2 else x0.2.2 j))).2.1))])), (tp, aI g n (fun j => nI (T j))), (f, .inr (2, [.int (nI st), .int (nI ly), .int (nI ck), .int (nI rt), .int (nI sp), .int (nI byt), .int (nI md), .int (nI ch), .int (nI bn), .int (nI ft), .int (nI bd), .int (nI oc)])), (k, .inr (1, [.int (nI kc), .int (nI kr), .ref ks, .ref kf, .ref km])), (ks, aI g 64 (fun j => nI (st_ j))), (sl, aI g 64 (fun j => nI ((seA T (8 * fb) lim st_ ch ly bn (x0.1, x0.2.1, (fun j => if j < 64 then 2 else x0.2.2 j))).2.2 j)))]) (0) (0) := by
  refine ct_body (cc := cX3_takeSelections) (nL := 6) (ret := none) (by decide) rfl (Nat.le_of_ble_eq_true rfl) ?_
  intro p e s m below meth c ls C hin hsz hB hw hl
  obtain ⟨hx, hb, hml, hown, hts, hK, hA, hr, hlk⟩ := id C
  have lk12 := hts (.fieldLink RX3 12 "SoundBench$FrameReader" "bits" "LSoundBench$Bits;") (by decide +kernel)
  have lk18 := hts (.fieldLink RX3 18 "SoundBench$FrameReader" "selections" "[I") (by decide +kernel)
  have lk42 := hts (.fieldLink RX3 42 "SoundBench$Frame" "channels" "I") (by decide +kernel)
  have lk85 := hts (.fieldLink RX3 85 "SoundBench$Frame" "bands" "I") (by decide +kernel)
  have lk95 := hts (.fieldLink RX3 95 "SoundBench$Content" "steps" "[I") (by decide +kernel)
  have lk114 := hts (.fieldLink RX3 114 "SoundBench$Frame" "layer" "I") (by decide +kernel)
  have in_X3 : ∀ w ∈ wsX30, w ∈ wsX3_takeSelections := by unfold wsX3_takeSelections; intro w h; simp only [List.mem_cons, List.mem_append, h, or_true, true_or]
  have in_X2 : ∀ w ∈ wsX20, w ∈ wsX3_takeSelections := by unfold wsX3_takeSelections; intro w h; simp only [List.mem_cons, List.mem_append, h, or_true, true_or]
  have in_X1 : ∀ w ∈ wsX10, w ∈ wsX3_takeSelections := by unfold wsX3_takeSelections; intro w h; simp only [List.mem_cons, List.mem_append, h, or_true, true_or]
  have hl : lv_has ls 6 [(0, .ref r), (1, .ref f), (2, .ref k)] := hl
  have hw : Wd g (va_A [(r, .inr (3, [.ref o, .ref sl, .ref co_, .int (nI bad)])), (o, .inr (0, [.ref tp, .int (nI fb), .int (nI lim), .int (nI x0.1), .int (nI x0.2.1)])), (tp, aI g n (fun j => nI (T j))), (f, .inr (2, [.int (nI st), .int (nI ly), .int (nI ck), .int (nI rt), .int (nI sp), .int (nI byt), .int (nI md), .int (nI ch), .int (nI bn), .int (nI ft), .int (nI bd), .int (nI oc)])), (k, .inr (1, [.int (nI kc), .int (nI kr), .ref ks, .ref kf, .ref km])), (ks, aI g 64 (fun j => nI (st_ j))), (sl, aI g 64 (fun j => nI (x0.2.2 j)))] sz) s.heap [(r, .inr (3, [.ref o, .ref sl, .ref co_, .int (nI bad)])), (o, .inr (0, [.ref tp, .int (nI fb), .int (nI lim), .int (nI x0.1), .int (nI x0.2.1)])), (tp, aI g n (fun j => nI (T j))), (f, .inr (2, [.int (nI st), .int (nI ly), .int (nI ck), .int (nI rt), .int (nI sp), .int (nI byt), .int (nI md), .int (nI ch), .int (nI bn), .int (nI ft), .int (nI bd), .int (nI oc)])), (k, .inr (1, [.int (nI kc), .int (nI kr), .ref ks, .ref kf, .ref km])), (ks, aI g 64 (fun j => nI (st_ j))), (sl, aI g 64 (fun j => nI (x0.2.2 j)))] s.heap [] := hw
  have hj0 : jS lim (x0.1, x0.2.1, (fun j => if j < 64 then 2 else x0.2.2 j)) := ⟨hj.1, hj.2.1, fun j => by dsimp only; split; omega; exact hj.2.2 j⟩
  refine lv_aload_n hx hb dX3_takeSelections_0 rfl (lv_at hl 0 rfl) ?_
  refine r_get C hw in_X3 0 rfl rfl 1 (by decide) lk18 rfl dX3_takeSelections_1 ?_
  refine lv_iconst (v := nI 2) hx hb dX3_takeSelections_4 (by decide) ?_
  refine k_Sv (As := [.ref sl, .int (nI 2)]) (rest := []) (wr := [(r, .inr (3, [.ref o, .ref sl, .ref co_, .int (nI bad)])), (o, .inr (0, [.ref tp, .int (nI fb), .int (nI lim), .int (nI x0.1), .int (nI x0.2.1)])), (tp, aI g n (fun j => nI (T j))), (f, .inr (2, [.int (nI st), .int (nI ly), .int (nI ck), .int (nI rt), .int (nI sp), .int (nI byt), .int (nI md), .int (nI ch), .int (nI bn), .int (nI ft), .int (nI bd), .int (nI oc)])), (k, .inr (1, [.int (nI kc), .int (nI kr), .ref ks, .ref kf, .ref km])), (ks, aI g 64 (fun j => nI (st_ j)))]) C hw (c_fillN l g _ sl 64 x0.2.2 2 (by omega)) (va_cwS 2 hts gX3_takeSelections_J7_fill_53178 rfl rfl rfl (by decide +kernel) ⟨Nat.le_of_ble_eq_true rfl, Nat.le_of_ble_eq_true rfl⟩) bl_T (fun _ _ _ => trivial) [6] [0, 1, 2, 3, 4, 5] (by decide) rfl rfl (by decide) (by decide) rfl hl.1 rfl (Nat.le_of_ble_eq_true rfl) dX3_takeSelections_5 ⟨Nat.le_of_ble_eq_true rfl, Nat.le_of_ble_eq_true rfl⟩ (fun u H locs hp hw => ?_)
  obtain rfl := hp
  have hw := Wd.sub (ws' := [(r, .inr (3, [.ref o, .ref sl, .ref co_, .int (nI bad)])), (o, .inr (0, [.ref tp, .int (nI fb), .int (nI lim), .int (nI x0.1), .int (nI x0.2.1)])), (tp, aI g n (fun j => nI (T j))), (f, .inr (2, [.int (nI st), .int (nI ly), .int (nI ck), .int (nI rt), .int (nI sp), .int (nI byt), .int (nI md), .int (nI ch), .int (nI bn), .int (nI ft), .int (nI bd), .int (nI oc)])), (k, .inr (1, [.int (nI kc), .int (nI kr), .ref ks, .ref kf, .ref km])), (ks, aI g 64 (fun j => nI (st_ j))), (sl, aI g 64 (fun j => nI ((fun j => if j < 64 then 2 else x0.2.2 j) j)))]) hw [0, 1, 2, 3, 4, 5, 6] (by decide) rfl
  refine lv_aload_n hx hb dX3_takeSelections_8 rfl (lv_at hl 1 rfl) ?_
  refine r_get C hw in_X2 3 rfl rfl 1 (by decide) lk114 rfl dX3_takeSelections_9 ?_
  refine lv_iconst (v := nI 1) hx hb dX3_takeSelections_12 (by decide) ?_
  refine n_cne (tgt := 17) hx hb (by omega) (by omega) dX3_takeSelections_13 (by decide) (fun c_2 => ?_) (fun c_2 => ?_)
  · skip
    refine lv_iconst (v := nI 0) hx hb dX3_takeSelections_17 (by decide) ?_
    refine lv_istore_n (lv' := [(3, .int (nI 0)), (0, .ref r), (1, .ref f), (2, .ref k)]) hx hb dX3_takeSelections_18 rfl hl (by decide) rfl (fun ls hl => ?_)
    refine lps (σ := Nat × Nat × (Nat → Nat)) (seB T (8 * fb) lim st_ ch) (fun i x => jS lim (x.1, x.2.1, x.2.2)) (fun i x H locs ls => Wd g (va_A [(r, .inr (3, [.ref o, .ref sl, .ref co_, .int (nI bad)])), (o, .inr (0, [.ref tp, .int (nI fb), .int (nI lim), .int (nI x0.1), .int (nI x0.2.1)])), (tp, aI g n (fun j => nI (T j))), (f, .inr (2, [.int (nI st), .int (nI ly), .int (nI ck), .int (nI rt), .int (nI sp), .int (nI byt), .int (nI md), .int (nI ch), .int (nI bn), .int (nI ft), .int (nI bd), .int (nI oc)])), (k, .inr (1, [.int (nI kc), .int (nI kr), .ref ks, .ref kf, .ref km])), (ks, aI g 64 (fun j => nI (st_ j))), (sl, aI g 64 (fun j => nI (x0.2.2 j)))] sz) s.heap [(r, .inr (3, [.ref o, .ref sl, .ref co_, .int (nI bad)])), (o, .inr (0, [.ref tp, .int (nI fb), .int (nI lim), .int (nI x.1), .int (nI x.2.1)])), (tp, aI g n (fun j => nI (T j))), (f, .inr (2, [.int (nI st), .int (nI ly), .int (nI ck), .int (nI rt), .int (nI sp), .int (nI byt), .int (nI md), .int (nI ch), .int (nI bn), .int (nI ft), .int (nI bd), .int (nI oc)])), (k, .inr (1, [.int (nI kc), .int (nI kr), .ref ks, .ref kf, .ref km])), (ks, aI g 64 (fun j => nI (st_ j))), (sl, aI g 64 (fun j => nI (x.2.2 j)))] H locs ∧ lv_has ls 6 [(0, .ref r), (1, .ref f), (2, .ref k), (3, .int (nI i))]) (bn) ((x0.1, x0.2.1, (fun j => if j < 64 then 2 else x0.2.2 j))) ?_ ?_ (hj0) ⟨hw, (lv_sub hl [1, 2, 3, 0] rfl)⟩
    · intro x hJ hx_ H locs ls hI
      subst hx_
      obtain ⟨hw, hl⟩ := hI
      have hw : Wd g (va_A [(r, .inr (3, [.ref o, .ref sl, .ref co_, .int (nI bad)])), (o, .inr (0, [.ref tp, .int (nI fb), .int (nI lim), .int (nI x0.1), .int (nI x0.2.1)])), (tp, aI g n (fun j => nI (T j))), (f, .inr (2, [.int (nI st), .int (nI ly), .int (nI ck), .int (nI rt), .int (nI sp), .int (nI byt), .int (nI md), .int (nI ch), .int (nI bn), .int (nI ft), .int (nI bd), .int (nI oc)])), (k, .inr (1, [.int (nI kc), .int (nI kr), .ref ks, .ref kf, .ref km])), (ks, aI g 64 (fun j => nI (st_ j))), (sl, aI g 64 (fun j => nI (x0.2.2 j)))] sz) s.heap [(r, .inr (3, [.ref o, .ref sl, .ref co_, .int (nI bad)])), (o, .inr (0, [.ref tp, .int (nI fb), .int (nI lim), .int (nI ((lp (seB T (8 * fb) lim st_ ch) bn (x0.1, x0.2.1, (fun j => if j < 64 then 2 else x0.2.2 j))).1)), .int (nI ((lp (seB T (8 * fb) lim st_ ch) bn (x0.1, x0.2.1, (fun j => if j < 64 then 2 else x0.2.2 j))).2.1))])), (tp, aI g n (fun j => nI (T j))), (f, .inr (2, [.int (nI st), .int (nI ly), .int (nI ck), .int (nI rt), .int (nI sp), .int (nI byt), .int (nI md), .int (nI ch), .int (nI bn), .int (nI ft), .int (nI bd), .int (nI oc)])), (k, .inr (1, [.int (nI kc), .int (nI kr), .ref ks, .ref kf, .ref km])), (ks, aI g 64 (fun j => nI (st_ j))), (sl, aI g 64 (fun j => nI ((lp (seB T (8 * fb) lim st_ ch) bn (x0.1, x0.2.1, (fun j => if j < 64 then 2 else x0.2.2 j))).2.2 j)))] H locs := hw
      have hl : lv_has ls 6 [(0, .ref r), (1, .ref f), (2, .ref k), (3, .int (nI bn))] := hl
      refine lv_iload_n hx hb dX3_takeSelections_19 rfl (lv_at hl 3 rfl) ?_
      refine lv_aload_n hx hb dX3_takeSelections_20 rfl (lv_at hl 1 rfl) ?_
      refine r_get C hw in_X2 3 rfl rfl 8 (by decide) lk85 rfl dX3_takeSelections_21 ?_
      refine n_cge (tgt := 84) hx hb (by omega) (by omega) dX3_takeSelections_24 (by decide) (fun c_3 => ?_) (fun c_3 => ?_)
      · skip
        exact r_vret C hw (Nat.le_refl _) (Nat.le_refl _) (by unfold seA; rw [if_neg (by omega)]) dX3_takeSelections_84
      · skip
        exfalso; omega
    · intro i x hi hJ hxe H locs ls hI K
      obtain ⟨pa, ba, ea⟩ := x
      obtain ⟨hw, hl⟩ := hI
      dsimp only at hJ
      have hw : Wd g (va_A [(r, .inr (3, [.ref o, .ref sl, .ref co_, .int (nI bad)])), (o, .inr (0, [.ref tp, .int (nI fb), .int (nI lim), .int (nI x0.1), .int (nI x0.2.1)])), (tp, aI g n (fun j => nI (T j))), (f, .inr (2, [.int (nI st), .int (nI ly), .int (nI ck), .int (nI rt), .int (nI sp), .int (nI byt), .int (nI md), .int (nI ch), .int (nI bn), .int (nI ft), .int (nI bd), .int (nI oc)])), (k, .inr (1, [.int (nI kc), .int (nI kr), .ref ks, .ref kf, .ref km])), (ks, aI g 64 (fun j => nI (st_ j))), (sl, aI g 64 (fun j => nI (x0.2.2 j)))] sz) s.heap [(r, .inr (3, [.ref o, .ref sl, .ref co_, .int (nI bad)])), (o, .inr (0, [.ref tp, .int (nI fb), .int (nI lim), .int (nI pa), .int (nI ba)])), (tp, aI g n (fun j => nI (T j))), (f, .inr (2, [.int (nI st), .int (nI ly), .int (nI ck), .int (nI rt), .int (nI sp), .int (nI byt), .int (nI md), .int (nI ch), .int (nI bn), .int (nI ft), .int (nI bd), .int (nI oc)])), (k, .inr (1, [.int (nI kc), .int (nI kr), .ref ks, .ref kf, .ref km])), (ks, aI g 64 (fun j => nI (st_ j))), (sl, aI g 64 (fun j => nI (ea j)))] H locs := hw
      have hl : lv_has ls 6 [(0, .ref r), (1, .ref f), (2, .ref k), (3, .int (nI i))] := hl
      refine lv_iload_n hx hb dX3_takeSelections_19 rfl (lv_at hl 3 rfl) ?_
      refine lv_aload_n hx hb dX3_takeSelections_20 rfl (lv_at hl 1 rfl) ?_
      refine r_get C hw in_X2 3 rfl rfl 8 (by decide) lk85 rfl dX3_takeSelections_21 ?_
      refine n_cge (tgt := 84) hx hb (by omega) (by omega) dX3_takeSelections_24 (by decide) (fun c_4 => ?_) (fun c_4 => ?_)
      · skip
        exfalso; omega
      · skip
        refine lv_iconst (v := nI 0) hx hb dX3_takeSelections_27 (by decide) ?_
        refine lv_istore (lv' := [(4, .int (nI 0)), (0, .ref r), (1, .ref f), (2, .ref k), (3, .int (nI i))]) hx hb dX3_takeSelections_28 hl (by decide) rfl (fun ls hl => ?_)
        refine lps (σ := Nat × Nat × (Nat → Nat)) (seC T (8 * fb) lim st_ i) (fun c y => jS lim (y.1, y.2.1, y.2.2)) (fun c y H locs ls => Wd g (va_A [(r, .inr (3, [.ref o, .ref sl, .ref co_, .int (nI bad)])), (o, .inr (0, [.ref tp, .int (nI fb), .int (nI lim), .int (nI x0.1), .int (nI x0.2.1)])), (tp, aI g n (fun j => nI (T j))), (f, .inr (2, [.int (nI st), .int (nI ly), .int (nI ck), .int (nI rt), .int (nI sp), .int (nI byt), .int (nI md), .int (nI ch), .int (nI bn), .int (nI ft), .int (nI bd), .int (nI oc)])), (k, .inr (1, [.int (nI kc), .int (nI kr), .ref ks, .ref kf, .ref km])), (ks, aI g 64 (fun j => nI (st_ j))), (sl, aI g 64 (fun j => nI (x0.2.2 j)))] sz) s.heap [(r, .inr (3, [.ref o, .ref sl, .ref co_, .int (nI bad)])), (o, .inr (0, [.ref tp, .int (nI fb), .int (nI lim), .int (nI y.1), .int (nI y.2.1)])), (tp, aI g n (fun j => nI (T j))), (f, .inr (2, [.int (nI st), .int (nI ly), .int (nI ck), .int (nI rt), .int (nI sp), .int (nI byt), .int (nI md), .int (nI ch), .int (nI bn), .int (nI ft), .int (nI bd), .int (nI oc)])), (k, .inr (1, [.int (nI kc), .int (nI kr), .ref ks, .ref kf, .ref km])), (ks, aI g 64 (fun j => nI (st_ j))), (sl, aI g 64 (fun j => nI (y.2.2 j)))] H locs ∧ lv_has ls 6 [(0, .ref r), (1, .ref f), (2, .ref k), (3, .int (nI i)), (4, .int (nI c))]) (ch) ((pa, ba, ea)) ?_ ?_ (hJ) ⟨hw, (lv_sub hl [1, 2, 3, 4, 0] rfl)⟩
        · intro y hJ hx_ H locs ls hI
          subst hx_
          obtain ⟨hw, hl⟩ := hI
          have hw : Wd g (va_A [(r, .inr (3, [.ref o, .ref sl, .ref co_, .int (nI bad)])), (o, .inr (0, [.ref tp, .int (nI fb), .int (nI lim), .int (nI x0.1), .int (nI x0.2.1)])), (tp, aI g n (fun j => nI (T j))), (f, .inr (2, [.int (nI st), .int (nI ly), .int (nI ck), .int (nI rt), .int (nI sp), .int (nI byt), .int (nI md), .int (nI ch), .int (nI bn), .int (nI ft), .int (nI bd), .int (nI oc)])), (k, .inr (1, [.int (nI kc), .int (nI kr), .ref ks, .ref kf, .ref km])), (ks, aI g 64 (fun j => nI (st_ j))), (sl, aI g 64 (fun j => nI (x0.2.2 j)))] sz) s.heap [(r, .inr (3, [.ref o, .ref sl, .ref co_, .int (nI bad)])), (o, .inr (0, [.ref tp, .int (nI fb), .int (nI lim), .int (nI ((lp (seC T (8 * fb) lim st_ i) ch (pa, ba, ea)).1)), .int (nI ((lp (seC T (8 * fb) lim st_ i) ch (pa, ba, ea)).2.1))])), (tp, aI g n (fun j => nI (T j))), (f, .inr (2, [.int (nI st), .int (nI ly), .int (nI ck), .int (nI rt), .int (nI sp), .int (nI byt), .int (nI md), .int (nI ch), .int (nI bn), .int (nI ft), .int (nI bd), .int (nI oc)])), (k, .inr (1, [.int (nI kc), .int (nI kr), .ref ks, .ref kf, .ref km])), (ks, aI g 64 (fun j => nI (st_ j))), (sl, aI g 64 (fun j => nI ((lp (seC T (8 * fb) lim st_ i) ch (pa, ba, ea)).2.2 j)))] H locs := hw
          have hl : lv_has ls 6 [(0, .ref r), (1, .ref f), (2, .ref k), (3, .int (nI i)), (4, .int (nI ch))] := hl
          refine lv_iload hx hb dX3_takeSelections_30 (lv_at hl 4 rfl) ?_
          refine lv_aload_n hx hb dX3_takeSelections_32 rfl (lv_at hl 1 rfl) ?_
          refine r_get C hw in_X2 3 rfl rfl 7 (by decide) lk42 rfl dX3_takeSelections_33 ?_
          refine n_cge (tgt := 78) hx hb (by omega) (by omega) dX3_takeSelections_36 (by decide) (fun c_5 => ?_) (fun c_5 => ?_)
          · skip
            refine lv_iinc (v := (nI (i + 1))) (lv' := [(3, .int (nI (i + 1))), (0, .ref r), (1, .ref f), (2, .ref k), (4, .int (nI ch))]) hx hb dX3_takeSelections_78 hl (k := 3) rfl (nI_add _ _) (by decide) rfl (fun ls hl => ?_)
            refine lv_goto (tgt := 19) hx hb dX3_takeSelections_81 (by decide) ?_
            exact K (hJ) _ _ _ ⟨hw, (lv_sub hl [1, 2, 3, 0] rfl)⟩
          · skip
            exfalso; omega
        · intro c y hi hJ hxe H locs ls hI K
          obtain ⟨pb, bb, eb⟩ := y
          obtain ⟨hw, hl⟩ := hI
          dsimp only at hJ
          have hw : Wd g (va_A [(r, .inr (3, [.ref o, .ref sl, .ref co_, .int (nI bad)])), (o, .inr (0, [.ref tp, .int (nI fb), .int (nI lim), .int (nI x0.1), .int (nI x0.2.1)])), (tp, aI g n (fun j => nI (T j))), (f, .inr (2, [.int (nI st), .int (nI ly), .int (nI ck), .int (nI rt), .int (nI sp), .int (nI byt), .int (nI md), .int (nI ch), .int (nI bn), .int (nI ft), .int (nI bd), .int (nI oc)])), (k, .inr (1, [.int (nI kc), .int (nI kr), .ref ks, .ref kf, .ref km])), (ks, aI g 64 (fun j => nI (st_ j))), (sl, aI g 64 (fun j => nI (x0.2.2 j)))] sz) s.heap [(r, .inr (3, [.ref o, .ref sl, .ref co_, .int (nI bad)])), (o, .inr (0, [.ref tp, .int (nI fb), .int (nI lim), .int (nI pb), .int (nI bb)])), (tp, aI g n (fun j => nI (T j))), (f, .inr (2, [.int (nI st), .int (nI ly), .int (nI ck), .int (nI rt), .int (nI sp), .int (nI byt), .int (nI md), .int (nI ch), .int (nI bn), .int (nI ft), .int (nI bd), .int (nI oc)])), (k, .inr (1, [.int (nI kc), .int (nI kr), .ref ks, .ref kf, .ref km])), (ks, aI g 64 (fun j => nI (st_ j))), (sl, aI g 64 (fun j => nI (eb j)))] H locs := hw
          have hl : lv_has ls 6 [(0, .ref r), (1, .ref f), (2, .ref k), (3, .int (nI i)), (4, .int (nI c))] := hl
          have hJ1 := hJ
          have hs1 := stOK_le (hs (c * 32 + i))
          refine lv_iload hx hb dX3_takeSelections_30 (lv_at hl 4 rfl) ?_
          refine lv_aload_n hx hb dX3_takeSelections_32 rfl (lv_at hl 1 rfl) ?_
          refine r_get C hw in_X2 3 rfl rfl 7 (by decide) lk42 rfl dX3_takeSelections_33 ?_
          refine n_cge (tgt := 78) hx hb (by omega) (by omega) dX3_takeSelections_36 (by decide) (fun c_6 => ?_) (fun c_6 => ?_)
          · skip
            exfalso; omega
          · skip
            refine lv_iload hx hb dX3_takeSelections_39 (lv_at hl 4 rfl) ?_
            refine lv_iload_n hx hb dX3_takeSelections_41 rfl (lv_at hl 3 rfl) ?_
            refine k_Si (As := [.int (nI c), .int (nI i)]) (rest := []) (wr := [(r, .inr (3, [.ref o, .ref sl, .ref co_, .int (nI bad)])), (o, .inr (0, [.ref tp, .int (nI fb), .int (nI lim), .int (nI pb), .int (nI bb)])), (tp, aI g n (fun j => nI (T j))), (f, .inr (2, [.int (nI st), .int (nI ly), .int (nI ck), .int (nI rt), .int (nI sp), .int (nI byt), .int (nI md), .int (nI ch), .int (nI bn), .int (nI ft), .int (nI bd), .int (nI oc)])), (k, .inr (1, [.int (nI kc), .int (nI kr), .ref ks, .ref kf, .ref km])), (ks, aI g 64 (fun j => nI (st_ j))), (sl, aI g 64 (fun j => nI (eb j)))]) C hw (c_bandIndex l g _ c i) (va_cwS 2 hts gX3_takeSelections_X1_bandIndex rfl rfl rfl (by decide +kernel) ⟨Nat.le_of_ble_eq_true rfl, Nat.le_of_ble_eq_true rfl⟩) bl_T (fun _ _ _ => trivial) [] [0, 1, 2, 3, 4, 5, 6] (by decide) rfl rfl (by decide) (by decide) rfl hl.1 rfl (Nat.le_of_ble_eq_true rfl) dX3_takeSelections_42 ⟨Nat.le_of_ble_eq_true rfl, Nat.le_of_ble_eq_true rfl⟩ (fun r_7 u H locs hp hw => ?_)
            obtain ⟨rfl, rfl⟩ := hp
            have hw := Wd.sub (ws' := [(r, .inr (3, [.ref o, .ref sl, .ref co_, .int (nI bad)])), (o, .inr (0, [.ref tp, .int (nI fb), .int (nI lim), .int (nI pb), .int (nI bb)])), (tp, aI g n (fun j => nI (T j))), (f, .inr (2, [.int (nI st), .int (nI ly), .int (nI ck), .int (nI rt), .int (nI sp), .int (nI byt), .int (nI md), .int (nI ch), .int (nI bn), .int (nI ft), .int (nI bd), .int (nI oc)])), (k, .inr (1, [.int (nI kc), .int (nI kr), .ref ks, .ref kf, .ref km])), (ks, aI g 64 (fun j => nI (st_ j))), (sl, aI g 64 (fun j => nI (eb j)))]) hw [0, 1, 2, 3, 4, 5, 6] (by decide) rfl
            refine lv_istore (lv' := [(5, .int (nI (c * 32 + i))), (0, .ref r), (1, .ref f), (2, .ref k), (3, .int (nI i)), (4, .int (nI c))]) hx hb dX3_takeSelections_45 hl (by decide) rfl (fun ls hl => ?_)
            refine lv_aload_n hx hb dX3_takeSelections_47 rfl (lv_at hl 3 rfl) ?_
            refine r_get C hw in_X1 4 rfl rfl 2 (by decide) lk95 rfl dX3_takeSelections_48 ?_
            refine lv_iload hx hb dX3_takeSelections_51 (lv_at hl 0 rfl) ?_
            refine r_iald C hw 5 rfl (by omega) (by omega) dX3_takeSelections_53 ?_
            refine n_eq0 (tgt := 72) hx hb (by omega) dX3_takeSelections_54 (by decide) (fun c_s => ?_) (fun c_s => ?_)
            · skip
              refine lv_iinc (v := (nI (c + 1))) (lv' := [(4, .int (nI (c + 1))), (5, .int (nI (c * 32 + i))), (0, .ref r), (1, .ref f), (2, .ref k), (3, .int (nI i))]) hx hb dX3_takeSelections_72 hl (k := 5) rfl (nI_add _ _) (by decide) rfl (fun ls hl => ?_)
              refine lv_goto (tgt := 30) hx hb dX3_takeSelections_75 (by decide) ?_
              exact K (seC_j hJ1) _ _ _ ⟨(by unfold seC; first | (rw [if_pos c_s]; exact hw) | (rw [if_neg (by omega)]; exact hw)), (lv_sub hl [2, 3, 4, 5, 0] rfl)⟩
            · skip
              refine lv_aload_n hx hb dX3_takeSelections_57 rfl (lv_at hl 1 rfl) ?_
              refine r_get C hw in_X3 0 rfl rfl 1 (by decide) lk18 rfl dX3_takeSelections_58 ?_
              refine lv_iload hx hb dX3_takeSelections_61 (lv_at hl 0 rfl) ?_
              refine lv_aload_n hx hb dX3_takeSelections_63 rfl (lv_at hl 1 rfl) ?_
              refine r_get C hw in_X3 0 rfl rfl 0 (by decide) lk12 rfl dX3_takeSelections_64 ?_
              refine lv_iconst (v := nI 2) hx hb dX3_takeSelections_67 (by decide) ?_
              refine k_Vi (As := [.int (nI 2)]) (rest := [.int (nI (c * 32 + i)), .ref sl]) (wr := [(r, .inr (3, [.ref o, .ref sl, .ref co_, .int (nI bad)])), (f, .inr (2, [.int (nI st), .int (nI ly), .int (nI ck), .int (nI rt), .int (nI sp), .int (nI byt), .int (nI md), .int (nI ch), .int (nI bn), .int (nI ft), .int (nI bd), .int (nI oc)])), (k, .inr (1, [.int (nI kc), .int (nI kr), .ref ks, .ref kf, .ref km])), (ks, aI g 64 (fun j => nI (st_ j))), (sl, aI g 64 (fun j => nI (eb j)))]) C hw (c_take l g _ o tp n fb lim pb bb 2 T hT hn hl1 hJ.1 (by omega)) (cwV 1 hts gX3_takeSelections_X0_take rfl rfl rfl (by decide +kernel) ⟨Nat.le_of_ble_eq_true rfl, Nat.le_of_ble_eq_true rfl⟩) bl_T (fun _ _ _ => trivial) [1, 2] [0, 3, 4, 5, 6] (by decide) rfl rfl (by decide) (by decide) 1 rfl rfl rfl hl.1 rfl (Nat.le_of_ble_eq_true rfl) dX3_takeSelections_68 ⟨Nat.le_of_ble_eq_true rfl, Nat.le_of_ble_eq_true rfl⟩ (fun r_8 u H locs hp hw => ?_)
              obtain ⟨rfl, rfl⟩ := hp
              have hw := Wd.sub (ws' := [(r, .inr (3, [.ref o, .ref sl, .ref co_, .int (nI bad)])), (o, .inr (0, [.ref tp, .int (nI fb), .int (nI lim), .int (nI (tkP lim pb 2)), .int (nI (tkB lim pb 2 bb))])), (tp, aI g n (fun j => nI (T j))), (f, .inr (2, [.int (nI st), .int (nI ly), .int (nI ck), .int (nI rt), .int (nI sp), .int (nI byt), .int (nI md), .int (nI ch), .int (nI bn), .int (nI ft), .int (nI bd), .int (nI oc)])), (k, .inr (1, [.int (nI kc), .int (nI kr), .ref ks, .ref kf, .ref km])), (ks, aI g 64 (fun j => nI (st_ j))), (sl, aI g 64 (fun j => nI (eb j)))]) hw [0, 5, 6, 1, 2, 3, 4] (by decide) rfl
              refine r_iast C hw 6 rfl (by omega) (by omega) (ws' := [(r, .inr (3, [.ref o, .ref sl, .ref co_, .int (nI bad)])), (o, .inr (0, [.ref tp, .int (nI fb), .int (nI lim), .int (nI (tkP lim pb 2)), .int (nI (tkB lim pb 2 bb))])), (tp, aI g n (fun j => nI (T j))), (f, .inr (2, [.int (nI st), .int (nI ly), .int (nI ck), .int (nI rt), .int (nI sp), .int (nI byt), .int (nI md), .int (nI ch), .int (nI bn), .int (nI ft), .int (nI bd), .int (nI oc)])), (k, .inr (1, [.int (nI kc), .int (nI kr), .ref ks, .ref kf, .ref km])), (ks, aI g 64 (fun j => nI (st_ j))), (sl, aI g 64 (upd (fun j => nI (eb j)) (c * 32 + i) (nI (tkV T (8 * fb) lim pb 2))))]) rfl dX3_takeSelections_71 (fun H locs hw => ?_)
              rw [updN_I] at hw
              have hw : Wd g (va_A [(r, .inr (3, [.ref o, .ref sl, .ref co_, .int (nI bad)])), (o, .inr (0, [.ref tp, .int (nI fb), .int (nI lim), .int (nI x0.1), .int (nI x0.2.1)])), (tp, aI g n (fun j => nI (T j))), (f, .inr (2, [.int (nI st), .int (nI ly), .int (nI ck), .int (nI rt), .int (nI sp), .int (nI byt), .int (nI md), .int (nI ch), .int (nI bn), .int (nI ft), .int (nI bd), .int (nI oc)])), (k, .inr (1, [.int (nI kc), .int (nI kr), .ref ks, .ref kf, .ref km])), (ks, aI g 64 (fun j => nI (st_ j))), (sl, aI g 64 (fun j => nI (x0.2.2 j)))] sz) s.heap [(r, .inr (3, [.ref o, .ref sl, .ref co_, .int (nI bad)])), (o, .inr (0, [.ref tp, .int (nI fb), .int (nI lim), .int (nI (tkP lim pb 2)), .int (nI (tkB lim pb 2 bb))])), (tp, aI g n (fun j => nI (T j))), (f, .inr (2, [.int (nI st), .int (nI ly), .int (nI ck), .int (nI rt), .int (nI sp), .int (nI byt), .int (nI md), .int (nI ch), .int (nI bn), .int (nI ft), .int (nI bd), .int (nI oc)])), (k, .inr (1, [.int (nI kc), .int (nI kr), .ref ks, .ref kf, .ref km])), (ks, aI g 64 (fun j => nI (st_ j))), (sl, aI g 64 (fun j => nI (updN eb (c * 32 + i) (tkV T (8 * fb) lim pb 2) j)))] H locs := hw
              refine lv_iinc (v := (nI (c + 1))) (lv' := [(4, .int (nI (c + 1))), (5, .int (nI (c * 32 + i))), (0, .ref r), (1, .ref f), (2, .ref k), (3, .int (nI i))]) hx hb dX3_takeSelections_72 hl (k := 5) rfl (nI_add _ _) (by decide) rfl (fun ls hl => ?_)
              refine lv_goto (tgt := 30) hx hb dX3_takeSelections_75 (by decide) ?_
              exact K (seC_j hJ1) _ _ _ ⟨(by unfold seC; first | (rw [if_pos c_s]; exact hw) | (rw [if_neg (by omega)]; exact hw)), (lv_sub hl [2, 3, 4, 5, 0] rfl)⟩
  · skip
    exact r_vret C hw (Nat.le_refl _) (Nat.le_refl _) (by unfold seA; rw [if_pos (by omega)]) dX3_takeSelections_16
abbrev rm_c_checkOver : Room := { frames := 1, cells := 0, slots := 0, locals := 24 }
set_option maxHeartbeats 4000000 in
set_option maxRecDepth 100000 in
theorem c_checkOver (l : Launch) (g : GT) (sz : Nat) (r o sl co_ tp n fb lim : Nat) (T : Nat → Nat) (pos bey bad ck0 fr to_ N_ : Nat) (hT : ∀ j, T j < 256) (hn : n < 2 ^ 27) (hl1 : 8 * fb + lim ≤ 8 * n) (hN_ : N_ = to_ - fr) (hj : jK lim (fr, bey, ck0)) (h1 : to_ < 2 ^ 31) (h2 : fr < 2 ^ 30) : CtI l g yX3_checkOver wsX3_checkOver rm_c_checkOver [.ref r, .int (nI ck0), .int (nI fr), .int (nI to_)] [(r, .inr (3, [.ref o, .ref sl, .ref co_, .int (nI bad)])), (o, .inr (0, [.ref tp, .int (nI fb), .int (nI lim), .int (nI pos), .int (nI bey)])), (tp, aI g n (fun j => nI (T j)))] sz (fun _ => True) (fun rr u => rr = nI (lp (ckF T (8 * fb) lim) N_ (fr, bey, ck0)).2.2 ∧ u = [(r, .inr (3, [.ref o, .ref sl, .ref co_, .int (nI bad)])), (o, .inr (0, [.ref tp, .int (nI fb), .int (nI lim), .int (nI ((lp (ckF T (8 * fb) lim) N_ (fr, bey, ck0)).1)), .int (nI ((lp (ckF T (8 * fb) lim) N_ (fr, bey, ck0)).2.1))])), (tp, aI g n (fun j => nI (T j)))]) (0) (0) := by
  refine ct_body (cc := cX3_checkOver) (nL := 7) (ret := (some .int)) (by decide) rfl (Nat.le_of_ble_eq_true rfl) ?_
  intro p e s m below meth c ls C hin hsz hB hw hl
  obtain ⟨hx, hb, hml, hown, hts, hK, hA, hr, hlk⟩ := id C
  have lk12 := hts (.fieldLink RX3 12 "SoundBench$FrameReader" "bits" "LSoundBench$Bits;") (by decide +kernel)
  have lk117 := hts (.fieldLink RX3 117 "SoundBench$Bits" "position" "I") (by decide +kernel)
  have in_X3 : ∀ w ∈ wsX30, w ∈ wsX3_checkOver := by unfold wsX3_checkOver; intro w h; simp only [List.mem_cons, List.mem_append, h, or_true, true_or]
  have in_X0 : ∀ w ∈ wsX00, w ∈ wsX3_checkOver := by unfold wsX3_checkOver; intro w h; simp only [List.mem_cons, List.mem_append, h, or_true, true_or]
  have hl : lv_has ls 7 [(0, .ref r), (1, .int (nI ck0)), (2, .int (nI fr)), (3, .int (nI to_))] := hl
  have hw : Wd g (va_A [(r, .inr (3, [.ref o, .ref sl, .ref co_, .int (nI bad)])), (o, .inr (0, [.ref tp, .int (nI fb), .int (nI lim), .int (nI pos), .int (nI bey)])), (tp, aI g n (fun j => nI (T j)))] sz) s.heap [(r, .inr (3, [.ref o, .ref sl, .ref co_, .int (nI bad)])), (o, .inr (0, [.ref tp, .int (nI fb), .int (nI lim), .int (nI pos), .int (nI bey)])), (tp, aI g n (fun j => nI (T j)))] s.heap [] := hw
  refine lv_iload_n hx hb dX3_checkOver_0 rfl (lv_at hl 1 rfl) ?_
  refine lv_istore (lv' := [(4, .int (nI ck0)), (0, .ref r), (1, .int (nI ck0)), (2, .int (nI fr)), (3, .int (nI to_))]) hx hb dX3_checkOver_1 hl (by decide) rfl (fun ls hl => ?_)
  refine lv_aload_n hx hb dX3_checkOver_3 rfl (lv_at hl 1 rfl) ?_
  refine r_get C hw in_X3 0 rfl rfl 0 (by decide) lk12 rfl dX3_checkOver_4 ?_
  refine lv_iload_n hx hb dX3_checkOver_7 rfl (lv_at hl 3 rfl) ?_
  refine r_put C hw in_X0 tyX0_ok nmX0 1 rfl rfl 3 (by decide) lk117 rfl rfl rfl (Nat.le_of_ble_eq_true rfl) (ws' := [(r, .inr (3, [.ref o, .ref sl, .ref co_, .int (nI bad)])), (o, .inr (0, [.ref tp, .int (nI fb), .int (nI lim), .int (nI fr), .int (nI bey)])), (tp, aI g n (fun j => nI (T j)))]) rfl dX3_checkOver_8 (fun H locs hw => ?_)
  refine lv_iload_n hx hb dX3_checkOver_11 rfl (lv_at hl 3 rfl) ?_
  refine lv_istore (lv' := [(5, .int (nI fr)), (4, .int (nI ck0)), (0, .ref r), (1, .int (nI ck0)), (2, .int (nI fr)), (3, .int (nI to_))]) hx hb dX3_checkOver_12 hl (by decide) rfl (fun ls hl => ?_)
  refine lps (σ := Nat × Nat × Nat) (ckF T (8 * fb) lim) (fun i x => jK lim (x.1, x.2.1, x.2.2)) (fun i x H locs ls => Wd g (va_A [(r, .inr (3, [.ref o, .ref sl, .ref co_, .int (nI bad)])), (o, .inr (0, [.ref tp, .int (nI fb), .int (nI lim), .int (nI pos), .int (nI bey)])), (tp, aI g n (fun j => nI (T j)))] sz) s.heap [(r, .inr (3, [.ref o, .ref sl, .ref co_, .int (nI bad)])), (o, .inr (0, [.ref tp, .int (nI fb), .int (nI lim), .int (nI x.1), .int (nI x.2.1)])), (tp, aI g n (fun j => nI (T j)))] H locs ∧ lv_has ls 7 [(0, .ref r), (3, .int (nI to_)), (4, .int (nI x.2.2)), (5, .int (nI (fr + i)))]) (N_) ((fr, bey, ck0)) ?_ ?_ (hj) ⟨hw, (lv_sub hl [2, 5, 1, 0] rfl)⟩
  · intro x hJ hx_ H locs ls hI
    subst hx_
    obtain ⟨hw, hl⟩ := hI
    have hw : Wd g (va_A [(r, .inr (3, [.ref o, .ref sl, .ref co_, .int (nI bad)])), (o, .inr (0, [.ref tp, .int (nI fb), .int (nI lim), .int (nI pos), .int (nI bey)])), (tp, aI g n (fun j => nI (T j)))] sz) s.heap [(r, .inr (3, [.ref o, .ref sl, .ref co_, .int (nI bad)])), (o, .inr (0, [.ref tp, .int (nI fb), .int (nI lim), .int (nI ((lp (ckF T (8 * fb) lim) N_ (fr, bey, ck0)).1)), .int (nI ((lp (ckF T (8 * fb) lim) N_ (fr, bey, ck0)).2.1))])), (tp, aI g n (fun j => nI (T j)))] H locs := hw
    have hl : lv_has ls 7 [(0, .ref r), (3, .int (nI to_)), (4, .int (nI ((lp (ckF T (8 * fb) lim) N_ (fr, bey, ck0)).2.2))), (5, .int (nI (fr + N_)))] := hl
    refine lv_iload hx hb dX3_checkOver_14 (lv_at hl 3 rfl) ?_
    refine lv_iload_n hx hb dX3_checkOver_16 rfl (lv_at hl 1 rfl) ?_
    refine n_cge (tgt := 63) hx hb (by omega) (by omega) dX3_checkOver_17 (by decide) (fun c_1 => ?_) (fun c_1 => ?_)
    · skip
      refine lv_iload hx hb dX3_checkOver_63 (lv_at hl 2 rfl) ?_
      exact r_iret C hw (Nat.le_refl _) (Nat.le_refl _) (⟨rfl, rfl⟩) dX3_checkOver_65
    · skip
      exfalso; omega
  · intro i x hi hJ hxe H locs ls hI K
    obtain ⟨pa, ba, ca⟩ := x
    obtain ⟨hw, hl⟩ := hI
    dsimp only at hJ
    have hw : Wd g (va_A [(r, .inr (3, [.ref o, .ref sl, .ref co_, .int (nI bad)])), (o, .inr (0, [.ref tp, .int (nI fb), .int (nI lim), .int (nI pos), .int (nI bey)])), (tp, aI g n (fun j => nI (T j)))] sz) s.heap [(r, .inr (3, [.ref o, .ref sl, .ref co_, .int (nI bad)])), (o, .inr (0, [.ref tp, .int (nI fb), .int (nI lim), .int (nI pa), .int (nI ba)])), (tp, aI g n (fun j => nI (T j)))] H locs := hw
    have hl : lv_has ls 7 [(0, .ref r), (3, .int (nI to_)), (4, .int (nI ca)), (5, .int (nI (fr + i)))] := hl
    have hJ1 := hJ
    have hc := hJ.2.2
    dsimp only at hc
    have hv := tkV_lt T (8 * fb) lim pa 1
    refine lv_iload hx hb dX3_checkOver_14 (lv_at hl 3 rfl) ?_
    refine lv_iload_n hx hb dX3_checkOver_16 rfl (lv_at hl 1 rfl) ?_
    refine n_cge (tgt := 63) hx hb (by omega) (by omega) dX3_checkOver_17 (by decide) (fun c_2 => ?_) (fun c_2 => ?_)
    · skip
      exfalso; omega
    · skip
      refine lv_iload hx hb dX3_checkOver_20 (lv_at hl 2 rfl) ?_
      refine lv_iconst (v := nI 1) hx hb dX3_checkOver_22 (by decide) ?_
      refine n_shl (d := 2) hx hb (by decide) (by omega) (by omega) dX3_checkOver_23 ?_
      refine lv_ldc (v := nI 65535) hx hb hown (hts (.constant RX3 120 (65535)) (by decide +kernel)) dX3_checkOver_24 ?_
      refine n_and (d := 65536) hx hb 16 (by decide) (by decide) (by omega) (by omega) dX3_checkOver_26 ?_
      refine lv_istore (lv' := [(6, .int (nI ((ca * 2) % 65536))), (0, .ref r), (3, .int (nI to_)), (4, .int (nI ca)), (5, .int (nI (fr + i)))]) hx hb dX3_checkOver_27 hl (by decide) rfl (fun ls hl => ?_)
      refine lv_iload hx hb dX3_checkOver_29 (lv_at hl 3 rfl) ?_
      refine lv_bipush (v := nI 15) hx hb dX3_checkOver_31 (by decide) ?_
      refine n_shr (d := 32768) hx hb (by decide) (by omega) (by omega) dX3_checkOver_33 ?_
      refine lv_aload_n hx hb dX3_checkOver_34 rfl (lv_at hl 1 rfl) ?_
      refine r_get C hw in_X3 0 rfl rfl 0 (by decide) lk12 rfl dX3_checkOver_35 ?_
      refine lv_iconst (v := nI 1) hx hb dX3_checkOver_38 (by decide) ?_
      refine k_Vi (As := [.int (nI 1)]) (rest := [.int (nI (ca / 32768))]) (wr := [(r, .inr (3, [.ref o, .ref sl, .ref co_, .int (nI bad)]))]) C hw (c_take l g _ o tp n fb lim pa ba 1 T hT hn hl1 hJ.1 (by omega)) (cwV 1 hts gX3_checkOver_X0_take rfl rfl rfl (by decide +kernel) ⟨Nat.le_of_ble_eq_true rfl, Nat.le_of_ble_eq_true rfl⟩) bl_T (fun _ _ _ => trivial) [1, 2] [0] (by decide) rfl rfl (by decide) (by decide) 1 rfl rfl rfl hl.1 rfl (Nat.le_of_ble_eq_true rfl) dX3_checkOver_39 ⟨Nat.le_of_ble_eq_true rfl, Nat.le_of_ble_eq_true rfl⟩ (fun r_3 u H locs hp hw => ?_)
      obtain ⟨rfl, rfl⟩ := hp
      have hw := Wd.sub (ws' := [(r, .inr (3, [.ref o, .ref sl, .ref co_, .int (nI bad)])), (o, .inr (0, [.ref tp, .int (nI fb), .int (nI lim), .int (nI (tkP lim pa 1)), .int (nI (tkB lim pa 1 ba))])), (tp, aI g n (fun j => nI (T j)))]) hw [0, 1, 2] (by decide) rfl
      refine jw (pcj := 55) (restj := [.int (nI (if ca / 32768 = tkV T (8 * fb) lim pa 1 then ca * 2 % 65536 else (ca * 2 % 65536) ^^^ 32773))]) (fun H locs ls => Wd g (va_A [(r, .inr (3, [.ref o, .ref sl, .ref co_, .int (nI bad)])), (o, .inr (0, [.ref tp, .int (nI fb), .int (nI lim), .int (nI pos), .int (nI bey)])), (tp, aI g n (fun j => nI (T j)))] sz) s.heap [(r, .inr (3, [.ref o, .ref sl, .ref co_, .int (nI bad)])), (o, .inr (0, [.ref tp, .int (nI fb), .int (nI lim), .int (nI (tkP lim pa 1)), .int (nI (tkB lim pa 1 ba))])), (tp, aI g n (fun j => nI (T j)))] H locs ∧ lv_has ls 7 [(6, .int (nI ((ca * 2) % 65536))), (0, .ref r), (3, .int (nI to_)), (4, .int (nI ca)), (5, .int (nI (fr + i)))]) ?_ ?_
      · intro H locs ls hJ
        obtain ⟨hw, hl⟩ := hJ
        refine lv_istore (lv' := [(4, .int (nI (if ca / 32768 = tkV T (8 * fb) lim pa 1 then ca * 2 % 65536 else (ca * 2 % 65536) ^^^ 32773))), (6, .int (nI ((ca * 2) % 65536))), (0, .ref r), (3, .int (nI to_)), (5, .int (nI (fr + i)))]) hx hb dX3_checkOver_55 hl (by decide) rfl (fun ls hl => ?_)
        refine lv_iinc (v := (nI (fr + i + 1))) (lv' := [(5, .int (nI (fr + i + 1))), (4, .int (nI (if ca / 32768 = tkV T (8 * fb) lim pa 1 then ca * 2 % 65536 else (ca * 2 % 65536) ^^^ 32773))), (6, .int (nI ((ca * 2) % 65536))), (0, .ref r), (3, .int (nI to_))]) hx hb dX3_checkOver_57 hl (k := 4) rfl (nI_add _ _) (by decide) rfl (fun ls hl => ?_)
        refine lv_goto (tgt := 14) hx hb dX3_checkOver_60 (by decide) ?_
        exact K (ckF_j (i := i) hJ1) _ _ _ ⟨hw, (lv_sub hl [3, 4, 1, 0] rfl)⟩
      · intro J_4
        refine n_ceq (tgt := 53) hx hb (by omega) (by omega) dX3_checkOver_42 (by decide) (fun c_e => ?_) (fun c_e => ?_)
        · skip
          refine lv_iload hx hb dX3_checkOver_53 (lv_at hl 0 rfl) ?_
          refine tp1 (v' := (nI (if ca / 32768 = tkV T (8 * fb) lim pa 1 then ca * 2 % 65536 else (ca * 2 % 65536) ^^^ 32773))) (by first | rw [if_pos c_e] | (rw [if_neg c_e]; exact nI_xor _ _)) ?_
          exact J_4 _ _ _ ⟨hw, (lv_sub hl [0, 1, 2, 3, 4] rfl)⟩
        · skip
          refine lv_iload hx hb dX3_checkOver_45 (lv_at hl 0 rfl) ?_
          refine lv_ldc (v := nI 32773) hx hb hown (hts (.constant RX3 125 (32773)) (by decide +kernel)) dX3_checkOver_47 ?_
          refine lv_ixor hx hb dX3_checkOver_49 ?_
          refine lv_goto (tgt := 55) hx hb dX3_checkOver_50 (by decide) ?_
          refine tp1 (v' := (nI (if ca / 32768 = tkV T (8 * fb) lim pa 1 then ca * 2 % 65536 else (ca * 2 % 65536) ^^^ 32773))) (by first | rw [if_pos c_e] | (rw [if_neg c_e]; exact nI_xor _ _)) ?_
          exact J_4 _ _ _ ⟨hw, (lv_sub hl [0, 1, 2, 3, 4] rfl)⟩
abbrev rm_c_checkOfBits : Room := { frames := 2, cells := 0, slots := 0, locals := 50 }
set_option maxHeartbeats 4000000 in
set_option maxRecDepth 100000 in
theorem c_checkOfBits (l : Launch) (g : GT) (sz : Nat) (r o sl co_ tp n fb lim : Nat) (T : Nat → Nat) (bad K : Nat) (x0 : Nat × Nat) (hT : ∀ j, T j < 256) (hn : n < 2 ^ 27) (hl1 : 8 * fb + lim ≤ 8 * n) (hK_ : K = 16) (hp : x0.1 ≤ lim) (hb1 : x0.2 ≤ 1) (h1 : 48 ≤ lim) : CtI l g yX3_checkOfBits wsX3_checkOfBits rm_c_checkOfBits [.ref r] [(r, .inr (3, [.ref o, .ref sl, .ref co_, .int (nI bad)])), (o, .inr (0, [.ref tp, .int (nI fb), .int (nI lim), .int (nI x0.1), .int (nI x0.2)])), (tp, aI g n (fun j => nI (T j)))] sz (fun _ => True) (fun rr u => rr = nI (lp (ckF T (8 * fb) lim) (x0.1 - 48) (48, (lp (ckF T (8 * fb) lim) K (16, x0.2, 65535)).2.1, (lp (ckF T (8 * fb) lim) K (16, x0.2, 65535)).2.2)).2.2 ∧ u = [(r, .inr (3, [.ref o, .ref sl, .ref co_, .int (nI bad)])), (o, .inr (0, [.ref tp, .int (nI fb), .int (nI lim), .int (nI ((lp (ckF T (8 * fb) lim) (x0.1 - 48) (48, (lp (ckF T (8 * fb) lim) K (16, x0.2, 65535)).2.1, (lp (ckF T (8 * fb) lim) K (16, x0.2, 65535)).2.2)).1)), .int (nI ((lp (ckF T (8 * fb) lim) (x0.1 - 48) (48, (lp (ckF T (8 * fb) lim) K (16, x0.2, 65535)).2.1, (lp (ckF T (8 * fb) lim) K (16, x0.2, 65535)).2.2)).2.1))])), (tp, aI g n (fun j => nI (T j)))]) (0) (0) := by
  refine ct_body (cc := cX3_checkOfBits) (nL := 3) (ret := (some .int)) (by decide) rfl (Nat.le_of_ble_eq_true rfl) ?_
  intro p e s m below meth c ls C hin hsz hB hw hl
  obtain ⟨hx, hb, hml, hown, hts, hK, hA, hr, hlk⟩ := id C
  have lk12 := hts (.fieldLink RX3 12 "SoundBench$FrameReader" "bits" "LSoundBench$Bits;") (by decide +kernel)
  have lk117 := hts (.fieldLink RX3 117 "SoundBench$Bits" "position" "I") (by decide +kernel)
  have in_X3 : ∀ w ∈ wsX30, w ∈ wsX3_checkOfBits := by unfold wsX3_checkOfBits; intro w h; simp only [List.mem_cons, List.mem_append, h, or_true, true_or]
  have in_X0 : ∀ w ∈ wsX00, w ∈ wsX3_checkOfBits := by unfold wsX3_checkOfBits; intro w h; simp only [List.mem_cons, List.mem_append, h, or_true, true_or]
  have hl : lv_has ls 3 [(0, .ref r)] := hl
  have hw : Wd g (va_A [(r, .inr (3, [.ref o, .ref sl, .ref co_, .int (nI bad)])), (o, .inr (0, [.ref tp, .int (nI fb), .int (nI lim), .int (nI x0.1), .int (nI x0.2)])), (tp, aI g n (fun j => nI (T j)))] sz) s.heap [(r, .inr (3, [.ref o, .ref sl, .ref co_, .int (nI bad)])), (o, .inr (0, [.ref tp, .int (nI fb), .int (nI lim), .int (nI x0.1), .int (nI x0.2)])), (tp, aI g n (fun j => nI (T j)))] s.heap [] := hw
  have hj1 : jK lim (16, x0.2, 65535) := ⟨by show 16 ≤ lim; omega, hb1, by show 65535 < 65536; omega⟩
  have hj2 : jK lim (lp (ckF T (8 * fb) lim) K (16, x0.2, 65535)) := lp_inv (jK lim) hj1 (fun i _ _ h => ckF_j (i := i) h)
  have hj3 : jK lim (48, (lp (ckF T (8 * fb) lim) K (16, x0.2, 65535)).2.1, (lp (ckF T (8 * fb) lim) K (16, x0.2, 65535)).2.2) := ⟨h1, hj2.2.1, hj2.2.2⟩
  refine lv_aload_n hx hb dX3_checkOfBits_0 rfl (lv_at hl 0 rfl) ?_
  refine r_get C hw in_X3 0 rfl rfl 0 (by decide) lk12 rfl dX3_checkOfBits_1 ?_
  refine r_get C hw in_X0 1 rfl rfl 3 (by decide) lk117 rfl dX3_checkOfBits_4 ?_
  refine lv_istore_n (lv' := [(1, .int (nI x0.1)), (0, .ref r)]) hx hb dX3_checkOfBits_7 rfl hl (by decide) rfl (fun ls hl => ?_)
  refine lv_aload_n hx hb dX3_checkOfBits_8 rfl (lv_at hl 1 rfl) ?_
  refine lv_ldc (v := nI 65535) hx hb hown (hts (.constant RX3 120 (65535)) (by decide +kernel)) dX3_checkOfBits_9 ?_
  refine lv_bipush (v := nI 16) hx hb dX3_checkOfBits_11 (by decide) ?_
  refine lv_bipush (v := nI 32) hx hb dX3_checkOfBits_13 (by decide) ?_
  refine k_Vi (As := [.int (nI 65535), .int (nI 16), .int (nI 32)]) (rest := []) (wr := []) C hw (c_checkOver l g _ r o sl co_ tp n fb lim T x0.1 x0.2 bad 65535 16 32 K hT hn hl1 (by omega) hj1 (by omega) (by omega)) (cwV 3 hts gX3_checkOfBits_X3_checkOver rfl rfl rfl (by decide +kernel) ⟨Nat.le_of_ble_eq_true rfl, Nat.le_of_ble_eq_true rfl⟩) bl_T (fun _ _ _ => trivial) [0, 1, 2] [] (by decide) rfl rfl (by decide) (by decide) 0 rfl rfl rfl hl.1 rfl (Nat.le_of_ble_eq_true rfl) dX3_checkOfBits_15 ⟨Nat.le_of_ble_eq_true rfl, Nat.le_of_ble_eq_true rfl⟩ (fun r_1 u H locs hp hw => ?_)
  obtain ⟨rfl, rfl⟩ := hp
  have hw := Wd.sub (ws' := [(r, .inr (3, [.ref o, .ref sl, .ref co_, .int (nI bad)])), (o, .inr (0, [.ref tp, .int (nI fb), .int (nI lim), .int (nI ((lp (ckF T (8 * fb) lim) K (16, x0.2, 65535)).1)), .int (nI ((lp (ckF T (8 * fb) lim) K (16, x0.2, 65535)).2.1))])), (tp, aI g n (fun j => nI (T j)))]) hw [0, 1, 2] (by decide) rfl
  refine lv_istore_n (lv' := [(2, .int (nI ((lp (ckF T (8 * fb) lim) K (16, x0.2, 65535)).2.2))), (1, .int (nI x0.1)), (0, .ref r)]) hx hb dX3_checkOfBits_18 rfl hl (by decide) rfl (fun ls hl => ?_)
  refine lv_aload_n hx hb dX3_checkOfBits_19 rfl (lv_at hl 2 rfl) ?_
  refine lv_iload_n hx hb dX3_checkOfBits_20 rfl (lv_at hl 0 rfl) ?_
  refine lv_bipush (v := nI 48) hx hb dX3_checkOfBits_21 (by decide) ?_
  refine lv_iload_n hx hb dX3_checkOfBits_23 rfl (lv_at hl 1 rfl) ?_
  refine k_Vi (As := [.int (nI ((lp (ckF T (8 * fb) lim) K (16, x0.2, 65535)).2.2)), .int (nI 48), .int (nI x0.1)]) (rest := []) (wr := []) C hw (c_checkOver l g _ r o sl co_ tp n fb lim T (lp (ckF T (8 * fb) lim) K (16, x0.2, 65535)).1 (lp (ckF T (8 * fb) lim) K (16, x0.2, 65535)).2.1 bad (lp (ckF T (8 * fb) lim) K (16, x0.2, 65535)).2.2 48 x0.1 (x0.1 - 48) hT hn hl1 rfl hj3 (by omega) (by omega)) (cwV 3 hts gX3_checkOfBits_X3_checkOver rfl rfl rfl (by decide +kernel) ⟨Nat.le_of_ble_eq_true rfl, Nat.le_of_ble_eq_true rfl⟩) bl_T (fun _ _ _ => trivial) [0, 1, 2] [] (by decide) rfl rfl (by decide) (by decide) 0 rfl rfl rfl hl.1 rfl (Nat.le_of_ble_eq_true rfl) dX3_checkOfBits_24 ⟨Nat.le_of_ble_eq_true rfl, Nat.le_of_ble_eq_true rfl⟩ (fun r_2 u H locs hp hw => ?_)
  obtain ⟨rfl, rfl⟩ := hp
  have hw := Wd.sub (ws' := [(r, .inr (3, [.ref o, .ref sl, .ref co_, .int (nI bad)])), (o, .inr (0, [.ref tp, .int (nI fb), .int (nI lim), .int (nI ((lp (ckF T (8 * fb) lim) (x0.1 - 48) (48, (lp (ckF T (8 * fb) lim) K (16, x0.2, 65535)).2.1, (lp (ckF T (8 * fb) lim) K (16, x0.2, 65535)).2.2)).1)), .int (nI ((lp (ckF T (8 * fb) lim) (x0.1 - 48) (48, (lp (ckF T (8 * fb) lim) K (16, x0.2, 65535)).2.1, (lp (ckF T (8 * fb) lim) K (16, x0.2, 65535)).2.2)).2.1))])), (tp, aI g n (fun j => nI (T j)))]) hw [0, 1, 2] (by decide) rfl
  exact r_iret C hw (Nat.le_refl _) (Nat.le_refl _) (⟨rfl, rfl⟩) dX3_checkOfBits_27
