theorem inJx4a65c : ∀ w ∈ wsJx4a65c0, w ∈ lw_tbl := fun w h => wsL_law_in w (inlJx4a65c w h)
theorem sx_start {b : Nat} {s : State} (hts : ∀ w ∈ lw_tbl, w.before #[Value.ref b] s = true) (hg : (Jvm.Cond.and given_1 narrow_1).before #[Value.ref b] s = true) : ∃ tb : Nat → Nat, Sx tb (aS s) s s.heap := by
  have hs := flat_of_before _ hg
  obtain ⟨t0, z0⟩ := tbst_0 hts hg
  obtain ⟨t1, z1⟩ := tbst_1 hts hg
  obtain ⟨t2, z2⟩ := tbst_2 hts hg
  obtain ⟨t3, z3⟩ := tbst_3 hts hg
  obtain ⟨t4, z4⟩ := tbst_4 hts hg
  obtain ⟨t5, z5⟩ := tbst_5 hts hg
  obtain ⟨t6, z6⟩ := tbst_6 hts hg
  obtain ⟨t7, z7⟩ := tbst_7 hts hg
  obtain ⟨t8, z8⟩ := tbst_8 hts hg
  obtain ⟨t9, z9⟩ := tbst_9 hts hg
  obtain ⟨t10, z10⟩ := tbst_10 hts hg
  obtain ⟨t11, g1, g2⟩ := va_Tof (A := aS s) (tm := .static sE "DEFAULTCAPACITY_EMPTY_ELEMENTDATA" "[Ljava/lang/Object;") (ty := .object "java/lang/Object") (N := 0) (f := fun _ => .null) (by omega) (hs _ (by decide +kernel)) (va_eqt (hs (Cond.eq (.length (.static sE "DEFAULTCAPACITY_EMPTY_ELEMENTDATA" "[Ljava/lang/Object;")) (.int (Int32.ofNat 0))) (by decide +kernel))) (fun j hj => absurd hj (Nat.not_lt_zero j)) (fun a h => Nat.not_le.mpr h)
  have g3 : va_Z sE "DEFAULTCAPACITY_EMPTY_ELEMENTDATA" "[Ljava/lang/Object;" (.ref t11) (aS s) s s.heap := va_Zref (hts (.laysStatic sE "DEFAULTCAPACITY_EMPTY_ELEMENTDATA" "[Ljava/lang/Object;") (by decide +kernel)) (hts (.initialized sE) (by decide +kernel)) g1 (fun a h => Nat.not_le.mpr h)
  obtain ⟨t12, g4⟩ := va_Mi.of (C := "[Ljava/lang/Object;") (hs (Cond.isRef (.mirror "[Ljava/lang/Object;")) (by decide +kernel))
  refine ⟨ixL 0 [t0, t1, t2, t3, t4, t5, t6, t7, t8, t9, t10, t11, t12], ?_, g3, g2, g4, va_Dc.of (hts (.declares ⟨"java/lang/Object", "getClass", "()Ljava/lang/Class;"⟩) (by decide +kernel)), va_AO.of (hts (.arrayOver (.object "java/lang/Object")) (by decide +kernel)), va_Nw.of rfl (hts (.castable RX2 "java/lang/Object") (by decide +kernel)), va_Nw.of rfl (hts (.methodLinkNest RX3 11 yX0_init RX6) (by decide +kernel)), va_Nw.of rfl (hts (.methodLinkNest RX6 32 yX3_init RX6) (by decide +kernel)), va_Nw.of rfl (hts (.methodLinkNest RX6 39 yX1_init RX6) (by decide +kernel))⟩
  intro k hk
  rcases (show k = 0 ∨ k = 1 ∨ k = 2 ∨ k = 3 ∨ k = 4 ∨ k = 5 ∨ k = 6 ∨ k = 7 ∨ k = 8 ∨ k = 9 ∨ k = 10 by omega) with rfl | rfl | rfl | rfl | rfl | rfl | rfl | rfl | rfl | rfl | rfl
  · exact z0
  · exact z1
  · exact z2
  · exact z3
  · exact z4
  · exact z5
  · exact z6
  · exact z7
  · exact z8
  · exact z9
  · exact z10
theorem k_start {b : Nat} {s : State} (hts : ∀ w ∈ lw_tbl, w.before #[Value.ref b] s = true) : ∃ g : GT, va_K g.1 cls9 (tys6 g) s ∧ OvB s := by
  obtain ⟨c0, i0_, hk0⟩ := u_known (C := RX0) (T := TX0) (N := 5) (n := 5) hts inX0 (hts (.instantiable RX0 5) (by decide +kernel))
  obtain ⟨c1, i1_, hk1⟩ := u_known (C := RX1) (T := TX1) (N := 5) (n := 5) hts inX1 (hts (.instantiable RX1 5) (by decide +kernel))
  obtain ⟨c2, i2_, hk2⟩ := u_known (C := RX2) (T := TX2) (N := 12) (n := 12) hts inX2 (hts (.instantiable RX2 12) (by decide +kernel))
  obtain ⟨c3, i3_, hk3⟩ := u_known (C := RX3) (T := TX3) (N := 4) (n := 4) hts inX3 (hts (.instantiable RX3 4) (by decide +kernel))
  obtain ⟨c4, i4_, hk4⟩ := u_known (C := RX4) (T := TX4) (N := 6) (n := 6) hts inX4 (hts (.instantiable RX4 6) (by decide +kernel))
  obtain ⟨c5, i5_, hk5⟩ := u_known (C := RX5) (T := TX5) (N := 2) (n := 2) hts inX5 (hts (.instantiable RX5 2) (by decide +kernel))
  obtain ⟨c6, i6_, hk6⟩ := u_known (C := RX6) (T := TX6) (N := 10) (n := 10) hts inX6 (hts (.instantiable RX6 10) (by decide +kernel))
  obtain ⟨c7, i7_, hk7⟩ := u_known (C := RX7) (T := TX7) (N := 40) (n := 40) hts inX7 (hts (.instantiable RX7 40) (by decide +kernel))
  obtain ⟨c8, i8_, hk8⟩ := u_known (C := RJx4a65c) (T := TJx4a65c) (N := 3) (n := 3) hts inJx4a65c (hts (.instantiable RJx4a65c 3) (by decide +kernel))
  obtain ⟨aI_, kI, pI, i1, i2, i3⟩ := Cond.arrayClass_spec (hts (.arrayClass .int) (by decide +kernel))
  obtain ⟨aJ_, kJ, pJ, j1, j2, j3⟩ := Cond.arrayClass_spec (hts (.arrayClass .long) (by decide +kernel))
  obtain ⟨aB_, kB, pB, b1, b2, b3⟩ := Cond.arrayClass_spec (hts (.arrayClass .byte) (by decide +kernel))
  obtain ⟨pO, aO_, kO, o0, -, o2, o3, o1⟩ := Cond.arrayOver_spec (hts (.arrayOver (.object "java/lang/Object")) (by decide +kernel))
  obtain ⟨pK, aK_, kK, k0, -, k2, k3, k1⟩ := arrayOverA_spec (hts (.arrayOver (.array .int)) (by decide +kernel))
  obtain ⟨pL, aL_, kL, l0, -, l2, l3, l1⟩ := arrayOverA_spec (hts (.arrayOver (.array (.array .int))) (by decide +kernel))
  refine ⟨((ixL c0 [c0, c1, c2, c3, c4, c5, c6, c7, c8], ixL i0_ [i0_, i1_, i2_, i3_, i4_, i5_, i6_, i7_, i8_]), aI_, aJ_, aB_, aO_, aK_, aL_), ⟨?_, ?_⟩, ⟨pK, aK_, kK, k0, k2, k3, k1⟩, ⟨pL, aL_, kL, l0, l2, l3, l1⟩, va_any rfl (hts (.classLink RX7 29 "[[[I") (by decide +kernel))⟩
  · intro k q hq
    match k, hq with
    | 0, hq => cases hq; exact hk0
    | 1, hq => cases hq; exact hk1
    | 2, hq => cases hq; exact hk2
    | 3, hq => cases hq; exact hk3
    | 4, hq => cases hq; exact hk4
    | 5, hq => cases hq; exact hk5
    | 6, hq => cases hq; exact hk6
    | 7, hq => cases hq; exact hk7
    | 8, hq => cases hq; exact hk8
    | k + 9, hq => simp at hq
  · intro k q hq
    match k, hq with
    | 0, hq => cases hq; exact ⟨fun n z => ⟨fun k h => (by cases h), kI, i2, pI, i3⟩, i1⟩
    | 1, hq => cases hq; exact ⟨fun n z => ⟨fun k h => (by cases h), kJ, j2, pJ, j3⟩, j1⟩
    | 2, hq => cases hq; exact ⟨fun n z => ⟨fun k h => (by cases h), kB, b2, pB, b3⟩, b1⟩
    | 3, hq => cases hq; exact ⟨fun n z => ⟨fun k h => (by cases h), kO, o2, pO, o3⟩, kO, pO, o2, o3, o0, o1⟩
    | 4, hq => cases hq; exact ⟨fun n z => ⟨fun k h => (by cases h), kK, k2, pK, k3⟩, k1⟩
    | 5, hq => cases hq; exact ⟨fun n z => ⟨fun k h => (by cases h), kL, l2, pL, l3⟩, l1⟩
    | k + 6, hq => simp at hq
