/-! what the start gives: tables, classes -/
abbrev aS (s : State) : Nat → Prop := fun q => s.heap.size ≤ q
theorem st_one {args : Array Value} {s : State} (k : Nat) (n : Nat) (hn : (tab k).length = n) (h31 : n < 2 ^ 31) (hl : (Cond.laysStatic (sC k) (sN k) "[I").before args s = true) (hi : (Cond.initialized (sC k)).before args s = true) (ha : (Cond.arrayOf (.static (sC k) (sN k) "[I") .int).before args s = true) (he : (Cond.eq (.length (.static (sC k) (sN k) "[I")) (.int (Int32.ofNat n))).before args s = true) (hv : ∀ j, j < n → (Cond.eq (.elem (.static (sC k) (sN k) "[I") (.int (Int32.ofNat j))) (.int (sV k j))).before args s = true) : ∃ t : Nat, va_Z (sC k) (sN k) "[I" (.ref t) (aS s) s s.heap ∧ va_T .int t (tab k).length (fun j => .int (sV k j)) (aS s) s s.heap := by
  subst hn
  obtain ⟨t, h1, h2⟩ := va_Tof (A := aS s) h31 ha (va_eqt he) (f := fun j => .int (sV k j)) (fun j hj => va_eqt (hv j hj)) (fun a h => Nat.not_le.mpr h)
  exact ⟨t, va_Zref hl hi h1 (fun a h => Nat.not_le.mpr h), h2⟩
theorem mem_run {α : Type} {l : List α} {f : Nat → α} (n m : Nat) (h : (l.drop n).take m = (List.range m).map f) : ∀ j, j < m → f j ∈ l := fun j hj => List.mem_of_mem_drop (List.mem_of_mem_take (by rw [h]; exact List.mem_map.mpr ⟨j, List.mem_range.mpr hj, rfl⟩))
set_option maxRecDepth 100000 in
theorem tbin_0 : ∀ j, j < 15 → Cond.eq (.elem (.static (sC 0) (sN 0) "[I") (.int (Int32.ofNat j))) (.int (sV 0 j)) ∈ flatC (Jvm.Cond.and given_1 narrow_1) := mem_run (f := fun j => Cond.eq (.elem (.static (sC 0) (sN 0) "[I") (.int (Int32.ofNat j))) (.int (sV 0 j))) 313 15 (by decide +kernel)
theorem tbst_0 {b : Nat} {s : State} (hts : ∀ w ∈ lw_tbl, w.before #[Value.ref b] s = true) (hg : (Jvm.Cond.and given_1 narrow_1).before #[Value.ref b] s = true) : ∃ t : Nat, va_Z (sC 0) (sN 0) "[I" (.ref t) (aS s) s s.heap ∧ va_T .int t (tab 0).length (fun j => .int (sV 0 j)) (aS s) s s.heap :=
  have hs := flat_of_before _ hg
  st_one 0 15 (by decide +kernel) (by omega) (hts _ (by decide +kernel)) (hts _ (by decide +kernel)) (hs _ (by decide +kernel)) (hs _ (by decide +kernel)) (fun j hj => hs _ (tbin_0 j hj))
set_option maxRecDepth 100000 in
theorem tbin_1 : ∀ j, j < 3 → Cond.eq (.elem (.static (sC 1) (sN 1) "[I") (.int (Int32.ofNat j))) (.int (sV 1 j)) ∈ flatC (Jvm.Cond.and given_1 narrow_1) := mem_run (f := fun j => Cond.eq (.elem (.static (sC 1) (sN 1) "[I") (.int (Int32.ofNat j))) (.int (sV 1 j))) 307 3 (by decide +kernel)
theorem tbst_1 {b : Nat} {s : State} (hts : ∀ w ∈ lw_tbl, w.before #[Value.ref b] s = true) (hg : (Jvm.Cond.and given_1 narrow_1).before #[Value.ref b] s = true) : ∃ t : Nat, va_Z (sC 1) (sN 1) "[I" (.ref t) (aS s) s s.heap ∧ va_T .int t (tab 1).length (fun j => .int (sV 1 j)) (aS s) s s.heap :=
  have hs := flat_of_before _ hg
  st_one 1 3 (by decide +kernel) (by omega) (hts _ (by decide +kernel)) (hts _ (by decide +kernel)) (hs _ (by decide +kernel)) (hs _ (by decide +kernel)) (fun j hj => hs _ (tbin_1 j hj))
set_option maxRecDepth 100000 in
theorem tbin_2 : ∀ j, j < 15 → Cond.eq (.elem (.static (sC 2) (sN 2) "[I") (.int (Int32.ofNat j))) (.int (sV 2 j)) ∈ flatC (Jvm.Cond.and given_1 narrow_1) := mem_run (f := fun j => Cond.eq (.elem (.static (sC 2) (sN 2) "[I") (.int (Int32.ofNat j))) (.int (sV 2 j))) 359 15 (by decide +kernel)
theorem tbst_2 {b : Nat} {s : State} (hts : ∀ w ∈ lw_tbl, w.before #[Value.ref b] s = true) (hg : (Jvm.Cond.and given_1 narrow_1).before #[Value.ref b] s = true) : ∃ t : Nat, va_Z (sC 2) (sN 2) "[I" (.ref t) (aS s) s s.heap ∧ va_T .int t (tab 2).length (fun j => .int (sV 2 j)) (aS s) s s.heap :=
  have hs := flat_of_before _ hg
  st_one 2 15 (by decide +kernel) (by omega) (hts _ (by decide +kernel)) (hts _ (by decide +kernel)) (hs _ (by decide +kernel)) (hs _ (by decide +kernel)) (fun j hj => hs _ (tbin_2 j hj))
set_option maxRecDepth 100000 in
theorem tbin_3 : ∀ j, j < 15 → Cond.eq (.elem (.static (sC 3) (sN 3) "[I") (.int (Int32.ofNat j))) (.int (sV 3 j)) ∈ flatC (Jvm.Cond.and given_1 narrow_1) := mem_run (f := fun j => Cond.eq (.elem (.static (sC 3) (sN 3) "[I") (.int (Int32.ofNat j))) (.int (sV 3 j))) 377 15 (by decide +kernel)
theorem tbst_3 {b : Nat} {s : State} (hts : ∀ w ∈ lw_tbl, w.before #[Value.ref b] s = true) (hg : (Jvm.Cond.and given_1 narrow_1).before #[Value.ref b] s = true) : ∃ t : Nat, va_Z (sC 3) (sN 3) "[I" (.ref t) (aS s) s s.heap ∧ va_T .int t (tab 3).length (fun j => .int (sV 3 j)) (aS s) s s.heap :=
  have hs := flat_of_before _ hg
  st_one 3 15 (by decide +kernel) (by omega) (hts _ (by decide +kernel)) (hts _ (by decide +kernel)) (hs _ (by decide +kernel)) (hs _ (by decide +kernel)) (fun j hj => hs _ (tbin_3 j hj))
set_option maxRecDepth 100000 in
theorem tbin_4 : ∀ j, j < 7 → Cond.eq (.elem (.static (sC 4) (sN 4) "[I") (.int (Int32.ofNat j))) (.int (sV 4 j)) ∈ flatC (Jvm.Cond.and given_1 narrow_1) := mem_run (f := fun j => Cond.eq (.elem (.static (sC 4) (sN 4) "[I") (.int (Int32.ofNat j))) (.int (sV 4 j))) 395 7 (by decide +kernel)
theorem tbst_4 {b : Nat} {s : State} (hts : ∀ w ∈ lw_tbl, w.before #[Value.ref b] s = true) (hg : (Jvm.Cond.and given_1 narrow_1).before #[Value.ref b] s = true) : ∃ t : Nat, va_Z (sC 4) (sN 4) "[I" (.ref t) (aS s) s s.heap ∧ va_T .int t (tab 4).length (fun j => .int (sV 4 j)) (aS s) s s.heap :=
  have hs := flat_of_before _ hg
  st_one 4 7 (by decide +kernel) (by omega) (hts _ (by decide +kernel)) (hts _ (by decide +kernel)) (hs _ (by decide +kernel)) (hs _ (by decide +kernel)) (fun j hj => hs _ (tbin_4 j hj))
set_option maxRecDepth 100000 in
theorem tbin_5 : ∀ j, j < 3 → Cond.eq (.elem (.static (sC 5) (sN 5) "[I") (.int (Int32.ofNat j))) (.int (sV 5 j)) ∈ flatC (Jvm.Cond.and given_1 narrow_1) := mem_run (f := fun j => Cond.eq (.elem (.static (sC 5) (sN 5) "[I") (.int (Int32.ofNat j))) (.int (sV 5 j))) 405 3 (by decide +kernel)
theorem tbst_5 {b : Nat} {s : State} (hts : ∀ w ∈ lw_tbl, w.before #[Value.ref b] s = true) (hg : (Jvm.Cond.and given_1 narrow_1).before #[Value.ref b] s = true) : ∃ t : Nat, va_Z (sC 5) (sN 5) "[I" (.ref t) (aS s) s s.heap ∧ va_T .int t (tab 5).length (fun j => .int (sV 5 j)) (aS s) s s.heap :=
  have hs := flat_of_before _ hg
  st_one 5 3 (by decide +kernel) (by omega) (hts _ (by decide +kernel)) (hts _ (by decide +kernel)) (hs _ (by decide +kernel)) (hs _ (by decide +kernel)) (fun j hj => hs _ (tbin_5 j hj))
set_option maxRecDepth 100000 in
theorem tbin_6 : ∀ j, j < 15 → Cond.eq (.elem (.static (sC 6) (sN 6) "[I") (.int (Int32.ofNat j))) (.int (sV 6 j)) ∈ flatC (Jvm.Cond.and given_1 narrow_1) := mem_run (f := fun j => Cond.eq (.elem (.static (sC 6) (sN 6) "[I") (.int (Int32.ofNat j))) (.int (sV 6 j))) 331 15 (by decide +kernel)
theorem tbst_6 {b : Nat} {s : State} (hts : ∀ w ∈ lw_tbl, w.before #[Value.ref b] s = true) (hg : (Jvm.Cond.and given_1 narrow_1).before #[Value.ref b] s = true) : ∃ t : Nat, va_Z (sC 6) (sN 6) "[I" (.ref t) (aS s) s s.heap ∧ va_T .int t (tab 6).length (fun j => .int (sV 6 j)) (aS s) s s.heap :=
  have hs := flat_of_before _ hg
  st_one 6 15 (by decide +kernel) (by omega) (hts _ (by decide +kernel)) (hts _ (by decide +kernel)) (hs _ (by decide +kernel)) (hs _ (by decide +kernel)) (fun j hj => hs _ (tbin_6 j hj))
set_option maxRecDepth 100000 in
theorem tbin_7 : ∀ j, j < 7 → Cond.eq (.elem (.static (sC 7) (sN 7) "[I") (.int (Int32.ofNat j))) (.int (sV 7 j)) ∈ flatC (Jvm.Cond.and given_1 narrow_1) := mem_run (f := fun j => Cond.eq (.elem (.static (sC 7) (sN 7) "[I") (.int (Int32.ofNat j))) (.int (sV 7 j))) 349 7 (by decide +kernel)
theorem tbst_7 {b : Nat} {s : State} (hts : ∀ w ∈ lw_tbl, w.before #[Value.ref b] s = true) (hg : (Jvm.Cond.and given_1 narrow_1).before #[Value.ref b] s = true) : ∃ t : Nat, va_Z (sC 7) (sN 7) "[I" (.ref t) (aS s) s s.heap ∧ va_T .int t (tab 7).length (fun j => .int (sV 7 j)) (aS s) s s.heap :=
  have hs := flat_of_before _ hg
  st_one 7 7 (by decide +kernel) (by omega) (hts _ (by decide +kernel)) (hts _ (by decide +kernel)) (hs _ (by decide +kernel)) (hs _ (by decide +kernel)) (fun j hj => hs _ (tbin_7 j hj))
set_option maxRecDepth 100000 in
theorem tbin_8 : ∀ j, j < 3 → Cond.eq (.elem (.static (sC 8) (sN 8) "[I") (.int (Int32.ofNat j))) (.int (sV 8 j)) ∈ flatC (Jvm.Cond.and given_1 narrow_1) := mem_run (f := fun j => Cond.eq (.elem (.static (sC 8) (sN 8) "[I") (.int (Int32.ofNat j))) (.int (sV 8 j))) 411 3 (by decide +kernel)
theorem tbst_8 {b : Nat} {s : State} (hts : ∀ w ∈ lw_tbl, w.before #[Value.ref b] s = true) (hg : (Jvm.Cond.and given_1 narrow_1).before #[Value.ref b] s = true) : ∃ t : Nat, va_Z (sC 8) (sN 8) "[I" (.ref t) (aS s) s s.heap ∧ va_T .int t (tab 8).length (fun j => .int (sV 8 j)) (aS s) s s.heap :=
  have hs := flat_of_before _ hg
  st_one 8 3 (by decide +kernel) (by omega) (hts _ (by decide +kernel)) (hts _ (by decide +kernel)) (hs _ (by decide +kernel)) (hs _ (by decide +kernel)) (fun j hj => hs _ (tbin_8 j hj))
set_option maxRecDepth 100000 in
theorem tbin_9 : ∀ j, j < 33 → Cond.eq (.elem (.static (sC 9) (sN 9) "[I") (.int (Int32.ofNat j))) (.int (sV 9 j)) ∈ flatC (Jvm.Cond.and given_1 narrow_1) := mem_run (f := fun j => Cond.eq (.elem (.static (sC 9) (sN 9) "[I") (.int (Int32.ofNat j))) (.int (sV 9 j))) 11 33 (by decide +kernel)
theorem tbst_9 {b : Nat} {s : State} (hts : ∀ w ∈ lw_tbl, w.before #[Value.ref b] s = true) (hg : (Jvm.Cond.and given_1 narrow_1).before #[Value.ref b] s = true) : ∃ t : Nat, va_Z (sC 9) (sN 9) "[I" (.ref t) (aS s) s s.heap ∧ va_T .int t (tab 9).length (fun j => .int (sV 9 j)) (aS s) s s.heap :=
  have hs := flat_of_before _ hg
  st_one 9 33 (by decide +kernel) (by omega) (hts _ (by decide +kernel)) (hts _ (by decide +kernel)) (hs _ (by decide +kernel)) (hs _ (by decide +kernel)) (fun j hj => hs _ (tbin_9 j hj))
set_option maxRecDepth 100000 in
theorem tbin_10 : ∀ j, j < 257 → Cond.eq (.elem (.static (sC 10) (sN 10) "[I") (.int (Int32.ofNat j))) (.int (sV 10 j)) ∈ flatC (Jvm.Cond.and given_1 narrow_1) := mem_run (f := fun j => Cond.eq (.elem (.static (sC 10) (sN 10) "[I") (.int (Int32.ofNat j))) (.int (sV 10 j))) 47 257 (by decide +kernel)
theorem tbst_10 {b : Nat} {s : State} (hts : ∀ w ∈ lw_tbl, w.before #[Value.ref b] s = true) (hg : (Jvm.Cond.and given_1 narrow_1).before #[Value.ref b] s = true) : ∃ t : Nat, va_Z (sC 10) (sN 10) "[I" (.ref t) (aS s) s s.heap ∧ va_T .int t (tab 10).length (fun j => .int (sV 10 j)) (aS s) s s.heap :=
  have hs := flat_of_before _ hg
  st_one 10 257 (by decide +kernel) (by omega) (hts _ (by decide +kernel)) (hts _ (by decide +kernel)) (hs _ (by decide +kernel)) (hs _ (by decide +kernel)) (fun j hj => hs _ (tbin_10 j hj))
