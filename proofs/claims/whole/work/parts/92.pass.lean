def pkB (b0 b1 b2 b3 b4 b5 b6 b7 b8 b9 b10 b11 b12 b13 b14 b15 b16 b17 b18 b19 b20 : Nat) : Nat → Nat := fun i => match i with | 0 => b0 | 1 => b1 | 2 => b2 | 3 => b3 | 4 => b4 | 5 => b5 | 6 => b6 | 7 => b7 | 8 => b8 | 9 => b9 | 10 => b10 | 11 => b11 | 12 => b12 | 13 => b13 | 14 => b14 | 15 => b15 | 16 => b16 | 17 => b17 | 18 => b18 | 19 => b19 | 20 => b20 | _ => 0
def pkF (b0 b1 b2 b3 b4 b5 : (Nat → Nat)) : Nat → (Nat → Nat) := fun i => match i with | 0 => b0 | 1 => b1 | 2 => b2 | 3 => b3 | 4 => b4 | 5 => b5 | _ => fun _ => 0
def pkG (b0 b1 b2 b3 b4 b5 : (Nat → Int32)) : Nat → (Nat → Int32) := fun i => match i with | 0 => b0 | 1 => b1 | 2 => b2 | 3 => b3 | 4 => b4 | 5 => b5 | _ => fun _ => 0
def pkJ (b0 b1 : (Nat → Int64)) : Nat → (Nat → Int64) := fun i => match i with | 0 => b0 | 1 => b1 | _ => fun _ => 0
theorem oc_g (T : Nat → Nat) (a w : Nat) (s e f c : Nat → Nat) (m : Nat → Int32) : rdoF T a w s e f c m = ocN T a w := by
  unfold ocN rdoF
  exact rdO_g T (8 * a) (8 * byS w) k16 k12 (layerS w) (ftS w) (chS w) (boundS w) (bandS w) (chkS w) s zN e zN f zN c zN m zI k12_eq (band_le w).2 (ch_le w).2
theorem sm_g (T : Nat → Nat) (a w : Nat) (s e f c : Nat → Nat) (m : Nat → Int32) : ∀ j, j < 2304 → rdSm T a w s e f c m j = (ctN T a w).2.2.2.2 j := by
  intro j hj
  unfold ctN
  dsimp only
  unfold rdSm
  exact (rdM_g T (8 * a) (8 * byS w) k16 k12 (layerS w) (ftS w) (chS w) (boundS w) (bandS w) (chkS w) s zN e zN f zN c zN m zI k12_eq (band_le w).2 (ch_le w).2).2.2.2 j hj
theorem st_g (T : Nat → Nat) (a w : Nat) (s : Nat → Nat) : ∀ j, j < 64 → rdSt T a w s j = (ctN T a w).2.2.1 j := by
  intro j hj
  unfold ctN
  dsimp only
  unfold rdSt
  exact (rdX1_g T (8 * a) (8 * byS w) (layerS w) (ftS w) (chS w) (boundS w) (bandS w) (chkS w) s zN).2.2.2 j hj
theorem fa_g (T : Nat → Nat) (a w : Nat) (s e f : Nat → Nat) : ∀ j, j < 192 → rdFa T a w s e f j = (ctN T a w).2.2.2.1 j := by
  intro j hj
  unfold ctN
  dsimp only
  unfold rdFa
  exact (rdF_g T (8 * a) (8 * byS w) k16 (layerS w) (ftS w) (chS w) (boundS w) (bandS w) (chkS w) s zN e zN f zN (band_le w).2 (ch_le w).2).2 j hj
theorem v_nx {row sm : Nat → Int32} {c rows nw : Nat} {num p m : Nat → Int32} {v : VCe} (hc : c ≤ 1) (hr : rows ≤ 36) (hs : ∀ j, j < 2304 → row j = sm j) (hV : RV (nw, num) v.1) (hP : ∀ j, j < v.2.1 → p j = v.2.2 j) (h1 : ∀ j, j < v.2.1 → m j = p j) (h2 : ∀ t, t < rows → ∀ j, j < 32 → m (v.2.1 + 32 * t + j) = pcS (lp (sdF row c) (t + 1) (nw, num)) j) : RV (lp (sdF row c) rows (nw, num)) (vNx sm c rows v).1 ∧ ∀ j, j < (vNx sm c rows v).2.1 → m j = (vNx sm c rows v).2.2 j := by
  refine ⟨?_, ?_⟩
  · show RV _ (lp (sdA sm c) rows v.1)
    rw [← sdA_congr hc hr hs]
    exact RV_sd row c rows hV
  · intro j hj
    have hj2 : j < v.2.1 + 32 * rows := hj
    show m j = if j < v.2.1 then v.2.2 j else pcA (lp (sdA sm c) ((j - v.2.1) / 32 + 1) v.1) ((j - v.2.1) % 32)
    by_cases q : j < v.2.1
    · rw [if_pos q, h1 j q, hP j q]
    · rw [if_neg q]
      have hd : (j - v.2.1) / 32 < rows := by omega
      have he : j = v.2.1 + 32 * ((j - v.2.1) / 32) + (j - v.2.1) % 32 := by omega
      have hm := h2 ((j - v.2.1) / 32) hd ((j - v.2.1) % 32) (by omega)
      rw [← he] at hm
      rw [hm, RV_pc (RV_sd row c _ hV) (by omega), sdA_congr hc (by omega) hs]
theorem v2_nx {row sm : Nat → Int32} {c rows nw cap : Nat} {num p m : Nat → Int32} {v : VCe} (hr : rows ≤ 36) (hs : ∀ j, j < 2304 → row j = sm j) (hV : RV (nw, num) v.1) (hP : ∀ j, j < v.2.1 → p j = v.2.2 j) (hc : v.2.1 ≤ cap) (h1 : ∀ j, j < v.2.1 → m j = p j) (h2 : c = 2 → ∀ t, t < rows → ∀ j, j < 32 → m (v.2.1 + 32 * t + j) = pcS (lp (sdF row 1) (t + 1) (nw, num)) j) :
    RV (vxS c rows row (nw, num)) (if c = 2 then vNx sm 1 rows v else v).1 ∧ (∀ j, j < (if c = 2 then vNx sm 1 rows v else v).2.1 → m j = (if c = 2 then vNx sm 1 rows v else v).2.2 j) ∧ (if c = 2 then vNx sm 1 rows v else v).2.1 ≤ cxS c rows v.2.1 cap ∧ mdS c rows v.2.1 = (if c = 2 then vNx sm 1 rows v else v).2.1 := by
  unfold vxS cxS mdS
  by_cases q : c = 2
  · simp only [if_pos q]
    have k1_ := v_nx (Nat.le_refl 1) hr hs hV hP h1 (h2 q)
    have k2 := (capS_ge v.2.1 (rows * 32) cap).2
    exact ⟨k1.1, k1.2, by show v.2.1 + 32 * rows ≤ _; omega, rfl⟩
  · simp only [if_neg q]
    exact ⟨hV, fun j hj => by rw [h1 j hj, hP j hj], hc, rfl⟩
