def ixL {α : Type} (d : α) : List α → Nat → α
  | [], _ => d
  | a :: _, 0 => a
  | _ :: l, n + 1 => ixL d l n
def pkB (b0 b1 b2 b3 b4 b5 b6 b7 b8 b9 b10 b11 b12 b13 b14 b15 b16 b17 b18 b19 b20 : Nat) : Nat → Nat := ixL (0) [b0, b1, b2, b3, b4, b5, b6, b7, b8, b9, b10, b11, b12, b13, b14, b15, b16, b17, b18, b19, b20]
def pkF (b0 b1 b2 b3 b4 b5 : (Nat → Nat)) : Nat → (Nat → Nat) := ixL (fun _ => 0) [b0, b1, b2, b3, b4, b5]
def pkG (b0 b1 b2 b3 b4 b5 : (Nat → Int32)) : Nat → (Nat → Int32) := ixL (fun _ => 0) [b0, b1, b2, b3, b4, b5]
def pkJ (b0 b1 : (Nat → Int64)) : Nat → (Nat → Int64) := ixL (fun _ => 0) [b0, b1]
theorem oc_g (T : Nat → Nat) (a w : Nat) (s e f c : Nat → Nat) (m : Nat → Int32) : rdoF T a w s e f c m = ocN T a w := by
  unfold ocN rdoF
  exact rdO_g T (8 * a) (8 * byS w) k16 k12 (layerS w) (ftS w) (chS w) (boundS w) (bandS w) (chkS w) s zN e zN f zN c zN m zI k12_eq (band_le w).2 (ch_le w).2
theorem sm_g (T : Nat → Nat) (a w : Nat) (s e f c : Nat → Nat) (m : Nat → Int32) : ∀ j, j < 2304 → rdSm T a w s e f c m j = (ctN T a w).2.2.2.2 j := by
  intro j hj
  unfold ctN
  dsimp only
  unfold rdSm
  exact (rdM_g T (8 * a) (8 * byS w) k16 k12 (layerS w) (ftS w) (chS w) (boundS w) (bandS w) (chkS w) s zN e zN f zN c zN m zI k12_eq (band_le w).2 (ch_le w).2).2.2.2 j hj
theorem st_g (T : Nat → Nat) (a w : Nat) (s : Nat → Nat) : ∀ j, j < 64 → rdSt T a w s j = (ctN T a w).2.2.1 j := by
  intro j hj
  unfold ctN
  dsimp only
  unfold rdSt
  exact (rdX1_g T (8 * a) (8 * byS w) (layerS w) (ftS w) (chS w) (boundS w) (bandS w) (chkS w) s zN).2.2.2 j hj
theorem fa_g (T : Nat → Nat) (a w : Nat) (s e f : Nat → Nat) : ∀ j, j < 192 → rdFa T a w s e f j = (ctN T a w).2.2.2.1 j := by
  intro j hj
  unfold ctN
  dsimp only
  unfold rdFa
  exact (rdF_g T (8 * a) (8 * byS w) k16 (layerS w) (ftS w) (chS w) (boundS w) (bandS w) (chkS w) s zN e zN f zN (band_le w).2 (ch_le w).2).2 j hj
