theorem tN_le (k : Nat) {j M : Nat} (h : (tab k).all (fun x => decide (x ≤ (M : Int))) = true) : tN k j ≤ M := by
  unfold tN
  rw [List.getD_eq_getElem?_getD]
  cases hg : (tab k)[j]? with
  | none => exact Nat.zero_le _
  | some x => have := of_decide_eq_true (List.all_eq_true.mp h x (List.mem_of_getElem? hg)); show x.toNat ≤ M; omega
def layerS (w : Nat) : Nat := if w / 131072 % 4 < 2 then 0 else 4 - w / 131072 % 4
def modeS (w : Nat) : Nat := w / 64 % 4
def sampS (w : Nat) : Nat := if w / 1024 % 4 < 3 then tN 1 (w / 1024 % 4) else 0
def rateS (w : Nat) : Nat := if w / 4096 % 16 < 15 then (if layerS w = 1 then 32 * (w / 4096 % 16) else tN 0 (w / 4096 % 16)) else 0
def suitS (k m : Nat) : Nat := if k = 32 ∨ k = 48 ∨ k = 56 ∨ k = 80 then (if m = 3 then 1 else 0) else (if k < 224 then 1 else if m = 3 then 0 else 1)
def bytesS (ly k sp pad : Nat) : Nat := if sp = 0 then 0 else if ly = 1 then 4 * (12000 * k / sp + pad) else 144000 * k / sp + pad
def twoB (k sp : Nat) : Nat := if k < 56 then (if sp = 32000 then 12 else 8) else if k ≤ 80 ∨ sp = 48000 then 27 else 30
def goodS (w : Nat) : Nat := if w / 1048576 = 4095 ∧ w / 524288 % 2 = 1 ∧ layerS w ≠ 0 ∧ sampS w ≠ 0 ∧ w % 4 ≠ 2 then (if rateS w = 0 then 0 else if layerS w = 1 then 1 else suitS (rateS w) (modeS w)) else 0
def chS (w : Nat) : Nat := if modeS w = 3 then 1 else 2
def crS (w : Nat) : Nat := rateS w / chS w
def bandS (w : Nat) : Nat := if layerS w = 1 then 32 else twoB (crS w) (sampS w)
def ftS (w : Nat) : Nat := if crS w < 56 then 0 else 1
def boundS (w : Nat) : Nat := if modeS w = 1 then min (4 * (w / 16 % 4 + 1)) (bandS w) else bandS w
def chkS (w : Nat) : Nat := if w / 65536 % 2 = 0 then 1 else 0
def byS (w : Nat) : Nat := bytesS (layerS w) (rateS w) (sampS w) (w / 512 % 2)
theorem layer_le (w : Nat) : layerS w ≤ 2 := by unfold layerS; split <;> omega
theorem mode_le (w : Nat) : modeS w ≤ 3 := by unfold modeS; omega
theorem samp_le (w : Nat) : sampS w ≤ 48000 := by unfold sampS; split; exact tN_le 1 (by decide); omega
theorem rate_le (w : Nat) : rateS w ≤ 480 := by unfold rateS; split; split; omega; exact Nat.le_trans (tN_le 0 (M := 384) (by decide)) (by omega); omega
theorem suit_le (k m : Nat) : suitS k m ≤ 1 := by unfold suitS; (repeat' split) <;> omega
theorem ch_le (w : Nat) : 1 ≤ chS w ∧ chS w ≤ 2 := by unfold chS; split <;> omega
theorem two_le (k sp : Nat) : 8 ≤ twoB k sp ∧ twoB k sp ≤ 30 := by unfold twoB; (repeat' split) <;> omega
theorem band_le (w : Nat) : 8 ≤ bandS w ∧ bandS w ≤ 32 := by unfold bandS; have := two_le (crS w) (sampS w); split <;> omega
theorem bound_le (w : Nat) : 4 ≤ boundS w ∧ boundS w ≤ bandS w := by unfold boundS; have := band_le w; split <;> omega
theorem chk_le (w : Nat) : chkS w ≤ 1 := by unfold chkS; split <;> omega
theorem ft_le (w : Nat) : ftS w ≤ 1 := by unfold ftS; split <;> omega
theorem cr_le (w : Nat) : crS w ≤ 480 := by unfold crS; have := rate_le w; exact Nat.le_trans (Nat.div_le_self _ _) this
theorem bytes_le {ly k sp pad : Nat} (hk : k ≤ 480) (hp : pad ≤ 1) : bytesS ly k sp pad ≤ 70000000 := by
  unfold bytesS
  split
  · omega
  · have h1 : 12000 * k / sp ≤ 12000 * k := Nat.div_le_self _ _
    have h2 : 144000 * k / sp ≤ 144000 * k := Nat.div_le_self _ _
    split <;> omega
theorem by_le (w : Nat) : byS w ≤ 70000000 := bytes_le (rate_le w) (by omega)
/-- what tell answers -/
def tellS (st ly rt sp byt md ch bd oc : Nat) : Nat → Int32 := fun k => nI (match k with | 0 => oc | 1 => st | 2 => byt | 3 => ly | 4 => rt | 5 => sp | 6 => md | 7 => ch | 8 => bd | _ => if oc = 0 then (if ly = 1 then 384 else 1152) else 0)
/-- Integer.bitCount, as its code has it -/
def ushr (x : Int32) (n : Nat) : Int32 := (x.toUInt32 >>> ((nI n).toUInt32 &&& Int32.toUInt32 31)).toInt32
def bc1 (x : Int32) : Int32 := x - (ushr x 1 &&& nI 1431655765)
def bc2 (x : Int32) : Int32 := (x &&& nI 858993459) + (ushr x 2 &&& nI 858993459)
def bc3 (x : Int32) : Int32 := (x + ushr x 4) &&& nI 252645135
def bc4 (x : Int32) : Int32 := x + ushr x 8
def bc5 (x : Int32) : Int32 := x + ushr x 16
def bcI (x : Int32) : Int32 := bc5 (bc4 (bc3 (bc2 (bc1 x)))) &&& nI 63
theorem bc_all : ∀ k : Fin 17, bcI (nI (2 ^ k.val - 1)) = nI k.val := by decide +kernel
theorem bcP {k : Nat} (h : k ≤ 16) : bcI (nI (2 ^ k - 1)) = nI k := bc_all ⟨k, by omega⟩
theorem fillI_s {f : Nat → Int32} {x : Int32} (i : Nat) : upd (fun j => if j < i then x else f j) i x = fun j => if j < i + 1 then x else f j := by
  funext j
  unfold upd
  by_cases h1 : j = i
  · simp [h1]
  · have h2 : (j < i + 1) = (j < i) := propext ⟨fun h => by omega, fun h => by omega⟩
    simp only [h1, if_false, h2]
theorem fillJ_s {f : Nat → Int64} {x : Int64} (i : Nat) : vp_updL (fun j => if j < i then x else f j) i x = fun j => if j < i + 1 then x else f j := by
  funext j
  unfold vp_updL
  by_cases h1 : j = i
  · simp [h1]
  · have h2 : (j < i + 1) = (j < i) := propext ⟨fun h => by omega, fun h => by omega⟩
    simp only [h1, if_false, h2]
