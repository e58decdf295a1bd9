def frA (frs : List (Nat × FrD)) (y : Int32) (i : Nat) : Int32 := match frs[i]? with
  | some q => selX y 10 (tellS q.2.2.1 (layerS q.2.1) (rateS q.2.1) (sampS q.2.1) (byS q.2.1) (modeS q.2.1) (chS q.2.1) (boundS q.2.1) q.2.2.2) (-1)
  | none => -1
theorem pull_perm {E : va_W} {frs l1 l2 : List (Nat × FrD)} {x : Nat} {xd : FrD} (h : frs = l1 ++ (x, xd) :: l2) : (E ++ fpl frs).Perm ((E ++ [(x, .inr (2, frL xd))]) ++ (fpl l1 ++ fpl l2)) := by
  subst h
  have e : fpl (l1 ++ (x, xd) :: l2) = fpl l1 ++ ((x, .inr (2, frL xd)) : Nat × va_E) :: fpl l2 := by unfold fpl; rw [List.map_append]; rfl
  rw [e, List.append_assoc]
  exact List.Perm.append_left E List.perm_middle
theorem split_at {α : Type} {l : List α} {i : Nat} (h : i < l.length) : ∃ (l1 : List α) (q : α) (l2 : List α), l = l1 ++ q :: l2 ∧ l[i]? = some q ∧ q ∈ l := by
  refine ⟨l.take i, l[i], l.drop (i + 1), ?_, List.getElem?_eq_getElem h, List.getElem_mem h⟩
  rw [List.getElem_cons_drop, List.take_append_drop]
noncomputable def vxS (kc kr : Nat) (row : Nat → Int32) (x : Nat × (Nat → Int32)) : Nat × (Nat → Int32) := if kc = 2 then lp (sdF row 1) kr x else x
def mdS (kc kr md : Nat) : Nat := if kc = 2 then md + 32 * kr else md
def cxS (kc kr md cap : Nat) : Nat := if kc = 2 then capS md (kr * 32) cap else cap
def rowsS (w : Nat) : Nat := 12 * (if layerS w = 1 then 1 else 3)
theorem rows_le (w : Nat) : rowsS w ≤ 36 := by unfold rowsS; split <;> omega
noncomputable def rdoF (T : Nat → Nat) (at_ w : Nat) (st se fa co : Nat → Nat) (sm : Nat → Int32) : Nat := rdO T (8 * at_) (8 * byS w) k16 k12 (layerS w) (ftS w) (chS w) (boundS w) (bandS w) (chkS w) st se fa co sm
def rdSt (T : Nat → Nat) (at_ w : Nat) (st : Nat → Nat) : Nat → Nat := (rdX1 T (8 * at_) (8 * byS w) (layerS w) (ftS w) (chS w) (boundS w) (bandS w) (chkS w) st).2.2.2
noncomputable def rdFa (T : Nat → Nat) (at_ w : Nat) (st se fa : Nat → Nat) : Nat → Nat := (rdF T (8 * at_) (8 * byS w) k16 (layerS w) (ftS w) (chS w) (boundS w) (bandS w) (chkS w) st se fa).2
noncomputable def rdSm (T : Nat → Nat) (at_ w : Nat) (st se fa co : Nat → Nat) (sm : Nat → Int32) : Nat → Int32 := (rdM T (8 * at_) (8 * byS w) k16 k12 (layerS w) (ftS w) (chS w) (boundS w) (bandS w) (chkS w) st se fa co sm).2.2.2.2
theorem rdO_le (T : Nat → Nat) (P lim K G ly ft ch bd bn ck : Nat) (st se fa co : Nat → Nat) (sm : Nat → Int32) : rdO T P lim K G ly ft ch bd bn ck st se fa co sm ≤ 2 := by unfold rdO; (repeat' split) <;> omega
theorem rdoF_le (T : Nat → Nat) (at_ w : Nat) (st se fa co : Nat → Nat) (sm : Nat → Int32) : rdoF T at_ w st se fa co sm ≤ 2 := rdO_le _ _ _ _ _ _ _ _ _ _ _ _ _ _ _ _
theorem max_sub3 {pl len : Nat} (h1 : pl ≤ 4000) (h2 : len ≤ 4000) : (if nI pl < nI len - nI 3 then nI len - nI 3 else nI pl) = nI (max pl (len - 3)) := by
  by_cases h : 3 ≤ len
  · rw [pk_sub h]; exact max_nI (by omega) (by omega)
  · have e : nI len - nI 3 < 0 := pk_sneg (by omega) (by omega)
    rw [if_neg (fun q => absurd (Int32.lt_trans q e) (nI_pos (by omega)))]
    congr 1
    omega
theorem good_parts {w : Nat} (h : goodS w ≠ 0) : layerS w ≠ 0 ∧ sampS w ≠ 0 ∧ rateS w ≠ 0 := by
  unfold goodS at h
  by_cases h1 : w / 1048576 = 4095 ∧ w / 524288 % 2 = 1 ∧ layerS w ≠ 0 ∧ sampS w ≠ 0 ∧ w % 4 ≠ 2
  · rw [if_pos h1] at h
    by_cases h2 : rateS w = 0
    · rw [if_pos h2] at h; omega
    · exact ⟨h1.2.2.1, h1.2.2.2.1, h2⟩
  · rw [if_neg h1] at h; omega
theorem tN0_ge : ∀ t : Fin 15, tN 0 t.val = 0 ∨ 32 ≤ tN 0 t.val := by decide
theorem rate_ge {w : Nat} (h : rateS w ≠ 0) : 32 ≤ rateS w := by
  unfold rateS at h ⊢
  by_cases h1 : w / 4096 % 16 < 15
  · rw [if_pos h1] at h ⊢
    by_cases h2 : layerS w = 1
    · rw [if_pos h2] at h ⊢; omega
    · rw [if_neg h2] at h ⊢
      have := tN0_ge ⟨w / 4096 % 16, h1⟩
      dsimp only at this
      omega
  · rw [if_neg h1] at h; omega
theorem tN1_3 : ∀ t : Fin 3, tN 1 t.val = 44100 ∨ tN 1 t.val = 48000 ∨ tN 1 t.val = 32000 := by decide
theorem samp_3 {w : Nat} (h : sampS w ≠ 0) : sampS w = 44100 ∨ sampS w = 48000 ∨ sampS w = 32000 := by
  unfold sampS at h ⊢
  by_cases h1 : w / 1024 % 4 < 3
  · rw [if_pos h1]; exact tN1_3 ⟨w / 1024 % 4, h1⟩
  · rw [if_neg h1] at h; omega
theorem by_ge {w : Nat} (h : goodS w ≠ 0) : 32 ≤ byS w := by
  obtain ⟨h1, h2, h3⟩ := good_parts h
  have h4 := rate_ge h3
  unfold byS bytesS
  rw [if_neg h2]
  rcases samp_3 h2 with e | e | e <;> rw [e] <;> split <;> omega
theorem fndS_good {T : Nat → Nat} : ∀ (n p : Nat), fndS T p n < p + n → goodS (wdS T (fndS T p n)) ≠ 0 := by
  intro n
  induction n with
  | zero => intro p h; exact absurd h (Nat.lt_irrefl _)
  | succ n ih =>
    intro p h
    unfold fndS at h ⊢
    by_cases e : goodS (wdS T p) = 0
    · rw [if_pos e] at h ⊢; exact ih (p + 1) (by omega)
    · rw [if_neg e]; exact e
