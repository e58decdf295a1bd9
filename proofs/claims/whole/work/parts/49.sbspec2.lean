def frA (frs : List (Nat × FrD)) (y : Int32) (i : Nat) : Int32 := match frs[i]? with
  | some q => selX y 10 (tellS q.2.2.1 (layerS q.2.1) (rateS q.2.1) (sampS q.2.1) (byS q.2.1) (modeS q.2.1) (chS q.2.1) (boundS q.2.1) q.2.2.2) (-1)
  | none => -1
theorem pull_perm {E : va_W} {frs l1 l2 : List (Nat × FrD)} {x : Nat} {xd : FrD} (h : frs = l1 ++ (x, xd) :: l2) : (E ++ fpl frs).Perm ((E ++ [(x, .inr (2, frL xd))]) ++ (fpl l1 ++ fpl l2)) := by
  subst h
  have e : fpl (l1 ++ (x, xd) :: l2) = fpl l1 ++ ((x, .inr (2, frL xd)) : Nat × va_E) :: fpl l2 := by unfold fpl; rw [List.map_append]; rfl
  rw [e, List.append_assoc]
  exact List.Perm.append_left E List.perm_middle
theorem split_at {α : Type} {l : List α} {i : Nat} (h : i < l.length) : ∃ (l1 : List α) (q : α) (l2 : List α), l = l1 ++ q :: l2 ∧ l[i]? = some q ∧ q ∈ l := by
  refine ⟨l.take i, l[i], l.drop (i + 1), ?_, List.getElem?_eq_getElem h, List.getElem_mem h⟩
  rw [List.getElem_cons_drop, List.take_append_drop]
noncomputable def vxS (kc kr : Nat) (row : Nat → Int32) (x : Nat × (Nat → Int32)) : Nat × (Nat → Int32) := if kc = 2 then lp (sdF row 1) kr x else x
def mdS (kc kr md : Nat) : Nat := if kc = 2 then md + 32 * kr else md
def cxS (kc kr md cap : Nat) : Nat := if kc = 2 then capS md (kr * 32) cap else cap
