/-! the reference's decode over the abstract state -/
def pkN (b0 b1 b2 b3 b4 b5 b6 b7 b8 b9 b10 b11 b12 b13 b14 b15 b16 b17 b18 b19 b20 b21 b22 b23 : Nat) : Nat → Nat
  | 0 => b0
  | 1 => b1
  | 2 => b2
  | 3 => b3
  | 4 => b4
  | 5 => b5
  | 6 => b6
  | 7 => b7
  | 8 => b8
  | 9 => b9
  | 10 => b10
  | 11 => b11
  | 12 => b12
  | 13 => b13
  | 14 => b14
  | 15 => b15
  | 16 => b16
  | 17 => b17
  | 18 => b18
  | 19 => b19
  | 20 => b20
  | 21 => b21
  | 22 => b22
  | _ => b23
def pkM (b0 b1 b2 b3 b4 b5 b6 b7 : (Nat → Nat → Nat)) : Nat → (Nat → Nat → Nat)
  | 0 => b0
  | 1 => b1
  | 2 => b2
  | 3 => b3
  | 4 => b4
  | 5 => b5
  | 6 => b6
  | _ => b7
abbrev wR (g : GT) (mo : Nat) (a : Nat → Nat) (ra qa : Nat → Nat → Nat) (T : Nat → Nat) (N : Nat → Nat) (M : Nat → Nat → Nat → Nat) (SM V PC : Nat → Nat → Int32) (PS : Nat → Nat) : va_W := [(mo, .inr (7, (.int (nI (N 0)) :: .ref (a 1) :: .int (nI (N 1)) :: .int (nI (N 2)) :: .ref (a 4) :: .int (nI (N 3)) :: .int (nI (N 4)) :: .ref (a 7) :: .ref (a 8) :: .ref (a 9) :: .int (nI (N 5)) :: .int (nI (N 6)) :: .int (nI (N 7)) :: .ref (a 13) :: .ref (a 14) :: .ref (a 15) :: .ref (a 16) :: .ref (a 17) :: .ref (a 18) :: .ref (a 19) :: .ref (a 20) :: .ref (a 21) :: .ref (a 22) :: .ref (a 23) :: .int (nI (N 8)) :: .int (nI (N 9)) :: .int (nI (N 10)) :: .int (nI (N 11)) :: .int (nI (N 12)) :: .int (nI (N 13)) :: .int (nI (N 14)) :: .int (nI (N 15)) :: .int (nI (N 16)) :: .int (nI (N 17)) :: .int (nI (N 18)) :: .int (nI (N 19)) :: .int (nI (N 20)) :: .int (nI (N 21)) :: .int (nI (N 22)) :: .int (nI (N 23)) :: []))), ((a 1), aB g 4000 (fun j => nB (T j))), ((a 18), aII g 2 (ptr 2 (ra 18))), ((a 17), aII g 2 (ptr 2 (ra 17))), ((a 16), aII g 2 (ptr 2 (ra 16))), ((a 19), aIII g 2 (ptr 2 (qa 19))), ((a 20), aIII g 2 (ptr 2 (qa 20))), ((a 13), aIII g 2 (ptr 2 (qa 13))), ((a 14), aII g 2 (ptr 2 (ra 14))), ((a 15), aIII g 2 (ptr 2 (qa 15))), ((a 9), aII g 2 (ptr 2 (ra 9))), ((a 7), aII g 2 (ptr 2 (ra 7))), ((a 4), aII g 130 (ptr 130 (ra 4))), ((a 8), aI g 2 (fun j => nI (PS j))), ((a 22), aI g 33 (fun j => nI (tN 9 j))), ((a 23), aI g 257 (fun j => sV 10 j)), ((a 21), aI g 14 (fun j => nI (tN 0 (j + 1))))] ++ (grd g (ra 18) 2 32 (mN (M 0)) ++ (grd g (ra 17) 2 32 (mN (M 1)) ++ (grd g (ra 16) 2 32 (mN (M 2)) ++ (pgr g (qa 19) 2 32 (fun c t => ra 19 (c * 32 + t)) ++ (grd g (ra 19) 64 3 (mN (M 3)) ++ (pgr g (qa 20) 2 36 (fun c t => ra 20 (c * 36 + t)) ++ (grd g (ra 20) 72 32 (mN (M 4)) ++ (pgr g (qa 13) 2 36 (fun c t => ra 13 (c * 36 + t)) ++ (grd g (ra 13) 72 32 SM ++ (grd g (ra 14) 2 32 (mN (M 5)) ++ (pgr g (qa 15) 2 32 (fun c t => ra 15 (c * 32 + t)) ++ (grd g (ra 15) 64 3 (mN (M 6)) ++ (grd g (ra 9) 2 1024 V ++ (grd g (ra 7) 2 48400 PC ++ (grd g (ra 4) 130 10 (mN (M 7)) ++ [])))))))))))))))
abbrev hdR (g : GT) (mo : Nat) (a : Nat → Nat) (T : Nat → Nat) (N : Nat → Nat) : va_W := [(mo, .inr (7, (.int (nI (N 0)) :: .ref (a 1) :: .int (nI (N 1)) :: .int (nI (N 2)) :: .ref (a 4) :: .int (nI (N 3)) :: .int (nI (N 4)) :: .ref (a 7) :: .ref (a 8) :: .ref (a 9) :: .int (nI (N 5)) :: .int (nI (N 6)) :: .int (nI (N 7)) :: .ref (a 13) :: .ref (a 14) :: .ref (a 15) :: .ref (a 16) :: .ref (a 17) :: .ref (a 18) :: .ref (a 19) :: .ref (a 20) :: .ref (a 21) :: .ref (a 22) :: .ref (a 23) :: .int (nI (N 8)) :: .int (nI (N 9)) :: .int (nI (N 10)) :: .int (nI (N 11)) :: .int (nI (N 12)) :: .int (nI (N 13)) :: .int (nI (N 14)) :: .int (nI (N 15)) :: .int (nI (N 16)) :: .int (nI (N 17)) :: .int (nI (N 18)) :: .int (nI (N 19)) :: .int (nI (N 20)) :: .int (nI (N 21)) :: .int (nI (N 22)) :: .int (nI (N 23)) :: []))), ((a 1), aB g 4000 (fun j => nB (T j))), ((a 21), aI g 14 (fun j => nI (tN 0 (j + 1))))]
abbrev rsR (g : GT) (a : Nat → Nat) (ra qa : Nat → Nat → Nat) (M : Nat → Nat → Nat → Nat) (SM V PC : Nat → Nat → Int32) (PS : Nat → Nat) : va_W := [((a 18), aII g 2 (ptr 2 (ra 18))), ((a 17), aII g 2 (ptr 2 (ra 17))), ((a 16), aII g 2 (ptr 2 (ra 16))), ((a 19), aIII g 2 (ptr 2 (qa 19))), ((a 20), aIII g 2 (ptr 2 (qa 20))), ((a 13), aIII g 2 (ptr 2 (qa 13))), ((a 14), aII g 2 (ptr 2 (ra 14))), ((a 15), aIII g 2 (ptr 2 (qa 15))), ((a 9), aII g 2 (ptr 2 (ra 9))), ((a 7), aII g 2 (ptr 2 (ra 7))), ((a 4), aII g 130 (ptr 130 (ra 4))), ((a 8), aI g 2 (fun j => nI (PS j))), ((a 22), aI g 33 (fun j => nI (tN 9 j))), ((a 23), aI g 257 (fun j => sV 10 j))] ++ (grd g (ra 18) 2 32 (mN (M 0)) ++ (grd g (ra 17) 2 32 (mN (M 1)) ++ (grd g (ra 16) 2 32 (mN (M 2)) ++ (pgr g (qa 19) 2 32 (fun c t => ra 19 (c * 32 + t)) ++ (grd g (ra 19) 64 3 (mN (M 3)) ++ (pgr g (qa 20) 2 36 (fun c t => ra 20 (c * 36 + t)) ++ (grd g (ra 20) 72 32 (mN (M 4)) ++ (pgr g (qa 13) 2 36 (fun c t => ra 13 (c * 36 + t)) ++ (grd g (ra 13) 72 32 SM ++ (grd g (ra 14) 2 32 (mN (M 5)) ++ (pgr g (qa 15) 2 32 (fun c t => ra 15 (c * 32 + t)) ++ (grd g (ra 15) 64 3 (mN (M 6)) ++ (grd g (ra 9) 2 1024 V ++ (grd g (ra 7) 2 48400 PC ++ (grd g (ra 4) 130 10 (mN (M 7)) ++ [])))))))))))))))
theorem wR_hd (g : GT) (mo : Nat) (a : Nat → Nat) (ra qa : Nat → Nat → Nat) (T : Nat → Nat) (N : Nat → Nat) (M : Nat → Nat → Nat → Nat) (SM V PC : Nat → Nat → Int32) (PS : Nat → Nat) : (wR g mo a ra qa T N M SM V PC PS).Perm (hdR g mo a T N ++ rsR g a ra qa M SM V PC PS) := pmA (E := [(mo, .inr (7, (.int (nI (N 0)) :: .ref (a 1) :: .int (nI (N 1)) :: .int (nI (N 2)) :: .ref (a 4) :: .int (nI (N 3)) :: .int (nI (N 4)) :: .ref (a 7) :: .ref (a 8) :: .ref (a 9) :: .int (nI (N 5)) :: .int (nI (N 6)) :: .int (nI (N 7)) :: .ref (a 13) :: .ref (a 14) :: .ref (a 15) :: .ref (a 16) :: .ref (a 17) :: .ref (a 18) :: .ref (a 19) :: .ref (a 20) :: .ref (a 21) :: .ref (a 22) :: .ref (a 23) :: .int (nI (N 8)) :: .int (nI (N 9)) :: .int (nI (N 10)) :: .int (nI (N 11)) :: .int (nI (N 12)) :: .int (nI (N 13)) :: .int (nI (N 14)) :: .int (nI (N 15)) :: .int (nI (N 16)) :: .int (nI (N 17)) :: .int (nI (N 18)) :: .int (nI (N 19)) :: .int (nI (N 20)) :: .int (nI (N 21)) :: .int (nI (N 22)) :: .int (nI (N 23)) :: []))), ((a 1), aB g 4000 (fun j => nB (T j))), ((a 18), aII g 2 (ptr 2 (ra 18))), ((a 17), aII g 2 (ptr 2 (ra 17))), ((a 16), aII g 2 (ptr 2 (ra 16))), ((a 19), aIII g 2 (ptr 2 (qa 19))), ((a 20), aIII g 2 (ptr 2 (qa 20))), ((a 13), aIII g 2 (ptr 2 (qa 13))), ((a 14), aII g 2 (ptr 2 (ra 14))), ((a 15), aIII g 2 (ptr 2 (qa 15))), ((a 9), aII g 2 (ptr 2 (ra 9))), ((a 7), aII g 2 (ptr 2 (ra 7))), ((a 4), aII g 130 (ptr 130 (ra 4))), ((a 8), aI g 2 (fun j => nI (PS j))), ((a 22), aI g 33 (fun j => nI (tN 9 j))), ((a 23), aI g 257 (fun j => sV 10 j)), ((a 21), aI g 14 (fun j => nI (tN 0 (j + 1))))]) (E1 := [(mo, .inr (7, (.int (nI (N 0)) :: .ref (a 1) :: .int (nI (N 1)) :: .int (nI (N 2)) :: .ref (a 4) :: .int (nI (N 3)) :: .int (nI (N 4)) :: .ref (a 7) :: .ref (a 8) :: .ref (a 9) :: .int (nI (N 5)) :: .int (nI (N 6)) :: .int (nI (N 7)) :: .ref (a 13) :: .ref (a 14) :: .ref (a 15) :: .ref (a 16) :: .ref (a 17) :: .ref (a 18) :: .ref (a 19) :: .ref (a 20) :: .ref (a 21) :: .ref (a 22) :: .ref (a 23) :: .int (nI (N 8)) :: .int (nI (N 9)) :: .int (nI (N 10)) :: .int (nI (N 11)) :: .int (nI (N 12)) :: .int (nI (N 13)) :: .int (nI (N 14)) :: .int (nI (N 15)) :: .int (nI (N 16)) :: .int (nI (N 17)) :: .int (nI (N 18)) :: .int (nI (N 19)) :: .int (nI (N 20)) :: .int (nI (N 21)) :: .int (nI (N 22)) :: .int (nI (N 23)) :: []))), ((a 1), aB g 4000 (fun j => nB (T j))), ((a 21), aI g 14 (fun j => nI (tN 0 (j + 1))))]) (E2 := [((a 18), aII g 2 (ptr 2 (ra 18))), ((a 17), aII g 2 (ptr 2 (ra 17))), ((a 16), aII g 2 (ptr 2 (ra 16))), ((a 19), aIII g 2 (ptr 2 (qa 19))), ((a 20), aIII g 2 (ptr 2 (qa 20))), ((a 13), aIII g 2 (ptr 2 (qa 13))), ((a 14), aII g 2 (ptr 2 (ra 14))), ((a 15), aIII g 2 (ptr 2 (qa 15))), ((a 9), aII g 2 (ptr 2 (ra 9))), ((a 7), aII g 2 (ptr 2 (ra 7))), ((a 4), aII g 130 (ptr 130 (ra 4))), ((a 8), aI g 2 (fun j => nI (PS j))), ((a 22), aI g 33 (fun j => nI (tN 9 j))), ((a 23), aI g 257 (fun j => sV 10 j))]) (tl := (grd g (ra 18) 2 32 (mN (M 0)) ++ (grd g (ra 17) 2 32 (mN (M 1)) ++ (grd g (ra 16) 2 32 (mN (M 2)) ++ (pgr g (qa 19) 2 32 (fun c t => ra 19 (c * 32 + t)) ++ (grd g (ra 19) 64 3 (mN (M 3)) ++ (pgr g (qa 20) 2 36 (fun c t => ra 20 (c * 36 + t)) ++ (grd g (ra 20) 72 32 (mN (M 4)) ++ (pgr g (qa 13) 2 36 (fun c t => ra 13 (c * 36 + t)) ++ (grd g (ra 13) 72 32 SM ++ (grd g (ra 14) 2 32 (mN (M 5)) ++ (pgr g (qa 15) 2 32 (fun c t => ra 15 (c * 32 + t)) ++ (grd g (ra 15) 64 3 (mN (M 6)) ++ (grd g (ra 9) 2 1024 V ++ (grd g (ra 7) 2 48400 PC ++ (grd g (ra 4) 130 10 (mN (M 7)) ++ [])))))))))))))))) 17 rfl [0, 1, 16, 2, 3, 4, 5, 6, 7, 8, 9, 10, 11, 12, 13, 14, 15] (by decide +kernel) rfl
theorem refP_N {T : Nat → Nat} {len : Nat} {x : SSt} {N N1 : Nat → Nat} {M : Nat → Nat → Nat → Nat} {SM V PC : Nat → Nat → Int32} {PS : Nat → Nat} (h : refP T len x N M SM V PC PS) (e1 : N1 1 = N 1) (e2 : N1 2 = N 2) (e3 : N1 3 = N 3) (e4 : N1 4 = N 4) (e5 : N1 5 = N 5) (e6 : N1 6 = N 6) (e7 : N1 7 = N 7) : refP T len x N1 M SM V PC PS := by
  unfold refP at h ⊢
  rw [e1, e2, e3, e4, e5, e6, e7]
  exact h
theorem refP_st {T : Nat → Nat} {len : Nat} {x : SSt} {N N1 : Nat → Nat} {M : Nat → Nat → Nat → Nat} {SM V PC : Nat → Nat → Int32} {PS : Nat → Nat} (h : refP T len x N M SM V PC PS) (e1 : N1 1 = N 1) (e2 : N1 2 = (stS T len x).1) (e3 : N1 3 = N 3) (e4 : N1 4 = N 4) (e5 : N1 5 = N 5) (e6 : N1 6 = N 6) (e7 : N1 7 = N 7) : refP T len (stS T len x) N1 M SM V PC PS := by
  obtain ⟨h1, h2, ⟨k1, k2, k3, k4, k5⟩, h4, h5, h6, h7, h8, h9⟩ := h
  refine ⟨h1, SOK_st h2, ⟨by rw [e1, k1], e2, by rw [e3, k3]; rfl, by rw [e4, k4]; rfl, by rw [e5, k5]; rfl⟩, by rw [e6, e7]; exact h4, h5, h6, ?_, h8, h9⟩
  rw [e6, e7]
  exact h7
def frU (FR : Nat → Nat → Nat) (nf oq pp sz_ ly rt sp md ch bd : Nat) : Nat → Nat → Nat := updN2 (updN2 (updN2 (updN2 (updN2 (updN2 (updN2 (updN2 (updN2 (updN2 FR nf 0 oq) nf 1 pp) nf 2 sz_) nf 3 ly) nf 4 rt) nf 5 sp) nf 6 md) nf 7 ch) nf 8 bd) nf 9 (if oq = 0 then (if ly = 1 then 384 else 1152) else 0)
theorem frU_old {FR : Nat → Nat → Nat} {nf oq pp sz_ ly rt sp md ch bd i j : Nat} (hi : i ≠ nf) : frU FR nf oq pp sz_ ly rt sp md ch bd i j = FR i j := by
  unfold frU
  rw [updN2_at, if_neg (fun q => hi q.1), updN2_at, if_neg (fun q => hi q.1), updN2_at, if_neg (fun q => hi q.1), updN2_at, if_neg (fun q => hi q.1), updN2_at, if_neg (fun q => hi q.1), updN2_at, if_neg (fun q => hi q.1), updN2_at, if_neg (fun q => hi q.1), updN2_at, if_neg (fun q => hi q.1), updN2_at, if_neg (fun q => hi q.1), updN2_at, if_neg (fun q => hi q.1)]
theorem frU_new {FR : Nat → Nat → Nat} {nf oq a w j : Nat} (hj : j < 10) : nI (frU FR nf oq a (byS w) (layerS w) (rateS w) (sampS w) (modeS w) (chS w) (boundS w) nf j) = tellQ (w, a, oq) j := by
  rcases (show j = 0 ∨ j = 1 ∨ j = 2 ∨ j = 3 ∨ j = 4 ∨ j = 5 ∨ j = 6 ∨ j = 7 ∨ j = 8 ∨ j = 9 by omega) with rfl | rfl | rfl | rfl | rfl | rfl | rfl | rfl | rfl | rfl
  · show _ = nI (oq)
    apply congrArg nI
    unfold frU
    rw [updN2_at, if_neg (by omega), updN2_at, if_neg (by omega), updN2_at, if_neg (by omega), updN2_at, if_neg (by omega), updN2_at, if_neg (by omega), updN2_at, if_neg (by omega), updN2_at, if_neg (by omega), updN2_at, if_neg (by omega), updN2_at, if_neg (by omega), updN2_at, if_pos ⟨rfl, rfl⟩]
  · show _ = nI (a)
    apply congrArg nI
    unfold frU
    rw [updN2_at, if_neg (by omega), updN2_at, if_neg (by omega), updN2_at, if_neg (by omega), updN2_at, if_neg (by omega), updN2_at, if_neg (by omega), updN2_at, if_neg (by omega), updN2_at, if_neg (by omega), updN2_at, if_neg (by omega), updN2_at, if_pos ⟨rfl, rfl⟩]
  · show _ = nI (byS w)
    apply congrArg nI
    unfold frU
    rw [updN2_at, if_neg (by omega), updN2_at, if_neg (by omega), updN2_at, if_neg (by omega), updN2_at, if_neg (by omega), updN2_at, if_neg (by omega), updN2_at, if_neg (by omega), updN2_at, if_neg (by omega), updN2_at, if_pos ⟨rfl, rfl⟩]
  · show _ = nI (layerS w)
    apply congrArg nI
    unfold frU
    rw [updN2_at, if_neg (by omega), updN2_at, if_neg (by omega), updN2_at, if_neg (by omega), updN2_at, if_neg (by omega), updN2_at, if_neg (by omega), updN2_at, if_neg (by omega), updN2_at, if_pos ⟨rfl, rfl⟩]
  · show _ = nI (rateS w)
    apply congrArg nI
    unfold frU
    rw [updN2_at, if_neg (by omega), updN2_at, if_neg (by omega), updN2_at, if_neg (by omega), updN2_at, if_neg (by omega), updN2_at, if_neg (by omega), updN2_at, if_pos ⟨rfl, rfl⟩]
  · show _ = nI (sampS w)
    apply congrArg nI
    unfold frU
    rw [updN2_at, if_neg (by omega), updN2_at, if_neg (by omega), updN2_at, if_neg (by omega), updN2_at, if_neg (by omega), updN2_at, if_pos ⟨rfl, rfl⟩]
  · show _ = nI (modeS w)
    apply congrArg nI
    unfold frU
    rw [updN2_at, if_neg (by omega), updN2_at, if_neg (by omega), updN2_at, if_neg (by omega), updN2_at, if_pos ⟨rfl, rfl⟩]
  · show _ = nI (chS w)
    apply congrArg nI
    unfold frU
    rw [updN2_at, if_neg (by omega), updN2_at, if_neg (by omega), updN2_at, if_pos ⟨rfl, rfl⟩]
  · show _ = nI (boundS w)
    apply congrArg nI
    unfold frU
    rw [updN2_at, if_neg (by omega), updN2_at, if_pos ⟨rfl, rfl⟩]
  · show _ = nI (if oq = 0 then (if layerS w = 1 then 384 else 1152) else 0)
    apply congrArg nI
    unfold frU
    rw [updN2_at, if_pos ⟨rfl, rfl⟩]
theorem fr_all {T : Nat → Nat} {x : SSt} {N : Nat → Nat} {M M1 : Nat → Nat → Nat → Nat} {aq wq : Nat} (k3 : N 3 = x.2.1.length) (h : ∀ i q, x.2.1[i]? = some q → ∀ j, j < 10 → nI (M 7 i j) = tellQ q j) (m7 : M1 7 = frU (M 7) (N 3) (ocN T aq wq) aq (byS wq) (layerS wq) (rateS wq) (sampS wq) (modeS wq) (chS wq) (boundS wq)) : ∀ i q, (x.2.1 ++ [(wq, aq, ocN T aq wq)])[i]? = some q → ∀ j, j < 10 → nI (M1 7 i j) = tellQ q j := by
  intro i q hq j hj
  rw [m7]
  by_cases hi : i < x.2.1.length
  · rw [List.getElem?_append_left hi] at hq
    rw [frU_old (by omega)]
    exact h i q hq j hj
  · rw [List.getElem?_append_right (by omega)] at hq
    have e : i = N 3 := by
      rcases Nat.eq_zero_or_pos (i - x.2.1.length) with z | z
      · omega
      · rw [List.getElem?_eq_none (by show [_].length ≤ _; show 1 ≤ _; omega)] at hq
        cases hq
    rw [show i - x.2.1.length = 0 by omega] at hq
    have e2 : (wq, aq, ocN T aq wq) = q := Option.some.inj hq
    rw [← e2, e]
    exact frU_new hj
theorem refP_A {T : Nat → Nat} {len : Nat} {x : SSt} {N N1 : Nat → Nat} {M M1 : Nat → Nat → Nat → Nat} {SM V PC : Nat → Nat → Int32} {PS : Nat → Nat} {aq wq : Nat} (h : refP T len x N M SM V PC PS) (hfd : fdS T len x = aq) (hwd : wdS T aq = wq) (hon : aq + 4 ≤ len ∧ byS wq ≤ len - aq) (ho : ocN T aq wq ≠ 0) (e1 : N1 1 = N 1) (e2 : N1 2 = aq + byS wq) (e3 : N1 3 = N 3 + 1) (e4 : N1 4 = N 4) (e5 : N1 5 = N 5) (e6 : N1 6 = N 6) (e7 : N1 7 = N 7) (hj : jB (M1 0) (M1 1) (M1 2) (M1 3) (M1 4)) (m5 : M1 5 = M 5) (m6 : M1 6 = M 6) (m7 : M1 7 = frU (M 7) (N 3) (ocN T aq wq) aq (byS wq) (layerS wq) (rateS wq) (sampS wq) (modeS wq) (chS wq) (boundS wq)) : refP T len (nxS T aq wq x) N1 M1 SM V PC PS := by
  obtain ⟨h1, h2, ⟨k1, k2, k3, k4, k5⟩, h4, h5, h6, h7, h8, h9⟩ := h
  have hN := SOK_nx (T := T) h2 (by rw [hfd]; exact hon.1) (by rw [hfd, hwd]; exact hon.2)
  rw [hfd, hwd] at hN
  have e : nxS T aq wq x = (aq + byS wq, x.2.1 ++ [(wq, aq, ocN T aq wq)], x.2.2.1, x.2.2.2) := by unfold nxS; rw [if_neg ho]
  rw [e] at hN ⊢
  refine ⟨h1, hN, ⟨by rw [e1, k1], e2, ?_, by rw [e4, k4], by rw [e5, k5]⟩, ?_, hj, fr_all k3 h6 m7, ?_, h8, h9⟩
  · rw [e3, k3, List.length_append]; rfl
  · rw [e6, e7, m5]; exact h4
  · rw [e6, e7, m5, m6]; exact h7
theorem refP_B {T : Nat → Nat} {len : Nat} {x : SSt} {N N1 : Nat → Nat} {M M1 : Nat → Nat → Nat → Nat} {SM V PC : Nat → Nat → Int32} {PS : Nat → Nat} {aq wq : Nat} {y1 : KS} {y2 : SDS} {rw_ : Nat} (h : refP T len x N M SM V PC PS) (hfd : fdS T len x = aq) (hwd : wdS T aq = wq) (hon : aq + 4 ≤ len ∧ byS wq ≤ len - aq) (ho : ocN T aq wq = 0) (e1 : N1 1 = N 1) (e2 : N1 2 = aq + byS wq) (e3 : N1 3 = N 3 + 1) (e4 : N1 4 = N 4 + 1) (e5 : N1 5 = 1) (e6 : N1 6 = chS wq) (e7 : N1 7 = rw_) (hrw : rw_ = rowsS wq) (hj : jB (M1 0) (M1 1) (M1 2) (M1 3) (M1 4)) (m5 : M1 5 = y1.1) (m6 : M1 6 = y1.2.1) (m7 : M1 7 = frU (M 7) (N 3) (ocN T aq wq) aq (byS wq) (layerS wq) (rateS wq) (sampS wq) (modeS wq) (chS wq) (boundS wq)) (hq : CTQ (ctN T aq wq) y1.1 y1.2.1 y1.2.2) (hb : ∀ i j, i < chS wq → j < 32 → y1.1 i j < 2 ^ 31) (hy2 : y2 = lp (sdT y1.2.2 (chS wq)) rw_ (V, PC, PS)) : refP T len (nxS T aq wq x) N1 M1 y1.2.2 y2.1 y2.2.1 y2.2.2 := by
  obtain ⟨h1, h2, ⟨k1, k2, k3, k4, k5⟩, h4, h5, h6, h7, h8, h9⟩ := h
  have hN := SOK_nx (T := T) h2 (by rw [hfd]; exact hon.1) (by rw [hfd, hwd]; exact hon.2)
  rw [hfd, hwd] at hN
  have hc := ch_le wq
  have hr := rows_le wq
  have e : nxS T aq wq x = (aq + byS wq, x.2.1 ++ [(wq, aq, ocN T aq wq)], x.2.2.1 + 1, ctN T aq wq, vNx (ctN T aq wq).2.2.2.2 0 (rowsS wq) x.2.2.2.2.1, if chS wq = 2 then vNx (ctN T aq wq).2.2.2.2 1 (rowsS wq) x.2.2.2.2.2 else x.2.2.2.2.2) := by unfold nxS; rw [if_pos ho]
  rw [e] at hN ⊢
  refine ⟨h1, hN, ⟨by rw [e1, k1], e2, ?_, by rw [e4, k4], ?_⟩, ⟨by rw [e6]; exact hc.2, by rw [e7, hrw]; exact hr, ?_⟩, hj, fr_all k3 h6 m7, ?_, ?_, ?_⟩
  · rw [e3, k3, List.length_append]; rfl
  · rw [e5]; show 1 = if 0 < x.2.2.1 + 1 then 1 else 0; rw [if_pos (by omega)]
  · rw [e6, m5]; exact hb
  · intro _
    rw [m5, m6]
    exact ⟨e6, by rw [e7, hrw]; rfl, hq⟩
  · show VR (chan y2 0) _
    rw [hy2, hrw]
    exact VR_sd (by omega) (fun t ht b hb2 => (hq 0 b (by show 0 < chS wq; omega) hb2).2.2 t ht) h8
  · show VR (chan y2 1) (if chS wq = 2 then _ else _)
    rw [hy2, hrw]
    by_cases q : chS wq = 2
    · rw [if_pos q]
      exact VR_sd (by omega) (fun t ht b hb2 => (hq 1 b (by show 1 < chS wq; omega) hb2).2.2 t ht) h9
    · rw [if_neg q]
      exact VR_id (by omega) h9
abbrev rm_c_rdecode : Room := { frames := 5, cells := 0, slots := 0, locals := 121 }
set_option maxHeartbeats 4000000 in
set_option maxRecDepth 100000 in
theorem c_rdecode (l : Launch) (g : GT) (sz : Nat) (mo : Nat) (a : Nat → Nat) (ra qa : Nat → Nat → Nat) (T : Nat → Nat) (len : Nat) (x : SSt) (N : Nat → Nat) (M : Nat → Nat → Nat → Nat) (SM V PC : Nat → Nat → Int32) (PS : Nat → Nat) (h : refP T len x N M SM V PC PS) : CtI l g yX7_decode wsX7_decode rm_c_rdecode [.ref mo] (wR g mo a ra qa T N M SM V PC PS) sz (fun _ => True) (fun rr u => rr = nI (decS T len 40 x).1 ∧ ∃ (N2 : Nat → Nat) (M2 : Nat → Nat → Nat → Nat) (SM2 V2 PC2 : Nat → Nat → Int32) (PS2 : Nat → Nat), u = wR g mo a ra qa T N2 M2 SM2 V2 PC2 PS2 ∧ refP T len (decS T len 40 x).2 N2 M2 SM2 V2 PC2 PS2) 0 0 := by
  refine ct_body (cc := cX7_decode) (nL := 5) (ret := (some .int)) (by decide) rfl (Nat.le_of_ble_eq_true rfl) ?_
  intro p e s m below meth c ls C hin hsz hB hw hl
  obtain ⟨hx, hb, hml, hown, hts, hK, hA, hr, hlk⟩ := id C
  have lk110 := hts (.fieldLink RX7 110 "SoundBenchModel" "place" "I") (by decide +kernel)
  have lk103 := hts (.fieldLink RX7 103 "SoundBenchModel" "taped" "I") (by decide +kernel)
  have lk163 := hts (.fieldLink RX7 163 "SoundBenchModel" "size" "I") (by decide +kernel)
  have in_X7 : ∀ w ∈ wsX70, w ∈ wsX7_decode := by unfold wsX7_decode; intro w h; simp only [List.mem_cons, List.mem_append, h, or_true, true_or]
  have hl : lv_has ls 5 [(0, .ref mo)] := hl
  have hw : Wd g (va_A (wR g mo a ra qa T N M SM V PC PS) sz) s.heap (wR g mo a ra qa T N M SM V PC PS) s.heap [] := hw
  have fin : ∀ (i : Nat) (x1 : SSt) (N1 : Nat → Nat) (M1 : Nat → Nat → Nat → Nat) (SM1 V1 PC1 : Nat → Nat → Int32) (PS1 : Nat → Nat) (H : Heap) (locs : List Loc) (ls : Array Slot), i ≤ 40 → refP T len x1 N1 M1 SM1 V1 PC1 PS1 → Wd g (va_A (wR g mo a ra qa T N M SM V PC PS) sz) s.heap (wR g mo a ra qa T N1 M1 SM1 V1 PC1 PS1) H locs → lv_has ls 5 [(0, .ref mo), (1, .int (nI i)), (2, .int (nI 0))] → decS T len 40 x = (i, x1) → W p l e rm_c_rdecode s m [Value.ref mo].toArray below meth c H locs 0 0 (MQI g below [Value.ref mo].toArray s (wR g mo a ra qa T N M SM V PC PS) sz (fun rr u => rr = nI (decS T len 40 x).1 ∧ ∃ (N2 : Nat → Nat) (M2 : Nat → Nat → Nat → Nat) (SM2 V2 PC2 : Nat → Nat → Int32) (PS2 : Nat → Nat), u = wR g mo a ra qa T N2 M2 SM2 V2 PC2 PS2 ∧ refP T len (decS T len 40 x).2 N2 M2 SM2 V2 PC2 PS2) 0 0) (F0 m 4 ls []) := by
    intro i x1 N1 M1 SM1 V1 PC1 PS1 H locs ls hi hR hw hl e1
    refine lv_iload_n hx hb dX7_decode_4 rfl (lv_at hl 2 rfl) ?_
    refine n_eq0 (tgt := 132) hx hb (by omega) dX7_decode_5 (by decide) (fun _ => ?_) (fun q => by omega)
    refine lv_iload_n hx hb dX7_decode_132 rfl (lv_at hl 1 rfl) ?_
    exact r_iret C hw (Nat.le_refl _) (Nat.le_refl _) ⟨by rw [e1], N1, M1, SM1, V1, PC1, PS1, rfl, by rw [e1]; exact hR⟩ dX7_decode_133
  have key : ∀ (n i : Nat) (x1 : SSt) (N1 : Nat → Nat) (M1 : Nat → Nat → Nat → Nat) (SM1 V1 PC1 : Nat → Nat → Int32) (PS1 : Nat → Nat) (H : Heap) (locs : List Loc) (ls : Array Slot), i + n = 40 → refP T len x1 N1 M1 SM1 V1 PC1 PS1 → Wd g (va_A (wR g mo a ra qa T N M SM V PC PS) sz) s.heap (wR g mo a ra qa T N1 M1 SM1 V1 PC1 PS1) H locs → lv_has ls 5 [(0, .ref mo), (1, .int (nI i)), (2, .int (nI 1))] → decS T len 40 x = ((decS T len n x1).1 + i, (decS T len n x1).2) → W p l e rm_c_rdecode s m [Value.ref mo].toArray below meth c H locs 0 0 (MQI g below [Value.ref mo].toArray s (wR g mo a ra qa T N M SM V PC PS) sz (fun rr u => rr = nI (decS T len 40 x).1 ∧ ∃ (N2 : Nat → Nat) (M2 : Nat → Nat → Nat → Nat) (SM2 V2 PC2 : Nat → Nat → Int32) (PS2 : Nat → Nat), u = wR g mo a ra qa T N2 M2 SM2 V2 PC2 PS2 ∧ refP T len (decS T len 40 x).2 N2 M2 SM2 V2 PC2 PS2) 0 0) (F0 m 4 ls []) := by
    intro n
    induction n with
    | zero =>
      intro i x1 N1 M1 SM1 V1 PC1 PS1 H locs ls hi hR hw hl e1
      have hi40 : i = 40 := by omega
      subst hi40
      refine lv_iload_n hx hb dX7_decode_4 rfl (lv_at hl 2 rfl) ?_
      refine n_eq0 (tgt := 132) hx hb (by omega) dX7_decode_5 (by decide) (fun q => by omega) (fun _ => ?_)
      refine lv_iload_n hx hb dX7_decode_8 rfl (lv_at hl 1 rfl) ?_
      refine lv_bipush (v := nI 40) hx hb dX7_decode_9 (by decide) ?_
      refine n_cge (tgt := 132) hx hb (by omega) (by omega) dX7_decode_11 (by decide) (fun _ => ?_) (fun q => by omega)
      refine lv_iload_n hx hb dX7_decode_132 rfl (lv_at hl 1 rfl) ?_
      exact r_iret C hw (Nat.le_refl _) (Nat.le_refl _) ⟨by rw [e1]; rfl, N1, M1, SM1, V1, PC1, PS1, rfl, by rw [e1]; exact hR⟩ dX7_decode_133
    | succ n ih =>
      intro i x1 N1 M1 SM1 V1 PC1 PS1 H locs ls hi hR hw hl e1
      obtain ⟨hT, hS, ⟨n1, n2, n3, n4, n5⟩, hR4⟩ := id hR
      have hs1 := hS.1.1
      have hs2 := hS.1.2
      refine lv_iload_n hx hb dX7_decode_4 rfl (lv_at hl 2 rfl) ?_
      refine n_eq0 (tgt := 132) hx hb (by omega) dX7_decode_5 (by decide) (fun q => by omega) (fun _ => ?_)
      refine lv_iload_n hx hb dX7_decode_8 rfl (lv_at hl 1 rfl) ?_
      refine lv_bipush (v := nI 40) hx hb dX7_decode_9 (by decide) ?_
      refine n_cge (tgt := 132) hx hb (by omega) (by omega) dX7_decode_11 (by decide) (fun q => by omega) (fun _ => ?_)
      refine lv_aload_n hx hb dX7_decode_14 rfl (lv_at hl 0 rfl) ?_
      refine r_get C hw in_X7 0 rfl rfl 3 (by decide) lk110 rfl dX7_decode_15 ?_
      refine tp1 (v' := nI x1.1) (congrArg nI n2) ?_
      refine lv_istore_n (lv' := [(3, .int (nI x1.1)), (0, .ref mo), (1, .int (nI i)), (2, .int (nI 1))]) hx hb dX7_decode_18 rfl hl (by decide) rfl (fun ls hl => ?_)
      refine lpw (I := fun k H locs ls => ∃ K : Nat → Nat, refP T len x1 K M1 SM1 V1 PC1 PS1 ∧ Wd g (va_A (wR g mo a ra qa T N M SM V PC PS) sz) s.heap (wR g mo a ra qa T K M1 SM1 V1 PC1 PS1) H locs ∧ lv_has ls 5 [(0, .ref mo), (1, .int (nI i)), (2, .int (nI 1)), (3, .int (nI (x1.1 + k)))] ∧ ∀ j, j < k → goodS (wdS T (x1.1 + j)) = 0) (len - 3 - x1.1) ?_ ?_ 0 (Nat.zero_le _) ⟨N1, hR, hw, lv_sub hl [1, 2, 3, 0] rfl, fun j hj => by omega⟩
      · intro H locs ls hI
        obtain ⟨K, hR, hw, hl, hG⟩ := hI
        obtain ⟨-, -, ⟨k1, k2, k3, k4, k5⟩, -⟩ := id hR
        refine lv_iload_n hx hb dX7_decode_19 rfl (lv_at hl 3 rfl) ?_
        refine lv_iconst (v := nI 4) hx hb dX7_decode_20 (by decide) ?_
        refine n_add hx hb dX7_decode_21 ?_
        refine lv_aload_n hx hb dX7_decode_22 rfl (lv_at hl 0 rfl) ?_
        refine r_get C hw in_X7 0 rfl rfl 2 (by decide) lk103 rfl dX7_decode_23 ?_
        refine tp1 (v' := nI len) (congrArg nI k1) ?_
        refine n_cgt (tgt := 43) hx hb (by omega) (by omega) dX7_decode_26 (by decide) (fun c1 => ?_) (fun c1 => by omega)
        refine lv_iload_n hx hb dX7_decode_43 rfl (lv_at hl 3 rfl) ?_
        refine lv_iconst (v := nI 4) hx hb dX7_decode_44 (by decide) ?_
        refine n_add hx hb dX7_decode_45 ?_
        refine lv_aload_n hx hb dX7_decode_46 rfl (lv_at hl 0 rfl) ?_
        refine r_get C hw in_X7 0 rfl rfl 2 (by decide) lk103 rfl dX7_decode_47 ?_
        refine tp1 (v' := nI len) (congrArg nI k1) ?_
        refine n_cle (tgt := 88) hx hb (by omega) (by omega) dX7_decode_50 (by decide) (fun c2 => by omega) (fun c2 => ?_)
        have hfd : fdS T len x1 = x1.1 + (len - 3 - x1.1) := fndS_none hG
        have hst : stS T len x1 = (max x1.1 (len - 3), x1.2) := by unfold stS; rw [if_neg (by omega)]
        have hoff : ¬ (fdS T len x1 + 4 ≤ len ∧ byS (wdS T (fdS T len x1)) ≤ len - fdS T len x1) := fun q => by omega
        rw [decS_off hoff] at e1
        refine lv_aload_n hx hb dX7_decode_53 rfl (lv_at hl 0 rfl) ?_
        refine r_get C hw in_X7 0 rfl rfl 2 (by decide) lk103 rfl dX7_decode_54 ?_
        refine tp1 (v' := nI len) (congrArg nI k1) ?_
        refine lv_iconst (v := nI 3) hx hb dX7_decode_57 (by decide) ?_
        refine lv_isub hx hb dX7_decode_58 ?_
        refine lv_istore (lv' := [(4, .int (nI len - nI 3)), (0, .ref mo), (1, .int (nI i)), (2, .int (nI 1)), (3, .int (nI (x1.1 + (len - 3 - x1.1))))]) hx hb dX7_decode_59 hl (by decide) rfl (fun ls hl => ?_)
        have tl : W p l e rm_c_rdecode s m [Value.ref mo].toArray below meth c H locs 0 0 (MQI g below [Value.ref mo].toArray s (wR g mo a ra qa T N M SM V PC PS) sz (fun rr u => rr = nI (decS T len 40 x).1 ∧ ∃ (N2 : Nat → Nat) (M2 : Nat → Nat → Nat → Nat) (SM2 V2 PC2 : Nat → Nat → Int32) (PS2 : Nat → Nat), u = wR g mo a ra qa T N2 M2 SM2 V2 PC2 PS2 ∧ refP T len (decS T len 40 x).2 N2 M2 SM2 V2 PC2 PS2) 0 0) (F0 m 80 ls [.int (nI (max x1.1 (len - 3))), .ref mo]) := by
          refine r_put C hw in_X7 tyX7_ok nmX7 0 rfl rfl 3 (by decide) lk110 rfl rfl rfl (Nat.le_of_ble_eq_true rfl) (ws' := wR g mo a ra qa T (pkN (K 0) (K 1) (max x1.1 (len - 3)) (K 3) (K 4) (K 5) (K 6) (K 7) (K 8) (K 9) (K 10) (K 11) (K 12) (K 13) (K 14) (K 15) (K 16) (K 17) (K 18) (K 19) (K 20) (K 21) (K 22) (K 23)) M1 SM1 V1 PC1 PS1) rfl dX7_decode_80 (fun H locs hw => ?_)
          refine lv_iconst (v := nI 0) hx hb dX7_decode_83 (by decide) ?_
          refine lv_istore_n (lv' := [(2, .int (nI 0)), (4, .int (nI len - nI 3)), (0, .ref mo), (1, .int (nI i)), (3, .int (nI (x1.1 + (len - 3 - x1.1))))]) hx hb dX7_decode_84 rfl hl (by decide) rfl (fun ls hl => ?_)
          refine lv_goto (tgt := 129) hx hb dX7_decode_85 (by decide) ?_
          refine lv_goto (tgt := 4) hx hb dX7_decode_129 (by decide) ?_
          exact fin i (stS T len x1) (pkN (K 0) (K 1) (max x1.1 (len - 3)) (K 3) (K 4) (K 5) (K 6) (K 7) (K 8) (K 9) (K 10) (K 11) (K 12) (K 13) (K 14) (K 15) (K 16) (K 17) (K 18) (K 19) (K 20) (K 21) (K 22) (K 23)) M1 SM1 V1 PC1 PS1 H locs ls (by omega) (refP_st hR rfl (by rw [hst]; rfl) rfl rfl rfl rfl rfl) hw (lv_sub hl [2, 3, 0] rfl) (by rw [e1]; exact Prod.ext (Nat.zero_add i) rfl)
        have hmx := max_sub3 (pl := x1.1) (len := len) (by omega) (by omega)
        refine lv_aload_n hx hb dX7_decode_61 rfl (lv_at hl 1 rfl) ?_
        refine lv_iload hx hb dX7_decode_62 (lv_at hl 0 rfl) ?_
        refine lv_aload_n hx hb dX7_decode_64 rfl (lv_at hl 1 rfl) ?_
        refine r_get C hw in_X7 0 rfl rfl 3 (by decide) lk110 rfl dX7_decode_65 ?_
        refine tp1 (v' := nI x1.1) (congrArg nI k2) ?_
        refine lv_icmp_le (tgt := 76) hx hb dX7_decode_68 (by decide) (fun c3 => ?_) (fun c3 => ?_)
        · refine lv_aload_n hx hb dX7_decode_76 rfl (lv_at hl 1 rfl) ?_
          refine r_get C hw in_X7 0 rfl rfl 3 (by decide) lk110 rfl dX7_decode_77 ?_
          refine tp1 (v' := nI (max x1.1 (len - 3))) (by rw [k2, ← hmx, if_neg (Int32.not_lt.mpr c3)]) ?_
          exact tl
        · refine lv_iload hx hb dX7_decode_71 (lv_at hl 0 rfl) ?_
          refine lv_goto (tgt := 80) hx hb dX7_decode_73 (by decide) ?_
          refine tp1 (v' := nI (max x1.1 (len - 3))) (by rw [← hmx, if_pos (Int32.not_le.mp c3)]) ?_
          exact tl
      · intro k H locs ls hk hI Kn
        obtain ⟨K, hR, hw, hl, hG⟩ := hI
        obtain ⟨-, -, ⟨k1, k2, k3, k4, k5⟩, -⟩ := id hR
        refine lv_iload_n hx hb dX7_decode_19 rfl (lv_at hl 3 rfl) ?_
        refine lv_iconst (v := nI 4) hx hb dX7_decode_20 (by decide) ?_
        refine n_add hx hb dX7_decode_21 ?_
        refine lv_aload_n hx hb dX7_decode_22 rfl (lv_at hl 0 rfl) ?_
        refine r_get C hw in_X7 0 rfl rfl 2 (by decide) lk103 rfl dX7_decode_23 ?_
        refine tp1 (v' := nI len) (congrArg nI k1) ?_
        refine n_cgt (tgt := 43) hx hb (by omega) (by omega) dX7_decode_26 (by decide) (fun c1 => by omega) (fun c1 => ?_)
        refine lv_aload_n hx hb dX7_decode_29 rfl (lv_at hl 0 rfl) ?_
        refine lv_iload_n hx hb dX7_decode_30 rfl (lv_at hl 3 rfl) ?_
        have hw := hw.perm (wR_hd g mo a ra qa T K M1 SM1 V1 PC1 PS1)
        refine kP_Vi (As := [.int (nI (x1.1 + k))]) (rest := []) (w := hdR g mo a T K) (wr := rsR g a ra qa M1 SM1 V1 PC1 PS1) C hw (c_header l g _ mo a (K 0) (K 1) (K 2) (K 3) (K 4) (K 5) (K 6) (K 7) (K 8) (K 9) (K 10) (K 11) (K 12) (K 13) (K 14) (K 15) (K 16) (K 17) (K 18) (K 19) (K 20) (K 21) (K 22) (K 23) (x1.1 + k) (wdS T (x1.1 + k)) T hT rfl (by omega) (by omega)) (cwV 1 hts gX7_decode_X7_header rfl rfl rfl (by decide +kernel) ⟨Nat.le_of_ble_eq_true rfl, Nat.le_of_ble_eq_true rfl⟩) bl_T (fun _ _ _ => trivial) 0 rfl rfl rfl hl.1 rfl (Nat.le_of_ble_eq_true rfl) dX7_decode_31 ⟨Nat.le_of_ble_eq_true rfl, Nat.le_of_ble_eq_true rfl⟩ (fun r_1 u H locs hp hw => ?_)
        obtain ⟨rfl, at1, en1, ov1, ly1, rt1, sp1, pd1, md1, ex1, ch1, sz1, bd1, bn1, pr1, rfl, hq⟩ := hp
        have hgl := good_le (wdS T (x1.1 + k))
        have hw : Wd g (va_A (wR g mo a ra qa T N M SM V PC PS) sz) s.heap (wR g mo a ra qa T (pkN (K 0) (K 1) (K 2) (K 3) (K 4) (K 5) (K 6) (K 7) (K 8) at1 en1 ov1 ly1 rt1 sp1 pd1 md1 ex1 ch1 sz1 bd1 bn1 pr1 (K 23)) M1 SM1 V1 PC1 PS1) H locs := hw.perm (wR_hd g mo a ra qa T (pkN (K 0) (K 1) (K 2) (K 3) (K 4) (K 5) (K 6) (K 7) (K 8) at1 en1 ov1 ly1 rt1 sp1 pd1 md1 ex1 ch1 sz1 bd1 bn1 pr1 (K 23)) M1 SM1 V1 PC1 PS1).symm
        have hR := refP_N (N1 := (pkN (K 0) (K 1) (K 2) (K 3) (K 4) (K 5) (K 6) (K 7) (K 8) at1 en1 ov1 ly1 rt1 sp1 pd1 md1 ex1 ch1 sz1 bd1 bn1 pr1 (K 23))) hR rfl rfl rfl rfl rfl rfl rfl
        refine n_ne0 (tgt := 43) hx hb (by omega) dX7_decode_34 (by decide) (fun c2 => ?_) (fun c2 => ?_)
        · have hgd : goodS (wdS T (x1.1 + k)) ≠ 0 := by omega
          obtain ⟨ely, ert, esp, emd, ech, esz, ebd, ebn, epr⟩ := hq hgd
          have hfd : fdS T len x1 = x1.1 + k := by unfold fdS; rw [fndS_skip (i := k) (by omega) hG, fndS_hit (by omega) hgd]
          have hst : stS T len x1 = (x1.1 + k, x1.2) := by unfold stS; rw [hfd, if_pos (by omega)]
          have hbl := by_le (wdS T (x1.1 + k))
          have hbg := by_ge hgd
          have hly : ly1 = 1 ∨ ly1 = 2 := by rw [ely]; exact lay_or hgd
          have hrb := rows_by hgd
          refine lv_iload_n hx hb dX7_decode_43 rfl (lv_at hl 3 rfl) ?_
          refine lv_iconst (v := nI 4) hx hb dX7_decode_44 (by decide) ?_
          refine n_add hx hb dX7_decode_45 ?_
          refine lv_aload_n hx hb dX7_decode_46 rfl (lv_at hl 0 rfl) ?_
          refine r_get C hw in_X7 0 rfl rfl 2 (by decide) lk103 rfl dX7_decode_47 ?_
          refine tp1 (v' := nI len) (congrArg nI k1) ?_
          refine n_cle (tgt := 88) hx hb (by omega) (by omega) dX7_decode_50 (by decide) (fun c3 => ?_) (fun c3 => by omega)
          refine lv_iload_n hx hb dX7_decode_88 rfl (lv_at hl 3 rfl) ?_
          refine lv_aload_n hx hb dX7_decode_89 rfl (lv_at hl 0 rfl) ?_
          refine r_get C hw in_X7 0 rfl rfl 35 (by decide) lk163 rfl dX7_decode_90 ?_
          refine tp1 (v' := nI sz1) rfl ?_
          refine n_add hx hb dX7_decode_93 ?_
          refine lv_aload_n hx hb dX7_decode_94 rfl (lv_at hl 0 rfl) ?_
          refine r_get C hw in_X7 0 rfl rfl 2 (by decide) lk103 rfl dX7_decode_95 ?_
          refine tp1 (v' := nI len) (congrArg nI k1) ?_
          refine n_cle (tgt := 111) hx hb (by omega) (by omega) dX7_decode_98 (by decide) (fun c4 => ?_) (fun c4 => ?_)
          · have hon : (x1.1 + k) + 4 ≤ len ∧ byS (wdS T (x1.1 + k)) ≤ len - (x1.1 + k) := ⟨by omega, by omega⟩
            have hon2 : fdS T len x1 + 4 ≤ len ∧ byS (wdS T (fdS T len x1)) ≤ len - fdS T len x1 := by rw [hfd]; exact hon
            rw [decS_on hon2, hfd] at e1
            obtain ⟨-, -, -, -, hjb, -, -, hv0, hv1⟩ := id hR
            have hrw : (if ly1 = 1 then 12 else 36) = rowsS (wdS T (x1.1 + k)) := by rw [ely]; unfold rowsS; split <;> rfl
            have hp0 : PS1 0 = x1.2.2.2.2.1.2.1 := hv0.2.1
            have hp1 : PS1 1 = x1.2.2.2.2.2.2.1 := hv1.2.1
            have hs5 := hS.2.2.2.1
            have hs6 := hS.2.2.2.2.1
            have hs3 := hS.2.1
            refine lv_aload_n hx hb dX7_decode_111 rfl (lv_at hl 0 rfl) ?_
            refine lv_iload_n hx hb dX7_decode_112 rfl (lv_at hl 3 rfl) ?_
            have hw : Wd g (va_A (wR g mo a ra qa T N M SM V PC PS) sz) s.heap (wR g mo a ra qa T (pkN (K 0) (K 1) (K 2) (K 3) (K 4) (K 5) (K 6) (K 7) (K 8) at1 en1 ov1 ly1 rt1 sp1 pd1 md1 ex1 ch1 sz1 bd1 bn1 pr1 (K 23)) M1 SM1 V1 PC1 PS1 ++ []) H locs := by rw [List.append_nil]; exact hw
            refine kP_Vv (As := [.int (nI (x1.1 + k))]) (rest := []) (w := wR g mo a ra qa T (pkN (K 0) (K 1) (K 2) (K 3) (K 4) (K 5) (K 6) (K 7) (K 8) at1 en1 ov1 ly1 rt1 sp1 pd1 md1 ex1 ch1 sz1 bd1 bn1 pr1 (K 23)) M1 SM1 V1 PC1 PS1) (wr := []) C hw (c_take7 l g _ mo a (K 0) (K 1) (K 2) (K 3) (K 4) (K 5) (K 6) (K 7) (K 8) at1 en1 ov1 ly1 rt1 sp1 pd1 md1 ex1 ch1 sz1 bd1 bn1 pr1 (K 23) ra qa (M1 0) (M1 1) (M1 2) (M1 3) (M1 4) (M1 5) (M1 6) (M1 7) SM1 V1 PC1 PS1 (x1.1 + k) (if ly1 = 1 then 12 else 36) T hT rfl (by rw [ebn]; exact (band_le _).2) (by rw [ech]; exact (ch_le _).2) (by rw [ebd]; exact Nat.le_trans (bound_le _).2 (band_le _).2) (by omega) (by omega) hly (by rw [epr]; exact chk_le _) hjb (by rw [k3]; omega) (fun j hj => by rw [hrw]; rcases (show j = 0 ∨ j = 1 by omega) with rfl | rfl <;> omega)) (cwV 1 hts gX7_decode_X7_take rfl rfl rfl (by decide +kernel) ⟨Nat.le_of_ble_eq_true rfl, Nat.le_of_ble_eq_true rfl⟩) bl_T (fun _ _ _ => trivial) 0 rfl rfl rfl hl.1 rfl (Nat.le_of_ble_eq_true rfl) dX7_decode_113 ⟨Nat.le_of_ble_eq_true rfl, Nat.le_of_ble_eq_true rfl⟩ (fun u H locs hp hw => ?_)
            rw [List.append_nil] at hw
            obtain ⟨oq, at2, ov2, cr2, AL1, SE1, ST1, FA1, CO1, hoq, hj1, hrd, hcase⟩ := hp
            rw [esz, ely, ebn, ech, ebd, epr] at hrd
            obtain ⟨eo, er, hct⟩ := ref_read (rw_ := if ly1 = 1 then 12 else 36) hgd (by rw [ely]) hjb hrd
            rcases hcase with ⟨h0, rfl⟩ | ⟨h0, y1, y2, hkp, hy2, rfl⟩
            · have hw : Wd g (va_A (wR g mo a ra qa T N M SM V PC PS) sz) s.heap (wR g mo a ra qa T (pkN (K 0) (K 1) (K 2) (K 3 + 1) (K 4) (K 5) (K 6) (K 7) (x1.1 + k) at2 (8 * (x1.1 + k + sz1)) ov2 ly1 rt1 sp1 pd1 md1 ex1 ch1 sz1 bd1 bn1 pr1 cr2) (pkM AL1 SE1 ST1 FA1 CO1 (M1 5) (M1 6) (frU (M1 7) (K 3) oq (x1.1 + k) sz1 ly1 rt1 sp1 md1 ch1 bd1)) SM1 V1 PC1 PS1) H locs := hw
              refine lv_aload_n hx hb dX7_decode_116 rfl (lv_at hl 0 rfl) ?_
              refine lv_iload_n hx hb dX7_decode_117 rfl (lv_at hl 3 rfl) ?_
              refine lv_aload_n hx hb dX7_decode_118 rfl (lv_at hl 0 rfl) ?_
              refine r_get C hw in_X7 0 rfl rfl 35 (by decide) lk163 rfl dX7_decode_119 ?_
              refine tp1 (v' := nI sz1) rfl ?_
              refine n_add hx hb dX7_decode_122 ?_
              refine r_put C hw in_X7 tyX7_ok nmX7 0 rfl rfl 3 (by decide) lk110 rfl rfl rfl (Nat.le_of_ble_eq_true rfl) (ws' := wR g mo a ra qa T (pkN (K 0) (K 1) (x1.1 + k + sz1) (K 3 + 1) (K 4) (K 5) (K 6) (K 7) (x1.1 + k) at2 (8 * (x1.1 + k + sz1)) ov2 ly1 rt1 sp1 pd1 md1 ex1 ch1 sz1 bd1 bn1 pr1 cr2) (pkM AL1 SE1 ST1 FA1 CO1 (M1 5) (M1 6) (frU (M1 7) (K 3) oq (x1.1 + k) sz1 ly1 rt1 sp1 md1 ch1 bd1)) SM1 V1 PC1 PS1) rfl dX7_decode_123 (fun H locs hw => ?_)
              refine lv_iinc (v := nI (i + 1)) (lv' := [(1, .int (nI (i + 1))), (0, .ref mo), (2, .int (nI 1)), (3, .int (nI (x1.1 + k)))]) hx hb dX7_decode_126 hl (k := 1) rfl (nI_add _ _) (by decide) rfl (fun ls hl => ?_)
              refine lv_goto (tgt := 4) hx hb dX7_decode_129 (by decide) ?_
              refine ih (i + 1) (nxS T (x1.1 + k) (wdS T (x1.1 + k)) x1) _ _ _ _ _ _ H locs ls (by omega) ?_ hw (lv_sub hl [1, 0, 2] rfl) (by rw [e1]; exact Prod.ext (by show _ + 1 + i = _ + (i + 1); omega) rfl)
              exact refP_A hR hfd rfl hon (by rw [← eo]; exact h0) rfl (congrArg (fun z => x1.1 + k + z) esz) rfl rfl rfl rfl rfl hj1 rfl rfl (by show frU (M1 7) (K 3) oq (x1.1 + k) sz1 ly1 rt1 sp1 md1 ch1 bd1 = _; rw [← eo, esz, ely, ert, esp, emd, ech, ebd]; rfl)
            · have hw : Wd g (va_A (wR g mo a ra qa T N M SM V PC PS) sz) s.heap (wR g mo a ra qa T (pkN (K 0) (K 1) (K 2) (K 3 + 1) (K 4 + 1) 1 ch1 (if ly1 = 1 then 12 else 36) (x1.1 + k) at2 (8 * (x1.1 + k + sz1)) ov2 ly1 rt1 sp1 pd1 md1 ex1 ch1 sz1 bd1 bn1 pr1 cr2) (pkM AL1 SE1 ST1 FA1 CO1 y1.1 y1.2.1 (frU (M1 7) (K 3) oq (x1.1 + k) sz1 ly1 rt1 sp1 md1 ch1 bd1)) y1.2.2 y2.1 y2.2.1 y2.2.2) H locs := hw
              refine lv_aload_n hx hb dX7_decode_116 rfl (lv_at hl 0 rfl) ?_
              refine lv_iload_n hx hb dX7_decode_117 rfl (lv_at hl 3 rfl) ?_
              refine lv_aload_n hx hb dX7_decode_118 rfl (lv_at hl 0 rfl) ?_
              refine r_get C hw in_X7 0 rfl rfl 35 (by decide) lk163 rfl dX7_decode_119 ?_
              refine tp1 (v' := nI sz1) rfl ?_
              refine n_add hx hb dX7_decode_122 ?_
              refine r_put C hw in_X7 tyX7_ok nmX7 0 rfl rfl 3 (by decide) lk110 rfl rfl rfl (Nat.le_of_ble_eq_true rfl) (ws' := wR g mo a ra qa T (pkN (K 0) (K 1) (x1.1 + k + sz1) (K 3 + 1) (K 4 + 1) 1 ch1 (if ly1 = 1 then 12 else 36) (x1.1 + k) at2 (8 * (x1.1 + k + sz1)) ov2 ly1 rt1 sp1 pd1 md1 ex1 ch1 sz1 bd1 bn1 pr1 cr2) (pkM AL1 SE1 ST1 FA1 CO1 y1.1 y1.2.1 (frU (M1 7) (K 3) oq (x1.1 + k) sz1 ly1 rt1 sp1 md1 ch1 bd1)) y1.2.2 y2.1 y2.2.1 y2.2.2) rfl dX7_decode_123 (fun H locs hw => ?_)
              refine lv_iinc (v := nI (i + 1)) (lv' := [(1, .int (nI (i + 1))), (0, .ref mo), (2, .int (nI 1)), (3, .int (nI (x1.1 + k)))]) hx hb dX7_decode_126 hl (k := 1) rfl (nI_add _ _) (by decide) rfl (fun ls hl => ?_)
              refine lv_goto (tgt := 4) hx hb dX7_decode_129 (by decide) ?_
              refine ih (i + 1) (nxS T (x1.1 + k) (wdS T (x1.1 + k)) x1) _ _ _ _ _ _ H locs ls (by omega) ?_ hw (lv_sub hl [1, 0, 2] rfl) (by rw [e1]; exact Prod.ext (by show _ + 1 + i = _ + (i + 1); omega) rfl)
              rw [ech] at hkp hy2
              exact refP_B hR hfd rfl hon (by rw [← eo]; exact h0) rfl (congrArg (fun z => x1.1 + k + z) esz) rfl rfl rfl ech rfl er hj1 rfl rfl (by show frU (M1 7) (K 3) oq (x1.1 + k) sz1 ly1 rt1 sp1 md1 ch1 bd1 = _; rw [← eo, esz, ely, ert, esp, emd, ech, ebd]; rfl) (hct h0 y1 hkp) (fun i j h1 h2 => by rw [(hkp i j h1 h2).1]; exact Nat.lt_of_le_of_lt (stOK_le (hj1.2.2.1 i j)) (by omega)) hy2
          · have hoff : ¬ (fdS T len x1 + 4 ≤ len ∧ byS (wdS T (fdS T len x1)) ≤ len - fdS T len x1) := fun q => by rw [hfd] at q; omega
            rw [decS_off hoff] at e1
            refine lv_aload_n hx hb dX7_decode_101 rfl (lv_at hl 0 rfl) ?_
            refine lv_iload_n hx hb dX7_decode_102 rfl (lv_at hl 3 rfl) ?_
            refine r_put C hw in_X7 tyX7_ok nmX7 0 rfl rfl 3 (by decide) lk110 rfl rfl rfl (Nat.le_of_ble_eq_true rfl) (ws' := wR g mo a ra qa T (pkN (K 0) (K 1) (x1.1 + k) (K 3) (K 4) (K 5) (K 6) (K 7) (K 8) at1 en1 ov1 ly1 rt1 sp1 pd1 md1 ex1 ch1 sz1 bd1 bn1 pr1 (K 23)) M1 SM1 V1 PC1 PS1) rfl dX7_decode_103 (fun H locs hw => ?_)
            refine lv_iconst (v := nI 0) hx hb dX7_decode_106 (by decide) ?_
            refine lv_istore_n (lv' := [(2, .int (nI 0)), (0, .ref mo), (1, .int (nI i)), (3, .int (nI (x1.1 + k)))]) hx hb dX7_decode_107 rfl hl (by decide) rfl (fun ls hl => ?_)
            refine lv_goto (tgt := 129) hx hb dX7_decode_108 (by decide) ?_
            refine lv_goto (tgt := 4) hx hb dX7_decode_129 (by decide) ?_
            exact fin i (stS T len x1) (pkN (K 0) (K 1) (x1.1 + k) (K 3) (K 4) (K 5) (K 6) (K 7) (K 8) at1 en1 ov1 ly1 rt1 sp1 pd1 md1 ex1 ch1 sz1 bd1 bn1 pr1 (K 23)) M1 SM1 V1 PC1 PS1 H locs ls (by omega) (refP_st hR rfl (by rw [hst]; rfl) rfl rfl rfl rfl rfl) hw (lv_sub hl [1, 2, 0] rfl) (by rw [e1]; exact Prod.ext (Nat.zero_add i) rfl)
        · refine lv_iinc (v := nI (x1.1 + k + 1)) (lv' := [(3, .int (nI (x1.1 + k + 1))), (0, .ref mo), (1, .int (nI i)), (2, .int (nI 1))]) hx hb dX7_decode_37 hl (k := 3) rfl (nI_add _ _) (by decide) rfl (fun ls hl => ?_)
          refine lv_goto (tgt := 19) hx hb dX7_decode_40 (by decide) ?_
          exact Kn H locs ls ⟨_, hR, hw, lv_sub hl [1, 2, 3, 0] rfl, fun j hj => by
            by_cases q : j = k
            · rw [q]; exact c2
            · exact hG j (by omega)⟩
  refine lv_iconst (v := nI 0) hx hb dX7_decode_0 (by decide) ?_
  refine lv_istore_n (lv' := [(1, .int (nI 0)), (0, .ref mo)]) hx hb dX7_decode_1 rfl hl (by decide) rfl (fun ls hl => ?_)
  refine lv_iconst (v := nI 1) hx hb dX7_decode_2 (by decide) ?_
  refine lv_istore_n (lv' := [(2, .int (nI 1)), (1, .int (nI 0)), (0, .ref mo)]) hx hb dX7_decode_3 rfl hl (by decide) rfl (fun ls hl => ?_)
  exact key 40 0 x N M SM V PC PS s.heap [] ls rfl h hw (lv_sub hl [2, 1, 0] rfl) (Prod.ext (Nat.add_zero _).symm rfl)
