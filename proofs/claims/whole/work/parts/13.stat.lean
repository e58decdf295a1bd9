/-! the static tables -/
def sC (k : Nat) : String := match k with
  | 0 => "SoundBench$Frame"
  | 1 => "SoundBench$Frame"
  | 2 => "SoundBench$Frame"
  | 3 => "SoundBench$Frame"
  | 4 => "SoundBench$Frame"
  | 5 => "SoundBench$Frame"
  | 6 => "SoundBench$Frame"
  | 7 => "SoundBench$Frame"
  | 8 => "SoundBench$Content"
  | 9 => "SoundBench$Waves"
  | _ => "SoundBench$Waves"
def sN (k : Nat) : String := match k with
  | 0 => "LAYER_TWO_RATES"
  | 1 => "SAMPLINGS"
  | 2 => "FIRST_TO_2"
  | 3 => "FIRST_TO_10"
  | 4 => "FIRST_TO_22"
  | 5 => "FIRST_TO_29"
  | 6 => "SECOND_TO_1"
  | 7 => "SECOND_TO_11"
  | 8 => "FACTOR_TOPS"
  | 9 => "QUARTER"
  | _ => "HALF_WINDOW"
def tab0 : List Int := [0, 32, 48, 56, 64, 80, 96, 112, 128, 160, 192, 224, 256, 320, 384]
def tab1 : List Int := [44100, 48000, 32000]
def tab2 : List Int := [0, 2, 4, 5, 6, 7, 8, 9, 10, 11, 12, 13, 14, 15, 16]
def tab3 : List Int := [0, 1, 2, 3, 4, 5, 6, 7, 8, 9, 10, 11, 12, 13, 16]
def tab4 : List Int := [0, 1, 2, 3, 4, 5, 16]
def tab5 : List Int := [0, 1, 16]
def tab6 : List Int := [0, 1, 3, 4, 5, 6, 7, 8, 9, 10, 11, 12, 13, 14, 15]
def tab7 : List Int := [0, 1, 3, 4, 5, 6, 7]
def tab8 : List Int := [2097152, 1664511, 1321123]
def tab9 : List Int := [16384, 16364, 16305, 16207, 16069, 15893, 15679, 15426, 15137, 14811, 14449, 14053, 13623, 13160, 12665, 12140, 11585, 11003, 10394, 9760, 9102, 8423, 7723, 7005, 6270, 5520, 4756, 3981, 3196, 2404, 1606, 804, 0]
def tab10 : List Int := [0, -1, -1, -1, -1, -1, -1, -2, -2, -2, -2, -3, -3, -4, -4, -5, -5, -6, -7, -7, -8, -9, -10, -11, -13, -14, -16, -17, -19, -21, -24, -26, -29, -31, -35, -38, -41, -45, -49, -53, -58, -63, -68, -73, -79, -85, -91, -97, -104, -111, -117, -125, -132, -139, -147, -154, -161, -169, -176, -183, -190, -196, -202, -208, 213, 218, 222, 225, 227, 228, 228, 227, 224, 221, 215, 208, 200, 189, 177, 163, 146, 127, 106, 83, 57, 29, -2, -36, -72, -111, -153, -197, -244, -294, -347, -401, -459, -519, -581, -645, -711, -779, -848, -919, -991, -1064, -1137, -1210, -1283, -1356, -1428, -1498, -1567, -1634, -1698, -1759, -1817, -1870, -1919, -1962, -2001, -2032, -2057, -2075, -2085, -2087, -2080, -2063, 2037, 2000, 1952, 1893, 1822, 1739, 1644, 1535, 1414, 1280, 1131, 970, 794, 605, 402, 185, -45, -288, -545, -814, -1095, -1388, -1692, -2006, -2330, -2663, -3004, -3351, -3705, -4063, -4425, -4788, -5153, -5517, -5879, -6237, -6589, -6935, -7271, -7597, -7910, -8209, -8491, -8755, -8998, -9219, -9416, -9585, -9727, -9838, -9916, -9959, -9966, -9935, -9863, -9750, -9592, -9389, -9139, -8840, -8492, -8092, -7640, -7134, 6574, 5959, 5288, 4561, 3776, 2935, 2037, 1082, 70, -998, -2122, -3300, -4533, -5818, -7154, -8540, -9975, -11455, -12980, -14548, -16155, -17799, -19478, -21189, -22929, -24694, -26482, -28289, -30112, -31947, -33791, -35640, -37489, -39336, -41176, -43006, -44821, -46617, -48390, -50137, -51853, -53534, -55178, -56778, -58333, -59838, -61289, -62684, -64019, -65290, -66494, -67629, -68692, -69679, -70590, -71420, -72169, -72835, -73415, -73908, -74313, -74630, -74856, -74992, 75038]
def tab (k : Nat) : List Int := match k with
  | 0 => tab0
  | 1 => tab1
  | 2 => tab2
  | 3 => tab3
  | 4 => tab4
  | 5 => tab5
  | 6 => tab6
  | 7 => tab7
  | 8 => tab8
  | 9 => tab9
  | _ => tab10
def sV (k j : Nat) : Int32 := Int32.ofInt ((tab k).getD j 0)
def sE : String := "java/util/ArrayList"
/-- what the tables say beside: the class object of Object[], what may be cast and stored, the private constructors -/
def Kx (tb : Nat → Nat) (U : State) : Prop := va_Mi "[Ljava/lang/Object;" (tb 12) U ∧ va_Dc U ∧ va_AO "java/lang/Object" U ∧ va_Nw (.castable RX2 "java/lang/Object") U ∧ va_Nw (.methodLinkNest RX3 11 yX0_init RX6) U ∧ va_Nw (.methodLinkNest RX6 32 yX3_init RX6) U ∧ va_Nw (.methodLinkNest RX6 39 yX1_init RX6) U
theorem Kx.warm {tb : Nat → Nat} {s U : State} (hW : s.WarmedH U.vm) (h : Kx tb s) : Kx tb U := ⟨h.1.moved hW.alike, h.2.1.moved hW.alike, h.2.2.1.moved hW.alike, h.2.2.2.1.warmC hW, h.2.2.2.2.1.warmM hW, h.2.2.2.2.2.1.warmM hW, h.2.2.2.2.2.2.warmM hW⟩
theorem Kx.same {tb : Nat → Nat} {s U : State} (e : s.vm = U.vm) (h : Kx tb s) : Kx tb U := by
  have ha : s.vm.Alike U.vm := e ▸ Vm.Alike.refl s.vm
  exact ⟨h.1.moved ha, h.2.1.moved ha, h.2.2.1.moved ha, h.2.2.2.1.same rfl e, h.2.2.2.2.1.same rfl e, h.2.2.2.2.2.1.same rfl e, h.2.2.2.2.2.2.same rfl e⟩
def Sx (tb : Nat → Nat) (A : Nat → Prop) (U : State) (H : Heap) : Prop :=
  (∀ k : Nat, k < 11 → va_Z (sC k) (sN k) "[I" (.ref (tb k)) A U H ∧ va_T .int (tb k) (tab k).length (fun j => .int (sV k j)) A U H) ∧ va_Z sE "DEFAULTCAPACITY_EMPTY_ELEMENTDATA" "[Ljava/lang/Object;" (.ref (tb 11)) A U H ∧ va_T (.object "java/lang/Object") (tb 11) 0 (fun _ => .null) A U H ∧ Kx tb U
theorem Sx.moved {tb : Nat → Nat} {A : Nat → Prop} {u U : State} {H : Heap} (hvm : u.vm.Alike U.vm) (hk : Kx tb U) (h : Sx tb A u H) : Sx tb A U H := ⟨fun k hk => ⟨(h.1 k hk).1.moved hvm, (h.1 k hk).2.moved hvm⟩, h.2.1.moved hvm, h.2.2.1.moved hvm, hk⟩
theorem Sx.kept {tb : Nat → Nat} {A : Nat → Prop} {U : State} {H H1 : Heap} (h : Sx tb A U H) (hq : ∀ a : Nat, a < H.size → ¬ A a → H1[a]? = H[a]?) : Sx tb A U H1 := ⟨fun k hk => ⟨(h.1 k hk).1.kept hq, (h.1 k hk).2.kept hq⟩, h.2.1.kept hq, h.2.2.1.kept hq, h.2.2.2⟩
theorem Sx.narrow {tb : Nat → Nat} {A B : Nat → Prop} {U : State} {H : Heap} (h : Sx tb A U H) (hAB : ∀ q, B q → A q) : Sx tb B U H := ⟨fun k hk => ⟨(h.1 k hk).1.narrow hAB, (h.1 k hk).2.narrow hAB⟩, h.2.1.narrow hAB, h.2.2.1.narrow hAB, h.2.2.2⟩
theorem sx_bl {tb : Nat → Nat} {A : Nat → Prop} : Bl (fun U => Sx tb A U U.heap) := fun a U f mk h => Sx.moved (u := U) (U := U.calling f mk a) (Vm.Alike.refl U.vm) (Kx.same (s := U) (U := U.calling f mk a) rfl h.2.2.2) h
section SX
variable {p : Program} {l : Launch} {e : Env} {R : Room} {s : State} {m : MethodId} {args : Array Value} {below : List Frame} {meth : Method} {c : Code} {H : Heap} {locs : List Loc} {cells slots : Nat} {Q : State → Prop}
variable {cc : ByteArray} {pc : Nat} {ls : Array Slot} {rest st0 : List Value} {g : GT} {A : Nat → Prop} {ws w : va_W} {nL : Nat} {ret : Option FieldType} {Ts : List Cond} {own : String} {tb : Nat → Nat}
theorem sx_call (C : Cx p s m args meth c cc nL ret Ts own g A) (hw : Wd g A s.heap ws H locs) (hx : Sx tb A s s.heap) (isC : List Nat) (hC : isC.map (fun i => ws[i]?) = w.map some) : ∀ U : State, U.heap = H → s.WarmedH U.vm → Sx tb (va_A w H.size) U U.heap := by
  intro U hU hW
  have hF := wd_free C hw isC hC
  rw [hU]
  exact ((hx.kept (fun a h1 h2 => hw.2.2.2.1 a h1 h2)).moved hW.alike (hx.2.2.2.warm hW)).narrow hF
theorem r_gs (C : Cx p s m args meth c cc nL ret Ts own g A) (hw : Wd g A s.heap ws H locs) (hx : Sx tb A s s.heap) (k : Nat) (hk : k < 11) {index : Nat} (hlink : (Cond.fieldLink own index (sC k) (sN k) "[I").before args s = true) (hdg : decode cc pc = .ok (.getstatic index, 3)) (kk : W p l e R s m args below meth c H locs cells slots Q (F0 m (pc + 3) ls (.ref (tb k) :: rest))) : W p l e R s m args below meth c H locs cells slots Q (F0 m pc ls rest) :=
  va_gets C.1 C.2.1 (hx.1 k hk).1 hw.2.2 C.2.2.2.1 hlink (fun _ h => h) hdg kk
theorem r_ti (C : Cx p s m args meth c cc nL ret Ts own g A) (hw : Wd g A s.heap ws H locs) (hx : Sx tb A s s.heap) (k : Nat) (hk : k < 11) {i : Nat} (hi : i < (tab k).length) (hl : (tab k).length < 2 ^ 31) (hdg : decode cc pc = .ok (.iaload, 1)) (kk : W p l e R s m args below meth c H locs cells slots Q (F0 m (pc + 1) ls (.int (sV k i) :: rest))) : W p l e R s m args below meth c H locs cells slots Q (F0 m pc ls (.int (nI i) :: .ref (tb k) :: rest)) :=
  va_ti C.1 C.2.1 (hx.1 k hk).2 hw.2.2 (vp_in_nI hi hl) (v := .int (sV k i)) (by rw [nI_clamp (Nat.lt_trans hi hl)]) hdg kk
theorem r_tlen (C : Cx p s m args meth c cc nL ret Ts own g A) (hw : Wd g A s.heap ws H locs) (hx : Sx tb A s s.heap) (k : Nat) (hk : k < 11) {n : Nat} (hn : (tab k).length = n) (hdg : decode cc pc = .ok (.arraylength, 1)) (kk : W p l e R s m args below meth c H locs cells slots Q (F0 m (pc + 1) ls (.int (nI n) :: rest))) : W p l e R s m args below meth c H locs cells slots Q (F0 m pc ls (.ref (tb k) :: rest)) :=
  va_tlen C.1 C.2.1 (hx.1 k hk).2 hw.2.2 (by rw [hn]; rfl) hdg kk
end SX
