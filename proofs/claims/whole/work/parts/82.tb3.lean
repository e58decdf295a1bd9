section TB
variable {p : Program} {l : Launch} {e : Env} {R : Room} {s : State} {m : MethodId} {args : Array Value} {below : List Frame} {meth : Method} {c : Code} {H : Heap} {locs : List Loc} {cells slots : Nat} {Q : State → Prop}
variable {ls : Array Slot} {rest : List Value} {g : GT} {A : Nat → Prop} {ws : va_W} {nL : Nat} {ret : Option FieldType}
set_option maxHeartbeats 4000000 in
theorem tb_window_231 {q : Nat} (C : Cx p s m args meth c cX7_init nL ret wsX7_init RX7 g A) (hw : Wd g A s.heap (ws ++ [(q, aI g 257 (fun j => if j < 231 then sV 10 j else 0))]) H locs) (kk : ∀ (H1 : Heap) (locs1 : List Loc), Wd g A s.heap (ws ++ [(q, aI g 257 (fun j => if j < 257 then sV 10 j else 0))]) H1 locs1 → W p l e R s m args below meth c H1 locs1 cells slots Q (F0 m 2297 ls (.ref q :: rest))) : W p l e R s m args below meth c H locs cells slots Q (F0 m 2115 ls (.ref q :: rest)) := by
  obtain ⟨hx, hb, hml, hown, hts, -⟩ := id C
  refine lv_dup hx hb dX7_init_2115 rfl ?_
  refine lv_sipush (v := nI 231) hx hb dX7_init_2116 (by decide) ?_
  refine lv_ldc (v := (-50137)) hx hb hown (hts (.constant RX7 70 (-50137)) (by decide +kernel)) dX7_init_2119 ?_
  refine r_tst (i := 231) (h := fun j => sV 10 j) C hw (by decide) (by decide) (by decide +kernel) dX7_init_2121 (fun H locs hw => ?_)
  refine lv_dup hx hb dX7_init_2122 rfl ?_
  refine lv_sipush (v := nI 232) hx hb dX7_init_2123 (by decide) ?_
  refine lv_ldc (v := (-51853)) hx hb hown (hts (.constant RX7 71 (-51853)) (by decide +kernel)) dX7_init_2126 ?_
  refine r_tst (i := 232) (h := fun j => sV 10 j) C hw (by decide) (by decide) (by decide +kernel) dX7_init_2128 (fun H locs hw => ?_)
  refine lv_dup hx hb dX7_init_2129 rfl ?_
  refine lv_sipush (v := nI 233) hx hb dX7_init_2130 (by decide) ?_
  refine lv_ldc (v := (-53534)) hx hb hown (hts (.constant RX7 72 (-53534)) (by decide +kernel)) dX7_init_2133 ?_
  refine r_tst (i := 233) (h := fun j => sV 10 j) C hw (by decide) (by decide) (by decide +kernel) dX7_init_2135 (fun H locs hw => ?_)
  refine lv_dup hx hb dX7_init_2136 rfl ?_
  refine lv_sipush (v := nI 234) hx hb dX7_init_2137 (by decide) ?_
  refine lv_ldc (v := (-55178)) hx hb hown (hts (.constant RX7 73 (-55178)) (by decide +kernel)) dX7_init_2140 ?_
  refine r_tst (i := 234) (h := fun j => sV 10 j) C hw (by decide) (by decide) (by decide +kernel) dX7_init_2142 (fun H locs hw => ?_)
  refine lv_dup hx hb dX7_init_2143 rfl ?_
  refine lv_sipush (v := nI 235) hx hb dX7_init_2144 (by decide) ?_
  refine lv_ldc (v := (-56778)) hx hb hown (hts (.constant RX7 74 (-56778)) (by decide +kernel)) dX7_init_2147 ?_
  refine r_tst (i := 235) (h := fun j => sV 10 j) C hw (by decide) (by decide) (by decide +kernel) dX7_init_2149 (fun H locs hw => ?_)
  refine lv_dup hx hb dX7_init_2150 rfl ?_
  refine lv_sipush (v := nI 236) hx hb dX7_init_2151 (by decide) ?_
  refine lv_ldc (v := (-58333)) hx hb hown (hts (.constant RX7 75 (-58333)) (by decide +kernel)) dX7_init_2154 ?_
  refine r_tst (i := 236) (h := fun j => sV 10 j) C hw (by decide) (by decide) (by decide +kernel) dX7_init_2156 (fun H locs hw => ?_)
  refine lv_dup hx hb dX7_init_2157 rfl ?_
  refine lv_sipush (v := nI 237) hx hb dX7_init_2158 (by decide) ?_
  refine lv_ldc (v := (-59838)) hx hb hown (hts (.constant RX7 76 (-59838)) (by decide +kernel)) dX7_init_2161 ?_
  refine r_tst (i := 237) (h := fun j => sV 10 j) C hw (by decide) (by decide) (by decide +kernel) dX7_init_2163 (fun H locs hw => ?_)
  refine lv_dup hx hb dX7_init_2164 rfl ?_
  refine lv_sipush (v := nI 238) hx hb dX7_init_2165 (by decide) ?_
  refine lv_ldc (v := (-61289)) hx hb hown (hts (.constant RX7 77 (-61289)) (by decide +kernel)) dX7_init_2168 ?_
  refine r_tst (i := 238) (h := fun j => sV 10 j) C hw (by decide) (by decide) (by decide +kernel) dX7_init_2170 (fun H locs hw => ?_)
  refine lv_dup hx hb dX7_init_2171 rfl ?_
  refine lv_sipush (v := nI 239) hx hb dX7_init_2172 (by decide) ?_
  refine lv_ldc (v := (-62684)) hx hb hown (hts (.constant RX7 78 (-62684)) (by decide +kernel)) dX7_init_2175 ?_
  refine r_tst (i := 239) (h := fun j => sV 10 j) C hw (by decide) (by decide) (by decide +kernel) dX7_init_2177 (fun H locs hw => ?_)
  refine lv_dup hx hb dX7_init_2178 rfl ?_
  refine lv_sipush (v := nI 240) hx hb dX7_init_2179 (by decide) ?_
  refine lv_ldc (v := (-64019)) hx hb hown (hts (.constant RX7 79 (-64019)) (by decide +kernel)) dX7_init_2182 ?_
  refine r_tst (i := 240) (h := fun j => sV 10 j) C hw (by decide) (by decide) (by decide +kernel) dX7_init_2184 (fun H locs hw => ?_)
  refine lv_dup hx hb dX7_init_2185 rfl ?_
  refine lv_sipush (v := nI 241) hx hb dX7_init_2186 (by decide) ?_
  refine lv_ldc (v := (-65290)) hx hb hown (hts (.constant RX7 80 (-65290)) (by decide +kernel)) dX7_init_2189 ?_
  refine r_tst (i := 241) (h := fun j => sV 10 j) C hw (by decide) (by decide) (by decide +kernel) dX7_init_2191 (fun H locs hw => ?_)
  refine lv_dup hx hb dX7_init_2192 rfl ?_
  refine lv_sipush (v := nI 242) hx hb dX7_init_2193 (by decide) ?_
  refine lv_ldc (v := (-66494)) hx hb hown (hts (.constant RX7 81 (-66494)) (by decide +kernel)) dX7_init_2196 ?_
  refine r_tst (i := 242) (h := fun j => sV 10 j) C hw (by decide) (by decide) (by decide +kernel) dX7_init_2198 (fun H locs hw => ?_)
  refine lv_dup hx hb dX7_init_2199 rfl ?_
  refine lv_sipush (v := nI 243) hx hb dX7_init_2200 (by decide) ?_
  refine lv_ldc (v := (-67629)) hx hb hown (hts (.constant RX7 82 (-67629)) (by decide +kernel)) dX7_init_2203 ?_
  refine r_tst (i := 243) (h := fun j => sV 10 j) C hw (by decide) (by decide) (by decide +kernel) dX7_init_2205 (fun H locs hw => ?_)
  refine lv_dup hx hb dX7_init_2206 rfl ?_
  refine lv_sipush (v := nI 244) hx hb dX7_init_2207 (by decide) ?_
  refine lv_ldc (v := (-68692)) hx hb hown (hts (.constant RX7 83 (-68692)) (by decide +kernel)) dX7_init_2210 ?_
  refine r_tst (i := 244) (h := fun j => sV 10 j) C hw (by decide) (by decide) (by decide +kernel) dX7_init_2212 (fun H locs hw => ?_)
  refine lv_dup hx hb dX7_init_2213 rfl ?_
  refine lv_sipush (v := nI 245) hx hb dX7_init_2214 (by decide) ?_
  refine lv_ldc (v := (-69679)) hx hb hown (hts (.constant RX7 84 (-69679)) (by decide +kernel)) dX7_init_2217 ?_
  refine r_tst (i := 245) (h := fun j => sV 10 j) C hw (by decide) (by decide) (by decide +kernel) dX7_init_2219 (fun H locs hw => ?_)
  refine lv_dup hx hb dX7_init_2220 rfl ?_
  refine lv_sipush (v := nI 246) hx hb dX7_init_2221 (by decide) ?_
  refine lv_ldc (v := (-70590)) hx hb hown (hts (.constant RX7 85 (-70590)) (by decide +kernel)) dX7_init_2224 ?_
  refine r_tst (i := 246) (h := fun j => sV 10 j) C hw (by decide) (by decide) (by decide +kernel) dX7_init_2226 (fun H locs hw => ?_)
  refine lv_dup hx hb dX7_init_2227 rfl ?_
  refine lv_sipush (v := nI 247) hx hb dX7_init_2228 (by decide) ?_
  refine lv_ldc (v := (-71420)) hx hb hown (hts (.constant RX7 86 (-71420)) (by decide +kernel)) dX7_init_2231 ?_
  refine r_tst (i := 247) (h := fun j => sV 10 j) C hw (by decide) (by decide) (by decide +kernel) dX7_init_2233 (fun H locs hw => ?_)
  refine lv_dup hx hb dX7_init_2234 rfl ?_
  refine lv_sipush (v := nI 248) hx hb dX7_init_2235 (by decide) ?_
  refine lv_ldc (v := (-72169)) hx hb hown (hts (.constant RX7 87 (-72169)) (by decide +kernel)) dX7_init_2238 ?_
  refine r_tst (i := 248) (h := fun j => sV 10 j) C hw (by decide) (by decide) (by decide +kernel) dX7_init_2240 (fun H locs hw => ?_)
  refine lv_dup hx hb dX7_init_2241 rfl ?_
  refine lv_sipush (v := nI 249) hx hb dX7_init_2242 (by decide) ?_
  refine lv_ldc (v := (-72835)) hx hb hown (hts (.constant RX7 88 (-72835)) (by decide +kernel)) dX7_init_2245 ?_
  refine r_tst (i := 249) (h := fun j => sV 10 j) C hw (by decide) (by decide) (by decide +kernel) dX7_init_2247 (fun H locs hw => ?_)
  refine lv_dup hx hb dX7_init_2248 rfl ?_
  refine lv_sipush (v := nI 250) hx hb dX7_init_2249 (by decide) ?_
  refine lv_ldc (v := (-73415)) hx hb hown (hts (.constant RX7 89 (-73415)) (by decide +kernel)) dX7_init_2252 ?_
  refine r_tst (i := 250) (h := fun j => sV 10 j) C hw (by decide) (by decide) (by decide +kernel) dX7_init_2254 (fun H locs hw => ?_)
  refine lv_dup hx hb dX7_init_2255 rfl ?_
  refine lv_sipush (v := nI 251) hx hb dX7_init_2256 (by decide) ?_
  refine lv_ldc (v := (-73908)) hx hb hown (hts (.constant RX7 90 (-73908)) (by decide +kernel)) dX7_init_2259 ?_
  refine r_tst (i := 251) (h := fun j => sV 10 j) C hw (by decide) (by decide) (by decide +kernel) dX7_init_2261 (fun H locs hw => ?_)
  refine lv_dup hx hb dX7_init_2262 rfl ?_
  refine lv_sipush (v := nI 252) hx hb dX7_init_2263 (by decide) ?_
  refine lv_ldc (v := (-74313)) hx hb hown (hts (.constant RX7 91 (-74313)) (by decide +kernel)) dX7_init_2266 ?_
  refine r_tst (i := 252) (h := fun j => sV 10 j) C hw (by decide) (by decide) (by decide +kernel) dX7_init_2268 (fun H locs hw => ?_)
  refine lv_dup hx hb dX7_init_2269 rfl ?_
  refine lv_sipush (v := nI 253) hx hb dX7_init_2270 (by decide) ?_
  refine lv_ldc (v := (-74630)) hx hb hown (hts (.constant RX7 92 (-74630)) (by decide +kernel)) dX7_init_2273 ?_
  refine r_tst (i := 253) (h := fun j => sV 10 j) C hw (by decide) (by decide) (by decide +kernel) dX7_init_2275 (fun H locs hw => ?_)
  refine lv_dup hx hb dX7_init_2276 rfl ?_
  refine lv_sipush (v := nI 254) hx hb dX7_init_2277 (by decide) ?_
  refine lv_ldc (v := (-74856)) hx hb hown (hts (.constant RX7 93 (-74856)) (by decide +kernel)) dX7_init_2280 ?_
  refine r_tst (i := 254) (h := fun j => sV 10 j) C hw (by decide) (by decide) (by decide +kernel) dX7_init_2282 (fun H locs hw => ?_)
  refine lv_dup hx hb dX7_init_2283 rfl ?_
  refine lv_sipush (v := nI 255) hx hb dX7_init_2284 (by decide) ?_
  refine lv_ldc (v := (-74992)) hx hb hown (hts (.constant RX7 94 (-74992)) (by decide +kernel)) dX7_init_2287 ?_
  refine r_tst (i := 255) (h := fun j => sV 10 j) C hw (by decide) (by decide) (by decide +kernel) dX7_init_2289 (fun H locs hw => ?_)
  refine lv_dup hx hb dX7_init_2290 rfl ?_
  refine lv_sipush (v := nI 256) hx hb dX7_init_2291 (by decide) ?_
  refine lv_ldc (v := nI 75038) hx hb hown (hts (.constant RX7 95 (75038)) (by decide +kernel)) dX7_init_2294 ?_
  refine r_tst (i := 256) (h := fun j => sV 10 j) C hw (by decide) (by decide) (by decide +kernel) dX7_init_2296 (fun H locs hw => ?_)
  exact kk _ _ hw
theorem tb_window {q : Nat} (C : Cx p s m args meth c cX7_init nL ret wsX7_init RX7 g A) (hw : Wd g A s.heap (ws ++ [(q, aI g 257 (fun j => if j < 0 then sV 10 j else 0))]) H locs) (kk : ∀ (H1 : Heap) (locs1 : List Loc), Wd g A s.heap (ws ++ [(q, aI g 257 (fun j => if j < 257 then sV 10 j else 0))]) H1 locs1 → W p l e R s m args below meth c H1 locs1 cells slots Q (F0 m 2297 ls (.ref q :: rest))) : W p l e R s m args below meth c H locs cells slots Q (F0 m 480 ls (.ref q :: rest)) :=
  tb_window_0 C hw (fun _ _ hw => tb_window_33 C hw (fun _ _ hw => tb_window_66 C hw (fun _ _ hw => tb_window_99 C hw (fun _ _ hw => tb_window_132 C hw (fun _ _ hw => tb_window_165 C hw (fun _ _ hw => tb_window_198 C hw (fun _ _ hw => tb_window_231 C hw kk)))))))
end TB
