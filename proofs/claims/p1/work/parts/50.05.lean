theorem dL_law_2194 : decode cL_law 2194 = .ok (.aload_n 1, 1) := by decide +kernel
theorem dL_law_2195 : decode cL_law 2195 = .ok (.aload_n 0, 1) := by decide +kernel
theorem dL_law_2196 : decode cL_law 2196 = .ok (.iload 4, 2) := by decide +kernel
theorem dL_law_2198 : decode cL_law 2198 = .ok (.iconst 1, 1) := by decide +kernel
theorem dL_law_2199 : decode cL_law 2199 = .ok (.iadd, 1) := by decide +kernel
theorem dL_law_2200 : decode cL_law 2200 = .ok (.iaload, 1) := by decide +kernel
theorem dL_law_2201 : decode cL_law 2201 = .ok (.aload_n 0, 1) := by decide +kernel
theorem dL_law_2202 : decode cL_law 2202 = .ok (.iload 4, 2) := by decide +kernel
theorem dL_law_2204 : decode cL_law 2204 = .ok (.iconst 2, 1) := by decide +kernel
theorem dL_law_2205 : decode cL_law 2205 = .ok (.iadd, 1) := by decide +kernel
theorem dL_law_2206 : decode cL_law 2206 = .ok (.iaload, 1) := by decide +kernel
theorem dL_law_2207 : decode cL_law 2207 = .ok (.aload_n 0, 1) := by decide +kernel
theorem dL_law_2208 : decode cL_law 2208 = .ok (.iload 4, 2) := by decide +kernel
theorem dL_law_2210 : decode cL_law 2210 = .ok (.iconst 3, 1) := by decide +kernel
theorem dL_law_2211 : decode cL_law 2211 = .ok (.iadd, 1) := by decide +kernel
theorem dL_law_2212 : decode cL_law 2212 = .ok (.iaload, 1) := by decide +kernel
theorem dL_law_2213 : decode cL_law 2213 = .ok (.i2l, 1) := by decide +kernel
theorem dL_law_2214 : decode cL_law 2214 = .ok (.bipush 32, 2) := by decide +kernel
theorem dL_law_2216 : decode cL_law 2216 = .ok (.lshl, 1) := by decide +kernel
theorem dL_law_2217 : decode cL_law 2217 = .ok (.aload_n 0, 1) := by decide +kernel
theorem dL_law_2218 : decode cL_law 2218 = .ok (.iload 4, 2) := by decide +kernel
theorem dL_law_2220 : decode cL_law 2220 = .ok (.iconst 4, 1) := by decide +kernel
theorem dL_law_2221 : decode cL_law 2221 = .ok (.iadd, 1) := by decide +kernel
theorem dL_law_2222 : decode cL_law 2222 = .ok (.iaload, 1) := by decide +kernel
theorem dL_law_2223 : decode cL_law 2223 = .ok (.i2l, 1) := by decide +kernel
theorem dL_law_2224 : decode cL_law 2224 = .ok (.ldc2_w 258, 3) := by decide +kernel
theorem dL_law_2227 : decode cL_law 2227 = .ok (.land, 1) := by decide +kernel
theorem dL_law_2228 : decode cL_law 2228 = .ok (.lor, 1) := by decide +kernel
theorem dL_law_2229 : decode cL_law 2229 = .ok (.aload_n 3, 1) := by decide +kernel
theorem dL_law_2230 : decode cL_law 2230 = .ok (.invokestatic 260, 3) := by decide +kernel
theorem dL_law_2233 : decode cL_law 2233 = .ok (.istore 5, 2) := by decide +kernel
theorem dL_law_2235 : decode cL_law 2235 = .ok (.aload_n 2, 1) := by decide +kernel
theorem dL_law_2236 : decode cL_law 2236 = .ok (.aload_n 0, 1) := by decide +kernel
theorem dL_law_2237 : decode cL_law 2237 = .ok (.iload 4, 2) := by decide +kernel
theorem dL_law_2239 : decode cL_law 2239 = .ok (.iconst 1, 1) := by decide +kernel
theorem dL_law_2240 : decode cL_law 2240 = .ok (.iadd, 1) := by decide +kernel
theorem dL_law_2241 : decode cL_law 2241 = .ok (.iaload, 1) := by decide +kernel
theorem dL_law_2242 : decode cL_law 2242 = .ok (.aload_n 0, 1) := by decide +kernel
theorem dL_law_2243 : decode cL_law 2243 = .ok (.iload 4, 2) := by decide +kernel
theorem dL_law_2245 : decode cL_law 2245 = .ok (.iconst 2, 1) := by decide +kernel
theorem dL_law_2246 : decode cL_law 2246 = .ok (.iadd, 1) := by decide +kernel
theorem dL_law_2247 : decode cL_law 2247 = .ok (.iaload, 1) := by decide +kernel
theorem dL_law_2248 : decode cL_law 2248 = .ok (.aload_n 0, 1) := by decide +kernel
theorem dL_law_2249 : decode cL_law 2249 = .ok (.iload 4, 2) := by decide +kernel
theorem dL_law_2251 : decode cL_law 2251 = .ok (.iconst 3, 1) := by decide +kernel
theorem dL_law_2252 : decode cL_law 2252 = .ok (.iadd, 1) := by decide +kernel
theorem dL_law_2253 : decode cL_law 2253 = .ok (.iaload, 1) := by decide +kernel
theorem dL_law_2254 : decode cL_law 2254 = .ok (.i2l, 1) := by decide +kernel
theorem dL_law_2255 : decode cL_law 2255 = .ok (.bipush 32, 2) := by decide +kernel
theorem dL_law_2257 : decode cL_law 2257 = .ok (.lshl, 1) := by decide +kernel
theorem dL_law_2258 : decode cL_law 2258 = .ok (.aload_n 0, 1) := by decide +kernel
theorem dL_law_2259 : decode cL_law 2259 = .ok (.iload 4, 2) := by decide +kernel
theorem dL_law_2261 : decode cL_law 2261 = .ok (.iconst 4, 1) := by decide +kernel
theorem dL_law_2262 : decode cL_law 2262 = .ok (.iadd, 1) := by decide +kernel
theorem dL_law_2263 : decode cL_law 2263 = .ok (.iaload, 1) := by decide +kernel
theorem dL_law_2264 : decode cL_law 2264 = .ok (.i2l, 1) := by decide +kernel
theorem dL_law_2265 : decode cL_law 2265 = .ok (.ldc2_w 258, 3) := by decide +kernel
theorem dL_law_2268 : decode cL_law 2268 = .ok (.land, 1) := by decide +kernel
theorem dL_law_2269 : decode cL_law 2269 = .ok (.lor, 1) := by decide +kernel
theorem dL_law_2270 : decode cL_law 2270 = .ok (.invokevirtual 263, 3) := by decide +kernel
theorem dL_law_2273 : decode cL_law 2273 = .ok (.lstore 6, 2) := by decide +kernel
theorem dL_law_2275 : decode cL_law 2275 = .ok (.aload_n 2, 1) := by decide +kernel
theorem dL_law_2276 : decode cL_law 2276 = .ok (.invokevirtual 132, 3) := by decide +kernel
theorem dL_law_2279 : decode cL_law 2279 = .ok (.iload 5, 2) := by decide +kernel
theorem dL_law_2281 : decode cL_law 2281 = .ok (.if_icmp .eq 5, 3) := by decide +kernel
theorem dL_law_2286 : decode cL_law 2286 = .ok (.iload 5, 2) := by decide +kernel
theorem dL_law_2288 : decode cL_law 2288 = .ok (.ifCond .ne 14, 3) := by decide +kernel
theorem dL_law_2302 : decode cL_law 2302 = .ok (.goto 156, 3) := by decide +kernel
theorem dL_law_2305 : decode cL_law 2305 = .ok (.aload_n 1, 1) := by decide +kernel
theorem dL_law_2306 : decode cL_law 2306 = .ok (.aload_n 0, 1) := by decide +kernel
theorem dL_law_2307 : decode cL_law 2307 = .ok (.iload 4, 2) := by decide +kernel
theorem dL_law_2309 : decode cL_law 2309 = .ok (.iconst 1, 1) := by decide +kernel
theorem dL_law_2310 : decode cL_law 2310 = .ok (.iadd, 1) := by decide +kernel
theorem dL_law_2311 : decode cL_law 2311 = .ok (.iaload, 1) := by decide +kernel
theorem dL_law_2312 : decode cL_law 2312 = .ok (.aload_n 3, 1) := by decide +kernel
theorem dL_law_2313 : decode cL_law 2313 = .ok (.invokestatic 264, 3) := by decide +kernel
theorem dL_law_2316 : decode cL_law 2316 = .ok (.istore 5, 2) := by decide +kernel
theorem dL_law_2318 : decode cL_law 2318 = .ok (.aload_n 2, 1) := by decide +kernel
theorem dL_law_2319 : decode cL_law 2319 = .ok (.aload_n 0, 1) := by decide +kernel
theorem dL_law_2320 : decode cL_law 2320 = .ok (.iload 4, 2) := by decide +kernel
theorem dL_law_2322 : decode cL_law 2322 = .ok (.iconst 1, 1) := by decide +kernel
theorem dL_law_2323 : decode cL_law 2323 = .ok (.iadd, 1) := by decide +kernel
theorem dL_law_2324 : decode cL_law 2324 = .ok (.iaload, 1) := by decide +kernel
theorem dL_law_2325 : decode cL_law 2325 = .ok (.invokevirtual 266, 3) := by decide +kernel
theorem dL_law_2328 : decode cL_law 2328 = .ok (.istore 6, 2) := by decide +kernel
theorem dL_law_2330 : decode cL_law 2330 = .ok (.aload_n 2, 1) := by decide +kernel
theorem dL_law_2331 : decode cL_law 2331 = .ok (.invokevirtual 132, 3) := by decide +kernel
theorem dL_law_2334 : decode cL_law 2334 = .ok (.iload 5, 2) := by decide +kernel
theorem dL_law_2336 : decode cL_law 2336 = .ok (.if_icmp .eq 5, 3) := by decide +kernel
theorem dL_law_2341 : decode cL_law 2341 = .ok (.iload 5, 2) := by decide +kernel
theorem dL_law_2343 : decode cL_law 2343 = .ok (.ifCond .ne 15, 3) := by decide +kernel
theorem dL_law_2358 : decode cL_law 2358 = .ok (.goto 100, 3) := by decide +kernel
theorem dL_law_2361 : decode cL_law 2361 = .ok (.aload_n 1, 1) := by decide +kernel
theorem dL_law_2362 : decode cL_law 2362 = .ok (.aload_n 0, 1) := by decide +kernel
theorem dL_law_2363 : decode cL_law 2363 = .ok (.iload 4, 2) := by decide +kernel
theorem dL_law_2365 : decode cL_law 2365 = .ok (.iconst 1, 1) := by decide +kernel
theorem dL_law_2366 : decode cL_law 2366 = .ok (.iadd, 1) := by decide +kernel
theorem dL_law_2367 : decode cL_law 2367 = .ok (.iaload, 1) := by decide +kernel
theorem dL_law_2368 : decode cL_law 2368 = .ok (.invokestatic 267, 3) := by decide +kernel
theorem dL_law_2371 : decode cL_law 2371 = .ok (.istore 5, 2) := by decide +kernel
theorem dL_law_2373 : decode cL_law 2373 = .ok (.aload_n 2, 1) := by decide +kernel
theorem dL_law_2374 : decode cL_law 2374 = .ok (.aload_n 0, 1) := by decide +kernel
theorem dL_law_2375 : decode cL_law 2375 = .ok (.iload 4, 2) := by decide +kernel
theorem dL_law_2377 : decode cL_law 2377 = .ok (.iconst 1, 1) := by decide +kernel
theorem dL_law_2378 : decode cL_law 2378 = .ok (.iadd, 1) := by decide +kernel
theorem dL_law_2379 : decode cL_law 2379 = .ok (.iaload, 1) := by decide +kernel
theorem dL_law_2380 : decode cL_law 2380 = .ok (.invokevirtual 270, 3) := by decide +kernel
theorem dL_law_2383 : decode cL_law 2383 = .ok (.aload_n 2, 1) := by decide +kernel
theorem dL_law_2384 : decode cL_law 2384 = .ok (.invokevirtual 132, 3) := by decide +kernel
theorem dL_law_2387 : decode cL_law 2387 = .ok (.iload 5, 2) := by decide +kernel
theorem dL_law_2389 : decode cL_law 2389 = .ok (.if_icmp .eq 5, 3) := by decide +kernel
theorem dL_law_2394 : decode cL_law 2394 = .ok (.goto 64, 3) := by decide +kernel
theorem dL_law_2397 : decode cL_law 2397 = .ok (.aload_n 1, 1) := by decide +kernel
theorem dL_law_2398 : decode cL_law 2398 = .ok (.aload_n 0, 1) := by decide +kernel
theorem dL_law_2399 : decode cL_law 2399 = .ok (.iload 4, 2) := by decide +kernel
theorem dL_law_2401 : decode cL_law 2401 = .ok (.iconst 1, 1) := by decide +kernel
theorem dL_law_2402 : decode cL_law 2402 = .ok (.iadd, 1) := by decide +kernel
theorem dL_law_2403 : decode cL_law 2403 = .ok (.iaload, 1) := by decide +kernel
theorem dL_law_2404 : decode cL_law 2404 = .ok (.invokestatic 271, 3) := by decide +kernel
theorem dL_law_2407 : decode cL_law 2407 = .ok (.istore 5, 2) := by decide +kernel
theorem dL_law_2409 : decode cL_law 2409 = .ok (.aload_n 2, 1) := by decide +kernel
theorem dL_law_2410 : decode cL_law 2410 = .ok (.aload_n 0, 1) := by decide +kernel
theorem dL_law_2411 : decode cL_law 2411 = .ok (.iload 4, 2) := by decide +kernel
theorem dL_law_2413 : decode cL_law 2413 = .ok (.iconst 1, 1) := by decide +kernel
theorem dL_law_2414 : decode cL_law 2414 = .ok (.iadd, 1) := by decide +kernel
theorem dL_law_2415 : decode cL_law 2415 = .ok (.iaload, 1) := by decide +kernel
theorem dL_law_2416 : decode cL_law 2416 = .ok (.invokevirtual 273, 3) := by decide +kernel
theorem dL_law_2419 : decode cL_law 2419 = .ok (.aload_n 2, 1) := by decide +kernel
theorem dL_law_2420 : decode cL_law 2420 = .ok (.invokevirtual 132, 3) := by decide +kernel
theorem dL_law_2423 : decode cL_law 2423 = .ok (.iload 5, 2) := by decide +kernel
theorem dL_law_2425 : decode cL_law 2425 = .ok (.if_icmp .eq 5, 3) := by decide +kernel
theorem dL_law_2430 : decode cL_law 2430 = .ok (.goto 28, 3) := by decide +kernel
set_option maxHeartbeats 4000000 in
set_option maxRecDepth 100000 in
theorem law_c37 {p : Program} {l : Launch} {e : Env} {s : State} {m : MethodId} {below : List Frame} {meth : Method} {c : Code} {b : Nat} {xs : Nat → Int32} {D : va_G} {cy : Nat → ClassId} {A : Nat → Prop} (hlT : l.stackTraces = false) (F : Fx D cy p m c cL_law 8 s #[Value.ref b] lw_tbl RL A) (hr : meth.sig.returnType = ret) (hlk : meth.locks = false) (hX : va_X b 6 xs s s.heap) (hbl : b < s.heap.size) (hbA : ¬ A b) (hAq : ∀ q, A q → s.heap.size ≤ q) {H : Heap} {locs : List Loc} {ls : Array Slot} (n1900 n1000 n1001 n1017 n1034 n1039 n1041 n1042 n1043 n1044 n1048 n1056 n1057 n1122 n1124 n1126 n1128 n1123 n1125 n1127 n1129 n3900 n3000 n3001 n3002 n3003 n3004 n3005 n3006 n3007 n3008 n3009 n3010 n3011 n3012 n3013 n3014 n3015 n3016 n3017 n3018 n5000 : Nat) (hP : va_P D vwCl [(n1900, .inr (11, [.ref n1000, .int 0, .ref n1001, .ref n1017, .ref n1034, .ref n1039, .ref n1041, .ref n1042, .ref n1043, .ref n1044, .ref n1048, .ref n1056, .ref n1057, .int 0])), (n1043, .inl (cy 5, 4, .inr (.inr (.inr (.inr (va_up (va_up (va_up (va_up (fun _ => none) 0 (some n1122)) 1 (some n1124)) 2 (some n1126)) 3 (some n1128))))))), (n1122, .inr (10, [.int (-1), .int 0, .ref n1123])), (n1124, .inr (10, [.int (-1), .int 0, .ref n1125])), (n1126, .inr (10, [.int (-1), .int 0, .ref n1127])), (n1128, .inr (10, [.int (-1), .int 0, .ref n1129])), (n3900, .inr (12, [.ref n3000, .ref n3001, .ref n3002, .ref n3003, .int 0, .ref n3004, .int 0, .int 0, .int 0, .int 0, .int 0, .int 0, .int 0, .int 0, .int 0, .int (-1), .int 0, .ref n3005, .ref n3006, .int 0, .ref n3007, .ref n3008, .int 0, .int 0, .int 0, .int 0, .int 0, .int 0, .int 0, .ref n3009, .ref n3010, .int 0, .int 0, .ref n3011, .ref n3012, .int 0, .int 0, .ref n3013, .ref n3014, .ref n3015, .int 0, .ref n3016, .ref n3017, .ref n3018])), (n3016, .inl (cy 1, 4, .inl (upd (upd (upd (upd (fun _ => 0) 0 (-1)) 1 (-1)) 2 (-1)) 3 (-1))))] H) (hD : va_D A [(n1900, .inr (11, [.ref n1000, .int 0, .ref n1001, .ref n1017, .ref n1034, .ref n1039, .ref n1041, .ref n1042, .ref n1043, .ref n1044, .ref n1048, .ref n1056, .ref n1057, .int 0])), (n1043, .inl (cy 5, 4, .inr (.inr (.inr (.inr (va_up (va_up (va_up (va_up (fun _ => none) 0 (some n1122)) 1 (some n1124)) 2 (some n1126)) 3 (some n1128))))))), (n1122, .inr (10, [.int (-1), .int 0, .ref n1123])), (n1124, .inr (10, [.int (-1), .int 0, .ref n1125])), (n1126, .inr (10, [.int (-1), .int 0, .ref n1127])), (n1128, .inr (10, [.int (-1), .int 0, .ref n1129])), (n3900, .inr (12, [.ref n3000, .ref n3001, .ref n3002, .ref n3003, .int 0, .ref n3004, .int 0, .int 0, .int 0, .int 0, .int 0, .int 0, .int 0, .int 0, .int 0, .int (-1), .int 0, .ref n3005, .ref n3006, .int 0, .ref n3007, .ref n3008, .int 0, .int 0, .int 0, .int 0, .int 0, .int 0, .int 0, .ref n3009, .ref n3010, .int 0, .int 0, .ref n3011, .ref n3012, .int 0, .int 0, .ref n3013, .ref n3014, .ref n3015, .int 0, .ref n3016, .ref n3017, .ref n3018])), (n3016, .inl (cy 1, 4, .inl (upd (upd (upd (upd (fun _ => 0) 0 (-1)) 1 (-1)) 2 (-1)) 3 (-1))))]) (hS : va_S A s.heap H locs) (hl : lv_has ls 8 [(4, .int 0), (3, .ref n5000), (2, .ref n3900), (1, .ref n1900), (0, .ref b)]) : W p l e room_1 s m #[Value.ref b] below meth c H locs 152 18765 (lw_Z below #[Value.ref b] s) (F0 m 2194 ls []) := by
  obtain ⟨⟨hx, hb, hml, hown, hts⟩, hK, hG, hZ, hA⟩ := id F
  obtain ⟨z1, ez1⟩ : ∃ z, xs 1 = z := ⟨_, rfl⟩
  obtain ⟨z2, ez2⟩ : ∃ z, xs 2 = z := ⟨_, rfl⟩
  obtain ⟨z3, ez3⟩ : ∃ z, xs 3 = z := ⟨_, rfl⟩
  obtain ⟨z4, ez4⟩ : ∃ z, xs 4 = z := ⟨_, rfl⟩
  obtain ⟨z5, ez5⟩ : ∃ z, xs 5 = z := ⟨_, rfl⟩
  refine lv_aload_n hx hb dL_law_2194 rfl (lv_at hl 3 rfl) ?_
  refine lv_aload_n hx hb dL_law_2195 rfl (lv_at hl 4 rfl) ?_
  refine lv_iload hx hb dL_law_2196 (lv_at hl 0 rfl) ?_
  refine lv_iconst (v := 1) hx hb dL_law_2198 (by decide +kernel) ?_
  refine lv_iadd hx hb dL_law_2199 ?_
  refine top_i (v := 1) (by decide +kernel) ?_
  refine va_sld hx hb hX hbl hbA hS (i := 1) (vin (by decide +kernel)) dL_law_2200 ?_
  refine top_i (v := z1) ez1 ?_
  refine lv_aload_n hx hb dL_law_2201 rfl (lv_at hl 4 rfl) ?_
  refine lv_iload hx hb dL_law_2202 (lv_at hl 0 rfl) ?_
  refine lv_iconst (v := 2) hx hb dL_law_2204 (by decide +kernel) ?_
  refine lv_iadd hx hb dL_law_2205 ?_
  refine top_i (v := 2) (by decide +kernel) ?_
  refine va_sld hx hb hX hbl hbA hS (i := 2) (vin (by decide +kernel)) dL_law_2206 ?_
  refine top_i (v := z2) ez2 ?_
  refine lv_aload_n hx hb dL_law_2207 rfl (lv_at hl 4 rfl) ?_
  refine lv_iload hx hb dL_law_2208 (lv_at hl 0 rfl) ?_
  refine lv_iconst (v := 3) hx hb dL_law_2210 (by decide +kernel) ?_
  refine lv_iadd hx hb dL_law_2211 ?_
  refine top_i (v := 3) (by decide +kernel) ?_
  refine va_sld hx hb hX hbl hbA hS (i := 3) (vin (by decide +kernel)) dL_law_2212 ?_
  refine top_i (v := z3) ez3 ?_
  refine lv_i2l hx hb dL_law_2213 rfl ?_
  refine lv_bipush (v := 32) hx hb dL_law_2214 (by decide +kernel) ?_
  refine lv_lshl hx hb dL_law_2216 rfl ?_
  refine lv_topl (fun v800001 _ => ?_)
  refine lv_aload_n hx hb dL_law_2217 rfl (lv_at hl 4 rfl) ?_
  refine lv_iload hx hb dL_law_2218 (lv_at hl 0 rfl) ?_
  refine lv_iconst (v := 4) hx hb dL_law_2220 (by decide +kernel) ?_
  refine lv_iadd hx hb dL_law_2221 ?_
  refine top_i (v := 4) (by decide +kernel) ?_
  refine va_sld hx hb hX hbl hbA hS (i := 4) (vin (by decide +kernel)) dL_law_2222 ?_
  refine top_i (v := z4) ez4 ?_
  refine lv_i2l hx hb dL_law_2223 rfl ?_
  refine lv_ldc2 (v := 4294967295) hx hb hown (hts _ lm_1877) dL_law_2224 ?_
  refine lv_land hx hb dL_law_2227 ?_
  refine lv_lor hx hb dL_law_2228 ?_
  refine lv_aload_n hx hb dL_law_2229 rfl (lv_at hl 1 rfl) ?_
  refine call_i (av := [.ref n1900, .int z1, .int z2, .long (v800001 ||| (z4.toInt64 &&& 4294967295)), .ref n5000]) F hP hD hS [(n1900, .inr (11, [.ref n1000, .int 0, .ref n1001, .ref n1017, .ref n1034, .ref n1039, .ref n1041, .ref n1042, .ref n1043, .ref n1044, .ref n1048, .ref n1056, .ref n1057, .int 0])), (n1043, .inl (cy 5, 4, .inr (.inr (.inr (.inr (va_up (va_up (va_up (va_up (fun _ => none) 0 (some n1122)) 1 (some n1124)) 2 (some n1126)) 3 (some n1128))))))), (n1122, .inr (10, [.int (-1), .int 0, .ref n1123])), (n1124, .inr (10, [.int (-1), .int 0, .ref n1125])), (n1126, .inr (10, [.int (-1), .int 0, .ref n1127])), (n1128, .inr (10, [.int (-1), .int 0, .ref n1129]))] [(n3900, .inr (12, [.ref n3000, .ref n3001, .ref n3002, .ref n3003, .int 0, .ref n3004, .int 0, .int 0, .int 0, .int 0, .int 0, .int 0, .int 0, .int 0, .int 0, .int (-1), .int 0, .ref n3005, .ref n3006, .int 0, .ref n3007, .ref n3008, .int 0, .int 0, .int 0, .int 0, .int 0, .int 0, .int 0, .ref n3009, .ref n3010, .int 0, .int 0, .ref n3011, .ref n3012, .int 0, .int 0, .ref n3013, .ref n3014, .ref n3015, .int 0, .ref n3016, .ref n3017, .ref n3018])), (n3016, .inl (cy 1, 4, .inl (upd (upd (upd (upd (fun _ => 0) 0 (-1)) 1 (-1)) 2 (-1)) 3 (-1))))] [0, 1, 2, 3, 4, 5] [6, 7] rfl rfl (by decide +kernel) (fun pr => vx_runSW (As := [.ref n1900, .int z1, .int z2, .long (v800001 ||| (z4.toInt64 &&& 4294967295)), .ref n5000]) (rest := []) ⟨hx, hb, hml, hown, hts⟩ (k329_L_write l hlT D cy H.size n1900 z1 z2 ((v800001 ||| (z4.toInt64 &&& 4294967295))) n5000 n1043 n1122 n1124 n1126 n1128 n1000 n1001 n1017 n1034 n1039 n1041 n1042 n1044 n1048 n1056 n1057 n1123 n1125 n1127 n1129) (vx_cwSW 5 hts gw_L_write rfl rfl rfl (by decide +kernel) ⟨(by decide +kernel), (by decide +kernel)⟩) pr rfl rfl hl.1 rfl (lv_room (Nat.le_of_ble_eq_true rfl)) dL_law_2230 ⟨(by decide +kernel), (by decide +kernel)⟩) (fun r u H locs hw hP hD hS => ?_)
  rcases hw with ⟨c800002, rfl, rfl⟩ | ⟨c800003, c800004, rfl, rfl⟩ | ⟨c800005, c800006, c800007, rfl, rfl⟩ | ⟨c800008, c800009, c800010, rfl, rfl⟩ | ⟨c800011, c800012, c800013, rfl, rfl⟩ | ⟨c800014, c800015, c800016, rfl, rfl⟩
  · have hP : va_P D vwCl [(n3900, .inr (12, [.ref n3000, .ref n3001, .ref n3002, .ref n3003, .int 0, .ref n3004, .int 0, .int 0, .int 0, .int 0, .int 0, .int 0, .int 0, .int 0, .int 0, .int (-1), .int 0, .ref n3005, .ref n3006, .int 0, .ref n3007, .ref n3008, .int 0, .int 0, .int 0, .int 0, .int 0, .int 0, .int 0, .ref n3009, .ref n3010, .int 0, .int 0, .ref n3011, .ref n3012, .int 0, .int 0, .ref n3013, .ref n3014, .ref n3015, .int 0, .ref n3016, .ref n3017, .ref n3018])), (n3016, .inl (cy 1, 4, .inl (upd (upd (upd (upd (fun _ => 0) 0 (-1)) 1 (-1)) 2 (-1)) 3 (-1))))] H := hP
    have hD : va_D A [(n3900, .inr (12, [.ref n3000, .ref n3001, .ref n3002, .ref n3003, .int 0, .ref n3004, .int 0, .int 0, .int 0, .int 0, .int 0, .int 0, .int 0, .int 0, .int 0, .int (-1), .int 0, .ref n3005, .ref n3006, .int 0, .ref n3007, .ref n3008, .int 0, .int 0, .int 0, .int 0, .int 0, .int 0, .int 0, .ref n3009, .ref n3010, .int 0, .int 0, .ref n3011, .ref n3012, .int 0, .int 0, .ref n3013, .ref n3014, .ref n3015, .int 0, .ref n3016, .ref n3017, .ref n3018])), (n3016, .inl (cy 1, 4, .inl (upd (upd (upd (upd (fun _ => 0) 0 (-1)) 1 (-1)) 2 (-1)) 3 (-1))))] := hD
    refine lv_istore (lv' := [(5, .int 1), (4, .int 0), (3, .ref n5000), (2, .ref n3900), (1, .ref n1900), (0, .ref b)]) hx hb dL_law_2233 hl (by decide +kernel) rfl (fun ls hl => ?_)
    refine lv_aload_n hx hb dL_law_2235 rfl (lv_at hl 3 rfl) ?_
    refine lv_aload_n hx hb dL_law_2236 rfl (lv_at hl 5 rfl) ?_
    refine lv_iload hx hb dL_law_2237 (lv_at hl 1 rfl) ?_
    refine lv_iconst (v := 1) hx hb dL_law_2239 (by decide +kernel) ?_
    refine lv_iadd hx hb dL_law_2240 ?_
    refine top_i (v := 1) (by decide +kernel) ?_
    refine va_sld hx hb hX hbl hbA hS (i := 1) (vin (by decide +kernel)) dL_law_2241 ?_
    refine top_i (v := z1) ez1 ?_
    refine lv_aload_n hx hb dL_law_2242 rfl (lv_at hl 5 rfl) ?_
    refine lv_iload hx hb dL_law_2243 (lv_at hl 1 rfl) ?_
    refine lv_iconst (v := 2) hx hb dL_law_2245 (by decide +kernel) ?_
    refine lv_iadd hx hb dL_law_2246 ?_
    refine top_i (v := 2) (by decide +kernel) ?_
    refine va_sld hx hb hX hbl hbA hS (i := 2) (vin (by decide +kernel)) dL_law_2247 ?_
    refine top_i (v := z2) ez2 ?_
    refine lv_aload_n hx hb dL_law_2248 rfl (lv_at hl 5 rfl) ?_
    refine lv_iload hx hb dL_law_2249 (lv_at hl 1 rfl) ?_
    refine lv_iconst (v := 3) hx hb dL_law_2251 (by decide +kernel) ?_
    refine lv_iadd hx hb dL_law_2252 ?_
    refine top_i (v := 3) (by decide +kernel) ?_
    refine va_sld hx hb hX hbl hbA hS (i := 3) (vin (by decide +kernel)) dL_law_2253 ?_
    refine top_i (v := z3) ez3 ?_
    refine lv_i2l hx hb dL_law_2254 rfl ?_
    refine lv_bipush (v := 32) hx hb dL_law_2255 (by decide +kernel) ?_
    refine lv_lshl hx hb dL_law_2257 rfl ?_
    refine lv_topl (fun v800017 _ => ?_)
    refine lv_aload_n hx hb dL_law_2258 rfl (lv_at hl 5 rfl) ?_
    refine lv_iload hx hb dL_law_2259 (lv_at hl 1 rfl) ?_
    refine lv_iconst (v := 4) hx hb dL_law_2261 (by decide +kernel) ?_
    refine lv_iadd hx hb dL_law_2262 ?_
    refine top_i (v := 4) (by decide +kernel) ?_
    refine va_sld hx hb hX hbl hbA hS (i := 4) (vin (by decide +kernel)) dL_law_2263 ?_
    refine top_i (v := z4) ez4 ?_
    refine lv_i2l hx hb dL_law_2264 rfl ?_
    refine lv_ldc2 (v := 4294967295) hx hb hown (hts _ lm_1877) dL_law_2265 ?_
    refine lv_land hx hb dL_law_2268 ?_
    refine lv_lor hx hb dL_law_2269 ?_
    refine call_l (av := [.ref n3900, .int z1, .int z2, .long (v800017 ||| (z4.toInt64 &&& 4294967295))]) F hP hD hS [(n3900, .inr (12, [.ref n3000, .ref n3001, .ref n3002, .ref n3003, .int 0, .ref n3004, .int 0, .int 0, .int 0, .int 0, .int 0, .int 0, .int 0, .int 0, .int 0, .int (-1), .int 0, .ref n3005, .ref n3006, .int 0, .ref n3007, .ref n3008, .int 0, .int 0, .int 0, .int 0, .int 0, .int 0, .int 0, .ref n3009, .ref n3010, .int 0, .int 0, .ref n3011, .ref n3012, .int 0, .int 0, .ref n3013, .ref n3014, .ref n3015, .int 0, .ref n3016, .ref n3017, .ref n3018])), (n3016, .inl (cy 1, 4, .inl (upd (upd (upd (upd (fun _ => 0) 0 (-1)) 1 (-1)) 2 (-1)) 3 (-1))))] [] [0, 1] [] rfl rfl (by decide +kernel) (fun pr => va_runV (As := [.int z1, .int z2, .long (v800017 ||| (z4.toInt64 &&& 4294967295))]) (rest := []) ⟨hx, hb, hml, hown, hts⟩ (k209_X12_write l D cy H.size n3900 z1 z2 ((v800017 ||| (z4.toInt64 &&& 4294967295))) n3016 n3000 n3001 n3002 n3003 n3004 n3005 n3006 n3007 n3008 n3009 n3010 n3011 n3012 n3013 n3014 n3015 n3017 n3018) (cwV 3 hts gw_X12_write rfl rfl rfl (by decide +kernel) ⟨(by decide +kernel), (by decide +kernel)⟩) ⟨pr.1, va_recv hK hP (ci := 12) (q0 := 0) rfl rfl, pr.2⟩ rfl rfl hl.1 rfl (lv_room (Nat.le_of_ble_eq_true rfl)) dL_law_2270 ⟨(by decide +kernel), (by decide +kernel)⟩) (fun r u H locs hw hP hD hS => ?_)
    rcases hw with ⟨c800018, rfl, rfl⟩ | ⟨c800019, c800020, rfl, rfl⟩ | ⟨c800021, c800022, c800023, rfl, rfl⟩ | ⟨c800024, c800025, c800026, rfl, rfl⟩ | ⟨c800027, c800028, c800029, rfl, rfl⟩ | ⟨c800030, c800031, c800032, rfl, rfl⟩
    · have hP : va_P D vwCl [(n3900, .inr (12, [.ref n3000, .ref n3001, .ref n3002, .ref n3003, .int 1, .ref n3004, .int 0, .int 0, .int 0, .int 0, .int 0, .int 0, .int 0, .int 0, .int 0, .int (-1), .int 0, .ref n3005, .ref n3006, .int 0, .ref n3007, .ref n3008, .int 0, .int 0, .int 0, .int 0, .int 0, .int 0, .int 0, .ref n3009, .ref n3010, .int 0, .int 0, .ref n3011, .ref n3012, .int 0, .int 0, .ref n3013, .ref n3014, .ref n3015, .int 0, .ref n3016, .ref n3017, .ref n3018])), (n3016, .inl (cy 1, 4, .inl (upd (upd (upd (upd (fun _ => 0) 0 (-1)) 1 (-1)) 2 (-1)) 3 (-1))))] H := hP
      have hD : va_D A [(n3900, .inr (12, [.ref n3000, .ref n3001, .ref n3002, .ref n3003, .int 1, .ref n3004, .int 0, .int 0, .int 0, .int 0, .int 0, .int 0, .int 0, .int 0, .int 0, .int (-1), .int 0, .ref n3005, .ref n3006, .int 0, .ref n3007, .ref n3008, .int 0, .int 0, .int 0, .int 0, .int 0, .int 0, .int 0, .ref n3009, .ref n3010, .int 0, .int 0, .ref n3011, .ref n3012, .int 0, .int 0, .ref n3013, .ref n3014, .ref n3015, .int 0, .ref n3016, .ref n3017, .ref n3018])), (n3016, .inl (cy 1, 4, .inl (upd (upd (upd (upd (fun _ => 0) 0 (-1)) 1 (-1)) 2 (-1)) 3 (-1))))] := hD
      refine lv_lstore (lv' := [(6, .long 0), (5, .int 1), (4, .int 0), (3, .ref n5000), (2, .ref n3900), (1, .ref n1900), (0, .ref b)]) hx hb dL_law_2273 hl (by decide +kernel) rfl (fun ls hl => ?_)
      refine lv_aload_n hx hb dL_law_2275 rfl (lv_at hl 4 rfl) ?_
      refine call_i (av := [.ref n3900]) F hP hD hS [(n3900, .inr (12, [.ref n3000, .ref n3001, .ref n3002, .ref n3003, .int 1, .ref n3004, .int 0, .int 0, .int 0, .int 0, .int 0, .int 0, .int 0, .int 0, .int 0, .int (-1), .int 0, .ref n3005, .ref n3006, .int 0, .ref n3007, .ref n3008, .int 0, .int 0, .int 0, .int 0, .int 0, .int 0, .int 0, .ref n3009, .ref n3010, .int 0, .int 0, .ref n3011, .ref n3012, .int 0, .int 0, .ref n3013, .ref n3014, .ref n3015, .int 0, .ref n3016, .ref n3017, .ref n3018]))] [(n3016, .inl (cy 1, 4, .inl (upd (upd (upd (upd (fun _ => 0) 0 (-1)) 1 (-1)) 2 (-1)) 3 (-1))))] [0] [1] rfl rfl (by decide +kernel) (fun pr => va_runV (As := []) (rest := []) ⟨hx, hb, hml, hown, hts⟩ (k333_X12_thrown l D cy H.size n3900 n3000 n3001 n3002 n3003 n3004 n3005 n3006 n3007 n3008 n3009 n3010 n3011 n3012 n3013 n3014 n3015 n3016 n3017 n3018) (cwV 0 hts gw_X12_thrown rfl rfl rfl (by decide +kernel) ⟨(by decide +kernel), (by decide +kernel)⟩) ⟨pr.1, va_recv hK hP (ci := 12) (q0 := 0) rfl rfl, pr.2⟩ rfl rfl hl.1 rfl (lv_room (Nat.le_of_ble_eq_true rfl)) dL_law_2276 ⟨(by decide +kernel), (by decide +kernel)⟩) (fun r u H locs hw hP hD hS => ?_)
      rcases hw with ⟨rfl, rfl⟩
      have hP : va_P D vwCl [(n3016, .inl (cy 1, 4, .inl (upd (upd (upd (upd (fun _ => 0) 0 (-1)) 1 (-1)) 2 (-1)) 3 (-1)))), (n3900, .inr (12, [.ref n3000, .ref n3001, .ref n3002, .ref n3003, .int 1, .ref n3004, .int 0, .int 0, .int 0, .int 0, .int 0, .int 0, .int 0, .int 0, .int 0, .int (-1), .int 0, .ref n3005, .ref n3006, .int 0, .ref n3007, .ref n3008, .int 0, .int 0, .int 0, .int 0, .int 0, .int 0, .int 0, .ref n3009, .ref n3010, .int 0, .int 0, .ref n3011, .ref n3012, .int 0, .int 0, .ref n3013, .ref n3014, .ref n3015, .int 0, .ref n3016, .ref n3017, .ref n3018]))] H := hP
      have hD : va_D A [(n3016, .inl (cy 1, 4, .inl (upd (upd (upd (upd (fun _ => 0) 0 (-1)) 1 (-1)) 2 (-1)) 3 (-1)))), (n3900, .inr (12, [.ref n3000, .ref n3001, .ref n3002, .ref n3003, .int 1, .ref n3004, .int 0, .int 0, .int 0, .int 0, .int 0, .int 0, .int 0, .int 0, .int 0, .int (-1), .int 0, .ref n3005, .ref n3006, .int 0, .ref n3007, .ref n3008, .int 0, .int 0, .int 0, .int 0, .int 0, .int 0, .int 0, .ref n3009, .ref n3010, .int 0, .int 0, .ref n3011, .ref n3012, .int 0, .int 0, .ref n3013, .ref n3014, .ref n3015, .int 0, .ref n3016, .ref n3017, .ref n3018]))] := hD
      refine lv_iload hx hb dL_law_2279 (lv_at hl 1 rfl) ?_
      refine lv_icmp_eq (tgt := 2286) hx hb dL_law_2281 (by decide +kernel) (fun _ => ?_) (fun h => absurd (by decide +kernel) h)
      refine lv_iload hx hb dL_law_2286 (lv_at hl 1 rfl) ?_
      refine lv_if_ne (tgt := 2302) hx hb dL_law_2288 (by decide +kernel) (fun _ => ?_) (fun h => absurd h (by decide +kernel))
      refine lv_goto (tgt := 2458) hx hb dL_law_2302 (by decide +kernel) ?_
      refine lv_iinc (v := 6) (lv' := [(4, .int 6), (6, .long 0), (5, .int 1), (3, .ref n5000), (2, .ref n3900), (1, .ref n1900), (0, .ref b)]) hx hb dL_law_2458 hl (k := 2) rfl (by decide) (by decide +kernel) rfl (fun ls hl => ?_)
      refine lv_goto (tgt := 23) hx hb dL_law_2461 (by decide +kernel) ?_
      refine lv_iload hx hb dL_law_23 (lv_at hl 0 rfl) ?_
      refine lv_aload_n hx hb dL_law_25 rfl (lv_at hl 6 rfl) ?_
      refine va_slen hx hb hX hbl hbA hS dL_law_26 ?_
      refine top_i (v := 6) rfl ?_
      refine lv_bipush (v := 6) hx hb dL_law_27 (by decide +kernel) ?_
      refine lv_isub hx hb dL_law_29 ?_
      refine top_i (v := 0) (by decide +kernel) ?_
      refine lv_icmp_gt (tgt := 2464) hx hb dL_law_30 (by decide +kernel) (fun _ => ?_) (fun h => absurd (by decide +kernel) h)
      refine lv_iconst (v := 1) hx hb dL_law_2464 (by decide +kernel) ?_
      refine va_forget (fun q hq => hAq _ (hS.2.2 q hq)) ?_
      refine W.widen (k := 600002) (n := 7302232) (by decide +kernel) (by decide +kernel) ?_
      exact lw_ret hx hb hr hlk dL_law_2465
    · exact (no_b (lo_nlt_w c800019) (up_lt c800002) (by decide +kernel)).elim
    · exact (no_b (lo_nlt_w c800021) (up_lt c800002) (by decide +kernel)).elim
    · exact (no_b (lo_nlt_w c800024) (up_lt c800002) (by decide +kernel)).elim
    · exact (no_b (lo_nlt_w c800027) (up_lt c800002) (by decide +kernel)).elim
    · exact (no_b (lo_nlt_w c800030) (up_lt c800002) (by decide +kernel)).elim
  · have hP : va_P D vwCl [(n3900, .inr (12, [.ref n3000, .ref n3001, .ref n3002, .ref n3003, .int 0, .ref n3004, .int 0, .int 0, .int 0, .int 0, .int 0, .int 0, .int 0, .int 0, .int 0, .int (-1), .int 0, .ref n3005, .ref n3006, .int 0, .ref n3007, .ref n3008, .int 0, .int 0, .int 0, .int 0, .int 0, .int 0, .int 0, .ref n3009, .ref n3010, .int 0, .int 0, .ref n3011, .ref n3012, .int 0, .int 0, .ref n3013, .ref n3014, .ref n3015, .int 0, .ref n3016, .ref n3017, .ref n3018])), (n3016, .inl (cy 1, 4, .inl (upd (upd (upd (upd (fun _ => 0) 0 (-1)) 1 (-1)) 2 (-1)) 3 (-1))))] H := hP
    have hD : va_D A [(n3900, .inr (12, [.ref n3000, .ref n3001, .ref n3002, .ref n3003, .int 0, .ref n3004, .int 0, .int 0, .int 0, .int 0, .int 0, .int 0, .int 0, .int 0, .int 0, .int (-1), .int 0, .ref n3005, .ref n3006, .int 0, .ref n3007, .ref n3008, .int 0, .int 0, .int 0, .int 0, .int 0, .int 0, .int 0, .ref n3009, .ref n3010, .int 0, .int 0, .ref n3011, .ref n3012, .int 0, .int 0, .ref n3013, .ref n3014, .ref n3015, .int 0, .ref n3016, .ref n3017, .ref n3018])), (n3016, .inl (cy 1, 4, .inl (upd (upd (upd (upd (fun _ => 0) 0 (-1)) 1 (-1)) 2 (-1)) 3 (-1))))] := hD
    refine lv_istore (lv' := [(5, .int 1), (4, .int 0), (3, .ref n5000), (2, .ref n3900), (1, .ref n1900), (0, .ref b)]) hx hb dL_law_2233 hl (by decide +kernel) rfl (fun ls hl => ?_)
    refine lv_aload_n hx hb dL_law_2235 rfl (lv_at hl 3 rfl) ?_
    refine lv_aload_n hx hb dL_law_2236 rfl (lv_at hl 5 rfl) ?_
    refine lv_iload hx hb dL_law_2237 (lv_at hl 1 rfl) ?_
    refine lv_iconst (v := 1) hx hb dL_law_2239 (by decide +kernel) ?_
    refine lv_iadd hx hb dL_law_2240 ?_
    refine top_i (v := 1) (by decide +kernel) ?_
    refine va_sld hx hb hX hbl hbA hS (i := 1) (vin (by decide +kernel)) dL_law_2241 ?_
    refine top_i (v := z1) ez1 ?_
    refine lv_aload_n hx hb dL_law_2242 rfl (lv_at hl 5 rfl) ?_
    refine lv_iload hx hb dL_law_2243 (lv_at hl 1 rfl) ?_
    refine lv_iconst (v := 2) hx hb dL_law_2245 (by decide +kernel) ?_
    refine lv_iadd hx hb dL_law_2246 ?_
    refine top_i (v := 2) (by decide +kernel) ?_
    refine va_sld hx hb hX hbl hbA hS (i := 2) (vin (by decide +kernel)) dL_law_2247 ?_
    refine top_i (v := z2) ez2 ?_
    refine lv_aload_n hx hb dL_law_2248 rfl (lv_at hl 5 rfl) ?_
    refine lv_iload hx hb dL_law_2249 (lv_at hl 1 rfl) ?_
    refine lv_iconst (v := 3) hx hb dL_law_2251 (by decide +kernel) ?_
    refine lv_iadd hx hb dL_law_2252 ?_
    refine top_i (v := 3) (by decide +kernel) ?_
    refine va_sld hx hb hX hbl hbA hS (i := 3) (vin (by decide +kernel)) dL_law_2253 ?_
    refine top_i (v := z3) ez3 ?_
    refine lv_i2l hx hb dL_law_2254 rfl ?_
    refine lv_bipush (v := 32) hx hb dL_law_2255 (by decide +kernel) ?_
    refine lv_lshl hx hb dL_law_2257 rfl ?_
    refine lv_topl (fun v800036 _ => ?_)
    refine lv_aload_n hx hb dL_law_2258 rfl (lv_at hl 5 rfl) ?_
    refine lv_iload hx hb dL_law_2259 (lv_at hl 1 rfl) ?_
    refine lv_iconst (v := 4) hx hb dL_law_2261 (by decide +kernel) ?_
    refine lv_iadd hx hb dL_law_2262 ?_
    refine top_i (v := 4) (by decide +kernel) ?_
    refine va_sld hx hb hX hbl hbA hS (i := 4) (vin (by decide +kernel)) dL_law_2263 ?_
    refine top_i (v := z4) ez4 ?_
    refine lv_i2l hx hb dL_law_2264 rfl ?_
    refine lv_ldc2 (v := 4294967295) hx hb hown (hts _ lm_1877) dL_law_2265 ?_
    refine lv_land hx hb dL_law_2268 ?_
    refine lv_lor hx hb dL_law_2269 ?_
    refine call_l (av := [.ref n3900, .int z1, .int z2, .long (v800036 ||| (z4.toInt64 &&& 4294967295))]) F hP hD hS [(n3900, .inr (12, [.ref n3000, .ref n3001, .ref n3002, .ref n3003, .int 0, .ref n3004, .int 0, .int 0, .int 0, .int 0, .int 0, .int 0, .int 0, .int 0, .int 0, .int (-1), .int 0, .ref n3005, .ref n3006, .int 0, .ref n3007, .ref n3008, .int 0, .int 0, .int 0, .int 0, .int 0, .int 0, .int 0, .ref n3009, .ref n3010, .int 0, .int 0, .ref n3011, .ref n3012, .int 0, .int 0, .ref n3013, .ref n3014, .ref n3015, .int 0, .ref n3016, .ref n3017, .ref n3018])), (n3016, .inl (cy 1, 4, .inl (upd (upd (upd (upd (fun _ => 0) 0 (-1)) 1 (-1)) 2 (-1)) 3 (-1))))] [] [0, 1] [] rfl rfl (by decide +kernel) (fun pr => va_runV (As := [.int z1, .int z2, .long (v800036 ||| (z4.toInt64 &&& 4294967295))]) (rest := []) ⟨hx, hb, hml, hown, hts⟩ (k209_X12_write l D cy H.size n3900 z1 z2 ((v800036 ||| (z4.toInt64 &&& 4294967295))) n3016 n3000 n3001 n3002 n3003 n3004 n3005 n3006 n3007 n3008 n3009 n3010 n3011 n3012 n3013 n3014 n3015 n3017 n3018) (cwV 3 hts gw_X12_write rfl rfl rfl (by decide +kernel) ⟨(by decide +kernel), (by decide +kernel)⟩) ⟨pr.1, va_recv hK hP (ci := 12) (q0 := 0) rfl rfl, pr.2⟩ rfl rfl hl.1 rfl (lv_room (Nat.le_of_ble_eq_true rfl)) dL_law_2270 ⟨(by decide +kernel), (by decide +kernel)⟩) (fun r u H locs hw hP hD hS => ?_)
    rcases hw with ⟨c800037, rfl, rfl⟩ | ⟨c800038, c800039, rfl, rfl⟩ | ⟨c800040, c800041, c800042, rfl, rfl⟩ | ⟨c800043, c800044, c800045, rfl, rfl⟩ | ⟨c800046, c800047, c800048, rfl, rfl⟩ | ⟨c800049, c800050, c800051, rfl, rfl⟩
    · exact (no_b (lo_nlt c800004) (up_lt_w c800037) (by decide +kernel)).elim
    · have hP : va_P D vwCl [(n3900, .inr (12, [.ref n3000, .ref n3001, .ref n3002, .ref n3003, .int 1, .ref n3004, .int 0, .int 0, .int 0, .int 0, .int 0, .int 0, .int 0, .int 0, .int 0, .int (-1), .int 0, .ref n3005, .ref n3006, .int 0, .ref n3007, .ref n3008, .int 0, .int 0, .int 0, .int 0, .int 0, .int 0, .int 0, .ref n3009, .ref n3010, .int 0, .int 0, .ref n3011, .ref n3012, .int 0, .int 0, .ref n3013, .ref n3014, .ref n3015, .int 0, .ref n3016, .ref n3017, .ref n3018])), (n3016, .inl (cy 1, 4, .inl (upd (upd (upd (upd (fun _ => 0) 0 (-1)) 1 (-1)) 2 (-1)) 3 (-1))))] H := hP
      have hD : va_D A [(n3900, .inr (12, [.ref n3000, .ref n3001, .ref n3002, .ref n3003, .int 1, .ref n3004, .int 0, .int 0, .int 0, .int 0, .int 0, .int 0, .int 0, .int 0, .int 0, .int (-1), .int 0, .ref n3005, .ref n3006, .int 0, .ref n3007, .ref n3008, .int 0, .int 0, .int 0, .int 0, .int 0, .int 0, .int 0, .ref n3009, .ref n3010, .int 0, .int 0, .ref n3011, .ref n3012, .int 0, .int 0, .ref n3013, .ref n3014, .ref n3015, .int 0, .ref n3016, .ref n3017, .ref n3018])), (n3016, .inl (cy 1, 4, .inl (upd (upd (upd (upd (fun _ => 0) 0 (-1)) 1 (-1)) 2 (-1)) 3 (-1))))] := hD
      refine lv_lstore (lv' := [(6, .long 0), (5, .int 1), (4, .int 0), (3, .ref n5000), (2, .ref n3900), (1, .ref n1900), (0, .ref b)]) hx hb dL_law_2273 hl (by decide +kernel) rfl (fun ls hl => ?_)
      refine lv_aload_n hx hb dL_law_2275 rfl (lv_at hl 4 rfl) ?_
      refine call_i (av := [.ref n3900]) F hP hD hS [(n3900, .inr (12, [.ref n3000, .ref n3001, .ref n3002, .ref n3003, .int 1, .ref n3004, .int 0, .int 0, .int 0, .int 0, .int 0, .int 0, .int 0, .int 0, .int 0, .int (-1), .int 0, .ref n3005, .ref n3006, .int 0, .ref n3007, .ref n3008, .int 0, .int 0, .int 0, .int 0, .int 0, .int 0, .int 0, .ref n3009, .ref n3010, .int 0, .int 0, .ref n3011, .ref n3012, .int 0, .int 0, .ref n3013, .ref n3014, .ref n3015, .int 0, .ref n3016, .ref n3017, .ref n3018]))] [(n3016, .inl (cy 1, 4, .inl (upd (upd (upd (upd (fun _ => 0) 0 (-1)) 1 (-1)) 2 (-1)) 3 (-1))))] [0] [1] rfl rfl (by decide +kernel) (fun pr => va_runV (As := []) (rest := []) ⟨hx, hb, hml, hown, hts⟩ (k333_X12_thrown l D cy H.size n3900 n3000 n3001 n3002 n3003 n3004 n3005 n3006 n3007 n3008 n3009 n3010 n3011 n3012 n3013 n3014 n3015 n3016 n3017 n3018) (cwV 0 hts gw_X12_thrown rfl rfl rfl (by decide +kernel) ⟨(by decide +kernel), (by decide +kernel)⟩) ⟨pr.1, va_recv hK hP (ci := 12) (q0 := 0) rfl rfl, pr.2⟩ rfl rfl hl.1 rfl (lv_room (Nat.le_of_ble_eq_true rfl)) dL_law_2276 ⟨(by decide +kernel), (by decide +kernel)⟩) (fun r u H locs hw hP hD hS => ?_)
      rcases hw with ⟨rfl, rfl⟩
      have hP : va_P D vwCl [(n3016, .inl (cy 1, 4, .inl (upd (upd (upd (upd (fun _ => 0) 0 (-1)) 1 (-1)) 2 (-1)) 3 (-1)))), (n3900, .inr (12, [.ref n3000, .ref n3001, .ref n3002, .ref n3003, .int 1, .ref n3004, .int 0, .int 0, .int 0, .int 0, .int 0, .int 0, .int 0, .int 0, .int 0, .int (-1), .int 0, .ref n3005, .ref n3006, .int 0, .ref n3007, .ref n3008, .int 0, .int 0, .int 0, .int 0, .int 0, .int 0, .int 0, .ref n3009, .ref n3010, .int 0, .int 0, .ref n3011, .ref n3012, .int 0, .int 0, .ref n3013, .ref n3014, .ref n3015, .int 0, .ref n3016, .ref n3017, .ref n3018]))] H := hP
      have hD : va_D A [(n3016, .inl (cy 1, 4, .inl (upd (upd (upd (upd (fun _ => 0) 0 (-1)) 1 (-1)) 2 (-1)) 3 (-1)))), (n3900, .inr (12, [.ref n3000, .ref n3001, .ref n3002, .ref n3003, .int 1, .ref n3004, .int 0, .int 0, .int 0, .int 0, .int 0, .int 0, .int 0, .int 0, .int 0, .int (-1), .int 0, .ref n3005, .ref n3006, .int 0, .ref n3007, .ref n3008, .int 0, .int 0, .int 0, .int 0, .int 0, .int 0, .int 0, .ref n3009, .ref n3010, .int 0, .int 0, .ref n3011, .ref n3012, .int 0, .int 0, .ref n3013, .ref n3014, .ref n3015, .int 0, .ref n3016, .ref n3017, .ref n3018]))] := hD
      refine lv_iload hx hb dL_law_2279 (lv_at hl 1 rfl) ?_
      refine lv_icmp_eq (tgt := 2286) hx hb dL_law_2281 (by decide +kernel) (fun _ => ?_) (fun h => absurd (by decide +kernel) h)
      refine lv_iload hx hb dL_law_2286 (lv_at hl 1 rfl) ?_
      refine lv_if_ne (tgt := 2302) hx hb dL_law_2288 (by decide +kernel) (fun _ => ?_) (fun h => absurd h (by decide +kernel))
      refine lv_goto (tgt := 2458) hx hb dL_law_2302 (by decide +kernel) ?_
      refine lv_iinc (v := 6) (lv' := [(4, .int 6), (6, .long 0), (5, .int 1), (3, .ref n5000), (2, .ref n3900), (1, .ref n1900), (0, .ref b)]) hx hb dL_law_2458 hl (k := 2) rfl (by decide) (by decide +kernel) rfl (fun ls hl => ?_)
      refine lv_goto (tgt := 23) hx hb dL_law_2461 (by decide +kernel) ?_
      refine lv_iload hx hb dL_law_23 (lv_at hl 0 rfl) ?_
      refine lv_aload_n hx hb dL_law_25 rfl (lv_at hl 6 rfl) ?_
      refine va_slen hx hb hX hbl hbA hS dL_law_26 ?_
      refine top_i (v := 6) rfl ?_
      refine lv_bipush (v := 6) hx hb dL_law_27 (by decide +kernel) ?_
      refine lv_isub hx hb dL_law_29 ?_
      refine top_i (v := 0) (by decide +kernel) ?_
      refine lv_icmp_gt (tgt := 2464) hx hb dL_law_30 (by decide +kernel) (fun _ => ?_) (fun h => absurd (by decide +kernel) h)
      refine lv_iconst (v := 1) hx hb dL_law_2464 (by decide +kernel) ?_
      refine va_forget (fun q hq => hAq _ (hS.2.2 q hq)) ?_
      refine W.widen (k := 600002) (n := 7302232) (by decide +kernel) (by decide +kernel) ?_
      exact lw_ret hx hb hr hlk dL_law_2465
    · exact (no_b (lo_nlt c800004) (up_nlt_w c800041) (by decide +kernel)).elim
    · exact (no_b (lo_nlt c800004) (up_nlt_w c800044) (by decide +kernel)).elim
    · exact (no_b (lo_nlt c800004) (up_nlt_w c800047) (by decide +kernel)).elim
    · exact (no_b (lo_nlt c800004) (up_nlt_w c800050) (by decide +kernel)).elim
  · subst c800007
    have hP : va_P D vwCl [(n3900, .inr (12, [.ref n3000, .ref n3001, .ref n3002, .ref n3003, .int 0, .ref n3004, .int 0, .int 0, .int 0, .int 0, .int 0, .int 0, .int 0, .int 0, .int 0, .int (-1), .int 0, .ref n3005, .ref n3006, .int 0, .ref n3007, .ref n3008, .int 0, .int 0, .int 0, .int 0, .int 0, .int 0, .int 0, .ref n3009, .ref n3010, .int 0, .int 0, .ref n3011, .ref n3012, .int 0, .int 0, .ref n3013, .ref n3014, .ref n3015, .int 0, .ref n3016, .ref n3017, .ref n3018])), (n3016, .inl (cy 1, 4, .inl (upd (upd (upd (upd (fun _ => 0) 0 (-1)) 1 (-1)) 2 (-1)) 3 (-1))))] H := hP
    have hD : va_D A [(n3900, .inr (12, [.ref n3000, .ref n3001, .ref n3002, .ref n3003, .int 0, .ref n3004, .int 0, .int 0, .int 0, .int 0, .int 0, .int 0, .int 0, .int 0, .int 0, .int (-1), .int 0, .ref n3005, .ref n3006, .int 0, .ref n3007, .ref n3008, .int 0, .int 0, .int 0, .int 0, .int 0, .int 0, .int 0, .ref n3009, .ref n3010, .int 0, .int 0, .ref n3011, .ref n3012, .int 0, .int 0, .ref n3013, .ref n3014, .ref n3015, .int 0, .ref n3016, .ref n3017, .ref n3018])), (n3016, .inl (cy 1, 4, .inl (upd (upd (upd (upd (fun _ => 0) 0 (-1)) 1 (-1)) 2 (-1)) 3 (-1))))] := hD
    refine lv_istore (lv' := [(5, .int 2), (4, .int 0), (3, .ref n5000), (2, .ref n3900), (1, .ref n1900), (0, .ref b)]) hx hb dL_law_2233 hl (by decide +kernel) rfl (fun ls hl => ?_)
    refine lv_aload_n hx hb dL_law_2235 rfl (lv_at hl 3 rfl) ?_
    refine lv_aload_n hx hb dL_law_2236 rfl (lv_at hl 5 rfl) ?_
    refine lv_iload hx hb dL_law_2237 (lv_at hl 1 rfl) ?_
    refine lv_iconst (v := 1) hx hb dL_law_2239 (by decide +kernel) ?_
    refine lv_iadd hx hb dL_law_2240 ?_
    refine top_i (v := 1) (by decide +kernel) ?_
    refine va_sld hx hb hX hbl hbA hS (i := 1) (vin (by decide +kernel)) dL_law_2241 ?_
    refine top_i (v := 0) ez1 ?_
    refine lv_aload_n hx hb dL_law_2242 rfl (lv_at hl 5 rfl) ?_
    refine lv_iload hx hb dL_law_2243 (lv_at hl 1 rfl) ?_
    refine lv_iconst (v := 2) hx hb dL_law_2245 (by decide +kernel) ?_
    refine lv_iadd hx hb dL_law_2246 ?_
    refine top_i (v := 2) (by decide +kernel) ?_
    refine va_sld hx hb hX hbl hbA hS (i := 2) (vin (by decide +kernel)) dL_law_2247 ?_
    refine top_i (v := z2) ez2 ?_
    refine lv_aload_n hx hb dL_law_2248 rfl (lv_at hl 5 rfl) ?_
    refine lv_iload hx hb dL_law_2249 (lv_at hl 1 rfl) ?_
    refine lv_iconst (v := 3) hx hb dL_law_2251 (by decide +kernel) ?_
    refine lv_iadd hx hb dL_law_2252 ?_
    refine top_i (v := 3) (by decide +kernel) ?_
    refine va_sld hx hb hX hbl hbA hS (i := 3) (vin (by decide +kernel)) dL_law_2253 ?_
    refine top_i (v := z3) ez3 ?_
    refine lv_i2l hx hb dL_law_2254 rfl ?_
    refine lv_bipush (v := 32) hx hb dL_law_2255 (by decide +kernel) ?_
    refine lv_lshl hx hb dL_law_2257 rfl ?_
    refine lv_topl (fun v800055 _ => ?_)
    refine lv_aload_n hx hb dL_law_2258 rfl (lv_at hl 5 rfl) ?_
    refine lv_iload hx hb dL_law_2259 (lv_at hl 1 rfl) ?_
    refine lv_iconst (v := 4) hx hb dL_law_2261 (by decide +kernel) ?_
    refine lv_iadd hx hb dL_law_2262 ?_
    refine top_i (v := 4) (by decide +kernel) ?_
    refine va_sld hx hb hX hbl hbA hS (i := 4) (vin (by decide +kernel)) dL_law_2263 ?_
    refine top_i (v := z4) ez4 ?_
    refine lv_i2l hx hb dL_law_2264 rfl ?_
    refine lv_ldc2 (v := 4294967295) hx hb hown (hts _ lm_1877) dL_law_2265 ?_
    refine lv_land hx hb dL_law_2268 ?_
    refine lv_lor hx hb dL_law_2269 ?_
    refine call_l (av := [.ref n3900, .int 0, .int z2, .long (v800055 ||| (z4.toInt64 &&& 4294967295))]) F hP hD hS [(n3900, .inr (12, [.ref n3000, .ref n3001, .ref n3002, .ref n3003, .int 0, .ref n3004, .int 0, .int 0, .int 0, .int 0, .int 0, .int 0, .int 0, .int 0, .int 0, .int (-1), .int 0, .ref n3005, .ref n3006, .int 0, .ref n3007, .ref n3008, .int 0, .int 0, .int 0, .int 0, .int 0, .int 0, .int 0, .ref n3009, .ref n3010, .int 0, .int 0, .ref n3011, .ref n3012, .int 0, .int 0, .ref n3013, .ref n3014, .ref n3015, .int 0, .ref n3016, .ref n3017, .ref n3018])), (n3016, .inl (cy 1, 4, .inl (upd (upd (upd (upd (fun _ => 0) 0 (-1)) 1 (-1)) 2 (-1)) 3 (-1))))] [] [0, 1] [] rfl rfl (by decide +kernel) (fun pr => va_runV (As := [.int 0, .int z2, .long (v800055 ||| (z4.toInt64 &&& 4294967295))]) (rest := []) ⟨hx, hb, hml, hown, hts⟩ (k209_X12_write l D cy H.size n3900 0 z2 ((v800055 ||| (z4.toInt64 &&& 4294967295))) n3016 n3000 n3001 n3002 n3003 n3004 n3005 n3006 n3007 n3008 n3009 n3010 n3011 n3012 n3013 n3014 n3015 n3017 n3018) (cwV 3 hts gw_X12_write rfl rfl rfl (by decide +kernel) ⟨(by decide +kernel), (by decide +kernel)⟩) ⟨pr.1, va_recv hK hP (ci := 12) (q0 := 0) rfl rfl, pr.2⟩ rfl rfl hl.1 rfl (lv_room (Nat.le_of_ble_eq_true rfl)) dL_law_2270 ⟨(by decide +kernel), (by decide +kernel)⟩) (fun r u H locs hw hP hD hS => ?_)
    rcases hw with ⟨c800056, rfl, rfl⟩ | ⟨c800057, c800058, rfl, rfl⟩ | ⟨c800059, c800060, c800061, rfl, rfl⟩ | ⟨c800062, c800063, c800064, rfl, rfl⟩ | ⟨c800065, c800066, c800067, rfl, rfl⟩ | ⟨c800068, c800069, c800070, rfl, rfl⟩
    · exact absurd c800056 (by decide +kernel)
    · exact absurd c800058 (by decide +kernel)
    · have hP : va_P D vwCl [(n3900, .inr (12, [.ref n3000, .ref n3001, .ref n3002, .ref n3003, .int 2, .ref n3004, .int 0, .int 0, .int 0, .int 0, .int 0, .int 0, .int 0, .int 0, .int 0, .int (-1), .int 0, .ref n3005, .ref n3006, .int 0, .ref n3007, .ref n3008, .int 0, .int 0, .int 0, .int 0, .int 0, .int 0, .int 0, .ref n3009, .ref n3010, .int 0, .int 0, .ref n3011, .ref n3012, .int 0, .int 0, .ref n3013, .ref n3014, .ref n3015, .int 0, .ref n3016, .ref n3017, .ref n3018])), (n3016, .inl (cy 1, 4, .inl (upd (upd (upd (upd (fun _ => 0) 0 (-1)) 1 (-1)) 2 (-1)) 3 (-1))))] H := hP
      have hD : va_D A [(n3900, .inr (12, [.ref n3000, .ref n3001, .ref n3002, .ref n3003, .int 2, .ref n3004, .int 0, .int 0, .int 0, .int 0, .int 0, .int 0, .int 0, .int 0, .int 0, .int (-1), .int 0, .ref n3005, .ref n3006, .int 0, .ref n3007, .ref n3008, .int 0, .int 0, .int 0, .int 0, .int 0, .int 0, .int 0, .ref n3009, .ref n3010, .int 0, .int 0, .ref n3011, .ref n3012, .int 0, .int 0, .ref n3013, .ref n3014, .ref n3015, .int 0, .ref n3016, .ref n3017, .ref n3018])), (n3016, .inl (cy 1, 4, .inl (upd (upd (upd (upd (fun _ => 0) 0 (-1)) 1 (-1)) 2 (-1)) 3 (-1))))] := hD
      refine lv_lstore (lv' := [(6, .long 0), (5, .int 2), (4, .int 0), (3, .ref n5000), (2, .ref n3900), (1, .ref n1900), (0, .ref b)]) hx hb dL_law_2273 hl (by decide +kernel) rfl (fun ls hl => ?_)
      refine lv_aload_n hx hb dL_law_2275 rfl (lv_at hl 4 rfl) ?_
      refine call_i (av := [.ref n3900]) F hP hD hS [(n3900, .inr (12, [.ref n3000, .ref n3001, .ref n3002, .ref n3003, .int 2, .ref n3004, .int 0, .int 0, .int 0, .int 0, .int 0, .int 0, .int 0, .int 0, .int 0, .int (-1), .int 0, .ref n3005, .ref n3006, .int 0, .ref n3007, .ref n3008, .int 0, .int 0, .int 0, .int 0, .int 0, .int 0, .int 0, .ref n3009, .ref n3010, .int 0, .int 0, .ref n3011, .ref n3012, .int 0, .int 0, .ref n3013, .ref n3014, .ref n3015, .int 0, .ref n3016, .ref n3017, .ref n3018]))] [(n3016, .inl (cy 1, 4, .inl (upd (upd (upd (upd (fun _ => 0) 0 (-1)) 1 (-1)) 2 (-1)) 3 (-1))))] [0] [1] rfl rfl (by decide +kernel) (fun pr => va_runV (As := []) (rest := []) ⟨hx, hb, hml, hown, hts⟩ (k335_X12_thrown l D cy H.size n3900 n3000 n3001 n3002 n3003 n3004 n3005 n3006 n3007 n3008 n3009 n3010 n3011 n3012 n3013 n3014 n3015 n3016 n3017 n3018) (cwV 0 hts gw_X12_thrown rfl rfl rfl (by decide +kernel) ⟨(by decide +kernel), (by decide +kernel)⟩) ⟨pr.1, va_recv hK hP (ci := 12) (q0 := 0) rfl rfl, pr.2⟩ rfl rfl hl.1 rfl (lv_room (Nat.le_of_ble_eq_true rfl)) dL_law_2276 ⟨(by decide +kernel), (by decide +kernel)⟩) (fun r u H locs hw hP hD hS => ?_)
      rcases hw with ⟨rfl, rfl⟩
      have hP : va_P D vwCl [(n3016, .inl (cy 1, 4, .inl (upd (upd (upd (upd (fun _ => 0) 0 (-1)) 1 (-1)) 2 (-1)) 3 (-1)))), (n3900, .inr (12, [.ref n3000, .ref n3001, .ref n3002, .ref n3003, .int 2, .ref n3004, .int 0, .int 0, .int 0, .int 0, .int 0, .int 0, .int 0, .int 0, .int 0, .int (-1), .int 0, .ref n3005, .ref n3006, .int 0, .ref n3007, .ref n3008, .int 0, .int 0, .int 0, .int 0, .int 0, .int 0, .int 0, .ref n3009, .ref n3010, .int 0, .int 0, .ref n3011, .ref n3012, .int 0, .int 0, .ref n3013, .ref n3014, .ref n3015, .int 0, .ref n3016, .ref n3017, .ref n3018]))] H := hP
      have hD : va_D A [(n3016, .inl (cy 1, 4, .inl (upd (upd (upd (upd (fun _ => 0) 0 (-1)) 1 (-1)) 2 (-1)) 3 (-1)))), (n3900, .inr (12, [.ref n3000, .ref n3001, .ref n3002, .ref n3003, .int 2, .ref n3004, .int 0, .int 0, .int 0, .int 0, .int 0, .int 0, .int 0, .int 0, .int 0, .int (-1), .int 0, .ref n3005, .ref n3006, .int 0, .ref n3007, .ref n3008, .int 0, .int 0, .int 0, .int 0, .int 0, .int 0, .int 0, .ref n3009, .ref n3010, .int 0, .int 0, .ref n3011, .ref n3012, .int 0, .int 0, .ref n3013, .ref n3014, .ref n3015, .int 0, .ref n3016, .ref n3017, .ref n3018]))] := hD
      refine lv_iload hx hb dL_law_2279 (lv_at hl 1 rfl) ?_
      refine lv_icmp_eq (tgt := 2286) hx hb dL_law_2281 (by decide +kernel) (fun _ => ?_) (fun h => absurd (by decide +kernel) h)
      refine lv_iload hx hb dL_law_2286 (lv_at hl 1 rfl) ?_
      refine lv_if_ne (tgt := 2302) hx hb dL_law_2288 (by decide +kernel) (fun _ => ?_) (fun h => absurd h (by decide +kernel))
      refine lv_goto (tgt := 2458) hx hb dL_law_2302 (by decide +kernel) ?_
      refine lv_iinc (v := 6) (lv' := [(4, .int 6), (6, .long 0), (5, .int 2), (3, .ref n5000), (2, .ref n3900), (1, .ref n1900), (0, .ref b)]) hx hb dL_law_2458 hl (k := 2) rfl (by decide) (by decide +kernel) rfl (fun ls hl => ?_)
      refine lv_goto (tgt := 23) hx hb dL_law_2461 (by decide +kernel) ?_
      refine lv_iload hx hb dL_law_23 (lv_at hl 0 rfl) ?_
      refine lv_aload_n hx hb dL_law_25 rfl (lv_at hl 6 rfl) ?_
      refine va_slen hx hb hX hbl hbA hS dL_law_26 ?_
      refine top_i (v := 6) rfl ?_
      refine lv_bipush (v := 6) hx hb dL_law_27 (by decide +kernel) ?_
      refine lv_isub hx hb dL_law_29 ?_
      refine top_i (v := 0) (by decide +kernel) ?_
      refine lv_icmp_gt (tgt := 2464) hx hb dL_law_30 (by decide +kernel) (fun _ => ?_) (fun h => absurd (by decide +kernel) h)
      refine lv_iconst (v := 1) hx hb dL_law_2464 (by decide +kernel) ?_
      refine va_forget (fun q hq => hAq _ (hS.2.2 q hq)) ?_
      refine W.widen (k := 600002) (n := 7302232) (by decide +kernel) (by decide +kernel) ?_
      exact lw_ret hx hb hr hlk dL_law_2465
    · exact absurd c800064 (by decide +kernel)
    · exact absurd c800067 (by decide +kernel)
    · exact absurd c800070 (by decide +kernel)
  · subst c800010
    have hP : va_P D vwCl [(n3900, .inr (12, [.ref n3000, .ref n3001, .ref n3002, .ref n3003, .int 0, .ref n3004, .int 0, .int 0, .int 0, .int 0, .int 0, .int 0, .int 0, .int 0, .int 0, .int (-1), .int 0, .ref n3005, .ref n3006, .int 0, .ref n3007, .ref n3008, .int 0, .int 0, .int 0, .int 0, .int 0, .int 0, .int 0, .ref n3009, .ref n3010, .int 0, .int 0, .ref n3011, .ref n3012, .int 0, .int 0, .ref n3013, .ref n3014, .ref n3015, .int 0, .ref n3016, .ref n3017, .ref n3018])), (n3016, .inl (cy 1, 4, .inl (upd (upd (upd (upd (fun _ => 0) 0 (-1)) 1 (-1)) 2 (-1)) 3 (-1))))] H := hP
    have hD : va_D A [(n3900, .inr (12, [.ref n3000, .ref n3001, .ref n3002, .ref n3003, .int 0, .ref n3004, .int 0, .int 0, .int 0, .int 0, .int 0, .int 0, .int 0, .int 0, .int 0, .int (-1), .int 0, .ref n3005, .ref n3006, .int 0, .ref n3007, .ref n3008, .int 0, .int 0, .int 0, .int 0, .int 0, .int 0, .int 0, .ref n3009, .ref n3010, .int 0, .int 0, .ref n3011, .ref n3012, .int 0, .int 0, .ref n3013, .ref n3014, .ref n3015, .int 0, .ref n3016, .ref n3017, .ref n3018])), (n3016, .inl (cy 1, 4, .inl (upd (upd (upd (upd (fun _ => 0) 0 (-1)) 1 (-1)) 2 (-1)) 3 (-1))))] := hD
    refine lv_istore (lv' := [(5, .int 2), (4, .int 0), (3, .ref n5000), (2, .ref n3900), (1, .ref n1900), (0, .ref b)]) hx hb dL_law_2233 hl (by decide +kernel) rfl (fun ls hl => ?_)
    refine lv_aload_n hx hb dL_law_2235 rfl (lv_at hl 3 rfl) ?_
    refine lv_aload_n hx hb dL_law_2236 rfl (lv_at hl 5 rfl) ?_
    refine lv_iload hx hb dL_law_2237 (lv_at hl 1 rfl) ?_
    refine lv_iconst (v := 1) hx hb dL_law_2239 (by decide +kernel) ?_
    refine lv_iadd hx hb dL_law_2240 ?_
    refine top_i (v := 1) (by decide +kernel) ?_
    refine va_sld hx hb hX hbl hbA hS (i := 1) (vin (by decide +kernel)) dL_law_2241 ?_
    refine top_i (v := 1) ez1 ?_
    refine lv_aload_n hx hb dL_law_2242 rfl (lv_at hl 5 rfl) ?_
    refine lv_iload hx hb dL_law_2243 (lv_at hl 1 rfl) ?_
    refine lv_iconst (v := 2) hx hb dL_law_2245 (by decide +kernel) ?_
    refine lv_iadd hx hb dL_law_2246 ?_
    refine top_i (v := 2) (by decide +kernel) ?_
    refine va_sld hx hb hX hbl hbA hS (i := 2) (vin (by decide +kernel)) dL_law_2247 ?_
    refine top_i (v := z2) ez2 ?_
    refine lv_aload_n hx hb dL_law_2248 rfl (lv_at hl 5 rfl) ?_
    refine lv_iload hx hb dL_law_2249 (lv_at hl 1 rfl) ?_
    refine lv_iconst (v := 3) hx hb dL_law_2251 (by decide +kernel) ?_
    refine lv_iadd hx hb dL_law_2252 ?_
    refine top_i (v := 3) (by decide +kernel) ?_
    refine va_sld hx hb hX hbl hbA hS (i := 3) (vin (by decide +kernel)) dL_law_2253 ?_
    refine top_i (v := z3) ez3 ?_
    refine lv_i2l hx hb dL_law_2254 rfl ?_
    refine lv_bipush (v := 32) hx hb dL_law_2255 (by decide +kernel) ?_
    refine lv_lshl hx hb dL_law_2257 rfl ?_
    refine lv_topl (fun v800074 _ => ?_)
    refine lv_aload_n hx hb dL_law_2258 rfl (lv_at hl 5 rfl) ?_
    refine lv_iload hx hb dL_law_2259 (lv_at hl 1 rfl) ?_
    refine lv_iconst (v := 4) hx hb dL_law_2261 (by decide +kernel) ?_
    refine lv_iadd hx hb dL_law_2262 ?_
    refine top_i (v := 4) (by decide +kernel) ?_
    refine va_sld hx hb hX hbl hbA hS (i := 4) (vin (by decide +kernel)) dL_law_2263 ?_
    refine top_i (v := z4) ez4 ?_
    refine lv_i2l hx hb dL_law_2264 rfl ?_
    refine lv_ldc2 (v := 4294967295) hx hb hown (hts _ lm_1877) dL_law_2265 ?_
    refine lv_land hx hb dL_law_2268 ?_
    refine lv_lor hx hb dL_law_2269 ?_
    refine call_l (av := [.ref n3900, .int 1, .int z2, .long (v800074 ||| (z4.toInt64 &&& 4294967295))]) F hP hD hS [(n3900, .inr (12, [.ref n3000, .ref n3001, .ref n3002, .ref n3003, .int 0, .ref n3004, .int 0, .int 0, .int 0, .int 0, .int 0, .int 0, .int 0, .int 0, .int 0, .int (-1), .int 0, .ref n3005, .ref n3006, .int 0, .ref n3007, .ref n3008, .int 0, .int 0, .int 0, .int 0, .int 0, .int 0, .int 0, .ref n3009, .ref n3010, .int 0, .int 0, .ref n3011, .ref n3012, .int 0, .int 0, .ref n3013, .ref n3014, .ref n3015, .int 0, .ref n3016, .ref n3017, .ref n3018])), (n3016, .inl (cy 1, 4, .inl (upd (upd (upd (upd (fun _ => 0) 0 (-1)) 1 (-1)) 2 (-1)) 3 (-1))))] [] [0, 1] [] rfl rfl (by decide +kernel) (fun pr => va_runV (As := [.int 1, .int z2, .long (v800074 ||| (z4.toInt64 &&& 4294967295))]) (rest := []) ⟨hx, hb, hml, hown, hts⟩ (k209_X12_write l D cy H.size n3900 1 z2 ((v800074 ||| (z4.toInt64 &&& 4294967295))) n3016 n3000 n3001 n3002 n3003 n3004 n3005 n3006 n3007 n3008 n3009 n3010 n3011 n3012 n3013 n3014 n3015 n3017 n3018) (cwV 3 hts gw_X12_write rfl rfl rfl (by decide +kernel) ⟨(by decide +kernel), (by decide +kernel)⟩) ⟨pr.1, va_recv hK hP (ci := 12) (q0 := 0) rfl rfl, pr.2⟩ rfl rfl hl.1 rfl (lv_room (Nat.le_of_ble_eq_true rfl)) dL_law_2270 ⟨(by decide +kernel), (by decide +kernel)⟩) (fun r u H locs hw hP hD hS => ?_)
    rcases hw with ⟨c800075, rfl, rfl⟩ | ⟨c800076, c800077, rfl, rfl⟩ | ⟨c800078, c800079, c800080, rfl, rfl⟩ | ⟨c800081, c800082, c800083, rfl, rfl⟩ | ⟨c800084, c800085, c800086, rfl, rfl⟩ | ⟨c800087, c800088, c800089, rfl, rfl⟩
    · exact absurd c800075 (by decide +kernel)
    · exact absurd c800077 (by decide +kernel)
    · exact absurd c800080 (by decide +kernel)
    · have hP : va_P D vwCl [(n3900, .inr (12, [.ref n3000, .ref n3001, .ref n3002, .ref n3003, .int 2, .ref n3004, .int 0, .int 0, .int 0, .int 0, .int 0, .int 0, .int 0, .int 0, .int 0, .int (-1), .int 0, .ref n3005, .ref n3006, .int 0, .ref n3007, .ref n3008, .int 0, .int 0, .int 0, .int 0, .int 0, .int 0, .int 0, .ref n3009, .ref n3010, .int 0, .int 0, .ref n3011, .ref n3012, .int 0, .int 0, .ref n3013, .ref n3014, .ref n3015, .int 0, .ref n3016, .ref n3017, .ref n3018])), (n3016, .inl (cy 1, 4, .inl (upd (upd (upd (upd (fun _ => 0) 0 (-1)) 1 (-1)) 2 (-1)) 3 (-1))))] H := hP
      have hD : va_D A [(n3900, .inr (12, [.ref n3000, .ref n3001, .ref n3002, .ref n3003, .int 2, .ref n3004, .int 0, .int 0, .int 0, .int 0, .int 0, .int 0, .int 0, .int 0, .int 0, .int (-1), .int 0, .ref n3005, .ref n3006, .int 0, .ref n3007, .ref n3008, .int 0, .int 0, .int 0, .int 0, .int 0, .int 0, .int 0, .ref n3009, .ref n3010, .int 0, .int 0, .ref n3011, .ref n3012, .int 0, .int 0, .ref n3013, .ref n3014, .ref n3015, .int 0, .ref n3016, .ref n3017, .ref n3018])), (n3016, .inl (cy 1, 4, .inl (upd (upd (upd (upd (fun _ => 0) 0 (-1)) 1 (-1)) 2 (-1)) 3 (-1))))] := hD
      refine lv_lstore (lv' := [(6, .long 0), (5, .int 2), (4, .int 0), (3, .ref n5000), (2, .ref n3900), (1, .ref n1900), (0, .ref b)]) hx hb dL_law_2273 hl (by decide +kernel) rfl (fun ls hl => ?_)
      refine lv_aload_n hx hb dL_law_2275 rfl (lv_at hl 4 rfl) ?_
      refine call_i (av := [.ref n3900]) F hP hD hS [(n3900, .inr (12, [.ref n3000, .ref n3001, .ref n3002, .ref n3003, .int 2, .ref n3004, .int 0, .int 0, .int 0, .int 0, .int 0, .int 0, .int 0, .int 0, .int 0, .int (-1), .int 0, .ref n3005, .ref n3006, .int 0, .ref n3007, .ref n3008, .int 0, .int 0, .int 0, .int 0, .int 0, .int 0, .int 0, .ref n3009, .ref n3010, .int 0, .int 0, .ref n3011, .ref n3012, .int 0, .int 0, .ref n3013, .ref n3014, .ref n3015, .int 0, .ref n3016, .ref n3017, .ref n3018]))] [(n3016, .inl (cy 1, 4, .inl (upd (upd (upd (upd (fun _ => 0) 0 (-1)) 1 (-1)) 2 (-1)) 3 (-1))))] [0] [1] rfl rfl (by decide +kernel) (fun pr => va_runV (As := []) (rest := []) ⟨hx, hb, hml, hown, hts⟩ (k335_X12_thrown l D cy H.size n3900 n3000 n3001 n3002 n3003 n3004 n3005 n3006 n3007 n3008 n3009 n3010 n3011 n3012 n3013 n3014 n3015 n3016 n3017 n3018) (cwV 0 hts gw_X12_thrown rfl rfl rfl (by decide +kernel) ⟨(by decide +kernel), (by decide +kernel)⟩) ⟨pr.1, va_recv hK hP (ci := 12) (q0 := 0) rfl rfl, pr.2⟩ rfl rfl hl.1 rfl (lv_room (Nat.le_of_ble_eq_true rfl)) dL_law_2276 ⟨(by decide +kernel), (by decide +kernel)⟩) (fun r u H locs hw hP hD hS => ?_)
      rcases hw with ⟨rfl, rfl⟩
      have hP : va_P D vwCl [(n3016, .inl (cy 1, 4, .inl (upd (upd (upd (upd (fun _ => 0) 0 (-1)) 1 (-1)) 2 (-1)) 3 (-1)))), (n3900, .inr (12, [.ref n3000, .ref n3001, .ref n3002, .ref n3003, .int 2, .ref n3004, .int 0, .int 0, .int 0, .int 0, .int 0, .int 0, .int 0, .int 0, .int 0, .int (-1), .int 0, .ref n3005, .ref n3006, .int 0, .ref n3007, .ref n3008, .int 0, .int 0, .int 0, .int 0, .int 0, .int 0, .int 0, .ref n3009, .ref n3010, .int 0, .int 0, .ref n3011, .ref n3012, .int 0, .int 0, .ref n3013, .ref n3014, .ref n3015, .int 0, .ref n3016, .ref n3017, .ref n3018]))] H := hP
      have hD : va_D A [(n3016, .inl (cy 1, 4, .inl (upd (upd (upd (upd (fun _ => 0) 0 (-1)) 1 (-1)) 2 (-1)) 3 (-1)))), (n3900, .inr (12, [.ref n3000, .ref n3001, .ref n3002, .ref n3003, .int 2, .ref n3004, .int 0, .int 0, .int 0, .int 0, .int 0, .int 0, .int 0, .int 0, .int 0, .int (-1), .int 0, .ref n3005, .ref n3006, .int 0, .ref n3007, .ref n3008, .int 0, .int 0, .int 0, .int 0, .int 0, .int 0, .int 0, .ref n3009, .ref n3010, .int 0, .int 0, .ref n3011, .ref n3012, .int 0, .int 0, .ref n3013, .ref n3014, .ref n3015, .int 0, .ref n3016, .ref n3017, .ref n3018]))] := hD
      refine lv_iload hx hb dL_law_2279 (lv_at hl 1 rfl) ?_
      refine lv_icmp_eq (tgt := 2286) hx hb dL_law_2281 (by decide +kernel) (fun _ => ?_) (fun h => absurd (by decide +kernel) h)
      refine lv_iload hx hb dL_law_2286 (lv_at hl 1 rfl) ?_
      refine lv_if_ne (tgt := 2302) hx hb dL_law_2288 (by decide +kernel) (fun _ => ?_) (fun h => absurd h (by decide +kernel))
      refine lv_goto (tgt := 2458) hx hb dL_law_2302 (by decide +kernel) ?_
      refine lv_iinc (v := 6) (lv' := [(4, .int 6), (6, .long 0), (5, .int 2), (3, .ref n5000), (2, .ref n3900), (1, .ref n1900), (0, .ref b)]) hx hb dL_law_2458 hl (k := 2) rfl (by decide) (by decide +kernel) rfl (fun ls hl => ?_)
      refine lv_goto (tgt := 23) hx hb dL_law_2461 (by decide +kernel) ?_
      refine lv_iload hx hb dL_law_23 (lv_at hl 0 rfl) ?_
      refine lv_aload_n hx hb dL_law_25 rfl (lv_at hl 6 rfl) ?_
      refine va_slen hx hb hX hbl hbA hS dL_law_26 ?_
      refine top_i (v := 6) rfl ?_
      refine lv_bipush (v := 6) hx hb dL_law_27 (by decide +kernel) ?_
      refine lv_isub hx hb dL_law_29 ?_
      refine top_i (v := 0) (by decide +kernel) ?_
      refine lv_icmp_gt (tgt := 2464) hx hb dL_law_30 (by decide +kernel) (fun _ => ?_) (fun h => absurd (by decide +kernel) h)
      refine lv_iconst (v := 1) hx hb dL_law_2464 (by decide +kernel) ?_
      refine va_forget (fun q hq => hAq _ (hS.2.2 q hq)) ?_
      refine W.widen (k := 600002) (n := 7302232) (by decide +kernel) (by decide +kernel) ?_
      exact lw_ret hx hb hr hlk dL_law_2465
    · exact absurd c800086 (by decide +kernel)
    · exact absurd c800089 (by decide +kernel)
  · subst c800013
    have hP : va_P D vwCl [(n3900, .inr (12, [.ref n3000, .ref n3001, .ref n3002, .ref n3003, .int 0, .ref n3004, .int 0, .int 0, .int 0, .int 0, .int 0, .int 0, .int 0, .int 0, .int 0, .int (-1), .int 0, .ref n3005, .ref n3006, .int 0, .ref n3007, .ref n3008, .int 0, .int 0, .int 0, .int 0, .int 0, .int 0, .int 0, .ref n3009, .ref n3010, .int 0, .int 0, .ref n3011, .ref n3012, .int 0, .int 0, .ref n3013, .ref n3014, .ref n3015, .int 0, .ref n3016, .ref n3017, .ref n3018])), (n3016, .inl (cy 1, 4, .inl (upd (upd (upd (upd (fun _ => 0) 0 (-1)) 1 (-1)) 2 (-1)) 3 (-1))))] H := hP
    have hD : va_D A [(n3900, .inr (12, [.ref n3000, .ref n3001, .ref n3002, .ref n3003, .int 0, .ref n3004, .int 0, .int 0, .int 0, .int 0, .int 0, .int 0, .int 0, .int 0, .int 0, .int (-1), .int 0, .ref n3005, .ref n3006, .int 0, .ref n3007, .ref n3008, .int 0, .int 0, .int 0, .int 0, .int 0, .int 0, .int 0, .ref n3009, .ref n3010, .int 0, .int 0, .ref n3011, .ref n3012, .int 0, .int 0, .ref n3013, .ref n3014, .ref n3015, .int 0, .ref n3016, .ref n3017, .ref n3018])), (n3016, .inl (cy 1, 4, .inl (upd (upd (upd (upd (fun _ => 0) 0 (-1)) 1 (-1)) 2 (-1)) 3 (-1))))] := hD
    refine lv_istore (lv' := [(5, .int 2), (4, .int 0), (3, .ref n5000), (2, .ref n3900), (1, .ref n1900), (0, .ref b)]) hx hb dL_law_2233 hl (by decide +kernel) rfl (fun ls hl => ?_)
    refine lv_aload_n hx hb dL_law_2235 rfl (lv_at hl 3 rfl) ?_
    refine lv_aload_n hx hb dL_law_2236 rfl (lv_at hl 5 rfl) ?_
    refine lv_iload hx hb dL_law_2237 (lv_at hl 1 rfl) ?_
    refine lv_iconst (v := 1) hx hb dL_law_2239 (by decide +kernel) ?_
    refine lv_iadd hx hb dL_law_2240 ?_
    refine top_i (v := 1) (by decide +kernel) ?_
    refine va_sld hx hb hX hbl hbA hS (i := 1) (vin (by decide +kernel)) dL_law_2241 ?_
    refine top_i (v := 2) ez1 ?_
    refine lv_aload_n hx hb dL_law_2242 rfl (lv_at hl 5 rfl) ?_
    refine lv_iload hx hb dL_law_2243 (lv_at hl 1 rfl) ?_
    refine lv_iconst (v := 2) hx hb dL_law_2245 (by decide +kernel) ?_
    refine lv_iadd hx hb dL_law_2246 ?_
    refine top_i (v := 2) (by decide +kernel) ?_
    refine va_sld hx hb hX hbl hbA hS (i := 2) (vin (by decide +kernel)) dL_law_2247 ?_
    refine top_i (v := z2) ez2 ?_
    refine lv_aload_n hx hb dL_law_2248 rfl (lv_at hl 5 rfl) ?_
    refine lv_iload hx hb dL_law_2249 (lv_at hl 1 rfl) ?_
    refine lv_iconst (v := 3) hx hb dL_law_2251 (by decide +kernel) ?_
    refine lv_iadd hx hb dL_law_2252 ?_
    refine top_i (v := 3) (by decide +kernel) ?_
    refine va_sld hx hb hX hbl hbA hS (i := 3) (vin (by decide +kernel)) dL_law_2253 ?_
    refine top_i (v := z3) ez3 ?_
    refine lv_i2l hx hb dL_law_2254 rfl ?_
    refine lv_bipush (v := 32) hx hb dL_law_2255 (by decide +kernel) ?_
    refine lv_lshl hx hb dL_law_2257 rfl ?_
    refine lv_topl (fun v800093 _ => ?_)
    refine lv_aload_n hx hb dL_law_2258 rfl (lv_at hl 5 rfl) ?_
    refine lv_iload hx hb dL_law_2259 (lv_at hl 1 rfl) ?_
    refine lv_iconst (v := 4) hx hb dL_law_2261 (by decide +kernel) ?_
    refine lv_iadd hx hb dL_law_2262 ?_
    refine top_i (v := 4) (by decide +kernel) ?_
    refine va_sld hx hb hX hbl hbA hS (i := 4) (vin (by decide +kernel)) dL_law_2263 ?_
    refine top_i (v := z4) ez4 ?_
    refine lv_i2l hx hb dL_law_2264 rfl ?_
    refine lv_ldc2 (v := 4294967295) hx hb hown (hts _ lm_1877) dL_law_2265 ?_
    refine lv_land hx hb dL_law_2268 ?_
    refine lv_lor hx hb dL_law_2269 ?_
    refine call_l (av := [.ref n3900, .int 2, .int z2, .long (v800093 ||| (z4.toInt64 &&& 4294967295))]) F hP hD hS [(n3900, .inr (12, [.ref n3000, .ref n3001, .ref n3002, .ref n3003, .int 0, .ref n3004, .int 0, .int 0, .int 0, .int 0, .int 0, .int 0, .int 0, .int 0, .int 0, .int (-1), .int 0, .ref n3005, .ref n3006, .int 0, .ref n3007, .ref n3008, .int 0, .int 0, .int 0, .int 0, .int 0, .int 0, .int 0, .ref n3009, .ref n3010, .int 0, .int 0, .ref n3011, .ref n3012, .int 0, .int 0, .ref n3013, .ref n3014, .ref n3015, .int 0, .ref n3016, .ref n3017, .ref n3018])), (n3016, .inl (cy 1, 4, .inl (upd (upd (upd (upd (fun _ => 0) 0 (-1)) 1 (-1)) 2 (-1)) 3 (-1))))] [] [0, 1] [] rfl rfl (by decide +kernel) (fun pr => va_runV (As := [.int 2, .int z2, .long (v800093 ||| (z4.toInt64 &&& 4294967295))]) (rest := []) ⟨hx, hb, hml, hown, hts⟩ (k209_X12_write l D cy H.size n3900 2 z2 ((v800093 ||| (z4.toInt64 &&& 4294967295))) n3016 n3000 n3001 n3002 n3003 n3004 n3005 n3006 n3007 n3008 n3009 n3010 n3011 n3012 n3013 n3014 n3015 n3017 n3018) (cwV 3 hts gw_X12_write rfl rfl rfl (by decide +kernel) ⟨(by decide +kernel), (by decide +kernel)⟩) ⟨pr.1, va_recv hK hP (ci := 12) (q0 := 0) rfl rfl, pr.2⟩ rfl rfl hl.1 rfl (lv_room (Nat.le_of_ble_eq_true rfl)) dL_law_2270 ⟨(by decide +kernel), (by decide +kernel)⟩) (fun r u H locs hw hP hD hS => ?_)
    rcases hw with ⟨c800094, rfl, rfl⟩ | ⟨c800095, c800096, rfl, rfl⟩ | ⟨c800097, c800098, c800099, rfl, rfl⟩ | ⟨c800100, c800101, c800102, rfl, rfl⟩ | ⟨c800103, c800104, c800105, rfl, rfl⟩ | ⟨c800106, c800107, c800108, rfl, rfl⟩
    · exact absurd c800094 (by decide +kernel)
    · exact absurd c800096 (by decide +kernel)
    · exact absurd c800099 (by decide +kernel)
    · exact absurd c800102 (by decide +kernel)
    · have hP : va_P D vwCl [(n3900, .inr (12, [.ref n3000, .ref n3001, .ref n3002, .ref n3003, .int 2, .ref n3004, .int 0, .int 0, .int 0, .int 0, .int 0, .int 0, .int 0, .int 0, .int 0, .int (-1), .int 0, .ref n3005, .ref n3006, .int 0, .ref n3007, .ref n3008, .int 0, .int 0, .int 0, .int 0, .int 0, .int 0, .int 0, .ref n3009, .ref n3010, .int 0, .int 0, .ref n3011, .ref n3012, .int 0, .int 0, .ref n3013, .ref n3014, .ref n3015, .int 0, .ref n3016, .ref n3017, .ref n3018])), (n3016, .inl (cy 1, 4, .inl (upd (upd (upd (upd (fun _ => 0) 0 (-1)) 1 (-1)) 2 (-1)) 3 (-1))))] H := hP
      have hD : va_D A [(n3900, .inr (12, [.ref n3000, .ref n3001, .ref n3002, .ref n3003, .int 2, .ref n3004, .int 0, .int 0, .int 0, .int 0, .int 0, .int 0, .int 0, .int 0, .int 0, .int (-1), .int 0, .ref n3005, .ref n3006, .int 0, .ref n3007, .ref n3008, .int 0, .int 0, .int 0, .int 0, .int 0, .int 0, .int 0, .ref n3009, .ref n3010, .int 0, .int 0, .ref n3011, .ref n3012, .int 0, .int 0, .ref n3013, .ref n3014, .ref n3015, .int 0, .ref n3016, .ref n3017, .ref n3018])), (n3016, .inl (cy 1, 4, .inl (upd (upd (upd (upd (fun _ => 0) 0 (-1)) 1 (-1)) 2 (-1)) 3 (-1))))] := hD
      refine lv_lstore (lv' := [(6, .long 0), (5, .int 2), (4, .int 0), (3, .ref n5000), (2, .ref n3900), (1, .ref n1900), (0, .ref b)]) hx hb dL_law_2273 hl (by decide +kernel) rfl (fun ls hl => ?_)
      refine lv_aload_n hx hb dL_law_2275 rfl (lv_at hl 4 rfl) ?_
      refine call_i (av := [.ref n3900]) F hP hD hS [(n3900, .inr (12, [.ref n3000, .ref n3001, .ref n3002, .ref n3003, .int 2, .ref n3004, .int 0, .int 0, .int 0, .int 0, .int 0, .int 0, .int 0, .int 0, .int 0, .int (-1), .int 0, .ref n3005, .ref n3006, .int 0, .ref n3007, .ref n3008, .int 0, .int 0, .int 0, .int 0, .int 0, .int 0, .int 0, .ref n3009, .ref n3010, .int 0, .int 0, .ref n3011, .ref n3012, .int 0, .int 0, .ref n3013, .ref n3014, .ref n3015, .int 0, .ref n3016, .ref n3017, .ref n3018]))] [(n3016, .inl (cy 1, 4, .inl (upd (upd (upd (upd (fun _ => 0) 0 (-1)) 1 (-1)) 2 (-1)) 3 (-1))))] [0] [1] rfl rfl (by decide +kernel) (fun pr => va_runV (As := []) (rest := []) ⟨hx, hb, hml, hown, hts⟩ (k335_X12_thrown l D cy H.size n3900 n3000 n3001 n3002 n3003 n3004 n3005 n3006 n3007 n3008 n3009 n3010 n3011 n3012 n3013 n3014 n3015 n3016 n3017 n3018) (cwV 0 hts gw_X12_thrown rfl rfl rfl (by decide +kernel) ⟨(by decide +kernel), (by decide +kernel)⟩) ⟨pr.1, va_recv hK hP (ci := 12) (q0 := 0) rfl rfl, pr.2⟩ rfl rfl hl.1 rfl (lv_room (Nat.le_of_ble_eq_true rfl)) dL_law_2276 ⟨(by decide +kernel), (by decide +kernel)⟩) (fun r u H locs hw hP hD hS => ?_)
      rcases hw with ⟨rfl, rfl⟩
      have hP : va_P D vwCl [(n3016, .inl (cy 1, 4, .inl (upd (upd (upd (upd (fun _ => 0) 0 (-1)) 1 (-1)) 2 (-1)) 3 (-1)))), (n3900, .inr (12, [.ref n3000, .ref n3001, .ref n3002, .ref n3003, .int 2, .ref n3004, .int 0, .int 0, .int 0, .int 0, .int 0, .int 0, .int 0, .int 0, .int 0, .int (-1), .int 0, .ref n3005, .ref n3006, .int 0, .ref n3007, .ref n3008, .int 0, .int 0, .int 0, .int 0, .int 0, .int 0, .int 0, .ref n3009, .ref n3010, .int 0, .int 0, .ref n3011, .ref n3012, .int 0, .int 0, .ref n3013, .ref n3014, .ref n3015, .int 0, .ref n3016, .ref n3017, .ref n3018]))] H := hP
      have hD : va_D A [(n3016, .inl (cy 1, 4, .inl (upd (upd (upd (upd (fun _ => 0) 0 (-1)) 1 (-1)) 2 (-1)) 3 (-1)))), (n3900, .inr (12, [.ref n3000, .ref n3001, .ref n3002, .ref n3003, .int 2, .ref n3004, .int 0, .int 0, .int 0, .int 0, .int 0, .int 0, .int 0, .int 0, .int 0, .int (-1), .int 0, .ref n3005, .ref n3006, .int 0, .ref n3007, .ref n3008, .int 0, .int 0, .int 0, .int 0, .int 0, .int 0, .int 0, .ref n3009, .ref n3010, .int 0, .int 0, .ref n3011, .ref n3012, .int 0, .int 0, .ref n3013, .ref n3014, .ref n3015, .int 0, .ref n3016, .ref n3017, .ref n3018]))] := hD
      refine lv_iload hx hb dL_law_2279 (lv_at hl 1 rfl) ?_
      refine lv_icmp_eq (tgt := 2286) hx hb dL_law_2281 (by decide +kernel) (fun _ => ?_) (fun h => absurd (by decide +kernel) h)
      refine lv_iload hx hb dL_law_2286 (lv_at hl 1 rfl) ?_
      refine lv_if_ne (tgt := 2302) hx hb dL_law_2288 (by decide +kernel) (fun _ => ?_) (fun h => absurd h (by decide +kernel))
      refine lv_goto (tgt := 2458) hx hb dL_law_2302 (by decide +kernel) ?_
      refine lv_iinc (v := 6) (lv' := [(4, .int 6), (6, .long 0), (5, .int 2), (3, .ref n5000), (2, .ref n3900), (1, .ref n1900), (0, .ref b)]) hx hb dL_law_2458 hl (k := 2) rfl (by decide) (by decide +kernel) rfl (fun ls hl => ?_)
      refine lv_goto (tgt := 23) hx hb dL_law_2461 (by decide +kernel) ?_
      refine lv_iload hx hb dL_law_23 (lv_at hl 0 rfl) ?_
      refine lv_aload_n hx hb dL_law_25 rfl (lv_at hl 6 rfl) ?_
      refine va_slen hx hb hX hbl hbA hS dL_law_26 ?_
      refine top_i (v := 6) rfl ?_
      refine lv_bipush (v := 6) hx hb dL_law_27 (by decide +kernel) ?_
      refine lv_isub hx hb dL_law_29 ?_
      refine top_i (v := 0) (by decide +kernel) ?_
      refine lv_icmp_gt (tgt := 2464) hx hb dL_law_30 (by decide +kernel) (fun _ => ?_) (fun h => absurd (by decide +kernel) h)
      refine lv_iconst (v := 1) hx hb dL_law_2464 (by decide +kernel) ?_
      refine va_forget (fun q hq => hAq _ (hS.2.2 q hq)) ?_
      refine W.widen (k := 600002) (n := 7302232) (by decide +kernel) (by decide +kernel) ?_
      exact lw_ret hx hb hr hlk dL_law_2465
    · exact absurd c800108 (by decide +kernel)
  · subst c800016
    have hP : va_P D vwCl [(n3900, .inr (12, [.ref n3000, .ref n3001, .ref n3002, .ref n3003, .int 0, .ref n3004, .int 0, .int 0, .int 0, .int 0, .int 0, .int 0, .int 0, .int 0, .int 0, .int (-1), .int 0, .ref n3005, .ref n3006, .int 0, .ref n3007, .ref n3008, .int 0, .int 0, .int 0, .int 0, .int 0, .int 0, .int 0, .ref n3009, .ref n3010, .int 0, .int 0, .ref n3011, .ref n3012, .int 0, .int 0, .ref n3013, .ref n3014, .ref n3015, .int 0, .ref n3016, .ref n3017, .ref n3018])), (n3016, .inl (cy 1, 4, .inl (upd (upd (upd (upd (fun _ => 0) 0 (-1)) 1 (-1)) 2 (-1)) 3 (-1))))] H := hP
    have hD : va_D A [(n3900, .inr (12, [.ref n3000, .ref n3001, .ref n3002, .ref n3003, .int 0, .ref n3004, .int 0, .int 0, .int 0, .int 0, .int 0, .int 0, .int 0, .int 0, .int 0, .int (-1), .int 0, .ref n3005, .ref n3006, .int 0, .ref n3007, .ref n3008, .int 0, .int 0, .int 0, .int 0, .int 0, .int 0, .int 0, .ref n3009, .ref n3010, .int 0, .int 0, .ref n3011, .ref n3012, .int 0, .int 0, .ref n3013, .ref n3014, .ref n3015, .int 0, .ref n3016, .ref n3017, .ref n3018])), (n3016, .inl (cy 1, 4, .inl (upd (upd (upd (upd (fun _ => 0) 0 (-1)) 1 (-1)) 2 (-1)) 3 (-1))))] := hD
    refine lv_istore (lv' := [(5, .int 2), (4, .int 0), (3, .ref n5000), (2, .ref n3900), (1, .ref n1900), (0, .ref b)]) hx hb dL_law_2233 hl (by decide +kernel) rfl (fun ls hl => ?_)
    refine lv_aload_n hx hb dL_law_2235 rfl (lv_at hl 3 rfl) ?_
    refine lv_aload_n hx hb dL_law_2236 rfl (lv_at hl 5 rfl) ?_
    refine lv_iload hx hb dL_law_2237 (lv_at hl 1 rfl) ?_
    refine lv_iconst (v := 1) hx hb dL_law_2239 (by decide +kernel) ?_
    refine lv_iadd hx hb dL_law_2240 ?_
    refine top_i (v := 1) (by decide +kernel) ?_
    refine va_sld hx hb hX hbl hbA hS (i := 1) (vin (by decide +kernel)) dL_law_2241 ?_
    refine top_i (v := 3) ez1 ?_
    refine lv_aload_n hx hb dL_law_2242 rfl (lv_at hl 5 rfl) ?_
    refine lv_iload hx hb dL_law_2243 (lv_at hl 1 rfl) ?_
    refine lv_iconst (v := 2) hx hb dL_law_2245 (by decide +kernel) ?_
    refine lv_iadd hx hb dL_law_2246 ?_
    refine top_i (v := 2) (by decide +kernel) ?_
    refine va_sld hx hb hX hbl hbA hS (i := 2) (vin (by decide +kernel)) dL_law_2247 ?_
    refine top_i (v := z2) ez2 ?_
    refine lv_aload_n hx hb dL_law_2248 rfl (lv_at hl 5 rfl) ?_
    refine lv_iload hx hb dL_law_2249 (lv_at hl 1 rfl) ?_
    refine lv_iconst (v := 3) hx hb dL_law_2251 (by decide +kernel) ?_
    refine lv_iadd hx hb dL_law_2252 ?_
    refine top_i (v := 3) (by decide +kernel) ?_
    refine va_sld hx hb hX hbl hbA hS (i := 3) (vin (by decide +kernel)) dL_law_2253 ?_
    refine top_i (v := z3) ez3 ?_
    refine lv_i2l hx hb dL_law_2254 rfl ?_
    refine lv_bipush (v := 32) hx hb dL_law_2255 (by decide +kernel) ?_
    refine lv_lshl hx hb dL_law_2257 rfl ?_
    refine lv_topl (fun v800112 _ => ?_)
    refine lv_aload_n hx hb dL_law_2258 rfl (lv_at hl 5 rfl) ?_
    refine lv_iload hx hb dL_law_2259 (lv_at hl 1 rfl) ?_
    refine lv_iconst (v := 4) hx hb dL_law_2261 (by decide +kernel) ?_
    refine lv_iadd hx hb dL_law_2262 ?_
    refine top_i (v := 4) (by decide +kernel) ?_
    refine va_sld hx hb hX hbl hbA hS (i := 4) (vin (by decide +kernel)) dL_law_2263 ?_
    refine top_i (v := z4) ez4 ?_
    refine lv_i2l hx hb dL_law_2264 rfl ?_
    refine lv_ldc2 (v := 4294967295) hx hb hown (hts _ lm_1877) dL_law_2265 ?_
    refine lv_land hx hb dL_law_2268 ?_
    refine lv_lor hx hb dL_law_2269 ?_
    refine call_l (av := [.ref n3900, .int 3, .int z2, .long (v800112 ||| (z4.toInt64 &&& 4294967295))]) F hP hD hS [(n3900, .inr (12, [.ref n3000, .ref n3001, .ref n3002, .ref n3003, .int 0, .ref n3004, .int 0, .int 0, .int 0, .int 0, .int 0, .int 0, .int 0, .int 0, .int 0, .int (-1), .int 0, .ref n3005, .ref n3006, .int 0, .ref n3007, .ref n3008, .int 0, .int 0, .int 0, .int 0, .int 0, .int 0, .int 0, .ref n3009, .ref n3010, .int 0, .int 0, .ref n3011, .ref n3012, .int 0, .int 0, .ref n3013, .ref n3014, .ref n3015, .int 0, .ref n3016, .ref n3017, .ref n3018])), (n3016, .inl (cy 1, 4, .inl (upd (upd (upd (upd (fun _ => 0) 0 (-1)) 1 (-1)) 2 (-1)) 3 (-1))))] [] [0, 1] [] rfl rfl (by decide +kernel) (fun pr => va_runV (As := [.int 3, .int z2, .long (v800112 ||| (z4.toInt64 &&& 4294967295))]) (rest := []) ⟨hx, hb, hml, hown, hts⟩ (k209_X12_write l D cy H.size n3900 3 z2 ((v800112 ||| (z4.toInt64 &&& 4294967295))) n3016 n3000 n3001 n3002 n3003 n3004 n3005 n3006 n3007 n3008 n3009 n3010 n3011 n3012 n3013 n3014 n3015 n3017 n3018) (cwV 3 hts gw_X12_write rfl rfl rfl (by decide +kernel) ⟨(by decide +kernel), (by decide +kernel)⟩) ⟨pr.1, va_recv hK hP (ci := 12) (q0 := 0) rfl rfl, pr.2⟩ rfl rfl hl.1 rfl (lv_room (Nat.le_of_ble_eq_true rfl)) dL_law_2270 ⟨(by decide +kernel), (by decide +kernel)⟩) (fun r u H locs hw hP hD hS => ?_)
    rcases hw with ⟨c800113, rfl, rfl⟩ | ⟨c800114, c800115, rfl, rfl⟩ | ⟨c800116, c800117, c800118, rfl, rfl⟩ | ⟨c800119, c800120, c800121, rfl, rfl⟩ | ⟨c800122, c800123, c800124, rfl, rfl⟩ | ⟨c800125, c800126, c800127, rfl, rfl⟩
    · exact absurd c800113 (by decide +kernel)
    · exact absurd c800115 (by decide +kernel)
    · exact absurd c800118 (by decide +kernel)
    · exact absurd c800121 (by decide +kernel)
    · exact absurd c800124 (by decide +kernel)
    · have hP : va_P D vwCl [(n3900, .inr (12, [.ref n3000, .ref n3001, .ref n3002, .ref n3003, .int 2, .ref n3004, .int 0, .int 0, .int 0, .int 0, .int 0, .int 0, .int 0, .int 0, .int 0, .int (-1), .int 0, .ref n3005, .ref n3006, .int 0, .ref n3007, .ref n3008, .int 0, .int 0, .int 0, .int 0, .int 0, .int 0, .int 0, .ref n3009, .ref n3010, .int 0, .int 0, .ref n3011, .ref n3012, .int 0, .int 0, .ref n3013, .ref n3014, .ref n3015, .int 0, .ref n3016, .ref n3017, .ref n3018])), (n3016, .inl (cy 1, 4, .inl (upd (upd (upd (upd (fun _ => 0) 0 (-1)) 1 (-1)) 2 (-1)) 3 (-1))))] H := hP
      have hD : va_D A [(n3900, .inr (12, [.ref n3000, .ref n3001, .ref n3002, .ref n3003, .int 2, .ref n3004, .int 0, .int 0, .int 0, .int 0, .int 0, .int 0, .int 0, .int 0, .int 0, .int (-1), .int 0, .ref n3005, .ref n3006, .int 0, .ref n3007, .ref n3008, .int 0, .int 0, .int 0, .int 0, .int 0, .int 0, .int 0, .ref n3009, .ref n3010, .int 0, .int 0, .ref n3011, .ref n3012, .int 0, .int 0, .ref n3013, .ref n3014, .ref n3015, .int 0, .ref n3016, .ref n3017, .ref n3018])), (n3016, .inl (cy 1, 4, .inl (upd (upd (upd (upd (fun _ => 0) 0 (-1)) 1 (-1)) 2 (-1)) 3 (-1))))] := hD
      refine lv_lstore (lv' := [(6, .long 0), (5, .int 2), (4, .int 0), (3, .ref n5000), (2, .ref n3900), (1, .ref n1900), (0, .ref b)]) hx hb dL_law_2273 hl (by decide +kernel) rfl (fun ls hl => ?_)
      refine lv_aload_n hx hb dL_law_2275 rfl (lv_at hl 4 rfl) ?_
      refine call_i (av := [.ref n3900]) F hP hD hS [(n3900, .inr (12, [.ref n3000, .ref n3001, .ref n3002, .ref n3003, .int 2, .ref n3004, .int 0, .int 0, .int 0, .int 0, .int 0, .int 0, .int 0, .int 0, .int 0, .int (-1), .int 0, .ref n3005, .ref n3006, .int 0, .ref n3007, .ref n3008, .int 0, .int 0, .int 0, .int 0, .int 0, .int 0, .int 0, .ref n3009, .ref n3010, .int 0, .int 0, .ref n3011, .ref n3012, .int 0, .int 0, .ref n3013, .ref n3014, .ref n3015, .int 0, .ref n3016, .ref n3017, .ref n3018]))] [(n3016, .inl (cy 1, 4, .inl (upd (upd (upd (upd (fun _ => 0) 0 (-1)) 1 (-1)) 2 (-1)) 3 (-1))))] [0] [1] rfl rfl (by decide +kernel) (fun pr => va_runV (As := []) (rest := []) ⟨hx, hb, hml, hown, hts⟩ (k335_X12_thrown l D cy H.size n3900 n3000 n3001 n3002 n3003 n3004 n3005 n3006 n3007 n3008 n3009 n3010 n3011 n3012 n3013 n3014 n3015 n3016 n3017 n3018) (cwV 0 hts gw_X12_thrown rfl rfl rfl (by decide +kernel) ⟨(by decide +kernel), (by decide +kernel)⟩) ⟨pr.1, va_recv hK hP (ci := 12) (q0 := 0) rfl rfl, pr.2⟩ rfl rfl hl.1 rfl (lv_room (Nat.le_of_ble_eq_true rfl)) dL_law_2276 ⟨(by decide +kernel), (by decide +kernel)⟩) (fun r u H locs hw hP hD hS => ?_)
      rcases hw with ⟨rfl, rfl⟩
      have hP : va_P D vwCl [(n3016, .inl (cy 1, 4, .inl (upd (upd (upd (upd (fun _ => 0) 0 (-1)) 1 (-1)) 2 (-1)) 3 (-1)))), (n3900, .inr (12, [.ref n3000, .ref n3001, .ref n3002, .ref n3003, .int 2, .ref n3004, .int 0, .int 0, .int 0, .int 0, .int 0, .int 0, .int 0, .int 0, .int 0, .int (-1), .int 0, .ref n3005, .ref n3006, .int 0, .ref n3007, .ref n3008, .int 0, .int 0, .int 0, .int 0, .int 0, .int 0, .int 0, .ref n3009, .ref n3010, .int 0, .int 0, .ref n3011, .ref n3012, .int 0, .int 0, .ref n3013, .ref n3014, .ref n3015, .int 0, .ref n3016, .ref n3017, .ref n3018]))] H := hP
      have hD : va_D A [(n3016, .inl (cy 1, 4, .inl (upd (upd (upd (upd (fun _ => 0) 0 (-1)) 1 (-1)) 2 (-1)) 3 (-1)))), (n3900, .inr (12, [.ref n3000, .ref n3001, .ref n3002, .ref n3003, .int 2, .ref n3004, .int 0, .int 0, .int 0, .int 0, .int 0, .int 0, .int 0, .int 0, .int 0, .int (-1), .int 0, .ref n3005, .ref n3006, .int 0, .ref n3007, .ref n3008, .int 0, .int 0, .int 0, .int 0, .int 0, .int 0, .int 0, .ref n3009, .ref n3010, .int 0, .int 0, .ref n3011, .ref n3012, .int 0, .int 0, .ref n3013, .ref n3014, .ref n3015, .int 0, .ref n3016, .ref n3017, .ref n3018]))] := hD
      refine lv_iload hx hb dL_law_2279 (lv_at hl 1 rfl) ?_
      refine lv_icmp_eq (tgt := 2286) hx hb dL_law_2281 (by decide +kernel) (fun _ => ?_) (fun h => absurd (by decide +kernel) h)
      refine lv_iload hx hb dL_law_2286 (lv_at hl 1 rfl) ?_
      refine lv_if_ne (tgt := 2302) hx hb dL_law_2288 (by decide +kernel) (fun _ => ?_) (fun h => absurd h (by decide +kernel))
      refine lv_goto (tgt := 2458) hx hb dL_law_2302 (by decide +kernel) ?_
      refine lv_iinc (v := 6) (lv' := [(4, .int 6), (6, .long 0), (5, .int 2), (3, .ref n5000), (2, .ref n3900), (1, .ref n1900), (0, .ref b)]) hx hb dL_law_2458 hl (k := 2) rfl (by decide) (by decide +kernel) rfl (fun ls hl => ?_)
      refine lv_goto (tgt := 23) hx hb dL_law_2461 (by decide +kernel) ?_
      refine lv_iload hx hb dL_law_23 (lv_at hl 0 rfl) ?_
      refine lv_aload_n hx hb dL_law_25 rfl (lv_at hl 6 rfl) ?_
      refine va_slen hx hb hX hbl hbA hS dL_law_26 ?_
      refine top_i (v := 6) rfl ?_
      refine lv_bipush (v := 6) hx hb dL_law_27 (by decide +kernel) ?_
      refine lv_isub hx hb dL_law_29 ?_
      refine top_i (v := 0) (by decide +kernel) ?_
      refine lv_icmp_gt (tgt := 2464) hx hb dL_law_30 (by decide +kernel) (fun _ => ?_) (fun h => absurd (by decide +kernel) h)
      refine lv_iconst (v := 1) hx hb dL_law_2464 (by decide +kernel) ?_
      refine va_forget (fun q hq => hAq _ (hS.2.2 q hq)) ?_
      refine W.widen (k := 600002) (n := 7302232) (by decide +kernel) (by decide +kernel) ?_
      exact lw_ret hx hb hr hlk dL_law_2465
set_option maxHeartbeats 4000000 in
set_option maxRecDepth 100000 in
theorem law_c38 {p : Program} {l : Launch} {e : Env} {s : State} {m : MethodId} {below : List Frame} {meth : Method} {c : Code} {b : Nat} {xs : Nat → Int32} {D : va_G} {cy : Nat → ClassId} {A : Nat → Prop} (hlT : l.stackTraces = false) (F : Fx D cy p m c cL_law 8 s #[Value.ref b] lw_tbl RL A) (hr : meth.sig.returnType = ret) (hlk : meth.locks = false) (hX : va_X b 6 xs s s.heap) (hbl : b < s.heap.size) (hbA : ¬ A b) (hAq : ∀ q, A q → s.heap.size ≤ q) {H : Heap} {locs : List Loc} {ls : Array Slot} (n1900 n1000 n1001 n1017 n1034 n1039 n1041 n1042 n1043 n1044 n1048 n1056 n1057 n1122 n1124 n1126 n1128 n1123 n1125 n1127 n1129 n3900 n3000 n3001 n3002 n3003 n3004 n3005 n3006 n3007 n3008 n3009 n3010 n3011 n3012 n3013 n3014 n3015 n3016 n3017 n3018 n5000 : Nat) (hP : va_P D vwCl [(n1900, .inr (11, [.ref n1000, .int 0, .ref n1001, .ref n1017, .ref n1034, .ref n1039, .ref n1041, .ref n1042, .ref n1043, .ref n1044, .ref n1048, .ref n1056, .ref n1057, .int 0])), (n1043, .inl (cy 5, 4, .inr (.inr (.inr (.inr (va_up (va_up (va_up (va_up (fun _ => none) 0 (some n1122)) 1 (some n1124)) 2 (some n1126)) 3 (some n1128))))))), (n1122, .inr (10, [.int (-1), .int 0, .ref n1123])), (n1124, .inr (10, [.int (-1), .int 0, .ref n1125])), (n1126, .inr (10, [.int (-1), .int 0, .ref n1127])), (n1128, .inr (10, [.int (-1), .int 0, .ref n1129])), (n3900, .inr (12, [.ref n3000, .ref n3001, .ref n3002, .ref n3003, .int 0, .ref n3004, .int 0, .int 0, .int 0, .int 0, .int 0, .int 0, .int 0, .int 0, .int 0, .int (-1), .int 0, .ref n3005, .ref n3006, .int 0, .ref n3007, .ref n3008, .int 0, .int 0, .int 0, .int 0, .int 0, .int 0, .int 0, .ref n3009, .ref n3010, .int 0, .int 0, .ref n3011, .ref n3012, .int 0, .int 0, .ref n3013, .ref n3014, .ref n3015, .int 0, .ref n3016, .ref n3017, .ref n3018])), (n3016, .inl (cy 1, 4, .inl (upd (upd (upd (upd (fun _ => 0) 0 (-1)) 1 (-1)) 2 (-1)) 3 (-1))))] H) (hD : va_D A [(n1900, .inr (11, [.ref n1000, .int 0, .ref n1001, .ref n1017, .ref n1034, .ref n1039, .ref n1041, .ref n1042, .ref n1043, .ref n1044, .ref n1048, .ref n1056, .ref n1057, .int 0])), (n1043, .inl (cy 5, 4, .inr (.inr (.inr (.inr (va_up (va_up (va_up (va_up (fun _ => none) 0 (some n1122)) 1 (some n1124)) 2 (some n1126)) 3 (some n1128))))))), (n1122, .inr (10, [.int (-1), .int 0, .ref n1123])), (n1124, .inr (10, [.int (-1), .int 0, .ref n1125])), (n1126, .inr (10, [.int (-1), .int 0, .ref n1127])), (n1128, .inr (10, [.int (-1), .int 0, .ref n1129])), (n3900, .inr (12, [.ref n3000, .ref n3001, .ref n3002, .ref n3003, .int 0, .ref n3004, .int 0, .int 0, .int 0, .int 0, .int 0, .int 0, .int 0, .int 0, .int 0, .int (-1), .int 0, .ref n3005, .ref n3006, .int 0, .ref n3007, .ref n3008, .int 0, .int 0, .int 0, .int 0, .int 0, .int 0, .int 0, .ref n3009, .ref n3010, .int 0, .int 0, .ref n3011, .ref n3012, .int 0, .int 0, .ref n3013, .ref n3014, .ref n3015, .int 0, .ref n3016, .ref n3017, .ref n3018])), (n3016, .inl (cy 1, 4, .inl (upd (upd (upd (upd (fun _ => 0) 0 (-1)) 1 (-1)) 2 (-1)) 3 (-1))))]) (hS : va_S A s.heap H locs) (hl : lv_has ls 8 [(4, .int 0), (3, .ref n5000), (2, .ref n3900), (1, .ref n1900), (0, .ref b)]) : W p l e room_1 s m #[Value.ref b] below meth c H locs 152 18765 (lw_Z below #[Value.ref b] s) (F0 m 2305 ls []) := by
  obtain ⟨⟨hx, hb, hml, hown, hts⟩, hK, hG, hZ, hA⟩ := id F
  obtain ⟨z1, ez1⟩ : ∃ z, xs 1 = z := ⟨_, rfl⟩
  obtain ⟨z2, ez2⟩ : ∃ z, xs 2 = z := ⟨_, rfl⟩
  obtain ⟨z3, ez3⟩ : ∃ z, xs 3 = z := ⟨_, rfl⟩
  obtain ⟨z4, ez4⟩ : ∃ z, xs 4 = z := ⟨_, rfl⟩
  obtain ⟨z5, ez5⟩ : ∃ z, xs 5 = z := ⟨_, rfl⟩
  refine lv_aload_n hx hb dL_law_2305 rfl (lv_at hl 3 rfl) ?_
  refine lv_aload_n hx hb dL_law_2306 rfl (lv_at hl 4 rfl) ?_
  refine lv_iload hx hb dL_law_2307 (lv_at hl 0 rfl) ?_
  refine lv_iconst (v := 1) hx hb dL_law_2309 (by decide +kernel) ?_
  refine lv_iadd hx hb dL_law_2310 ?_
  refine top_i (v := 1) (by decide +kernel) ?_
  refine va_sld hx hb hX hbl hbA hS (i := 1) (vin (by decide +kernel)) dL_law_2311 ?_
  refine top_i (v := z1) ez1 ?_
  refine lv_aload_n hx hb dL_law_2312 rfl (lv_at hl 1 rfl) ?_
  refine call_i (av := [.ref n1900, .int z1, .ref n5000]) F hP hD hS [(n1900, .inr (11, [.ref n1000, .int 0, .ref n1001, .ref n1017, .ref n1034, .ref n1039, .ref n1041, .ref n1042, .ref n1043, .ref n1044, .ref n1048, .ref n1056, .ref n1057, .int 0])), (n1043, .inl (cy 5, 4, .inr (.inr (.inr (.inr (va_up (va_up (va_up (va_up (fun _ => none) 0 (some n1122)) 1 (some n1124)) 2 (some n1126)) 3 (some n1128))))))), (n1122, .inr (10, [.int (-1), .int 0, .ref n1123])), (n1124, .inr (10, [.int (-1), .int 0, .ref n1125])), (n1126, .inr (10, [.int (-1), .int 0, .ref n1127])), (n1128, .inr (10, [.int (-1), .int 0, .ref n1129]))] [(n3900, .inr (12, [.ref n3000, .ref n3001, .ref n3002, .ref n3003, .int 0, .ref n3004, .int 0, .int 0, .int 0, .int 0, .int 0, .int 0, .int 0, .int 0, .int 0, .int (-1), .int 0, .ref n3005, .ref n3006, .int 0, .ref n3007, .ref n3008, .int 0, .int 0, .int 0, .int 0, .int 0, .int 0, .int 0, .ref n3009, .ref n3010, .int 0, .int 0, .ref n3011, .ref n3012, .int 0, .int 0, .ref n3013, .ref n3014, .ref n3015, .int 0, .ref n3016, .ref n3017, .ref n3018])), (n3016, .inl (cy 1, 4, .inl (upd (upd (upd (upd (fun _ => 0) 0 (-1)) 1 (-1)) 2 (-1)) 3 (-1))))] [0, 1, 2, 3, 4, 5] [6, 7] rfl rfl (by decide +kernel) (fun pr => vx_runSW (As := [.ref n1900, .int z1, .ref n5000]) (rest := []) ⟨hx, hb, hml, hown, hts⟩ (k330_L_pour l hlT D cy H.size n1900 z1 n5000 n1043 n1122 n1124 n1126 n1128 n1000 n1001 n1017 n1034 n1039 n1041 n1042 n1044 n1048 n1056 n1057 n1123 n1125 n1127 n1129) (vx_cwSW 3 hts gw_L_pour rfl rfl rfl (by decide +kernel) ⟨(by decide +kernel), (by decide +kernel)⟩) pr rfl rfl hl.1 rfl (lv_room (Nat.le_of_ble_eq_true rfl)) dL_law_2313 ⟨(by decide +kernel), (by decide +kernel)⟩) (fun r u H locs hw hP hD hS => ?_)
  rcases hw with ⟨c800001, rfl, rfl⟩ | ⟨c800002, c800003, rfl, rfl⟩ | ⟨c800004, c800005, c800006, rfl, rfl⟩ | ⟨c800007, c800008, c800009, rfl, rfl⟩ | ⟨c800010, c800011, c800012, rfl, rfl⟩ | ⟨c800013, c800014, c800015, rfl, rfl⟩
  · have hP : va_P D vwCl [(n3900, .inr (12, [.ref n3000, .ref n3001, .ref n3002, .ref n3003, .int 0, .ref n3004, .int 0, .int 0, .int 0, .int 0, .int 0, .int 0, .int 0, .int 0, .int 0, .int (-1), .int 0, .ref n3005, .ref n3006, .int 0, .ref n3007, .ref n3008, .int 0, .int 0, .int 0, .int 0, .int 0, .int 0, .int 0, .ref n3009, .ref n3010, .int 0, .int 0, .ref n3011, .ref n3012, .int 0, .int 0, .ref n3013, .ref n3014, .ref n3015, .int 0, .ref n3016, .ref n3017, .ref n3018])), (n3016, .inl (cy 1, 4, .inl (upd (upd (upd (upd (fun _ => 0) 0 (-1)) 1 (-1)) 2 (-1)) 3 (-1))))] H := hP
    have hD : va_D A [(n3900, .inr (12, [.ref n3000, .ref n3001, .ref n3002, .ref n3003, .int 0, .ref n3004, .int 0, .int 0, .int 0, .int 0, .int 0, .int 0, .int 0, .int 0, .int 0, .int (-1), .int 0, .ref n3005, .ref n3006, .int 0, .ref n3007, .ref n3008, .int 0, .int 0, .int 0, .int 0, .int 0, .int 0, .int 0, .ref n3009, .ref n3010, .int 0, .int 0, .ref n3011, .ref n3012, .int 0, .int 0, .ref n3013, .ref n3014, .ref n3015, .int 0, .ref n3016, .ref n3017, .ref n3018])), (n3016, .inl (cy 1, 4, .inl (upd (upd (upd (upd (fun _ => 0) 0 (-1)) 1 (-1)) 2 (-1)) 3 (-1))))] := hD
    refine lv_istore (lv' := [(5, .int 1), (4, .int 0), (3, .ref n5000), (2, .ref n3900), (1, .ref n1900), (0, .ref b)]) hx hb dL_law_2316 hl (by decide +kernel) rfl (fun ls hl => ?_)
    refine lv_aload_n hx hb dL_law_2318 rfl (lv_at hl 3 rfl) ?_
    refine lv_aload_n hx hb dL_law_2319 rfl (lv_at hl 5 rfl) ?_
    refine lv_iload hx hb dL_law_2320 (lv_at hl 1 rfl) ?_
    refine lv_iconst (v := 1) hx hb dL_law_2322 (by decide +kernel) ?_
    refine lv_iadd hx hb dL_law_2323 ?_
    refine top_i (v := 1) (by decide +kernel) ?_
    refine va_sld hx hb hX hbl hbA hS (i := 1) (vin (by decide +kernel)) dL_law_2324 ?_
    refine top_i (v := z1) ez1 ?_
    refine call_i (av := [.ref n3900, .int z1]) F hP hD hS [(n3900, .inr (12, [.ref n3000, .ref n3001, .ref n3002, .ref n3003, .int 0, .ref n3004, .int 0, .int 0, .int 0, .int 0, .int 0, .int 0, .int 0, .int 0, .int 0, .int (-1), .int 0, .ref n3005, .ref n3006, .int 0, .ref n3007, .ref n3008, .int 0, .int 0, .int 0, .int 0, .int 0, .int 0, .int 0, .ref n3009, .ref n3010, .int 0, .int 0, .ref n3011, .ref n3012, .int 0, .int 0, .ref n3013, .ref n3014, .ref n3015, .int 0, .ref n3016, .ref n3017, .ref n3018])), (n3016, .inl (cy 1, 4, .inl (upd (upd (upd (upd (fun _ => 0) 0 (-1)) 1 (-1)) 2 (-1)) 3 (-1))))] [] [0, 1] [] rfl rfl (by decide +kernel) (fun pr => va_runV (As := [.int z1]) (rest := []) ⟨hx, hb, hml, hown, hts⟩ (k210_X12_pour l D cy H.size n3900 z1 n3016 n3000 n3001 n3002 n3003 n3004 n3005 n3006 n3007 n3008 n3009 n3010 n3011 n3012 n3013 n3014 n3015 n3017 n3018) (cwV 1 hts gw_X12_pour rfl rfl rfl (by decide +kernel) ⟨(by decide +kernel), (by decide +kernel)⟩) ⟨pr.1, va_recv hK hP (ci := 12) (q0 := 0) rfl rfl, pr.2⟩ rfl rfl hl.1 rfl (lv_room (Nat.le_of_ble_eq_true rfl)) dL_law_2325 ⟨(by decide +kernel), (by decide +kernel)⟩) (fun r u H locs hw hP hD hS => ?_)
    rcases hw with ⟨c800016, rfl, rfl⟩ | ⟨c800017, c800018, rfl, rfl⟩ | ⟨c800019, c800020, c800021, rfl, rfl⟩ | ⟨c800022, c800023, c800024, rfl, rfl⟩ | ⟨c800025, c800026, c800027, rfl, rfl⟩ | ⟨c800028, c800029, c800030, rfl, rfl⟩
    · have hP : va_P D vwCl [(n3900, .inr (12, [.ref n3000, .ref n3001, .ref n3002, .ref n3003, .int 1, .ref n3004, .int 0, .int 0, .int 0, .int 0, .int 0, .int 0, .int 0, .int 0, .int 0, .int (-1), .int 0, .ref n3005, .ref n3006, .int 0, .ref n3007, .ref n3008, .int 0, .int 0, .int 0, .int 0, .int 0, .int 0, .int 0, .ref n3009, .ref n3010, .int 0, .int 0, .ref n3011, .ref n3012, .int 0, .int 0, .ref n3013, .ref n3014, .ref n3015, .int 0, .ref n3016, .ref n3017, .ref n3018])), (n3016, .inl (cy 1, 4, .inl (upd (upd (upd (upd (fun _ => 0) 0 (-1)) 1 (-1)) 2 (-1)) 3 (-1))))] H := hP
      have hD : va_D A [(n3900, .inr (12, [.ref n3000, .ref n3001, .ref n3002, .ref n3003, .int 1, .ref n3004, .int 0, .int 0, .int 0, .int 0, .int 0, .int 0, .int 0, .int 0, .int 0, .int (-1), .int 0, .ref n3005, .ref n3006, .int 0, .ref n3007, .ref n3008, .int 0, .int 0, .int 0, .int 0, .int 0, .int 0, .int 0, .ref n3009, .ref n3010, .int 0, .int 0, .ref n3011, .ref n3012, .int 0, .int 0, .ref n3013, .ref n3014, .ref n3015, .int 0, .ref n3016, .ref n3017, .ref n3018])), (n3016, .inl (cy 1, 4, .inl (upd (upd (upd (upd (fun _ => 0) 0 (-1)) 1 (-1)) 2 (-1)) 3 (-1))))] := hD
      refine lv_istore (lv' := [(6, .int 0), (5, .int 1), (4, .int 0), (3, .ref n5000), (2, .ref n3900), (1, .ref n1900), (0, .ref b)]) hx hb dL_law_2328 hl (by decide +kernel) rfl (fun ls hl => ?_)
      refine lv_aload_n hx hb dL_law_2330 rfl (lv_at hl 4 rfl) ?_
      refine call_i (av := [.ref n3900]) F hP hD hS [(n3900, .inr (12, [.ref n3000, .ref n3001, .ref n3002, .ref n3003, .int 1, .ref n3004, .int 0, .int 0, .int 0, .int 0, .int 0, .int 0, .int 0, .int 0, .int 0, .int (-1), .int 0, .ref n3005, .ref n3006, .int 0, .ref n3007, .ref n3008, .int 0, .int 0, .int 0, .int 0, .int 0, .int 0, .int 0, .ref n3009, .ref n3010, .int 0, .int 0, .ref n3011, .ref n3012, .int 0, .int 0, .ref n3013, .ref n3014, .ref n3015, .int 0, .ref n3016, .ref n3017, .ref n3018]))] [(n3016, .inl (cy 1, 4, .inl (upd (upd (upd (upd (fun _ => 0) 0 (-1)) 1 (-1)) 2 (-1)) 3 (-1))))] [0] [1] rfl rfl (by decide +kernel) (fun pr => va_runV (As := []) (rest := []) ⟨hx, hb, hml, hown, hts⟩ (k333_X12_thrown l D cy H.size n3900 n3000 n3001 n3002 n3003 n3004 n3005 n3006 n3007 n3008 n3009 n3010 n3011 n3012 n3013 n3014 n3015 n3016 n3017 n3018) (cwV 0 hts gw_X12_thrown rfl rfl rfl (by decide +kernel) ⟨(by decide +kernel), (by decide +kernel)⟩) ⟨pr.1, va_recv hK hP (ci := 12) (q0 := 0) rfl rfl, pr.2⟩ rfl rfl hl.1 rfl (lv_room (Nat.le_of_ble_eq_true rfl)) dL_law_2331 ⟨(by decide +kernel), (by decide +kernel)⟩) (fun r u H locs hw hP hD hS => ?_)
      rcases hw with ⟨rfl, rfl⟩
      have hP : va_P D vwCl [(n3016, .inl (cy 1, 4, .inl (upd (upd (upd (upd (fun _ => 0) 0 (-1)) 1 (-1)) 2 (-1)) 3 (-1)))), (n3900, .inr (12, [.ref n3000, .ref n3001, .ref n3002, .ref n3003, .int 1, .ref n3004, .int 0, .int 0, .int 0, .int 0, .int 0, .int 0, .int 0, .int 0, .int 0, .int (-1), .int 0, .ref n3005, .ref n3006, .int 0, .ref n3007, .ref n3008, .int 0, .int 0, .int 0, .int 0, .int 0, .int 0, .int 0, .ref n3009, .ref n3010, .int 0, .int 0, .ref n3011, .ref n3012, .int 0, .int 0, .ref n3013, .ref n3014, .ref n3015, .int 0, .ref n3016, .ref n3017, .ref n3018]))] H := hP
      have hD : va_D A [(n3016, .inl (cy 1, 4, .inl (upd (upd (upd (upd (fun _ => 0) 0 (-1)) 1 (-1)) 2 (-1)) 3 (-1)))), (n3900, .inr (12, [.ref n3000, .ref n3001, .ref n3002, .ref n3003, .int 1, .ref n3004, .int 0, .int 0, .int 0, .int 0, .int 0, .int 0, .int 0, .int 0, .int 0, .int (-1), .int 0, .ref n3005, .ref n3006, .int 0, .ref n3007, .ref n3008, .int 0, .int 0, .int 0, .int 0, .int 0, .int 0, .int 0, .ref n3009, .ref n3010, .int 0, .int 0, .ref n3011, .ref n3012, .int 0, .int 0, .ref n3013, .ref n3014, .ref n3015, .int 0, .ref n3016, .ref n3017, .ref n3018]))] := hD
      refine lv_iload hx hb dL_law_2334 (lv_at hl 1 rfl) ?_
      refine lv_icmp_eq (tgt := 2341) hx hb dL_law_2336 (by decide +kernel) (fun _ => ?_) (fun h => absurd (by decide +kernel) h)
      refine lv_iload hx hb dL_law_2341 (lv_at hl 1 rfl) ?_
      refine lv_if_ne (tgt := 2358) hx hb dL_law_2343 (by decide +kernel) (fun _ => ?_) (fun h => absurd h (by decide +kernel))
      refine lv_goto (tgt := 2458) hx hb dL_law_2358 (by decide +kernel) ?_
      refine lv_iinc (v := 6) (lv' := [(4, .int 6), (6, .int 0), (5, .int 1), (3, .ref n5000), (2, .ref n3900), (1, .ref n1900), (0, .ref b)]) hx hb dL_law_2458 hl (k := 2) rfl (by decide) (by decide +kernel) rfl (fun ls hl => ?_)
      refine lv_goto (tgt := 23) hx hb dL_law_2461 (by decide +kernel) ?_
      refine lv_iload hx hb dL_law_23 (lv_at hl 0 rfl) ?_
      refine lv_aload_n hx hb dL_law_25 rfl (lv_at hl 6 rfl) ?_
      refine va_slen hx hb hX hbl hbA hS dL_law_26 ?_
      refine top_i (v := 6) rfl ?_
      refine lv_bipush (v := 6) hx hb dL_law_27 (by decide +kernel) ?_
      refine lv_isub hx hb dL_law_29 ?_
      refine top_i (v := 0) (by decide +kernel) ?_
      refine lv_icmp_gt (tgt := 2464) hx hb dL_law_30 (by decide +kernel) (fun _ => ?_) (fun h => absurd (by decide +kernel) h)
      refine lv_iconst (v := 1) hx hb dL_law_2464 (by decide +kernel) ?_
      refine va_forget (fun q hq => hAq _ (hS.2.2 q hq)) ?_
      refine W.widen (k := 600002) (n := 7302232) (by decide +kernel) (by decide +kernel) ?_
      exact lw_ret hx hb hr hlk dL_law_2465
    · exact (no_b (lo_nlt_w c800017) (up_lt c800001) (by decide +kernel)).elim
    · exact (no_b (lo_nlt_w c800019) (up_lt c800001) (by decide +kernel)).elim
    · exact (no_b (lo_nlt_w c800022) (up_lt c800001) (by decide +kernel)).elim
    · exact (no_b (lo_nlt_w c800025) (up_lt c800001) (by decide +kernel)).elim
    · exact (no_b (lo_nlt_w c800028) (up_lt c800001) (by decide +kernel)).elim
  · have hP : va_P D vwCl [(n3900, .inr (12, [.ref n3000, .ref n3001, .ref n3002, .ref n3003, .int 0, .ref n3004, .int 0, .int 0, .int 0, .int 0, .int 0, .int 0, .int 0, .int 0, .int 0, .int (-1), .int 0, .ref n3005, .ref n3006, .int 0, .ref n3007, .ref n3008, .int 0, .int 0, .int 0, .int 0, .int 0, .int 0, .int 0, .ref n3009, .ref n3010, .int 0, .int 0, .ref n3011, .ref n3012, .int 0, .int 0, .ref n3013, .ref n3014, .ref n3015, .int 0, .ref n3016, .ref n3017, .ref n3018])), (n3016, .inl (cy 1, 4, .inl (upd (upd (upd (upd (fun _ => 0) 0 (-1)) 1 (-1)) 2 (-1)) 3 (-1))))] H := hP
    have hD : va_D A [(n3900, .inr (12, [.ref n3000, .ref n3001, .ref n3002, .ref n3003, .int 0, .ref n3004, .int 0, .int 0, .int 0, .int 0, .int 0, .int 0, .int 0, .int 0, .int 0, .int (-1), .int 0, .ref n3005, .ref n3006, .int 0, .ref n3007, .ref n3008, .int 0, .int 0, .int 0, .int 0, .int 0, .int 0, .int 0, .ref n3009, .ref n3010, .int 0, .int 0, .ref n3011, .ref n3012, .int 0, .int 0, .ref n3013, .ref n3014, .ref n3015, .int 0, .ref n3016, .ref n3017, .ref n3018])), (n3016, .inl (cy 1, 4, .inl (upd (upd (upd (upd (fun _ => 0) 0 (-1)) 1 (-1)) 2 (-1)) 3 (-1))))] := hD
    refine lv_istore (lv' := [(5, .int 1), (4, .int 0), (3, .ref n5000), (2, .ref n3900), (1, .ref n1900), (0, .ref b)]) hx hb dL_law_2316 hl (by decide +kernel) rfl (fun ls hl => ?_)
    refine lv_aload_n hx hb dL_law_2318 rfl (lv_at hl 3 rfl) ?_
    refine lv_aload_n hx hb dL_law_2319 rfl (lv_at hl 5 rfl) ?_
    refine lv_iload hx hb dL_law_2320 (lv_at hl 1 rfl) ?_
    refine lv_iconst (v := 1) hx hb dL_law_2322 (by decide +kernel) ?_
    refine lv_iadd hx hb dL_law_2323 ?_
    refine top_i (v := 1) (by decide +kernel) ?_
    refine va_sld hx hb hX hbl hbA hS (i := 1) (vin (by decide +kernel)) dL_law_2324 ?_
    refine top_i (v := z1) ez1 ?_
    refine call_i (av := [.ref n3900, .int z1]) F hP hD hS [(n3900, .inr (12, [.ref n3000, .ref n3001, .ref n3002, .ref n3003, .int 0, .ref n3004, .int 0, .int 0, .int 0, .int 0, .int 0, .int 0, .int 0, .int 0, .int 0, .int (-1), .int 0, .ref n3005, .ref n3006, .int 0, .ref n3007, .ref n3008, .int 0, .int 0, .int 0, .int 0, .int 0, .int 0, .int 0, .ref n3009, .ref n3010, .int 0, .int 0, .ref n3011, .ref n3012, .int 0, .int 0, .ref n3013, .ref n3014, .ref n3015, .int 0, .ref n3016, .ref n3017, .ref n3018])), (n3016, .inl (cy 1, 4, .inl (upd (upd (upd (upd (fun _ => 0) 0 (-1)) 1 (-1)) 2 (-1)) 3 (-1))))] [] [0, 1] [] rfl rfl (by decide +kernel) (fun pr => va_runV (As := [.int z1]) (rest := []) ⟨hx, hb, hml, hown, hts⟩ (k210_X12_pour l D cy H.size n3900 z1 n3016 n3000 n3001 n3002 n3003 n3004 n3005 n3006 n3007 n3008 n3009 n3010 n3011 n3012 n3013 n3014 n3015 n3017 n3018) (cwV 1 hts gw_X12_pour rfl rfl rfl (by decide +kernel) ⟨(by decide +kernel), (by decide +kernel)⟩) ⟨pr.1, va_recv hK hP (ci := 12) (q0 := 0) rfl rfl, pr.2⟩ rfl rfl hl.1 rfl (lv_room (Nat.le_of_ble_eq_true rfl)) dL_law_2325 ⟨(by decide +kernel), (by decide +kernel)⟩) (fun r u H locs hw hP hD hS => ?_)
    rcases hw with ⟨c800034, rfl, rfl⟩ | ⟨c800035, c800036, rfl, rfl⟩ | ⟨c800037, c800038, c800039, rfl, rfl⟩ | ⟨c800040, c800041, c800042, rfl, rfl⟩ | ⟨c800043, c800044, c800045, rfl, rfl⟩ | ⟨c800046, c800047, c800048, rfl, rfl⟩
    · exact (no_b (lo_nlt c800003) (up_lt_w c800034) (by decide +kernel)).elim
    · have hP : va_P D vwCl [(n3900, .inr (12, [.ref n3000, .ref n3001, .ref n3002, .ref n3003, .int 1, .ref n3004, .int 0, .int 0, .int 0, .int 0, .int 0, .int 0, .int 0, .int 0, .int 0, .int (-1), .int 0, .ref n3005, .ref n3006, .int 0, .ref n3007, .ref n3008, .int 0, .int 0, .int 0, .int 0, .int 0, .int 0, .int 0, .ref n3009, .ref n3010, .int 0, .int 0, .ref n3011, .ref n3012, .int 0, .int 0, .ref n3013, .ref n3014, .ref n3015, .int 0, .ref n3016, .ref n3017, .ref n3018])), (n3016, .inl (cy 1, 4, .inl (upd (upd (upd (upd (fun _ => 0) 0 (-1)) 1 (-1)) 2 (-1)) 3 (-1))))] H := hP
      have hD : va_D A [(n3900, .inr (12, [.ref n3000, .ref n3001, .ref n3002, .ref n3003, .int 1, .ref n3004, .int 0, .int 0, .int 0, .int 0, .int 0, .int 0, .int 0, .int 0, .int 0, .int (-1), .int 0, .ref n3005, .ref n3006, .int 0, .ref n3007, .ref n3008, .int 0, .int 0, .int 0, .int 0, .int 0, .int 0, .int 0, .ref n3009, .ref n3010, .int 0, .int 0, .ref n3011, .ref n3012, .int 0, .int 0, .ref n3013, .ref n3014, .ref n3015, .int 0, .ref n3016, .ref n3017, .ref n3018])), (n3016, .inl (cy 1, 4, .inl (upd (upd (upd (upd (fun _ => 0) 0 (-1)) 1 (-1)) 2 (-1)) 3 (-1))))] := hD
      refine lv_istore (lv' := [(6, .int 0), (5, .int 1), (4, .int 0), (3, .ref n5000), (2, .ref n3900), (1, .ref n1900), (0, .ref b)]) hx hb dL_law_2328 hl (by decide +kernel) rfl (fun ls hl => ?_)
      refine lv_aload_n hx hb dL_law_2330 rfl (lv_at hl 4 rfl) ?_
      refine call_i (av := [.ref n3900]) F hP hD hS [(n3900, .inr (12, [.ref n3000, .ref n3001, .ref n3002, .ref n3003, .int 1, .ref n3004, .int 0, .int 0, .int 0, .int 0, .int 0, .int 0, .int 0, .int 0, .int 0, .int (-1), .int 0, .ref n3005, .ref n3006, .int 0, .ref n3007, .ref n3008, .int 0, .int 0, .int 0, .int 0, .int 0, .int 0, .int 0, .ref n3009, .ref n3010, .int 0, .int 0, .ref n3011, .ref n3012, .int 0, .int 0, .ref n3013, .ref n3014, .ref n3015, .int 0, .ref n3016, .ref n3017, .ref n3018]))] [(n3016, .inl (cy 1, 4, .inl (upd (upd (upd (upd (fun _ => 0) 0 (-1)) 1 (-1)) 2 (-1)) 3 (-1))))] [0] [1] rfl rfl (by decide +kernel) (fun pr => va_runV (As := []) (rest := []) ⟨hx, hb, hml, hown, hts⟩ (k333_X12_thrown l D cy H.size n3900 n3000 n3001 n3002 n3003 n3004 n3005 n3006 n3007 n3008 n3009 n3010 n3011 n3012 n3013 n3014 n3015 n3016 n3017 n3018) (cwV 0 hts gw_X12_thrown rfl rfl rfl (by decide +kernel) ⟨(by decide +kernel), (by decide +kernel)⟩) ⟨pr.1, va_recv hK hP (ci := 12) (q0 := 0) rfl rfl, pr.2⟩ rfl rfl hl.1 rfl (lv_room (Nat.le_of_ble_eq_true rfl)) dL_law_2331 ⟨(by decide +kernel), (by decide +kernel)⟩) (fun r u H locs hw hP hD hS => ?_)
      rcases hw with ⟨rfl, rfl⟩
      have hP : va_P D vwCl [(n3016, .inl (cy 1, 4, .inl (upd (upd (upd (upd (fun _ => 0) 0 (-1)) 1 (-1)) 2 (-1)) 3 (-1)))), (n3900, .inr (12, [.ref n3000, .ref n3001, .ref n3002, .ref n3003, .int 1, .ref n3004, .int 0, .int 0, .int 0, .int 0, .int 0, .int 0, .int 0, .int 0, .int 0, .int (-1), .int 0, .ref n3005, .ref n3006, .int 0, .ref n3007, .ref n3008, .int 0, .int 0, .int 0, .int 0, .int 0, .int 0, .int 0, .ref n3009, .ref n3010, .int 0, .int 0, .ref n3011, .ref n3012, .int 0, .int 0, .ref n3013, .ref n3014, .ref n3015, .int 0, .ref n3016, .ref n3017, .ref n3018]))] H := hP
      have hD : va_D A [(n3016, .inl (cy 1, 4, .inl (upd (upd (upd (upd (fun _ => 0) 0 (-1)) 1 (-1)) 2 (-1)) 3 (-1)))), (n3900, .inr (12, [.ref n3000, .ref n3001, .ref n3002, .ref n3003, .int 1, .ref n3004, .int 0, .int 0, .int 0, .int 0, .int 0, .int 0, .int 0, .int 0, .int 0, .int (-1), .int 0, .ref n3005, .ref n3006, .int 0, .ref n3007, .ref n3008, .int 0, .int 0, .int 0, .int 0, .int 0, .int 0, .int 0, .ref n3009, .ref n3010, .int 0, .int 0, .ref n3011, .ref n3012, .int 0, .int 0, .ref n3013, .ref n3014, .ref n3015, .int 0, .ref n3016, .ref n3017, .ref n3018]))] := hD
      refine lv_iload hx hb dL_law_2334 (lv_at hl 1 rfl) ?_
      refine lv_icmp_eq (tgt := 2341) hx hb dL_law_2336 (by decide +kernel) (fun _ => ?_) (fun h => absurd (by decide +kernel) h)
      refine lv_iload hx hb dL_law_2341 (lv_at hl 1 rfl) ?_
      refine lv_if_ne (tgt := 2358) hx hb dL_law_2343 (by decide +kernel) (fun _ => ?_) (fun h => absurd h (by decide +kernel))
      refine lv_goto (tgt := 2458) hx hb dL_law_2358 (by decide +kernel) ?_
      refine lv_iinc (v := 6) (lv' := [(4, .int 6), (6, .int 0), (5, .int 1), (3, .ref n5000), (2, .ref n3900), (1, .ref n1900), (0, .ref b)]) hx hb dL_law_2458 hl (k := 2) rfl (by decide) (by decide +kernel) rfl (fun ls hl => ?_)
      refine lv_goto (tgt := 23) hx hb dL_law_2461 (by decide +kernel) ?_
      refine lv_iload hx hb dL_law_23 (lv_at hl 0 rfl) ?_
      refine lv_aload_n hx hb dL_law_25 rfl (lv_at hl 6 rfl) ?_
      refine va_slen hx hb hX hbl hbA hS dL_law_26 ?_
      refine top_i (v := 6) rfl ?_
      refine lv_bipush (v := 6) hx hb dL_law_27 (by decide +kernel) ?_
      refine lv_isub hx hb dL_law_29 ?_
      refine top_i (v := 0) (by decide +kernel) ?_
      refine lv_icmp_gt (tgt := 2464) hx hb dL_law_30 (by decide +kernel) (fun _ => ?_) (fun h => absurd (by decide +kernel) h)
      refine lv_iconst (v := 1) hx hb dL_law_2464 (by decide +kernel) ?_
      refine va_forget (fun q hq => hAq _ (hS.2.2 q hq)) ?_
      refine W.widen (k := 600002) (n := 7302232) (by decide +kernel) (by decide +kernel) ?_
      exact lw_ret hx hb hr hlk dL_law_2465
    · exact (no_b (lo_nlt c800003) (up_nlt_w c800038) (by decide +kernel)).elim
    · exact (no_b (lo_nlt c800003) (up_nlt_w c800041) (by decide +kernel)).elim
    · exact (no_b (lo_nlt c800003) (up_nlt_w c800044) (by decide +kernel)).elim
    · exact (no_b (lo_nlt c800003) (up_nlt_w c800047) (by decide +kernel)).elim
  · subst c800006
    have hP : va_P D vwCl [(n3900, .inr (12, [.ref n3000, .ref n3001, .ref n3002, .ref n3003, .int 0, .ref n3004, .int 0, .int 0, .int 0, .int 0, .int 0, .int 0, .int 0, .int 0, .int 0, .int (-1), .int 0, .ref n3005, .ref n3006, .int 0, .ref n3007, .ref n3008, .int 0, .int 0, .int 0, .int 0, .int 0, .int 0, .int 0, .ref n3009, .ref n3010, .int 0, .int 0, .ref n3011, .ref n3012, .int 0, .int 0, .ref n3013, .ref n3014, .ref n3015, .int 0, .ref n3016, .ref n3017, .ref n3018])), (n3016, .inl (cy 1, 4, .inl (upd (upd (upd (upd (fun _ => 0) 0 (-1)) 1 (-1)) 2 (-1)) 3 (-1))))] H := hP
    have hD : va_D A [(n3900, .inr (12, [.ref n3000, .ref n3001, .ref n3002, .ref n3003, .int 0, .ref n3004, .int 0, .int 0, .int 0, .int 0, .int 0, .int 0, .int 0, .int 0, .int 0, .int (-1), .int 0, .ref n3005, .ref n3006, .int 0, .ref n3007, .ref n3008, .int 0, .int 0, .int 0, .int 0, .int 0, .int 0, .int 0, .ref n3009, .ref n3010, .int 0, .int 0, .ref n3011, .ref n3012, .int 0, .int 0, .ref n3013, .ref n3014, .ref n3015, .int 0, .ref n3016, .ref n3017, .ref n3018])), (n3016, .inl (cy 1, 4, .inl (upd (upd (upd (upd (fun _ => 0) 0 (-1)) 1 (-1)) 2 (-1)) 3 (-1))))] := hD
    refine lv_istore (lv' := [(5, .int 2), (4, .int 0), (3, .ref n5000), (2, .ref n3900), (1, .ref n1900), (0, .ref b)]) hx hb dL_law_2316 hl (by decide +kernel) rfl (fun ls hl => ?_)
    refine lv_aload_n hx hb dL_law_2318 rfl (lv_at hl 3 rfl) ?_
    refine lv_aload_n hx hb dL_law_2319 rfl (lv_at hl 5 rfl) ?_
    refine lv_iload hx hb dL_law_2320 (lv_at hl 1 rfl) ?_
    refine lv_iconst (v := 1) hx hb dL_law_2322 (by decide +kernel) ?_
    refine lv_iadd hx hb dL_law_2323 ?_
    refine top_i (v := 1) (by decide +kernel) ?_
    refine va_sld hx hb hX hbl hbA hS (i := 1) (vin (by decide +kernel)) dL_law_2324 ?_
    refine top_i (v := 0) ez1 ?_
    refine call_i (av := [.ref n3900, .int 0]) F hP hD hS [(n3900, .inr (12, [.ref n3000, .ref n3001, .ref n3002, .ref n3003, .int 0, .ref n3004, .int 0, .int 0, .int 0, .int 0, .int 0, .int 0, .int 0, .int 0, .int 0, .int (-1), .int 0, .ref n3005, .ref n3006, .int 0, .ref n3007, .ref n3008, .int 0, .int 0, .int 0, .int 0, .int 0, .int 0, .int 0, .ref n3009, .ref n3010, .int 0, .int 0, .ref n3011, .ref n3012, .int 0, .int 0, .ref n3013, .ref n3014, .ref n3015, .int 0, .ref n3016, .ref n3017, .ref n3018])), (n3016, .inl (cy 1, 4, .inl (upd (upd (upd (upd (fun _ => 0) 0 (-1)) 1 (-1)) 2 (-1)) 3 (-1))))] [] [0, 1] [] rfl rfl (by decide +kernel) (fun pr => va_runV (As := [.int 0]) (rest := []) ⟨hx, hb, hml, hown, hts⟩ (k210_X12_pour l D cy H.size n3900 0 n3016 n3000 n3001 n3002 n3003 n3004 n3005 n3006 n3007 n3008 n3009 n3010 n3011 n3012 n3013 n3014 n3015 n3017 n3018) (cwV 1 hts gw_X12_pour rfl rfl rfl (by decide +kernel) ⟨(by decide +kernel), (by decide +kernel)⟩) ⟨pr.1, va_recv hK hP (ci := 12) (q0 := 0) rfl rfl, pr.2⟩ rfl rfl hl.1 rfl (lv_room (Nat.le_of_ble_eq_true rfl)) dL_law_2325 ⟨(by decide +kernel), (by decide +kernel)⟩) (fun r u H locs hw hP hD hS => ?_)
    rcases hw with ⟨c800052, rfl, rfl⟩ | ⟨c800053, c800054, rfl, rfl⟩ | ⟨c800055, c800056, c800057, rfl, rfl⟩ | ⟨c800058, c800059, c800060, rfl, rfl⟩ | ⟨c800061, c800062, c800063, rfl, rfl⟩ | ⟨c800064, c800065, c800066, rfl, rfl⟩
    · exact absurd c800052 (by decide +kernel)
    · exact absurd c800054 (by decide +kernel)
    · have hP : va_P D vwCl [(n3900, .inr (12, [.ref n3000, .ref n3001, .ref n3002, .ref n3003, .int 2, .ref n3004, .int 0, .int 0, .int 0, .int 0, .int 0, .int 0, .int 0, .int 0, .int 0, .int (-1), .int 0, .ref n3005, .ref n3006, .int 0, .ref n3007, .ref n3008, .int 0, .int 0, .int 0, .int 0, .int 0, .int 0, .int 0, .ref n3009, .ref n3010, .int 0, .int 0, .ref n3011, .ref n3012, .int 0, .int 0, .ref n3013, .ref n3014, .ref n3015, .int 0, .ref n3016, .ref n3017, .ref n3018])), (n3016, .inl (cy 1, 4, .inl (upd (upd (upd (upd (fun _ => 0) 0 (-1)) 1 (-1)) 2 (-1)) 3 (-1))))] H := hP
      have hD : va_D A [(n3900, .inr (12, [.ref n3000, .ref n3001, .ref n3002, .ref n3003, .int 2, .ref n3004, .int 0, .int 0, .int 0, .int 0, .int 0, .int 0, .int 0, .int 0, .int 0, .int (-1), .int 0, .ref n3005, .ref n3006, .int 0, .ref n3007, .ref n3008, .int 0, .int 0, .int 0, .int 0, .int 0, .int 0, .int 0, .ref n3009, .ref n3010, .int 0, .int 0, .ref n3011, .ref n3012, .int 0, .int 0, .ref n3013, .ref n3014, .ref n3015, .int 0, .ref n3016, .ref n3017, .ref n3018])), (n3016, .inl (cy 1, 4, .inl (upd (upd (upd (upd (fun _ => 0) 0 (-1)) 1 (-1)) 2 (-1)) 3 (-1))))] := hD
      refine lv_istore (lv' := [(6, .int 0), (5, .int 2), (4, .int 0), (3, .ref n5000), (2, .ref n3900), (1, .ref n1900), (0, .ref b)]) hx hb dL_law_2328 hl (by decide +kernel) rfl (fun ls hl => ?_)
      refine lv_aload_n hx hb dL_law_2330 rfl (lv_at hl 4 rfl) ?_
      refine call_i (av := [.ref n3900]) F hP hD hS [(n3900, .inr (12, [.ref n3000, .ref n3001, .ref n3002, .ref n3003, .int 2, .ref n3004, .int 0, .int 0, .int 0, .int 0, .int 0, .int 0, .int 0, .int 0, .int 0, .int (-1), .int 0, .ref n3005, .ref n3006, .int 0, .ref n3007, .ref n3008, .int 0, .int 0, .int 0, .int 0, .int 0, .int 0, .int 0, .ref n3009, .ref n3010, .int 0, .int 0, .ref n3011, .ref n3012, .int 0, .int 0, .ref n3013, .ref n3014, .ref n3015, .int 0, .ref n3016, .ref n3017, .ref n3018]))] [(n3016, .inl (cy 1, 4, .inl (upd (upd (upd (upd (fun _ => 0) 0 (-1)) 1 (-1)) 2 (-1)) 3 (-1))))] [0] [1] rfl rfl (by decide +kernel) (fun pr => va_runV (As := []) (rest := []) ⟨hx, hb, hml, hown, hts⟩ (k335_X12_thrown l D cy H.size n3900 n3000 n3001 n3002 n3003 n3004 n3005 n3006 n3007 n3008 n3009 n3010 n3011 n3012 n3013 n3014 n3015 n3016 n3017 n3018) (cwV 0 hts gw_X12_thrown rfl rfl rfl (by decide +kernel) ⟨(by decide +kernel), (by decide +kernel)⟩) ⟨pr.1, va_recv hK hP (ci := 12) (q0 := 0) rfl rfl, pr.2⟩ rfl rfl hl.1 rfl (lv_room (Nat.le_of_ble_eq_true rfl)) dL_law_2331 ⟨(by decide +kernel), (by decide +kernel)⟩) (fun r u H locs hw hP hD hS => ?_)
      rcases hw with ⟨rfl, rfl⟩
      have hP : va_P D vwCl [(n3016, .inl (cy 1, 4, .inl (upd (upd (upd (upd (fun _ => 0) 0 (-1)) 1 (-1)) 2 (-1)) 3 (-1)))), (n3900, .inr (12, [.ref n3000, .ref n3001, .ref n3002, .ref n3003, .int 2, .ref n3004, .int 0, .int 0, .int 0, .int 0, .int 0, .int 0, .int 0, .int 0, .int 0, .int (-1), .int 0, .ref n3005, .ref n3006, .int 0, .ref n3007, .ref n3008, .int 0, .int 0, .int 0, .int 0, .int 0, .int 0, .int 0, .ref n3009, .ref n3010, .int 0, .int 0, .ref n3011, .ref n3012, .int 0, .int 0, .ref n3013, .ref n3014, .ref n3015, .int 0, .ref n3016, .ref n3017, .ref n3018]))] H := hP
      have hD : va_D A [(n3016, .inl (cy 1, 4, .inl (upd (upd (upd (upd (fun _ => 0) 0 (-1)) 1 (-1)) 2 (-1)) 3 (-1)))), (n3900, .inr (12, [.ref n3000, .ref n3001, .ref n3002, .ref n3003, .int 2, .ref n3004, .int 0, .int 0, .int 0, .int 0, .int 0, .int 0, .int 0, .int 0, .int 0, .int (-1), .int 0, .ref n3005, .ref n3006, .int 0, .ref n3007, .ref n3008, .int 0, .int 0, .int 0, .int 0, .int 0, .int 0, .int 0, .ref n3009, .ref n3010, .int 0, .int 0, .ref n3011, .ref n3012, .int 0, .int 0, .ref n3013, .ref n3014, .ref n3015, .int 0, .ref n3016, .ref n3017, .ref n3018]))] := hD
      refine lv_iload hx hb dL_law_2334 (lv_at hl 1 rfl) ?_
      refine lv_icmp_eq (tgt := 2341) hx hb dL_law_2336 (by decide +kernel) (fun _ => ?_) (fun h => absurd (by decide +kernel) h)
      refine lv_iload hx hb dL_law_2341 (lv_at hl 1 rfl) ?_
      refine lv_if_ne (tgt := 2358) hx hb dL_law_2343 (by decide +kernel) (fun _ => ?_) (fun h => absurd h (by decide +kernel))
      refine lv_goto (tgt := 2458) hx hb dL_law_2358 (by decide +kernel) ?_
      refine lv_iinc (v := 6) (lv' := [(4, .int 6), (6, .int 0), (5, .int 2), (3, .ref n5000), (2, .ref n3900), (1, .ref n1900), (0, .ref b)]) hx hb dL_law_2458 hl (k := 2) rfl (by decide) (by decide +kernel) rfl (fun ls hl => ?_)
      refine lv_goto (tgt := 23) hx hb dL_law_2461 (by decide +kernel) ?_
      refine lv_iload hx hb dL_law_23 (lv_at hl 0 rfl) ?_
      refine lv_aload_n hx hb dL_law_25 rfl (lv_at hl 6 rfl) ?_
      refine va_slen hx hb hX hbl hbA hS dL_law_26 ?_
      refine top_i (v := 6) rfl ?_
      refine lv_bipush (v := 6) hx hb dL_law_27 (by decide +kernel) ?_
      refine lv_isub hx hb dL_law_29 ?_
      refine top_i (v := 0) (by decide +kernel) ?_
      refine lv_icmp_gt (tgt := 2464) hx hb dL_law_30 (by decide +kernel) (fun _ => ?_) (fun h => absurd (by decide +kernel) h)
      refine lv_iconst (v := 1) hx hb dL_law_2464 (by decide +kernel) ?_
      refine va_forget (fun q hq => hAq _ (hS.2.2 q hq)) ?_
      refine W.widen (k := 600002) (n := 7302232) (by decide +kernel) (by decide +kernel) ?_
      exact lw_ret hx hb hr hlk dL_law_2465
    · exact absurd c800060 (by decide +kernel)
    · exact absurd c800063 (by decide +kernel)
    · exact absurd c800066 (by decide +kernel)
  · subst c800009
    have hP : va_P D vwCl [(n3900, .inr (12, [.ref n3000, .ref n3001, .ref n3002, .ref n3003, .int 0, .ref n3004, .int 0, .int 0, .int 0, .int 0, .int 0, .int 0, .int 0, .int 0, .int 0, .int (-1), .int 0, .ref n3005, .ref n3006, .int 0, .ref n3007, .ref n3008, .int 0, .int 0, .int 0, .int 0, .int 0, .int 0, .int 0, .ref n3009, .ref n3010, .int 0, .int 0, .ref n3011, .ref n3012, .int 0, .int 0, .ref n3013, .ref n3014, .ref n3015, .int 0, .ref n3016, .ref n3017, .ref n3018])), (n3016, .inl (cy 1, 4, .inl (upd (upd (upd (upd (fun _ => 0) 0 (-1)) 1 (-1)) 2 (-1)) 3 (-1))))] H := hP
    have hD : va_D A [(n3900, .inr (12, [.ref n3000, .ref n3001, .ref n3002, .ref n3003, .int 0, .ref n3004, .int 0, .int 0, .int 0, .int 0, .int 0, .int 0, .int 0, .int 0, .int 0, .int (-1), .int 0, .ref n3005, .ref n3006, .int 0, .ref n3007, .ref n3008, .int 0, .int 0, .int 0, .int 0, .int 0, .int 0, .int 0, .ref n3009, .ref n3010, .int 0, .int 0, .ref n3011, .ref n3012, .int 0, .int 0, .ref n3013, .ref n3014, .ref n3015, .int 0, .ref n3016, .ref n3017, .ref n3018])), (n3016, .inl (cy 1, 4, .inl (upd (upd (upd (upd (fun _ => 0) 0 (-1)) 1 (-1)) 2 (-1)) 3 (-1))))] := hD
    refine lv_istore (lv' := [(5, .int 2), (4, .int 0), (3, .ref n5000), (2, .ref n3900), (1, .ref n1900), (0, .ref b)]) hx hb dL_law_2316 hl (by decide +kernel) rfl (fun ls hl => ?_)
    refine lv_aload_n hx hb dL_law_2318 rfl (lv_at hl 3 rfl) ?_
    refine lv_aload_n hx hb dL_law_2319 rfl (lv_at hl 5 rfl) ?_
    refine lv_iload hx hb dL_law_2320 (lv_at hl 1 rfl) ?_
    refine lv_iconst (v := 1) hx hb dL_law_2322 (by decide +kernel) ?_
    refine lv_iadd hx hb dL_law_2323 ?_
    refine top_i (v := 1) (by decide +kernel) ?_
    refine va_sld hx hb hX hbl hbA hS (i := 1) (vin (by decide +kernel)) dL_law_2324 ?_
    refine top_i (v := 1) ez1 ?_
    refine call_i (av := [.ref n3900, .int 1]) F hP hD hS [(n3900, .inr (12, [.ref n3000, .ref n3001, .ref n3002, .ref n3003, .int 0, .ref n3004, .int 0, .int 0, .int 0, .int 0, .int 0, .int 0, .int 0, .int 0, .int 0, .int (-1), .int 0, .ref n3005, .ref n3006, .int 0, .ref n3007, .ref n3008, .int 0, .int 0, .int 0, .int 0, .int 0, .int 0, .int 0, .ref n3009, .ref n3010, .int 0, .int 0, .ref n3011, .ref n3012, .int 0, .int 0, .ref n3013, .ref n3014, .ref n3015, .int 0, .ref n3016, .ref n3017, .ref n3018])), (n3016, .inl (cy 1, 4, .inl (upd (upd (upd (upd (fun _ => 0) 0 (-1)) 1 (-1)) 2 (-1)) 3 (-1))))] [] [0, 1] [] rfl rfl (by decide +kernel) (fun pr => va_runV (As := [.int 1]) (rest := []) ⟨hx, hb, hml, hown, hts⟩ (k210_X12_pour l D cy H.size n3900 1 n3016 n3000 n3001 n3002 n3003 n3004 n3005 n3006 n3007 n3008 n3009 n3010 n3011 n3012 n3013 n3014 n3015 n3017 n3018) (cwV 1 hts gw_X12_pour rfl rfl rfl (by decide +kernel) ⟨(by decide +kernel), (by decide +kernel)⟩) ⟨pr.1, va_recv hK hP (ci := 12) (q0 := 0) rfl rfl, pr.2⟩ rfl rfl hl.1 rfl (lv_room (Nat.le_of_ble_eq_true rfl)) dL_law_2325 ⟨(by decide +kernel), (by decide +kernel)⟩) (fun r u H locs hw hP hD hS => ?_)
    rcases hw with ⟨c800070, rfl, rfl⟩ | ⟨c800071, c800072, rfl, rfl⟩ | ⟨c800073, c800074, c800075, rfl, rfl⟩ | ⟨c800076, c800077, c800078, rfl, rfl⟩ | ⟨c800079, c800080, c800081, rfl, rfl⟩ | ⟨c800082, c800083, c800084, rfl, rfl⟩
    · exact absurd c800070 (by decide +kernel)
    · exact absurd c800072 (by decide +kernel)
    · exact absurd c800075 (by decide +kernel)
    · have hP : va_P D vwCl [(n3900, .inr (12, [.ref n3000, .ref n3001, .ref n3002, .ref n3003, .int 2, .ref n3004, .int 0, .int 0, .int 0, .int 0, .int 0, .int 0, .int 0, .int 0, .int 0, .int (-1), .int 0, .ref n3005, .ref n3006, .int 0, .ref n3007, .ref n3008, .int 0, .int 0, .int 0, .int 0, .int 0, .int 0, .int 0, .ref n3009, .ref n3010, .int 0, .int 0, .ref n3011, .ref n3012, .int 0, .int 0, .ref n3013, .ref n3014, .ref n3015, .int 0, .ref n3016, .ref n3017, .ref n3018])), (n3016, .inl (cy 1, 4, .inl (upd (upd (upd (upd (fun _ => 0) 0 (-1)) 1 (-1)) 2 (-1)) 3 (-1))))] H := hP
      have hD : va_D A [(n3900, .inr (12, [.ref n3000, .ref n3001, .ref n3002, .ref n3003, .int 2, .ref n3004, .int 0, .int 0, .int 0, .int 0, .int 0, .int 0, .int 0, .int 0, .int 0, .int (-1), .int 0, .ref n3005, .ref n3006, .int 0, .ref n3007, .ref n3008, .int 0, .int 0, .int 0, .int 0, .int 0, .int 0, .int 0, .ref n3009, .ref n3010, .int 0, .int 0, .ref n3011, .ref n3012, .int 0, .int 0, .ref n3013, .ref n3014, .ref n3015, .int 0, .ref n3016, .ref n3017, .ref n3018])), (n3016, .inl (cy 1, 4, .inl (upd (upd (upd (upd (fun _ => 0) 0 (-1)) 1 (-1)) 2 (-1)) 3 (-1))))] := hD
      refine lv_istore (lv' := [(6, .int 0), (5, .int 2), (4, .int 0), (3, .ref n5000), (2, .ref n3900), (1, .ref n1900), (0, .ref b)]) hx hb dL_law_2328 hl (by decide +kernel) rfl (fun ls hl => ?_)
      refine lv_aload_n hx hb dL_law_2330 rfl (lv_at hl 4 rfl) ?_
      refine call_i (av := [.ref n3900]) F hP hD hS [(n3900, .inr (12, [.ref n3000, .ref n3001, .ref n3002, .ref n3003, .int 2, .ref n3004, .int 0, .int 0, .int 0, .int 0, .int 0, .int 0, .int 0, .int 0, .int 0, .int (-1), .int 0, .ref n3005, .ref n3006, .int 0, .ref n3007, .ref n3008, .int 0, .int 0, .int 0, .int 0, .int 0, .int 0, .int 0, .ref n3009, .ref n3010, .int 0, .int 0, .ref n3011, .ref n3012, .int 0, .int 0, .ref n3013, .ref n3014, .ref n3015, .int 0, .ref n3016, .ref n3017, .ref n3018]))] [(n3016, .inl (cy 1, 4, .inl (upd (upd (upd (upd (fun _ => 0) 0 (-1)) 1 (-1)) 2 (-1)) 3 (-1))))] [0] [1] rfl rfl (by decide +kernel) (fun pr => va_runV (As := []) (rest := []) ⟨hx, hb, hml, hown, hts⟩ (k335_X12_thrown l D cy H.size n3900 n3000 n3001 n3002 n3003 n3004 n3005 n3006 n3007 n3008 n3009 n3010 n3011 n3012 n3013 n3014 n3015 n3016 n3017 n3018) (cwV 0 hts gw_X12_thrown rfl rfl rfl (by decide +kernel) ⟨(by decide +kernel), (by decide +kernel)⟩) ⟨pr.1, va_recv hK hP (ci := 12) (q0 := 0) rfl rfl, pr.2⟩ rfl rfl hl.1 rfl (lv_room (Nat.le_of_ble_eq_true rfl)) dL_law_2331 ⟨(by decide +kernel), (by decide +kernel)⟩) (fun r u H locs hw hP hD hS => ?_)
      rcases hw with ⟨rfl, rfl⟩
      have hP : va_P D vwCl [(n3016, .inl (cy 1, 4, .inl (upd (upd (upd (upd (fun _ => 0) 0 (-1)) 1 (-1)) 2 (-1)) 3 (-1)))), (n3900, .inr (12, [.ref n3000, .ref n3001, .ref n3002, .ref n3003, .int 2, .ref n3004, .int 0, .int 0, .int 0, .int 0, .int 0, .int 0, .int 0, .int 0, .int 0, .int (-1), .int 0, .ref n3005, .ref n3006, .int 0, .ref n3007, .ref n3008, .int 0, .int 0, .int 0, .int 0, .int 0, .int 0, .int 0, .ref n3009, .ref n3010, .int 0, .int 0, .ref n3011, .ref n3012, .int 0, .int 0, .ref n3013, .ref n3014, .ref n3015, .int 0, .ref n3016, .ref n3017, .ref n3018]))] H := hP
      have hD : va_D A [(n3016, .inl (cy 1, 4, .inl (upd (upd (upd (upd (fun _ => 0) 0 (-1)) 1 (-1)) 2 (-1)) 3 (-1)))), (n3900, .inr (12, [.ref n3000, .ref n3001, .ref n3002, .ref n3003, .int 2, .ref n3004, .int 0, .int 0, .int 0, .int 0, .int 0, .int 0, .int 0, .int 0, .int 0, .int (-1), .int 0, .ref n3005, .ref n3006, .int 0, .ref n3007, .ref n3008, .int 0, .int 0, .int 0, .int 0, .int 0, .int 0, .int 0, .ref n3009, .ref n3010, .int 0, .int 0, .ref n3011, .ref n3012, .int 0, .int 0, .ref n3013, .ref n3014, .ref n3015, .int 0, .ref n3016, .ref n3017, .ref n3018]))] := hD
      refine lv_iload hx hb dL_law_2334 (lv_at hl 1 rfl) ?_
      refine lv_icmp_eq (tgt := 2341) hx hb dL_law_2336 (by decide +kernel) (fun _ => ?_) (fun h => absurd (by decide +kernel) h)
      refine lv_iload hx hb dL_law_2341 (lv_at hl 1 rfl) ?_
      refine lv_if_ne (tgt := 2358) hx hb dL_law_2343 (by decide +kernel) (fun _ => ?_) (fun h => absurd h (by decide +kernel))
      refine lv_goto (tgt := 2458) hx hb dL_law_2358 (by decide +kernel) ?_
      refine lv_iinc (v := 6) (lv' := [(4, .int 6), (6, .int 0), (5, .int 2), (3, .ref n5000), (2, .ref n3900), (1, .ref n1900), (0, .ref b)]) hx hb dL_law_2458 hl (k := 2) rfl (by decide) (by decide +kernel) rfl (fun ls hl => ?_)
      refine lv_goto (tgt := 23) hx hb dL_law_2461 (by decide +kernel) ?_
      refine lv_iload hx hb dL_law_23 (lv_at hl 0 rfl) ?_
      refine lv_aload_n hx hb dL_law_25 rfl (lv_at hl 6 rfl) ?_
      refine va_slen hx hb hX hbl hbA hS dL_law_26 ?_
      refine top_i (v := 6) rfl ?_
      refine lv_bipush (v := 6) hx hb dL_law_27 (by decide +kernel) ?_
      refine lv_isub hx hb dL_law_29 ?_
      refine top_i (v := 0) (by decide +kernel) ?_
      refine lv_icmp_gt (tgt := 2464) hx hb dL_law_30 (by decide +kernel) (fun _ => ?_) (fun h => absurd (by decide +kernel) h)
      refine lv_iconst (v := 1) hx hb dL_law_2464 (by decide +kernel) ?_
      refine va_forget (fun q hq => hAq _ (hS.2.2 q hq)) ?_
      refine W.widen (k := 600002) (n := 7302232) (by decide +kernel) (by decide +kernel) ?_
      exact lw_ret hx hb hr hlk dL_law_2465
    · exact absurd c800081 (by decide +kernel)
    · exact absurd c800084 (by decide +kernel)
  · subst c800012
    have hP : va_P D vwCl [(n3900, .inr (12, [.ref n3000, .ref n3001, .ref n3002, .ref n3003, .int 0, .ref n3004, .int 0, .int 0, .int 0, .int 0, .int 0, .int 0, .int 0, .int 0, .int 0, .int (-1), .int 0, .ref n3005, .ref n3006, .int 0, .ref n3007, .ref n3008, .int 0, .int 0, .int 0, .int 0, .int 0, .int 0, .int 0, .ref n3009, .ref n3010, .int 0, .int 0, .ref n3011, .ref n3012, .int 0, .int 0, .ref n3013, .ref n3014, .ref n3015, .int 0, .ref n3016, .ref n3017, .ref n3018])), (n3016, .inl (cy 1, 4, .inl (upd (upd (upd (upd (fun _ => 0) 0 (-1)) 1 (-1)) 2 (-1)) 3 (-1))))] H := hP
    have hD : va_D A [(n3900, .inr (12, [.ref n3000, .ref n3001, .ref n3002, .ref n3003, .int 0, .ref n3004, .int 0, .int 0, .int 0, .int 0, .int 0, .int 0, .int 0, .int 0, .int 0, .int (-1), .int 0, .ref n3005, .ref n3006, .int 0, .ref n3007, .ref n3008, .int 0, .int 0, .int 0, .int 0, .int 0, .int 0, .int 0, .ref n3009, .ref n3010, .int 0, .int 0, .ref n3011, .ref n3012, .int 0, .int 0, .ref n3013, .ref n3014, .ref n3015, .int 0, .ref n3016, .ref n3017, .ref n3018])), (n3016, .inl (cy 1, 4, .inl (upd (upd (upd (upd (fun _ => 0) 0 (-1)) 1 (-1)) 2 (-1)) 3 (-1))))] := hD
    refine lv_istore (lv' := [(5, .int 2), (4, .int 0), (3, .ref n5000), (2, .ref n3900), (1, .ref n1900), (0, .ref b)]) hx hb dL_law_2316 hl (by decide +kernel) rfl (fun ls hl => ?_)
    refine lv_aload_n hx hb dL_law_2318 rfl (lv_at hl 3 rfl) ?_
    refine lv_aload_n hx hb dL_law_2319 rfl (lv_at hl 5 rfl) ?_
    refine lv_iload hx hb dL_law_2320 (lv_at hl 1 rfl) ?_
    refine lv_iconst (v := 1) hx hb dL_law_2322 (by decide +kernel) ?_
    refine lv_iadd hx hb dL_law_2323 ?_
    refine top_i (v := 1) (by decide +kernel) ?_
    refine va_sld hx hb hX hbl hbA hS (i := 1) (vin (by decide +kernel)) dL_law_2324 ?_
    refine top_i (v := 2) ez1 ?_
    refine call_i (av := [.ref n3900, .int 2]) F hP hD hS [(n3900, .inr (12, [.ref n3000, .ref n3001, .ref n3002, .ref n3003, .int 0, .ref n3004, .int 0, .int 0, .int 0, .int 0, .int 0, .int 0, .int 0, .int 0, .int 0, .int (-1), .int 0, .ref n3005, .ref n3006, .int 0, .ref n3007, .ref n3008, .int 0, .int 0, .int 0, .int 0, .int 0, .int 0, .int 0, .ref n3009, .ref n3010, .int 0, .int 0, .ref n3011, .ref n3012, .int 0, .int 0, .ref n3013, .ref n3014, .ref n3015, .int 0, .ref n3016, .ref n3017, .ref n3018])), (n3016, .inl (cy 1, 4, .inl (upd (upd (upd (upd (fun _ => 0) 0 (-1)) 1 (-1)) 2 (-1)) 3 (-1))))] [] [0, 1] [] rfl rfl (by decide +kernel) (fun pr => va_runV (As := [.int 2]) (rest := []) ⟨hx, hb, hml, hown, hts⟩ (k210_X12_pour l D cy H.size n3900 2 n3016 n3000 n3001 n3002 n3003 n3004 n3005 n3006 n3007 n3008 n3009 n3010 n3011 n3012 n3013 n3014 n3015 n3017 n3018) (cwV 1 hts gw_X12_pour rfl rfl rfl (by decide +kernel) ⟨(by decide +kernel), (by decide +kernel)⟩) ⟨pr.1, va_recv hK hP (ci := 12) (q0 := 0) rfl rfl, pr.2⟩ rfl rfl hl.1 rfl (lv_room (Nat.le_of_ble_eq_true rfl)) dL_law_2325 ⟨(by decide +kernel), (by decide +kernel)⟩) (fun r u H locs hw hP hD hS => ?_)
    rcases hw with ⟨c800088, rfl, rfl⟩ | ⟨c800089, c800090, rfl, rfl⟩ | ⟨c800091, c800092, c800093, rfl, rfl⟩ | ⟨c800094, c800095, c800096, rfl, rfl⟩ | ⟨c800097, c800098, c800099, rfl, rfl⟩ | ⟨c800100, c800101, c800102, rfl, rfl⟩
    · exact absurd c800088 (by decide +kernel)
    · exact absurd c800090 (by decide +kernel)
    · exact absurd c800093 (by decide +kernel)
    · exact absurd c800096 (by decide +kernel)
    · have hP : va_P D vwCl [(n3900, .inr (12, [.ref n3000, .ref n3001, .ref n3002, .ref n3003, .int 2, .ref n3004, .int 0, .int 0, .int 0, .int 0, .int 0, .int 0, .int 0, .int 0, .int 0, .int (-1), .int 0, .ref n3005, .ref n3006, .int 0, .ref n3007, .ref n3008, .int 0, .int 0, .int 0, .int 0, .int 0, .int 0, .int 0, .ref n3009, .ref n3010, .int 0, .int 0, .ref n3011, .ref n3012, .int 0, .int 0, .ref n3013, .ref n3014, .ref n3015, .int 0, .ref n3016, .ref n3017, .ref n3018])), (n3016, .inl (cy 1, 4, .inl (upd (upd (upd (upd (fun _ => 0) 0 (-1)) 1 (-1)) 2 (-1)) 3 (-1))))] H := hP
      have hD : va_D A [(n3900, .inr (12, [.ref n3000, .ref n3001, .ref n3002, .ref n3003, .int 2, .ref n3004, .int 0, .int 0, .int 0, .int 0, .int 0, .int 0, .int 0, .int 0, .int 0, .int (-1), .int 0, .ref n3005, .ref n3006, .int 0, .ref n3007, .ref n3008, .int 0, .int 0, .int 0, .int 0, .int 0, .int 0, .int 0, .ref n3009, .ref n3010, .int 0, .int 0, .ref n3011, .ref n3012, .int 0, .int 0, .ref n3013, .ref n3014, .ref n3015, .int 0, .ref n3016, .ref n3017, .ref n3018])), (n3016, .inl (cy 1, 4, .inl (upd (upd (upd (upd (fun _ => 0) 0 (-1)) 1 (-1)) 2 (-1)) 3 (-1))))] := hD
      refine lv_istore (lv' := [(6, .int 0), (5, .int 2), (4, .int 0), (3, .ref n5000), (2, .ref n3900), (1, .ref n1900), (0, .ref b)]) hx hb dL_law_2328 hl (by decide +kernel) rfl (fun ls hl => ?_)
      refine lv_aload_n hx hb dL_law_2330 rfl (lv_at hl 4 rfl) ?_
      refine call_i (av := [.ref n3900]) F hP hD hS [(n3900, .inr (12, [.ref n3000, .ref n3001, .ref n3002, .ref n3003, .int 2, .ref n3004, .int 0, .int 0, .int 0, .int 0, .int 0, .int 0, .int 0, .int 0, .int 0, .int (-1), .int 0, .ref n3005, .ref n3006, .int 0, .ref n3007, .ref n3008, .int 0, .int 0, .int 0, .int 0, .int 0, .int 0, .int 0, .ref n3009, .ref n3010, .int 0, .int 0, .ref n3011, .ref n3012, .int 0, .int 0, .ref n3013, .ref n3014, .ref n3015, .int 0, .ref n3016, .ref n3017, .ref n3018]))] [(n3016, .inl (cy 1, 4, .inl (upd (upd (upd (upd (fun _ => 0) 0 (-1)) 1 (-1)) 2 (-1)) 3 (-1))))] [0] [1] rfl rfl (by decide +kernel) (fun pr => va_runV (As := []) (rest := []) ⟨hx, hb, hml, hown, hts⟩ (k335_X12_thrown l D cy H.size n3900 n3000 n3001 n3002 n3003 n3004 n3005 n3006 n3007 n3008 n3009 n3010 n3011 n3012 n3013 n3014 n3015 n3016 n3017 n3018) (cwV 0 hts gw_X12_thrown rfl rfl rfl (by decide +kernel) ⟨(by decide +kernel), (by decide +kernel)⟩) ⟨pr.1, va_recv hK hP (ci := 12) (q0 := 0) rfl rfl, pr.2⟩ rfl rfl hl.1 rfl (lv_room (Nat.le_of_ble_eq_true rfl)) dL_law_2331 ⟨(by decide +kernel), (by decide +kernel)⟩) (fun r u H locs hw hP hD hS => ?_)
      rcases hw with ⟨rfl, rfl⟩
      have hP : va_P D vwCl [(n3016, .inl (cy 1, 4, .inl (upd (upd (upd (upd (fun _ => 0) 0 (-1)) 1 (-1)) 2 (-1)) 3 (-1)))), (n3900, .inr (12, [.ref n3000, .ref n3001, .ref n3002, .ref n3003, .int 2, .ref n3004, .int 0, .int 0, .int 0, .int 0, .int 0, .int 0, .int 0, .int 0, .int 0, .int (-1), .int 0, .ref n3005, .ref n3006, .int 0, .ref n3007, .ref n3008, .int 0, .int 0, .int 0, .int 0, .int 0, .int 0, .int 0, .ref n3009, .ref n3010, .int 0, .int 0, .ref n3011, .ref n3012, .int 0, .int 0, .ref n3013, .ref n3014, .ref n3015, .int 0, .ref n3016, .ref n3017, .ref n3018]))] H := hP
      have hD : va_D A [(n3016, .inl (cy 1, 4, .inl (upd (upd (upd (upd (fun _ => 0) 0 (-1)) 1 (-1)) 2 (-1)) 3 (-1)))), (n3900, .inr (12, [.ref n3000, .ref n3001, .ref n3002, .ref n3003, .int 2, .ref n3004, .int 0, .int 0, .int 0, .int 0, .int 0, .int 0, .int 0, .int 0, .int 0, .int (-1), .int 0, .ref n3005, .ref n3006, .int 0, .ref n3007, .ref n3008, .int 0, .int 0, .int 0, .int 0, .int 0, .int 0, .int 0, .ref n3009, .ref n3010, .int 0, .int 0, .ref n3011, .ref n3012, .int 0, .int 0, .ref n3013, .ref n3014, .ref n3015, .int 0, .ref n3016, .ref n3017, .ref n3018]))] := hD
      refine lv_iload hx hb dL_law_2334 (lv_at hl 1 rfl) ?_
      refine lv_icmp_eq (tgt := 2341) hx hb dL_law_2336 (by decide +kernel) (fun _ => ?_) (fun h => absurd (by decide +kernel) h)
      refine lv_iload hx hb dL_law_2341 (lv_at hl 1 rfl) ?_
      refine lv_if_ne (tgt := 2358) hx hb dL_law_2343 (by decide +kernel) (fun _ => ?_) (fun h => absurd h (by decide +kernel))
      refine lv_goto (tgt := 2458) hx hb dL_law_2358 (by decide +kernel) ?_
      refine lv_iinc (v := 6) (lv' := [(4, .int 6), (6, .int 0), (5, .int 2), (3, .ref n5000), (2, .ref n3900), (1, .ref n1900), (0, .ref b)]) hx hb dL_law_2458 hl (k := 2) rfl (by decide) (by decide +kernel) rfl (fun ls hl => ?_)
      refine lv_goto (tgt := 23) hx hb dL_law_2461 (by decide +kernel) ?_
      refine lv_iload hx hb dL_law_23 (lv_at hl 0 rfl) ?_
      refine lv_aload_n hx hb dL_law_25 rfl (lv_at hl 6 rfl) ?_
      refine va_slen hx hb hX hbl hbA hS dL_law_26 ?_
      refine top_i (v := 6) rfl ?_
      refine lv_bipush (v := 6) hx hb dL_law_27 (by decide +kernel) ?_
      refine lv_isub hx hb dL_law_29 ?_
      refine top_i (v := 0) (by decide +kernel) ?_
      refine lv_icmp_gt (tgt := 2464) hx hb dL_law_30 (by decide +kernel) (fun _ => ?_) (fun h => absurd (by decide +kernel) h)
      refine lv_iconst (v := 1) hx hb dL_law_2464 (by decide +kernel) ?_
      refine va_forget (fun q hq => hAq _ (hS.2.2 q hq)) ?_
      refine W.widen (k := 600002) (n := 7302232) (by decide +kernel) (by decide +kernel) ?_
      exact lw_ret hx hb hr hlk dL_law_2465
    · exact absurd c800102 (by decide +kernel)
  · subst c800015
    have hP : va_P D vwCl [(n3900, .inr (12, [.ref n3000, .ref n3001, .ref n3002, .ref n3003, .int 0, .ref n3004, .int 0, .int 0, .int 0, .int 0, .int 0, .int 0, .int 0, .int 0, .int 0, .int (-1), .int 0, .ref n3005, .ref n3006, .int 0, .ref n3007, .ref n3008, .int 0, .int 0, .int 0, .int 0, .int 0, .int 0, .int 0, .ref n3009, .ref n3010, .int 0, .int 0, .ref n3011, .ref n3012, .int 0, .int 0, .ref n3013, .ref n3014, .ref n3015, .int 0, .ref n3016, .ref n3017, .ref n3018])), (n3016, .inl (cy 1, 4, .inl (upd (upd (upd (upd (fun _ => 0) 0 (-1)) 1 (-1)) 2 (-1)) 3 (-1))))] H := hP
    have hD : va_D A [(n3900, .inr (12, [.ref n3000, .ref n3001, .ref n3002, .ref n3003, .int 0, .ref n3004, .int 0, .int 0, .int 0, .int 0, .int 0, .int 0, .int 0, .int 0, .int 0, .int (-1), .int 0, .ref n3005, .ref n3006, .int 0, .ref n3007, .ref n3008, .int 0, .int 0, .int 0, .int 0, .int 0, .int 0, .int 0, .ref n3009, .ref n3010, .int 0, .int 0, .ref n3011, .ref n3012, .int 0, .int 0, .ref n3013, .ref n3014, .ref n3015, .int 0, .ref n3016, .ref n3017, .ref n3018])), (n3016, .inl (cy 1, 4, .inl (upd (upd (upd (upd (fun _ => 0) 0 (-1)) 1 (-1)) 2 (-1)) 3 (-1))))] := hD
    refine lv_istore (lv' := [(5, .int 2), (4, .int 0), (3, .ref n5000), (2, .ref n3900), (1, .ref n1900), (0, .ref b)]) hx hb dL_law_2316 hl (by decide +kernel) rfl (fun ls hl => ?_)
    refine lv_aload_n hx hb dL_law_2318 rfl (lv_at hl 3 rfl) ?_
    refine lv_aload_n hx hb dL_law_2319 rfl (lv_at hl 5 rfl) ?_
    refine lv_iload hx hb dL_law_2320 (lv_at hl 1 rfl) ?_
    refine lv_iconst (v := 1) hx hb dL_law_2322 (by decide +kernel) ?_
    refine lv_iadd hx hb dL_law_2323 ?_
    refine top_i (v := 1) (by decide +kernel) ?_
    refine va_sld hx hb hX hbl hbA hS (i := 1) (vin (by decide +kernel)) dL_law_2324 ?_
    refine top_i (v := 3) ez1 ?_
    refine call_i (av := [.ref n3900, .int 3]) F hP hD hS [(n3900, .inr (12, [.ref n3000, .ref n3001, .ref n3002, .ref n3003, .int 0, .ref n3004, .int 0, .int 0, .int 0, .int 0, .int 0, .int 0, .int 0, .int 0, .int 0, .int (-1), .int 0, .ref n3005, .ref n3006, .int 0, .ref n3007, .ref n3008, .int 0, .int 0, .int 0, .int 0, .int 0, .int 0, .int 0, .ref n3009, .ref n3010, .int 0, .int 0, .ref n3011, .ref n3012, .int 0, .int 0, .ref n3013, .ref n3014, .ref n3015, .int 0, .ref n3016, .ref n3017, .ref n3018])), (n3016, .inl (cy 1, 4, .inl (upd (upd (upd (upd (fun _ => 0) 0 (-1)) 1 (-1)) 2 (-1)) 3 (-1))))] [] [0, 1] [] rfl rfl (by decide +kernel) (fun pr => va_runV (As := [.int 3]) (rest := []) ⟨hx, hb, hml, hown, hts⟩ (k210_X12_pour l D cy H.size n3900 3 n3016 n3000 n3001 n3002 n3003 n3004 n3005 n3006 n3007 n3008 n3009 n3010 n3011 n3012 n3013 n3014 n3015 n3017 n3018) (cwV 1 hts gw_X12_pour rfl rfl rfl (by decide +kernel) ⟨(by decide +kernel), (by decide +kernel)⟩) ⟨pr.1, va_recv hK hP (ci := 12) (q0 := 0) rfl rfl, pr.2⟩ rfl rfl hl.1 rfl (lv_room (Nat.le_of_ble_eq_true rfl)) dL_law_2325 ⟨(by decide +kernel), (by decide +kernel)⟩) (fun r u H locs hw hP hD hS => ?_)
    rcases hw with ⟨c800106, rfl, rfl⟩ | ⟨c800107, c800108, rfl, rfl⟩ | ⟨c800109, c800110, c800111, rfl, rfl⟩ | ⟨c800112, c800113, c800114, rfl, rfl⟩ | ⟨c800115, c800116, c800117, rfl, rfl⟩ | ⟨c800118, c800119, c800120, rfl, rfl⟩
    · exact absurd c800106 (by decide +kernel)
    · exact absurd c800108 (by decide +kernel)
    · exact absurd c800111 (by decide +kernel)
    · exact absurd c800114 (by decide +kernel)
    · exact absurd c800117 (by decide +kernel)
    · have hP : va_P D vwCl [(n3900, .inr (12, [.ref n3000, .ref n3001, .ref n3002, .ref n3003, .int 2, .ref n3004, .int 0, .int 0, .int 0, .int 0, .int 0, .int 0, .int 0, .int 0, .int 0, .int (-1), .int 0, .ref n3005, .ref n3006, .int 0, .ref n3007, .ref n3008, .int 0, .int 0, .int 0, .int 0, .int 0, .int 0, .int 0, .ref n3009, .ref n3010, .int 0, .int 0, .ref n3011, .ref n3012, .int 0, .int 0, .ref n3013, .ref n3014, .ref n3015, .int 0, .ref n3016, .ref n3017, .ref n3018])), (n3016, .inl (cy 1, 4, .inl (upd (upd (upd (upd (fun _ => 0) 0 (-1)) 1 (-1)) 2 (-1)) 3 (-1))))] H := hP
      have hD : va_D A [(n3900, .inr (12, [.ref n3000, .ref n3001, .ref n3002, .ref n3003, .int 2, .ref n3004, .int 0, .int 0, .int 0, .int 0, .int 0, .int 0, .int 0, .int 0, .int 0, .int (-1), .int 0, .ref n3005, .ref n3006, .int 0, .ref n3007, .ref n3008, .int 0, .int 0, .int 0, .int 0, .int 0, .int 0, .int 0, .ref n3009, .ref n3010, .int 0, .int 0, .ref n3011, .ref n3012, .int 0, .int 0, .ref n3013, .ref n3014, .ref n3015, .int 0, .ref n3016, .ref n3017, .ref n3018])), (n3016, .inl (cy 1, 4, .inl (upd (upd (upd (upd (fun _ => 0) 0 (-1)) 1 (-1)) 2 (-1)) 3 (-1))))] := hD
      refine lv_istore (lv' := [(6, .int 0), (5, .int 2), (4, .int 0), (3, .ref n5000), (2, .ref n3900), (1, .ref n1900), (0, .ref b)]) hx hb dL_law_2328 hl (by decide +kernel) rfl (fun ls hl => ?_)
      refine lv_aload_n hx hb dL_law_2330 rfl (lv_at hl 4 rfl) ?_
      refine call_i (av := [.ref n3900]) F hP hD hS [(n3900, .inr (12, [.ref n3000, .ref n3001, .ref n3002, .ref n3003, .int 2, .ref n3004, .int 0, .int 0, .int 0, .int 0, .int 0, .int 0, .int 0, .int 0, .int 0, .int (-1), .int 0, .ref n3005, .ref n3006, .int 0, .ref n3007, .ref n3008, .int 0, .int 0, .int 0, .int 0, .int 0, .int 0, .int 0, .ref n3009, .ref n3010, .int 0, .int 0, .ref n3011, .ref n3012, .int 0, .int 0, .ref n3013, .ref n3014, .ref n3015, .int 0, .ref n3016, .ref n3017, .ref n3018]))] [(n3016, .inl (cy 1, 4, .inl (upd (upd (upd (upd (fun _ => 0) 0 (-1)) 1 (-1)) 2 (-1)) 3 (-1))))] [0] [1] rfl rfl (by decide +kernel) (fun pr => va_runV (As := []) (rest := []) ⟨hx, hb, hml, hown, hts⟩ (k335_X12_thrown l D cy H.size n3900 n3000 n3001 n3002 n3003 n3004 n3005 n3006 n3007 n3008 n3009 n3010 n3011 n3012 n3013 n3014 n3015 n3016 n3017 n3018) (cwV 0 hts gw_X12_thrown rfl rfl rfl (by decide +kernel) ⟨(by decide +kernel), (by decide +kernel)⟩) ⟨pr.1, va_recv hK hP (ci := 12) (q0 := 0) rfl rfl, pr.2⟩ rfl rfl hl.1 rfl (lv_room (Nat.le_of_ble_eq_true rfl)) dL_law_2331 ⟨(by decide +kernel), (by decide +kernel)⟩) (fun r u H locs hw hP hD hS => ?_)
      rcases hw with ⟨rfl, rfl⟩
      have hP : va_P D vwCl [(n3016, .inl (cy 1, 4, .inl (upd (upd (upd (upd (fun _ => 0) 0 (-1)) 1 (-1)) 2 (-1)) 3 (-1)))), (n3900, .inr (12, [.ref n3000, .ref n3001, .ref n3002, .ref n3003, .int 2, .ref n3004, .int 0, .int 0, .int 0, .int 0, .int 0, .int 0, .int 0, .int 0, .int 0, .int (-1), .int 0, .ref n3005, .ref n3006, .int 0, .ref n3007, .ref n3008, .int 0, .int 0, .int 0, .int 0, .int 0, .int 0, .int 0, .ref n3009, .ref n3010, .int 0, .int 0, .ref n3011, .ref n3012, .int 0, .int 0, .ref n3013, .ref n3014, .ref n3015, .int 0, .ref n3016, .ref n3017, .ref n3018]))] H := hP
      have hD : va_D A [(n3016, .inl (cy 1, 4, .inl (upd (upd (upd (upd (fun _ => 0) 0 (-1)) 1 (-1)) 2 (-1)) 3 (-1)))), (n3900, .inr (12, [.ref n3000, .ref n3001, .ref n3002, .ref n3003, .int 2, .ref n3004, .int 0, .int 0, .int 0, .int 0, .int 0, .int 0, .int 0, .int 0, .int 0, .int (-1), .int 0, .ref n3005, .ref n3006, .int 0, .ref n3007, .ref n3008, .int 0, .int 0, .int 0, .int 0, .int 0, .int 0, .int 0, .ref n3009, .ref n3010, .int 0, .int 0, .ref n3011, .ref n3012, .int 0, .int 0, .ref n3013, .ref n3014, .ref n3015, .int 0, .ref n3016, .ref n3017, .ref n3018]))] := hD
      refine lv_iload hx hb dL_law_2334 (lv_at hl 1 rfl) ?_
      refine lv_icmp_eq (tgt := 2341) hx hb dL_law_2336 (by decide +kernel) (fun _ => ?_) (fun h => absurd (by decide +kernel) h)
      refine lv_iload hx hb dL_law_2341 (lv_at hl 1 rfl) ?_
      refine lv_if_ne (tgt := 2358) hx hb dL_law_2343 (by decide +kernel) (fun _ => ?_) (fun h => absurd h (by decide +kernel))
      refine lv_goto (tgt := 2458) hx hb dL_law_2358 (by decide +kernel) ?_
      refine lv_iinc (v := 6) (lv' := [(4, .int 6), (6, .int 0), (5, .int 2), (3, .ref n5000), (2, .ref n3900), (1, .ref n1900), (0, .ref b)]) hx hb dL_law_2458 hl (k := 2) rfl (by decide) (by decide +kernel) rfl (fun ls hl => ?_)
      refine lv_goto (tgt := 23) hx hb dL_law_2461 (by decide +kernel) ?_
      refine lv_iload hx hb dL_law_23 (lv_at hl 0 rfl) ?_
      refine lv_aload_n hx hb dL_law_25 rfl (lv_at hl 6 rfl) ?_
      refine va_slen hx hb hX hbl hbA hS dL_law_26 ?_
      refine top_i (v := 6) rfl ?_
      refine lv_bipush (v := 6) hx hb dL_law_27 (by decide +kernel) ?_
      refine lv_isub hx hb dL_law_29 ?_
      refine top_i (v := 0) (by decide +kernel) ?_
      refine lv_icmp_gt (tgt := 2464) hx hb dL_law_30 (by decide +kernel) (fun _ => ?_) (fun h => absurd (by decide +kernel) h)
      refine lv_iconst (v := 1) hx hb dL_law_2464 (by decide +kernel) ?_
      refine va_forget (fun q hq => hAq _ (hS.2.2 q hq)) ?_
      refine W.widen (k := 600002) (n := 7302232) (by decide +kernel) (by decide +kernel) ?_
      exact lw_ret hx hb hr hlk dL_law_2465
set_option maxHeartbeats 4000000 in
set_option maxRecDepth 100000 in
theorem law_c39 {p : Program} {l : Launch} {e : Env} {s : State} {m : MethodId} {below : List Frame} {meth : Method} {c : Code} {b : Nat} {xs : Nat → Int32} {D : va_G} {cy : Nat → ClassId} {A : Nat → Prop} (hlT : l.stackTraces = false) (F : Fx D cy p m c cL_law 8 s #[Value.ref b] lw_tbl RL A) (hr : meth.sig.returnType = ret) (hlk : meth.locks = false) (hX : va_X b 6 xs s s.heap) (hbl : b < s.heap.size) (hbA : ¬ A b) (hAq : ∀ q, A q → s.heap.size ≤ q) {H : Heap} {locs : List Loc} {ls : Array Slot} (n1900 n1000 n1001 n1017 n1034 n1039 n1041 n1042 n1043 n1044 n1048 n1056 n1057 n1002 n1003 n1004 n1005 n1006 n1007 n1008 n1009 n1010 n1011 n1012 n1013 n1014 n1015 n1016 n1035 n1036 n1037 n1038 n1040 n1062 n1082 n1102 n1063 n1079 n1080 n1064 n1065 n1066 n1067 n1068 n1069 n1070 n1071 n1072 n1073 n1074 n1075 n1076 n1077 n1078 n1081 n1083 n1099 n1100 n1084 n1085 n1086 n1087 n1088 n1089 n1090 n1091 n1092 n1093 n1094 n1095 n1096 n1097 n1098 n1101 n1103 n1119 n1120 n1104 n1105 n1106 n1107 n1108 n1109 n1110 n1111 n1112 n1113 n1114 n1115 n1116 n1117 n1118 n1121 n3900 n3000 n3001 n3002 n3003 n3004 n3005 n3006 n3007 n3008 n3009 n3010 n3011 n3012 n3013 n3014 n3015 n3016 n3017 n3018 n5000 : Nat) (hP : va_P D vwCl [(n1900, .inr (11, [.ref n1000, .int 0, .ref n1001, .ref n1017, .ref n1034, .ref n1039, .ref n1041, .ref n1042, .ref n1043, .ref n1044, .ref n1048, .ref n1056, .ref n1057, .int 0])), (n1001, .inr (9, [.int 0, .int 0, .int 0, .int 0, .int 0, .ref n1002, .ref n1003, .ref n1004, .ref n1005, .ref n1006, .ref n1007, .ref n1008, .int 0, .ref n1009, .ref n1010, .ref n1011, .ref n1012, .ref n1013])), (n1002, .inl (cy 1, 10, .inl (fun _ => 0))), (n1003, .inl (cy 1, 10, .inl (fun _ => 0))), (n1004, .inl (cy 1, 100, .inl (fun _ => 0))), (n1005, .inl (cy 1, 8, .inl (fun _ => 0))), (n1006, .inl (cy 1, 8, .inl (fun _ => 0))), (n1007, .inl (cy 1, 8, .inl (fun _ => 0))), (n1008, .inl (cy 1, 8, .inl (fun _ => 0))), (n1009, .inl (cy 1, 6, .inl (fun _ => 0))), (n1010, .inl (cy 1, 6, .inl (fun _ => 0))), (n1011, .inl (cy 1, 6, .inl (fun _ => 0))), (n1012, .inl (cy 1, 6, .inl (fun _ => 0))), (n1013, .inr (2, [.ref n1014, .int 0, .int 1, .ref n1015, .ref n1016])), (n1014, .inl (cy 1, 900, .inl (fun _ => 0))), (n1034, .inr (7, [.ref n1001, .ref n1035, .ref n1036, .ref n1037, .ref n1038, .int 0, .int 0])), (n1035, .inl (cy 1, 8, .inl (fun _ => 0))), (n1036, .inl (cy 1, 8, .inl (fun _ => 0))), (n1037, .inl (cy 1, 8, .inl (fun _ => 0))), (n1038, .inl (cy 1, 8, .inl (fun _ => 0))), (n1039, .inr (4, [.int 0, .int 0, .ref n1040])), (n1040, .inl (cy 1, 408, .inl (fun _ => 0))), (n1042, .inl (cy 4, 3, .inr (.inr (.inr (.inr (va_up (va_up (va_up (fun _ => none) 0 (some n1062)) 1 (some n1082)) 2 (some n1102))))))), (n1062, .inr (1, [.int 0, .ref n1063, .ref n1079, .ref n1080])), (n1063, .inr (9, [.int 0, .int 0, .int 0, .int 0, .int 0, .ref n1064, .ref n1065, .ref n1066, .ref n1067, .ref n1068, .ref n1069, .ref n1070, .int 0, .ref n1071, .ref n1072, .ref n1073, .ref n1074, .ref n1075])), (n1064, .inl (cy 1, 10, .inl (fun _ => 0))), (n1065, .inl (cy 1, 10, .inl (fun _ => 0))), (n1066, .inl (cy 1, 100, .inl (fun _ => 0))), (n1067, .inl (cy 1, 8, .inl (fun _ => 0))), (n1068, .inl (cy 1, 8, .inl (fun _ => 0))), (n1069, .inl (cy 1, 8, .inl (fun _ => 0))), (n1070, .inl (cy 1, 8, .inl (fun _ => 0))), (n1071, .inl (cy 1, 6, .inl (fun _ => 0))), (n1072, .inl (cy 1, 6, .inl (fun _ => 0))), (n1073, .inl (cy 1, 6, .inl (fun _ => 0))), (n1074, .inl (cy 1, 6, .inl (fun _ => 0))), (n1075, .inr (2, [.ref n1076, .int 0, .int 1, .ref n1077, .ref n1078])), (n1076, .inl (cy 1, 900, .inl (fun _ => 0))), (n1079, .inl (cy 1, 34, .inl (fun _ => 0))), (n1080, .inr (4, [.int 0, .int 0, .ref n1081])), (n1081, .inl (cy 1, 408, .inl (fun _ => 0))), (n1082, .inr (1, [.int 0, .ref n1083, .ref n1099, .ref n1100])), (n1083, .inr (9, [.int 0, .int 0, .int 0, .int 0, .int 0, .ref n1084, .ref n1085, .ref n1086, .ref n1087, .ref n1088, .ref n1089, .ref n1090, .int 0, .ref n1091, .ref n1092, .ref n1093, .ref n1094, .ref n1095])), (n1084, .inl (cy 1, 10, .inl (fun _ => 0))), (n1085, .inl (cy 1, 10, .inl (fun _ => 0))), (n1086, .inl (cy 1, 100, .inl (fun _ => 0))), (n1087, .inl (cy 1, 8, .inl (fun _ => 0))), (n1088, .inl (cy 1, 8, .inl (fun _ => 0))), (n1089, .inl (cy 1, 8, .inl (fun _ => 0))), (n1090, .inl (cy 1, 8, .inl (fun _ => 0))), (n1091, .inl (cy 1, 6, .inl (fun _ => 0))), (n1092, .inl (cy 1, 6, .inl (fun _ => 0))), (n1093, .inl (cy 1, 6, .inl (fun _ => 0))), (n1094, .inl (cy 1, 6, .inl (fun _ => 0))), (n1095, .inr (2, [.ref n1096, .int 0, .int 1, .ref n1097, .ref n1098])), (n1096, .inl (cy 1, 900, .inl (fun _ => 0))), (n1099, .inl (cy 1, 34, .inl (fun _ => 0))), (n1100, .inr (4, [.int 0, .int 0, .ref n1101])), (n1101, .inl (cy 1, 408, .inl (fun _ => 0))), (n1102, .inr (1, [.int 0, .ref n1103, .ref n1119, .ref n1120])), (n1103, .inr (9, [.int 0, .int 0, .int 0, .int 0, .int 0, .ref n1104, .ref n1105, .ref n1106, .ref n1107, .ref n1108, .ref n1109, .ref n1110, .int 0, .ref n1111, .ref n1112, .ref n1113, .ref n1114, .ref n1115])), (n1104, .inl (cy 1, 10, .inl (fun _ => 0))), (n1105, .inl (cy 1, 10, .inl (fun _ => 0))), (n1106, .inl (cy 1, 100, .inl (fun _ => 0))), (n1107, .inl (cy 1, 8, .inl (fun _ => 0))), (n1108, .inl (cy 1, 8, .inl (fun _ => 0))), (n1109, .inl (cy 1, 8, .inl (fun _ => 0))), (n1110, .inl (cy 1, 8, .inl (fun _ => 0))), (n1111, .inl (cy 1, 6, .inl (fun _ => 0))), (n1112, .inl (cy 1, 6, .inl (fun _ => 0))), (n1113, .inl (cy 1, 6, .inl (fun _ => 0))), (n1114, .inl (cy 1, 6, .inl (fun _ => 0))), (n1115, .inr (2, [.ref n1116, .int 0, .int 1, .ref n1117, .ref n1118])), (n1116, .inl (cy 1, 900, .inl (fun _ => 0))), (n1119, .inl (cy 1, 34, .inl (fun _ => 0))), (n1120, .inr (4, [.int 0, .int 0, .ref n1121])), (n1121, .inl (cy 1, 408, .inl (fun _ => 0))), (n3900, .inr (12, [.ref n3000, .ref n3001, .ref n3002, .ref n3003, .int 0, .ref n3004, .int 0, .int 0, .int 0, .int 0, .int 0, .int 0, .int 0, .int 0, .int 0, .int (-1), .int 0, .ref n3005, .ref n3006, .int 0, .ref n3007, .ref n3008, .int 0, .int 0, .int 0, .int 0, .int 0, .int 0, .int 0, .ref n3009, .ref n3010, .int 0, .int 0, .ref n3011, .ref n3012, .int 0, .int 0, .ref n3013, .ref n3014, .ref n3015, .int 0, .ref n3016, .ref n3017, .ref n3018])), (n3000, .inl (cy 1, 1300, .inl (fun _ => 0))), (n3002, .inl (cy 1, 3900, .inl (fun _ => 0))), (n3003, .inl (cy 3, 3, .inl (fun _ => 0)))] H) (hD : va_D A [(n1900, .inr (11, [.ref n1000, .int 0, .ref n1001, .ref n1017, .ref n1034, .ref n1039, .ref n1041, .ref n1042, .ref n1043, .ref n1044, .ref n1048, .ref n1056, .ref n1057, .int 0])), (n1001, .inr (9, [.int 0, .int 0, .int 0, .int 0, .int 0, .ref n1002, .ref n1003, .ref n1004, .ref n1005, .ref n1006, .ref n1007, .ref n1008, .int 0, .ref n1009, .ref n1010, .ref n1011, .ref n1012, .ref n1013])), (n1002, .inl (cy 1, 10, .inl (fun _ => 0))), (n1003, .inl (cy 1, 10, .inl (fun _ => 0))), (n1004, .inl (cy 1, 100, .inl (fun _ => 0))), (n1005, .inl (cy 1, 8, .inl (fun _ => 0))), (n1006, .inl (cy 1, 8, .inl (fun _ => 0))), (n1007, .inl (cy 1, 8, .inl (fun _ => 0))), (n1008, .inl (cy 1, 8, .inl (fun _ => 0))), (n1009, .inl (cy 1, 6, .inl (fun _ => 0))), (n1010, .inl (cy 1, 6, .inl (fun _ => 0))), (n1011, .inl (cy 1, 6, .inl (fun _ => 0))), (n1012, .inl (cy 1, 6, .inl (fun _ => 0))), (n1013, .inr (2, [.ref n1014, .int 0, .int 1, .ref n1015, .ref n1016])), (n1014, .inl (cy 1, 900, .inl (fun _ => 0))), (n1034, .inr (7, [.ref n1001, .ref n1035, .ref n1036, .ref n1037, .ref n1038, .int 0, .int 0])), (n1035, .inl (cy 1, 8, .inl (fun _ => 0))), (n1036, .inl (cy 1, 8, .inl (fun _ => 0))), (n1037, .inl (cy 1, 8, .inl (fun _ => 0))), (n1038, .inl (cy 1, 8, .inl (fun _ => 0))), (n1039, .inr (4, [.int 0, .int 0, .ref n1040])), (n1040, .inl (cy 1, 408, .inl (fun _ => 0))), (n1042, .inl (cy 4, 3, .inr (.inr (.inr (.inr (va_up (va_up (va_up (fun _ => none) 0 (some n1062)) 1 (some n1082)) 2 (some n1102))))))), (n1062, .inr (1, [.int 0, .ref n1063, .ref n1079, .ref n1080])), (n1063, .inr (9, [.int 0, .int 0, .int 0, .int 0, .int 0, .ref n1064, .ref n1065, .ref n1066, .ref n1067, .ref n1068, .ref n1069, .ref n1070, .int 0, .ref n1071, .ref n1072, .ref n1073, .ref n1074, .ref n1075])), (n1064, .inl (cy 1, 10, .inl (fun _ => 0))), (n1065, .inl (cy 1, 10, .inl (fun _ => 0))), (n1066, .inl (cy 1, 100, .inl (fun _ => 0))), (n1067, .inl (cy 1, 8, .inl (fun _ => 0))), (n1068, .inl (cy 1, 8, .inl (fun _ => 0))), (n1069, .inl (cy 1, 8, .inl (fun _ => 0))), (n1070, .inl (cy 1, 8, .inl (fun _ => 0))), (n1071, .inl (cy 1, 6, .inl (fun _ => 0))), (n1072, .inl (cy 1, 6, .inl (fun _ => 0))), (n1073, .inl (cy 1, 6, .inl (fun _ => 0))), (n1074, .inl (cy 1, 6, .inl (fun _ => 0))), (n1075, .inr (2, [.ref n1076, .int 0, .int 1, .ref n1077, .ref n1078])), (n1076, .inl (cy 1, 900, .inl (fun _ => 0))), (n1079, .inl (cy 1, 34, .inl (fun _ => 0))), (n1080, .inr (4, [.int 0, .int 0, .ref n1081])), (n1081, .inl (cy 1, 408, .inl (fun _ => 0))), (n1082, .inr (1, [.int 0, .ref n1083, .ref n1099, .ref n1100])), (n1083, .inr (9, [.int 0, .int 0, .int 0, .int 0, .int 0, .ref n1084, .ref n1085, .ref n1086, .ref n1087, .ref n1088, .ref n1089, .ref n1090, .int 0, .ref n1091, .ref n1092, .ref n1093, .ref n1094, .ref n1095])), (n1084, .inl (cy 1, 10, .inl (fun _ => 0))), (n1085, .inl (cy 1, 10, .inl (fun _ => 0))), (n1086, .inl (cy 1, 100, .inl (fun _ => 0))), (n1087, .inl (cy 1, 8, .inl (fun _ => 0))), (n1088, .inl (cy 1, 8, .inl (fun _ => 0))), (n1089, .inl (cy 1, 8, .inl (fun _ => 0))), (n1090, .inl (cy 1, 8, .inl (fun _ => 0))), (n1091, .inl (cy 1, 6, .inl (fun _ => 0))), (n1092, .inl (cy 1, 6, .inl (fun _ => 0))), (n1093, .inl (cy 1, 6, .inl (fun _ => 0))), (n1094, .inl (cy 1, 6, .inl (fun _ => 0))), (n1095, .inr (2, [.ref n1096, .int 0, .int 1, .ref n1097, .ref n1098])), (n1096, .inl (cy 1, 900, .inl (fun _ => 0))), (n1099, .inl (cy 1, 34, .inl (fun _ => 0))), (n1100, .inr (4, [.int 0, .int 0, .ref n1101])), (n1101, .inl (cy 1, 408, .inl (fun _ => 0))), (n1102, .inr (1, [.int 0, .ref n1103, .ref n1119, .ref n1120])), (n1103, .inr (9, [.int 0, .int 0, .int 0, .int 0, .int 0, .ref n1104, .ref n1105, .ref n1106, .ref n1107, .ref n1108, .ref n1109, .ref n1110, .int 0, .ref n1111, .ref n1112, .ref n1113, .ref n1114, .ref n1115])), (n1104, .inl (cy 1, 10, .inl (fun _ => 0))), (n1105, .inl (cy 1, 10, .inl (fun _ => 0))), (n1106, .inl (cy 1, 100, .inl (fun _ => 0))), (n1107, .inl (cy 1, 8, .inl (fun _ => 0))), (n1108, .inl (cy 1, 8, .inl (fun _ => 0))), (n1109, .inl (cy 1, 8, .inl (fun _ => 0))), (n1110, .inl (cy 1, 8, .inl (fun _ => 0))), (n1111, .inl (cy 1, 6, .inl (fun _ => 0))), (n1112, .inl (cy 1, 6, .inl (fun _ => 0))), (n1113, .inl (cy 1, 6, .inl (fun _ => 0))), (n1114, .inl (cy 1, 6, .inl (fun _ => 0))), (n1115, .inr (2, [.ref n1116, .int 0, .int 1, .ref n1117, .ref n1118])), (n1116, .inl (cy 1, 900, .inl (fun _ => 0))), (n1119, .inl (cy 1, 34, .inl (fun _ => 0))), (n1120, .inr (4, [.int 0, .int 0, .ref n1121])), (n1121, .inl (cy 1, 408, .inl (fun _ => 0))), (n3900, .inr (12, [.ref n3000, .ref n3001, .ref n3002, .ref n3003, .int 0, .ref n3004, .int 0, .int 0, .int 0, .int 0, .int 0, .int 0, .int 0, .int 0, .int 0, .int (-1), .int 0, .ref n3005, .ref n3006, .int 0, .ref n3007, .ref n3008, .int 0, .int 0, .int 0, .int 0, .int 0, .int 0, .int 0, .ref n3009, .ref n3010, .int 0, .int 0, .ref n3011, .ref n3012, .int 0, .int 0, .ref n3013, .ref n3014, .ref n3015, .int 0, .ref n3016, .ref n3017, .ref n3018])), (n3000, .inl (cy 1, 1300, .inl (fun _ => 0))), (n3002, .inl (cy 1, 3900, .inl (fun _ => 0))), (n3003, .inl (cy 3, 3, .inl (fun _ => 0)))]) (hS : va_S A s.heap H locs) (hl : lv_has ls 8 [(4, .int 0), (3, .ref n5000), (2, .ref n3900), (1, .ref n1900), (0, .ref b)]) : W p l e room_1 s m #[Value.ref b] below meth c H locs 152 18765 (lw_Z below #[Value.ref b] s) (F0 m 2361 ls []) := by
  obtain ⟨⟨hx, hb, hml, hown, hts⟩, hK, hG, hZ, hA⟩ := id F
  obtain ⟨z1, ez1⟩ : ∃ z, xs 1 = z := ⟨_, rfl⟩
  obtain ⟨z2, ez2⟩ : ∃ z, xs 2 = z := ⟨_, rfl⟩
  obtain ⟨z3, ez3⟩ : ∃ z, xs 3 = z := ⟨_, rfl⟩
  obtain ⟨z4, ez4⟩ : ∃ z, xs 4 = z := ⟨_, rfl⟩
  obtain ⟨z5, ez5⟩ : ∃ z, xs 5 = z := ⟨_, rfl⟩
  refine lv_aload_n hx hb dL_law_2361 rfl (lv_at hl 3 rfl) ?_
  refine lv_aload_n hx hb dL_law_2362 rfl (lv_at hl 4 rfl) ?_
  refine lv_iload hx hb dL_law_2363 (lv_at hl 0 rfl) ?_
  refine lv_iconst (v := 1) hx hb dL_law_2365 (by decide +kernel) ?_
  refine lv_iadd hx hb dL_law_2366 ?_
  refine top_i (v := 1) (by decide +kernel) ?_
  refine va_sld hx hb hX hbl hbA hS (i := 1) (vin (by decide +kernel)) dL_law_2367 ?_
  refine top_i (v := z1) ez1 ?_
  refine call_i (av := [.ref n1900, .int z1]) F hP hD hS [(n1900, .inr (11, [.ref n1000, .int 0, .ref n1001, .ref n1017, .ref n1034, .ref n1039, .ref n1041, .ref n1042, .ref n1043, .ref n1044, .ref n1048, .ref n1056, .ref n1057, .int 0])), (n1001, .inr (9, [.int 0, .int 0, .int 0, .int 0, .int 0, .ref n1002, .ref n1003, .ref n1004, .ref n1005, .ref n1006, .ref n1007, .ref n1008, .int 0, .ref n1009, .ref n1010, .ref n1011, .ref n1012, .ref n1013])), (n1002, .inl (cy 1, 10, .inl (fun _ => 0))), (n1003, .inl (cy 1, 10, .inl (fun _ => 0))), (n1004, .inl (cy 1, 100, .inl (fun _ => 0))), (n1005, .inl (cy 1, 8, .inl (fun _ => 0))), (n1006, .inl (cy 1, 8, .inl (fun _ => 0))), (n1007, .inl (cy 1, 8, .inl (fun _ => 0))), (n1008, .inl (cy 1, 8, .inl (fun _ => 0))), (n1009, .inl (cy 1, 6, .inl (fun _ => 0))), (n1010, .inl (cy 1, 6, .inl (fun _ => 0))), (n1011, .inl (cy 1, 6, .inl (fun _ => 0))), (n1012, .inl (cy 1, 6, .inl (fun _ => 0))), (n1013, .inr (2, [.ref n1014, .int 0, .int 1, .ref n1015, .ref n1016])), (n1014, .inl (cy 1, 900, .inl (fun _ => 0))), (n1034, .inr (7, [.ref n1001, .ref n1035, .ref n1036, .ref n1037, .ref n1038, .int 0, .int 0])), (n1035, .inl (cy 1, 8, .inl (fun _ => 0))), (n1036, .inl (cy 1, 8, .inl (fun _ => 0))), (n1037, .inl (cy 1, 8, .inl (fun _ => 0))), (n1038, .inl (cy 1, 8, .inl (fun _ => 0))), (n1039, .inr (4, [.int 0, .int 0, .ref n1040])), (n1040, .inl (cy 1, 408, .inl (fun _ => 0))), (n1042, .inl (cy 4, 3, .inr (.inr (.inr (.inr (va_up (va_up (va_up (fun _ => none) 0 (some n1062)) 1 (some n1082)) 2 (some n1102))))))), (n1062, .inr (1, [.int 0, .ref n1063, .ref n1079, .ref n1080])), (n1063, .inr (9, [.int 0, .int 0, .int 0, .int 0, .int 0, .ref n1064, .ref n1065, .ref n1066, .ref n1067, .ref n1068, .ref n1069, .ref n1070, .int 0, .ref n1071, .ref n1072, .ref n1073, .ref n1074, .ref n1075])), (n1064, .inl (cy 1, 10, .inl (fun _ => 0))), (n1065, .inl (cy 1, 10, .inl (fun _ => 0))), (n1066, .inl (cy 1, 100, .inl (fun _ => 0))), (n1067, .inl (cy 1, 8, .inl (fun _ => 0))), (n1068, .inl (cy 1, 8, .inl (fun _ => 0))), (n1069, .inl (cy 1, 8, .inl (fun _ => 0))), (n1070, .inl (cy 1, 8, .inl (fun _ => 0))), (n1071, .inl (cy 1, 6, .inl (fun _ => 0))), (n1072, .inl (cy 1, 6, .inl (fun _ => 0))), (n1073, .inl (cy 1, 6, .inl (fun _ => 0))), (n1074, .inl (cy 1, 6, .inl (fun _ => 0))), (n1075, .inr (2, [.ref n1076, .int 0, .int 1, .ref n1077, .ref n1078])), (n1076, .inl (cy 1, 900, .inl (fun _ => 0))), (n1079, .inl (cy 1, 34, .inl (fun _ => 0))), (n1080, .inr (4, [.int 0, .int 0, .ref n1081])), (n1081, .inl (cy 1, 408, .inl (fun _ => 0))), (n1082, .inr (1, [.int 0, .ref n1083, .ref n1099, .ref n1100])), (n1083, .inr (9, [.int 0, .int 0, .int 0, .int 0, .int 0, .ref n1084, .ref n1085, .ref n1086, .ref n1087, .ref n1088, .ref n1089, .ref n1090, .int 0, .ref n1091, .ref n1092, .ref n1093, .ref n1094, .ref n1095])), (n1084, .inl (cy 1, 10, .inl (fun _ => 0))), (n1085, .inl (cy 1, 10, .inl (fun _ => 0))), (n1086, .inl (cy 1, 100, .inl (fun _ => 0))), (n1087, .inl (cy 1, 8, .inl (fun _ => 0))), (n1088, .inl (cy 1, 8, .inl (fun _ => 0))), (n1089, .inl (cy 1, 8, .inl (fun _ => 0))), (n1090, .inl (cy 1, 8, .inl (fun _ => 0))), (n1091, .inl (cy 1, 6, .inl (fun _ => 0))), (n1092, .inl (cy 1, 6, .inl (fun _ => 0))), (n1093, .inl (cy 1, 6, .inl (fun _ => 0))), (n1094, .inl (cy 1, 6, .inl (fun _ => 0))), (n1095, .inr (2, [.ref n1096, .int 0, .int 1, .ref n1097, .ref n1098])), (n1096, .inl (cy 1, 900, .inl (fun _ => 0))), (n1099, .inl (cy 1, 34, .inl (fun _ => 0))), (n1100, .inr (4, [.int 0, .int 0, .ref n1101])), (n1101, .inl (cy 1, 408, .inl (fun _ => 0))), (n1102, .inr (1, [.int 0, .ref n1103, .ref n1119, .ref n1120])), (n1103, .inr (9, [.int 0, .int 0, .int 0, .int 0, .int 0, .ref n1104, .ref n1105, .ref n1106, .ref n1107, .ref n1108, .ref n1109, .ref n1110, .int 0, .ref n1111, .ref n1112, .ref n1113, .ref n1114, .ref n1115])), (n1104, .inl (cy 1, 10, .inl (fun _ => 0))), (n1105, .inl (cy 1, 10, .inl (fun _ => 0))), (n1106, .inl (cy 1, 100, .inl (fun _ => 0))), (n1107, .inl (cy 1, 8, .inl (fun _ => 0))), (n1108, .inl (cy 1, 8, .inl (fun _ => 0))), (n1109, .inl (cy 1, 8, .inl (fun _ => 0))), (n1110, .inl (cy 1, 8, .inl (fun _ => 0))), (n1111, .inl (cy 1, 6, .inl (fun _ => 0))), (n1112, .inl (cy 1, 6, .inl (fun _ => 0))), (n1113, .inl (cy 1, 6, .inl (fun _ => 0))), (n1114, .inl (cy 1, 6, .inl (fun _ => 0))), (n1115, .inr (2, [.ref n1116, .int 0, .int 1, .ref n1117, .ref n1118])), (n1116, .inl (cy 1, 900, .inl (fun _ => 0))), (n1119, .inl (cy 1, 34, .inl (fun _ => 0))), (n1120, .inr (4, [.int 0, .int 0, .ref n1121])), (n1121, .inl (cy 1, 408, .inl (fun _ => 0)))] [(n3900, .inr (12, [.ref n3000, .ref n3001, .ref n3002, .ref n3003, .int 0, .ref n3004, .int 0, .int 0, .int 0, .int 0, .int 0, .int 0, .int 0, .int 0, .int 0, .int (-1), .int 0, .ref n3005, .ref n3006, .int 0, .ref n3007, .ref n3008, .int 0, .int 0, .int 0, .int 0, .int 0, .int 0, .int 0, .ref n3009, .ref n3010, .int 0, .int 0, .ref n3011, .ref n3012, .int 0, .int 0, .ref n3013, .ref n3014, .ref n3015, .int 0, .ref n3016, .ref n3017, .ref n3018])), (n3000, .inl (cy 1, 1300, .inl (fun _ => 0))), (n3002, .inl (cy 1, 3900, .inl (fun _ => 0))), (n3003, .inl (cy 3, 3, .inl (fun _ => 0)))] [0, 1, 2, 3, 4, 5, 6, 7, 8, 9, 10, 11, 12, 13, 14, 15, 16, 17, 18, 19, 20, 21, 22, 23, 24, 25, 26, 27, 28, 29, 30, 31, 32, 33, 34, 35, 36, 37, 38, 39, 40, 41, 42, 43, 44, 45, 46, 47, 48, 49, 50, 51, 52, 53, 54, 55, 56, 57, 58, 59, 60, 61, 62, 63, 64, 65, 66, 67, 68, 69, 70, 71, 72, 73, 74, 75, 76] [77, 78, 79, 80] rfl rfl (by decide +kernel) (fun pr => vx_runSW (As := [.ref n1900, .int z1]) (rest := []) ⟨hx, hb, hml, hown, hts⟩ (k331_L_image l hlT D cy H.size n1900 z1 n1001 n1002 n1003 n1004 n1005 n1006 n1007 n1008 n1009 n1010 n1011 n1012 n1013 n1014 n1034 n1035 n1036 n1037 n1038 n1039 n1040 n1042 n1062 n1063 n1064 n1065 n1066 n1067 n1068 n1069 n1070 n1071 n1072 n1073 n1074 n1075 n1076 n1079 n1080 n1081 n1082 n1083 n1084 n1085 n1086 n1087 n1088 n1089 n1090 n1091 n1092 n1093 n1094 n1095 n1096 n1099 n1100 n1101 n1102 n1103 n1104 n1105 n1106 n1107 n1108 n1109 n1110 n1111 n1112 n1113 n1114 n1115 n1116 n1119 n1120 n1121 n1000 n1017 n1041 n1043 n1044 n1048 n1056 n1057 n1015 n1016 n1077 n1078 n1097 n1098 n1117 n1118) (vx_cwSW 2 hts gw_L_image rfl rfl rfl (by decide +kernel) ⟨(by decide +kernel), (by decide +kernel)⟩) pr rfl rfl hl.1 rfl (lv_room (Nat.le_of_ble_eq_true rfl)) dL_law_2368 ⟨(by decide +kernel), (by decide +kernel)⟩) (fun r u H locs hw hP hD hS => ?_)
  rcases hw with ⟨c800001, rfl, rfl⟩ | ⟨c800002, c800003, rfl, rfl⟩ | ⟨c800004, c800005, c800006, rfl, rfl⟩ | ⟨c800007, c800008, c800009, rfl, rfl⟩ | ⟨c800010, c800011, c800012, rfl, rfl⟩
  · have hP : va_P D vwCl [(n3900, .inr (12, [.ref n3000, .ref n3001, .ref n3002, .ref n3003, .int 0, .ref n3004, .int 0, .int 0, .int 0, .int 0, .int 0, .int 0, .int 0, .int 0, .int 0, .int (-1), .int 0, .ref n3005, .ref n3006, .int 0, .ref n3007, .ref n3008, .int 0, .int 0, .int 0, .int 0, .int 0, .int 0, .int 0, .ref n3009, .ref n3010, .int 0, .int 0, .ref n3011, .ref n3012, .int 0, .int 0, .ref n3013, .ref n3014, .ref n3015, .int 0, .ref n3016, .ref n3017, .ref n3018])), (n3000, .inl (cy 1, 1300, .inl (fun _ => 0))), (n3002, .inl (cy 1, 3900, .inl (fun _ => 0))), (n3003, .inl (cy 3, 3, .inl (fun _ => 0)))] H := hP
    have hD : va_D A [(n3900, .inr (12, [.ref n3000, .ref n3001, .ref n3002, .ref n3003, .int 0, .ref n3004, .int 0, .int 0, .int 0, .int 0, .int 0, .int 0, .int 0, .int 0, .int 0, .int (-1), .int 0, .ref n3005, .ref n3006, .int 0, .ref n3007, .ref n3008, .int 0, .int 0, .int 0, .int 0, .int 0, .int 0, .int 0, .ref n3009, .ref n3010, .int 0, .int 0, .ref n3011, .ref n3012, .int 0, .int 0, .ref n3013, .ref n3014, .ref n3015, .int 0, .ref n3016, .ref n3017, .ref n3018])), (n3000, .inl (cy 1, 1300, .inl (fun _ => 0))), (n3002, .inl (cy 1, 3900, .inl (fun _ => 0))), (n3003, .inl (cy 3, 3, .inl (fun _ => 0)))] := hD
    refine lv_istore (lv' := [(5, .int 1), (4, .int 0), (3, .ref n5000), (2, .ref n3900), (1, .ref n1900), (0, .ref b)]) hx hb dL_law_2371 hl (by decide +kernel) rfl (fun ls hl => ?_)
    refine lv_aload_n hx hb dL_law_2373 rfl (lv_at hl 3 rfl) ?_
    refine lv_aload_n hx hb dL_law_2374 rfl (lv_at hl 5 rfl) ?_
    refine lv_iload hx hb dL_law_2375 (lv_at hl 1 rfl) ?_
    refine lv_iconst (v := 1) hx hb dL_law_2377 (by decide +kernel) ?_
    refine lv_iadd hx hb dL_law_2378 ?_
    refine top_i (v := 1) (by decide +kernel) ?_
    refine va_sld hx hb hX hbl hbA hS (i := 1) (vin (by decide +kernel)) dL_law_2379 ?_
    refine top_i (v := z1) ez1 ?_
    refine call_v (av := [.ref n3900, .int z1]) F hP hD hS [(n3900, .inr (12, [.ref n3000, .ref n3001, .ref n3002, .ref n3003, .int 0, .ref n3004, .int 0, .int 0, .int 0, .int 0, .int 0, .int 0, .int 0, .int 0, .int 0, .int (-1), .int 0, .ref n3005, .ref n3006, .int 0, .ref n3007, .ref n3008, .int 0, .int 0, .int 0, .int 0, .int 0, .int 0, .int 0, .ref n3009, .ref n3010, .int 0, .int 0, .ref n3011, .ref n3012, .int 0, .int 0, .ref n3013, .ref n3014, .ref n3015, .int 0, .ref n3016, .ref n3017, .ref n3018])), (n3000, .inl (cy 1, 1300, .inl (fun _ => 0))), (n3002, .inl (cy 1, 3900, .inl (fun _ => 0))), (n3003, .inl (cy 3, 3, .inl (fun _ => 0)))] [] [0, 1, 2, 3] [] rfl rfl (by decide +kernel) (fun pr => va_runV (As := [.int z1]) (rest := []) ⟨hx, hb, hml, hown, hts⟩ (k226_X12_image l D cy H.size n3900 z1 n3000 n3002 n3003 n3001 n3004 n3005 n3006 n3007 n3008 n3009 n3010 n3011 n3012 n3013 n3014 n3015 n3016 n3017 n3018) (cwV 1 hts gw_X12_image rfl rfl rfl (by decide +kernel) ⟨(by decide +kernel), (by decide +kernel)⟩) ⟨pr.1, va_recv hK hP (ci := 12) (q0 := 0) rfl rfl, pr.2⟩ rfl rfl hl.1 rfl (lv_room (Nat.le_of_ble_eq_true rfl)) dL_law_2380 ⟨(by decide +kernel), (by decide +kernel)⟩) (fun u H locs hw hP hD hS => ?_)
    rcases hw with ⟨c800013, rfl⟩ | ⟨c800014, c800015, rfl⟩ | ⟨c800016, c800017, c800018, rfl⟩ | ⟨c800019, c800020, c800021, rfl⟩ | ⟨c800022, c800023, c800024, rfl⟩
    · have hP : va_P D vwCl [(n3900, .inr (12, [.ref n3000, .ref n3001, .ref n3002, .ref n3003, .int 1, .ref n3004, .int 0, .int 0, .int 0, .int 0, .int 0, .int 0, .int 0, .int 0, .int 0, .int (-1), .int 0, .ref n3005, .ref n3006, .int 0, .ref n3007, .ref n3008, .int 0, .int 0, .int 0, .int 0, .int 0, .int 0, .int 0, .ref n3009, .ref n3010, .int 0, .int 0, .ref n3011, .ref n3012, .int 0, .int 0, .ref n3013, .ref n3014, .ref n3015, .int 0, .ref n3016, .ref n3017, .ref n3018])), (n3000, .inl (cy 1, 1300, .inl (fun _ => 0))), (n3002, .inl (cy 1, 3900, .inl (fun _ => 0))), (n3003, .inl (cy 3, 3, .inl (fun _ => 0)))] H := hP
      have hD : va_D A [(n3900, .inr (12, [.ref n3000, .ref n3001, .ref n3002, .ref n3003, .int 1, .ref n3004, .int 0, .int 0, .int 0, .int 0, .int 0, .int 0, .int 0, .int 0, .int 0, .int (-1), .int 0, .ref n3005, .ref n3006, .int 0, .ref n3007, .ref n3008, .int 0, .int 0, .int 0, .int 0, .int 0, .int 0, .int 0, .ref n3009, .ref n3010, .int 0, .int 0, .ref n3011, .ref n3012, .int 0, .int 0, .ref n3013, .ref n3014, .ref n3015, .int 0, .ref n3016, .ref n3017, .ref n3018])), (n3000, .inl (cy 1, 1300, .inl (fun _ => 0))), (n3002, .inl (cy 1, 3900, .inl (fun _ => 0))), (n3003, .inl (cy 3, 3, .inl (fun _ => 0)))] := hD
      refine lv_aload_n hx hb dL_law_2383 rfl (lv_at hl 3 rfl) ?_
      refine call_i (av := [.ref n3900]) F hP hD hS [(n3900, .inr (12, [.ref n3000, .ref n3001, .ref n3002, .ref n3003, .int 1, .ref n3004, .int 0, .int 0, .int 0, .int 0, .int 0, .int 0, .int 0, .int 0, .int 0, .int (-1), .int 0, .ref n3005, .ref n3006, .int 0, .ref n3007, .ref n3008, .int 0, .int 0, .int 0, .int 0, .int 0, .int 0, .int 0, .ref n3009, .ref n3010, .int 0, .int 0, .ref n3011, .ref n3012, .int 0, .int 0, .ref n3013, .ref n3014, .ref n3015, .int 0, .ref n3016, .ref n3017, .ref n3018]))] [(n3000, .inl (cy 1, 1300, .inl (fun _ => 0))), (n3002, .inl (cy 1, 3900, .inl (fun _ => 0))), (n3003, .inl (cy 3, 3, .inl (fun _ => 0)))] [0] [1, 2, 3] rfl rfl (by decide +kernel) (fun pr => va_runV (As := []) (rest := []) ⟨hx, hb, hml, hown, hts⟩ (k333_X12_thrown l D cy H.size n3900 n3000 n3001 n3002 n3003 n3004 n3005 n3006 n3007 n3008 n3009 n3010 n3011 n3012 n3013 n3014 n3015 n3016 n3017 n3018) (cwV 0 hts gw_X12_thrown rfl rfl rfl (by decide +kernel) ⟨(by decide +kernel), (by decide +kernel)⟩) ⟨pr.1, va_recv hK hP (ci := 12) (q0 := 0) rfl rfl, pr.2⟩ rfl rfl hl.1 rfl (lv_room (Nat.le_of_ble_eq_true rfl)) dL_law_2384 ⟨(by decide +kernel), (by decide +kernel)⟩) (fun r u H locs hw hP hD hS => ?_)
      rcases hw with ⟨rfl, rfl⟩
      have hP : va_P D vwCl [(n3000, .inl (cy 1, 1300, .inl (fun _ => 0))), (n3002, .inl (cy 1, 3900, .inl (fun _ => 0))), (n3003, .inl (cy 3, 3, .inl (fun _ => 0))), (n3900, .inr (12, [.ref n3000, .ref n3001, .ref n3002, .ref n3003, .int 1, .ref n3004, .int 0, .int 0, .int 0, .int 0, .int 0, .int 0, .int 0, .int 0, .int 0, .int (-1), .int 0, .ref n3005, .ref n3006, .int 0, .ref n3007, .ref n3008, .int 0, .int 0, .int 0, .int 0, .int 0, .int 0, .int 0, .ref n3009, .ref n3010, .int 0, .int 0, .ref n3011, .ref n3012, .int 0, .int 0, .ref n3013, .ref n3014, .ref n3015, .int 0, .ref n3016, .ref n3017, .ref n3018]))] H := hP
      have hD : va_D A [(n3000, .inl (cy 1, 1300, .inl (fun _ => 0))), (n3002, .inl (cy 1, 3900, .inl (fun _ => 0))), (n3003, .inl (cy 3, 3, .inl (fun _ => 0))), (n3900, .inr (12, [.ref n3000, .ref n3001, .ref n3002, .ref n3003, .int 1, .ref n3004, .int 0, .int 0, .int 0, .int 0, .int 0, .int 0, .int 0, .int 0, .int 0, .int (-1), .int 0, .ref n3005, .ref n3006, .int 0, .ref n3007, .ref n3008, .int 0, .int 0, .int 0, .int 0, .int 0, .int 0, .int 0, .ref n3009, .ref n3010, .int 0, .int 0, .ref n3011, .ref n3012, .int 0, .int 0, .ref n3013, .ref n3014, .ref n3015, .int 0, .ref n3016, .ref n3017, .ref n3018]))] := hD
      refine lv_iload hx hb dL_law_2387 (lv_at hl 0 rfl) ?_
      refine lv_icmp_eq (tgt := 2394) hx hb dL_law_2389 (by decide +kernel) (fun _ => ?_) (fun h => absurd (by decide +kernel) h)
      refine lv_goto (tgt := 2458) hx hb dL_law_2394 (by decide +kernel) ?_
      refine lv_iinc (v := 6) (lv' := [(4, .int 6), (5, .int 1), (3, .ref n5000), (2, .ref n3900), (1, .ref n1900), (0, .ref b)]) hx hb dL_law_2458 hl (k := 1) rfl (by decide) (by decide +kernel) rfl (fun ls hl => ?_)
      refine lv_goto (tgt := 23) hx hb dL_law_2461 (by decide +kernel) ?_
      refine lv_iload hx hb dL_law_23 (lv_at hl 0 rfl) ?_
      refine lv_aload_n hx hb dL_law_25 rfl (lv_at hl 5 rfl) ?_
      refine va_slen hx hb hX hbl hbA hS dL_law_26 ?_
      refine top_i (v := 6) rfl ?_
      refine lv_bipush (v := 6) hx hb dL_law_27 (by decide +kernel) ?_
      refine lv_isub hx hb dL_law_29 ?_
      refine top_i (v := 0) (by decide +kernel) ?_
      refine lv_icmp_gt (tgt := 2464) hx hb dL_law_30 (by decide +kernel) (fun _ => ?_) (fun h => absurd (by decide +kernel) h)
      refine lv_iconst (v := 1) hx hb dL_law_2464 (by decide +kernel) ?_
      refine va_forget (fun q hq => hAq _ (hS.2.2 q hq)) ?_
      refine W.widen (k := 600002) (n := 7302232) (by decide +kernel) (by decide +kernel) ?_
      exact lw_ret hx hb hr hlk dL_law_2465
    · exact (no_b (lo_nlt_w c800014) (up_lt c800001) (by decide +kernel)).elim
    · exact (no_b (lo_nlt_w c800016) (up_lt c800001) (by decide +kernel)).elim
    · exact (no_b (lo_nlt_w c800019) (up_lt c800001) (by decide +kernel)).elim
    · exact (no_b (lo_nlt_w c800022) (up_lt c800001) (by decide +kernel)).elim
  · have hP : va_P D vwCl [(n3900, .inr (12, [.ref n3000, .ref n3001, .ref n3002, .ref n3003, .int 0, .ref n3004, .int 0, .int 0, .int 0, .int 0, .int 0, .int 0, .int 0, .int 0, .int 0, .int (-1), .int 0, .ref n3005, .ref n3006, .int 0, .ref n3007, .ref n3008, .int 0, .int 0, .int 0, .int 0, .int 0, .int 0, .int 0, .ref n3009, .ref n3010, .int 0, .int 0, .ref n3011, .ref n3012, .int 0, .int 0, .ref n3013, .ref n3014, .ref n3015, .int 0, .ref n3016, .ref n3017, .ref n3018])), (n3000, .inl (cy 1, 1300, .inl (fun _ => 0))), (n3002, .inl (cy 1, 3900, .inl (fun _ => 0))), (n3003, .inl (cy 3, 3, .inl (fun _ => 0)))] H := hP
    have hD : va_D A [(n3900, .inr (12, [.ref n3000, .ref n3001, .ref n3002, .ref n3003, .int 0, .ref n3004, .int 0, .int 0, .int 0, .int 0, .int 0, .int 0, .int 0, .int 0, .int 0, .int (-1), .int 0, .ref n3005, .ref n3006, .int 0, .ref n3007, .ref n3008, .int 0, .int 0, .int 0, .int 0, .int 0, .int 0, .int 0, .ref n3009, .ref n3010, .int 0, .int 0, .ref n3011, .ref n3012, .int 0, .int 0, .ref n3013, .ref n3014, .ref n3015, .int 0, .ref n3016, .ref n3017, .ref n3018])), (n3000, .inl (cy 1, 1300, .inl (fun _ => 0))), (n3002, .inl (cy 1, 3900, .inl (fun _ => 0))), (n3003, .inl (cy 3, 3, .inl (fun _ => 0)))] := hD
    refine lv_istore (lv' := [(5, .int 1), (4, .int 0), (3, .ref n5000), (2, .ref n3900), (1, .ref n1900), (0, .ref b)]) hx hb dL_law_2371 hl (by decide +kernel) rfl (fun ls hl => ?_)
    refine lv_aload_n hx hb dL_law_2373 rfl (lv_at hl 3 rfl) ?_
    refine lv_aload_n hx hb dL_law_2374 rfl (lv_at hl 5 rfl) ?_
    refine lv_iload hx hb dL_law_2375 (lv_at hl 1 rfl) ?_
    refine lv_iconst (v := 1) hx hb dL_law_2377 (by decide +kernel) ?_
    refine lv_iadd hx hb dL_law_2378 ?_
    refine top_i (v := 1) (by decide +kernel) ?_
    refine va_sld hx hb hX hbl hbA hS (i := 1) (vin (by decide +kernel)) dL_law_2379 ?_
    refine top_i (v := z1) ez1 ?_
    refine call_v (av := [.ref n3900, .int z1]) F hP hD hS [(n3900, .inr (12, [.ref n3000, .ref n3001, .ref n3002, .ref n3003, .int 0, .ref n3004, .int 0, .int 0, .int 0, .int 0, .int 0, .int 0, .int 0, .int 0, .int 0, .int (-1), .int 0, .ref n3005, .ref n3006, .int 0, .ref n3007, .ref n3008, .int 0, .int 0, .int 0, .int 0, .int 0, .int 0, .int 0, .ref n3009, .ref n3010, .int 0, .int 0, .ref n3011, .ref n3012, .int 0, .int 0, .ref n3013, .ref n3014, .ref n3015, .int 0, .ref n3016, .ref n3017, .ref n3018])), (n3000, .inl (cy 1, 1300, .inl (fun _ => 0))), (n3002, .inl (cy 1, 3900, .inl (fun _ => 0))), (n3003, .inl (cy 3, 3, .inl (fun _ => 0)))] [] [0, 1, 2, 3] [] rfl rfl (by decide +kernel) (fun pr => va_runV (As := [.int z1]) (rest := []) ⟨hx, hb, hml, hown, hts⟩ (k226_X12_image l D cy H.size n3900 z1 n3000 n3002 n3003 n3001 n3004 n3005 n3006 n3007 n3008 n3009 n3010 n3011 n3012 n3013 n3014 n3015 n3016 n3017 n3018) (cwV 1 hts gw_X12_image rfl rfl rfl (by decide +kernel) ⟨(by decide +kernel), (by decide +kernel)⟩) ⟨pr.1, va_recv hK hP (ci := 12) (q0 := 0) rfl rfl, pr.2⟩ rfl rfl hl.1 rfl (lv_room (Nat.le_of_ble_eq_true rfl)) dL_law_2380 ⟨(by decide +kernel), (by decide +kernel)⟩) (fun u H locs hw hP hD hS => ?_)
    rcases hw with ⟨c800027, rfl⟩ | ⟨c800028, c800029, rfl⟩ | ⟨c800030, c800031, c800032, rfl⟩ | ⟨c800033, c800034, c800035, rfl⟩ | ⟨c800036, c800037, c800038, rfl⟩
    · exact (no_b (lo_nlt c800003) (up_lt_w c800027) (by decide +kernel)).elim
    · have hP : va_P D vwCl [(n3900, .inr (12, [.ref n3000, .ref n3001, .ref n3002, .ref n3003, .int 1, .ref n3004, .int 0, .int 0, .int 0, .int 0, .int 0, .int 0, .int 0, .int 0, .int 0, .int (-1), .int 0, .ref n3005, .ref n3006, .int 0, .ref n3007, .ref n3008, .int 0, .int 0, .int 0, .int 0, .int 0, .int 0, .int 0, .ref n3009, .ref n3010, .int 0, .int 0, .ref n3011, .ref n3012, .int 0, .int 0, .ref n3013, .ref n3014, .ref n3015, .int 0, .ref n3016, .ref n3017, .ref n3018])), (n3000, .inl (cy 1, 1300, .inl (fun _ => 0))), (n3002, .inl (cy 1, 3900, .inl (fun _ => 0))), (n3003, .inl (cy 3, 3, .inl (fun _ => 0)))] H := hP
      have hD : va_D A [(n3900, .inr (12, [.ref n3000, .ref n3001, .ref n3002, .ref n3003, .int 1, .ref n3004, .int 0, .int 0, .int 0, .int 0, .int 0, .int 0, .int 0, .int 0, .int 0, .int (-1), .int 0, .ref n3005, .ref n3006, .int 0, .ref n3007, .ref n3008, .int 0, .int 0, .int 0, .int 0, .int 0, .int 0, .int 0, .ref n3009, .ref n3010, .int 0, .int 0, .ref n3011, .ref n3012, .int 0, .int 0, .ref n3013, .ref n3014, .ref n3015, .int 0, .ref n3016, .ref n3017, .ref n3018])), (n3000, .inl (cy 1, 1300, .inl (fun _ => 0))), (n3002, .inl (cy 1, 3900, .inl (fun _ => 0))), (n3003, .inl (cy 3, 3, .inl (fun _ => 0)))] := hD
      refine lv_aload_n hx hb dL_law_2383 rfl (lv_at hl 3 rfl) ?_
      refine call_i (av := [.ref n3900]) F hP hD hS [(n3900, .inr (12, [.ref n3000, .ref n3001, .ref n3002, .ref n3003, .int 1, .ref n3004, .int 0, .int 0, .int 0, .int 0, .int 0, .int 0, .int 0, .int 0, .int 0, .int (-1), .int 0, .ref n3005, .ref n3006, .int 0, .ref n3007, .ref n3008, .int 0, .int 0, .int 0, .int 0, .int 0, .int 0, .int 0, .ref n3009, .ref n3010, .int 0, .int 0, .ref n3011, .ref n3012, .int 0, .int 0, .ref n3013, .ref n3014, .ref n3015, .int 0, .ref n3016, .ref n3017, .ref n3018]))] [(n3000, .inl (cy 1, 1300, .inl (fun _ => 0))), (n3002, .inl (cy 1, 3900, .inl (fun _ => 0))), (n3003, .inl (cy 3, 3, .inl (fun _ => 0)))] [0] [1, 2, 3] rfl rfl (by decide +kernel) (fun pr => va_runV (As := []) (rest := []) ⟨hx, hb, hml, hown, hts⟩ (k333_X12_thrown l D cy H.size n3900 n3000 n3001 n3002 n3003 n3004 n3005 n3006 n3007 n3008 n3009 n3010 n3011 n3012 n3013 n3014 n3015 n3016 n3017 n3018) (cwV 0 hts gw_X12_thrown rfl rfl rfl (by decide +kernel) ⟨(by decide +kernel), (by decide +kernel)⟩) ⟨pr.1, va_recv hK hP (ci := 12) (q0 := 0) rfl rfl, pr.2⟩ rfl rfl hl.1 rfl (lv_room (Nat.le_of_ble_eq_true rfl)) dL_law_2384 ⟨(by decide +kernel), (by decide +kernel)⟩) (fun r u H locs hw hP hD hS => ?_)
      rcases hw with ⟨rfl, rfl⟩
      have hP : va_P D vwCl [(n3000, .inl (cy 1, 1300, .inl (fun _ => 0))), (n3002, .inl (cy 1, 3900, .inl (fun _ => 0))), (n3003, .inl (cy 3, 3, .inl (fun _ => 0))), (n3900, .inr (12, [.ref n3000, .ref n3001, .ref n3002, .ref n3003, .int 1, .ref n3004, .int 0, .int 0, .int 0, .int 0, .int 0, .int 0, .int 0, .int 0, .int 0, .int (-1), .int 0, .ref n3005, .ref n3006, .int 0, .ref n3007, .ref n3008, .int 0, .int 0, .int 0, .int 0, .int 0, .int 0, .int 0, .ref n3009, .ref n3010, .int 0, .int 0, .ref n3011, .ref n3012, .int 0, .int 0, .ref n3013, .ref n3014, .ref n3015, .int 0, .ref n3016, .ref n3017, .ref n3018]))] H := hP
      have hD : va_D A [(n3000, .inl (cy 1, 1300, .inl (fun _ => 0))), (n3002, .inl (cy 1, 3900, .inl (fun _ => 0))), (n3003, .inl (cy 3, 3, .inl (fun _ => 0))), (n3900, .inr (12, [.ref n3000, .ref n3001, .ref n3002, .ref n3003, .int 1, .ref n3004, .int 0, .int 0, .int 0, .int 0, .int 0, .int 0, .int 0, .int 0, .int 0, .int (-1), .int 0, .ref n3005, .ref n3006, .int 0, .ref n3007, .ref n3008, .int 0, .int 0, .int 0, .int 0, .int 0, .int 0, .int 0, .ref n3009, .ref n3010, .int 0, .int 0, .ref n3011, .ref n3012, .int 0, .int 0, .ref n3013, .ref n3014, .ref n3015, .int 0, .ref n3016, .ref n3017, .ref n3018]))] := hD
      refine lv_iload hx hb dL_law_2387 (lv_at hl 0 rfl) ?_
      refine lv_icmp_eq (tgt := 2394) hx hb dL_law_2389 (by decide +kernel) (fun _ => ?_) (fun h => absurd (by decide +kernel) h)
      refine lv_goto (tgt := 2458) hx hb dL_law_2394 (by decide +kernel) ?_
      refine lv_iinc (v := 6) (lv' := [(4, .int 6), (5, .int 1), (3, .ref n5000), (2, .ref n3900), (1, .ref n1900), (0, .ref b)]) hx hb dL_law_2458 hl (k := 1) rfl (by decide) (by decide +kernel) rfl (fun ls hl => ?_)
      refine lv_goto (tgt := 23) hx hb dL_law_2461 (by decide +kernel) ?_
      refine lv_iload hx hb dL_law_23 (lv_at hl 0 rfl) ?_
      refine lv_aload_n hx hb dL_law_25 rfl (lv_at hl 5 rfl) ?_
      refine va_slen hx hb hX hbl hbA hS dL_law_26 ?_
      refine top_i (v := 6) rfl ?_
      refine lv_bipush (v := 6) hx hb dL_law_27 (by decide +kernel) ?_
      refine lv_isub hx hb dL_law_29 ?_
      refine top_i (v := 0) (by decide +kernel) ?_
      refine lv_icmp_gt (tgt := 2464) hx hb dL_law_30 (by decide +kernel) (fun _ => ?_) (fun h => absurd (by decide +kernel) h)
      refine lv_iconst (v := 1) hx hb dL_law_2464 (by decide +kernel) ?_
      refine va_forget (fun q hq => hAq _ (hS.2.2 q hq)) ?_
      refine W.widen (k := 600002) (n := 7302232) (by decide +kernel) (by decide +kernel) ?_
      exact lw_ret hx hb hr hlk dL_law_2465
    · exact (no_b (lo_nlt c800003) (up_nlt_w c800031) (by decide +kernel)).elim
    · exact (no_b (lo_nlt c800003) (up_nlt_w c800034) (by decide +kernel)).elim
    · exact (no_b (lo_nlt c800003) (up_nlt_w c800037) (by decide +kernel)).elim
  · subst c800006
    have hP : va_P D vwCl [(n3900, .inr (12, [.ref n3000, .ref n3001, .ref n3002, .ref n3003, .int 0, .ref n3004, .int 0, .int 0, .int 0, .int 0, .int 0, .int 0, .int 0, .int 0, .int 0, .int (-1), .int 0, .ref n3005, .ref n3006, .int 0, .ref n3007, .ref n3008, .int 0, .int 0, .int 0, .int 0, .int 0, .int 0, .int 0, .ref n3009, .ref n3010, .int 0, .int 0, .ref n3011, .ref n3012, .int 0, .int 0, .ref n3013, .ref n3014, .ref n3015, .int 0, .ref n3016, .ref n3017, .ref n3018])), (n3000, .inl (cy 1, 1300, .inl (fun _ => 0))), (n3002, .inl (cy 1, 3900, .inl (fun _ => 0))), (n3003, .inl (cy 3, 3, .inl (fun _ => 0)))] H := hP
    have hD : va_D A [(n3900, .inr (12, [.ref n3000, .ref n3001, .ref n3002, .ref n3003, .int 0, .ref n3004, .int 0, .int 0, .int 0, .int 0, .int 0, .int 0, .int 0, .int 0, .int 0, .int (-1), .int 0, .ref n3005, .ref n3006, .int 0, .ref n3007, .ref n3008, .int 0, .int 0, .int 0, .int 0, .int 0, .int 0, .int 0, .ref n3009, .ref n3010, .int 0, .int 0, .ref n3011, .ref n3012, .int 0, .int 0, .ref n3013, .ref n3014, .ref n3015, .int 0, .ref n3016, .ref n3017, .ref n3018])), (n3000, .inl (cy 1, 1300, .inl (fun _ => 0))), (n3002, .inl (cy 1, 3900, .inl (fun _ => 0))), (n3003, .inl (cy 3, 3, .inl (fun _ => 0)))] := hD
    refine lv_istore (lv' := [(5, .int 0), (4, .int 0), (3, .ref n5000), (2, .ref n3900), (1, .ref n1900), (0, .ref b)]) hx hb dL_law_2371 hl (by decide +kernel) rfl (fun ls hl => ?_)
    refine lv_aload_n hx hb dL_law_2373 rfl (lv_at hl 3 rfl) ?_
    refine lv_aload_n hx hb dL_law_2374 rfl (lv_at hl 5 rfl) ?_
    refine lv_iload hx hb dL_law_2375 (lv_at hl 1 rfl) ?_
    refine lv_iconst (v := 1) hx hb dL_law_2377 (by decide +kernel) ?_
    refine lv_iadd hx hb dL_law_2378 ?_
    refine top_i (v := 1) (by decide +kernel) ?_
    refine va_sld hx hb hX hbl hbA hS (i := 1) (vin (by decide +kernel)) dL_law_2379 ?_
    refine top_i (v := 0) ez1 ?_
    refine call_v (av := [.ref n3900, .int 0]) F hP hD hS [(n3900, .inr (12, [.ref n3000, .ref n3001, .ref n3002, .ref n3003, .int 0, .ref n3004, .int 0, .int 0, .int 0, .int 0, .int 0, .int 0, .int 0, .int 0, .int 0, .int (-1), .int 0, .ref n3005, .ref n3006, .int 0, .ref n3007, .ref n3008, .int 0, .int 0, .int 0, .int 0, .int 0, .int 0, .int 0, .ref n3009, .ref n3010, .int 0, .int 0, .ref n3011, .ref n3012, .int 0, .int 0, .ref n3013, .ref n3014, .ref n3015, .int 0, .ref n3016, .ref n3017, .ref n3018])), (n3000, .inl (cy 1, 1300, .inl (fun _ => 0))), (n3002, .inl (cy 1, 3900, .inl (fun _ => 0))), (n3003, .inl (cy 3, 3, .inl (fun _ => 0)))] [] [0, 1, 2, 3] [] rfl rfl (by decide +kernel) (fun pr => va_runV (As := [.int 0]) (rest := []) ⟨hx, hb, hml, hown, hts⟩ (k226_X12_image l D cy H.size n3900 0 n3000 n3002 n3003 n3001 n3004 n3005 n3006 n3007 n3008 n3009 n3010 n3011 n3012 n3013 n3014 n3015 n3016 n3017 n3018) (cwV 1 hts gw_X12_image rfl rfl rfl (by decide +kernel) ⟨(by decide +kernel), (by decide +kernel)⟩) ⟨pr.1, va_recv hK hP (ci := 12) (q0 := 0) rfl rfl, pr.2⟩ rfl rfl hl.1 rfl (lv_room (Nat.le_of_ble_eq_true rfl)) dL_law_2380 ⟨(by decide +kernel), (by decide +kernel)⟩) (fun u H locs hw hP hD hS => ?_)
    rcases hw with ⟨c800041, rfl⟩ | ⟨c800042, c800043, rfl⟩ | ⟨c800044, c800045, c800046, rfl⟩ | ⟨c800047, c800048, c800049, rfl⟩ | ⟨c800050, c800051, c800052, rfl⟩
    · exact absurd c800041 (by decide +kernel)
    · exact absurd c800043 (by decide +kernel)
    · have hP : va_P D vwCl [(n3900, .inr (12, [.ref n3000, .ref n3001, .ref n3002, .ref n3003, .int 0, .ref n3004, .int 0, .int 0, .int 0, .int 0, .int 0, .int 0, .int 0, .int 0, .int 0, .int (-1), .int 0, .ref n3005, .ref n3006, .int 0, .ref n3007, .ref n3008, .int 0, .int 0, .int 0, .int 0, .int 0, .int 0, .int 0, .ref n3009, .ref n3010, .int 0, .int 0, .ref n3011, .ref n3012, .int 0, .int 0, .ref n3013, .ref n3014, .ref n3015, .int 0, .ref n3016, .ref n3017, .ref n3018])), (n3000, .inl (cy 1, 1300, .inl (fun _ => 0))), (n3002, .inl (cy 1, 3900, .inl (fun _ => 0))), (n3003, .inl (cy 3, 3, .inl (upd (fun _ => 0) 0 1)))] H := hP
      have hD : va_D A [(n3900, .inr (12, [.ref n3000, .ref n3001, .ref n3002, .ref n3003, .int 0, .ref n3004, .int 0, .int 0, .int 0, .int 0, .int 0, .int 0, .int 0, .int 0, .int 0, .int (-1), .int 0, .ref n3005, .ref n3006, .int 0, .ref n3007, .ref n3008, .int 0, .int 0, .int 0, .int 0, .int 0, .int 0, .int 0, .ref n3009, .ref n3010, .int 0, .int 0, .ref n3011, .ref n3012, .int 0, .int 0, .ref n3013, .ref n3014, .ref n3015, .int 0, .ref n3016, .ref n3017, .ref n3018])), (n3000, .inl (cy 1, 1300, .inl (fun _ => 0))), (n3002, .inl (cy 1, 3900, .inl (fun _ => 0))), (n3003, .inl (cy 3, 3, .inl (upd (fun _ => 0) 0 1)))] := hD
      refine lv_aload_n hx hb dL_law_2383 rfl (lv_at hl 3 rfl) ?_
      refine call_i (av := [.ref n3900]) F hP hD hS [(n3900, .inr (12, [.ref n3000, .ref n3001, .ref n3002, .ref n3003, .int 0, .ref n3004, .int 0, .int 0, .int 0, .int 0, .int 0, .int 0, .int 0, .int 0, .int 0, .int (-1), .int 0, .ref n3005, .ref n3006, .int 0, .ref n3007, .ref n3008, .int 0, .int 0, .int 0, .int 0, .int 0, .int 0, .int 0, .ref n3009, .ref n3010, .int 0, .int 0, .ref n3011, .ref n3012, .int 0, .int 0, .ref n3013, .ref n3014, .ref n3015, .int 0, .ref n3016, .ref n3017, .ref n3018]))] [(n3000, .inl (cy 1, 1300, .inl (fun _ => 0))), (n3002, .inl (cy 1, 3900, .inl (fun _ => 0))), (n3003, .inl (cy 3, 3, .inl (upd (fun _ => 0) 0 1)))] [0] [1, 2, 3] rfl rfl (by decide +kernel) (fun pr => va_runV (As := []) (rest := []) ⟨hx, hb, hml, hown, hts⟩ (k175_X12_thrown l D cy H.size n3900 n3000 n3001 n3002 n3003 n3004 n3005 n3006 n3007 n3008 n3009 n3010 n3011 n3012 n3013 n3014 n3015 n3016 n3017 n3018) (cwV 0 hts gw_X12_thrown rfl rfl rfl (by decide +kernel) ⟨(by decide +kernel), (by decide +kernel)⟩) ⟨pr.1, va_recv hK hP (ci := 12) (q0 := 0) rfl rfl, pr.2⟩ rfl rfl hl.1 rfl (lv_room (Nat.le_of_ble_eq_true rfl)) dL_law_2384 ⟨(by decide +kernel), (by decide +kernel)⟩) (fun r u H locs hw hP hD hS => ?_)
      rcases hw with ⟨rfl, rfl⟩
      have hP : va_P D vwCl [(n3000, .inl (cy 1, 1300, .inl (fun _ => 0))), (n3002, .inl (cy 1, 3900, .inl (fun _ => 0))), (n3003, .inl (cy 3, 3, .inl (upd (fun _ => 0) 0 1))), (n3900, .inr (12, [.ref n3000, .ref n3001, .ref n3002, .ref n3003, .int 0, .ref n3004, .int 0, .int 0, .int 0, .int 0, .int 0, .int 0, .int 0, .int 0, .int 0, .int (-1), .int 0, .ref n3005, .ref n3006, .int 0, .ref n3007, .ref n3008, .int 0, .int 0, .int 0, .int 0, .int 0, .int 0, .int 0, .ref n3009, .ref n3010, .int 0, .int 0, .ref n3011, .ref n3012, .int 0, .int 0, .ref n3013, .ref n3014, .ref n3015, .int 0, .ref n3016, .ref n3017, .ref n3018]))] H := hP
      have hD : va_D A [(n3000, .inl (cy 1, 1300, .inl (fun _ => 0))), (n3002, .inl (cy 1, 3900, .inl (fun _ => 0))), (n3003, .inl (cy 3, 3, .inl (upd (fun _ => 0) 0 1))), (n3900, .inr (12, [.ref n3000, .ref n3001, .ref n3002, .ref n3003, .int 0, .ref n3004, .int 0, .int 0, .int 0, .int 0, .int 0, .int 0, .int 0, .int 0, .int 0, .int (-1), .int 0, .ref n3005, .ref n3006, .int 0, .ref n3007, .ref n3008, .int 0, .int 0, .int 0, .int 0, .int 0, .int 0, .int 0, .ref n3009, .ref n3010, .int 0, .int 0, .ref n3011, .ref n3012, .int 0, .int 0, .ref n3013, .ref n3014, .ref n3015, .int 0, .ref n3016, .ref n3017, .ref n3018]))] := hD
      refine lv_iload hx hb dL_law_2387 (lv_at hl 0 rfl) ?_
      refine lv_icmp_eq (tgt := 2394) hx hb dL_law_2389 (by decide +kernel) (fun _ => ?_) (fun h => absurd (by decide +kernel) h)
      refine lv_goto (tgt := 2458) hx hb dL_law_2394 (by decide +kernel) ?_
      refine lv_iinc (v := 6) (lv' := [(4, .int 6), (5, .int 0), (3, .ref n5000), (2, .ref n3900), (1, .ref n1900), (0, .ref b)]) hx hb dL_law_2458 hl (k := 1) rfl (by decide) (by decide +kernel) rfl (fun ls hl => ?_)
      refine lv_goto (tgt := 23) hx hb dL_law_2461 (by decide +kernel) ?_
      refine lv_iload hx hb dL_law_23 (lv_at hl 0 rfl) ?_
      refine lv_aload_n hx hb dL_law_25 rfl (lv_at hl 5 rfl) ?_
      refine va_slen hx hb hX hbl hbA hS dL_law_26 ?_
      refine top_i (v := 6) rfl ?_
      refine lv_bipush (v := 6) hx hb dL_law_27 (by decide +kernel) ?_
      refine lv_isub hx hb dL_law_29 ?_
      refine top_i (v := 0) (by decide +kernel) ?_
      refine lv_icmp_gt (tgt := 2464) hx hb dL_law_30 (by decide +kernel) (fun _ => ?_) (fun h => absurd (by decide +kernel) h)
      refine lv_iconst (v := 1) hx hb dL_law_2464 (by decide +kernel) ?_
      refine va_forget (fun q hq => hAq _ (hS.2.2 q hq)) ?_
      refine W.widen (k := 600002) (n := 7302232) (by decide +kernel) (by decide +kernel) ?_
      exact lw_ret hx hb hr hlk dL_law_2465
    · exact absurd c800049 (by decide +kernel)
    · exact absurd c800052 (by decide +kernel)
  · subst c800009
    have hP : va_P D vwCl [(n3900, .inr (12, [.ref n3000, .ref n3001, .ref n3002, .ref n3003, .int 0, .ref n3004, .int 0, .int 0, .int 0, .int 0, .int 0, .int 0, .int 0, .int 0, .int 0, .int (-1), .int 0, .ref n3005, .ref n3006, .int 0, .ref n3007, .ref n3008, .int 0, .int 0, .int 0, .int 0, .int 0, .int 0, .int 0, .ref n3009, .ref n3010, .int 0, .int 0, .ref n3011, .ref n3012, .int 0, .int 0, .ref n3013, .ref n3014, .ref n3015, .int 0, .ref n3016, .ref n3017, .ref n3018])), (n3000, .inl (cy 1, 1300, .inl (fun _ => 0))), (n3002, .inl (cy 1, 3900, .inl (fun _ => 0))), (n3003, .inl (cy 3, 3, .inl (fun _ => 0)))] H := hP
    have hD : va_D A [(n3900, .inr (12, [.ref n3000, .ref n3001, .ref n3002, .ref n3003, .int 0, .ref n3004, .int 0, .int 0, .int 0, .int 0, .int 0, .int 0, .int 0, .int 0, .int 0, .int (-1), .int 0, .ref n3005, .ref n3006, .int 0, .ref n3007, .ref n3008, .int 0, .int 0, .int 0, .int 0, .int 0, .int 0, .int 0, .ref n3009, .ref n3010, .int 0, .int 0, .ref n3011, .ref n3012, .int 0, .int 0, .ref n3013, .ref n3014, .ref n3015, .int 0, .ref n3016, .ref n3017, .ref n3018])), (n3000, .inl (cy 1, 1300, .inl (fun _ => 0))), (n3002, .inl (cy 1, 3900, .inl (fun _ => 0))), (n3003, .inl (cy 3, 3, .inl (fun _ => 0)))] := hD
    refine lv_istore (lv' := [(5, .int 0), (4, .int 0), (3, .ref n5000), (2, .ref n3900), (1, .ref n1900), (0, .ref b)]) hx hb dL_law_2371 hl (by decide +kernel) rfl (fun ls hl => ?_)
    refine lv_aload_n hx hb dL_law_2373 rfl (lv_at hl 3 rfl) ?_
    refine lv_aload_n hx hb dL_law_2374 rfl (lv_at hl 5 rfl) ?_
    refine lv_iload hx hb dL_law_2375 (lv_at hl 1 rfl) ?_
    refine lv_iconst (v := 1) hx hb dL_law_2377 (by decide +kernel) ?_
    refine lv_iadd hx hb dL_law_2378 ?_
    refine top_i (v := 1) (by decide +kernel) ?_
    refine va_sld hx hb hX hbl hbA hS (i := 1) (vin (by decide +kernel)) dL_law_2379 ?_
    refine top_i (v := 1) ez1 ?_
    refine call_v (av := [.ref n3900, .int 1]) F hP hD hS [(n3900, .inr (12, [.ref n3000, .ref n3001, .ref n3002, .ref n3003, .int 0, .ref n3004, .int 0, .int 0, .int 0, .int 0, .int 0, .int 0, .int 0, .int 0, .int 0, .int (-1), .int 0, .ref n3005, .ref n3006, .int 0, .ref n3007, .ref n3008, .int 0, .int 0, .int 0, .int 0, .int 0, .int 0, .int 0, .ref n3009, .ref n3010, .int 0, .int 0, .ref n3011, .ref n3012, .int 0, .int 0, .ref n3013, .ref n3014, .ref n3015, .int 0, .ref n3016, .ref n3017, .ref n3018])), (n3000, .inl (cy 1, 1300, .inl (fun _ => 0))), (n3002, .inl (cy 1, 3900, .inl (fun _ => 0))), (n3003, .inl (cy 3, 3, .inl (fun _ => 0)))] [] [0, 1, 2, 3] [] rfl rfl (by decide +kernel) (fun pr => va_runV (As := [.int 1]) (rest := []) ⟨hx, hb, hml, hown, hts⟩ (k226_X12_image l D cy H.size n3900 1 n3000 n3002 n3003 n3001 n3004 n3005 n3006 n3007 n3008 n3009 n3010 n3011 n3012 n3013 n3014 n3015 n3016 n3017 n3018) (cwV 1 hts gw_X12_image rfl rfl rfl (by decide +kernel) ⟨(by decide +kernel), (by decide +kernel)⟩) ⟨pr.1, va_recv hK hP (ci := 12) (q0 := 0) rfl rfl, pr.2⟩ rfl rfl hl.1 rfl (lv_room (Nat.le_of_ble_eq_true rfl)) dL_law_2380 ⟨(by decide +kernel), (by decide +kernel)⟩) (fun u H locs hw hP hD hS => ?_)
    rcases hw with ⟨c800055, rfl⟩ | ⟨c800056, c800057, rfl⟩ | ⟨c800058, c800059, c800060, rfl⟩ | ⟨c800061, c800062, c800063, rfl⟩ | ⟨c800064, c800065, c800066, rfl⟩
    · exact absurd c800055 (by decide +kernel)
    · exact absurd c800057 (by decide +kernel)
    · exact absurd c800060 (by decide +kernel)
    · have hP : va_P D vwCl [(n3900, .inr (12, [.ref n3000, .ref n3001, .ref n3002, .ref n3003, .int 0, .ref n3004, .int 0, .int 0, .int 0, .int 0, .int 0, .int 0, .int 0, .int 0, .int 0, .int (-1), .int 0, .ref n3005, .ref n3006, .int 0, .ref n3007, .ref n3008, .int 0, .int 0, .int 0, .int 0, .int 0, .int 0, .int 0, .ref n3009, .ref n3010, .int 0, .int 0, .ref n3011, .ref n3012, .int 0, .int 0, .ref n3013, .ref n3014, .ref n3015, .int 0, .ref n3016, .ref n3017, .ref n3018])), (n3000, .inl (cy 1, 1300, .inl (fun _ => 0))), (n3002, .inl (cy 1, 3900, .inl (fun _ => 0))), (n3003, .inl (cy 3, 3, .inl (upd (fun _ => 0) 1 1)))] H := hP
      have hD : va_D A [(n3900, .inr (12, [.ref n3000, .ref n3001, .ref n3002, .ref n3003, .int 0, .ref n3004, .int 0, .int 0, .int 0, .int 0, .int 0, .int 0, .int 0, .int 0, .int 0, .int (-1), .int 0, .ref n3005, .ref n3006, .int 0, .ref n3007, .ref n3008, .int 0, .int 0, .int 0, .int 0, .int 0, .int 0, .int 0, .ref n3009, .ref n3010, .int 0, .int 0, .ref n3011, .ref n3012, .int 0, .int 0, .ref n3013, .ref n3014, .ref n3015, .int 0, .ref n3016, .ref n3017, .ref n3018])), (n3000, .inl (cy 1, 1300, .inl (fun _ => 0))), (n3002, .inl (cy 1, 3900, .inl (fun _ => 0))), (n3003, .inl (cy 3, 3, .inl (upd (fun _ => 0) 1 1)))] := hD
      refine lv_aload_n hx hb dL_law_2383 rfl (lv_at hl 3 rfl) ?_
      refine call_i (av := [.ref n3900]) F hP hD hS [(n3900, .inr (12, [.ref n3000, .ref n3001, .ref n3002, .ref n3003, .int 0, .ref n3004, .int 0, .int 0, .int 0, .int 0, .int 0, .int 0, .int 0, .int 0, .int 0, .int (-1), .int 0, .ref n3005, .ref n3006, .int 0, .ref n3007, .ref n3008, .int 0, .int 0, .int 0, .int 0, .int 0, .int 0, .int 0, .ref n3009, .ref n3010, .int 0, .int 0, .ref n3011, .ref n3012, .int 0, .int 0, .ref n3013, .ref n3014, .ref n3015, .int 0, .ref n3016, .ref n3017, .ref n3018]))] [(n3000, .inl (cy 1, 1300, .inl (fun _ => 0))), (n3002, .inl (cy 1, 3900, .inl (fun _ => 0))), (n3003, .inl (cy 3, 3, .inl (upd (fun _ => 0) 1 1)))] [0] [1, 2, 3] rfl rfl (by decide +kernel) (fun pr => va_runV (As := []) (rest := []) ⟨hx, hb, hml, hown, hts⟩ (k175_X12_thrown l D cy H.size n3900 n3000 n3001 n3002 n3003 n3004 n3005 n3006 n3007 n3008 n3009 n3010 n3011 n3012 n3013 n3014 n3015 n3016 n3017 n3018) (cwV 0 hts gw_X12_thrown rfl rfl rfl (by decide +kernel) ⟨(by decide +kernel), (by decide +kernel)⟩) ⟨pr.1, va_recv hK hP (ci := 12) (q0 := 0) rfl rfl, pr.2⟩ rfl rfl hl.1 rfl (lv_room (Nat.le_of_ble_eq_true rfl)) dL_law_2384 ⟨(by decide +kernel), (by decide +kernel)⟩) (fun r u H locs hw hP hD hS => ?_)
      rcases hw with ⟨rfl, rfl⟩
      have hP : va_P D vwCl [(n3000, .inl (cy 1, 1300, .inl (fun _ => 0))), (n3002, .inl (cy 1, 3900, .inl (fun _ => 0))), (n3003, .inl (cy 3, 3, .inl (upd (fun _ => 0) 1 1))), (n3900, .inr (12, [.ref n3000, .ref n3001, .ref n3002, .ref n3003, .int 0, .ref n3004, .int 0, .int 0, .int 0, .int 0, .int 0, .int 0, .int 0, .int 0, .int 0, .int (-1), .int 0, .ref n3005, .ref n3006, .int 0, .ref n3007, .ref n3008, .int 0, .int 0, .int 0, .int 0, .int 0, .int 0, .int 0, .ref n3009, .ref n3010, .int 0, .int 0, .ref n3011, .ref n3012, .int 0, .int 0, .ref n3013, .ref n3014, .ref n3015, .int 0, .ref n3016, .ref n3017, .ref n3018]))] H := hP
      have hD : va_D A [(n3000, .inl (cy 1, 1300, .inl (fun _ => 0))), (n3002, .inl (cy 1, 3900, .inl (fun _ => 0))), (n3003, .inl (cy 3, 3, .inl (upd (fun _ => 0) 1 1))), (n3900, .inr (12, [.ref n3000, .ref n3001, .ref n3002, .ref n3003, .int 0, .ref n3004, .int 0, .int 0, .int 0, .int 0, .int 0, .int 0, .int 0, .int 0, .int 0, .int (-1), .int 0, .ref n3005, .ref n3006, .int 0, .ref n3007, .ref n3008, .int 0, .int 0, .int 0, .int 0, .int 0, .int 0, .int 0, .ref n3009, .ref n3010, .int 0, .int 0, .ref n3011, .ref n3012, .int 0, .int 0, .ref n3013, .ref n3014, .ref n3015, .int 0, .ref n3016, .ref n3017, .ref n3018]))] := hD
      refine lv_iload hx hb dL_law_2387 (lv_at hl 0 rfl) ?_
      refine lv_icmp_eq (tgt := 2394) hx hb dL_law_2389 (by decide +kernel) (fun _ => ?_) (fun h => absurd (by decide +kernel) h)
      refine lv_goto (tgt := 2458) hx hb dL_law_2394 (by decide +kernel) ?_
      refine lv_iinc (v := 6) (lv' := [(4, .int 6), (5, .int 0), (3, .ref n5000), (2, .ref n3900), (1, .ref n1900), (0, .ref b)]) hx hb dL_law_2458 hl (k := 1) rfl (by decide) (by decide +kernel) rfl (fun ls hl => ?_)
      refine lv_goto (tgt := 23) hx hb dL_law_2461 (by decide +kernel) ?_
      refine lv_iload hx hb dL_law_23 (lv_at hl 0 rfl) ?_
      refine lv_aload_n hx hb dL_law_25 rfl (lv_at hl 5 rfl) ?_
      refine va_slen hx hb hX hbl hbA hS dL_law_26 ?_
      refine top_i (v := 6) rfl ?_
      refine lv_bipush (v := 6) hx hb dL_law_27 (by decide +kernel) ?_
      refine lv_isub hx hb dL_law_29 ?_
      refine top_i (v := 0) (by decide +kernel) ?_
      refine lv_icmp_gt (tgt := 2464) hx hb dL_law_30 (by decide +kernel) (fun _ => ?_) (fun h => absurd (by decide +kernel) h)
      refine lv_iconst (v := 1) hx hb dL_law_2464 (by decide +kernel) ?_
      refine va_forget (fun q hq => hAq _ (hS.2.2 q hq)) ?_
      refine W.widen (k := 600002) (n := 7302232) (by decide +kernel) (by decide +kernel) ?_
      exact lw_ret hx hb hr hlk dL_law_2465
    · exact absurd c800066 (by decide +kernel)
  · subst c800012
    have hP : va_P D vwCl [(n3900, .inr (12, [.ref n3000, .ref n3001, .ref n3002, .ref n3003, .int 0, .ref n3004, .int 0, .int 0, .int 0, .int 0, .int 0, .int 0, .int 0, .int 0, .int 0, .int (-1), .int 0, .ref n3005, .ref n3006, .int 0, .ref n3007, .ref n3008, .int 0, .int 0, .int 0, .int 0, .int 0, .int 0, .int 0, .ref n3009, .ref n3010, .int 0, .int 0, .ref n3011, .ref n3012, .int 0, .int 0, .ref n3013, .ref n3014, .ref n3015, .int 0, .ref n3016, .ref n3017, .ref n3018])), (n3000, .inl (cy 1, 1300, .inl (fun _ => 0))), (n3002, .inl (cy 1, 3900, .inl (fun _ => 0))), (n3003, .inl (cy 3, 3, .inl (fun _ => 0)))] H := hP
    have hD : va_D A [(n3900, .inr (12, [.ref n3000, .ref n3001, .ref n3002, .ref n3003, .int 0, .ref n3004, .int 0, .int 0, .int 0, .int 0, .int 0, .int 0, .int 0, .int 0, .int 0, .int (-1), .int 0, .ref n3005, .ref n3006, .int 0, .ref n3007, .ref n3008, .int 0, .int 0, .int 0, .int 0, .int 0, .int 0, .int 0, .ref n3009, .ref n3010, .int 0, .int 0, .ref n3011, .ref n3012, .int 0, .int 0, .ref n3013, .ref n3014, .ref n3015, .int 0, .ref n3016, .ref n3017, .ref n3018])), (n3000, .inl (cy 1, 1300, .inl (fun _ => 0))), (n3002, .inl (cy 1, 3900, .inl (fun _ => 0))), (n3003, .inl (cy 3, 3, .inl (fun _ => 0)))] := hD
    refine lv_istore (lv' := [(5, .int 0), (4, .int 0), (3, .ref n5000), (2, .ref n3900), (1, .ref n1900), (0, .ref b)]) hx hb dL_law_2371 hl (by decide +kernel) rfl (fun ls hl => ?_)
    refine lv_aload_n hx hb dL_law_2373 rfl (lv_at hl 3 rfl) ?_
    refine lv_aload_n hx hb dL_law_2374 rfl (lv_at hl 5 rfl) ?_
    refine lv_iload hx hb dL_law_2375 (lv_at hl 1 rfl) ?_
    refine lv_iconst (v := 1) hx hb dL_law_2377 (by decide +kernel) ?_
    refine lv_iadd hx hb dL_law_2378 ?_
    refine top_i (v := 1) (by decide +kernel) ?_
    refine va_sld hx hb hX hbl hbA hS (i := 1) (vin (by decide +kernel)) dL_law_2379 ?_
    refine top_i (v := 2) ez1 ?_
    refine call_v (av := [.ref n3900, .int 2]) F hP hD hS [(n3900, .inr (12, [.ref n3000, .ref n3001, .ref n3002, .ref n3003, .int 0, .ref n3004, .int 0, .int 0, .int 0, .int 0, .int 0, .int 0, .int 0, .int 0, .int 0, .int (-1), .int 0, .ref n3005, .ref n3006, .int 0, .ref n3007, .ref n3008, .int 0, .int 0, .int 0, .int 0, .int 0, .int 0, .int 0, .ref n3009, .ref n3010, .int 0, .int 0, .ref n3011, .ref n3012, .int 0, .int 0, .ref n3013, .ref n3014, .ref n3015, .int 0, .ref n3016, .ref n3017, .ref n3018])), (n3000, .inl (cy 1, 1300, .inl (fun _ => 0))), (n3002, .inl (cy 1, 3900, .inl (fun _ => 0))), (n3003, .inl (cy 3, 3, .inl (fun _ => 0)))] [] [0, 1, 2, 3] [] rfl rfl (by decide +kernel) (fun pr => va_runV (As := [.int 2]) (rest := []) ⟨hx, hb, hml, hown, hts⟩ (k226_X12_image l D cy H.size n3900 2 n3000 n3002 n3003 n3001 n3004 n3005 n3006 n3007 n3008 n3009 n3010 n3011 n3012 n3013 n3014 n3015 n3016 n3017 n3018) (cwV 1 hts gw_X12_image rfl rfl rfl (by decide +kernel) ⟨(by decide +kernel), (by decide +kernel)⟩) ⟨pr.1, va_recv hK hP (ci := 12) (q0 := 0) rfl rfl, pr.2⟩ rfl rfl hl.1 rfl (lv_room (Nat.le_of_ble_eq_true rfl)) dL_law_2380 ⟨(by decide +kernel), (by decide +kernel)⟩) (fun u H locs hw hP hD hS => ?_)
    rcases hw with ⟨c800069, rfl⟩ | ⟨c800070, c800071, rfl⟩ | ⟨c800072, c800073, c800074, rfl⟩ | ⟨c800075, c800076, c800077, rfl⟩ | ⟨c800078, c800079, c800080, rfl⟩
    · exact absurd c800069 (by decide +kernel)
    · exact absurd c800071 (by decide +kernel)
    · exact absurd c800074 (by decide +kernel)
    · exact absurd c800077 (by decide +kernel)
    · have hP : va_P D vwCl [(n3900, .inr (12, [.ref n3000, .ref n3001, .ref n3002, .ref n3003, .int 0, .ref n3004, .int 0, .int 0, .int 0, .int 0, .int 0, .int 0, .int 0, .int 0, .int 0, .int (-1), .int 0, .ref n3005, .ref n3006, .int 0, .ref n3007, .ref n3008, .int 0, .int 0, .int 0, .int 0, .int 0, .int 0, .int 0, .ref n3009, .ref n3010, .int 0, .int 0, .ref n3011, .ref n3012, .int 0, .int 0, .ref n3013, .ref n3014, .ref n3015, .int 0, .ref n3016, .ref n3017, .ref n3018])), (n3000, .inl (cy 1, 1300, .inl (fun _ => 0))), (n3002, .inl (cy 1, 3900, .inl (fun _ => 0))), (n3003, .inl (cy 3, 3, .inl (upd (fun _ => 0) 2 1)))] H := hP
      have hD : va_D A [(n3900, .inr (12, [.ref n3000, .ref n3001, .ref n3002, .ref n3003, .int 0, .ref n3004, .int 0, .int 0, .int 0, .int 0, .int 0, .int 0, .int 0, .int 0, .int 0, .int (-1), .int 0, .ref n3005, .ref n3006, .int 0, .ref n3007, .ref n3008, .int 0, .int 0, .int 0, .int 0, .int 0, .int 0, .int 0, .ref n3009, .ref n3010, .int 0, .int 0, .ref n3011, .ref n3012, .int 0, .int 0, .ref n3013, .ref n3014, .ref n3015, .int 0, .ref n3016, .ref n3017, .ref n3018])), (n3000, .inl (cy 1, 1300, .inl (fun _ => 0))), (n3002, .inl (cy 1, 3900, .inl (fun _ => 0))), (n3003, .inl (cy 3, 3, .inl (upd (fun _ => 0) 2 1)))] := hD
      refine lv_aload_n hx hb dL_law_2383 rfl (lv_at hl 3 rfl) ?_
      refine call_i (av := [.ref n3900]) F hP hD hS [(n3900, .inr (12, [.ref n3000, .ref n3001, .ref n3002, .ref n3003, .int 0, .ref n3004, .int 0, .int 0, .int 0, .int 0, .int 0, .int 0, .int 0, .int 0, .int 0, .int (-1), .int 0, .ref n3005, .ref n3006, .int 0, .ref n3007, .ref n3008, .int 0, .int 0, .int 0, .int 0, .int 0, .int 0, .int 0, .ref n3009, .ref n3010, .int 0, .int 0, .ref n3011, .ref n3012, .int 0, .int 0, .ref n3013, .ref n3014, .ref n3015, .int 0, .ref n3016, .ref n3017, .ref n3018]))] [(n3000, .inl (cy 1, 1300, .inl (fun _ => 0))), (n3002, .inl (cy 1, 3900, .inl (fun _ => 0))), (n3003, .inl (cy 3, 3, .inl (upd (fun _ => 0) 2 1)))] [0] [1, 2, 3] rfl rfl (by decide +kernel) (fun pr => va_runV (As := []) (rest := []) ⟨hx, hb, hml, hown, hts⟩ (k175_X12_thrown l D cy H.size n3900 n3000 n3001 n3002 n3003 n3004 n3005 n3006 n3007 n3008 n3009 n3010 n3011 n3012 n3013 n3014 n3015 n3016 n3017 n3018) (cwV 0 hts gw_X12_thrown rfl rfl rfl (by decide +kernel) ⟨(by decide +kernel), (by decide +kernel)⟩) ⟨pr.1, va_recv hK hP (ci := 12) (q0 := 0) rfl rfl, pr.2⟩ rfl rfl hl.1 rfl (lv_room (Nat.le_of_ble_eq_true rfl)) dL_law_2384 ⟨(by decide +kernel), (by decide +kernel)⟩) (fun r u H locs hw hP hD hS => ?_)
      rcases hw with ⟨rfl, rfl⟩
      have hP : va_P D vwCl [(n3000, .inl (cy 1, 1300, .inl (fun _ => 0))), (n3002, .inl (cy 1, 3900, .inl (fun _ => 0))), (n3003, .inl (cy 3, 3, .inl (upd (fun _ => 0) 2 1))), (n3900, .inr (12, [.ref n3000, .ref n3001, .ref n3002, .ref n3003, .int 0, .ref n3004, .int 0, .int 0, .int 0, .int 0, .int 0, .int 0, .int 0, .int 0, .int 0, .int (-1), .int 0, .ref n3005, .ref n3006, .int 0, .ref n3007, .ref n3008, .int 0, .int 0, .int 0, .int 0, .int 0, .int 0, .int 0, .ref n3009, .ref n3010, .int 0, .int 0, .ref n3011, .ref n3012, .int 0, .int 0, .ref n3013, .ref n3014, .ref n3015, .int 0, .ref n3016, .ref n3017, .ref n3018]))] H := hP
      have hD : va_D A [(n3000, .inl (cy 1, 1300, .inl (fun _ => 0))), (n3002, .inl (cy 1, 3900, .inl (fun _ => 0))), (n3003, .inl (cy 3, 3, .inl (upd (fun _ => 0) 2 1))), (n3900, .inr (12, [.ref n3000, .ref n3001, .ref n3002, .ref n3003, .int 0, .ref n3004, .int 0, .int 0, .int 0, .int 0, .int 0, .int 0, .int 0, .int 0, .int 0, .int (-1), .int 0, .ref n3005, .ref n3006, .int 0, .ref n3007, .ref n3008, .int 0, .int 0, .int 0, .int 0, .int 0, .int 0, .int 0, .ref n3009, .ref n3010, .int 0, .int 0, .ref n3011, .ref n3012, .int 0, .int 0, .ref n3013, .ref n3014, .ref n3015, .int 0, .ref n3016, .ref n3017, .ref n3018]))] := hD
      refine lv_iload hx hb dL_law_2387 (lv_at hl 0 rfl) ?_
      refine lv_icmp_eq (tgt := 2394) hx hb dL_law_2389 (by decide +kernel) (fun _ => ?_) (fun h => absurd (by decide +kernel) h)
      refine lv_goto (tgt := 2458) hx hb dL_law_2394 (by decide +kernel) ?_
      refine lv_iinc (v := 6) (lv' := [(4, .int 6), (5, .int 0), (3, .ref n5000), (2, .ref n3900), (1, .ref n1900), (0, .ref b)]) hx hb dL_law_2458 hl (k := 1) rfl (by decide) (by decide +kernel) rfl (fun ls hl => ?_)
      refine lv_goto (tgt := 23) hx hb dL_law_2461 (by decide +kernel) ?_
      refine lv_iload hx hb dL_law_23 (lv_at hl 0 rfl) ?_
      refine lv_aload_n hx hb dL_law_25 rfl (lv_at hl 5 rfl) ?_
      refine va_slen hx hb hX hbl hbA hS dL_law_26 ?_
      refine top_i (v := 6) rfl ?_
      refine lv_bipush (v := 6) hx hb dL_law_27 (by decide +kernel) ?_
      refine lv_isub hx hb dL_law_29 ?_
      refine top_i (v := 0) (by decide +kernel) ?_
      refine lv_icmp_gt (tgt := 2464) hx hb dL_law_30 (by decide +kernel) (fun _ => ?_) (fun h => absurd (by decide +kernel) h)
      refine lv_iconst (v := 1) hx hb dL_law_2464 (by decide +kernel) ?_
      refine va_forget (fun q hq => hAq _ (hS.2.2 q hq)) ?_
      refine W.widen (k := 600002) (n := 7302232) (by decide +kernel) (by decide +kernel) ?_
      exact lw_ret hx hb hr hlk dL_law_2465
set_option maxHeartbeats 4000000 in
set_option maxRecDepth 100000 in
theorem law_c40 {p : Program} {l : Launch} {e : Env} {s : State} {m : MethodId} {below : List Frame} {meth : Method} {c : Code} {b : Nat} {xs : Nat → Int32} {D : va_G} {cy : Nat → ClassId} {A : Nat → Prop} (hlT : l.stackTraces = false) (F : Fx D cy p m c cL_law 8 s #[Value.ref b] lw_tbl RL A) (hr : meth.sig.returnType = ret) (hlk : meth.locks = false) (hX : va_X b 6 xs s s.heap) (hbl : b < s.heap.size) (hbA : ¬ A b) (hAq : ∀ q, A q → s.heap.size ≤ q) {H : Heap} {locs : List Loc} {ls : Array Slot} (n1900 n1000 n1001 n1017 n1034 n1039 n1041 n1042 n1043 n1044 n1048 n1056 n1057 n1062 n1082 n1102 n1063 n1079 n1080 n1083 n1099 n1100 n1103 n1119 n1120 n3900 n3000 n3001 n3002 n3003 n3004 n3005 n3006 n3007 n3008 n3009 n3010 n3011 n3012 n3013 n3014 n3015 n3016 n3017 n3018 n5000 : Nat) (hP : va_P D vwCl [(n1900, .inr (11, [.ref n1000, .int 0, .ref n1001, .ref n1017, .ref n1034, .ref n1039, .ref n1041, .ref n1042, .ref n1043, .ref n1044, .ref n1048, .ref n1056, .ref n1057, .int 0])), (n1042, .inl (cy 4, 3, .inr (.inr (.inr (.inr (va_up (va_up (va_up (fun _ => none) 0 (some n1062)) 1 (some n1082)) 2 (some n1102))))))), (n1062, .inr (1, [.int 0, .ref n1063, .ref n1079, .ref n1080])), (n1082, .inr (1, [.int 0, .ref n1083, .ref n1099, .ref n1100])), (n1102, .inr (1, [.int 0, .ref n1103, .ref n1119, .ref n1120])), (n3900, .inr (12, [.ref n3000, .ref n3001, .ref n3002, .ref n3003, .int 0, .ref n3004, .int 0, .int 0, .int 0, .int 0, .int 0, .int 0, .int 0, .int 0, .int 0, .int (-1), .int 0, .ref n3005, .ref n3006, .int 0, .ref n3007, .ref n3008, .int 0, .int 0, .int 0, .int 0, .int 0, .int 0, .int 0, .ref n3009, .ref n3010, .int 0, .int 0, .ref n3011, .ref n3012, .int 0, .int 0, .ref n3013, .ref n3014, .ref n3015, .int 0, .ref n3016, .ref n3017, .ref n3018])), (n3003, .inl (cy 3, 3, .inl (fun _ => 0)))] H) (hD : va_D A [(n1900, .inr (11, [.ref n1000, .int 0, .ref n1001, .ref n1017, .ref n1034, .ref n1039, .ref n1041, .ref n1042, .ref n1043, .ref n1044, .ref n1048, .ref n1056, .ref n1057, .int 0])), (n1042, .inl (cy 4, 3, .inr (.inr (.inr (.inr (va_up (va_up (va_up (fun _ => none) 0 (some n1062)) 1 (some n1082)) 2 (some n1102))))))), (n1062, .inr (1, [.int 0, .ref n1063, .ref n1079, .ref n1080])), (n1082, .inr (1, [.int 0, .ref n1083, .ref n1099, .ref n1100])), (n1102, .inr (1, [.int 0, .ref n1103, .ref n1119, .ref n1120])), (n3900, .inr (12, [.ref n3000, .ref n3001, .ref n3002, .ref n3003, .int 0, .ref n3004, .int 0, .int 0, .int 0, .int 0, .int 0, .int 0, .int 0, .int 0, .int 0, .int (-1), .int 0, .ref n3005, .ref n3006, .int 0, .ref n3007, .ref n3008, .int 0, .int 0, .int 0, .int 0, .int 0, .int 0, .int 0, .ref n3009, .ref n3010, .int 0, .int 0, .ref n3011, .ref n3012, .int 0, .int 0, .ref n3013, .ref n3014, .ref n3015, .int 0, .ref n3016, .ref n3017, .ref n3018])), (n3003, .inl (cy 3, 3, .inl (fun _ => 0)))]) (hS : va_S A s.heap H locs) (hl : lv_has ls 8 [(4, .int 0), (3, .ref n5000), (2, .ref n3900), (1, .ref n1900), (0, .ref b)]) : W p l e room_1 s m #[Value.ref b] below meth c H locs 152 18765 (lw_Z below #[Value.ref b] s) (F0 m 2397 ls []) := by
  obtain ⟨⟨hx, hb, hml, hown, hts⟩, hK, hG, hZ, hA⟩ := id F
  obtain ⟨z1, ez1⟩ : ∃ z, xs 1 = z := ⟨_, rfl⟩
  obtain ⟨z2, ez2⟩ : ∃ z, xs 2 = z := ⟨_, rfl⟩
  obtain ⟨z3, ez3⟩ : ∃ z, xs 3 = z := ⟨_, rfl⟩
  obtain ⟨z4, ez4⟩ : ∃ z, xs 4 = z := ⟨_, rfl⟩
  obtain ⟨z5, ez5⟩ : ∃ z, xs 5 = z := ⟨_, rfl⟩
  refine lv_aload_n hx hb dL_law_2397 rfl (lv_at hl 3 rfl) ?_
  refine lv_aload_n hx hb dL_law_2398 rfl (lv_at hl 4 rfl) ?_
  refine lv_iload hx hb dL_law_2399 (lv_at hl 0 rfl) ?_
  refine lv_iconst (v := 1) hx hb dL_law_2401 (by decide +kernel) ?_
  refine lv_iadd hx hb dL_law_2402 ?_
  refine top_i (v := 1) (by decide +kernel) ?_
  refine va_sld hx hb hX hbl hbA hS (i := 1) (vin (by decide +kernel)) dL_law_2403 ?_
  refine top_i (v := z1) ez1 ?_
  refine call_i (av := [.ref n1900, .int z1]) F hP hD hS [(n1900, .inr (11, [.ref n1000, .int 0, .ref n1001, .ref n1017, .ref n1034, .ref n1039, .ref n1041, .ref n1042, .ref n1043, .ref n1044, .ref n1048, .ref n1056, .ref n1057, .int 0])), (n1042, .inl (cy 4, 3, .inr (.inr (.inr (.inr (va_up (va_up (va_up (fun _ => none) 0 (some n1062)) 1 (some n1082)) 2 (some n1102))))))), (n1062, .inr (1, [.int 0, .ref n1063, .ref n1079, .ref n1080])), (n1082, .inr (1, [.int 0, .ref n1083, .ref n1099, .ref n1100])), (n1102, .inr (1, [.int 0, .ref n1103, .ref n1119, .ref n1120]))] [(n3900, .inr (12, [.ref n3000, .ref n3001, .ref n3002, .ref n3003, .int 0, .ref n3004, .int 0, .int 0, .int 0, .int 0, .int 0, .int 0, .int 0, .int 0, .int 0, .int (-1), .int 0, .ref n3005, .ref n3006, .int 0, .ref n3007, .ref n3008, .int 0, .int 0, .int 0, .int 0, .int 0, .int 0, .int 0, .ref n3009, .ref n3010, .int 0, .int 0, .ref n3011, .ref n3012, .int 0, .int 0, .ref n3013, .ref n3014, .ref n3015, .int 0, .ref n3016, .ref n3017, .ref n3018])), (n3003, .inl (cy 3, 3, .inl (fun _ => 0)))] [0, 1, 2, 3, 4] [5, 6] rfl rfl (by decide +kernel) (fun pr => vx_runSW (As := [.ref n1900, .int z1]) (rest := []) ⟨hx, hb, hml, hown, hts⟩ (k332_L_restore l hlT D cy H.size n1900 z1 n1042 n1062 n1082 n1102 n1000 n1001 n1017 n1034 n1039 n1041 n1043 n1044 n1048 n1056 n1057 n1063 n1079 n1080 n1083 n1099 n1100 n1103 n1119 n1120) (vx_cwSW 2 hts gw_L_restore rfl rfl rfl (by decide +kernel) ⟨(by decide +kernel), (by decide +kernel)⟩) pr rfl rfl hl.1 rfl (lv_room (Nat.le_of_ble_eq_true rfl)) dL_law_2404 ⟨(by decide +kernel), (by decide +kernel)⟩) (fun r u H locs hw hP hD hS => ?_)
  rcases hw with ⟨c800001, rfl, rfl⟩ | ⟨c800002, c800003, rfl, rfl⟩ | ⟨c800004, c800005, c800006, rfl, rfl⟩ | ⟨c800007, c800008, c800009, rfl, rfl⟩ | ⟨c800010, c800011, c800012, rfl, rfl⟩
  · have hP : va_P D vwCl [(n3900, .inr (12, [.ref n3000, .ref n3001, .ref n3002, .ref n3003, .int 0, .ref n3004, .int 0, .int 0, .int 0, .int 0, .int 0, .int 0, .int 0, .int 0, .int 0, .int (-1), .int 0, .ref n3005, .ref n3006, .int 0, .ref n3007, .ref n3008, .int 0, .int 0, .int 0, .int 0, .int 0, .int 0, .int 0, .ref n3009, .ref n3010, .int 0, .int 0, .ref n3011, .ref n3012, .int 0, .int 0, .ref n3013, .ref n3014, .ref n3015, .int 0, .ref n3016, .ref n3017, .ref n3018])), (n3003, .inl (cy 3, 3, .inl (fun _ => 0)))] H := hP
    have hD : va_D A [(n3900, .inr (12, [.ref n3000, .ref n3001, .ref n3002, .ref n3003, .int 0, .ref n3004, .int 0, .int 0, .int 0, .int 0, .int 0, .int 0, .int 0, .int 0, .int 0, .int (-1), .int 0, .ref n3005, .ref n3006, .int 0, .ref n3007, .ref n3008, .int 0, .int 0, .int 0, .int 0, .int 0, .int 0, .int 0, .ref n3009, .ref n3010, .int 0, .int 0, .ref n3011, .ref n3012, .int 0, .int 0, .ref n3013, .ref n3014, .ref n3015, .int 0, .ref n3016, .ref n3017, .ref n3018])), (n3003, .inl (cy 3, 3, .inl (fun _ => 0)))] := hD
    refine lv_istore (lv' := [(5, .int 1), (4, .int 0), (3, .ref n5000), (2, .ref n3900), (1, .ref n1900), (0, .ref b)]) hx hb dL_law_2407 hl (by decide +kernel) rfl (fun ls hl => ?_)
    refine lv_aload_n hx hb dL_law_2409 rfl (lv_at hl 3 rfl) ?_
    refine lv_aload_n hx hb dL_law_2410 rfl (lv_at hl 5 rfl) ?_
    refine lv_iload hx hb dL_law_2411 (lv_at hl 1 rfl) ?_
    refine lv_iconst (v := 1) hx hb dL_law_2413 (by decide +kernel) ?_
    refine lv_iadd hx hb dL_law_2414 ?_
    refine top_i (v := 1) (by decide +kernel) ?_
    refine va_sld hx hb hX hbl hbA hS (i := 1) (vin (by decide +kernel)) dL_law_2415 ?_
    refine top_i (v := z1) ez1 ?_
    refine call_v (av := [.ref n3900, .int z1]) F hP hD hS [(n3900, .inr (12, [.ref n3000, .ref n3001, .ref n3002, .ref n3003, .int 0, .ref n3004, .int 0, .int 0, .int 0, .int 0, .int 0, .int 0, .int 0, .int 0, .int 0, .int (-1), .int 0, .ref n3005, .ref n3006, .int 0, .ref n3007, .ref n3008, .int 0, .int 0, .int 0, .int 0, .int 0, .int 0, .int 0, .ref n3009, .ref n3010, .int 0, .int 0, .ref n3011, .ref n3012, .int 0, .int 0, .ref n3013, .ref n3014, .ref n3015, .int 0, .ref n3016, .ref n3017, .ref n3018])), (n3003, .inl (cy 3, 3, .inl (fun _ => 0)))] [] [0, 1] [] rfl rfl (by decide +kernel) (fun pr => va_runV (As := [.int z1]) (rest := []) ⟨hx, hb, hml, hown, hts⟩ (k211_X12_restore l D cy H.size n3900 z1 n3003 n3000 n3001 n3002 n3004 n3005 n3006 n3007 n3008 n3009 n3010 n3011 n3012 n3013 n3014 n3015 n3016 n3017 n3018) (cwV 1 hts gw_X12_restore rfl rfl rfl (by decide +kernel) ⟨(by decide +kernel), (by decide +kernel)⟩) ⟨pr.1, va_recv hK hP (ci := 12) (q0 := 0) rfl rfl, pr.2⟩ rfl rfl hl.1 rfl (lv_room (Nat.le_of_ble_eq_true rfl)) dL_law_2416 ⟨(by decide +kernel), (by decide +kernel)⟩) (fun u H locs hw hP hD hS => ?_)
    rcases hw with ⟨c800013, rfl⟩ | ⟨c800014, c800015, rfl⟩ | ⟨c800016, c800017, c800018, rfl⟩ | ⟨c800019, c800020, c800021, rfl⟩ | ⟨c800022, c800023, c800024, rfl⟩
    · have hP : va_P D vwCl [(n3900, .inr (12, [.ref n3000, .ref n3001, .ref n3002, .ref n3003, .int 1, .ref n3004, .int 0, .int 0, .int 0, .int 0, .int 0, .int 0, .int 0, .int 0, .int 0, .int (-1), .int 0, .ref n3005, .ref n3006, .int 0, .ref n3007, .ref n3008, .int 0, .int 0, .int 0, .int 0, .int 0, .int 0, .int 0, .ref n3009, .ref n3010, .int 0, .int 0, .ref n3011, .ref n3012, .int 0, .int 0, .ref n3013, .ref n3014, .ref n3015, .int 0, .ref n3016, .ref n3017, .ref n3018])), (n3003, .inl (cy 3, 3, .inl (fun _ => 0)))] H := hP
      have hD : va_D A [(n3900, .inr (12, [.ref n3000, .ref n3001, .ref n3002, .ref n3003, .int 1, .ref n3004, .int 0, .int 0, .int 0, .int 0, .int 0, .int 0, .int 0, .int 0, .int 0, .int (-1), .int 0, .ref n3005, .ref n3006, .int 0, .ref n3007, .ref n3008, .int 0, .int 0, .int 0, .int 0, .int 0, .int 0, .int 0, .ref n3009, .ref n3010, .int 0, .int 0, .ref n3011, .ref n3012, .int 0, .int 0, .ref n3013, .ref n3014, .ref n3015, .int 0, .ref n3016, .ref n3017, .ref n3018])), (n3003, .inl (cy 3, 3, .inl (fun _ => 0)))] := hD
      refine lv_aload_n hx hb dL_law_2419 rfl (lv_at hl 3 rfl) ?_
      refine call_i (av := [.ref n3900]) F hP hD hS [(n3900, .inr (12, [.ref n3000, .ref n3001, .ref n3002, .ref n3003, .int 1, .ref n3004, .int 0, .int 0, .int 0, .int 0, .int 0, .int 0, .int 0, .int 0, .int 0, .int (-1), .int 0, .ref n3005, .ref n3006, .int 0, .ref n3007, .ref n3008, .int 0, .int 0, .int 0, .int 0, .int 0, .int 0, .int 0, .ref n3009, .ref n3010, .int 0, .int 0, .ref n3011, .ref n3012, .int 0, .int 0, .ref n3013, .ref n3014, .ref n3015, .int 0, .ref n3016, .ref n3017, .ref n3018]))] [(n3003, .inl (cy 3, 3, .inl (fun _ => 0)))] [0] [1] rfl rfl (by decide +kernel) (fun pr => va_runV (As := []) (rest := []) ⟨hx, hb, hml, hown, hts⟩ (k333_X12_thrown l D cy H.size n3900 n3000 n3001 n3002 n3003 n3004 n3005 n3006 n3007 n3008 n3009 n3010 n3011 n3012 n3013 n3014 n3015 n3016 n3017 n3018) (cwV 0 hts gw_X12_thrown rfl rfl rfl (by decide +kernel) ⟨(by decide +kernel), (by decide +kernel)⟩) ⟨pr.1, va_recv hK hP (ci := 12) (q0 := 0) rfl rfl, pr.2⟩ rfl rfl hl.1 rfl (lv_room (Nat.le_of_ble_eq_true rfl)) dL_law_2420 ⟨(by decide +kernel), (by decide +kernel)⟩) (fun r u H locs hw hP hD hS => ?_)
      rcases hw with ⟨rfl, rfl⟩
      have hP : va_P D vwCl [(n3003, .inl (cy 3, 3, .inl (fun _ => 0))), (n3900, .inr (12, [.ref n3000, .ref n3001, .ref n3002, .ref n3003, .int 1, .ref n3004, .int 0, .int 0, .int 0, .int 0, .int 0, .int 0, .int 0, .int 0, .int 0, .int (-1), .int 0, .ref n3005, .ref n3006, .int 0, .ref n3007, .ref n3008, .int 0, .int 0, .int 0, .int 0, .int 0, .int 0, .int 0, .ref n3009, .ref n3010, .int 0, .int 0, .ref n3011, .ref n3012, .int 0, .int 0, .ref n3013, .ref n3014, .ref n3015, .int 0, .ref n3016, .ref n3017, .ref n3018]))] H := hP
      have hD : va_D A [(n3003, .inl (cy 3, 3, .inl (fun _ => 0))), (n3900, .inr (12, [.ref n3000, .ref n3001, .ref n3002, .ref n3003, .int 1, .ref n3004, .int 0, .int 0, .int 0, .int 0, .int 0, .int 0, .int 0, .int 0, .int 0, .int (-1), .int 0, .ref n3005, .ref n3006, .int 0, .ref n3007, .ref n3008, .int 0, .int 0, .int 0, .int 0, .int 0, .int 0, .int 0, .ref n3009, .ref n3010, .int 0, .int 0, .ref n3011, .ref n3012, .int 0, .int 0, .ref n3013, .ref n3014, .ref n3015, .int 0, .ref n3016, .ref n3017, .ref n3018]))] := hD
      refine lv_iload hx hb dL_law_2423 (lv_at hl 0 rfl) ?_
      refine lv_icmp_eq (tgt := 2430) hx hb dL_law_2425 (by decide +kernel) (fun _ => ?_) (fun h => absurd (by decide +kernel) h)
      refine lv_goto (tgt := 2458) hx hb dL_law_2430 (by decide +kernel) ?_
      refine lv_iinc (v := 6) (lv' := [(4, .int 6), (5, .int 1), (3, .ref n5000), (2, .ref n3900), (1, .ref n1900), (0, .ref b)]) hx hb dL_law_2458 hl (k := 1) rfl (by decide) (by decide +kernel) rfl (fun ls hl => ?_)
      refine lv_goto (tgt := 23) hx hb dL_law_2461 (by decide +kernel) ?_
      refine lv_iload hx hb dL_law_23 (lv_at hl 0 rfl) ?_
      refine lv_aload_n hx hb dL_law_25 rfl (lv_at hl 5 rfl) ?_
      refine va_slen hx hb hX hbl hbA hS dL_law_26 ?_
      refine top_i (v := 6) rfl ?_
      refine lv_bipush (v := 6) hx hb dL_law_27 (by decide +kernel) ?_
      refine lv_isub hx hb dL_law_29 ?_
      refine top_i (v := 0) (by decide +kernel) ?_
      refine lv_icmp_gt (tgt := 2464) hx hb dL_law_30 (by decide +kernel) (fun _ => ?_) (fun h => absurd (by decide +kernel) h)
      refine lv_iconst (v := 1) hx hb dL_law_2464 (by decide +kernel) ?_
      refine va_forget (fun q hq => hAq _ (hS.2.2 q hq)) ?_
      refine W.widen (k := 600002) (n := 7302232) (by decide +kernel) (by decide +kernel) ?_
      exact lw_ret hx hb hr hlk dL_law_2465
    · exact (no_b (lo_nlt_w c800014) (up_lt c800001) (by decide +kernel)).elim
    · exact (no_b (lo_nlt_w c800016) (up_lt c800001) (by decide +kernel)).elim
    · exact (no_b (lo_nlt_w c800019) (up_lt c800001) (by decide +kernel)).elim
    · exact (no_b (lo_nlt_w c800022) (up_lt c800001) (by decide +kernel)).elim
  · have hP : va_P D vwCl [(n3900, .inr (12, [.ref n3000, .ref n3001, .ref n3002, .ref n3003, .int 0, .ref n3004, .int 0, .int 0, .int 0, .int 0, .int 0, .int 0, .int 0, .int 0, .int 0, .int (-1), .int 0, .ref n3005, .ref n3006, .int 0, .ref n3007, .ref n3008, .int 0, .int 0, .int 0, .int 0, .int 0, .int 0, .int 0, .ref n3009, .ref n3010, .int 0, .int 0, .ref n3011, .ref n3012, .int 0, .int 0, .ref n3013, .ref n3014, .ref n3015, .int 0, .ref n3016, .ref n3017, .ref n3018])), (n3003, .inl (cy 3, 3, .inl (fun _ => 0)))] H := hP
    have hD : va_D A [(n3900, .inr (12, [.ref n3000, .ref n3001, .ref n3002, .ref n3003, .int 0, .ref n3004, .int 0, .int 0, .int 0, .int 0, .int 0, .int 0, .int 0, .int 0, .int 0, .int (-1), .int 0, .ref n3005, .ref n3006, .int 0, .ref n3007, .ref n3008, .int 0, .int 0, .int 0, .int 0, .int 0, .int 0, .int 0, .ref n3009, .ref n3010, .int 0, .int 0, .ref n3011, .ref n3012, .int 0, .int 0, .ref n3013, .ref n3014, .ref n3015, .int 0, .ref n3016, .ref n3017, .ref n3018])), (n3003, .inl (cy 3, 3, .inl (fun _ => 0)))] := hD
    refine lv_istore (lv' := [(5, .int 1), (4, .int 0), (3, .ref n5000), (2, .ref n3900), (1, .ref n1900), (0, .ref b)]) hx hb dL_law_2407 hl (by decide +kernel) rfl (fun ls hl => ?_)
    refine lv_aload_n hx hb dL_law_2409 rfl (lv_at hl 3 rfl) ?_
    refine lv_aload_n hx hb dL_law_2410 rfl (lv_at hl 5 rfl) ?_
    refine lv_iload hx hb dL_law_2411 (lv_at hl 1 rfl) ?_
    refine lv_iconst (v := 1) hx hb dL_law_2413 (by decide +kernel) ?_
    refine lv_iadd hx hb dL_law_2414 ?_
    refine top_i (v := 1) (by decide +kernel) ?_
    refine va_sld hx hb hX hbl hbA hS (i := 1) (vin (by decide +kernel)) dL_law_2415 ?_
    refine top_i (v := z1) ez1 ?_
    refine call_v (av := [.ref n3900, .int z1]) F hP hD hS [(n3900, .inr (12, [.ref n3000, .ref n3001, .ref n3002, .ref n3003, .int 0, .ref n3004, .int 0, .int 0, .int 0, .int 0, .int 0, .int 0, .int 0, .int 0, .int 0, .int (-1), .int 0, .ref n3005, .ref n3006, .int 0, .ref n3007, .ref n3008, .int 0, .int 0, .int 0, .int 0, .int 0, .int 0, .int 0, .ref n3009, .ref n3010, .int 0, .int 0, .ref n3011, .ref n3012, .int 0, .int 0, .ref n3013, .ref n3014, .ref n3015, .int 0, .ref n3016, .ref n3017, .ref n3018])), (n3003, .inl (cy 3, 3, .inl (fun _ => 0)))] [] [0, 1] [] rfl rfl (by decide +kernel) (fun pr => va_runV (As := [.int z1]) (rest := []) ⟨hx, hb, hml, hown, hts⟩ (k211_X12_restore l D cy H.size n3900 z1 n3003 n3000 n3001 n3002 n3004 n3005 n3006 n3007 n3008 n3009 n3010 n3011 n3012 n3013 n3014 n3015 n3016 n3017 n3018) (cwV 1 hts gw_X12_restore rfl rfl rfl (by decide +kernel) ⟨(by decide +kernel), (by decide +kernel)⟩) ⟨pr.1, va_recv hK hP (ci := 12) (q0 := 0) rfl rfl, pr.2⟩ rfl rfl hl.1 rfl (lv_room (Nat.le_of_ble_eq_true rfl)) dL_law_2416 ⟨(by decide +kernel), (by decide +kernel)⟩) (fun u H locs hw hP hD hS => ?_)
    rcases hw with ⟨c800027, rfl⟩ | ⟨c800028, c800029, rfl⟩ | ⟨c800030, c800031, c800032, rfl⟩ | ⟨c800033, c800034, c800035, rfl⟩ | ⟨c800036, c800037, c800038, rfl⟩
    · exact (no_b (lo_nlt c800003) (up_lt_w c800027) (by decide +kernel)).elim
    · have hP : va_P D vwCl [(n3900, .inr (12, [.ref n3000, .ref n3001, .ref n3002, .ref n3003, .int 1, .ref n3004, .int 0, .int 0, .int 0, .int 0, .int 0, .int 0, .int 0, .int 0, .int 0, .int (-1), .int 0, .ref n3005, .ref n3006, .int 0, .ref n3007, .ref n3008, .int 0, .int 0, .int 0, .int 0, .int 0, .int 0, .int 0, .ref n3009, .ref n3010, .int 0, .int 0, .ref n3011, .ref n3012, .int 0, .int 0, .ref n3013, .ref n3014, .ref n3015, .int 0, .ref n3016, .ref n3017, .ref n3018])), (n3003, .inl (cy 3, 3, .inl (fun _ => 0)))] H := hP
      have hD : va_D A [(n3900, .inr (12, [.ref n3000, .ref n3001, .ref n3002, .ref n3003, .int 1, .ref n3004, .int 0, .int 0, .int 0, .int 0, .int 0, .int 0, .int 0, .int 0, .int 0, .int (-1), .int 0, .ref n3005, .ref n3006, .int 0, .ref n3007, .ref n3008, .int 0, .int 0, .int 0, .int 0, .int 0, .int 0, .int 0, .ref n3009, .ref n3010, .int 0, .int 0, .ref n3011, .ref n3012, .int 0, .int 0, .ref n3013, .ref n3014, .ref n3015, .int 0, .ref n3016, .ref n3017, .ref n3018])), (n3003, .inl (cy 3, 3, .inl (fun _ => 0)))] := hD
      refine lv_aload_n hx hb dL_law_2419 rfl (lv_at hl 3 rfl) ?_
      refine call_i (av := [.ref n3900]) F hP hD hS [(n3900, .inr (12, [.ref n3000, .ref n3001, .ref n3002, .ref n3003, .int 1, .ref n3004, .int 0, .int 0, .int 0, .int 0, .int 0, .int 0, .int 0, .int 0, .int 0, .int (-1), .int 0, .ref n3005, .ref n3006, .int 0, .ref n3007, .ref n3008, .int 0, .int 0, .int 0, .int 0, .int 0, .int 0, .int 0, .ref n3009, .ref n3010, .int 0, .int 0, .ref n3011, .ref n3012, .int 0, .int 0, .ref n3013, .ref n3014, .ref n3015, .int 0, .ref n3016, .ref n3017, .ref n3018]))] [(n3003, .inl (cy 3, 3, .inl (fun _ => 0)))] [0] [1] rfl rfl (by decide +kernel) (fun pr => va_runV (As := []) (rest := []) ⟨hx, hb, hml, hown, hts⟩ (k333_X12_thrown l D cy H.size n3900 n3000 n3001 n3002 n3003 n3004 n3005 n3006 n3007 n3008 n3009 n3010 n3011 n3012 n3013 n3014 n3015 n3016 n3017 n3018) (cwV 0 hts gw_X12_thrown rfl rfl rfl (by decide +kernel) ⟨(by decide +kernel), (by decide +kernel)⟩) ⟨pr.1, va_recv hK hP (ci := 12) (q0 := 0) rfl rfl, pr.2⟩ rfl rfl hl.1 rfl (lv_room (Nat.le_of_ble_eq_true rfl)) dL_law_2420 ⟨(by decide +kernel), (by decide +kernel)⟩) (fun r u H locs hw hP hD hS => ?_)
      rcases hw with ⟨rfl, rfl⟩
      have hP : va_P D vwCl [(n3003, .inl (cy 3, 3, .inl (fun _ => 0))), (n3900, .inr (12, [.ref n3000, .ref n3001, .ref n3002, .ref n3003, .int 1, .ref n3004, .int 0, .int 0, .int 0, .int 0, .int 0, .int 0, .int 0, .int 0, .int 0, .int (-1), .int 0, .ref n3005, .ref n3006, .int 0, .ref n3007, .ref n3008, .int 0, .int 0, .int 0, .int 0, .int 0, .int 0, .int 0, .ref n3009, .ref n3010, .int 0, .int 0, .ref n3011, .ref n3012, .int 0, .int 0, .ref n3013, .ref n3014, .ref n3015, .int 0, .ref n3016, .ref n3017, .ref n3018]))] H := hP
      have hD : va_D A [(n3003, .inl (cy 3, 3, .inl (fun _ => 0))), (n3900, .inr (12, [.ref n3000, .ref n3001, .ref n3002, .ref n3003, .int 1, .ref n3004, .int 0, .int 0, .int 0, .int 0, .int 0, .int 0, .int 0, .int 0, .int 0, .int (-1), .int 0, .ref n3005, .ref n3006, .int 0, .ref n3007, .ref n3008, .int 0, .int 0, .int 0, .int 0, .int 0, .int 0, .int 0, .ref n3009, .ref n3010, .int 0, .int 0, .ref n3011, .ref n3012, .int 0, .int 0, .ref n3013, .ref n3014, .ref n3015, .int 0, .ref n3016, .ref n3017, .ref n3018]))] := hD
      refine lv_iload hx hb dL_law_2423 (lv_at hl 0 rfl) ?_
      refine lv_icmp_eq (tgt := 2430) hx hb dL_law_2425 (by decide +kernel) (fun _ => ?_) (fun h => absurd (by decide +kernel) h)
      refine lv_goto (tgt := 2458) hx hb dL_law_2430 (by decide +kernel) ?_
      refine lv_iinc (v := 6) (lv' := [(4, .int 6), (5, .int 1), (3, .ref n5000), (2, .ref n3900), (1, .ref n1900), (0, .ref b)]) hx hb dL_law_2458 hl (k := 1) rfl (by decide) (by decide +kernel) rfl (fun ls hl => ?_)
      refine lv_goto (tgt := 23) hx hb dL_law_2461 (by decide +kernel) ?_
      refine lv_iload hx hb dL_law_23 (lv_at hl 0 rfl) ?_
      refine lv_aload_n hx hb dL_law_25 rfl (lv_at hl 5 rfl) ?_
      refine va_slen hx hb hX hbl hbA hS dL_law_26 ?_
      refine top_i (v := 6) rfl ?_
      refine lv_bipush (v := 6) hx hb dL_law_27 (by decide +kernel) ?_
      refine lv_isub hx hb dL_law_29 ?_
      refine top_i (v := 0) (by decide +kernel) ?_
      refine lv_icmp_gt (tgt := 2464) hx hb dL_law_30 (by decide +kernel) (fun _ => ?_) (fun h => absurd (by decide +kernel) h)
      refine lv_iconst (v := 1) hx hb dL_law_2464 (by decide +kernel) ?_
      refine va_forget (fun q hq => hAq _ (hS.2.2 q hq)) ?_
      refine W.widen (k := 600002) (n := 7302232) (by decide +kernel) (by decide +kernel) ?_
      exact lw_ret hx hb hr hlk dL_law_2465
    · exact (no_b (lo_nlt c800003) (up_nlt_w c800031) (by decide +kernel)).elim
    · exact (no_b (lo_nlt c800003) (up_nlt_w c800034) (by decide +kernel)).elim
    · exact (no_b (lo_nlt c800003) (up_nlt_w c800037) (by decide +kernel)).elim
  · subst c800006
    have hP : va_P D vwCl [(n3900, .inr (12, [.ref n3000, .ref n3001, .ref n3002, .ref n3003, .int 0, .ref n3004, .int 0, .int 0, .int 0, .int 0, .int 0, .int 0, .int 0, .int 0, .int 0, .int (-1), .int 0, .ref n3005, .ref n3006, .int 0, .ref n3007, .ref n3008, .int 0, .int 0, .int 0, .int 0, .int 0, .int 0, .int 0, .ref n3009, .ref n3010, .int 0, .int 0, .ref n3011, .ref n3012, .int 0, .int 0, .ref n3013, .ref n3014, .ref n3015, .int 0, .ref n3016, .ref n3017, .ref n3018])), (n3003, .inl (cy 3, 3, .inl (fun _ => 0)))] H := hP
    have hD : va_D A [(n3900, .inr (12, [.ref n3000, .ref n3001, .ref n3002, .ref n3003, .int 0, .ref n3004, .int 0, .int 0, .int 0, .int 0, .int 0, .int 0, .int 0, .int 0, .int 0, .int (-1), .int 0, .ref n3005, .ref n3006, .int 0, .ref n3007, .ref n3008, .int 0, .int 0, .int 0, .int 0, .int 0, .int 0, .int 0, .ref n3009, .ref n3010, .int 0, .int 0, .ref n3011, .ref n3012, .int 0, .int 0, .ref n3013, .ref n3014, .ref n3015, .int 0, .ref n3016, .ref n3017, .ref n3018])), (n3003, .inl (cy 3, 3, .inl (fun _ => 0)))] := hD
    refine lv_istore (lv' := [(5, .int 2), (4, .int 0), (3, .ref n5000), (2, .ref n3900), (1, .ref n1900), (0, .ref b)]) hx hb dL_law_2407 hl (by decide +kernel) rfl (fun ls hl => ?_)
    refine lv_aload_n hx hb dL_law_2409 rfl (lv_at hl 3 rfl) ?_
    refine lv_aload_n hx hb dL_law_2410 rfl (lv_at hl 5 rfl) ?_
    refine lv_iload hx hb dL_law_2411 (lv_at hl 1 rfl) ?_
    refine lv_iconst (v := 1) hx hb dL_law_2413 (by decide +kernel) ?_
    refine lv_iadd hx hb dL_law_2414 ?_
    refine top_i (v := 1) (by decide +kernel) ?_
    refine va_sld hx hb hX hbl hbA hS (i := 1) (vin (by decide +kernel)) dL_law_2415 ?_
    refine top_i (v := 0) ez1 ?_
    refine call_v (av := [.ref n3900, .int 0]) F hP hD hS [(n3900, .inr (12, [.ref n3000, .ref n3001, .ref n3002, .ref n3003, .int 0, .ref n3004, .int 0, .int 0, .int 0, .int 0, .int 0, .int 0, .int 0, .int 0, .int 0, .int (-1), .int 0, .ref n3005, .ref n3006, .int 0, .ref n3007, .ref n3008, .int 0, .int 0, .int 0, .int 0, .int 0, .int 0, .int 0, .ref n3009, .ref n3010, .int 0, .int 0, .ref n3011, .ref n3012, .int 0, .int 0, .ref n3013, .ref n3014, .ref n3015, .int 0, .ref n3016, .ref n3017, .ref n3018])), (n3003, .inl (cy 3, 3, .inl (fun _ => 0)))] [] [0, 1] [] rfl rfl (by decide +kernel) (fun pr => va_runV (As := [.int 0]) (rest := []) ⟨hx, hb, hml, hown, hts⟩ (k211_X12_restore l D cy H.size n3900 0 n3003 n3000 n3001 n3002 n3004 n3005 n3006 n3007 n3008 n3009 n3010 n3011 n3012 n3013 n3014 n3015 n3016 n3017 n3018) (cwV 1 hts gw_X12_restore rfl rfl rfl (by decide +kernel) ⟨(by decide +kernel), (by decide +kernel)⟩) ⟨pr.1, va_recv hK hP (ci := 12) (q0 := 0) rfl rfl, pr.2⟩ rfl rfl hl.1 rfl (lv_room (Nat.le_of_ble_eq_true rfl)) dL_law_2416 ⟨(by decide +kernel), (by decide +kernel)⟩) (fun u H locs hw hP hD hS => ?_)
    rcases hw with ⟨c800041, rfl⟩ | ⟨c800042, c800043, rfl⟩ | ⟨c800044, c800045, c800046, rfl⟩ | ⟨c800047, c800048, c800049, rfl⟩ | ⟨c800050, c800051, c800052, rfl⟩
    · exact absurd c800041 (by decide +kernel)
    · exact absurd c800043 (by decide +kernel)
    · have hP : va_P D vwCl [(n3900, .inr (12, [.ref n3000, .ref n3001, .ref n3002, .ref n3003, .int 2, .ref n3004, .int 0, .int 0, .int 0, .int 0, .int 0, .int 0, .int 0, .int 0, .int 0, .int (-1), .int 0, .ref n3005, .ref n3006, .int 0, .ref n3007, .ref n3008, .int 0, .int 0, .int 0, .int 0, .int 0, .int 0, .int 0, .ref n3009, .ref n3010, .int 0, .int 0, .ref n3011, .ref n3012, .int 0, .int 0, .ref n3013, .ref n3014, .ref n3015, .int 0, .ref n3016, .ref n3017, .ref n3018])), (n3003, .inl (cy 3, 3, .inl (fun _ => 0)))] H := hP
      have hD : va_D A [(n3900, .inr (12, [.ref n3000, .ref n3001, .ref n3002, .ref n3003, .int 2, .ref n3004, .int 0, .int 0, .int 0, .int 0, .int 0, .int 0, .int 0, .int 0, .int 0, .int (-1), .int 0, .ref n3005, .ref n3006, .int 0, .ref n3007, .ref n3008, .int 0, .int 0, .int 0, .int 0, .int 0, .int 0, .int 0, .ref n3009, .ref n3010, .int 0, .int 0, .ref n3011, .ref n3012, .int 0, .int 0, .ref n3013, .ref n3014, .ref n3015, .int 0, .ref n3016, .ref n3017, .ref n3018])), (n3003, .inl (cy 3, 3, .inl (fun _ => 0)))] := hD
      refine lv_aload_n hx hb dL_law_2419 rfl (lv_at hl 3 rfl) ?_
      refine call_i (av := [.ref n3900]) F hP hD hS [(n3900, .inr (12, [.ref n3000, .ref n3001, .ref n3002, .ref n3003, .int 2, .ref n3004, .int 0, .int 0, .int 0, .int 0, .int 0, .int 0, .int 0, .int 0, .int 0, .int (-1), .int 0, .ref n3005, .ref n3006, .int 0, .ref n3007, .ref n3008, .int 0, .int 0, .int 0, .int 0, .int 0, .int 0, .int 0, .ref n3009, .ref n3010, .int 0, .int 0, .ref n3011, .ref n3012, .int 0, .int 0, .ref n3013, .ref n3014, .ref n3015, .int 0, .ref n3016, .ref n3017, .ref n3018]))] [(n3003, .inl (cy 3, 3, .inl (fun _ => 0)))] [0] [1] rfl rfl (by decide +kernel) (fun pr => va_runV (As := []) (rest := []) ⟨hx, hb, hml, hown, hts⟩ (k335_X12_thrown l D cy H.size n3900 n3000 n3001 n3002 n3003 n3004 n3005 n3006 n3007 n3008 n3009 n3010 n3011 n3012 n3013 n3014 n3015 n3016 n3017 n3018) (cwV 0 hts gw_X12_thrown rfl rfl rfl (by decide +kernel) ⟨(by decide +kernel), (by decide +kernel)⟩) ⟨pr.1, va_recv hK hP (ci := 12) (q0 := 0) rfl rfl, pr.2⟩ rfl rfl hl.1 rfl (lv_room (Nat.le_of_ble_eq_true rfl)) dL_law_2420 ⟨(by decide +kernel), (by decide +kernel)⟩) (fun r u H locs hw hP hD hS => ?_)
      rcases hw with ⟨rfl, rfl⟩
      have hP : va_P D vwCl [(n3003, .inl (cy 3, 3, .inl (fun _ => 0))), (n3900, .inr (12, [.ref n3000, .ref n3001, .ref n3002, .ref n3003, .int 2, .ref n3004, .int 0, .int 0, .int 0, .int 0, .int 0, .int 0, .int 0, .int 0, .int 0, .int (-1), .int 0, .ref n3005, .ref n3006, .int 0, .ref n3007, .ref n3008, .int 0, .int 0, .int 0, .int 0, .int 0, .int 0, .int 0, .ref n3009, .ref n3010, .int 0, .int 0, .ref n3011, .ref n3012, .int 0, .int 0, .ref n3013, .ref n3014, .ref n3015, .int 0, .ref n3016, .ref n3017, .ref n3018]))] H := hP
      have hD : va_D A [(n3003, .inl (cy 3, 3, .inl (fun _ => 0))), (n3900, .inr (12, [.ref n3000, .ref n3001, .ref n3002, .ref n3003, .int 2, .ref n3004, .int 0, .int 0, .int 0, .int 0, .int 0, .int 0, .int 0, .int 0, .int 0, .int (-1), .int 0, .ref n3005, .ref n3006, .int 0, .ref n3007, .ref n3008, .int 0, .int 0, .int 0, .int 0, .int 0, .int 0, .int 0, .ref n3009, .ref n3010, .int 0, .int 0, .ref n3011, .ref n3012, .int 0, .int 0, .ref n3013, .ref n3014, .ref n3015, .int 0, .ref n3016, .ref n3017, .ref n3018]))] := hD
      refine lv_iload hx hb dL_law_2423 (lv_at hl 0 rfl) ?_
      refine lv_icmp_eq (tgt := 2430) hx hb dL_law_2425 (by decide +kernel) (fun _ => ?_) (fun h => absurd (by decide +kernel) h)
      refine lv_goto (tgt := 2458) hx hb dL_law_2430 (by decide +kernel) ?_
      refine lv_iinc (v := 6) (lv' := [(4, .int 6), (5, .int 2), (3, .ref n5000), (2, .ref n3900), (1, .ref n1900), (0, .ref b)]) hx hb dL_law_2458 hl (k := 1) rfl (by decide) (by decide +kernel) rfl (fun ls hl => ?_)
      refine lv_goto (tgt := 23) hx hb dL_law_2461 (by decide +kernel) ?_
      refine lv_iload hx hb dL_law_23 (lv_at hl 0 rfl) ?_
      refine lv_aload_n hx hb dL_law_25 rfl (lv_at hl 5 rfl) ?_
      refine va_slen hx hb hX hbl hbA hS dL_law_26 ?_
      refine top_i (v := 6) rfl ?_
      refine lv_bipush (v := 6) hx hb dL_law_27 (by decide +kernel) ?_
      refine lv_isub hx hb dL_law_29 ?_
      refine top_i (v := 0) (by decide +kernel) ?_
      refine lv_icmp_gt (tgt := 2464) hx hb dL_law_30 (by decide +kernel) (fun _ => ?_) (fun h => absurd (by decide +kernel) h)
      refine lv_iconst (v := 1) hx hb dL_law_2464 (by decide +kernel) ?_
      refine va_forget (fun q hq => hAq _ (hS.2.2 q hq)) ?_
      refine W.widen (k := 600002) (n := 7302232) (by decide +kernel) (by decide +kernel) ?_
      exact lw_ret hx hb hr hlk dL_law_2465
    · exact absurd c800049 (by decide +kernel)
    · exact absurd c800052 (by decide +kernel)
  · subst c800009
    have hP : va_P D vwCl [(n3900, .inr (12, [.ref n3000, .ref n3001, .ref n3002, .ref n3003, .int 0, .ref n3004, .int 0, .int 0, .int 0, .int 0, .int 0, .int 0, .int 0, .int 0, .int 0, .int (-1), .int 0, .ref n3005, .ref n3006, .int 0, .ref n3007, .ref n3008, .int 0, .int 0, .int 0, .int 0, .int 0, .int 0, .int 0, .ref n3009, .ref n3010, .int 0, .int 0, .ref n3011, .ref n3012, .int 0, .int 0, .ref n3013, .ref n3014, .ref n3015, .int 0, .ref n3016, .ref n3017, .ref n3018])), (n3003, .inl (cy 3, 3, .inl (fun _ => 0)))] H := hP
    have hD : va_D A [(n3900, .inr (12, [.ref n3000, .ref n3001, .ref n3002, .ref n3003, .int 0, .ref n3004, .int 0, .int 0, .int 0, .int 0, .int 0, .int 0, .int 0, .int 0, .int 0, .int (-1), .int 0, .ref n3005, .ref n3006, .int 0, .ref n3007, .ref n3008, .int 0, .int 0, .int 0, .int 0, .int 0, .int 0, .int 0, .ref n3009, .ref n3010, .int 0, .int 0, .ref n3011, .ref n3012, .int 0, .int 0, .ref n3013, .ref n3014, .ref n3015, .int 0, .ref n3016, .ref n3017, .ref n3018])), (n3003, .inl (cy 3, 3, .inl (fun _ => 0)))] := hD
    refine lv_istore (lv' := [(5, .int 2), (4, .int 0), (3, .ref n5000), (2, .ref n3900), (1, .ref n1900), (0, .ref b)]) hx hb dL_law_2407 hl (by decide +kernel) rfl (fun ls hl => ?_)
    refine lv_aload_n hx hb dL_law_2409 rfl (lv_at hl 3 rfl) ?_
    refine lv_aload_n hx hb dL_law_2410 rfl (lv_at hl 5 rfl) ?_
    refine lv_iload hx hb dL_law_2411 (lv_at hl 1 rfl) ?_
    refine lv_iconst (v := 1) hx hb dL_law_2413 (by decide +kernel) ?_
    refine lv_iadd hx hb dL_law_2414 ?_
    refine top_i (v := 1) (by decide +kernel) ?_
    refine va_sld hx hb hX hbl hbA hS (i := 1) (vin (by decide +kernel)) dL_law_2415 ?_
    refine top_i (v := 1) ez1 ?_
    refine call_v (av := [.ref n3900, .int 1]) F hP hD hS [(n3900, .inr (12, [.ref n3000, .ref n3001, .ref n3002, .ref n3003, .int 0, .ref n3004, .int 0, .int 0, .int 0, .int 0, .int 0, .int 0, .int 0, .int 0, .int 0, .int (-1), .int 0, .ref n3005, .ref n3006, .int 0, .ref n3007, .ref n3008, .int 0, .int 0, .int 0, .int 0, .int 0, .int 0, .int 0, .ref n3009, .ref n3010, .int 0, .int 0, .ref n3011, .ref n3012, .int 0, .int 0, .ref n3013, .ref n3014, .ref n3015, .int 0, .ref n3016, .ref n3017, .ref n3018])), (n3003, .inl (cy 3, 3, .inl (fun _ => 0)))] [] [0, 1] [] rfl rfl (by decide +kernel) (fun pr => va_runV (As := [.int 1]) (rest := []) ⟨hx, hb, hml, hown, hts⟩ (k211_X12_restore l D cy H.size n3900 1 n3003 n3000 n3001 n3002 n3004 n3005 n3006 n3007 n3008 n3009 n3010 n3011 n3012 n3013 n3014 n3015 n3016 n3017 n3018) (cwV 1 hts gw_X12_restore rfl rfl rfl (by decide +kernel) ⟨(by decide +kernel), (by decide +kernel)⟩) ⟨pr.1, va_recv hK hP (ci := 12) (q0 := 0) rfl rfl, pr.2⟩ rfl rfl hl.1 rfl (lv_room (Nat.le_of_ble_eq_true rfl)) dL_law_2416 ⟨(by decide +kernel), (by decide +kernel)⟩) (fun u H locs hw hP hD hS => ?_)
    rcases hw with ⟨c800055, rfl⟩ | ⟨c800056, c800057, rfl⟩ | ⟨c800058, c800059, c800060, rfl⟩ | ⟨c800061, c800062, c800063, rfl⟩ | ⟨c800064, c800065, c800066, rfl⟩
    · exact absurd c800055 (by decide +kernel)
    · exact absurd c800057 (by decide +kernel)
    · exact absurd c800060 (by decide +kernel)
    · have hP : va_P D vwCl [(n3900, .inr (12, [.ref n3000, .ref n3001, .ref n3002, .ref n3003, .int 2, .ref n3004, .int 0, .int 0, .int 0, .int 0, .int 0, .int 0, .int 0, .int 0, .int 0, .int (-1), .int 0, .ref n3005, .ref n3006, .int 0, .ref n3007, .ref n3008, .int 0, .int 0, .int 0, .int 0, .int 0, .int 0, .int 0, .ref n3009, .ref n3010, .int 0, .int 0, .ref n3011, .ref n3012, .int 0, .int 0, .ref n3013, .ref n3014, .ref n3015, .int 0, .ref n3016, .ref n3017, .ref n3018])), (n3003, .inl (cy 3, 3, .inl (fun _ => 0)))] H := hP
      have hD : va_D A [(n3900, .inr (12, [.ref n3000, .ref n3001, .ref n3002, .ref n3003, .int 2, .ref n3004, .int 0, .int 0, .int 0, .int 0, .int 0, .int 0, .int 0, .int 0, .int 0, .int (-1), .int 0, .ref n3005, .ref n3006, .int 0, .ref n3007, .ref n3008, .int 0, .int 0, .int 0, .int 0, .int 0, .int 0, .int 0, .ref n3009, .ref n3010, .int 0, .int 0, .ref n3011, .ref n3012, .int 0, .int 0, .ref n3013, .ref n3014, .ref n3015, .int 0, .ref n3016, .ref n3017, .ref n3018])), (n3003, .inl (cy 3, 3, .inl (fun _ => 0)))] := hD
      refine lv_aload_n hx hb dL_law_2419 rfl (lv_at hl 3 rfl) ?_
      refine call_i (av := [.ref n3900]) F hP hD hS [(n3900, .inr (12, [.ref n3000, .ref n3001, .ref n3002, .ref n3003, .int 2, .ref n3004, .int 0, .int 0, .int 0, .int 0, .int 0, .int 0, .int 0, .int 0, .int 0, .int (-1), .int 0, .ref n3005, .ref n3006, .int 0, .ref n3007, .ref n3008, .int 0, .int 0, .int 0, .int 0, .int 0, .int 0, .int 0, .ref n3009, .ref n3010, .int 0, .int 0, .ref n3011, .ref n3012, .int 0, .int 0, .ref n3013, .ref n3014, .ref n3015, .int 0, .ref n3016, .ref n3017, .ref n3018]))] [(n3003, .inl (cy 3, 3, .inl (fun _ => 0)))] [0] [1] rfl rfl (by decide +kernel) (fun pr => va_runV (As := []) (rest := []) ⟨hx, hb, hml, hown, hts⟩ (k335_X12_thrown l D cy H.size n3900 n3000 n3001 n3002 n3003 n3004 n3005 n3006 n3007 n3008 n3009 n3010 n3011 n3012 n3013 n3014 n3015 n3016 n3017 n3018) (cwV 0 hts gw_X12_thrown rfl rfl rfl (by decide +kernel) ⟨(by decide +kernel), (by decide +kernel)⟩) ⟨pr.1, va_recv hK hP (ci := 12) (q0 := 0) rfl rfl, pr.2⟩ rfl rfl hl.1 rfl (lv_room (Nat.le_of_ble_eq_true rfl)) dL_law_2420 ⟨(by decide +kernel), (by decide +kernel)⟩) (fun r u H locs hw hP hD hS => ?_)
      rcases hw with ⟨rfl, rfl⟩
      have hP : va_P D vwCl [(n3003, .inl (cy 3, 3, .inl (fun _ => 0))), (n3900, .inr (12, [.ref n3000, .ref n3001, .ref n3002, .ref n3003, .int 2, .ref n3004, .int 0, .int 0, .int 0, .int 0, .int 0, .int 0, .int 0, .int 0, .int 0, .int (-1), .int 0, .ref n3005, .ref n3006, .int 0, .ref n3007, .ref n3008, .int 0, .int 0, .int 0, .int 0, .int 0, .int 0, .int 0, .ref n3009, .ref n3010, .int 0, .int 0, .ref n3011, .ref n3012, .int 0, .int 0, .ref n3013, .ref n3014, .ref n3015, .int 0, .ref n3016, .ref n3017, .ref n3018]))] H := hP
      have hD : va_D A [(n3003, .inl (cy 3, 3, .inl (fun _ => 0))), (n3900, .inr (12, [.ref n3000, .ref n3001, .ref n3002, .ref n3003, .int 2, .ref n3004, .int 0, .int 0, .int 0, .int 0, .int 0, .int 0, .int 0, .int 0, .int 0, .int (-1), .int 0, .ref n3005, .ref n3006, .int 0, .ref n3007, .ref n3008, .int 0, .int 0, .int 0, .int 0, .int 0, .int 0, .int 0, .ref n3009, .ref n3010, .int 0, .int 0, .ref n3011, .ref n3012, .int 0, .int 0, .ref n3013, .ref n3014, .ref n3015, .int 0, .ref n3016, .ref n3017, .ref n3018]))] := hD
      refine lv_iload hx hb dL_law_2423 (lv_at hl 0 rfl) ?_
      refine lv_icmp_eq (tgt := 2430) hx hb dL_law_2425 (by decide +kernel) (fun _ => ?_) (fun h => absurd (by decide +kernel) h)
      refine lv_goto (tgt := 2458) hx hb dL_law_2430 (by decide +kernel) ?_
      refine lv_iinc (v := 6) (lv' := [(4, .int 6), (5, .int 2), (3, .ref n5000), (2, .ref n3900), (1, .ref n1900), (0, .ref b)]) hx hb dL_law_2458 hl (k := 1) rfl (by decide) (by decide +kernel) rfl (fun ls hl => ?_)
      refine lv_goto (tgt := 23) hx hb dL_law_2461 (by decide +kernel) ?_
      refine lv_iload hx hb dL_law_23 (lv_at hl 0 rfl) ?_
      refine lv_aload_n hx hb dL_law_25 rfl (lv_at hl 5 rfl) ?_
      refine va_slen hx hb hX hbl hbA hS dL_law_26 ?_
      refine top_i (v := 6) rfl ?_
      refine lv_bipush (v := 6) hx hb dL_law_27 (by decide +kernel) ?_
      refine lv_isub hx hb dL_law_29 ?_
      refine top_i (v := 0) (by decide +kernel) ?_
      refine lv_icmp_gt (tgt := 2464) hx hb dL_law_30 (by decide +kernel) (fun _ => ?_) (fun h => absurd (by decide +kernel) h)
      refine lv_iconst (v := 1) hx hb dL_law_2464 (by decide +kernel) ?_
      refine va_forget (fun q hq => hAq _ (hS.2.2 q hq)) ?_
      refine W.widen (k := 600002) (n := 7302232) (by decide +kernel) (by decide +kernel) ?_
      exact lw_ret hx hb hr hlk dL_law_2465
    · exact absurd c800066 (by decide +kernel)
  · subst c800012
    have hP : va_P D vwCl [(n3900, .inr (12, [.ref n3000, .ref n3001, .ref n3002, .ref n3003, .int 0, .ref n3004, .int 0, .int 0, .int 0, .int 0, .int 0, .int 0, .int 0, .int 0, .int 0, .int (-1), .int 0, .ref n3005, .ref n3006, .int 0, .ref n3007, .ref n3008, .int 0, .int 0, .int 0, .int 0, .int 0, .int 0, .int 0, .ref n3009, .ref n3010, .int 0, .int 0, .ref n3011, .ref n3012, .int 0, .int 0, .ref n3013, .ref n3014, .ref n3015, .int 0, .ref n3016, .ref n3017, .ref n3018])), (n3003, .inl (cy 3, 3, .inl (fun _ => 0)))] H := hP
    have hD : va_D A [(n3900, .inr (12, [.ref n3000, .ref n3001, .ref n3002, .ref n3003, .int 0, .ref n3004, .int 0, .int 0, .int 0, .int 0, .int 0, .int 0, .int 0, .int 0, .int 0, .int (-1), .int 0, .ref n3005, .ref n3006, .int 0, .ref n3007, .ref n3008, .int 0, .int 0, .int 0, .int 0, .int 0, .int 0, .int 0, .ref n3009, .ref n3010, .int 0, .int 0, .ref n3011, .ref n3012, .int 0, .int 0, .ref n3013, .ref n3014, .ref n3015, .int 0, .ref n3016, .ref n3017, .ref n3018])), (n3003, .inl (cy 3, 3, .inl (fun _ => 0)))] := hD
    refine lv_istore (lv' := [(5, .int 2), (4, .int 0), (3, .ref n5000), (2, .ref n3900), (1, .ref n1900), (0, .ref b)]) hx hb dL_law_2407 hl (by decide +kernel) rfl (fun ls hl => ?_)
    refine lv_aload_n hx hb dL_law_2409 rfl (lv_at hl 3 rfl) ?_
    refine lv_aload_n hx hb dL_law_2410 rfl (lv_at hl 5 rfl) ?_
    refine lv_iload hx hb dL_law_2411 (lv_at hl 1 rfl) ?_
    refine lv_iconst (v := 1) hx hb dL_law_2413 (by decide +kernel) ?_
    refine lv_iadd hx hb dL_law_2414 ?_
    refine top_i (v := 1) (by decide +kernel) ?_
    refine va_sld hx hb hX hbl hbA hS (i := 1) (vin (by decide +kernel)) dL_law_2415 ?_
    refine top_i (v := 2) ez1 ?_
    refine call_v (av := [.ref n3900, .int 2]) F hP hD hS [(n3900, .inr (12, [.ref n3000, .ref n3001, .ref n3002, .ref n3003, .int 0, .ref n3004, .int 0, .int 0, .int 0, .int 0, .int 0, .int 0, .int 0, .int 0, .int 0, .int (-1), .int 0, .ref n3005, .ref n3006, .int 0, .ref n3007, .ref n3008, .int 0, .int 0, .int 0, .int 0, .int 0, .int 0, .int 0, .ref n3009, .ref n3010, .int 0, .int 0, .ref n3011, .ref n3012, .int 0, .int 0, .ref n3013, .ref n3014, .ref n3015, .int 0, .ref n3016, .ref n3017, .ref n3018])), (n3003, .inl (cy 3, 3, .inl (fun _ => 0)))] [] [0, 1] [] rfl rfl (by decide +kernel) (fun pr => va_runV (As := [.int 2]) (rest := []) ⟨hx, hb, hml, hown, hts⟩ (k211_X12_restore l D cy H.size n3900 2 n3003 n3000 n3001 n3002 n3004 n3005 n3006 n3007 n3008 n3009 n3010 n3011 n3012 n3013 n3014 n3015 n3016 n3017 n3018) (cwV 1 hts gw_X12_restore rfl rfl rfl (by decide +kernel) ⟨(by decide +kernel), (by decide +kernel)⟩) ⟨pr.1, va_recv hK hP (ci := 12) (q0 := 0) rfl rfl, pr.2⟩ rfl rfl hl.1 rfl (lv_room (Nat.le_of_ble_eq_true rfl)) dL_law_2416 ⟨(by decide +kernel), (by decide +kernel)⟩) (fun u H locs hw hP hD hS => ?_)
    rcases hw with ⟨c800069, rfl⟩ | ⟨c800070, c800071, rfl⟩ | ⟨c800072, c800073, c800074, rfl⟩ | ⟨c800075, c800076, c800077, rfl⟩ | ⟨c800078, c800079, c800080, rfl⟩
    · exact absurd c800069 (by decide +kernel)
    · exact absurd c800071 (by decide +kernel)
    · exact absurd c800074 (by decide +kernel)
    · exact absurd c800077 (by decide +kernel)
    · have hP : va_P D vwCl [(n3900, .inr (12, [.ref n3000, .ref n3001, .ref n3002, .ref n3003, .int 2, .ref n3004, .int 0, .int 0, .int 0, .int 0, .int 0, .int 0, .int 0, .int 0, .int 0, .int (-1), .int 0, .ref n3005, .ref n3006, .int 0, .ref n3007, .ref n3008, .int 0, .int 0, .int 0, .int 0, .int 0, .int 0, .int 0, .ref n3009, .ref n3010, .int 0, .int 0, .ref n3011, .ref n3012, .int 0, .int 0, .ref n3013, .ref n3014, .ref n3015, .int 0, .ref n3016, .ref n3017, .ref n3018])), (n3003, .inl (cy 3, 3, .inl (fun _ => 0)))] H := hP
      have hD : va_D A [(n3900, .inr (12, [.ref n3000, .ref n3001, .ref n3002, .ref n3003, .int 2, .ref n3004, .int 0, .int 0, .int 0, .int 0, .int 0, .int 0, .int 0, .int 0, .int 0, .int (-1), .int 0, .ref n3005, .ref n3006, .int 0, .ref n3007, .ref n3008, .int 0, .int 0, .int 0, .int 0, .int 0, .int 0, .int 0, .ref n3009, .ref n3010, .int 0, .int 0, .ref n3011, .ref n3012, .int 0, .int 0, .ref n3013, .ref n3014, .ref n3015, .int 0, .ref n3016, .ref n3017, .ref n3018])), (n3003, .inl (cy 3, 3, .inl (fun _ => 0)))] := hD
      refine lv_aload_n hx hb dL_law_2419 rfl (lv_at hl 3 rfl) ?_
      refine call_i (av := [.ref n3900]) F hP hD hS [(n3900, .inr (12, [.ref n3000, .ref n3001, .ref n3002, .ref n3003, .int 2, .ref n3004, .int 0, .int 0, .int 0, .int 0, .int 0, .int 0, .int 0, .int 0, .int 0, .int (-1), .int 0, .ref n3005, .ref n3006, .int 0, .ref n3007, .ref n3008, .int 0, .int 0, .int 0, .int 0, .int 0, .int 0, .int 0, .ref n3009, .ref n3010, .int 0, .int 0, .ref n3011, .ref n3012, .int 0, .int 0, .ref n3013, .ref n3014, .ref n3015, .int 0, .ref n3016, .ref n3017, .ref n3018]))] [(n3003, .inl (cy 3, 3, .inl (fun _ => 0)))] [0] [1] rfl rfl (by decide +kernel) (fun pr => va_runV (As := []) (rest := []) ⟨hx, hb, hml, hown, hts⟩ (k335_X12_thrown l D cy H.size n3900 n3000 n3001 n3002 n3003 n3004 n3005 n3006 n3007 n3008 n3009 n3010 n3011 n3012 n3013 n3014 n3015 n3016 n3017 n3018) (cwV 0 hts gw_X12_thrown rfl rfl rfl (by decide +kernel) ⟨(by decide +kernel), (by decide +kernel)⟩) ⟨pr.1, va_recv hK hP (ci := 12) (q0 := 0) rfl rfl, pr.2⟩ rfl rfl hl.1 rfl (lv_room (Nat.le_of_ble_eq_true rfl)) dL_law_2420 ⟨(by decide +kernel), (by decide +kernel)⟩) (fun r u H locs hw hP hD hS => ?_)
      rcases hw with ⟨rfl, rfl⟩
      have hP : va_P D vwCl [(n3003, .inl (cy 3, 3, .inl (fun _ => 0))), (n3900, .inr (12, [.ref n3000, .ref n3001, .ref n3002, .ref n3003, .int 2, .ref n3004, .int 0, .int 0, .int 0, .int 0, .int 0, .int 0, .int 0, .int 0, .int 0, .int (-1), .int 0, .ref n3005, .ref n3006, .int 0, .ref n3007, .ref n3008, .int 0, .int 0, .int 0, .int 0, .int 0, .int 0, .int 0, .ref n3009, .ref n3010, .int 0, .int 0, .ref n3011, .ref n3012, .int 0, .int 0, .ref n3013, .ref n3014, .ref n3015, .int 0, .ref n3016, .ref n3017, .ref n3018]))] H := hP
      have hD : va_D A [(n3003, .inl (cy 3, 3, .inl (fun _ => 0))), (n3900, .inr (12, [.ref n3000, .ref n3001, .ref n3002, .ref n3003, .int 2, .ref n3004, .int 0, .int 0, .int 0, .int 0, .int 0, .int 0, .int 0, .int 0, .int 0, .int (-1), .int 0, .ref n3005, .ref n3006, .int 0, .ref n3007, .ref n3008, .int 0, .int 0, .int 0, .int 0, .int 0, .int 0, .int 0, .ref n3009, .ref n3010, .int 0, .int 0, .ref n3011, .ref n3012, .int 0, .int 0, .ref n3013, .ref n3014, .ref n3015, .int 0, .ref n3016, .ref n3017, .ref n3018]))] := hD
      refine lv_iload hx hb dL_law_2423 (lv_at hl 0 rfl) ?_
      refine lv_icmp_eq (tgt := 2430) hx hb dL_law_2425 (by decide +kernel) (fun _ => ?_) (fun h => absurd (by decide +kernel) h)
      refine lv_goto (tgt := 2458) hx hb dL_law_2430 (by decide +kernel) ?_
      refine lv_iinc (v := 6) (lv' := [(4, .int 6), (5, .int 2), (3, .ref n5000), (2, .ref n3900), (1, .ref n1900), (0, .ref b)]) hx hb dL_law_2458 hl (k := 1) rfl (by decide) (by decide +kernel) rfl (fun ls hl => ?_)
      refine lv_goto (tgt := 23) hx hb dL_law_2461 (by decide +kernel) ?_
      refine lv_iload hx hb dL_law_23 (lv_at hl 0 rfl) ?_
      refine lv_aload_n hx hb dL_law_25 rfl (lv_at hl 5 rfl) ?_
      refine va_slen hx hb hX hbl hbA hS dL_law_26 ?_
      refine top_i (v := 6) rfl ?_
      refine lv_bipush (v := 6) hx hb dL_law_27 (by decide +kernel) ?_
      refine lv_isub hx hb dL_law_29 ?_
      refine top_i (v := 0) (by decide +kernel) ?_
      refine lv_icmp_gt (tgt := 2464) hx hb dL_law_30 (by decide +kernel) (fun _ => ?_) (fun h => absurd (by decide +kernel) h)
      refine lv_iconst (v := 1) hx hb dL_law_2464 (by decide +kernel) ?_
      refine va_forget (fun q hq => hAq _ (hS.2.2 q hq)) ?_
      refine W.widen (k := 600002) (n := 7302232) (by decide +kernel) (by decide +kernel) ?_
      exact lw_ret hx hb hr hlk dL_law_2465
