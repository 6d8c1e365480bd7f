theorem case_0 {pr : Program} {l : Launch} {e : Env} {s : State} {m : MethodId} {below : List Frame} {meth : Method} {c : Code} {dC : Nat → ClassId} {dI : Nat → Nat → Nat} {sk sv : Nat → Nat} {tc : Nat → ClassId} {b L ax am ao i : Nat} {xs : Nat → Int32} (C : CC pr l s m meth c dC dI sk sv tc b L xs) (h : 6 * i + 6 ≤ L) (hn : GO pr l e s m below meth c dC dI tc b ax am ao i (i + 1) 3264) : GO pr l e s m below meth c dC dI tc b ax am ao i i 284 := by
  obtain ⟨X, hr, hlk, hX, hbl, hL, hst⟩ := id C
  intro w t o H locs cells slots ls hT hP hD hS hl hc hs
  refine lv_aload_n X.1 X.2.1 dL_law__284 rfl (lv_at hl 1 rfl) ?_
  refine pushI1 C h hS hl dL_law__285 dL_law__286 dL_law__288 dL_law__289 dL_law__290 ?_
  refine pushI2 C h hS hl dL_law__291 dL_law__292 dL_law__294 dL_law__295 dL_law__296 ?_
  refine pushI3 C h hS hl dL_law__297 dL_law__298 dL_law__300 dL_law__301 dL_law__302 ?_
  refine pushI4 C h hS hl dL_law__303 dL_law__304 dL_law__306 dL_law__307 dL_law__308 ?_
  refine pushI5 C h hS hl dL_law__309 dL_law__310 dL_law__312 dL_law__313 dL_law__314 ?_
  obtain ⟨rm, mc, ms, hrm, hM⟩ := top_feed l hst dC dI sk sv tc ax am (xs (6 * i + 1)) (xs (6 * i + 2)) (xs (6 * i + 3)) (xs (6 * i + 4)) (xs (6 * i + 5)) hT
  obtain ⟨fs, hm⟩ := hT.mem
  refine callZ (As := [.int (xs (6 * i + 1)), .int (xs (6 * i + 2)), .int (xs (6 * i + 3)), .int (xs (6 * i + 4)), .int (xs (6 * i + 5))]) (rest := []) X (hM ao o) mw_2_189 mw_2_190 mw_2_191 mw_1_1 mw_2_192 dc_X11_feed ⟨by have := hrm.1; show rm.frames + 1 ≤ 2048; omega, by have := hrm.2.1; show 8 + (6 + 11) + rm.locals ≤ 84000; omega⟩ hrm.2.2.1 hrm.2.2.2.1 ⟨by have := hrm.2.2.2.2.1; show cells + mc ≤ 601024; omega, by have := hrm.2.2.2.2.2; show slots + ms ≤ 7293034; omega⟩ hP hD hS (List.mem_append_left _ hm) rfl rfl hl.1 (Nat.le_of_ble_eq_true rfl) dL_law__315 (fun v w' H locs hv hP hD hS => ?_) (fun E q ce w' H locs hx hP hD hS y1 y2 y3 => by obtain ⟨_, _, _, _, hx⟩ := hx; exact hx.elim)
  obtain ⟨w1, rfl, ⟨r, rfl⟩, ⟨fs2, hm2⟩, rm2, hrm2, hM2⟩ := hv
  refine W.eq (g2 := F0 m 318 ls [.int r]) rfl ?_
  refine lv_aload_n X.1 X.2.1 dL_law__318 rfl (lv_at hl 2 rfl) ?_
  refine pushI1 C h hS hl dL_law__319 dL_law__320 dL_law__322 dL_law__323 dL_law__324 ?_
  refine pushI2 C h hS hl dL_law__325 dL_law__326 dL_law__328 dL_law__329 dL_law__330 ?_
  refine pushI3 C h hS hl dL_law__331 dL_law__332 dL_law__334 dL_law__335 dL_law__336 ?_
  refine pushI4 C h hS hl dL_law__337 dL_law__338 dL_law__340 dL_law__341 dL_law__342 ?_
  refine pushI5 C h hS hl dL_law__343 dL_law__344 dL_law__346 dL_law__347 dL_law__348 ?_
  refine callZ (As := [.int (xs (6 * i + 1)), .int (xs (6 * i + 2)), .int (xs (6 * i + 3)), .int (xs (6 * i + 4)), .int (xs (6 * i + 5))]) (rest := [.int r]) X (hM2 ao o) mw_7_210 mw_7_211 mw_7_212 mw_1_12 mw_7_213 dc_X12_feed ⟨by have := hrm2.1; show rm2.frames + 1 ≤ 2048; omega, by have := hrm2.2.1; show 8 + (8 + 11) + rm2.locals ≤ 84000; omega⟩ hrm2.2.2.1 hrm2.2.2.2.1 ⟨by have := hrm.2.2.2.2.1; show cells + mc + 0 ≤ 601024; omega, by have := hrm.2.2.2.2.2; show slots + ms + 0 ≤ 7293034; omega⟩ hP hD hS (List.mem_append_left _ hm2) rfl rfl hl.1 (Nat.le_of_ble_eq_true rfl) dL_law__349 (fun v w' H locs hv hP hD hS => ?_) (fun E q ce w' H locs hx hP hD hS y1 y2 y3 => hx.elim)
  obtain ⟨w2, rfl, rfl, t2, hT2⟩ := hv
  refine W.eq (g2 := F0 m 352 ls [.int r, .int r]) rfl ?_
  refine lv_icmp_eq (tgt := 3264) X.1 X.2.1 dL_law__352 (by decide) (fun _ => ?_) (fun z => absurd rfl z)
  exact hn w2 t2 o H locs _ _ ls hT2 hP hD hS hl (by have := hrm.2.2.2.2.1; omega) (by have := hrm.2.2.2.2.2; omega)
theorem case_1 {pr : Program} {l : Launch} {e : Env} {s : State} {m : MethodId} {below : List Frame} {meth : Method} {c : Code} {dC : Nat → ClassId} {dI : Nat → Nat → Nat} {sk sv : Nat → Nat} {tc : Nat → ClassId} {b L ax am ao i : Nat} {xs : Nat → Int32} (C : CC pr l s m meth c dC dI sk sv tc b L xs) (h : 6 * i + 6 ≤ L) (hn : GO pr l e s m below meth c dC dI tc b ax am ao i (i + 1) 3264) : GO pr l e s m below meth c dC dI tc b ax am ao i i 357 := by
  obtain ⟨X, hr, hlk, hX, hbl, hL, hst⟩ := id C
  intro w t o H locs cells slots ls hT hP hD hS hl hc hs
  refine lv_aload_n X.1 X.2.1 dL_law__357 rfl (lv_at hl 1 rfl) ?_
  refine pushI1 C h hS hl dL_law__358 dL_law__359 dL_law__361 dL_law__362 dL_law__363 ?_
  obtain ⟨rm, mc, ms, hrm, hM⟩ := top_end l hst dC dI sk sv tc ax am (xs (6 * i + 1)) hT
  obtain ⟨fs, hm⟩ := hT.mem
  refine callZ (As := [.int (xs (6 * i + 1))]) (rest := []) X (hM ao o) mw_2_197 mw_2_198 mw_2_199 mw_1_1 mw_2_200 dc_X11_end ⟨by have := hrm.1; show rm.frames + 1 ≤ 2048; omega, by have := hrm.2.1; show 8 + (2 + 11) + rm.locals ≤ 84000; omega⟩ hrm.2.2.1 hrm.2.2.2.1 ⟨by have := hrm.2.2.2.2.1; show cells + mc ≤ 601024; omega, by have := hrm.2.2.2.2.2; show slots + ms ≤ 7293034; omega⟩ hP hD hS (List.mem_append_left _ hm) rfl rfl hl.1 (Nat.le_of_ble_eq_true rfl) dL_law__364 (fun v w' H locs hv hP hD hS => ?_) (fun E q ce w' H locs hx hP hD hS y1 y2 y3 => by obtain ⟨_, _, _, _, hx⟩ := hx; exact hx.elim)
  obtain ⟨w1, rfl, ⟨r, rfl⟩, ⟨fs2, hm2⟩, rm2, hrm2, hM2⟩ := hv
  refine W.eq (g2 := F0 m 367 ls [.int r]) rfl ?_
  refine lv_aload_n X.1 X.2.1 dL_law__367 rfl (lv_at hl 2 rfl) ?_
  refine pushI1 C h hS hl dL_law__368 dL_law__369 dL_law__371 dL_law__372 dL_law__373 ?_
  refine callZ (As := [.int (xs (6 * i + 1))]) (rest := [.int r]) X (hM2 ao o) mw_7_214 mw_7_215 mw_7_216 mw_1_12 mw_7_217 dc_X12_end ⟨by have := hrm2.1; show rm2.frames + 1 ≤ 2048; omega, by have := hrm2.2.1; show 8 + (2 + 11) + rm2.locals ≤ 84000; omega⟩ hrm2.2.2.1 hrm2.2.2.2.1 ⟨by have := hrm.2.2.2.2.1; show cells + mc + 0 ≤ 601024; omega, by have := hrm.2.2.2.2.2; show slots + ms + 0 ≤ 7293034; omega⟩ hP hD hS (List.mem_append_left _ hm2) rfl rfl hl.1 (Nat.le_of_ble_eq_true rfl) dL_law__374 (fun v w' H locs hv hP hD hS => ?_) (fun E q ce w' H locs hx hP hD hS y1 y2 y3 => hx.elim)
  obtain ⟨w2, rfl, rfl, t2, hT2⟩ := hv
  refine W.eq (g2 := F0 m 377 ls [.int r, .int r]) rfl ?_
  refine lv_icmp_eq (tgt := 3264) X.1 X.2.1 dL_law__377 (by decide) (fun _ => ?_) (fun z => absurd rfl z)
  exact hn w2 t2 o H locs _ _ ls hT2 hP hD hS hl (by have := hrm.2.2.2.2.1; omega) (by have := hrm.2.2.2.2.2; omega)
theorem case_2 {pr : Program} {l : Launch} {e : Env} {s : State} {m : MethodId} {below : List Frame} {meth : Method} {c : Code} {dC : Nat → ClassId} {dI : Nat → Nat → Nat} {sk sv : Nat → Nat} {tc : Nat → ClassId} {b L ax am ao i : Nat} {xs : Nat → Int32} (C : CC pr l s m meth c dC dI sk sv tc b L xs) (h : 6 * i + 6 ≤ L) (hn : GO pr l e s m below meth c dC dI tc b ax am ao i (i + 1) 3264) : GO pr l e s m below meth c dC dI tc b ax am ao i i 382 := by
  obtain ⟨X, hr, hlk, hX, hbl, hL, hst⟩ := id C
  intro w t o H locs cells slots ls hT hP hD hS hl hc hs
  refine lv_aload_n X.1 X.2.1 dL_law__382 rfl (lv_at hl 1 rfl) ?_
  refine lv_aload_n X.1 X.2.1 dL_law__383 rfl (lv_at hl 3 rfl) ?_
  obtain ⟨rm, mc, ms, hrm, hM⟩ := top_evening l hst dC dI sk sv tc ax am hT
  obtain ⟨fs, hm⟩ := hT.mem
  refine callZS (As := [.ref ax, .ref ao]) (rest := []) X (w_evening l dC dI sk sv tc ax ao o w ⟨hrm.1, hrm.2.1, hrm.2.2.1, hrm.2.2.2.1⟩ (List.mem_append_left _ hm) (fun k w1 hk => by have h := hk.1; simpa using h) (SC.w (fun v w1 hv => hv.1) (hM ao o))) mw_3_111 mw_3_112 mw_1_0 mwc_evening dcl_evening ⟨Nat.le_of_ble_eq_true rfl, Nat.le_of_ble_eq_true rfl⟩ rfl rfl ⟨by have := hrm.2.2.2.2.1; show cells + mc ≤ 601024; omega, by have := hrm.2.2.2.2.2; show slots + ms ≤ 7293034; omega⟩ hP hD hS hl.1 (Nat.le_of_ble_eq_true rfl) dL_law__384 (fun v w' H locs hv hP hD hS => ?_)
  obtain ⟨kk, o', w1, rfl, rfl, ⟨fs2, hm2⟩, rm2, hrm2, hM2⟩ := w_due (by decide) hv
  refine W.eq (g2 := F0 m 387 ls [.int kk]) rfl ?_
  refine lv_istore (lv' := [(5, .int kk), (0, .ref b), (1, .ref ax), (2, .ref am), (3, .ref ao), (4, .int (nI (6 * i)))]) X.1 X.2.1 dL_law__387 hl (by decide) rfl (fun ls hl5 => ?_)
  have hl : lv_has ls 7 [(0, .ref b), (1, .ref ax), (2, .ref am), (3, .ref ao), (4, .int (nI (6 * i)))] := lv_sub hl5 [1, 2, 3, 4, 5] rfl
  refine lv_aload_n X.1 X.2.1 dL_law__389 rfl (lv_at hl 2 rfl) ?_
  refine callZ (As := []) (rest := []) X (hM2 ao o') mw_7_221 mw_7_222 mw_7_223 mw_1_12 mw_7_224 dc_X12_evening ⟨by have := hrm2.1; show rm2.frames + 1 ≤ 2048; omega, by have := hrm2.2.1; show 8 + (2 + 11) + rm2.locals ≤ 84000; omega⟩ hrm2.2.2.1 hrm2.2.2.2.1 ⟨by have := hrm.2.2.2.2.1; show cells + mc + 0 ≤ 601024; omega, by have := hrm.2.2.2.2.2; show slots + ms + 0 ≤ 7293034; omega⟩ hP hD hS (List.mem_append_left _ hm2) rfl rfl hl.1 (Nat.le_of_ble_eq_true rfl) dL_law__390 (fun v w' H locs hv hP hD hS => ?_) (fun E q ce w' H locs hx hP hD hS y1 y2 y3 => hx.elim)
  obtain ⟨w2, rfl, bb, rfl, hT2, ho⟩ := hv
  refine W.eq (g2 := F0 m 393 ls [.int bb]) rfl ?_
  exact tailI C hn hT2 ho hP hD hS hl5 (by have := hrm.2.2.2.2.1; omega) (by have := hrm.2.2.2.2.2; omega) (by omega) dL_law__393 dL_law__395 dL_law__396 dL_law__399 dL_law__401 dL_law__406 dL_law__408 dL_law__411 dL_law__412 dL_law__413 dL_law__414 dL_law__416 dL_law__417 dL_law__418 dL_law__423 (by decide)
theorem case_3 {pr : Program} {l : Launch} {e : Env} {s : State} {m : MethodId} {below : List Frame} {meth : Method} {c : Code} {dC : Nat → ClassId} {dI : Nat → Nat → Nat} {sk sv : Nat → Nat} {tc : Nat → ClassId} {b L ax am ao i : Nat} {xs : Nat → Int32} (C : CC pr l s m meth c dC dI sk sv tc b L xs) (h : 6 * i + 6 ≤ L) (hn : GO pr l e s m below meth c dC dI tc b ax am ao i (i + 1) 3264) : GO pr l e s m below meth c dC dI tc b ax am ao i i 426 := by
  obtain ⟨X, hr, hlk, hX, hbl, hL, hst⟩ := id C
  intro w t o H locs cells slots ls hT hP hD hS hl hc hs
  refine lv_aload_n X.1 X.2.1 dL_law__426 rfl (lv_at hl 1 rfl) ?_
  refine lv_aload_n X.1 X.2.1 dL_law__427 rfl (lv_at hl 3 rfl) ?_
  obtain ⟨rm, mc, ms, hrm, hM⟩ := top_law l hst dC dI sk sv tc ax am hT
  obtain ⟨fs, hm⟩ := hT.mem
  refine callZS (As := [.ref ax, .ref ao]) (rest := []) X (w_law l dC dI sk sv tc ax ao o w ⟨hrm.1, hrm.2.1, hrm.2.2.1, hrm.2.2.2.1⟩ (List.mem_append_left _ hm) (fun k w1 hk => by have h := hk.1; simpa using h) (SC.w (fun v w1 hv => hv.1) (hM ao o))) mw_4_92 mw_4_93 mw_1_0 mwc_law dcl_law ⟨Nat.le_of_ble_eq_true rfl, Nat.le_of_ble_eq_true rfl⟩ rfl rfl ⟨by have := hrm.2.2.2.2.1; show cells + mc ≤ 601024; omega, by have := hrm.2.2.2.2.2; show slots + ms ≤ 7293034; omega⟩ hP hD hS hl.1 (Nat.le_of_ble_eq_true rfl) dL_law__428 (fun v w' H locs hv hP hD hS => ?_)
  obtain ⟨kk, o', w1, rfl, rfl, ⟨fs2, hm2⟩, rm2, hrm2, hM2⟩ := w_due (by decide) hv
  refine W.eq (g2 := F0 m 431 ls [.int kk]) rfl ?_
  refine lv_istore (lv' := [(5, .int kk), (0, .ref b), (1, .ref ax), (2, .ref am), (3, .ref ao), (4, .int (nI (6 * i)))]) X.1 X.2.1 dL_law__431 hl (by decide) rfl (fun ls hl5 => ?_)
  have hl : lv_has ls 7 [(0, .ref b), (1, .ref ax), (2, .ref am), (3, .ref ao), (4, .int (nI (6 * i)))] := lv_sub hl5 [1, 2, 3, 4, 5] rfl
  refine lv_aload_n X.1 X.2.1 dL_law__433 rfl (lv_at hl 2 rfl) ?_
  refine callZ (As := []) (rest := []) X (hM2 ao o') mw_8_124 mw_8_125 mw_8_126 mw_1_12 mw_8_127 dc_X12_law ⟨by have := hrm2.1; show rm2.frames + 1 ≤ 2048; omega, by have := hrm2.2.1; show 8 + (3 + 11) + rm2.locals ≤ 84000; omega⟩ hrm2.2.2.1 hrm2.2.2.2.1 ⟨by have := hrm.2.2.2.2.1; show cells + mc + 0 ≤ 601024; omega, by have := hrm.2.2.2.2.2; show slots + ms + 0 ≤ 7293034; omega⟩ hP hD hS (List.mem_append_left _ hm2) rfl rfl hl.1 (Nat.le_of_ble_eq_true rfl) dL_law__434 (fun v w' H locs hv hP hD hS => ?_) (fun E q ce w' H locs hx hP hD hS y1 y2 y3 => hx.elim)
  obtain ⟨w2, rfl, bb, rfl, hT2, ho⟩ := hv
  refine W.eq (g2 := F0 m 437 ls [.int bb]) rfl ?_
  exact tailI C hn hT2 ho hP hD hS hl5 (by have := hrm.2.2.2.2.1; omega) (by have := hrm.2.2.2.2.2; omega) (by omega) dL_law__437 dL_law__439 dL_law__440 dL_law__443 dL_law__445 dL_law__450 dL_law__452 dL_law__455 dL_law__456 dL_law__457 dL_law__458 dL_law__460 dL_law__461 dL_law__462 dL_law__467 (by decide)
theorem case_4 {pr : Program} {l : Launch} {e : Env} {s : State} {m : MethodId} {below : List Frame} {meth : Method} {c : Code} {dC : Nat → ClassId} {dI : Nat → Nat → Nat} {sk sv : Nat → Nat} {tc : Nat → ClassId} {b L ax am ao i : Nat} {xs : Nat → Int32} (C : CC pr l s m meth c dC dI sk sv tc b L xs) (h : 6 * i + 6 ≤ L) (hn : GO pr l e s m below meth c dC dI tc b ax am ao i (i + 1) 3264) : GO pr l e s m below meth c dC dI tc b ax am ao i i 470 := by
  obtain ⟨X, hr, hlk, hX, hbl, hL, hst⟩ := id C
  intro w t o H locs cells slots ls hT hP hD hS hl hc hs
  refine lv_aload_n X.1 X.2.1 dL_law__470 rfl (lv_at hl 1 rfl) ?_
  obtain ⟨rm, mc, ms, hrm, hM⟩ := top_fault l hst dC dI sk sv tc ax am hT
  obtain ⟨fs, hm⟩ := hT.mem
  refine callZ (As := []) (rest := []) X (hM ao o) mw_2_201 mw_2_202 mw_2_203 mw_1_1 mw_2_204 dc_X11_fault ⟨by have := hrm.1; show rm.frames + 1 ≤ 2048; omega, by have := hrm.2.1; show 8 + (1 + 11) + rm.locals ≤ 84000; omega⟩ hrm.2.2.1 hrm.2.2.2.1 ⟨by have := hrm.2.2.2.2.1; show cells + mc ≤ 601024; omega, by have := hrm.2.2.2.2.2; show slots + ms ≤ 7293034; omega⟩ hP hD hS (List.mem_append_left _ hm) rfl rfl hl.1 (Nat.le_of_ble_eq_true rfl) dL_law__471 (fun v w' H locs hv hP hD hS => ?_) (fun E q ce w' H locs hx hP hD hS y1 y2 y3 => by obtain ⟨_, _, _, _, hx⟩ := hx; exact hx.elim)
  obtain ⟨w1, rfl, ⟨r, rfl⟩, ⟨fs2, hm2⟩, rm2, hrm2, hM2⟩ := hv
  refine W.eq (g2 := F0 m 474 ls [.int r]) rfl ?_
  refine lv_aload_n X.1 X.2.1 dL_law__474 rfl (lv_at hl 2 rfl) ?_
  refine callZ (As := []) (rest := [.int r]) X (hM2 ao o) mw_8_128 mw_8_129 mw_8_130 mw_1_12 mw_8_131 dc_X12_fault ⟨by have := hrm2.1; show rm2.frames + 1 ≤ 2048; omega, by have := hrm2.2.1; show 8 + (1 + 11) + rm2.locals ≤ 84000; omega⟩ hrm2.2.2.1 hrm2.2.2.2.1 ⟨by have := hrm.2.2.2.2.1; show cells + mc + 0 ≤ 601024; omega, by have := hrm.2.2.2.2.2; show slots + ms + 0 ≤ 7293034; omega⟩ hP hD hS (List.mem_append_left _ hm2) rfl rfl hl.1 (Nat.le_of_ble_eq_true rfl) dL_law__475 (fun v w' H locs hv hP hD hS => ?_) (fun E q ce w' H locs hx hP hD hS y1 y2 y3 => hx.elim)
  obtain ⟨w2, rfl, rfl, t2, hT2⟩ := hv
  refine W.eq (g2 := F0 m 478 ls [.int r, .int r]) rfl ?_
  refine lv_icmp_eq (tgt := 3264) X.1 X.2.1 dL_law__478 (by decide) (fun _ => ?_) (fun z => absurd rfl z)
  exact hn w2 t2 o H locs _ _ ls hT2 hP hD hS hl (by have := hrm.2.2.2.2.1; omega) (by have := hrm.2.2.2.2.2; omega)
theorem case_5 {pr : Program} {l : Launch} {e : Env} {s : State} {m : MethodId} {below : List Frame} {meth : Method} {c : Code} {dC : Nat → ClassId} {dI : Nat → Nat → Nat} {sk sv : Nat → Nat} {tc : Nat → ClassId} {b L ax am ao i : Nat} {xs : Nat → Int32} (C : CC pr l s m meth c dC dI sk sv tc b L xs) (h : 6 * i + 6 ≤ L) (hn : GO pr l e s m below meth c dC dI tc b ax am ao i (i + 1) 3264) : GO pr l e s m below meth c dC dI tc b ax am ao i i 483 := by
  obtain ⟨X, hr, hlk, hX, hbl, hL, hst⟩ := id C
  intro w t o H locs cells slots ls hT hP hD hS hl hc hs
  refine lv_aload_n X.1 X.2.1 dL_law__483 rfl (lv_at hl 1 rfl) ?_
  refine pushI1 C h hS hl dL_law__484 dL_law__485 dL_law__487 dL_law__488 dL_law__489 ?_
  refine pushI2 C h hS hl dL_law__490 dL_law__491 dL_law__493 dL_law__494 dL_law__495 ?_
  refine lv_aload_n X.1 X.2.1 dL_law__496 rfl (lv_at hl 3 rfl) ?_
  obtain ⟨rm, mc, ms, hrm, hM⟩ := top_word l hst dC dI sk sv tc ax am (xs (6 * i + 1)) (xs (6 * i + 2)) hT
  obtain ⟨fs, hm⟩ := hT.mem
  refine callZS (As := [.ref ax, .int (xs (6 * i + 1)), .int (xs (6 * i + 2)), .ref ao]) (rest := []) X (w_word l dC dI sk sv tc ax ao o (xs (6 * i + 1)) (xs (6 * i + 2)) w ⟨hrm.1, hrm.2.1, hrm.2.2.1, hrm.2.2.2.1⟩ (List.mem_append_left _ hm) (fun k w1 hk => by have h := hk.1; simpa using h) (SC.w (fun v w1 hv => hv.1) (hM ao o))) mw_4_201 mw_4_202 mw_1_0 mwc_word dcl_word ⟨Nat.le_of_ble_eq_true rfl, Nat.le_of_ble_eq_true rfl⟩ rfl rfl ⟨by have := hrm.2.2.2.2.1; show cells + mc ≤ 601024; omega, by have := hrm.2.2.2.2.2; show slots + ms ≤ 7293034; omega⟩ hP hD hS hl.1 (Nat.le_of_ble_eq_true rfl) dL_law__497 (fun v w' H locs hv hP hD hS => ?_)
  obtain ⟨kk, o', w1, rfl, rfl, ⟨fs2, hm2⟩, rm2, hrm2, hM2⟩ := w_due (by decide) hv
  refine W.eq (g2 := F0 m 500 ls [.int kk]) rfl ?_
  refine lv_istore (lv' := [(5, .int kk), (0, .ref b), (1, .ref ax), (2, .ref am), (3, .ref ao), (4, .int (nI (6 * i)))]) X.1 X.2.1 dL_law__500 hl (by decide) rfl (fun ls hl5 => ?_)
  have hl : lv_has ls 7 [(0, .ref b), (1, .ref ax), (2, .ref am), (3, .ref ao), (4, .int (nI (6 * i)))] := lv_sub hl5 [1, 2, 3, 4, 5] rfl
  refine lv_aload_n X.1 X.2.1 dL_law__502 rfl (lv_at hl 2 rfl) ?_
  refine pushI1 C h hS hl dL_law__503 dL_law__504 dL_law__506 dL_law__507 dL_law__508 ?_
  refine pushI2 C h hS hl dL_law__509 dL_law__510 dL_law__512 dL_law__513 dL_law__514 ?_
  refine callZ (As := [.int (xs (6 * i + 1)), .int (xs (6 * i + 2))]) (rest := []) X (hM2 ao o') mw_8_132 mw_8_133 mw_8_134 mw_1_12 mw_8_135 dc_X12_word ⟨by have := hrm2.1; show rm2.frames + 1 ≤ 2048; omega, by have := hrm2.2.1; show 8 + (3 + 11) + rm2.locals ≤ 84000; omega⟩ hrm2.2.2.1 hrm2.2.2.2.1 ⟨by have := hrm.2.2.2.2.1; show cells + mc + 0 ≤ 601024; omega, by have := hrm.2.2.2.2.2; show slots + ms + 0 ≤ 7293034; omega⟩ hP hD hS (List.mem_append_left _ hm2) rfl rfl hl.1 (Nat.le_of_ble_eq_true rfl) dL_law__515 (fun v w' H locs hv hP hD hS => ?_) (fun E q ce w' H locs hx hP hD hS y1 y2 y3 => hx.elim)
  obtain ⟨w2, rfl, bb, rfl, hT2, ho⟩ := hv
  refine W.eq (g2 := F0 m 518 ls [.int bb]) rfl ?_
  exact tailI C hn hT2 ho hP hD hS hl5 (by have := hrm.2.2.2.2.1; omega) (by have := hrm.2.2.2.2.2; omega) (by omega) dL_law__518 dL_law__520 dL_law__521 dL_law__524 dL_law__526 dL_law__531 dL_law__533 dL_law__536 dL_law__537 dL_law__538 dL_law__539 dL_law__541 dL_law__542 dL_law__543 dL_law__548 (by decide)
theorem case_6 {pr : Program} {l : Launch} {e : Env} {s : State} {m : MethodId} {below : List Frame} {meth : Method} {c : Code} {dC : Nat → ClassId} {dI : Nat → Nat → Nat} {sk sv : Nat → Nat} {tc : Nat → ClassId} {b L ax am ao i : Nat} {xs : Nat → Int32} (C : CC pr l s m meth c dC dI sk sv tc b L xs) (h : 6 * i + 6 ≤ L) (hn : GO pr l e s m below meth c dC dI tc b ax am ao i (i + 1) 3264) : GO pr l e s m below meth c dC dI tc b ax am ao i i 551 := by
  obtain ⟨X, hr, hlk, hX, hbl, hL, hst⟩ := id C
  intro w t o H locs cells slots ls hT hP hD hS hl hc hs
  refine lv_aload_n X.1 X.2.1 dL_law__551 rfl (lv_at hl 1 rfl) ?_
  refine pushI1 C h hS hl dL_law__552 dL_law__553 dL_law__555 dL_law__556 dL_law__557 ?_
  refine pushI2 C h hS hl dL_law__558 dL_law__559 dL_law__561 dL_law__562 dL_law__563 ?_
  refine lv_aload_n X.1 X.2.1 dL_law__564 rfl (lv_at hl 3 rfl) ?_
  obtain ⟨rm, mc, ms, hrm, hM⟩ := top_letter l hst dC dI sk sv tc ax am (xs (6 * i + 1)) (xs (6 * i + 2)) hT
  obtain ⟨fs, hm⟩ := hT.mem
  refine callZS (As := [.ref ax, .int (xs (6 * i + 1)), .int (xs (6 * i + 2)), .ref ao]) (rest := []) X (w_letter l dC dI sk sv tc ax ao o (xs (6 * i + 1)) (xs (6 * i + 2)) w ⟨hrm.1, hrm.2.1, hrm.2.2.1, hrm.2.2.2.1⟩ (List.mem_append_left _ hm) (fun k w1 hk => by have h := hk.1; simpa using h) (SC.w (fun v w1 hv => hv.1) (hM ao o))) mw_5_23 mw_5_24 mw_1_0 mwc_letter dcl_letter ⟨Nat.le_of_ble_eq_true rfl, Nat.le_of_ble_eq_true rfl⟩ rfl rfl ⟨by have := hrm.2.2.2.2.1; show cells + mc ≤ 601024; omega, by have := hrm.2.2.2.2.2; show slots + ms ≤ 7293034; omega⟩ hP hD hS hl.1 (Nat.le_of_ble_eq_true rfl) dL_law__565 (fun v w' H locs hv hP hD hS => ?_)
  obtain ⟨kk, o', w1, rfl, rfl, ⟨fs2, hm2⟩, rm2, hrm2, hM2⟩ := w_due (by decide) hv
  refine W.eq (g2 := F0 m 568 ls [.int kk]) rfl ?_
  refine lv_istore (lv' := [(5, .int kk), (0, .ref b), (1, .ref ax), (2, .ref am), (3, .ref ao), (4, .int (nI (6 * i)))]) X.1 X.2.1 dL_law__568 hl (by decide) rfl (fun ls hl5 => ?_)
  have hl : lv_has ls 7 [(0, .ref b), (1, .ref ax), (2, .ref am), (3, .ref ao), (4, .int (nI (6 * i)))] := lv_sub hl5 [1, 2, 3, 4, 5] rfl
  refine lv_aload_n X.1 X.2.1 dL_law__570 rfl (lv_at hl 2 rfl) ?_
  refine pushI1 C h hS hl dL_law__571 dL_law__572 dL_law__574 dL_law__575 dL_law__576 ?_
  refine pushI2 C h hS hl dL_law__577 dL_law__578 dL_law__580 dL_law__581 dL_law__582 ?_
  refine callZ (As := [.int (xs (6 * i + 1)), .int (xs (6 * i + 2))]) (rest := []) X (hM2 ao o') mw_8_168 mw_8_169 mw_8_170 mw_1_12 mw_8_171 dc_X12_letter ⟨by have := hrm2.1; show rm2.frames + 1 ≤ 2048; omega, by have := hrm2.2.1; show 8 + (3 + 11) + rm2.locals ≤ 84000; omega⟩ hrm2.2.2.1 hrm2.2.2.2.1 ⟨by have := hrm.2.2.2.2.1; show cells + mc + 0 ≤ 601024; omega, by have := hrm.2.2.2.2.2; show slots + ms + 0 ≤ 7293034; omega⟩ hP hD hS (List.mem_append_left _ hm2) rfl rfl hl.1 (Nat.le_of_ble_eq_true rfl) dL_law__583 (fun v w' H locs hv hP hD hS => ?_) (fun E q ce w' H locs hx hP hD hS y1 y2 y3 => hx.elim)
  obtain ⟨w2, rfl, bb, rfl, hT2, ho⟩ := hv
  refine W.eq (g2 := F0 m 586 ls [.int bb]) rfl ?_
  exact tailI C hn hT2 ho hP hD hS hl5 (by have := hrm.2.2.2.2.1; omega) (by have := hrm.2.2.2.2.2; omega) (by omega) dL_law__586 dL_law__588 dL_law__589 dL_law__592 dL_law__594 dL_law__599 dL_law__601 dL_law__604 dL_law__605 dL_law__606 dL_law__607 dL_law__609 dL_law__610 dL_law__611 dL_law__616 (by decide)
theorem case_7 {pr : Program} {l : Launch} {e : Env} {s : State} {m : MethodId} {below : List Frame} {meth : Method} {c : Code} {dC : Nat → ClassId} {dI : Nat → Nat → Nat} {sk sv : Nat → Nat} {tc : Nat → ClassId} {b L ax am ao i : Nat} {xs : Nat → Int32} (C : CC pr l s m meth c dC dI sk sv tc b L xs) (h : 6 * i + 6 ≤ L) (hn : GO pr l e s m below meth c dC dI tc b ax am ao i (i + 1) 3264) : GO pr l e s m below meth c dC dI tc b ax am ao i i 619 := by
  obtain ⟨X, hr, hlk, hX, hbl, hL, hst⟩ := id C
  intro w t o H locs cells slots ls hT hP hD hS hl hc hs
  refine lv_aload_n X.1 X.2.1 dL_law__619 rfl (lv_at hl 1 rfl) ?_
  refine pushI1 C h hS hl dL_law__620 dL_law__621 dL_law__623 dL_law__624 dL_law__625 ?_
  refine pushI2 C h hS hl dL_law__626 dL_law__627 dL_law__629 dL_law__630 dL_law__631 ?_
  refine lv_aload_n X.1 X.2.1 dL_law__632 rfl (lv_at hl 3 rfl) ?_
  obtain ⟨rm, mc, ms, hrm, hM⟩ := top_writer l hst dC dI sk sv tc ax am (xs (6 * i + 1)) (xs (6 * i + 2)) hT
  obtain ⟨fs, hm⟩ := hT.mem
  refine callZS (As := [.ref ax, .int (xs (6 * i + 1)), .int (xs (6 * i + 2)), .ref ao]) (rest := []) X (w_writer l dC dI sk sv tc ax ao o (xs (6 * i + 1)) (xs (6 * i + 2)) w ⟨hrm.1, hrm.2.1, hrm.2.2.1, hrm.2.2.2.1⟩ (List.mem_append_left _ hm) (fun k w1 hk => by have h := hk.1; simpa using h) (SC.w (fun v w1 hv => hv.1) (hM ao o))) mw_5_31 mw_5_32 mw_1_0 mwc_writer dcl_writer ⟨Nat.le_of_ble_eq_true rfl, Nat.le_of_ble_eq_true rfl⟩ rfl rfl ⟨by have := hrm.2.2.2.2.1; show cells + mc ≤ 601024; omega, by have := hrm.2.2.2.2.2; show slots + ms ≤ 7293034; omega⟩ hP hD hS hl.1 (Nat.le_of_ble_eq_true rfl) dL_law__633 (fun v w' H locs hv hP hD hS => ?_)
  obtain ⟨kk, o', w1, rfl, rfl, ⟨fs2, hm2⟩, rm2, hrm2, hM2⟩ := w_due (by decide) hv
  refine W.eq (g2 := F0 m 636 ls [.int kk]) rfl ?_
  refine lv_istore (lv' := [(5, .int kk), (0, .ref b), (1, .ref ax), (2, .ref am), (3, .ref ao), (4, .int (nI (6 * i)))]) X.1 X.2.1 dL_law__636 hl (by decide) rfl (fun ls hl5 => ?_)
  have hl : lv_has ls 7 [(0, .ref b), (1, .ref ax), (2, .ref am), (3, .ref ao), (4, .int (nI (6 * i)))] := lv_sub hl5 [1, 2, 3, 4, 5] rfl
  refine lv_aload_n X.1 X.2.1 dL_law__638 rfl (lv_at hl 2 rfl) ?_
  refine pushI1 C h hS hl dL_law__639 dL_law__640 dL_law__642 dL_law__643 dL_law__644 ?_
  refine pushI2 C h hS hl dL_law__645 dL_law__646 dL_law__648 dL_law__649 dL_law__650 ?_
  refine callZ (As := [.int (xs (6 * i + 1)), .int (xs (6 * i + 2))]) (rest := []) X (hM2 ao o') mw_8_172 mw_8_173 mw_8_174 mw_1_12 mw_8_175 dc_X12_writer ⟨by have := hrm2.1; show rm2.frames + 1 ≤ 2048; omega, by have := hrm2.2.1; show 8 + (3 + 11) + rm2.locals ≤ 84000; omega⟩ hrm2.2.2.1 hrm2.2.2.2.1 ⟨by have := hrm.2.2.2.2.1; show cells + mc + 0 ≤ 601024; omega, by have := hrm.2.2.2.2.2; show slots + ms + 0 ≤ 7293034; omega⟩ hP hD hS (List.mem_append_left _ hm2) rfl rfl hl.1 (Nat.le_of_ble_eq_true rfl) dL_law__651 (fun v w' H locs hv hP hD hS => ?_) (fun E q ce w' H locs hx hP hD hS y1 y2 y3 => hx.elim)
  obtain ⟨w2, rfl, bb, rfl, hT2, ho⟩ := hv
  refine W.eq (g2 := F0 m 654 ls [.int bb]) rfl ?_
  exact tailI C hn hT2 ho hP hD hS hl5 (by have := hrm.2.2.2.2.1; omega) (by have := hrm.2.2.2.2.2; omega) (by omega) dL_law__654 dL_law__656 dL_law__657 dL_law__660 dL_law__662 dL_law__667 dL_law__669 dL_law__672 dL_law__673 dL_law__674 dL_law__675 dL_law__677 dL_law__678 dL_law__679 dL_law__684 (by decide)
