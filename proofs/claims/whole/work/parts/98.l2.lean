theorem case_0 {pr : Program} {l : Launch} {e : Env} {s : State} {m : MethodId} {below : List Frame} {meth : Method} {c : Code} {dC : Nat → ClassId} {dI : Nat → Nat → Nat} {sk sv : Nat → Nat} {tc : Nat → ClassId} {b L ax am ao i : Nat} {xs : Nat → Int32} (C : CC pr l s m meth c dC dI sk sv tc b L xs) (h : 6 * i + 6 ≤ L) (hn : GO pr l e s m below meth c dC dI tc b ax am ao i (i + 1) 3264) : GO pr l e s m below meth c dC dI tc b ax am ao i i 284 := by
  obtain ⟨X, hr, hlk, hX, hbl, hL, hst⟩ := id C
  intro w t o H locs cells slots ls hT hP hD hS hl hc hs
  refine lv_aload_n X.1 X.2.1 dL_law__284 rfl (lv_at hl 1 rfl) ?_
  refine pushI1 C h hS hl dL_law__285 dL_law__286 dL_law__288 dL_law__289 dL_law__290 ?_
  refine pushI2 C h hS hl dL_law__291 dL_law__292 dL_law__294 dL_law__295 dL_law__296 ?_
  refine pushI3 C h hS hl dL_law__297 dL_law__298 dL_law__300 dL_law__301 dL_law__302 ?_
  refine pushI4 C h hS hl dL_law__303 dL_law__304 dL_law__306 dL_law__307 dL_law__308 ?_
  refine pushI5 C h hS hl dL_law__309 dL_law__310 dL_law__312 dL_law__313 dL_law__314 ?_
  obtain ⟨rm, mc, ms, hrm, hM⟩ := top_feed l hst dC dI sk sv tc ax am (xs (6 * i + 1)) (xs (6 * i + 2)) (xs (6 * i + 3)) (xs (6 * i + 4)) (xs (6 * i + 5)) hT
  obtain ⟨fs, hm⟩ := hT.mem
  refine callZ (As := [.int (xs (6 * i + 1)), .int (xs (6 * i + 2)), .int (xs (6 * i + 3)), .int (xs (6 * i + 4)), .int (xs (6 * i + 5))]) (rest := []) X (hM ao o) mw_2_189 mw_2_190 mw_2_191 mw_1_1 mw_2_192 dc_X11_feed ⟨by have := hrm.1; show rm.frames + 1 ≤ 2048; omega, by have := hrm.2.1; show 8 + (6 + 11) + rm.locals ≤ 84000; omega⟩ hrm.2.2.1 hrm.2.2.2.1 ⟨by have := hrm.2.2.2.2.1; show cells + mc ≤ 601024; omega, by have := hrm.2.2.2.2.2; show slots + ms ≤ 7293034; omega⟩ hP hD hS (List.mem_append_left _ hm) rfl rfl hl.1 (Nat.le_of_ble_eq_true rfl) dL_law__315 (fun v w' H locs hv hP hD hS => ?_) (fun E q ce w' H locs hx hP hD hS y1 y2 y3 => by obtain ⟨_, _, _, _, hx⟩ := hx; exact hx.elim)
  obtain ⟨w1, rfl, ⟨r, rfl⟩, ⟨fs2, hm2⟩, rm2, hrm2, hM2⟩ := hv
  refine W.eq (g2 := F0 m 318 ls [.int r]) rfl ?_
  refine lv_aload_n X.1 X.2.1 dL_law__318 rfl (lv_at hl 2 rfl) ?_
  refine pushI1 C h hS hl dL_law__319 dL_law__320 dL_law__322 dL_law__323 dL_law__324 ?_
  refine pushI2 C h hS hl dL_law__325 dL_law__326 dL_law__328 dL_law__329 dL_law__330 ?_
  refine pushI3 C h hS hl dL_law__331 dL_law__332 dL_law__334 dL_law__335 dL_law__336 ?_
  refine pushI4 C h hS hl dL_law__337 dL_law__338 dL_law__340 dL_law__341 dL_law__342 ?_
  refine pushI5 C h hS hl dL_law__343 dL_law__344 dL_law__346 dL_law__347 dL_law__348 ?_
  refine callZ (As := [.int (xs (6 * i + 1)), .int (xs (6 * i + 2)), .int (xs (6 * i + 3)), .int (xs (6 * i + 4)), .int (xs (6 * i + 5))]) (rest := [.int r]) X (hM2 ao o) mw_7_210 mw_7_211 mw_7_212 mw_1_12 mw_7_213 dc_X12_feed ⟨by have := hrm2.1; show rm2.frames + 1 ≤ 2048; omega, by have := hrm2.2.1; show 8 + (8 + 11) + rm2.locals ≤ 84000; omega⟩ hrm2.2.2.1 hrm2.2.2.2.1 ⟨by have := hrm.2.2.2.2.1; show cells + mc + 0 ≤ 601024; omega, by have := hrm.2.2.2.2.2; show slots + ms + 0 ≤ 7293034; omega⟩ hP hD hS (List.mem_append_left _ hm2) rfl rfl hl.1 (Nat.le_of_ble_eq_true rfl) dL_law__349 (fun v w' H locs hv hP hD hS => ?_) (fun E q ce w' H locs hx hP hD hS y1 y2 y3 => hx.elim)
  obtain ⟨w2, rfl, rfl, t2, hT2⟩ := hv
  refine W.eq (g2 := F0 m 352 ls [.int r, .int r]) rfl ?_
  refine lv_icmp_eq (tgt := 3264) X.1 X.2.1 dL_law__352 (by decide) (fun _ => ?_) (fun z => absurd rfl z)
  exact hn w2 t2 o H locs _ _ ls hT2 hP hD hS hl (by have := hrm.2.2.2.2.1; omega) (by have := hrm.2.2.2.2.2; omega)
theorem case_1 {pr : Program} {l : Launch} {e : Env} {s : State} {m : MethodId} {below : List Frame} {meth : Method} {c : Code} {dC : Nat → ClassId} {dI : Nat → Nat → Nat} {sk sv : Nat → Nat} {tc : Nat → ClassId} {b L ax am ao i : Nat} {xs : Nat → Int32} (C : CC pr l s m meth c dC dI sk sv tc b L xs) (h : 6 * i + 6 ≤ L) (hn : GO pr l e s m below meth c dC dI tc b ax am ao i (i + 1) 3264) : GO pr l e s m below meth c dC dI tc b ax am ao i i 357 := by
  obtain ⟨X, hr, hlk, hX, hbl, hL, hst⟩ := id C
  intro w t o H locs cells slots ls hT hP hD hS hl hc hs
  refine lv_aload_n X.1 X.2.1 dL_law__357 rfl (lv_at hl 1 rfl) ?_
  refine pushI1 C h hS hl dL_law__358 dL_law__359 dL_law__361 dL_law__362 dL_law__363 ?_
  obtain ⟨rm, mc, ms, hrm, hM⟩ := top_end l hst dC dI sk sv tc ax am (xs (6 * i + 1)) hT
  obtain ⟨fs, hm⟩ := hT.mem
  refine callZ (As := [.int (xs (6 * i + 1))]) (rest := []) X (hM ao o) mw_2_197 mw_2_198 mw_2_199 mw_1_1 mw_2_200 dc_X11_end ⟨by have := hrm.1; show rm.frames + 1 ≤ 2048; omega, by have := hrm.2.1; show 8 + (2 + 11) + rm.locals ≤ 84000; omega⟩ hrm.2.2.1 hrm.2.2.2.1 ⟨by have := hrm.2.2.2.2.1; show cells + mc ≤ 601024; omega, by have := hrm.2.2.2.2.2; show slots + ms ≤ 7293034; omega⟩ hP hD hS (List.mem_append_left _ hm) rfl rfl hl.1 (Nat.le_of_ble_eq_true rfl) dL_law__364 (fun v w' H locs hv hP hD hS => ?_) (fun E q ce w' H locs hx hP hD hS y1 y2 y3 => by obtain ⟨_, _, _, _, hx⟩ := hx; exact hx.elim)
  obtain ⟨w1, rfl, ⟨r, rfl⟩, ⟨fs2, hm2⟩, rm2, hrm2, hM2⟩ := hv
  refine W.eq (g2 := F0 m 367 ls [.int r]) rfl ?_
  refine lv_aload_n X.1 X.2.1 dL_law__367 rfl (lv_at hl 2 rfl) ?_
  refine pushI1 C h hS hl dL_law__368 dL_law__369 dL_law__371 dL_law__372 dL_law__373 ?_
  refine callZ (As := [.int (xs (6 * i + 1))]) (rest := [.int r]) X (hM2 ao o) mw_7_214 mw_7_215 mw_7_216 mw_1_12 mw_7_217 dc_X12_end ⟨by have := hrm2.1; show rm2.frames + 1 ≤ 2048; omega, by have := hrm2.2.1; show 8 + (2 + 11) + rm2.locals ≤ 84000; omega⟩ hrm2.2.2.1 hrm2.2.2.2.1 ⟨by have := hrm.2.2.2.2.1; show cells + mc + 0 ≤ 601024; omega, by have := hrm.2.2.2.2.2; show slots + ms + 0 ≤ 7293034; omega⟩ hP hD hS (List.mem_append_left _ hm2) rfl rfl hl.1 (Nat.le_of_ble_eq_true rfl) dL_law__374 (fun v w' H locs hv hP hD hS => ?_) (fun E q ce w' H locs hx hP hD hS y1 y2 y3 => hx.elim)
  obtain ⟨w2, rfl, rfl, t2, hT2⟩ := hv
  refine W.eq (g2 := F0 m 377 ls [.int r, .int r]) rfl ?_
  refine lv_icmp_eq (tgt := 3264) X.1 X.2.1 dL_law__377 (by decide) (fun _ => ?_) (fun z => absurd rfl z)
  exact hn w2 t2 o H locs _ _ ls hT2 hP hD hS hl (by have := hrm.2.2.2.2.1; omega) (by have := hrm.2.2.2.2.2; omega)
theorem case_2 {pr : Program} {l : Launch} {e : Env} {s : State} {m : MethodId} {below : List Frame} {meth : Method} {c : Code} {dC : Nat → ClassId} {dI : Nat → Nat → Nat} {sk sv : Nat → Nat} {tc : Nat → ClassId} {b L ax am ao i : Nat} {xs : Nat → Int32} (C : CC pr l s m meth c dC dI sk sv tc b L xs) (h : 6 * i + 6 ≤ L) (hn : GO pr l e s m below meth c dC dI tc b ax am ao i (i + 1) 3264) : GO pr l e s m below meth c dC dI tc b ax am ao i i 382 := by
  obtain ⟨X, hr, hlk, hX, hbl, hL, hst⟩ := id C
  intro w t o H locs cells slots ls hT hP hD hS hl hc hs
  refine lv_aload_n X.1 X.2.1 dL_law__382 rfl (lv_at hl 1 rfl) ?_
  refine lv_aload_n X.1 X.2.1 dL_law__383 rfl (lv_at hl 3 rfl) ?_
  obtain ⟨rm, mc, ms, hrm, hM⟩ := top_evening l hst dC dI sk sv tc ax am hT
  obtain ⟨fs, hm⟩ := hT.mem
  refine callZS (As := [.ref ax, .ref ao]) (rest := []) X (w_evening l dC dI sk sv tc ax ao o w ⟨hrm.1, hrm.2.1, hrm.2.2.1, hrm.2.2.2.1⟩ (List.mem_append_left _ hm) (fun k w1 hk => by have h := hk.1; simpa using h) (SC.w (fun v w1 hv => hv.1) (hM ao o))) mw_3_111 mw_3_112 mw_1_0 mwc_evening dcl_evening ⟨Nat.le_of_ble_eq_true rfl, Nat.le_of_ble_eq_true rfl⟩ rfl rfl ⟨by have := hrm.2.2.2.2.1; show cells + mc ≤ 601024; omega, by have := hrm.2.2.2.2.2; show slots + ms ≤ 7293034; omega⟩ hP hD hS hl.1 (Nat.le_of_ble_eq_true rfl) dL_law__384 (fun v w' H locs hv hP hD hS => ?_)
  obtain ⟨kk, o', w1, rfl, rfl, ⟨fs2, hm2⟩, rm2, hrm2, hM2⟩ := w_due (by decide) hv
  refine W.eq (g2 := F0 m 387 ls [.int kk]) rfl ?_
  refine lv_istore (lv' := [(5, .int kk), (0, .ref b), (1, .ref ax), (2, .ref am), (3, .ref ao), (4, .int (nI (6 * i)))]) X.1 X.2.1 dL_law__387 hl (by decide) rfl (fun ls hl5 => ?_)
  have hl : lv_has ls 7 [(0, .ref b), (1, .ref ax), (2, .ref am), (3, .ref ao), (4, .int (nI (6 * i)))] := lv_sub hl5 [1, 2, 3, 4, 5] rfl
  refine lv_aload_n X.1 X.2.1 dL_law__389 rfl (lv_at hl 2 rfl) ?_
  refine callZ (As := []) (rest := []) X (hM2 ao o') mw_7_221 mw_7_222 mw_7_223 mw_1_12 mw_7_224 dc_X12_evening ⟨by have := hrm2.1; show rm2.frames + 1 ≤ 2048; omega, by have := hrm2.2.1; show 8 + (2 + 11) + rm2.locals ≤ 84000; omega⟩ hrm2.2.2.1 hrm2.2.2.2.1 ⟨by have := hrm.2.2.2.2.1; show cells + mc + 0 ≤ 601024; omega, by have := hrm.2.2.2.2.2; show slots + ms + 0 ≤ 7293034; omega⟩ hP hD hS (List.mem_append_left _ hm2) rfl rfl hl.1 (Nat.le_of_ble_eq_true rfl) dL_law__390 (fun v w' H locs hv hP hD hS => ?_) (fun E q ce w' H locs hx hP hD hS y1 y2 y3 => hx.elim)
  obtain ⟨w2, rfl, bb, rfl, hT2, ho⟩ := hv
  refine W.eq (g2 := F0 m 393 ls [.int bb]) rfl ?_
  exact tailI C hn hT2 ho hP hD hS hl5 (by have := hrm.2.2.2.2.1; omega) (by have := hrm.2.2.2.2.2; omega) (by omega) dL_law__393 dL_law__395 dL_law__396 dL_law__399 dL_law__401 dL_law__406 dL_law__408 dL_law__411 dL_law__412 dL_law__413 dL_law__414 dL_law__416 dL_law__417 dL_law__418 dL_law__423 (by decide)
theorem case_3 {pr : Program} {l : Launch} {e : Env} {s : State} {m : MethodId} {below : List Frame} {meth : Method} {c : Code} {dC : Nat → ClassId} {dI : Nat → Nat → Nat} {sk sv : Nat → Nat} {tc : Nat → ClassId} {b L ax am ao i : Nat} {xs : Nat → Int32} (C : CC pr l s m meth c dC dI sk sv tc b L xs) (h : 6 * i + 6 ≤ L) (hn : GO pr l e s m below meth c dC dI tc b ax am ao i (i + 1) 3264) : GO pr l e s m below meth c dC dI tc b ax am ao i i 426 := by
  obtain ⟨X, hr, hlk, hX, hbl, hL, hst⟩ := id C
  intro w t o H locs cells slots ls hT hP hD hS hl hc hs
  refine lv_aload_n X.1 X.2.1 dL_law__426 rfl (lv_at hl 1 rfl) ?_
  refine lv_aload_n X.1 X.2.1 dL_law__427 rfl (lv_at hl 3 rfl) ?_
  obtain ⟨rm, mc, ms, hrm, hM⟩ := top_law l hst dC dI sk sv tc ax am hT
  obtain ⟨fs, hm⟩ := hT.mem
  refine callZS (As := [.ref ax, .ref ao]) (rest := []) X (w_law l dC dI sk sv tc ax ao o w ⟨hrm.1, hrm.2.1, hrm.2.2.1, hrm.2.2.2.1⟩ (List.mem_append_left _ hm) (fun k w1 hk => by have h := hk.1; simpa using h) (SC.w (fun v w1 hv => hv.1) (hM ao o))) mw_4_92 mw_4_93 mw_1_0 mwc_law dcl_law ⟨Nat.le_of_ble_eq_true rfl, Nat.le_of_ble_eq_true rfl⟩ rfl rfl ⟨by have := hrm.2.2.2.2.1; show cells + mc ≤ 601024; omega, by have := hrm.2.2.2.2.2; show slots + ms ≤ 7293034; omega⟩ hP hD hS hl.1 (Nat.le_of_ble_eq_true rfl) dL_law__428 (fun v w' H locs hv hP hD hS => ?_)
  obtain ⟨kk, o', w1, rfl, rfl, ⟨fs2, hm2⟩, rm2, hrm2, hM2⟩ := w_due (by decide) hv
  refine W.eq (g2 := F0 m 431 ls [.int kk]) rfl ?_
  refine lv_istore (lv' := [(5, .int kk), (0, .ref b), (1, .ref ax), (2, .ref am), (3, .ref ao), (4, .int (nI (6 * i)))]) X.1 X.2.1 dL_law__431 hl (by decide) rfl (fun ls hl5 => ?_)
  have hl : lv_has ls 7 [(0, .ref b), (1, .ref ax), (2, .ref am), (3, .ref ao), (4, .int (nI (6 * i)))] := lv_sub hl5 [1, 2, 3, 4, 5] rfl
  refine lv_aload_n X.1 X.2.1 dL_law__433 rfl (lv_at hl 2 rfl) ?_
  refine callZ (As := []) (rest := []) X (hM2 ao o') mw_8_124 mw_8_125 mw_8_126 mw_1_12 mw_8_127 dc_X12_law ⟨by have := hrm2.1; show rm2.frames + 1 ≤ 2048; omega, by have := hrm2.2.1; show 8 + (3 + 11) + rm2.locals ≤ 84000; omega⟩ hrm2.2.2.1 hrm2.2.2.2.1 ⟨by have := hrm.2.2.2.2.1; show cells + mc + 0 ≤ 601024; omega, by have := hrm.2.2.2.2.2; show slots + ms + 0 ≤ 7293034; omega⟩ hP hD hS (List.mem_append_left _ hm2) rfl rfl hl.1 (Nat.le_of_ble_eq_true rfl) dL_law__434 (fun v w' H locs hv hP hD hS => ?_) (fun E q ce w' H locs hx hP hD hS y1 y2 y3 => hx.elim)
  obtain ⟨w2, rfl, bb, rfl, hT2, ho⟩ := hv
  refine W.eq (g2 := F0 m 437 ls [.int bb]) rfl ?_
  exact tailI C hn hT2 ho hP hD hS hl5 (by have := hrm.2.2.2.2.1; omega) (by have := hrm.2.2.2.2.2; omega) (by omega) dL_law__437 dL_law__439 dL_law__440 dL_law__443 dL_law__445 dL_law__450 dL_law__452 dL_law__455 dL_law__456 dL_law__457 dL_law__458 dL_law__460 dL_law__461 dL_law__462 dL_law__467 (by decide)
theorem case_4 {pr : Program} {l : Launch} {e : Env} {s : State} {m : MethodId} {below : List Frame} {meth : Method} {c : Code} {dC : Nat → ClassId} {dI : Nat → Nat → Nat} {sk sv : Nat → Nat} {tc : Nat → ClassId} {b L ax am ao i : Nat} {xs : Nat → Int32} (C : CC pr l s m meth c dC dI sk sv tc b L xs) (h : 6 * i + 6 ≤ L) (hn : GO pr l e s m below meth c dC dI tc b ax am ao i (i + 1) 3264) : GO pr l e s m below meth c dC dI tc b ax am ao i i 470 := by
  obtain ⟨X, hr, hlk, hX, hbl, hL, hst⟩ := id C
  intro w t o H locs cells slots ls hT hP hD hS hl hc hs
  refine lv_aload_n X.1 X.2.1 dL_law__470 rfl (lv_at hl 1 rfl) ?_
  obtain ⟨rm, mc, ms, hrm, hM⟩ := top_fault l hst dC dI sk sv tc ax am hT
  obtain ⟨fs, hm⟩ := hT.mem
  refine callZ (As := []) (rest := []) X (hM ao o) mw_2_201 mw_2_202 mw_2_203 mw_1_1 mw_2_204 dc_X11_fault ⟨by have := hrm.1; show rm.frames + 1 ≤ 2048; omega, by have := hrm.2.1; show 8 + (1 + 11) + rm.locals ≤ 84000; omega⟩ hrm.2.2.1 hrm.2.2.2.1 ⟨by have := hrm.2.2.2.2.1; show cells + mc ≤ 601024; omega, by have := hrm.2.2.2.2.2; show slots + ms ≤ 7293034; omega⟩ hP hD hS (List.mem_append_left _ hm) rfl rfl hl.1 (Nat.le_of_ble_eq_true rfl) dL_law__471 (fun v w' H locs hv hP hD hS => ?_) (fun E q ce w' H locs hx hP hD hS y1 y2 y3 => by obtain ⟨_, _, _, _, hx⟩ := hx; exact hx.elim)
  obtain ⟨w1, rfl, ⟨r, rfl⟩, ⟨fs2, hm2⟩, rm2, hrm2, hM2⟩ := hv
  refine W.eq (g2 := F0 m 474 ls [.int r]) rfl ?_
  refine lv_aload_n X.1 X.2.1 dL_law__474 rfl (lv_at hl 2 rfl) ?_
  refine callZ (As := []) (rest := [.int r]) X (hM2 ao o) mw_8_128 mw_8_129 mw_8_130 mw_1_12 mw_8_131 dc_X12_fault ⟨by have := hrm2.1; show rm2.frames + 1 ≤ 2048; omega, by have := hrm2.2.1; show 8 + (1 + 11) + rm2.locals ≤ 84000; omega⟩ hrm2.2.2.1 hrm2.2.2.2.1 ⟨by have := hrm.2.2.2.2.1; show cells + mc + 0 ≤ 601024; omega, by have := hrm.2.2.2.2.2; show slots + ms + 0 ≤ 7293034; omega⟩ hP hD hS (List.mem_append_left _ hm2) rfl rfl hl.1 (Nat.le_of_ble_eq_true rfl) dL_law__475 (fun v w' H locs hv hP hD hS => ?_) (fun E q ce w' H locs hx hP hD hS y1 y2 y3 => hx.elim)
  obtain ⟨w2, rfl, rfl, t2, hT2⟩ := hv
  refine W.eq (g2 := F0 m 478 ls [.int r, .int r]) rfl ?_
  refine lv_icmp_eq (tgt := 3264) X.1 X.2.1 dL_law__478 (by decide) (fun _ => ?_) (fun z => absurd rfl z)
  exact hn w2 t2 o H locs _ _ ls hT2 hP hD hS hl (by have := hrm.2.2.2.2.1; omega) (by have := hrm.2.2.2.2.2; omega)
theorem case_5 {pr : Program} {l : Launch} {e : Env} {s : State} {m : MethodId} {below : List Frame} {meth : Method} {c : Code} {dC : Nat → ClassId} {dI : Nat → Nat → Nat} {sk sv : Nat → Nat} {tc : Nat → ClassId} {b L ax am ao i : Nat} {xs : Nat → Int32} (C : CC pr l s m meth c dC dI sk sv tc b L xs) (h : 6 * i + 6 ≤ L) (hn : GO pr l e s m below meth c dC dI tc b ax am ao i (i + 1) 3264) : GO pr l e s m below meth c dC dI tc b ax am ao i i 483 := by
  obtain ⟨X, hr, hlk, hX, hbl, hL, hst⟩ := id C
  intro w t o H locs cells slots ls hT hP hD hS hl hc hs
  refine lv_aload_n X.1 X.2.1 dL_law__483 rfl (lv_at hl 1 rfl) ?_
  refine pushI1 C h hS hl dL_law__484 dL_law__485 dL_law__487 dL_law__488 dL_law__489 ?_
  refine pushI2 C h hS hl dL_law__490 dL_law__491 dL_law__493 dL_law__494 dL_law__495 ?_
  refine lv_aload_n X.1 X.2.1 dL_law__496 rfl (lv_at hl 3 rfl) ?_
  obtain ⟨rm, mc, ms, hrm, hM⟩ := top_word l hst dC dI sk sv tc ax am (xs (6 * i + 1)) (xs (6 * i + 2)) hT
  obtain ⟨fs, hm⟩ := hT.mem
  refine callZS (As := [.ref ax, .int (xs (6 * i + 1)), .int (xs (6 * i + 2)), .ref ao]) (rest := []) X (w_word l dC dI sk sv tc ax ao o (xs (6 * i + 1)) (xs (6 * i + 2)) w ⟨hrm.1, hrm.2.1, hrm.2.2.1, hrm.2.2.2.1⟩ (List.mem_append_left _ hm) (fun k w1 hk => by have h := hk.1; simpa using h) (SC.w (fun v w1 hv => hv.1) (hM ao o))) mw_4_201 mw_4_202 mw_1_0 mwc_word dcl_word ⟨Nat.le_of_ble_eq_true rfl, Nat.le_of_ble_eq_true rfl⟩ rfl rfl ⟨by have := hrm.2.2.2.2.1; show cells + mc ≤ 601024; omega, by have := hrm.2.2.2.2.2; show slots + ms ≤ 7293034; omega⟩ hP hD hS hl.1 (Nat.le_of_ble_eq_true rfl) dL_law__497 (fun v w' H locs hv hP hD hS => ?_)
  obtain ⟨kk, o', w1, rfl, rfl, ⟨fs2, hm2⟩, rm2, hrm2, hM2⟩ := w_due (by decide) hv
  refine W.eq (g2 := F0 m 500 ls [.int kk]) rfl ?_
  refine lv_istore (lv' := [(5, .int kk), (0, .ref b), (1, .ref ax), (2, .ref am), (3, .ref ao), (4, .int (nI (6 * i)))]) X.1 X.2.1 dL_law__500 hl (by decide) rfl (fun ls hl5 => ?_)
  have hl : lv_has ls 7 [(0, .ref b), (1, .ref ax), (2, .ref am), (3, .ref ao), (4, .int (nI (6 * i)))] := lv_sub hl5 [1, 2, 3, 4, 5] rfl
  refine lv_aload_n X.1 X.2.1 dL_law__502 rfl (lv_at hl 2 rfl) ?_
  refine pushI1 C h hS hl dL_law__503 dL_law__504 dL_law__506 dL_law__507 dL_law__508 ?_
  refine pushI2 C h hS hl dL_law__509 dL_law__510 dL_law__512 dL_law__513 dL_law__514 ?_
  refine callZ (As := [.int (xs (6 * i + 1)), .int (xs (6 * i + 2))]) (rest := []) X (hM2 ao o') mw_8_132 mw_8_133 mw_8_134 mw_1_12 mw_8_135 dc_X12_word ⟨by have := hrm2.1; show rm2.frames + 1 ≤ 2048; omega, by have := hrm2.2.1; show 8 + (3 + 11) + rm2.locals ≤ 84000; omega⟩ hrm2.2.2.1 hrm2.2.2.2.1 ⟨by have := hrm.2.2.2.2.1; show cells + mc + 0 ≤ 601024; omega, by have := hrm.2.2.2.2.2; show slots + ms + 0 ≤ 7293034; omega⟩ hP hD hS (List.mem_append_left _ hm2) rfl rfl hl.1 (Nat.le_of_ble_eq_true rfl) dL_law__515 (fun v w' H locs hv hP hD hS => ?_) (fun E q ce w' H locs hx hP hD hS y1 y2 y3 => hx.elim)
  obtain ⟨w2, rfl, bb, rfl, hT2, ho⟩ := hv
  refine W.eq (g2 := F0 m 518 ls [.int bb]) rfl ?_
  exact tailI C hn hT2 ho hP hD hS hl5 (by have := hrm.2.2.2.2.1; omega) (by have := hrm.2.2.2.2.2; omega) (by omega) dL_law__518 dL_law__520 dL_law__521 dL_law__524 dL_law__526 dL_law__531 dL_law__533 dL_law__536 dL_law__537 dL_law__538 dL_law__539 dL_law__541 dL_law__542 dL_law__543 dL_law__548 (by decide)
theorem case_6 {pr : Program} {l : Launch} {e : Env} {s : State} {m : MethodId} {below : List Frame} {meth : Method} {c : Code} {dC : Nat → ClassId} {dI : Nat → Nat → Nat} {sk sv : Nat → Nat} {tc : Nat → ClassId} {b L ax am ao i : Nat} {xs : Nat → Int32} (C : CC pr l s m meth c dC dI sk sv tc b L xs) (h : 6 * i + 6 ≤ L) (hn : GO pr l e s m below meth c dC dI tc b ax am ao i (i + 1) 3264) : GO pr l e s m below meth c dC dI tc b ax am ao i i 551 := by
  obtain ⟨X, hr, hlk, hX, hbl, hL, hst⟩ := id C
  intro w t o H locs cells slots ls hT hP hD hS hl hc hs
  refine lv_aload_n X.1 X.2.1 dL_law__551 rfl (lv_at hl 1 rfl) ?_
  refine pushI1 C h hS hl dL_law__552 dL_law__553 dL_law__555 dL_law__556 dL_law__557 ?_
  refine pushI2 C h hS hl dL_law__558 dL_law__559 dL_law__561 dL_law__562 dL_law__563 ?_
  refine lv_aload_n X.1 X.2.1 dL_law__564 rfl (lv_at hl 3 rfl) ?_
  obtain ⟨rm, mc, ms, hrm, hM⟩ := top_letter l hst dC dI sk sv tc ax am (xs (6 * i + 1)) (xs (6 * i + 2)) hT
  obtain ⟨fs, hm⟩ := hT.mem
  refine callZS (As := [.ref ax, .int (xs (6 * i + 1)), .int (xs (6 * i + 2)), .ref ao]) (rest := []) X (w_letter l dC dI sk sv tc ax ao o (xs (6 * i + 1)) (xs (6 * i + 2)) w ⟨hrm.1, hrm.2.1, hrm.2.2.1, hrm.2.2.2.1⟩ (List.mem_append_left _ hm) (fun k w1 hk => by have h := hk.1; simpa using h) (SC.w (fun v w1 hv => hv.1) (hM ao o))) mw_5_23 mw_5_24 mw_1_0 mwc_letter dcl_letter ⟨Nat.le_of_ble_eq_true rfl, Nat.le_of_ble_eq_true rfl⟩ rfl rfl ⟨by have := hrm.2.2.2.2.1; show cells + mc ≤ 601024; omega, by have := hrm.2.2.2.2.2; show slots + ms ≤ 7293034; omega⟩ hP hD hS hl.1 (Nat.le_of_ble_eq_true rfl) dL_law__565 (fun v w' H locs hv hP hD hS => ?_)
  obtain ⟨kk, o', w1, rfl, rfl, ⟨fs2, hm2⟩, rm2, hrm2, hM2⟩ := w_due (by decide) hv
  refine W.eq (g2 := F0 m 568 ls [.int kk]) rfl ?_
  refine lv_istore (lv' := [(5, .int kk), (0, .ref b), (1, .ref ax), (2, .ref am), (3, .ref ao), (4, .int (nI (6 * i)))]) X.1 X.2.1 dL_law__568 hl (by decide) rfl (fun ls hl5 => ?_)
  have hl : lv_has ls 7 [(0, .ref b), (1, .ref ax), (2, .ref am), (3, .ref ao), (4, .int (nI (6 * i)))] := lv_sub hl5 [1, 2, 3, 4, 5] rfl
  refine lv_aload_n X.1 X.2.1 dL_law__570 rfl (lv_at hl 2 rfl) ?_
  refine pushI1 C h hS hl dL_law__571 dL_law__572 dL_law__574 dL_law__575 dL_law__576 ?_
  refine pushI2 C h hS hl dL_law__577 dL_law__578 dL_law__580 dL_law__581 dL_law__582 ?_
  refine callZ (As := [.int (xs (6 * i + 1)), .int (xs (6 * i + 2))]) (rest := []) X (hM2 ao o') mw_8_168 mw_8_169 mw_8_170 mw_1_12 mw_8_171 dc_X12_letter ⟨by have := hrm2.1; show rm2.frames + 1 ≤ 2048; omega, by have := hrm2.2.1; show 8 + (3 + 11) + rm2.locals ≤ 84000; omega⟩ hrm2.2.2.1 hrm2.2.2.2.1 ⟨by have := hrm.2.2.2.2.1; show cells + mc + 0 ≤ 601024; omega, by have := hrm.2.2.2.2.2; show slots + ms + 0 ≤ 7293034; omega⟩ hP hD hS (List.mem_append_left _ hm2) rfl rfl hl.1 (Nat.le_of_ble_eq_true rfl) dL_law__583 (fun v w' H locs hv hP hD hS => ?_) (fun E q ce w' H locs hx hP hD hS y1 y2 y3 => hx.elim)
  obtain ⟨w2, rfl, bb, rfl, hT2, ho⟩ := hv
  refine W.eq (g2 := F0 m 586 ls [.int bb]) rfl ?_
  exact tailI C hn hT2 ho hP hD hS hl5 (by have := hrm.2.2.2.2.1; omega) (by have := hrm.2.2.2.2.2; omega) (by omega) dL_law__586 dL_law__588 dL_law__589 dL_law__592 dL_law__594 dL_law__599 dL_law__601 dL_law__604 dL_law__605 dL_law__606 dL_law__607 dL_law__609 dL_law__610 dL_law__611 dL_law__616 (by decide)
theorem case_7 {pr : Program} {l : Launch} {e : Env} {s : State} {m : MethodId} {below : List Frame} {meth : Method} {c : Code} {dC : Nat → ClassId} {dI : Nat → Nat → Nat} {sk sv : Nat → Nat} {tc : Nat → ClassId} {b L ax am ao i : Nat} {xs : Nat → Int32} (C : CC pr l s m meth c dC dI sk sv tc b L xs) (h : 6 * i + 6 ≤ L) (hn : GO pr l e s m below meth c dC dI tc b ax am ao i (i + 1) 3264) : GO pr l e s m below meth c dC dI tc b ax am ao i i 619 := by
  obtain ⟨X, hr, hlk, hX, hbl, hL, hst⟩ := id C
  intro w t o H locs cells slots ls hT hP hD hS hl hc hs
  refine lv_aload_n X.1 X.2.1 dL_law__619 rfl (lv_at hl 1 rfl) ?_
  refine pushI1 C h hS hl dL_law__620 dL_law__621 dL_law__623 dL_law__624 dL_law__625 ?_
  refine pushI2 C h hS hl dL_law__626 dL_law__627 dL_law__629 dL_law__630 dL_law__631 ?_
  refine lv_aload_n X.1 X.2.1 dL_law__632 rfl (lv_at hl 3 rfl) ?_
  obtain ⟨rm, mc, ms, hrm, hM⟩ := top_writer l hst dC dI sk sv tc ax am (xs (6 * i + 1)) (xs (6 * i + 2)) hT
  obtain ⟨fs, hm⟩ := hT.mem
  refine callZS (As := [.ref ax, .int (xs (6 * i + 1)), .int (xs (6 * i + 2)), .ref ao]) (rest := []) X (w_writer l dC dI sk sv tc ax ao o (xs (6 * i + 1)) (xs (6 * i + 2)) w ⟨hrm.1, hrm.2.1, hrm.2.2.1, hrm.2.2.2.1⟩ (List.mem_append_left _ hm) (fun k w1 hk => by have h := hk.1; simpa using h) (SC.w (fun v w1 hv => hv.1) (hM ao o))) mw_5_31 mw_5_32 mw_1_0 mwc_writer dcl_writer ⟨Nat.le_of_ble_eq_true rfl, Nat.le_of_ble_eq_true rfl⟩ rfl rfl ⟨by have := hrm.2.2.2.2.1; show cells + mc ≤ 601024; omega, by have := hrm.2.2.2.2.2; show slots + ms ≤ 7293034; omega⟩ hP hD hS hl.1 (Nat.le_of_ble_eq_true rfl) dL_law__633 (fun v w' H locs hv hP hD hS => ?_)
  obtain ⟨kk, o', w1, rfl, rfl, ⟨fs2, hm2⟩, rm2, hrm2, hM2⟩ := w_due (by decide) hv
  refine W.eq (g2 := F0 m 636 ls [.int kk]) rfl ?_
  refine lv_istore (lv' := [(5, .int kk), (0, .ref b), (1, .ref ax), (2, .ref am), (3, .ref ao), (4, .int (nI (6 * i)))]) X.1 X.2.1 dL_law__636 hl (by decide) rfl (fun ls hl5 => ?_)
  have hl : lv_has ls 7 [(0, .ref b), (1, .ref ax), (2, .ref am), (3, .ref ao), (4, .int (nI (6 * i)))] := lv_sub hl5 [1, 2, 3, 4, 5] rfl
  refine lv_aload_n X.1 X.2.1 dL_law__638 rfl (lv_at hl 2 rfl) ?_
  refine pushI1 C h hS hl dL_law__639 dL_law__640 dL_law__642 dL_law__643 dL_law__644 ?_
  refine pushI2 C h hS hl dL_law__645 dL_law__646 dL_law__648 dL_law__649 dL_law__650 ?_
  refine callZ (As := [.int (xs (6 * i + 1)), .int (xs (6 * i + 2))]) (rest := []) X (hM2 ao o') mw_8_172 mw_8_173 mw_8_174 mw_1_12 mw_8_175 dc_X12_writer ⟨by have := hrm2.1; show rm2.frames + 1 ≤ 2048; omega, by have := hrm2.2.1; show 8 + (3 + 11) + rm2.locals ≤ 84000; omega⟩ hrm2.2.2.1 hrm2.2.2.2.1 ⟨by have := hrm.2.2.2.2.1; show cells + mc + 0 ≤ 601024; omega, by have := hrm.2.2.2.2.2; show slots + ms + 0 ≤ 7293034; omega⟩ hP hD hS (List.mem_append_left _ hm2) rfl rfl hl.1 (Nat.le_of_ble_eq_true rfl) dL_law__651 (fun v w' H locs hv hP hD hS => ?_) (fun E q ce w' H locs hx hP hD hS y1 y2 y3 => hx.elim)
  obtain ⟨w2, rfl, bb, rfl, hT2, ho⟩ := hv
  refine W.eq (g2 := F0 m 654 ls [.int bb]) rfl ?_
  exact tailI C hn hT2 ho hP hD hS hl5 (by have := hrm.2.2.2.2.1; omega) (by have := hrm.2.2.2.2.2; omega) (by omega) dL_law__654 dL_law__656 dL_law__657 dL_law__660 dL_law__662 dL_law__667 dL_law__669 dL_law__672 dL_law__673 dL_law__674 dL_law__675 dL_law__677 dL_law__678 dL_law__679 dL_law__684 (by decide)
theorem case_8 {pr : Program} {l : Launch} {e : Env} {s : State} {m : MethodId} {below : List Frame} {meth : Method} {c : Code} {dC : Nat → ClassId} {dI : Nat → Nat → Nat} {sk sv : Nat → Nat} {tc : Nat → ClassId} {b L ax am ao i : Nat} {xs : Nat → Int32} (C : CC pr l s m meth c dC dI sk sv tc b L xs) (h : 6 * i + 6 ≤ L) (hn : GO pr l e s m below meth c dC dI tc b ax am ao i (i + 1) 3264) : GO pr l e s m below meth c dC dI tc b ax am ao i i 687 := by
  obtain ⟨X, hr, hlk, hX, hbl, hL, hst⟩ := id C
  intro w t o H locs cells slots ls hT hP hD hS hl hc hs
  refine lv_aload_n X.1 X.2.1 dL_law__687 rfl (lv_at hl 1 rfl) ?_
  refine pushI1 C h hS hl dL_law__688 dL_law__689 dL_law__691 dL_law__692 dL_law__693 ?_
  obtain ⟨rm, mc, ms, hrm, hM⟩ := top_speech l hst dC dI sk sv tc ax am (xs (6 * i + 1)) hT
  obtain ⟨fs, hm⟩ := hT.mem
  refine callZ (As := [.int (xs (6 * i + 1))]) (rest := []) X (hM ao o) mw_2_205 mw_2_206 mw_2_207 mw_1_1 mw_2_208 dc_X11_speech ⟨by have := hrm.1; show rm.frames + 1 ≤ 2048; omega, by have := hrm.2.1; show 8 + (2 + 11) + rm.locals ≤ 84000; omega⟩ hrm.2.2.1 hrm.2.2.2.1 ⟨by have := hrm.2.2.2.2.1; show cells + mc ≤ 601024; omega, by have := hrm.2.2.2.2.2; show slots + ms ≤ 7293034; omega⟩ hP hD hS (List.mem_append_left _ hm) rfl rfl hl.1 (Nat.le_of_ble_eq_true rfl) dL_law__694 (fun v w' H locs hv hP hD hS => ?_) (fun E q ce w' H locs hx hP hD hS y1 y2 y3 => by obtain ⟨_, _, _, _, hx⟩ := hx; exact hx.elim)
  obtain ⟨w1, rfl, ⟨r, rfl⟩, ⟨fs2, hm2⟩, rm2, hrm2, hM2⟩ := hv
  refine W.eq (g2 := F0 m 697 ls [.int r]) rfl ?_
  refine lv_aload_n X.1 X.2.1 dL_law__697 rfl (lv_at hl 2 rfl) ?_
  refine pushI1 C h hS hl dL_law__698 dL_law__699 dL_law__701 dL_law__702 dL_law__703 ?_
  refine callZ (As := [.int (xs (6 * i + 1))]) (rest := [.int r]) X (hM2 ao o) mw_9_6 mw_9_7 mw_9_8 mw_1_12 mw_9_9 dc_X12_speech ⟨by have := hrm2.1; show rm2.frames + 1 ≤ 2048; omega, by have := hrm2.2.1; show 8 + (2 + 11) + rm2.locals ≤ 84000; omega⟩ hrm2.2.2.1 hrm2.2.2.2.1 ⟨by have := hrm.2.2.2.2.1; show cells + mc + 0 ≤ 601024; omega, by have := hrm.2.2.2.2.2; show slots + ms + 0 ≤ 7293034; omega⟩ hP hD hS (List.mem_append_left _ hm2) rfl rfl hl.1 (Nat.le_of_ble_eq_true rfl) dL_law__704 (fun v w' H locs hv hP hD hS => ?_) (fun E q ce w' H locs hx hP hD hS y1 y2 y3 => hx.elim)
  obtain ⟨w2, rfl, rfl, t2, hT2⟩ := hv
  refine W.eq (g2 := F0 m 707 ls [.int r, .int r]) rfl ?_
  refine lv_icmp_eq (tgt := 3264) X.1 X.2.1 dL_law__707 (by decide) (fun _ => ?_) (fun z => absurd rfl z)
  exact hn w2 t2 o H locs _ _ ls hT2 hP hD hS hl (by have := hrm.2.2.2.2.1; omega) (by have := hrm.2.2.2.2.2; omega)
theorem case_9 {pr : Program} {l : Launch} {e : Env} {s : State} {m : MethodId} {below : List Frame} {meth : Method} {c : Code} {dC : Nat → ClassId} {dI : Nat → Nat → Nat} {sk sv : Nat → Nat} {tc : Nat → ClassId} {b L ax am ao i : Nat} {xs : Nat → Int32} (C : CC pr l s m meth c dC dI sk sv tc b L xs) (h : 6 * i + 6 ≤ L) (hn : GO pr l e s m below meth c dC dI tc b ax am ao i (i + 1) 3264) : GO pr l e s m below meth c dC dI tc b ax am ao i i 712 := by
  obtain ⟨X, hr, hlk, hX, hbl, hL, hst⟩ := id C
  intro w t o H locs cells slots ls hT hP hD hS hl hc hs
  refine lv_aload_n X.1 X.2.1 dL_law__712 rfl (lv_at hl 1 rfl) ?_
  refine pushI1 C h hS hl dL_law__713 dL_law__714 dL_law__716 dL_law__717 dL_law__718 ?_
  refine pushI2 C h hS hl dL_law__719 dL_law__720 dL_law__722 dL_law__723 dL_law__724 ?_
  refine lv_aload_n X.1 X.2.1 dL_law__725 rfl (lv_at hl 3 rfl) ?_
  obtain ⟨rm, mc, ms, hrm, hM⟩ := top_page l hst dC dI sk sv tc ax am (xs (6 * i + 1)) (xs (6 * i + 2)) hT
  obtain ⟨fs, hm⟩ := hT.mem
  refine callZS (As := [.ref ax, .int (xs (6 * i + 1)), .int (xs (6 * i + 2)), .ref ao]) (rest := []) X (w_page l dC dI sk sv tc ax ao o (xs (6 * i + 1)) (xs (6 * i + 2)) w ⟨hrm.1, hrm.2.1, hrm.2.2.1, hrm.2.2.2.1⟩ (List.mem_append_left _ hm) (fun k w1 hk => by have h := hk.1; simpa using h) (SC.w (fun v w1 hv => hv.1) (hM ao o))) mw_5_104 mw_5_105 mw_1_0 mwc_page dcl_page ⟨Nat.le_of_ble_eq_true rfl, Nat.le_of_ble_eq_true rfl⟩ rfl rfl ⟨by have := hrm.2.2.2.2.1; show cells + mc ≤ 601024; omega, by have := hrm.2.2.2.2.2; show slots + ms ≤ 7293034; omega⟩ hP hD hS hl.1 (Nat.le_of_ble_eq_true rfl) dL_law__726 (fun v w' H locs hv hP hD hS => ?_)
  obtain ⟨kk, o', w1, rfl, rfl, ⟨fs2, hm2⟩, rm2, hrm2, hM2⟩ := w_due (by decide) hv
  refine W.eq (g2 := F0 m 729 ls [.int kk]) rfl ?_
  refine lv_istore (lv' := [(5, .int kk), (0, .ref b), (1, .ref ax), (2, .ref am), (3, .ref ao), (4, .int (nI (6 * i)))]) X.1 X.2.1 dL_law__729 hl (by decide) rfl (fun ls hl5 => ?_)
  have hl : lv_has ls 7 [(0, .ref b), (1, .ref ax), (2, .ref am), (3, .ref ao), (4, .int (nI (6 * i)))] := lv_sub hl5 [1, 2, 3, 4, 5] rfl
  refine lv_aload_n X.1 X.2.1 dL_law__731 rfl (lv_at hl 2 rfl) ?_
  refine pushI1 C h hS hl dL_law__732 dL_law__733 dL_law__735 dL_law__736 dL_law__737 ?_
  refine pushI2 C h hS hl dL_law__738 dL_law__739 dL_law__741 dL_law__742 dL_law__743 ?_
  refine callZ (As := [.int (xs (6 * i + 1)), .int (xs (6 * i + 2))]) (rest := []) X (hM2 ao o') mw_9_10 mw_9_11 mw_9_12 mw_1_12 mw_9_13 dc_X12_page ⟨by have := hrm2.1; show rm2.frames + 1 ≤ 2048; omega, by have := hrm2.2.1; show 8 + (3 + 11) + rm2.locals ≤ 84000; omega⟩ hrm2.2.2.1 hrm2.2.2.2.1 ⟨by have := hrm.2.2.2.2.1; show cells + mc + 0 ≤ 601024; omega, by have := hrm.2.2.2.2.2; show slots + ms + 0 ≤ 7293034; omega⟩ hP hD hS (List.mem_append_left _ hm2) rfl rfl hl.1 (Nat.le_of_ble_eq_true rfl) dL_law__744 (fun v w' H locs hv hP hD hS => ?_) (fun E q ce w' H locs hx hP hD hS y1 y2 y3 => hx.elim)
  obtain ⟨w2, rfl, bb, rfl, hT2, ho⟩ := hv
  refine W.eq (g2 := F0 m 747 ls [.int bb]) rfl ?_
  exact tailI C hn hT2 ho hP hD hS hl5 (by have := hrm.2.2.2.2.1; omega) (by have := hrm.2.2.2.2.2; omega) (by omega) dL_law__747 dL_law__749 dL_law__750 dL_law__753 dL_law__755 dL_law__760 dL_law__762 dL_law__765 dL_law__766 dL_law__767 dL_law__768 dL_law__770 dL_law__771 dL_law__772 dL_law__777 (by decide)
theorem case_10 {pr : Program} {l : Launch} {e : Env} {s : State} {m : MethodId} {below : List Frame} {meth : Method} {c : Code} {dC : Nat → ClassId} {dI : Nat → Nat → Nat} {sk sv : Nat → Nat} {tc : Nat → ClassId} {b L ax am ao i : Nat} {xs : Nat → Int32} (C : CC pr l s m meth c dC dI sk sv tc b L xs) (h : 6 * i + 6 ≤ L) (hn : GO pr l e s m below meth c dC dI tc b ax am ao i (i + 1) 3264) : GO pr l e s m below meth c dC dI tc b ax am ao i i 780 := by
  obtain ⟨X, hr, hlk, hX, hbl, hL, hst⟩ := id C
  intro w t o H locs cells slots ls hT hP hD hS hl hc hs
  refine lv_aload_n X.1 X.2.1 dL_law__780 rfl (lv_at hl 1 rfl) ?_
  refine pushI1 C h hS hl dL_law__781 dL_law__782 dL_law__784 dL_law__785 dL_law__786 ?_
  refine pushI2 C h hS hl dL_law__787 dL_law__788 dL_law__790 dL_law__791 dL_law__792 ?_
  refine lv_aload_n X.1 X.2.1 dL_law__793 rfl (lv_at hl 3 rfl) ?_
  obtain ⟨rm, mc, ms, hrm, hM⟩ := top_strokes l hst dC dI sk sv tc ax am (xs (6 * i + 1)) (xs (6 * i + 2)) hT
  obtain ⟨fs, hm⟩ := hT.mem
  refine callZS (As := [.ref ax, .int (xs (6 * i + 1)), .int (xs (6 * i + 2)), .ref ao]) (rest := []) X (w_strokes l dC dI sk sv tc ax ao o (xs (6 * i + 1)) (xs (6 * i + 2)) w ⟨hrm.1, hrm.2.1, hrm.2.2.1, hrm.2.2.2.1⟩ (List.mem_append_left _ hm) (fun k w1 hk => by have h := hk.1; simpa using h) (SC.w (fun v w1 hv => hv.1) (hM ao o))) mw_5_112 mw_5_113 mw_1_0 mwc_strokes dcl_strokes ⟨Nat.le_of_ble_eq_true rfl, Nat.le_of_ble_eq_true rfl⟩ rfl rfl ⟨by have := hrm.2.2.2.2.1; show cells + mc ≤ 601024; omega, by have := hrm.2.2.2.2.2; show slots + ms ≤ 7293034; omega⟩ hP hD hS hl.1 (Nat.le_of_ble_eq_true rfl) dL_law__794 (fun v w' H locs hv hP hD hS => ?_)
  obtain ⟨kk, o', w1, rfl, rfl, ⟨fs2, hm2⟩, rm2, hrm2, hM2⟩ := w_due (by decide) hv
  refine W.eq (g2 := F0 m 797 ls [.int kk]) rfl ?_
  refine lv_istore (lv' := [(5, .int kk), (0, .ref b), (1, .ref ax), (2, .ref am), (3, .ref ao), (4, .int (nI (6 * i)))]) X.1 X.2.1 dL_law__797 hl (by decide) rfl (fun ls hl5 => ?_)
  have hl : lv_has ls 7 [(0, .ref b), (1, .ref ax), (2, .ref am), (3, .ref ao), (4, .int (nI (6 * i)))] := lv_sub hl5 [1, 2, 3, 4, 5] rfl
  refine lv_aload_n X.1 X.2.1 dL_law__799 rfl (lv_at hl 2 rfl) ?_
  refine pushI1 C h hS hl dL_law__800 dL_law__801 dL_law__803 dL_law__804 dL_law__805 ?_
  refine pushI2 C h hS hl dL_law__806 dL_law__807 dL_law__809 dL_law__810 dL_law__811 ?_
  refine callZ (As := [.int (xs (6 * i + 1)), .int (xs (6 * i + 2))]) (rest := []) X (hM2 ao o') mw_9_14 mw_9_15 mw_9_16 mw_1_12 mw_9_17 dc_X12_strokes ⟨by have := hrm2.1; show rm2.frames + 1 ≤ 2048; omega, by have := hrm2.2.1; show 8 + (3 + 11) + rm2.locals ≤ 84000; omega⟩ hrm2.2.2.1 hrm2.2.2.2.1 ⟨by have := hrm.2.2.2.2.1; show cells + mc + 0 ≤ 601024; omega, by have := hrm.2.2.2.2.2; show slots + ms + 0 ≤ 7293034; omega⟩ hP hD hS (List.mem_append_left _ hm2) rfl rfl hl.1 (Nat.le_of_ble_eq_true rfl) dL_law__812 (fun v w' H locs hv hP hD hS => ?_) (fun E q ce w' H locs hx hP hD hS y1 y2 y3 => hx.elim)
  obtain ⟨w2, rfl, bb, rfl, hT2, ho⟩ := hv
  refine W.eq (g2 := F0 m 815 ls [.int bb]) rfl ?_
  exact tailI C hn hT2 ho hP hD hS hl5 (by have := hrm.2.2.2.2.1; omega) (by have := hrm.2.2.2.2.2; omega) (by omega) dL_law__815 dL_law__817 dL_law__818 dL_law__821 dL_law__823 dL_law__828 dL_law__830 dL_law__833 dL_law__834 dL_law__835 dL_law__836 dL_law__838 dL_law__839 dL_law__840 dL_law__845 (by decide)
theorem case_11 {pr : Program} {l : Launch} {e : Env} {s : State} {m : MethodId} {below : List Frame} {meth : Method} {c : Code} {dC : Nat → ClassId} {dI : Nat → Nat → Nat} {sk sv : Nat → Nat} {tc : Nat → ClassId} {b L ax am ao i : Nat} {xs : Nat → Int32} (C : CC pr l s m meth c dC dI sk sv tc b L xs) (h : 6 * i + 6 ≤ L) (hn : GO pr l e s m below meth c dC dI tc b ax am ao i (i + 1) 3264) : GO pr l e s m below meth c dC dI tc b ax am ao i i 848 := by
  obtain ⟨X, hr, hlk, hX, hbl, hL, hst⟩ := id C
  intro w t o H locs cells slots ls hT hP hD hS hl hc hs
  refine lv_aload_n X.1 X.2.1 dL_law__848 rfl (lv_at hl 1 rfl) ?_
  refine pushI1 C h hS hl dL_law__849 dL_law__850 dL_law__852 dL_law__853 dL_law__854 ?_
  refine pushI2 C h hS hl dL_law__855 dL_law__856 dL_law__858 dL_law__859 dL_law__860 ?_
  refine pushI3 C h hS hl dL_law__861 dL_law__862 dL_law__864 dL_law__865 dL_law__866 ?_
  refine lv_aload_n X.1 X.2.1 dL_law__867 rfl (lv_at hl 3 rfl) ?_
  obtain ⟨rm, mc, ms, hrm, hM⟩ := top_mark l hst dC dI sk sv tc ax am (xs (6 * i + 1)) (xs (6 * i + 2)) (xs (6 * i + 3)) hT
  obtain ⟨fs, hm⟩ := hT.mem
  refine callZS (As := [.ref ax, .int (xs (6 * i + 1)), .int (xs (6 * i + 2)), .int (xs (6 * i + 3)), .ref ao]) (rest := []) X (w_mark l dC dI sk sv tc ax ao o (xs (6 * i + 1)) (xs (6 * i + 2)) (xs (6 * i + 3)) w ⟨hrm.1, hrm.2.1, hrm.2.2.1, hrm.2.2.2.1⟩ (List.mem_append_left _ hm) (fun k w1 hk => by have h := hk.1; simpa using h) (SC.w (fun v w1 hv => hv.1) (hM ao o))) mw_5_123 mw_5_124 mw_1_0 mwc_mark dcl_mark ⟨Nat.le_of_ble_eq_true rfl, Nat.le_of_ble_eq_true rfl⟩ rfl rfl ⟨by have := hrm.2.2.2.2.1; show cells + mc ≤ 601024; omega, by have := hrm.2.2.2.2.2; show slots + ms ≤ 7293034; omega⟩ hP hD hS hl.1 (Nat.le_of_ble_eq_true rfl) dL_law__868 (fun v w' H locs hv hP hD hS => ?_)
  obtain ⟨kk, o', w1, rfl, rfl, ⟨fs2, hm2⟩, rm2, hrm2, hM2⟩ := w_due (by decide) hv
  refine W.eq (g2 := F0 m 871 ls [.int kk]) rfl ?_
  refine lv_istore (lv' := [(5, .int kk), (0, .ref b), (1, .ref ax), (2, .ref am), (3, .ref ao), (4, .int (nI (6 * i)))]) X.1 X.2.1 dL_law__871 hl (by decide) rfl (fun ls hl5 => ?_)
  have hl : lv_has ls 7 [(0, .ref b), (1, .ref ax), (2, .ref am), (3, .ref ao), (4, .int (nI (6 * i)))] := lv_sub hl5 [1, 2, 3, 4, 5] rfl
  refine lv_aload_n X.1 X.2.1 dL_law__873 rfl (lv_at hl 2 rfl) ?_
  refine pushI1 C h hS hl dL_law__874 dL_law__875 dL_law__877 dL_law__878 dL_law__879 ?_
  refine pushI2 C h hS hl dL_law__880 dL_law__881 dL_law__883 dL_law__884 dL_law__885 ?_
  refine pushI3 C h hS hl dL_law__886 dL_law__887 dL_law__889 dL_law__890 dL_law__891 ?_
  refine callZ (As := [.int (xs (6 * i + 1)), .int (xs (6 * i + 2)), .int (xs (6 * i + 3))]) (rest := []) X (hM2 ao o') mw_9_22 mw_9_23 mw_9_24 mw_1_12 mw_9_25 dc_X12_mark ⟨by have := hrm2.1; show rm2.frames + 1 ≤ 2048; omega, by have := hrm2.2.1; show 8 + (6 + 11) + rm2.locals ≤ 84000; omega⟩ hrm2.2.2.1 hrm2.2.2.2.1 ⟨by have := hrm.2.2.2.2.1; show cells + mc + 0 ≤ 601024; omega, by have := hrm.2.2.2.2.2; show slots + ms + 0 ≤ 7293034; omega⟩ hP hD hS (List.mem_append_left _ hm2) rfl rfl hl.1 (Nat.le_of_ble_eq_true rfl) dL_law__892 (fun v w' H locs hv hP hD hS => ?_) (fun E q ce w' H locs hx hP hD hS y1 y2 y3 => hx.elim)
  obtain ⟨w2, rfl, bb, rfl, hT2, ho⟩ := hv
  refine W.eq (g2 := F0 m 895 ls [.int bb]) rfl ?_
  exact tailI C hn hT2 ho hP hD hS hl5 (by have := hrm.2.2.2.2.1; omega) (by have := hrm.2.2.2.2.2; omega) (by omega) dL_law__895 dL_law__897 dL_law__898 dL_law__901 dL_law__903 dL_law__908 dL_law__910 dL_law__913 dL_law__914 dL_law__915 dL_law__916 dL_law__918 dL_law__919 dL_law__920 dL_law__925 (by decide)
theorem case_12 {pr : Program} {l : Launch} {e : Env} {s : State} {m : MethodId} {below : List Frame} {meth : Method} {c : Code} {dC : Nat → ClassId} {dI : Nat → Nat → Nat} {sk sv : Nat → Nat} {tc : Nat → ClassId} {b L ax am ao i : Nat} {xs : Nat → Int32} (C : CC pr l s m meth c dC dI sk sv tc b L xs) (h : 6 * i + 6 ≤ L) (hn : GO pr l e s m below meth c dC dI tc b ax am ao i (i + 1) 3264) : GO pr l e s m below meth c dC dI tc b ax am ao i i 928 := by
  obtain ⟨X, hr, hlk, hX, hbl, hL, hst⟩ := id C
  intro w t o H locs cells slots ls hT hP hD hS hl hc hs
  refine lv_aload_n X.1 X.2.1 dL_law__928 rfl (lv_at hl 1 rfl) ?_
  refine pushI1 C h hS hl dL_law__929 dL_law__930 dL_law__932 dL_law__933 dL_law__934 ?_
  refine pushI2 C h hS hl dL_law__935 dL_law__936 dL_law__938 dL_law__939 dL_law__940 ?_
  refine lv_aload_n X.1 X.2.1 dL_law__941 rfl (lv_at hl 3 rfl) ?_
  obtain ⟨rm, mc, ms, hrm, hM⟩ := top_alike l hst dC dI sk sv tc ax am (xs (6 * i + 1)) (xs (6 * i + 2)) hT
  obtain ⟨fs, hm⟩ := hT.mem
  refine callZS (As := [.ref ax, .int (xs (6 * i + 1)), .int (xs (6 * i + 2)), .ref ao]) (rest := []) X (w_alike l dC dI sk sv tc ax ao o (xs (6 * i + 1)) (xs (6 * i + 2)) w ⟨hrm.1, hrm.2.1, hrm.2.2.1, hrm.2.2.2.1⟩ (List.mem_append_left _ hm) (fun k w1 hk => by have h := hk.1; simpa using h) (SC.w (fun v w1 hv => hv.1) (hM ao o))) mw_5_130 mw_5_131 mw_1_0 mwc_alike dcl_alike ⟨Nat.le_of_ble_eq_true rfl, Nat.le_of_ble_eq_true rfl⟩ rfl rfl ⟨by have := hrm.2.2.2.2.1; show cells + mc ≤ 601024; omega, by have := hrm.2.2.2.2.2; show slots + ms ≤ 7293034; omega⟩ hP hD hS hl.1 (Nat.le_of_ble_eq_true rfl) dL_law__942 (fun v w' H locs hv hP hD hS => ?_)
  obtain ⟨kk, o', w1, rfl, rfl, ⟨fs2, hm2⟩, rm2, hrm2, hM2⟩ := w_due (by decide) hv
  refine W.eq (g2 := F0 m 945 ls [.int kk]) rfl ?_
  refine lv_istore (lv' := [(5, .int kk), (0, .ref b), (1, .ref ax), (2, .ref am), (3, .ref ao), (4, .int (nI (6 * i)))]) X.1 X.2.1 dL_law__945 hl (by decide) rfl (fun ls hl5 => ?_)
  have hl : lv_has ls 7 [(0, .ref b), (1, .ref ax), (2, .ref am), (3, .ref ao), (4, .int (nI (6 * i)))] := lv_sub hl5 [1, 2, 3, 4, 5] rfl
  refine lv_aload_n X.1 X.2.1 dL_law__947 rfl (lv_at hl 2 rfl) ?_
  refine pushI1 C h hS hl dL_law__948 dL_law__949 dL_law__951 dL_law__952 dL_law__953 ?_
  refine pushI2 C h hS hl dL_law__954 dL_law__955 dL_law__957 dL_law__958 dL_law__959 ?_
  refine callZ (As := [.int (xs (6 * i + 1)), .int (xs (6 * i + 2))]) (rest := []) X (hM2 ao o') mw_9_26 mw_9_27 mw_9_28 mw_1_12 mw_9_29 dc_X12_alike ⟨by have := hrm2.1; show rm2.frames + 1 ≤ 2048; omega, by have := hrm2.2.1; show 8 + (3 + 11) + rm2.locals ≤ 84000; omega⟩ hrm2.2.2.1 hrm2.2.2.2.1 ⟨by have := hrm.2.2.2.2.1; show cells + mc + 0 ≤ 601024; omega, by have := hrm.2.2.2.2.2; show slots + ms + 0 ≤ 7293034; omega⟩ hP hD hS (List.mem_append_left _ hm2) rfl rfl hl.1 (Nat.le_of_ble_eq_true rfl) dL_law__960 (fun v w' H locs hv hP hD hS => ?_) (fun E q ce w' H locs hx hP hD hS y1 y2 y3 => hx.elim)
  obtain ⟨w2, rfl, bb, rfl, hT2, ho⟩ := hv
  refine W.eq (g2 := F0 m 963 ls [.int bb]) rfl ?_
  exact tailI C hn hT2 ho hP hD hS hl5 (by have := hrm.2.2.2.2.1; omega) (by have := hrm.2.2.2.2.2; omega) (by omega) dL_law__963 dL_law__965 dL_law__966 dL_law__969 dL_law__971 dL_law__976 dL_law__978 dL_law__981 dL_law__982 dL_law__983 dL_law__984 dL_law__986 dL_law__987 dL_law__988 dL_law__993 (by decide)
theorem case_13 {pr : Program} {l : Launch} {e : Env} {s : State} {m : MethodId} {below : List Frame} {meth : Method} {c : Code} {dC : Nat → ClassId} {dI : Nat → Nat → Nat} {sk sv : Nat → Nat} {tc : Nat → ClassId} {b L ax am ao i : Nat} {xs : Nat → Int32} (C : CC pr l s m meth c dC dI sk sv tc b L xs) (h : 6 * i + 6 ≤ L) (hn : GO pr l e s m below meth c dC dI tc b ax am ao i (i + 1) 3264) : GO pr l e s m below meth c dC dI tc b ax am ao i i 996 := by
  obtain ⟨X, hr, hlk, hX, hbl, hL, hst⟩ := id C
  intro w t o H locs cells slots ls hT hP hD hS hl hc hs
  refine lv_aload_n X.1 X.2.1 dL_law__996 rfl (lv_at hl 1 rfl) ?_
  refine pushI1 C h hS hl dL_law__997 dL_law__998 dL_law__1000 dL_law__1001 dL_law__1002 ?_
  refine pushI2 C h hS hl dL_law__1003 dL_law__1004 dL_law__1006 dL_law__1007 dL_law__1008 ?_
  refine lv_aload_n X.1 X.2.1 dL_law__1009 rfl (lv_at hl 3 rfl) ?_
  obtain ⟨rm, mc, ms, hrm, hM⟩ := top_reads l hst dC dI sk sv tc ax am (xs (6 * i + 1)) (xs (6 * i + 2)) hT
  obtain ⟨fs, hm⟩ := hT.mem
  refine callZS (As := [.ref ax, .int (xs (6 * i + 1)), .int (xs (6 * i + 2)), .ref ao]) (rest := []) X (w_reads l dC dI sk sv tc ax ao o (xs (6 * i + 1)) (xs (6 * i + 2)) w ⟨hrm.1, hrm.2.1, hrm.2.2.1, hrm.2.2.2.1⟩ (List.mem_append_left _ hm) (fun k w1 hk => by have h := hk.1; simpa using h) (SC.w (fun v w1 hv => hv.1) (hM ao o))) mw_5_138 mw_5_139 mw_1_0 mwc_reads dcl_reads ⟨Nat.le_of_ble_eq_true rfl, Nat.le_of_ble_eq_true rfl⟩ rfl rfl ⟨by have := hrm.2.2.2.2.1; show cells + mc ≤ 601024; omega, by have := hrm.2.2.2.2.2; show slots + ms ≤ 7293034; omega⟩ hP hD hS hl.1 (Nat.le_of_ble_eq_true rfl) dL_law__1010 (fun v w' H locs hv hP hD hS => ?_)
  obtain ⟨kk, o', w1, rfl, rfl, ⟨fs2, hm2⟩, rm2, hrm2, hM2⟩ := w_due (by decide) hv
  refine W.eq (g2 := F0 m 1013 ls [.int kk]) rfl ?_
  refine lv_istore (lv' := [(5, .int kk), (0, .ref b), (1, .ref ax), (2, .ref am), (3, .ref ao), (4, .int (nI (6 * i)))]) X.1 X.2.1 dL_law__1013 hl (by decide) rfl (fun ls hl5 => ?_)
  have hl : lv_has ls 7 [(0, .ref b), (1, .ref ax), (2, .ref am), (3, .ref ao), (4, .int (nI (6 * i)))] := lv_sub hl5 [1, 2, 3, 4, 5] rfl
  refine lv_aload_n X.1 X.2.1 dL_law__1015 rfl (lv_at hl 2 rfl) ?_
  refine pushI1 C h hS hl dL_law__1016 dL_law__1017 dL_law__1019 dL_law__1020 dL_law__1021 ?_
  refine pushI2 C h hS hl dL_law__1022 dL_law__1023 dL_law__1025 dL_law__1026 dL_law__1027 ?_
  refine callZ (As := [.int (xs (6 * i + 1)), .int (xs (6 * i + 2))]) (rest := []) X (hM2 ao o') mw_9_30 mw_9_31 mw_9_32 mw_1_12 mw_9_33 dc_X12_reads ⟨by have := hrm2.1; show rm2.frames + 1 ≤ 2048; omega, by have := hrm2.2.1; show 8 + (3 + 11) + rm2.locals ≤ 84000; omega⟩ hrm2.2.2.1 hrm2.2.2.2.1 ⟨by have := hrm.2.2.2.2.1; show cells + mc + 0 ≤ 601024; omega, by have := hrm.2.2.2.2.2; show slots + ms + 0 ≤ 7293034; omega⟩ hP hD hS (List.mem_append_left _ hm2) rfl rfl hl.1 (Nat.le_of_ble_eq_true rfl) dL_law__1028 (fun v w' H locs hv hP hD hS => ?_) (fun E q ce w' H locs hx hP hD hS y1 y2 y3 => hx.elim)
  obtain ⟨w2, rfl, bb, rfl, hT2, ho⟩ := hv
  refine W.eq (g2 := F0 m 1031 ls [.int bb]) rfl ?_
  exact tailI C hn hT2 ho hP hD hS hl5 (by have := hrm.2.2.2.2.1; omega) (by have := hrm.2.2.2.2.2; omega) (by omega) dL_law__1031 dL_law__1033 dL_law__1034 dL_law__1037 dL_law__1039 dL_law__1044 dL_law__1046 dL_law__1049 dL_law__1050 dL_law__1051 dL_law__1052 dL_law__1054 dL_law__1055 dL_law__1056 dL_law__1061 (by decide)
theorem case_14 {pr : Program} {l : Launch} {e : Env} {s : State} {m : MethodId} {below : List Frame} {meth : Method} {c : Code} {dC : Nat → ClassId} {dI : Nat → Nat → Nat} {sk sv : Nat → Nat} {tc : Nat → ClassId} {b L ax am ao i : Nat} {xs : Nat → Int32} (C : CC pr l s m meth c dC dI sk sv tc b L xs) (h : 6 * i + 6 ≤ L) (hn : GO pr l e s m below meth c dC dI tc b ax am ao i (i + 1) 3264) : GO pr l e s m below meth c dC dI tc b ax am ao i i 1064 := by
  obtain ⟨X, hr, hlk, hX, hbl, hL, hst⟩ := id C
  intro w t o H locs cells slots ls hT hP hD hS hl hc hs
  refine lv_aload_n X.1 X.2.1 dL_law__1064 rfl (lv_at hl 1 rfl) ?_
  refine pushI1 C h hS hl dL_law__1065 dL_law__1066 dL_law__1068 dL_law__1069 dL_law__1070 ?_
  refine pushI2 C h hS hl dL_law__1071 dL_law__1072 dL_law__1074 dL_law__1075 dL_law__1076 ?_
  refine lv_aload_n X.1 X.2.1 dL_law__1077 rfl (lv_at hl 3 rfl) ?_
  obtain ⟨rm, mc, ms, hrm, hM⟩ := top_keepsUp l hst dC dI sk sv tc ax am (xs (6 * i + 1)) (xs (6 * i + 2)) hT
  obtain ⟨fs, hm⟩ := hT.mem
  refine callZS (As := [.ref ax, .int (xs (6 * i + 1)), .int (xs (6 * i + 2)), .ref ao]) (rest := []) X (w_keepsUp l dC dI sk sv tc ax ao o (xs (6 * i + 1)) (xs (6 * i + 2)) w ⟨hrm.1, hrm.2.1, hrm.2.2.1, hrm.2.2.2.1⟩ (List.mem_append_left _ hm) (fun k w1 hk => by have h := hk.1; simpa using h) (fun r w1 hv => by rcases hv.1 with z | z; cases z; exact Or.inl rfl; cases z; exact Or.inr rfl) (SC.w (fun v w1 hv => by rcases hv.1 with rfl | rfl; exact ⟨_, rfl⟩; exact ⟨_, rfl⟩) (hM ao o))) mw_5_146 mw_5_147 mw_1_0 mwc_keepsUp dcl_keepsUp ⟨Nat.le_of_ble_eq_true rfl, Nat.le_of_ble_eq_true rfl⟩ rfl rfl ⟨by have := hrm.2.2.2.2.1; show cells + mc ≤ 601024; omega, by have := hrm.2.2.2.2.2; show slots + ms ≤ 7293034; omega⟩ hP hD hS hl.1 (Nat.le_of_ble_eq_true rfl) dL_law__1078 (fun v w' H locs hv hP hD hS => ?_)
  obtain ⟨kk, o', w1, rfl, rfl, ⟨fs2, hm2⟩, rm2, hrm2, hM2⟩ := w_dueZ (by decide) hv
  refine W.eq (g2 := F0 m 1081 ls [.int kk]) rfl ?_
  refine lv_istore (lv' := [(5, .int kk), (0, .ref b), (1, .ref ax), (2, .ref am), (3, .ref ao), (4, .int (nI (6 * i)))]) X.1 X.2.1 dL_law__1081 hl (by decide) rfl (fun ls hl5 => ?_)
  have hl : lv_has ls 7 [(0, .ref b), (1, .ref ax), (2, .ref am), (3, .ref ao), (4, .int (nI (6 * i)))] := lv_sub hl5 [1, 2, 3, 4, 5] rfl
  refine lv_aload_n X.1 X.2.1 dL_law__1083 rfl (lv_at hl 2 rfl) ?_
  refine pushI1 C h hS hl dL_law__1084 dL_law__1085 dL_law__1087 dL_law__1088 dL_law__1089 ?_
  refine pushI2 C h hS hl dL_law__1090 dL_law__1091 dL_law__1093 dL_law__1094 dL_law__1095 ?_
  refine callZ (As := [.int (xs (6 * i + 1)), .int (xs (6 * i + 2))]) (rest := []) X (hM2 ao o') mw_9_34 mw_9_35 mw_9_36 mw_1_12 mw_9_37 dc_X12_keepsUp ⟨by have := hrm2.1; show rm2.frames + 1 ≤ 2048; omega, by have := hrm2.2.1; show 8 + (3 + 11) + rm2.locals ≤ 84000; omega⟩ hrm2.2.2.1 hrm2.2.2.2.1 ⟨by have := hrm.2.2.2.2.1; show cells + mc + 0 ≤ 601024; omega, by have := hrm.2.2.2.2.2; show slots + ms + 0 ≤ 7293034; omega⟩ hP hD hS (List.mem_append_left _ hm2) rfl rfl hl.1 (Nat.le_of_ble_eq_true rfl) dL_law__1096 (fun v w' H locs hv hP hD hS => ?_) (fun E q ce w' H locs hx hP hD hS y1 y2 y3 => hx.elim)
  obtain ⟨w2, rfl, bb, rfl, hT2, ho⟩ := hv
  refine W.eq (g2 := F0 m 1099 ls [.int bb]) rfl ?_
  exact tailZ C hn hT2 ho hP hD hS hl5 (by have := hrm.2.2.2.2.1; omega) (by have := hrm.2.2.2.2.2; omega) (by omega) dL_law__1099 dL_law__1101 dL_law__1102 dL_law__1105 dL_law__1107 dL_law__1112 dL_law__1114 dL_law__1117 dL_law__1118 dL_law__1119 dL_law__1120 dL_law__1122 dL_law__1125 dL_law__1126 dL_law__1129 dL_law__1130 dL_law__1131 dL_law__1136 (by decide)
theorem case_15 {pr : Program} {l : Launch} {e : Env} {s : State} {m : MethodId} {below : List Frame} {meth : Method} {c : Code} {dC : Nat → ClassId} {dI : Nat → Nat → Nat} {sk sv : Nat → Nat} {tc : Nat → ClassId} {b L ax am ao i : Nat} {xs : Nat → Int32} (C : CC pr l s m meth c dC dI sk sv tc b L xs) (h : 6 * i + 6 ≤ L) (hn : GO pr l e s m below meth c dC dI tc b ax am ao i (i + 1) 3264) : GO pr l e s m below meth c dC dI tc b ax am ao i i 1139 := by
  obtain ⟨X, hr, hlk, hX, hbl, hL, hst⟩ := id C
  intro w t o H locs cells slots ls hT hP hD hS hl hc hs
  refine lv_aload_n X.1 X.2.1 dL_law__1139 rfl (lv_at hl 1 rfl) ?_
  refine pushI1 C h hS hl dL_law__1140 dL_law__1141 dL_law__1143 dL_law__1144 dL_law__1145 ?_
  refine pushI2 C h hS hl dL_law__1146 dL_law__1147 dL_law__1149 dL_law__1150 dL_law__1151 ?_
  refine lv_aload_n X.1 X.2.1 dL_law__1152 rfl (lv_at hl 3 rfl) ?_
  obtain ⟨rm, mc, ms, hrm, hM⟩ := top_slips l hst dC dI sk sv tc ax am (xs (6 * i + 1)) (xs (6 * i + 2)) hT
  obtain ⟨fs, hm⟩ := hT.mem
  refine callZS (As := [.ref ax, .int (xs (6 * i + 1)), .int (xs (6 * i + 2)), .ref ao]) (rest := []) X (w_slips l dC dI sk sv tc ax ao o (xs (6 * i + 1)) (xs (6 * i + 2)) w ⟨hrm.1, hrm.2.1, hrm.2.2.1, hrm.2.2.2.1⟩ (List.mem_append_left _ hm) (fun k w1 hk => by have h := hk.1; simpa using h) (SC.w (fun v w1 hv => hv.1) (hM ao o))) mw_5_163 mw_5_164 mw_1_0 mwc_slips dcl_slips ⟨Nat.le_of_ble_eq_true rfl, Nat.le_of_ble_eq_true rfl⟩ rfl rfl ⟨by have := hrm.2.2.2.2.1; show cells + mc ≤ 601024; omega, by have := hrm.2.2.2.2.2; show slots + ms ≤ 7293034; omega⟩ hP hD hS hl.1 (Nat.le_of_ble_eq_true rfl) dL_law__1153 (fun v w' H locs hv hP hD hS => ?_)
  obtain ⟨kk, o', w1, rfl, rfl, ⟨fs2, hm2⟩, rm2, hrm2, hM2⟩ := w_due (by decide) hv
  refine W.eq (g2 := F0 m 1156 ls [.int kk]) rfl ?_
  refine lv_istore (lv' := [(5, .int kk), (0, .ref b), (1, .ref ax), (2, .ref am), (3, .ref ao), (4, .int (nI (6 * i)))]) X.1 X.2.1 dL_law__1156 hl (by decide) rfl (fun ls hl5 => ?_)
  have hl : lv_has ls 7 [(0, .ref b), (1, .ref ax), (2, .ref am), (3, .ref ao), (4, .int (nI (6 * i)))] := lv_sub hl5 [1, 2, 3, 4, 5] rfl
  refine lv_aload_n X.1 X.2.1 dL_law__1158 rfl (lv_at hl 2 rfl) ?_
  refine pushI1 C h hS hl dL_law__1159 dL_law__1160 dL_law__1162 dL_law__1163 dL_law__1164 ?_
  refine pushI2 C h hS hl dL_law__1165 dL_law__1166 dL_law__1168 dL_law__1169 dL_law__1170 ?_
  refine callZ (As := [.int (xs (6 * i + 1)), .int (xs (6 * i + 2))]) (rest := []) X (hM2 ao o') mw_9_42 mw_9_43 mw_9_44 mw_1_12 mw_9_45 dc_X12_slips ⟨by have := hrm2.1; show rm2.frames + 1 ≤ 2048; omega, by have := hrm2.2.1; show 8 + (3 + 11) + rm2.locals ≤ 84000; omega⟩ hrm2.2.2.1 hrm2.2.2.2.1 ⟨by have := hrm.2.2.2.2.1; show cells + mc + 0 ≤ 601024; omega, by have := hrm.2.2.2.2.2; show slots + ms + 0 ≤ 7293034; omega⟩ hP hD hS (List.mem_append_left _ hm2) rfl rfl hl.1 (Nat.le_of_ble_eq_true rfl) dL_law__1171 (fun v w' H locs hv hP hD hS => ?_) (fun E q ce w' H locs hx hP hD hS y1 y2 y3 => hx.elim)
  obtain ⟨w2, rfl, bb, rfl, hT2, ho⟩ := hv
  refine W.eq (g2 := F0 m 1174 ls [.int bb]) rfl ?_
  exact tailI C hn hT2 ho hP hD hS hl5 (by have := hrm.2.2.2.2.1; omega) (by have := hrm.2.2.2.2.2; omega) (by omega) dL_law__1174 dL_law__1176 dL_law__1177 dL_law__1180 dL_law__1182 dL_law__1187 dL_law__1189 dL_law__1192 dL_law__1193 dL_law__1194 dL_law__1195 dL_law__1197 dL_law__1198 dL_law__1199 dL_law__1204 (by decide)
theorem case_16 {pr : Program} {l : Launch} {e : Env} {s : State} {m : MethodId} {below : List Frame} {meth : Method} {c : Code} {dC : Nat → ClassId} {dI : Nat → Nat → Nat} {sk sv : Nat → Nat} {tc : Nat → ClassId} {b L ax am ao i : Nat} {xs : Nat → Int32} (C : CC pr l s m meth c dC dI sk sv tc b L xs) (h : 6 * i + 6 ≤ L) (hn : GO pr l e s m below meth c dC dI tc b ax am ao i (i + 1) 3264) : GO pr l e s m below meth c dC dI tc b ax am ao i i 1207 := by
  obtain ⟨X, hr, hlk, hX, hbl, hL, hst⟩ := id C
  intro w t o H locs cells slots ls hT hP hD hS hl hc hs
  refine lv_aload_n X.1 X.2.1 dL_law__1207 rfl (lv_at hl 1 rfl) ?_
  refine pushI1 C h hS hl dL_law__1208 dL_law__1209 dL_law__1211 dL_law__1212 dL_law__1213 ?_
  refine lv_aload_n X.1 X.2.1 dL_law__1214 rfl (lv_at hl 3 rfl) ?_
  obtain ⟨rm, mc, ms, hrm, hM⟩ := top_minutes l hst dC dI sk sv tc ax am (xs (6 * i + 1)) hT
  obtain ⟨fs, hm⟩ := hT.mem
  refine callZS (As := [.ref ax, .int (xs (6 * i + 1)), .ref ao]) (rest := []) X (w_minutes l dC dI sk sv tc ax ao o (xs (6 * i + 1)) w ⟨hrm.1, hrm.2.1, hrm.2.2.1, hrm.2.2.2.1⟩ (List.mem_append_left _ hm) (fun k w1 hk => by have h := hk.1; simpa using h) (SC.w (fun v w1 hv => hv.1) (hM ao o))) mw_5_192 mw_5_193 mw_1_0 mwc_minutes dcl_minutes ⟨Nat.le_of_ble_eq_true rfl, Nat.le_of_ble_eq_true rfl⟩ rfl rfl ⟨by have := hrm.2.2.2.2.1; show cells + mc ≤ 601024; omega, by have := hrm.2.2.2.2.2; show slots + ms ≤ 7293034; omega⟩ hP hD hS hl.1 (Nat.le_of_ble_eq_true rfl) dL_law__1215 (fun v w' H locs hv hP hD hS => ?_)
  obtain ⟨kk, o', w1, rfl, rfl, ⟨fs2, hm2⟩, rm2, hrm2, hM2⟩ := w_due (by decide) hv
  refine W.eq (g2 := F0 m 1218 ls [.int kk]) rfl ?_
  refine lv_istore (lv' := [(5, .int kk), (0, .ref b), (1, .ref ax), (2, .ref am), (3, .ref ao), (4, .int (nI (6 * i)))]) X.1 X.2.1 dL_law__1218 hl (by decide) rfl (fun ls hl5 => ?_)
  have hl : lv_has ls 7 [(0, .ref b), (1, .ref ax), (2, .ref am), (3, .ref ao), (4, .int (nI (6 * i)))] := lv_sub hl5 [1, 2, 3, 4, 5] rfl
  refine lv_aload_n X.1 X.2.1 dL_law__1220 rfl (lv_at hl 2 rfl) ?_
  refine pushI1 C h hS hl dL_law__1221 dL_law__1222 dL_law__1224 dL_law__1225 dL_law__1226 ?_
  refine callZ (As := [.int (xs (6 * i + 1))]) (rest := []) X (hM2 ao o') mw_9_54 mw_9_55 mw_9_56 mw_1_12 mw_9_57 dc_X12_minutes ⟨by have := hrm2.1; show rm2.frames + 1 ≤ 2048; omega, by have := hrm2.2.1; show 8 + (2 + 11) + rm2.locals ≤ 84000; omega⟩ hrm2.2.2.1 hrm2.2.2.2.1 ⟨by have := hrm.2.2.2.2.1; show cells + mc + 0 ≤ 601024; omega, by have := hrm.2.2.2.2.2; show slots + ms + 0 ≤ 7293034; omega⟩ hP hD hS (List.mem_append_left _ hm2) rfl rfl hl.1 (Nat.le_of_ble_eq_true rfl) dL_law__1227 (fun v w' H locs hv hP hD hS => ?_) (fun E q ce w' H locs hx hP hD hS y1 y2 y3 => hx.elim)
  obtain ⟨w2, rfl, bb, rfl, hT2, ho⟩ := hv
  refine W.eq (g2 := F0 m 1230 ls [.int bb]) rfl ?_
  exact tailI C hn hT2 ho hP hD hS hl5 (by have := hrm.2.2.2.2.1; omega) (by have := hrm.2.2.2.2.2; omega) (by omega) dL_law__1230 dL_law__1232 dL_law__1233 dL_law__1236 dL_law__1238 dL_law__1243 dL_law__1245 dL_law__1248 dL_law__1249 dL_law__1250 dL_law__1251 dL_law__1253 dL_law__1254 dL_law__1255 dL_law__1260 (by decide)
theorem case_17 {pr : Program} {l : Launch} {e : Env} {s : State} {m : MethodId} {below : List Frame} {meth : Method} {c : Code} {dC : Nat → ClassId} {dI : Nat → Nat → Nat} {sk sv : Nat → Nat} {tc : Nat → ClassId} {b L ax am ao i : Nat} {xs : Nat → Int32} (C : CC pr l s m meth c dC dI sk sv tc b L xs) (h : 6 * i + 6 ≤ L) (hn : GO pr l e s m below meth c dC dI tc b ax am ao i (i + 1) 3264) : GO pr l e s m below meth c dC dI tc b ax am ao i i 1263 := by
  obtain ⟨X, hr, hlk, hX, hbl, hL, hst⟩ := id C
  intro w t o H locs cells slots ls hT hP hD hS hl hc hs
  refine lv_aload_n X.1 X.2.1 dL_law__1263 rfl (lv_at hl 1 rfl) ?_
  refine pushI1 C h hS hl dL_law__1264 dL_law__1265 dL_law__1267 dL_law__1268 dL_law__1269 ?_
  refine lv_aload_n X.1 X.2.1 dL_law__1270 rfl (lv_at hl 3 rfl) ?_
  obtain ⟨rm, mc, ms, hrm, hM⟩ := top_speak l hst dC dI sk sv tc ax am (xs (6 * i + 1)) hT
  obtain ⟨fs, hm⟩ := hT.mem
  refine callZS (As := [.ref ax, .int (xs (6 * i + 1)), .ref ao]) (rest := []) X (w_speak l dC dI sk sv tc ax ao o (xs (6 * i + 1)) w ⟨hrm.1, hrm.2.1, hrm.2.2.1, hrm.2.2.2.1⟩ (List.mem_append_left _ hm) (fun k w1 hk => by have h := hk.1; simpa using h) (SC.w (fun v w1 hv => hv.1) (hM ao o))) mw_5_237 mw_5_238 mw_1_0 mwc_speak dcl_speak ⟨Nat.le_of_ble_eq_true rfl, Nat.le_of_ble_eq_true rfl⟩ rfl rfl ⟨by have := hrm.2.2.2.2.1; show cells + mc ≤ 601024; omega, by have := hrm.2.2.2.2.2; show slots + ms ≤ 7293034; omega⟩ hP hD hS hl.1 (Nat.le_of_ble_eq_true rfl) dL_law__1271 (fun v w' H locs hv hP hD hS => ?_)
  obtain ⟨kk, o', w1, rfl, rfl, ⟨fs2, hm2⟩, rm2, hrm2, hM2⟩ := w_due (by decide) hv
  refine W.eq (g2 := F0 m 1274 ls [.int kk]) rfl ?_
  refine lv_istore (lv' := [(5, .int kk), (0, .ref b), (1, .ref ax), (2, .ref am), (3, .ref ao), (4, .int (nI (6 * i)))]) X.1 X.2.1 dL_law__1274 hl (by decide) rfl (fun ls hl5 => ?_)
  have hl : lv_has ls 7 [(0, .ref b), (1, .ref ax), (2, .ref am), (3, .ref ao), (4, .int (nI (6 * i)))] := lv_sub hl5 [1, 2, 3, 4, 5] rfl
  refine lv_aload_n X.1 X.2.1 dL_law__1276 rfl (lv_at hl 2 rfl) ?_
  refine pushI1 C h hS hl dL_law__1277 dL_law__1278 dL_law__1280 dL_law__1281 dL_law__1282 ?_
  refine callZ (As := [.int (xs (6 * i + 1))]) (rest := []) X (hM2 ao o') mw_9_87 mw_9_88 mw_9_89 mw_1_12 mw_9_90 dc_X12_speak ⟨by have := hrm2.1; show rm2.frames + 1 ≤ 2048; omega, by have := hrm2.2.1; show 8 + (3 + 11) + rm2.locals ≤ 84000; omega⟩ hrm2.2.2.1 hrm2.2.2.2.1 ⟨by have := hrm.2.2.2.2.1; show cells + mc + 0 ≤ 601024; omega, by have := hrm.2.2.2.2.2; show slots + ms + 0 ≤ 7293034; omega⟩ hP hD hS (List.mem_append_left _ hm2) rfl rfl hl.1 (Nat.le_of_ble_eq_true rfl) dL_law__1283 (fun v w' H locs hv hP hD hS => ?_) (fun E q ce w' H locs hx hP hD hS y1 y2 y3 => hx.elim)
  obtain ⟨w2, rfl, bb, rfl, hT2, ho⟩ := hv
  refine W.eq (g2 := F0 m 1286 ls [.int bb]) rfl ?_
  exact tailI C hn hT2 ho hP hD hS hl5 (by have := hrm.2.2.2.2.1; omega) (by have := hrm.2.2.2.2.2; omega) (by omega) dL_law__1286 dL_law__1288 dL_law__1289 dL_law__1292 dL_law__1294 dL_law__1299 dL_law__1301 dL_law__1304 dL_law__1305 dL_law__1306 dL_law__1307 dL_law__1309 dL_law__1310 dL_law__1311 dL_law__1316 (by decide)
theorem case_18 {pr : Program} {l : Launch} {e : Env} {s : State} {m : MethodId} {below : List Frame} {meth : Method} {c : Code} {dC : Nat → ClassId} {dI : Nat → Nat → Nat} {sk sv : Nat → Nat} {tc : Nat → ClassId} {b L ax am ao i : Nat} {xs : Nat → Int32} (C : CC pr l s m meth c dC dI sk sv tc b L xs) (h : 6 * i + 6 ≤ L) (hn : GO pr l e s m below meth c dC dI tc b ax am ao i (i + 1) 3264) : GO pr l e s m below meth c dC dI tc b ax am ao i i 1319 := by
  obtain ⟨X, hr, hlk, hX, hbl, hL, hst⟩ := id C
  intro w t o H locs cells slots ls hT hP hD hS hl hc hs
  refine lv_aload_n X.1 X.2.1 dL_law__1319 rfl (lv_at hl 1 rfl) ?_
  refine pushI1 C h hS hl dL_law__1320 dL_law__1321 dL_law__1323 dL_law__1324 dL_law__1325 ?_
  refine pushI2 C h hS hl dL_law__1326 dL_law__1327 dL_law__1329 dL_law__1330 dL_law__1331 ?_
  refine pushI3 C h hS hl dL_law__1332 dL_law__1333 dL_law__1335 dL_law__1336 dL_law__1337 ?_
  refine pushZ (K := 0) C dL_law__1338 dL_law__1341 dL_law__1342 dL_law__1345 ?_
  refine lv_aload_n X.1 X.2.1 dL_law__1346 rfl (lv_at hl 3 rfl) ?_
  obtain ⟨rm, mc, ms, hrm, hM⟩ := top_leave l hst dC dI sk sv tc ax am (xs (6 * i + 1)) (xs (6 * i + 2)) (bz (xs (6 * i + 3))) (bz_01 _) hT
  obtain ⟨fs, hm⟩ := hT.mem
  refine callZS (As := [.ref ax, .int (xs (6 * i + 1)), .int (xs (6 * i + 2)), .int (bz (xs (6 * i + 3))), .ref ao]) (rest := []) X (w_leave l dC dI sk sv tc ax ao o (xs (6 * i + 1)) (xs (6 * i + 2)) (bz (xs (6 * i + 3))) w ⟨hrm.1, hrm.2.1, hrm.2.2.1, hrm.2.2.2.1⟩ (List.mem_append_left _ hm) (fun k w1 hk => by have h := hk.1; simpa using h) (fun r w1 hv => by rcases hv.1 with z | z; cases z; exact Or.inl rfl; cases z; exact Or.inr rfl) (SC.w (fun v w1 hv => by rcases hv.1 with rfl | rfl; exact ⟨_, rfl⟩; exact ⟨_, rfl⟩) (hM ao o))) mw_6_21 mw_6_22 mw_1_0 mwc_leave dcl_leave ⟨Nat.le_of_ble_eq_true rfl, Nat.le_of_ble_eq_true rfl⟩ rfl rfl ⟨by have := hrm.2.2.2.2.1; show cells + mc ≤ 601024; omega, by have := hrm.2.2.2.2.2; show slots + ms ≤ 7293034; omega⟩ hP hD hS hl.1 (Nat.le_of_ble_eq_true rfl) dL_law__1347 (fun v w' H locs hv hP hD hS => ?_)
  obtain ⟨kk, o', w1, rfl, rfl, ⟨fs2, hm2⟩, rm2, hrm2, hM2⟩ := w_dueZ (by decide) hv
  refine W.eq (g2 := F0 m 1350 ls [.int kk]) rfl ?_
  refine lv_istore (lv' := [(5, .int kk), (0, .ref b), (1, .ref ax), (2, .ref am), (3, .ref ao), (4, .int (nI (6 * i)))]) X.1 X.2.1 dL_law__1350 hl (by decide) rfl (fun ls hl5 => ?_)
  have hl : lv_has ls 7 [(0, .ref b), (1, .ref ax), (2, .ref am), (3, .ref ao), (4, .int (nI (6 * i)))] := lv_sub hl5 [1, 2, 3, 4, 5] rfl
  refine lv_aload_n X.1 X.2.1 dL_law__1352 rfl (lv_at hl 2 rfl) ?_
  refine pushI1 C h hS hl dL_law__1353 dL_law__1354 dL_law__1356 dL_law__1357 dL_law__1358 ?_
  refine pushI2 C h hS hl dL_law__1359 dL_law__1360 dL_law__1362 dL_law__1363 dL_law__1364 ?_
  refine pushI3 C h hS hl dL_law__1365 dL_law__1366 dL_law__1368 dL_law__1369 dL_law__1370 ?_
  refine pushZ (K := 0) C dL_law__1371 dL_law__1374 dL_law__1375 dL_law__1378 ?_
  refine callZ (As := [.int (xs (6 * i + 1)), .int (xs (6 * i + 2)), .int (bz (xs (6 * i + 3)))]) (rest := []) X (hM2 ao o') mw_9_95 mw_9_96 mw_9_97 mw_1_12 mw_9_98 dc_X12_leave ⟨by have := hrm2.1; show rm2.frames + 1 ≤ 2048; omega, by have := hrm2.2.1; show 8 + (5 + 11) + rm2.locals ≤ 84000; omega⟩ hrm2.2.2.1 hrm2.2.2.2.1 ⟨by have := hrm.2.2.2.2.1; show cells + mc + 0 ≤ 601024; omega, by have := hrm.2.2.2.2.2; show slots + ms + 0 ≤ 7293034; omega⟩ hP hD hS (List.mem_append_left _ hm2) rfl rfl hl.1 (Nat.le_of_ble_eq_true rfl) dL_law__1379 (fun v w' H locs hv hP hD hS => ?_) (fun E q ce w' H locs hx hP hD hS y1 y2 y3 => hx.elim)
  obtain ⟨w2, rfl, bb, rfl, hT2, ho⟩ := hv
  refine W.eq (g2 := F0 m 1382 ls [.int bb]) rfl ?_
  exact tailZ C hn hT2 ho hP hD hS hl5 (by have := hrm.2.2.2.2.1; omega) (by have := hrm.2.2.2.2.2; omega) (by omega) dL_law__1382 dL_law__1384 dL_law__1385 dL_law__1388 dL_law__1390 dL_law__1395 dL_law__1397 dL_law__1400 dL_law__1401 dL_law__1402 dL_law__1403 dL_law__1405 dL_law__1408 dL_law__1409 dL_law__1412 dL_law__1413 dL_law__1414 dL_law__1419 (by decide)
theorem case_19 {pr : Program} {l : Launch} {e : Env} {s : State} {m : MethodId} {below : List Frame} {meth : Method} {c : Code} {dC : Nat → ClassId} {dI : Nat → Nat → Nat} {sk sv : Nat → Nat} {tc : Nat → ClassId} {b L ax am ao i : Nat} {xs : Nat → Int32} (C : CC pr l s m meth c dC dI sk sv tc b L xs) (h : 6 * i + 6 ≤ L) (hn : GO pr l e s m below meth c dC dI tc b ax am ao i (i + 1) 3264) : GO pr l e s m below meth c dC dI tc b ax am ao i i 1422 := by
  obtain ⟨X, hr, hlk, hX, hbl, hL, hst⟩ := id C
  intro w t o H locs cells slots ls hT hP hD hS hl hc hs
  refine lv_aload_n X.1 X.2.1 dL_law__1422 rfl (lv_at hl 1 rfl) ?_
  refine pushI1 C h hS hl dL_law__1423 dL_law__1424 dL_law__1426 dL_law__1427 dL_law__1428 ?_
  refine lv_aload_n X.1 X.2.1 dL_law__1429 rfl (lv_at hl 3 rfl) ?_
  obtain ⟨rm, mc, ms, hrm, hM⟩ := top_learn l hst dC dI sk sv tc ax am (xs (6 * i + 1)) hT
  obtain ⟨fs, hm⟩ := hT.mem
  refine callZS (As := [.ref ax, .int (xs (6 * i + 1)), .ref ao]) (rest := []) X (w_learn l dC dI sk sv tc ax ao o (xs (6 * i + 1)) w ⟨hrm.1, hrm.2.1, hrm.2.2.1, hrm.2.2.2.1⟩ (List.mem_append_left _ hm) (fun k w1 hk => by have h := hk.1; simpa using h) (SC.w (fun v w1 hv => hv.1) (hM ao o))) mw_6_33 mw_6_34 mw_1_0 mwc_learn dcl_learn ⟨Nat.le_of_ble_eq_true rfl, Nat.le_of_ble_eq_true rfl⟩ rfl rfl ⟨by have := hrm.2.2.2.2.1; show cells + mc ≤ 601024; omega, by have := hrm.2.2.2.2.2; show slots + ms ≤ 7293034; omega⟩ hP hD hS hl.1 (Nat.le_of_ble_eq_true rfl) dL_law__1430 (fun v w' H locs hv hP hD hS => ?_)
  obtain ⟨kk, o', w1, rfl, rfl, ⟨fs2, hm2⟩, rm2, hrm2, hM2⟩ := w_due (by decide) hv
  refine W.eq (g2 := F0 m 1433 ls [.int kk]) rfl ?_
  refine lv_istore (lv' := [(5, .int kk), (0, .ref b), (1, .ref ax), (2, .ref am), (3, .ref ao), (4, .int (nI (6 * i)))]) X.1 X.2.1 dL_law__1433 hl (by decide) rfl (fun ls hl5 => ?_)
  have hl : lv_has ls 7 [(0, .ref b), (1, .ref ax), (2, .ref am), (3, .ref ao), (4, .int (nI (6 * i)))] := lv_sub hl5 [1, 2, 3, 4, 5] rfl
  refine lv_aload_n X.1 X.2.1 dL_law__1435 rfl (lv_at hl 2 rfl) ?_
  refine pushI1 C h hS hl dL_law__1436 dL_law__1437 dL_law__1439 dL_law__1440 dL_law__1441 ?_
  refine callZ (As := [.int (xs (6 * i + 1))]) (rest := []) X (hM2 ao o') mw_9_99 mw_9_100 mw_9_101 mw_1_12 mw_9_102 dc_X12_learn ⟨by have := hrm2.1; show rm2.frames + 1 ≤ 2048; omega, by have := hrm2.2.1; show 8 + (3 + 11) + rm2.locals ≤ 84000; omega⟩ hrm2.2.2.1 hrm2.2.2.2.1 ⟨by have := hrm.2.2.2.2.1; show cells + mc + 0 ≤ 601024; omega, by have := hrm.2.2.2.2.2; show slots + ms + 0 ≤ 7293034; omega⟩ hP hD hS (List.mem_append_left _ hm2) rfl rfl hl.1 (Nat.le_of_ble_eq_true rfl) dL_law__1442 (fun v w' H locs hv hP hD hS => ?_) (fun E q ce w' H locs hx hP hD hS y1 y2 y3 => hx.elim)
  obtain ⟨w2, rfl, bb, rfl, hT2, ho⟩ := hv
  refine W.eq (g2 := F0 m 1445 ls [.int bb]) rfl ?_
  exact tailI C hn hT2 ho hP hD hS hl5 (by have := hrm.2.2.2.2.1; omega) (by have := hrm.2.2.2.2.2; omega) (by omega) dL_law__1445 dL_law__1447 dL_law__1448 dL_law__1451 dL_law__1453 dL_law__1458 dL_law__1460 dL_law__1463 dL_law__1464 dL_law__1465 dL_law__1466 dL_law__1468 dL_law__1469 dL_law__1470 dL_law__1475 (by decide)
theorem case_20 {pr : Program} {l : Launch} {e : Env} {s : State} {m : MethodId} {below : List Frame} {meth : Method} {c : Code} {dC : Nat → ClassId} {dI : Nat → Nat → Nat} {sk sv : Nat → Nat} {tc : Nat → ClassId} {b L ax am ao i : Nat} {xs : Nat → Int32} (C : CC pr l s m meth c dC dI sk sv tc b L xs) (h : 6 * i + 6 ≤ L) (hn : GO pr l e s m below meth c dC dI tc b ax am ao i (i + 1) 3264) : GO pr l e s m below meth c dC dI tc b ax am ao i i 1478 := by
  obtain ⟨X, hr, hlk, hX, hbl, hL, hst⟩ := id C
  intro w t o H locs cells slots ls hT hP hD hS hl hc hs
  refine lv_aload_n X.1 X.2.1 dL_law__1478 rfl (lv_at hl 1 rfl) ?_
  refine pushI1 C h hS hl dL_law__1479 dL_law__1480 dL_law__1482 dL_law__1483 dL_law__1484 ?_
  refine lv_aload_n X.1 X.2.1 dL_law__1485 rfl (lv_at hl 3 rfl) ?_
  obtain ⟨rm, mc, ms, hrm, hM⟩ := top_rest l hst dC dI sk sv tc ax am (xs (6 * i + 1)) hT
  obtain ⟨fs, hm⟩ := hT.mem
  refine callZS (As := [.ref ax, .int (xs (6 * i + 1)), .ref ao]) (rest := []) X (w_rest l dC dI sk sv tc ax ao o (xs (6 * i + 1)) w ⟨hrm.1, hrm.2.1, hrm.2.2.1, hrm.2.2.2.1⟩ (List.mem_append_left _ hm) (fun k w1 hk => by have h := hk.1; simpa using h) (SC.w (fun v w1 hv => hv.1) (hM ao o))) mw_6_41 mw_6_42 mw_1_0 mwc_rest dcl_rest ⟨Nat.le_of_ble_eq_true rfl, Nat.le_of_ble_eq_true rfl⟩ rfl rfl ⟨by have := hrm.2.2.2.2.1; show cells + mc ≤ 601024; omega, by have := hrm.2.2.2.2.2; show slots + ms ≤ 7293034; omega⟩ hP hD hS hl.1 (Nat.le_of_ble_eq_true rfl) dL_law__1486 (fun v w' H locs hv hP hD hS => ?_)
  obtain ⟨kk, o', w1, rfl, rfl, ⟨fs2, hm2⟩, rm2, hrm2, hM2⟩ := w_due (by decide) hv
  refine W.eq (g2 := F0 m 1489 ls [.int kk]) rfl ?_
  refine lv_istore (lv' := [(5, .int kk), (0, .ref b), (1, .ref ax), (2, .ref am), (3, .ref ao), (4, .int (nI (6 * i)))]) X.1 X.2.1 dL_law__1489 hl (by decide) rfl (fun ls hl5 => ?_)
  have hl : lv_has ls 7 [(0, .ref b), (1, .ref ax), (2, .ref am), (3, .ref ao), (4, .int (nI (6 * i)))] := lv_sub hl5 [1, 2, 3, 4, 5] rfl
  refine lv_aload_n X.1 X.2.1 dL_law__1491 rfl (lv_at hl 2 rfl) ?_
  refine pushI1 C h hS hl dL_law__1492 dL_law__1493 dL_law__1495 dL_law__1496 dL_law__1497 ?_
  refine callZ (As := [.int (xs (6 * i + 1))]) (rest := []) X (hM2 ao o') mw_9_103 mw_9_104 mw_9_105 mw_1_12 mw_9_106 dc_X12_rest ⟨by have := hrm2.1; show rm2.frames + 1 ≤ 2048; omega, by have := hrm2.2.1; show 8 + (2 + 11) + rm2.locals ≤ 84000; omega⟩ hrm2.2.2.1 hrm2.2.2.2.1 ⟨by have := hrm.2.2.2.2.1; show cells + mc + 0 ≤ 601024; omega, by have := hrm.2.2.2.2.2; show slots + ms + 0 ≤ 7293034; omega⟩ hP hD hS (List.mem_append_left _ hm2) rfl rfl hl.1 (Nat.le_of_ble_eq_true rfl) dL_law__1498 (fun v w' H locs hv hP hD hS => ?_) (fun E q ce w' H locs hx hP hD hS y1 y2 y3 => hx.elim)
  obtain ⟨w2, rfl, bb, rfl, hT2, ho⟩ := hv
  refine W.eq (g2 := F0 m 1501 ls [.int bb]) rfl ?_
  exact tailI C hn hT2 ho hP hD hS hl5 (by have := hrm.2.2.2.2.1; omega) (by have := hrm.2.2.2.2.2; omega) (by omega) dL_law__1501 dL_law__1503 dL_law__1504 dL_law__1507 dL_law__1509 dL_law__1514 dL_law__1516 dL_law__1519 dL_law__1520 dL_law__1521 dL_law__1522 dL_law__1524 dL_law__1525 dL_law__1526 dL_law__1531 (by decide)
theorem case_21 {pr : Program} {l : Launch} {e : Env} {s : State} {m : MethodId} {below : List Frame} {meth : Method} {c : Code} {dC : Nat → ClassId} {dI : Nat → Nat → Nat} {sk sv : Nat → Nat} {tc : Nat → ClassId} {b L ax am ao i : Nat} {xs : Nat → Int32} (C : CC pr l s m meth c dC dI sk sv tc b L xs) (h : 6 * i + 6 ≤ L) (hn : GO pr l e s m below meth c dC dI tc b ax am ao i (i + 1) 3264) : GO pr l e s m below meth c dC dI tc b ax am ao i i 1534 := by
  obtain ⟨X, hr, hlk, hX, hbl, hL, hst⟩ := id C
  intro w t o H locs cells slots ls hT hP hD hS hl hc hs
  refine lv_aload_n X.1 X.2.1 dL_law__1534 rfl (lv_at hl 1 rfl) ?_
  refine pushI1 C h hS hl dL_law__1535 dL_law__1536 dL_law__1538 dL_law__1539 dL_law__1540 ?_
  refine pushI2 C h hS hl dL_law__1541 dL_law__1542 dL_law__1544 dL_law__1545 dL_law__1546 ?_
  refine lv_aload_n X.1 X.2.1 dL_law__1547 rfl (lv_at hl 3 rfl) ?_
  obtain ⟨rm, mc, ms, hrm, hM⟩ := top_often l hst dC dI sk sv tc ax am (xs (6 * i + 1)) (xs (6 * i + 2)) hT
  obtain ⟨fs, hm⟩ := hT.mem
  refine callZS (As := [.ref ax, .int (xs (6 * i + 1)), .int (xs (6 * i + 2)), .ref ao]) (rest := []) X (w_often l dC dI sk sv tc ax ao o (xs (6 * i + 1)) (xs (6 * i + 2)) w ⟨hrm.1, hrm.2.1, hrm.2.2.1, hrm.2.2.2.1⟩ (List.mem_append_left _ hm) (fun k w1 hk => by have h := hk.1; simpa using h) (SC.w (fun v w1 hv => hv.1) (hM ao o))) mw_6_48 mw_6_49 mw_1_0 mwc_often dcl_often ⟨Nat.le_of_ble_eq_true rfl, Nat.le_of_ble_eq_true rfl⟩ rfl rfl ⟨by have := hrm.2.2.2.2.1; show cells + mc ≤ 601024; omega, by have := hrm.2.2.2.2.2; show slots + ms ≤ 7293034; omega⟩ hP hD hS hl.1 (Nat.le_of_ble_eq_true rfl) dL_law__1548 (fun v w' H locs hv hP hD hS => ?_)
  obtain ⟨kk, o', w1, rfl, rfl, ⟨fs2, hm2⟩, rm2, hrm2, hM2⟩ := w_due (by decide) hv
  refine W.eq (g2 := F0 m 1551 ls [.int kk]) rfl ?_
  refine lv_istore (lv' := [(5, .int kk), (0, .ref b), (1, .ref ax), (2, .ref am), (3, .ref ao), (4, .int (nI (6 * i)))]) X.1 X.2.1 dL_law__1551 hl (by decide) rfl (fun ls hl5 => ?_)
  have hl : lv_has ls 7 [(0, .ref b), (1, .ref ax), (2, .ref am), (3, .ref ao), (4, .int (nI (6 * i)))] := lv_sub hl5 [1, 2, 3, 4, 5] rfl
  refine lv_aload_n X.1 X.2.1 dL_law__1553 rfl (lv_at hl 2 rfl) ?_
  refine pushI1 C h hS hl dL_law__1554 dL_law__1555 dL_law__1557 dL_law__1558 dL_law__1559 ?_
  refine pushI2 C h hS hl dL_law__1560 dL_law__1561 dL_law__1563 dL_law__1564 dL_law__1565 ?_
  refine callZ (As := [.int (xs (6 * i + 1)), .int (xs (6 * i + 2))]) (rest := []) X (hM2 ao o') mw_9_107 mw_9_108 mw_9_109 mw_1_12 mw_9_110 dc_X12_often ⟨by have := hrm2.1; show rm2.frames + 1 ≤ 2048; omega, by have := hrm2.2.1; show 8 + (3 + 11) + rm2.locals ≤ 84000; omega⟩ hrm2.2.2.1 hrm2.2.2.2.1 ⟨by have := hrm.2.2.2.2.1; show cells + mc + 0 ≤ 601024; omega, by have := hrm.2.2.2.2.2; show slots + ms + 0 ≤ 7293034; omega⟩ hP hD hS (List.mem_append_left _ hm2) rfl rfl hl.1 (Nat.le_of_ble_eq_true rfl) dL_law__1566 (fun v w' H locs hv hP hD hS => ?_) (fun E q ce w' H locs hx hP hD hS y1 y2 y3 => hx.elim)
  obtain ⟨w2, rfl, bb, rfl, hT2, ho⟩ := hv
  refine W.eq (g2 := F0 m 1569 ls [.int bb]) rfl ?_
  exact tailI C hn hT2 ho hP hD hS hl5 (by have := hrm.2.2.2.2.1; omega) (by have := hrm.2.2.2.2.2; omega) (by omega) dL_law__1569 dL_law__1571 dL_law__1572 dL_law__1575 dL_law__1577 dL_law__1582 dL_law__1584 dL_law__1587 dL_law__1588 dL_law__1589 dL_law__1590 dL_law__1592 dL_law__1593 dL_law__1594 dL_law__1599 (by decide)
theorem case_22 {pr : Program} {l : Launch} {e : Env} {s : State} {m : MethodId} {below : List Frame} {meth : Method} {c : Code} {dC : Nat → ClassId} {dI : Nat → Nat → Nat} {sk sv : Nat → Nat} {tc : Nat → ClassId} {b L ax am ao i : Nat} {xs : Nat → Int32} (C : CC pr l s m meth c dC dI sk sv tc b L xs) (h : 6 * i + 6 ≤ L) (hn : GO pr l e s m below meth c dC dI tc b ax am ao i (i + 1) 3264) : GO pr l e s m below meth c dC dI tc b ax am ao i i 1602 := by
  obtain ⟨X, hr, hlk, hX, hbl, hL, hst⟩ := id C
  intro w t o H locs cells slots ls hT hP hD hS hl hc hs
  refine lv_aload_n X.1 X.2.1 dL_law__1602 rfl (lv_at hl 1 rfl) ?_
  refine pushI1 C h hS hl dL_law__1603 dL_law__1604 dL_law__1606 dL_law__1607 dL_law__1608 ?_
  refine lv_aload_n X.1 X.2.1 dL_law__1609 rfl (lv_at hl 3 rfl) ?_
  obtain ⟨rm, mc, ms, hrm, hM⟩ := top_tempo l hst dC dI sk sv tc ax am (xs (6 * i + 1)) hT
  obtain ⟨fs, hm⟩ := hT.mem
  refine callZS (As := [.ref ax, .int (xs (6 * i + 1)), .ref ao]) (rest := []) X (w_tempo l dC dI sk sv tc ax ao o (xs (6 * i + 1)) w ⟨hrm.1, hrm.2.1, hrm.2.2.1, hrm.2.2.2.1⟩ (List.mem_append_left _ hm) (fun k w1 hk => by have h := hk.1; simpa using h) (SC.w (fun v w1 hv => hv.1) (hM ao o))) mw_6_55 mw_6_56 mw_1_0 mwc_tempo dcl_tempo ⟨Nat.le_of_ble_eq_true rfl, Nat.le_of_ble_eq_true rfl⟩ rfl rfl ⟨by have := hrm.2.2.2.2.1; show cells + mc ≤ 601024; omega, by have := hrm.2.2.2.2.2; show slots + ms ≤ 7293034; omega⟩ hP hD hS hl.1 (Nat.le_of_ble_eq_true rfl) dL_law__1610 (fun v w' H locs hv hP hD hS => ?_)
  obtain ⟨kk, o', w1, rfl, rfl, ⟨fs2, hm2⟩, rm2, hrm2, hM2⟩ := w_due (by decide) hv
  refine W.eq (g2 := F0 m 1613 ls [.int kk]) rfl ?_
  refine lv_istore (lv' := [(5, .int kk), (0, .ref b), (1, .ref ax), (2, .ref am), (3, .ref ao), (4, .int (nI (6 * i)))]) X.1 X.2.1 dL_law__1613 hl (by decide) rfl (fun ls hl5 => ?_)
  have hl : lv_has ls 7 [(0, .ref b), (1, .ref ax), (2, .ref am), (3, .ref ao), (4, .int (nI (6 * i)))] := lv_sub hl5 [1, 2, 3, 4, 5] rfl
  refine lv_aload_n X.1 X.2.1 dL_law__1615 rfl (lv_at hl 2 rfl) ?_
  refine pushI1 C h hS hl dL_law__1616 dL_law__1617 dL_law__1619 dL_law__1620 dL_law__1621 ?_
  refine callZ (As := [.int (xs (6 * i + 1))]) (rest := []) X (hM2 ao o') mw_9_111 mw_9_112 mw_9_113 mw_1_12 mw_9_114 dc_X12_tempo ⟨by have := hrm2.1; show rm2.frames + 1 ≤ 2048; omega, by have := hrm2.2.1; show 8 + (2 + 11) + rm2.locals ≤ 84000; omega⟩ hrm2.2.2.1 hrm2.2.2.2.1 ⟨by have := hrm.2.2.2.2.1; show cells + mc + 0 ≤ 601024; omega, by have := hrm.2.2.2.2.2; show slots + ms + 0 ≤ 7293034; omega⟩ hP hD hS (List.mem_append_left _ hm2) rfl rfl hl.1 (Nat.le_of_ble_eq_true rfl) dL_law__1622 (fun v w' H locs hv hP hD hS => ?_) (fun E q ce w' H locs hx hP hD hS y1 y2 y3 => hx.elim)
  obtain ⟨w2, rfl, bb, rfl, hT2, ho⟩ := hv
  refine W.eq (g2 := F0 m 1625 ls [.int bb]) rfl ?_
  exact tailI C hn hT2 ho hP hD hS hl5 (by have := hrm.2.2.2.2.1; omega) (by have := hrm.2.2.2.2.2; omega) (by omega) dL_law__1625 dL_law__1627 dL_law__1628 dL_law__1631 dL_law__1633 dL_law__1638 dL_law__1640 dL_law__1643 dL_law__1644 dL_law__1645 dL_law__1646 dL_law__1648 dL_law__1649 dL_law__1650 dL_law__1655 (by decide)
theorem case_23 {pr : Program} {l : Launch} {e : Env} {s : State} {m : MethodId} {below : List Frame} {meth : Method} {c : Code} {dC : Nat → ClassId} {dI : Nat → Nat → Nat} {sk sv : Nat → Nat} {tc : Nat → ClassId} {b L ax am ao i : Nat} {xs : Nat → Int32} (C : CC pr l s m meth c dC dI sk sv tc b L xs) (h : 6 * i + 6 ≤ L) (hn : GO pr l e s m below meth c dC dI tc b ax am ao i (i + 1) 3264) : GO pr l e s m below meth c dC dI tc b ax am ao i i 1658 := by
  obtain ⟨X, hr, hlk, hX, hbl, hL, hst⟩ := id C
  intro w t o H locs cells slots ls hT hP hD hS hl hc hs
  refine lv_aload_n X.1 X.2.1 dL_law__1658 rfl (lv_at hl 1 rfl) ?_
  refine pushI1 C h hS hl dL_law__1659 dL_law__1660 dL_law__1662 dL_law__1663 dL_law__1664 ?_
  refine pushI2 C h hS hl dL_law__1665 dL_law__1666 dL_law__1668 dL_law__1669 dL_law__1670 ?_
  refine lv_aload_n X.1 X.2.1 dL_law__1671 rfl (lv_at hl 3 rfl) ?_
  obtain ⟨rm, mc, ms, hrm, hM⟩ := top_speed l hst dC dI sk sv tc ax am (xs (6 * i + 1)) (xs (6 * i + 2)) hT
  obtain ⟨fs, hm⟩ := hT.mem
  refine callZS (As := [.ref ax, .int (xs (6 * i + 1)), .int (xs (6 * i + 2)), .ref ao]) (rest := []) X (w_speed l dC dI sk sv tc ax ao o (xs (6 * i + 1)) (xs (6 * i + 2)) w ⟨hrm.1, hrm.2.1, hrm.2.2.1, hrm.2.2.2.1⟩ (List.mem_append_left _ hm) (fun k w1 hk => by have h := hk.1; simpa using h) (SC.w (fun v w1 hv => hv.1) (hM ao o))) mw_6_62 mw_6_63 mw_1_0 mwc_speed dcl_speed ⟨Nat.le_of_ble_eq_true rfl, Nat.le_of_ble_eq_true rfl⟩ rfl rfl ⟨by have := hrm.2.2.2.2.1; show cells + mc ≤ 601024; omega, by have := hrm.2.2.2.2.2; show slots + ms ≤ 7293034; omega⟩ hP hD hS hl.1 (Nat.le_of_ble_eq_true rfl) dL_law__1672 (fun v w' H locs hv hP hD hS => ?_)
  obtain ⟨kk, o', w1, rfl, rfl, ⟨fs2, hm2⟩, rm2, hrm2, hM2⟩ := w_due (by decide) hv
  refine W.eq (g2 := F0 m 1675 ls [.int kk]) rfl ?_
  refine lv_istore (lv' := [(5, .int kk), (0, .ref b), (1, .ref ax), (2, .ref am), (3, .ref ao), (4, .int (nI (6 * i)))]) X.1 X.2.1 dL_law__1675 hl (by decide) rfl (fun ls hl5 => ?_)
  have hl : lv_has ls 7 [(0, .ref b), (1, .ref ax), (2, .ref am), (3, .ref ao), (4, .int (nI (6 * i)))] := lv_sub hl5 [1, 2, 3, 4, 5] rfl
  refine lv_aload_n X.1 X.2.1 dL_law__1677 rfl (lv_at hl 2 rfl) ?_
  refine pushI1 C h hS hl dL_law__1678 dL_law__1679 dL_law__1681 dL_law__1682 dL_law__1683 ?_
  refine pushI2 C h hS hl dL_law__1684 dL_law__1685 dL_law__1687 dL_law__1688 dL_law__1689 ?_
  refine callZ (As := [.int (xs (6 * i + 1)), .int (xs (6 * i + 2))]) (rest := []) X (hM2 ao o') mw_9_115 mw_9_116 mw_9_117 mw_1_12 mw_9_118 dc_X12_speed ⟨by have := hrm2.1; show rm2.frames + 1 ≤ 2048; omega, by have := hrm2.2.1; show 8 + (3 + 11) + rm2.locals ≤ 84000; omega⟩ hrm2.2.2.1 hrm2.2.2.2.1 ⟨by have := hrm.2.2.2.2.1; show cells + mc + 0 ≤ 601024; omega, by have := hrm.2.2.2.2.2; show slots + ms + 0 ≤ 7293034; omega⟩ hP hD hS (List.mem_append_left _ hm2) rfl rfl hl.1 (Nat.le_of_ble_eq_true rfl) dL_law__1690 (fun v w' H locs hv hP hD hS => ?_) (fun E q ce w' H locs hx hP hD hS y1 y2 y3 => hx.elim)
  obtain ⟨w2, rfl, bb, rfl, hT2, ho⟩ := hv
  refine W.eq (g2 := F0 m 1693 ls [.int bb]) rfl ?_
  exact tailI C hn hT2 ho hP hD hS hl5 (by have := hrm.2.2.2.2.1; omega) (by have := hrm.2.2.2.2.2; omega) (by omega) dL_law__1693 dL_law__1695 dL_law__1696 dL_law__1699 dL_law__1701 dL_law__1706 dL_law__1708 dL_law__1711 dL_law__1712 dL_law__1713 dL_law__1714 dL_law__1716 dL_law__1717 dL_law__1718 dL_law__1723 (by decide)
theorem case_24 {pr : Program} {l : Launch} {e : Env} {s : State} {m : MethodId} {below : List Frame} {meth : Method} {c : Code} {dC : Nat → ClassId} {dI : Nat → Nat → Nat} {sk sv : Nat → Nat} {tc : Nat → ClassId} {b L ax am ao i : Nat} {xs : Nat → Int32} (C : CC pr l s m meth c dC dI sk sv tc b L xs) (h : 6 * i + 6 ≤ L) (hn : GO pr l e s m below meth c dC dI tc b ax am ao i (i + 1) 3264) : GO pr l e s m below meth c dC dI tc b ax am ao i i 1726 := by
  obtain ⟨X, hr, hlk, hX, hbl, hL, hst⟩ := id C
  intro w t o H locs cells slots ls hT hP hD hS hl hc hs
  refine lv_aload_n X.1 X.2.1 dL_law__1726 rfl (lv_at hl 1 rfl) ?_
  obtain ⟨rm, mc, ms, hrm, hM⟩ := top_keep l hst dC dI sk sv tc ax am hT
  obtain ⟨fs, hm⟩ := hT.mem
  refine callZ (As := []) (rest := []) X (hM ao o) mw_2_209 mw_2_210 mw_2_211 mw_1_1 mw_2_212 dc_X11_keep ⟨by have := hrm.1; show rm.frames + 1 ≤ 2048; omega, by have := hrm.2.1; show 8 + (4 + 11) + rm.locals ≤ 84000; omega⟩ hrm.2.2.1 hrm.2.2.2.1 ⟨by have := hrm.2.2.2.2.1; show cells + mc ≤ 601024; omega, by have := hrm.2.2.2.2.2; show slots + ms ≤ 7293034; omega⟩ hP hD hS (List.mem_append_left _ hm) rfl rfl hl.1 (Nat.le_of_ble_eq_true rfl) dL_law__1727 (fun v w' H locs hv hP hD hS => ?_) (fun E q ce w' H locs hx hP hD hS y1 y2 y3 => by obtain ⟨_, _, _, _, hx⟩ := hx; exact hx.elim)
  obtain ⟨w1, rfl, ⟨r, rfl⟩, ⟨fs2, hm2⟩, rm2, hrm2, hM2⟩ := hv
  refine W.eq (g2 := F0 m 1730 ls [.int r]) rfl ?_
  refine lv_aload_n X.1 X.2.1 dL_law__1730 rfl (lv_at hl 2 rfl) ?_
  refine callZ (As := []) (rest := [.int r]) X (hM2 ao o) mw_9_119 mw_9_120 mw_9_121 mw_1_12 mw_9_122 dc_X12_keep ⟨by have := hrm2.1; show rm2.frames + 1 ≤ 2048; omega, by have := hrm2.2.1; show 8 + (3 + 11) + rm2.locals ≤ 84000; omega⟩ hrm2.2.2.1 hrm2.2.2.2.1 ⟨by have := hrm.2.2.2.2.1; show cells + mc + 0 ≤ 601024; omega, by have := hrm.2.2.2.2.2; show slots + ms + 0 ≤ 7293034; omega⟩ hP hD hS (List.mem_append_left _ hm2) rfl rfl hl.1 (Nat.le_of_ble_eq_true rfl) dL_law__1731 (fun v w' H locs hv hP hD hS => ?_) (fun E q ce w' H locs hx hP hD hS y1 y2 y3 => hx.elim)
  obtain ⟨w2, rfl, rfl, t2, hT2⟩ := hv
  refine W.eq (g2 := F0 m 1734 ls [.int r, .int r]) rfl ?_
  refine lv_icmp_eq (tgt := 3264) X.1 X.2.1 dL_law__1734 (by decide) (fun _ => ?_) (fun z => absurd rfl z)
  exact hn w2 t2 o H locs _ _ ls hT2 hP hD hS hl (by have := hrm.2.2.2.2.1; omega) (by have := hrm.2.2.2.2.2; omega)
theorem case_25 {pr : Program} {l : Launch} {e : Env} {s : State} {m : MethodId} {below : List Frame} {meth : Method} {c : Code} {dC : Nat → ClassId} {dI : Nat → Nat → Nat} {sk sv : Nat → Nat} {tc : Nat → ClassId} {b L ax am ao i : Nat} {xs : Nat → Int32} (C : CC pr l s m meth c dC dI sk sv tc b L xs) (h : 6 * i + 6 ≤ L) (hn : GO pr l e s m below meth c dC dI tc b ax am ao i (i + 1) 3264) : GO pr l e s m below meth c dC dI tc b ax am ao i i 1739 := by
  obtain ⟨X, hr, hlk, hX, hbl, hL, hst⟩ := id C
  intro w t o H locs cells slots ls hT hP hD hS hl hc hs
  refine lv_aload_n X.1 X.2.1 dL_law__1739 rfl (lv_at hl 1 rfl) ?_
  refine pushI1 C h hS hl dL_law__1740 dL_law__1741 dL_law__1743 dL_law__1744 dL_law__1745 ?_
  refine pushI2 C h hS hl dL_law__1746 dL_law__1747 dL_law__1749 dL_law__1750 dL_law__1751 ?_
  refine pushZ (K := 0) C dL_law__1752 dL_law__1755 dL_law__1756 dL_law__1759 ?_
  refine lv_aload_n X.1 X.2.1 dL_law__1760 rfl (lv_at hl 3 rfl) ?_
  obtain ⟨rm, mc, ms, hrm, hM⟩ := top_leaves l hst dC dI sk sv tc ax am (xs (6 * i + 1)) (bz (xs (6 * i + 2))) hT
  obtain ⟨fs, hm⟩ := hT.mem
  refine callZS (As := [.ref ax, .int (xs (6 * i + 1)), .int (bz (xs (6 * i + 2))), .ref ao]) (rest := []) X (w_leaves l dC dI sk sv tc ax ao o (xs (6 * i + 1)) (bz (xs (6 * i + 2))) w ⟨hrm.1, hrm.2.1, hrm.2.2.1, hrm.2.2.2.1⟩ (List.mem_append_left _ hm) (fun k w1 hk => by have h := hk.1; simpa using h) (SC.w (fun v w1 hv => hv.1) (hM ao o))) mw_6_69 mw_6_70 mw_1_0 mwc_leaves dcl_leaves ⟨Nat.le_of_ble_eq_true rfl, Nat.le_of_ble_eq_true rfl⟩ rfl rfl ⟨by have := hrm.2.2.2.2.1; show cells + mc ≤ 601024; omega, by have := hrm.2.2.2.2.2; show slots + ms ≤ 7293034; omega⟩ hP hD hS hl.1 (Nat.le_of_ble_eq_true rfl) dL_law__1761 (fun v w' H locs hv hP hD hS => ?_)
  obtain ⟨kk, o', w1, rfl, rfl, ⟨fs2, hm2⟩, rm2, hrm2, hM2⟩ := w_due (by decide) hv
  refine W.eq (g2 := F0 m 1764 ls [.int kk]) rfl ?_
  refine lv_istore (lv' := [(5, .int kk), (0, .ref b), (1, .ref ax), (2, .ref am), (3, .ref ao), (4, .int (nI (6 * i)))]) X.1 X.2.1 dL_law__1764 hl (by decide) rfl (fun ls hl5 => ?_)
  have hl : lv_has ls 7 [(0, .ref b), (1, .ref ax), (2, .ref am), (3, .ref ao), (4, .int (nI (6 * i)))] := lv_sub hl5 [1, 2, 3, 4, 5] rfl
  refine lv_aload_n X.1 X.2.1 dL_law__1766 rfl (lv_at hl 2 rfl) ?_
  refine pushI1 C h hS hl dL_law__1767 dL_law__1768 dL_law__1770 dL_law__1771 dL_law__1772 ?_
  refine pushI2 C h hS hl dL_law__1773 dL_law__1774 dL_law__1776 dL_law__1777 dL_law__1778 ?_
  refine pushZ (K := 0) C dL_law__1779 dL_law__1782 dL_law__1783 dL_law__1786 ?_
  refine callZ (As := [.int (xs (6 * i + 1)), .int (bz (xs (6 * i + 2)))]) (rest := []) X (hM2 ao o') mw_9_130 mw_9_131 mw_9_132 mw_1_12 mw_9_133 dc_X12_leaves ⟨by have := hrm2.1; show rm2.frames + 1 ≤ 2048; omega, by have := hrm2.2.1; show 8 + (7 + 11) + rm2.locals ≤ 84000; omega⟩ hrm2.2.2.1 hrm2.2.2.2.1 ⟨by have := hrm.2.2.2.2.1; show cells + mc + 0 ≤ 601024; omega, by have := hrm.2.2.2.2.2; show slots + ms + 0 ≤ 7293034; omega⟩ hP hD hS (List.mem_append_left _ hm2) rfl rfl hl.1 (Nat.le_of_ble_eq_true rfl) dL_law__1787 (fun v w' H locs hv hP hD hS => ?_) (fun E q ce w' H locs hx hP hD hS y1 y2 y3 => hx.elim)
  obtain ⟨w2, rfl, bb, rfl, hT2, ho⟩ := hv
  refine W.eq (g2 := F0 m 1790 ls [.int bb]) rfl ?_
  exact tailI C hn hT2 ho hP hD hS hl5 (by have := hrm.2.2.2.2.1; omega) (by have := hrm.2.2.2.2.2; omega) (by omega) dL_law__1790 dL_law__1792 dL_law__1793 dL_law__1796 dL_law__1798 dL_law__1803 dL_law__1805 dL_law__1808 dL_law__1809 dL_law__1810 dL_law__1811 dL_law__1813 dL_law__1814 dL_law__1815 dL_law__1820 (by decide)
theorem case_26 {pr : Program} {l : Launch} {e : Env} {s : State} {m : MethodId} {below : List Frame} {meth : Method} {c : Code} {dC : Nat → ClassId} {dI : Nat → Nat → Nat} {sk sv : Nat → Nat} {tc : Nat → ClassId} {b L ax am ao i : Nat} {xs : Nat → Int32} (C : CC pr l s m meth c dC dI sk sv tc b L xs) (h : 6 * i + 6 ≤ L) (hn : GO pr l e s m below meth c dC dI tc b ax am ao i (i + 1) 3264) : GO pr l e s m below meth c dC dI tc b ax am ao i i 1823 := by
  obtain ⟨X, hr, hlk, hX, hbl, hL, hst⟩ := id C
  intro w t o H locs cells slots ls hT hP hD hS hl hc hs
  refine lv_aload_n X.1 X.2.1 dL_law__1823 rfl (lv_at hl 1 rfl) ?_
  obtain ⟨rm, mc, ms, hrm, hM⟩ := top_codes l hst dC dI sk sv tc ax am hT
  obtain ⟨fs, hm⟩ := hT.mem
  refine callZ (As := []) (rest := []) X (hM ao o) mw_2_231 mw_2_232 mw_2_233 mw_1_1 mw_2_234 dc_X11_codes ⟨by have := hrm.1; show rm.frames + 1 ≤ 2048; omega, by have := hrm.2.1; show 8 + (1 + 11) + rm.locals ≤ 84000; omega⟩ hrm.2.2.1 hrm.2.2.2.1 ⟨by have := hrm.2.2.2.2.1; show cells + mc ≤ 601024; omega, by have := hrm.2.2.2.2.2; show slots + ms ≤ 7293034; omega⟩ hP hD hS (List.mem_append_left _ hm) rfl rfl hl.1 (Nat.le_of_ble_eq_true rfl) dL_law__1824 (fun v w' H locs hv hP hD hS => ?_) (fun E q ce w' H locs hx hP hD hS y1 y2 y3 => by obtain ⟨_, _, _, _, hx⟩ := hx; exact hx.elim)
  obtain ⟨w1, rfl, ⟨r, rfl⟩, ⟨fs2, hm2⟩, rm2, hrm2, hM2⟩ := hv
  refine W.eq (g2 := F0 m 1827 ls [.int r]) rfl ?_
  refine lv_aload_n X.1 X.2.1 dL_law__1827 rfl (lv_at hl 2 rfl) ?_
  refine callZ (As := []) (rest := [.int r]) X (hM2 ao o) mw_9_134 mw_9_135 mw_9_136 mw_1_12 mw_9_137 dc_X12_codes ⟨by have := hrm2.1; show rm2.frames + 1 ≤ 2048; omega, by have := hrm2.2.1; show 8 + (1 + 11) + rm2.locals ≤ 84000; omega⟩ hrm2.2.2.1 hrm2.2.2.2.1 ⟨by have := hrm.2.2.2.2.1; show cells + mc + 0 ≤ 601024; omega, by have := hrm.2.2.2.2.2; show slots + ms + 0 ≤ 7293034; omega⟩ hP hD hS (List.mem_append_left _ hm2) rfl rfl hl.1 (Nat.le_of_ble_eq_true rfl) dL_law__1828 (fun v w' H locs hv hP hD hS => ?_) (fun E q ce w' H locs hx hP hD hS y1 y2 y3 => hx.elim)
  obtain ⟨w2, rfl, rfl, t2, hT2⟩ := hv
  refine W.eq (g2 := F0 m 1831 ls [.int r, .int r]) rfl ?_
  refine lv_icmp_eq (tgt := 3264) X.1 X.2.1 dL_law__1831 (by decide) (fun _ => ?_) (fun z => absurd rfl z)
  exact hn w2 t2 o H locs _ _ ls hT2 hP hD hS hl (by have := hrm.2.2.2.2.1; omega) (by have := hrm.2.2.2.2.2; omega)
theorem case_27 {pr : Program} {l : Launch} {e : Env} {s : State} {m : MethodId} {below : List Frame} {meth : Method} {c : Code} {dC : Nat → ClassId} {dI : Nat → Nat → Nat} {sk sv : Nat → Nat} {tc : Nat → ClassId} {b L ax am ao i : Nat} {xs : Nat → Int32} (C : CC pr l s m meth c dC dI sk sv tc b L xs) (h : 6 * i + 6 ≤ L) (hn : GO pr l e s m below meth c dC dI tc b ax am ao i (i + 1) 3264) : GO pr l e s m below meth c dC dI tc b ax am ao i i 1836 := by
  obtain ⟨X, hr, hlk, hX, hbl, hL, hst⟩ := id C
  intro w t o H locs cells slots ls hT hP hD hS hl hc hs
  refine lv_aload_n X.1 X.2.1 dL_law__1836 rfl (lv_at hl 1 rfl) ?_
  refine lv_aload_n X.1 X.2.1 dL_law__1837 rfl (lv_at hl 3 rfl) ?_
  obtain ⟨rm, mc, ms, hrm, hM⟩ := top_heard l hst dC dI sk sv tc ax am hT
  obtain ⟨fs, hm⟩ := hT.mem
  refine callZS (As := [.ref ax, .ref ao]) (rest := []) X (w_heard l dC dI sk sv tc ax ao o w ⟨hrm.1, hrm.2.1, hrm.2.2.1, hrm.2.2.2.1⟩ (List.mem_append_left _ hm) (fun k w1 hk => by have h := hk.1; simpa using h) (SC.w (fun v w1 hv => hv.1) (hM ao o))) mw_6_76 mw_6_77 mw_1_0 mwc_heard dcl_heard ⟨Nat.le_of_ble_eq_true rfl, Nat.le_of_ble_eq_true rfl⟩ rfl rfl ⟨by have := hrm.2.2.2.2.1; show cells + mc ≤ 601024; omega, by have := hrm.2.2.2.2.2; show slots + ms ≤ 7293034; omega⟩ hP hD hS hl.1 (Nat.le_of_ble_eq_true rfl) dL_law__1838 (fun v w' H locs hv hP hD hS => ?_)
  obtain ⟨kk, o', w1, rfl, rfl, ⟨fs2, hm2⟩, rm2, hrm2, hM2⟩ := w_due (by decide) hv
  refine W.eq (g2 := F0 m 1841 ls [.int kk]) rfl ?_
  refine lv_istore (lv' := [(5, .int kk), (0, .ref b), (1, .ref ax), (2, .ref am), (3, .ref ao), (4, .int (nI (6 * i)))]) X.1 X.2.1 dL_law__1841 hl (by decide) rfl (fun ls hl5 => ?_)
  have hl : lv_has ls 7 [(0, .ref b), (1, .ref ax), (2, .ref am), (3, .ref ao), (4, .int (nI (6 * i)))] := lv_sub hl5 [1, 2, 3, 4, 5] rfl
  refine lv_aload_n X.1 X.2.1 dL_law__1843 rfl (lv_at hl 2 rfl) ?_
  refine callZ (As := []) (rest := []) X (hM2 ao o') mw_9_138 mw_9_139 mw_9_140 mw_1_12 mw_9_141 dc_X12_heard ⟨by have := hrm2.1; show rm2.frames + 1 ≤ 2048; omega, by have := hrm2.2.1; show 8 + (2 + 11) + rm2.locals ≤ 84000; omega⟩ hrm2.2.2.1 hrm2.2.2.2.1 ⟨by have := hrm.2.2.2.2.1; show cells + mc + 0 ≤ 601024; omega, by have := hrm.2.2.2.2.2; show slots + ms + 0 ≤ 7293034; omega⟩ hP hD hS (List.mem_append_left _ hm2) rfl rfl hl.1 (Nat.le_of_ble_eq_true rfl) dL_law__1844 (fun v w' H locs hv hP hD hS => ?_) (fun E q ce w' H locs hx hP hD hS y1 y2 y3 => hx.elim)
  obtain ⟨w2, rfl, bb, rfl, hT2, ho⟩ := hv
  refine W.eq (g2 := F0 m 1847 ls [.int bb]) rfl ?_
  exact tailI C hn hT2 ho hP hD hS hl5 (by have := hrm.2.2.2.2.1; omega) (by have := hrm.2.2.2.2.2; omega) (by omega) dL_law__1847 dL_law__1849 dL_law__1850 dL_law__1853 dL_law__1855 dL_law__1860 dL_law__1862 dL_law__1865 dL_law__1866 dL_law__1867 dL_law__1868 dL_law__1870 dL_law__1871 dL_law__1872 dL_law__1877 (by decide)
theorem case_28 {pr : Program} {l : Launch} {e : Env} {s : State} {m : MethodId} {below : List Frame} {meth : Method} {c : Code} {dC : Nat → ClassId} {dI : Nat → Nat → Nat} {sk sv : Nat → Nat} {tc : Nat → ClassId} {b L ax am ao i : Nat} {xs : Nat → Int32} (C : CC pr l s m meth c dC dI sk sv tc b L xs) (h : 6 * i + 6 ≤ L) (hn : GO pr l e s m below meth c dC dI tc b ax am ao i (i + 1) 3264) : GO pr l e s m below meth c dC dI tc b ax am ao i i 1880 := by
  obtain ⟨X, hr, hlk, hX, hbl, hL, hst⟩ := id C
  intro w t o H locs cells slots ls hT hP hD hS hl hc hs
  refine lv_aload_n X.1 X.2.1 dL_law__1880 rfl (lv_at hl 1 rfl) ?_
  refine lv_aload_n X.1 X.2.1 dL_law__1881 rfl (lv_at hl 3 rfl) ?_
  obtain ⟨rm, mc, ms, hrm, hM⟩ := top_likely l hst dC dI sk sv tc ax am hT
  obtain ⟨fs, hm⟩ := hT.mem
  refine callZS (As := [.ref ax, .ref ao]) (rest := []) X (w_likely l dC dI sk sv tc ax ao o w ⟨hrm.1, hrm.2.1, hrm.2.2.1, hrm.2.2.2.1⟩ (List.mem_append_left _ hm) (fun k w1 hk => by have h := hk.1; simpa using h) (SC.w (fun v w1 hv => hv.1) (hM ao o))) mw_6_113 mw_6_114 mw_1_0 mwc_likely dcl_likely ⟨Nat.le_of_ble_eq_true rfl, Nat.le_of_ble_eq_true rfl⟩ rfl rfl ⟨by have := hrm.2.2.2.2.1; show cells + mc ≤ 601024; omega, by have := hrm.2.2.2.2.2; show slots + ms ≤ 7293034; omega⟩ hP hD hS hl.1 (Nat.le_of_ble_eq_true rfl) dL_law__1882 (fun v w' H locs hv hP hD hS => ?_)
  obtain ⟨kk, o', w1, rfl, rfl, ⟨fs2, hm2⟩, rm2, hrm2, hM2⟩ := w_due (by decide) hv
  refine W.eq (g2 := F0 m 1885 ls [.int kk]) rfl ?_
  refine lv_istore (lv' := [(5, .int kk), (0, .ref b), (1, .ref ax), (2, .ref am), (3, .ref ao), (4, .int (nI (6 * i)))]) X.1 X.2.1 dL_law__1885 hl (by decide) rfl (fun ls hl5 => ?_)
  have hl : lv_has ls 7 [(0, .ref b), (1, .ref ax), (2, .ref am), (3, .ref ao), (4, .int (nI (6 * i)))] := lv_sub hl5 [1, 2, 3, 4, 5] rfl
  refine lv_aload_n X.1 X.2.1 dL_law__1887 rfl (lv_at hl 2 rfl) ?_
  refine callZ (As := []) (rest := []) X (hM2 ao o') mw_9_146 mw_9_147 mw_9_148 mw_1_12 mw_9_149 dc_X12_likely ⟨by have := hrm2.1; show rm2.frames + 1 ≤ 2048; omega, by have := hrm2.2.1; show 8 + (5 + 11) + rm2.locals ≤ 84000; omega⟩ hrm2.2.2.1 hrm2.2.2.2.1 ⟨by have := hrm.2.2.2.2.1; show cells + mc + 0 ≤ 601024; omega, by have := hrm.2.2.2.2.2; show slots + ms + 0 ≤ 7293034; omega⟩ hP hD hS (List.mem_append_left _ hm2) rfl rfl hl.1 (Nat.le_of_ble_eq_true rfl) dL_law__1888 (fun v w' H locs hv hP hD hS => ?_) (fun E q ce w' H locs hx hP hD hS y1 y2 y3 => hx.elim)
  obtain ⟨w2, rfl, bb, rfl, hT2, ho⟩ := hv
  refine W.eq (g2 := F0 m 1891 ls [.int bb]) rfl ?_
  exact tailI C hn hT2 ho hP hD hS hl5 (by have := hrm.2.2.2.2.1; omega) (by have := hrm.2.2.2.2.2; omega) (by omega) dL_law__1891 dL_law__1893 dL_law__1894 dL_law__1897 dL_law__1899 dL_law__1904 dL_law__1906 dL_law__1909 dL_law__1910 dL_law__1911 dL_law__1912 dL_law__1914 dL_law__1915 dL_law__1916 dL_law__1921 (by decide)
theorem case_29 {pr : Program} {l : Launch} {e : Env} {s : State} {m : MethodId} {below : List Frame} {meth : Method} {c : Code} {dC : Nat → ClassId} {dI : Nat → Nat → Nat} {sk sv : Nat → Nat} {tc : Nat → ClassId} {b L ax am ao i : Nat} {xs : Nat → Int32} (C : CC pr l s m meth c dC dI sk sv tc b L xs) (h : 6 * i + 6 ≤ L) (hn : GO pr l e s m below meth c dC dI tc b ax am ao i (i + 1) 3264) : GO pr l e s m below meth c dC dI tc b ax am ao i i 1924 := by
  obtain ⟨X, hr, hlk, hX, hbl, hL, hst⟩ := id C
  intro w t o H locs cells slots ls hT hP hD hS hl hc hs
  refine lv_aload_n X.1 X.2.1 dL_law__1924 rfl (lv_at hl 1 rfl) ?_
  refine lv_aload_n X.1 X.2.1 dL_law__1925 rfl (lv_at hl 3 rfl) ?_
  obtain ⟨rm, mc, ms, hrm, hM⟩ := top_look l hst dC dI sk sv tc ax am hT
  obtain ⟨fs, hm⟩ := hT.mem
  refine callZS (As := [.ref ax, .ref ao]) (rest := []) X (w_look l dC dI sk sv tc ax ao o w ⟨hrm.1, hrm.2.1, hrm.2.2.1, hrm.2.2.2.1⟩ (List.mem_append_left _ hm) (fun k w1 hk => by have h := hk.1; simpa using h) (SC.w (fun v w1 hv => hv.1) (hM ao o))) mw_6_124 mw_6_125 mw_1_0 mwc_look dcl_look ⟨Nat.le_of_ble_eq_true rfl, Nat.le_of_ble_eq_true rfl⟩ rfl rfl ⟨by have := hrm.2.2.2.2.1; show cells + mc ≤ 601024; omega, by have := hrm.2.2.2.2.2; show slots + ms ≤ 7293034; omega⟩ hP hD hS hl.1 (Nat.le_of_ble_eq_true rfl) dL_law__1926 (fun v w' H locs hv hP hD hS => ?_)
  obtain ⟨kk, o', w1, rfl, rfl, ⟨fs2, hm2⟩, rm2, hrm2, hM2⟩ := w_due (by decide) hv
  refine W.eq (g2 := F0 m 1929 ls [.int kk]) rfl ?_
  refine lv_istore (lv' := [(5, .int kk), (0, .ref b), (1, .ref ax), (2, .ref am), (3, .ref ao), (4, .int (nI (6 * i)))]) X.1 X.2.1 dL_law__1929 hl (by decide) rfl (fun ls hl5 => ?_)
  have hl : lv_has ls 7 [(0, .ref b), (1, .ref ax), (2, .ref am), (3, .ref ao), (4, .int (nI (6 * i)))] := lv_sub hl5 [1, 2, 3, 4, 5] rfl
  refine lv_aload_n X.1 X.2.1 dL_law__1931 rfl (lv_at hl 2 rfl) ?_
  refine callZ (As := []) (rest := []) X (hM2 ao o') mw_9_150 mw_9_151 mw_9_152 mw_1_12 mw_9_153 dc_X12_look ⟨by have := hrm2.1; show rm2.frames + 1 ≤ 2048; omega, by have := hrm2.2.1; show 8 + (8 + 11) + rm2.locals ≤ 84000; omega⟩ hrm2.2.2.1 hrm2.2.2.2.1 ⟨by have := hrm.2.2.2.2.1; show cells + mc + 0 ≤ 601024; omega, by have := hrm.2.2.2.2.2; show slots + ms + 0 ≤ 7293034; omega⟩ hP hD hS (List.mem_append_left _ hm2) rfl rfl hl.1 (Nat.le_of_ble_eq_true rfl) dL_law__1932 (fun v w' H locs hv hP hD hS => ?_) (fun E q ce w' H locs hx hP hD hS y1 y2 y3 => hx.elim)
  obtain ⟨w2, rfl, bb, rfl, hT2, ho⟩ := hv
  refine W.eq (g2 := F0 m 1935 ls [.int bb]) rfl ?_
  exact tailI C hn hT2 ho hP hD hS hl5 (by have := hrm.2.2.2.2.1; omega) (by have := hrm.2.2.2.2.2; omega) (by omega) dL_law__1935 dL_law__1937 dL_law__1938 dL_law__1941 dL_law__1943 dL_law__1948 dL_law__1950 dL_law__1953 dL_law__1954 dL_law__1955 dL_law__1956 dL_law__1958 dL_law__1959 dL_law__1960 dL_law__1965 (by decide)
theorem case_30 {pr : Program} {l : Launch} {e : Env} {s : State} {m : MethodId} {below : List Frame} {meth : Method} {c : Code} {dC : Nat → ClassId} {dI : Nat → Nat → Nat} {sk sv : Nat → Nat} {tc : Nat → ClassId} {b L ax am ao i : Nat} {xs : Nat → Int32} (C : CC pr l s m meth c dC dI sk sv tc b L xs) (h : 6 * i + 6 ≤ L) (hn : GO pr l e s m below meth c dC dI tc b ax am ao i (i + 1) 3264) : GO pr l e s m below meth c dC dI tc b ax am ao i i 1968 := by
  obtain ⟨X, hr, hlk, hX, hbl, hL, hst⟩ := id C
  intro w t o H locs cells slots ls hT hP hD hS hl hc hs
  refine lv_aload_n X.1 X.2.1 dL_law__1968 rfl (lv_at hl 1 rfl) ?_
  refine pushI1 C h hS hl dL_law__1969 dL_law__1970 dL_law__1972 dL_law__1973 dL_law__1974 ?_
  refine pushZ (K := 0) C dL_law__1975 dL_law__1978 dL_law__1979 dL_law__1982 ?_
  refine lv_aload_n X.1 X.2.1 dL_law__1983 rfl (lv_at hl 3 rfl) ?_
  obtain ⟨rm, mc, ms, hrm, hM⟩ := top_hand l hst dC dI sk sv tc ax am (bz (xs (6 * i + 1))) hT
  obtain ⟨fs, hm⟩ := hT.mem
  refine callZS (As := [.ref ax, .int (bz (xs (6 * i + 1))), .ref ao]) (rest := []) X (w_hand l dC dI sk sv tc ax ao o (bz (xs (6 * i + 1))) w ⟨hrm.1, hrm.2.1, hrm.2.2.1, hrm.2.2.2.1⟩ (List.mem_append_left _ hm) (fun k w1 hk => by have h := hk.1; simpa using h) (SC.w (fun v w1 hv => hv.1) (hM ao o))) mw_6_145 mw_6_146 mw_1_0 mwc_hand dcl_hand ⟨Nat.le_of_ble_eq_true rfl, Nat.le_of_ble_eq_true rfl⟩ rfl rfl ⟨by have := hrm.2.2.2.2.1; show cells + mc ≤ 601024; omega, by have := hrm.2.2.2.2.2; show slots + ms ≤ 7293034; omega⟩ hP hD hS hl.1 (Nat.le_of_ble_eq_true rfl) dL_law__1984 (fun v w' H locs hv hP hD hS => ?_)
  obtain ⟨kk, o', w1, rfl, rfl, ⟨fs2, hm2⟩, rm2, hrm2, hM2⟩ := w_due (by decide) hv
  refine W.eq (g2 := F0 m 1987 ls [.int kk]) rfl ?_
  refine lv_istore (lv' := [(5, .int kk), (0, .ref b), (1, .ref ax), (2, .ref am), (3, .ref ao), (4, .int (nI (6 * i)))]) X.1 X.2.1 dL_law__1987 hl (by decide) rfl (fun ls hl5 => ?_)
  have hl : lv_has ls 7 [(0, .ref b), (1, .ref ax), (2, .ref am), (3, .ref ao), (4, .int (nI (6 * i)))] := lv_sub hl5 [1, 2, 3, 4, 5] rfl
  refine lv_aload_n X.1 X.2.1 dL_law__1989 rfl (lv_at hl 2 rfl) ?_
  refine pushI1 C h hS hl dL_law__1990 dL_law__1991 dL_law__1993 dL_law__1994 dL_law__1995 ?_
  refine pushZ (K := 0) C dL_law__1996 dL_law__1999 dL_law__2000 dL_law__2003 ?_
  refine callZ (As := [.int (bz (xs (6 * i + 1)))]) (rest := []) X (hM2 ao o') mw_9_154 mw_9_155 mw_9_156 mw_1_12 mw_9_157 dc_X12_hand ⟨by have := hrm2.1; show rm2.frames + 1 ≤ 2048; omega, by have := hrm2.2.1; show 8 + (5 + 11) + rm2.locals ≤ 84000; omega⟩ hrm2.2.2.1 hrm2.2.2.2.1 ⟨by have := hrm.2.2.2.2.1; show cells + mc + 0 ≤ 601024; omega, by have := hrm.2.2.2.2.2; show slots + ms + 0 ≤ 7293034; omega⟩ hP hD hS (List.mem_append_left _ hm2) rfl rfl hl.1 (Nat.le_of_ble_eq_true rfl) dL_law__2004 (fun v w' H locs hv hP hD hS => ?_) (fun E q ce w' H locs hx hP hD hS y1 y2 y3 => hx.elim)
  obtain ⟨w2, rfl, bb, rfl, hT2, ho⟩ := hv
  refine W.eq (g2 := F0 m 2007 ls [.int bb]) rfl ?_
  exact tailI C hn hT2 ho hP hD hS hl5 (by have := hrm.2.2.2.2.1; omega) (by have := hrm.2.2.2.2.2; omega) (by omega) dL_law__2007 dL_law__2009 dL_law__2010 dL_law__2013 dL_law__2015 dL_law__2020 dL_law__2022 dL_law__2025 dL_law__2026 dL_law__2027 dL_law__2028 dL_law__2030 dL_law__2031 dL_law__2032 dL_law__2037 (by decide)
theorem case_31 {pr : Program} {l : Launch} {e : Env} {s : State} {m : MethodId} {below : List Frame} {meth : Method} {c : Code} {dC : Nat → ClassId} {dI : Nat → Nat → Nat} {sk sv : Nat → Nat} {tc : Nat → ClassId} {b L ax am ao i : Nat} {xs : Nat → Int32} (C : CC pr l s m meth c dC dI sk sv tc b L xs) (h : 6 * i + 6 ≤ L) (hn : GO pr l e s m below meth c dC dI tc b ax am ao i (i + 1) 3264) : GO pr l e s m below meth c dC dI tc b ax am ao i i 2040 := by
  obtain ⟨X, hr, hlk, hX, hbl, hL, hst⟩ := id C
  intro w t o H locs cells slots ls hT hP hD hS hl hc hs
  refine lv_aload_n X.1 X.2.1 dL_law__2040 rfl (lv_at hl 1 rfl) ?_
  refine lv_aload_n X.1 X.2.1 dL_law__2041 rfl (lv_at hl 3 rfl) ?_
  obtain ⟨rm, mc, ms, hrm, hM⟩ := top_ask l hst dC dI sk sv tc ax am hT
  obtain ⟨fs, hm⟩ := hT.mem
  refine callZS (As := [.ref ax, .ref ao]) (rest := []) X (w_ask l dC dI sk sv tc ax ao o w ⟨hrm.1, hrm.2.1, hrm.2.2.1, hrm.2.2.2.1⟩ (List.mem_append_left _ hm) (fun k w1 hk => by have h := hk.1; simpa using h) (SC.w (fun v w1 hv => hv.1) (hM ao o))) mw_6_169 mw_6_170 mw_1_0 mwc_ask dcl_ask ⟨Nat.le_of_ble_eq_true rfl, Nat.le_of_ble_eq_true rfl⟩ rfl rfl ⟨by have := hrm.2.2.2.2.1; show cells + mc ≤ 601024; omega, by have := hrm.2.2.2.2.2; show slots + ms ≤ 7293034; omega⟩ hP hD hS hl.1 (Nat.le_of_ble_eq_true rfl) dL_law__2042 (fun v w' H locs hv hP hD hS => ?_)
  obtain ⟨kk, o', w1, rfl, rfl, ⟨fs2, hm2⟩, rm2, hrm2, hM2⟩ := w_due (by decide) hv
  refine W.eq (g2 := F0 m 2045 ls [.int kk]) rfl ?_
  refine lv_istore (lv' := [(5, .int kk), (0, .ref b), (1, .ref ax), (2, .ref am), (3, .ref ao), (4, .int (nI (6 * i)))]) X.1 X.2.1 dL_law__2045 hl (by decide) rfl (fun ls hl5 => ?_)
  have hl : lv_has ls 7 [(0, .ref b), (1, .ref ax), (2, .ref am), (3, .ref ao), (4, .int (nI (6 * i)))] := lv_sub hl5 [1, 2, 3, 4, 5] rfl
  refine lv_aload_n X.1 X.2.1 dL_law__2047 rfl (lv_at hl 2 rfl) ?_
  refine callZ (As := []) (rest := []) X (hM2 ao o') mw_9_170 mw_9_171 mw_9_172 mw_1_12 mw_9_173 dc_X12_ask ⟨by have := hrm2.1; show rm2.frames + 1 ≤ 2048; omega, by have := hrm2.2.1; show 8 + (9 + 11) + rm2.locals ≤ 84000; omega⟩ hrm2.2.2.1 hrm2.2.2.2.1 ⟨by have := hrm.2.2.2.2.1; show cells + mc + 0 ≤ 601024; omega, by have := hrm.2.2.2.2.2; show slots + ms + 0 ≤ 7293034; omega⟩ hP hD hS (List.mem_append_left _ hm2) rfl rfl hl.1 (Nat.le_of_ble_eq_true rfl) dL_law__2048 (fun v w' H locs hv hP hD hS => ?_) (fun E q ce w' H locs hx hP hD hS y1 y2 y3 => hx.elim)
  obtain ⟨w2, rfl, bb, rfl, hT2, ho⟩ := hv
  refine W.eq (g2 := F0 m 2051 ls [.int bb]) rfl ?_
  exact tailI C hn hT2 ho hP hD hS hl5 (by have := hrm.2.2.2.2.1; omega) (by have := hrm.2.2.2.2.2; omega) (by omega) dL_law__2051 dL_law__2053 dL_law__2054 dL_law__2057 dL_law__2059 dL_law__2064 dL_law__2066 dL_law__2069 dL_law__2070 dL_law__2071 dL_law__2072 dL_law__2074 dL_law__2075 dL_law__2076 dL_law__2081 (by decide)
theorem case_32 {pr : Program} {l : Launch} {e : Env} {s : State} {m : MethodId} {below : List Frame} {meth : Method} {c : Code} {dC : Nat → ClassId} {dI : Nat → Nat → Nat} {sk sv : Nat → Nat} {tc : Nat → ClassId} {b L ax am ao i : Nat} {xs : Nat → Int32} (C : CC pr l s m meth c dC dI sk sv tc b L xs) (h : 6 * i + 6 ≤ L) (hn : GO pr l e s m below meth c dC dI tc b ax am ao i (i + 1) 3264) : GO pr l e s m below meth c dC dI tc b ax am ao i i 2084 := by
  obtain ⟨X, hr, hlk, hX, hbl, hL, hst⟩ := id C
  intro w t o H locs cells slots ls hT hP hD hS hl hc hs
  refine lv_aload_n X.1 X.2.1 dL_law__2084 rfl (lv_at hl 1 rfl) ?_
  refine lv_aload_n X.1 X.2.1 dL_law__2085 rfl (lv_at hl 3 rfl) ?_
  obtain ⟨rm, mc, ms, hrm, hM⟩ := top_whose l hst dC dI sk sv tc ax am hT
  obtain ⟨fs, hm⟩ := hT.mem
  refine callZS (As := [.ref ax, .ref ao]) (rest := []) X (w_whose l dC dI sk sv tc ax ao o w ⟨hrm.1, hrm.2.1, hrm.2.2.1, hrm.2.2.2.1⟩ (List.mem_append_left _ hm) (fun k w1 hk => by have h := hk.1; simpa using h) (SC.w (fun v w1 hv => hv.1) (hM ao o))) mw_6_184 mw_6_185 mw_1_0 mwc_whose dcl_whose ⟨Nat.le_of_ble_eq_true rfl, Nat.le_of_ble_eq_true rfl⟩ rfl rfl ⟨by have := hrm.2.2.2.2.1; show cells + mc ≤ 601024; omega, by have := hrm.2.2.2.2.2; show slots + ms ≤ 7293034; omega⟩ hP hD hS hl.1 (Nat.le_of_ble_eq_true rfl) dL_law__2086 (fun v w' H locs hv hP hD hS => ?_)
  obtain ⟨kk, o', w1, rfl, rfl, ⟨fs2, hm2⟩, rm2, hrm2, hM2⟩ := w_due (by decide) hv
  refine W.eq (g2 := F0 m 2089 ls [.int kk]) rfl ?_
  refine lv_istore (lv' := [(5, .int kk), (0, .ref b), (1, .ref ax), (2, .ref am), (3, .ref ao), (4, .int (nI (6 * i)))]) X.1 X.2.1 dL_law__2089 hl (by decide) rfl (fun ls hl5 => ?_)
  have hl : lv_has ls 7 [(0, .ref b), (1, .ref ax), (2, .ref am), (3, .ref ao), (4, .int (nI (6 * i)))] := lv_sub hl5 [1, 2, 3, 4, 5] rfl
  refine lv_aload_n X.1 X.2.1 dL_law__2091 rfl (lv_at hl 2 rfl) ?_
  refine callZ (As := []) (rest := []) X (hM2 ao o') mw_9_174 mw_9_175 mw_9_176 mw_1_12 mw_9_177 dc_X12_whose ⟨by have := hrm2.1; show rm2.frames + 1 ≤ 2048; omega, by have := hrm2.2.1; show 8 + (4 + 11) + rm2.locals ≤ 84000; omega⟩ hrm2.2.2.1 hrm2.2.2.2.1 ⟨by have := hrm.2.2.2.2.1; show cells + mc + 0 ≤ 601024; omega, by have := hrm.2.2.2.2.2; show slots + ms + 0 ≤ 7293034; omega⟩ hP hD hS (List.mem_append_left _ hm2) rfl rfl hl.1 (Nat.le_of_ble_eq_true rfl) dL_law__2092 (fun v w' H locs hv hP hD hS => ?_) (fun E q ce w' H locs hx hP hD hS y1 y2 y3 => hx.elim)
  obtain ⟨w2, rfl, bb, rfl, hT2, ho⟩ := hv
  refine W.eq (g2 := F0 m 2095 ls [.int bb]) rfl ?_
  exact tailI C hn hT2 ho hP hD hS hl5 (by have := hrm.2.2.2.2.1; omega) (by have := hrm.2.2.2.2.2; omega) (by omega) dL_law__2095 dL_law__2097 dL_law__2098 dL_law__2101 dL_law__2103 dL_law__2108 dL_law__2110 dL_law__2113 dL_law__2114 dL_law__2115 dL_law__2116 dL_law__2118 dL_law__2119 dL_law__2120 dL_law__2125 (by decide)
theorem case_33 {pr : Program} {l : Launch} {e : Env} {s : State} {m : MethodId} {below : List Frame} {meth : Method} {c : Code} {dC : Nat → ClassId} {dI : Nat → Nat → Nat} {sk sv : Nat → Nat} {tc : Nat → ClassId} {b L ax am ao i : Nat} {xs : Nat → Int32} (C : CC pr l s m meth c dC dI sk sv tc b L xs) (h : 6 * i + 6 ≤ L) (hn : GO pr l e s m below meth c dC dI tc b ax am ao i (i + 1) 3264) : GO pr l e s m below meth c dC dI tc b ax am ao i i 2128 := by
  obtain ⟨X, hr, hlk, hX, hbl, hL, hst⟩ := id C
  intro w t o H locs cells slots ls hT hP hD hS hl hc hs
  refine lv_aload_n X.1 X.2.1 dL_law__2128 rfl (lv_at hl 1 rfl) ?_
  obtain ⟨rm, mc, ms, hrm, hM⟩ := top_fluent l hst dC dI sk sv tc ax am hT
  obtain ⟨fs, hm⟩ := hT.mem
  refine callZ (As := []) (rest := []) X (hM ao o) mw_3_11 mw_3_12 mw_3_13 mw_1_1 mw_3_14 dc_X11_fluent ⟨by have := hrm.1; show rm.frames + 1 ≤ 2048; omega, by have := hrm.2.1; show 8 + (3 + 11) + rm.locals ≤ 84000; omega⟩ hrm.2.2.1 hrm.2.2.2.1 ⟨by have := hrm.2.2.2.2.1; show cells + mc ≤ 601024; omega, by have := hrm.2.2.2.2.2; show slots + ms ≤ 7293034; omega⟩ hP hD hS (List.mem_append_left _ hm) rfl rfl hl.1 (Nat.le_of_ble_eq_true rfl) dL_law__2129 (fun v w' H locs hv hP hD hS => ?_) (fun E q ce w' H locs hx hP hD hS y1 y2 y3 => by obtain ⟨_, _, _, _, hx⟩ := hx; exact hx.elim)
  obtain ⟨w1, rfl, ⟨r, rfl⟩, ⟨fs2, hm2⟩, rm2, hrm2, hM2⟩ := hv
  refine W.eq (g2 := F0 m 2132 ls [.int r]) rfl ?_
  refine lv_aload_n X.1 X.2.1 dL_law__2132 rfl (lv_at hl 2 rfl) ?_
  refine callZ (As := []) (rest := [.int r]) X (hM2 ao o) mw_9_178 mw_9_179 mw_9_180 mw_1_12 mw_9_181 dc_X12_fluent ⟨by have := hrm2.1; show rm2.frames + 1 ≤ 2048; omega, by have := hrm2.2.1; show 8 + (3 + 11) + rm2.locals ≤ 84000; omega⟩ hrm2.2.2.1 hrm2.2.2.2.1 ⟨by have := hrm.2.2.2.2.1; show cells + mc + 0 ≤ 601024; omega, by have := hrm.2.2.2.2.2; show slots + ms + 0 ≤ 7293034; omega⟩ hP hD hS (List.mem_append_left _ hm2) rfl rfl hl.1 (Nat.le_of_ble_eq_true rfl) dL_law__2133 (fun v w' H locs hv hP hD hS => ?_) (fun E q ce w' H locs hx hP hD hS y1 y2 y3 => hx.elim)
  obtain ⟨w2, rfl, rfl, t2, hT2⟩ := hv
  refine W.eq (g2 := F0 m 2136 ls [.int r, .int r]) rfl ?_
  refine lv_icmp_eq (tgt := 3264) X.1 X.2.1 dL_law__2136 (by decide) (fun _ => ?_) (fun z => absurd rfl z)
  exact hn w2 t2 o H locs _ _ ls hT2 hP hD hS hl (by have := hrm.2.2.2.2.1; omega) (by have := hrm.2.2.2.2.2; omega)
theorem case_34 {pr : Program} {l : Launch} {e : Env} {s : State} {m : MethodId} {below : List Frame} {meth : Method} {c : Code} {dC : Nat → ClassId} {dI : Nat → Nat → Nat} {sk sv : Nat → Nat} {tc : Nat → ClassId} {b L ax am ao i : Nat} {xs : Nat → Int32} (C : CC pr l s m meth c dC dI sk sv tc b L xs) (h : 6 * i + 6 ≤ L) (hn : GO pr l e s m below meth c dC dI tc b ax am ao i (i + 1) 3264) : GO pr l e s m below meth c dC dI tc b ax am ao i i 2141 := by
  obtain ⟨X, hr, hlk, hX, hbl, hL, hst⟩ := id C
  intro w t o H locs cells slots ls hT hP hD hS hl hc hs
  refine lv_aload_n X.1 X.2.1 dL_law__2141 rfl (lv_at hl 1 rfl) ?_
  refine pushI1 C h hS hl dL_law__2142 dL_law__2143 dL_law__2145 dL_law__2146 dL_law__2147 ?_
  refine pushI2 C h hS hl dL_law__2148 dL_law__2149 dL_law__2151 dL_law__2152 dL_law__2153 ?_
  refine lv_aload_n X.1 X.2.1 dL_law__2154 rfl (lv_at hl 3 rfl) ?_
  obtain ⟨rm, mc, ms, hrm, hM⟩ := top_better l hst dC dI sk sv tc ax am (xs (6 * i + 1)) (xs (6 * i + 2)) hT
  obtain ⟨fs, hm⟩ := hT.mem
  refine callZS (As := [.ref ax, .int (xs (6 * i + 1)), .int (xs (6 * i + 2)), .ref ao]) (rest := []) X (w_better l dC dI sk sv tc ax ao o (xs (6 * i + 1)) (xs (6 * i + 2)) w ⟨hrm.1, hrm.2.1, hrm.2.2.1, hrm.2.2.2.1⟩ (List.mem_append_left _ hm) (fun k w1 hk => by have h := hk.1; simpa using h) (fun r w1 hv => by rcases hv.1 with z | z; cases z; exact Or.inl rfl; cases z; exact Or.inr rfl) (SC.w (fun v w1 hv => by rcases hv.1 with rfl | rfl; exact ⟨_, rfl⟩; exact ⟨_, rfl⟩) (hM ao o))) mw_6_195 mw_6_196 mw_1_0 mwc_better dcl_better ⟨Nat.le_of_ble_eq_true rfl, Nat.le_of_ble_eq_true rfl⟩ rfl rfl ⟨by have := hrm.2.2.2.2.1; show cells + mc ≤ 601024; omega, by have := hrm.2.2.2.2.2; show slots + ms ≤ 7293034; omega⟩ hP hD hS hl.1 (Nat.le_of_ble_eq_true rfl) dL_law__2155 (fun v w' H locs hv hP hD hS => ?_)
  obtain ⟨kk, o', w1, rfl, rfl, ⟨fs2, hm2⟩, rm2, hrm2, hM2⟩ := w_dueZ (by decide) hv
  refine W.eq (g2 := F0 m 2158 ls [.int kk]) rfl ?_
  refine lv_istore (lv' := [(5, .int kk), (0, .ref b), (1, .ref ax), (2, .ref am), (3, .ref ao), (4, .int (nI (6 * i)))]) X.1 X.2.1 dL_law__2158 hl (by decide) rfl (fun ls hl5 => ?_)
  have hl : lv_has ls 7 [(0, .ref b), (1, .ref ax), (2, .ref am), (3, .ref ao), (4, .int (nI (6 * i)))] := lv_sub hl5 [1, 2, 3, 4, 5] rfl
  refine lv_aload_n X.1 X.2.1 dL_law__2160 rfl (lv_at hl 2 rfl) ?_
  refine pushI1 C h hS hl dL_law__2161 dL_law__2162 dL_law__2164 dL_law__2165 dL_law__2166 ?_
  refine pushI2 C h hS hl dL_law__2167 dL_law__2168 dL_law__2170 dL_law__2171 dL_law__2172 ?_
  refine callZ (As := [.int (xs (6 * i + 1)), .int (xs (6 * i + 2))]) (rest := []) X (hM2 ao o') mw_9_182 mw_9_183 mw_9_184 mw_1_12 mw_9_185 dc_X12_better ⟨by have := hrm2.1; show rm2.frames + 1 ≤ 2048; omega, by have := hrm2.2.1; show 8 + (3 + 11) + rm2.locals ≤ 84000; omega⟩ hrm2.2.2.1 hrm2.2.2.2.1 ⟨by have := hrm.2.2.2.2.1; show cells + mc + 0 ≤ 601024; omega, by have := hrm.2.2.2.2.2; show slots + ms + 0 ≤ 7293034; omega⟩ hP hD hS (List.mem_append_left _ hm2) rfl rfl hl.1 (Nat.le_of_ble_eq_true rfl) dL_law__2173 (fun v w' H locs hv hP hD hS => ?_) (fun E q ce w' H locs hx hP hD hS y1 y2 y3 => hx.elim)
  obtain ⟨w2, rfl, bb, rfl, hT2, ho⟩ := hv
  refine W.eq (g2 := F0 m 2176 ls [.int bb]) rfl ?_
  exact tailZ C hn hT2 ho hP hD hS hl5 (by have := hrm.2.2.2.2.1; omega) (by have := hrm.2.2.2.2.2; omega) (by omega) dL_law__2176 dL_law__2178 dL_law__2179 dL_law__2182 dL_law__2184 dL_law__2189 dL_law__2191 dL_law__2194 dL_law__2195 dL_law__2196 dL_law__2197 dL_law__2199 dL_law__2202 dL_law__2203 dL_law__2206 dL_law__2207 dL_law__2208 dL_law__2213 (by decide)
theorem case_35 {pr : Program} {l : Launch} {e : Env} {s : State} {m : MethodId} {below : List Frame} {meth : Method} {c : Code} {dC : Nat → ClassId} {dI : Nat → Nat → Nat} {sk sv : Nat → Nat} {tc : Nat → ClassId} {b L ax am ao i : Nat} {xs : Nat → Int32} (C : CC pr l s m meth c dC dI sk sv tc b L xs) (h : 6 * i + 6 ≤ L) (hn : GO pr l e s m below meth c dC dI tc b ax am ao i (i + 1) 3264) : GO pr l e s m below meth c dC dI tc b ax am ao i i 2216 := by
  obtain ⟨X, hr, hlk, hX, hbl, hL, hst⟩ := id C
  intro w t o H locs cells slots ls hT hP hD hS hl hc hs
  refine lv_aload_n X.1 X.2.1 dL_law__2216 rfl (lv_at hl 1 rfl) ?_
  refine pushI1 C h hS hl dL_law__2217 dL_law__2218 dL_law__2220 dL_law__2221 dL_law__2222 ?_
  refine pushI2 C h hS hl dL_law__2223 dL_law__2224 dL_law__2226 dL_law__2227 dL_law__2228 ?_
  refine lv_aload_n X.1 X.2.1 dL_law__2229 rfl (lv_at hl 3 rfl) ?_
  obtain ⟨rm, mc, ms, hrm, hM⟩ := top_change l hst dC dI sk sv tc ax am (xs (6 * i + 1)) (xs (6 * i + 2)) hT
  obtain ⟨fs, hm⟩ := hT.mem
  refine callZS (As := [.ref ax, .int (xs (6 * i + 1)), .int (xs (6 * i + 2)), .ref ao]) (rest := []) X (w_change l dC dI sk sv tc ax ao o (xs (6 * i + 1)) (xs (6 * i + 2)) w ⟨hrm.1, hrm.2.1, hrm.2.2.1, hrm.2.2.2.1⟩ (List.mem_append_left _ hm) (fun k w1 hk => by have h := hk.1; simpa using h) (SC.w (fun v w1 hv => hv.1) (hM ao o))) mw_6_203 mw_6_204 mw_1_0 mwc_change dcl_change ⟨Nat.le_of_ble_eq_true rfl, Nat.le_of_ble_eq_true rfl⟩ rfl rfl ⟨by have := hrm.2.2.2.2.1; show cells + mc ≤ 601024; omega, by have := hrm.2.2.2.2.2; show slots + ms ≤ 7293034; omega⟩ hP hD hS hl.1 (Nat.le_of_ble_eq_true rfl) dL_law__2230 (fun v w' H locs hv hP hD hS => ?_)
  obtain ⟨kk, o', w1, rfl, rfl, ⟨fs2, hm2⟩, rm2, hrm2, hM2⟩ := w_due (by decide) hv
  refine W.eq (g2 := F0 m 2233 ls [.int kk]) rfl ?_
  refine lv_istore (lv' := [(5, .int kk), (0, .ref b), (1, .ref ax), (2, .ref am), (3, .ref ao), (4, .int (nI (6 * i)))]) X.1 X.2.1 dL_law__2233 hl (by decide) rfl (fun ls hl5 => ?_)
  have hl : lv_has ls 7 [(0, .ref b), (1, .ref ax), (2, .ref am), (3, .ref ao), (4, .int (nI (6 * i)))] := lv_sub hl5 [1, 2, 3, 4, 5] rfl
  refine lv_aload_n X.1 X.2.1 dL_law__2235 rfl (lv_at hl 2 rfl) ?_
  refine pushI1 C h hS hl dL_law__2236 dL_law__2237 dL_law__2239 dL_law__2240 dL_law__2241 ?_
  refine pushI2 C h hS hl dL_law__2242 dL_law__2243 dL_law__2245 dL_law__2246 dL_law__2247 ?_
  refine callZ (As := [.int (xs (6 * i + 1)), .int (xs (6 * i + 2))]) (rest := []) X (hM2 ao o') mw_9_186 mw_9_187 mw_9_188 mw_1_12 mw_9_189 dc_X12_change ⟨by have := hrm2.1; show rm2.frames + 1 ≤ 2048; omega, by have := hrm2.2.1; show 8 + (3 + 11) + rm2.locals ≤ 84000; omega⟩ hrm2.2.2.1 hrm2.2.2.2.1 ⟨by have := hrm.2.2.2.2.1; show cells + mc + 0 ≤ 601024; omega, by have := hrm.2.2.2.2.2; show slots + ms + 0 ≤ 7293034; omega⟩ hP hD hS (List.mem_append_left _ hm2) rfl rfl hl.1 (Nat.le_of_ble_eq_true rfl) dL_law__2248 (fun v w' H locs hv hP hD hS => ?_) (fun E q ce w' H locs hx hP hD hS y1 y2 y3 => hx.elim)
  obtain ⟨w2, rfl, bb, rfl, hT2, ho⟩ := hv
  refine W.eq (g2 := F0 m 2251 ls [.int bb]) rfl ?_
  exact tailI C hn hT2 ho hP hD hS hl5 (by have := hrm.2.2.2.2.1; omega) (by have := hrm.2.2.2.2.2; omega) (by omega) dL_law__2251 dL_law__2253 dL_law__2254 dL_law__2257 dL_law__2259 dL_law__2264 dL_law__2266 dL_law__2269 dL_law__2270 dL_law__2271 dL_law__2272 dL_law__2274 dL_law__2275 dL_law__2276 dL_law__2281 (by decide)
theorem case_36 {pr : Program} {l : Launch} {e : Env} {s : State} {m : MethodId} {below : List Frame} {meth : Method} {c : Code} {dC : Nat → ClassId} {dI : Nat → Nat → Nat} {sk sv : Nat → Nat} {tc : Nat → ClassId} {b L ax am ao i : Nat} {xs : Nat → Int32} (C : CC pr l s m meth c dC dI sk sv tc b L xs) (h : 6 * i + 6 ≤ L) (hn : GO pr l e s m below meth c dC dI tc b ax am ao i (i + 1) 3264) : GO pr l e s m below meth c dC dI tc b ax am ao i i 2284 := by
  obtain ⟨X, hr, hlk, hX, hbl, hL, hst⟩ := id C
  intro w t o H locs cells slots ls hT hP hD hS hl hc hs
  refine lv_aload_n X.1 X.2.1 dL_law__2284 rfl (lv_at hl 1 rfl) ?_
  refine pushI1 C h hS hl dL_law__2285 dL_law__2286 dL_law__2288 dL_law__2289 dL_law__2290 ?_
  refine pushI2 C h hS hl dL_law__2291 dL_law__2292 dL_law__2294 dL_law__2295 dL_law__2296 ?_
  refine lv_aload_n X.1 X.2.1 dL_law__2297 rfl (lv_at hl 3 rfl) ?_
  obtain ⟨rm, mc, ms, hrm, hM⟩ := top_chain l hst dC dI sk sv tc ax am (xs (6 * i + 1)) (xs (6 * i + 2)) hT
  obtain ⟨fs, hm⟩ := hT.mem
  refine callZS (As := [.ref ax, .int (xs (6 * i + 1)), .int (xs (6 * i + 2)), .ref ao]) (rest := []) X (w_chain l dC dI sk sv tc ax ao o (xs (6 * i + 1)) (xs (6 * i + 2)) w ⟨hrm.1, hrm.2.1, hrm.2.2.1, hrm.2.2.2.1⟩ (List.mem_append_left _ hm) (fun k w1 hk => by have h := hk.1; simpa using h) (SC.w (fun v w1 hv => hv.1) (hM ao o))) mw_6_211 mw_6_212 mw_1_0 mwc_chain dcl_chain ⟨Nat.le_of_ble_eq_true rfl, Nat.le_of_ble_eq_true rfl⟩ rfl rfl ⟨by have := hrm.2.2.2.2.1; show cells + mc ≤ 601024; omega, by have := hrm.2.2.2.2.2; show slots + ms ≤ 7293034; omega⟩ hP hD hS hl.1 (Nat.le_of_ble_eq_true rfl) dL_law__2298 (fun v w' H locs hv hP hD hS => ?_)
  obtain ⟨kk, o', w1, rfl, rfl, ⟨fs2, hm2⟩, rm2, hrm2, hM2⟩ := w_due (by decide) hv
  refine W.eq (g2 := F0 m 2301 ls [.int kk]) rfl ?_
  refine lv_istore (lv' := [(5, .int kk), (0, .ref b), (1, .ref ax), (2, .ref am), (3, .ref ao), (4, .int (nI (6 * i)))]) X.1 X.2.1 dL_law__2301 hl (by decide) rfl (fun ls hl5 => ?_)
  have hl : lv_has ls 7 [(0, .ref b), (1, .ref ax), (2, .ref am), (3, .ref ao), (4, .int (nI (6 * i)))] := lv_sub hl5 [1, 2, 3, 4, 5] rfl
  refine lv_aload_n X.1 X.2.1 dL_law__2303 rfl (lv_at hl 2 rfl) ?_
  refine pushI1 C h hS hl dL_law__2304 dL_law__2305 dL_law__2307 dL_law__2308 dL_law__2309 ?_
  refine pushI2 C h hS hl dL_law__2310 dL_law__2311 dL_law__2313 dL_law__2314 dL_law__2315 ?_
  refine callZ (As := [.int (xs (6 * i + 1)), .int (xs (6 * i + 2))]) (rest := []) X (hM2 ao o') mw_9_194 mw_9_195 mw_9_196 mw_1_12 mw_9_197 dc_X12_chain ⟨by have := hrm2.1; show rm2.frames + 1 ≤ 2048; omega, by have := hrm2.2.1; show 8 + (8 + 11) + rm2.locals ≤ 84000; omega⟩ hrm2.2.2.1 hrm2.2.2.2.1 ⟨by have := hrm.2.2.2.2.1; show cells + mc + 0 ≤ 601024; omega, by have := hrm.2.2.2.2.2; show slots + ms + 0 ≤ 7293034; omega⟩ hP hD hS (List.mem_append_left _ hm2) rfl rfl hl.1 (Nat.le_of_ble_eq_true rfl) dL_law__2316 (fun v w' H locs hv hP hD hS => ?_) (fun E q ce w' H locs hx hP hD hS y1 y2 y3 => hx.elim)
  obtain ⟨w2, rfl, bb, rfl, hT2, ho⟩ := hv
  refine W.eq (g2 := F0 m 2319 ls [.int bb]) rfl ?_
  exact tailI C hn hT2 ho hP hD hS hl5 (by have := hrm.2.2.2.2.1; omega) (by have := hrm.2.2.2.2.2; omega) (by omega) dL_law__2319 dL_law__2321 dL_law__2322 dL_law__2325 dL_law__2327 dL_law__2332 dL_law__2334 dL_law__2337 dL_law__2338 dL_law__2339 dL_law__2340 dL_law__2342 dL_law__2343 dL_law__2344 dL_law__2349 (by decide)
theorem case_37 {pr : Program} {l : Launch} {e : Env} {s : State} {m : MethodId} {below : List Frame} {meth : Method} {c : Code} {dC : Nat → ClassId} {dI : Nat → Nat → Nat} {sk sv : Nat → Nat} {tc : Nat → ClassId} {b L ax am ao i : Nat} {xs : Nat → Int32} (C : CC pr l s m meth c dC dI sk sv tc b L xs) (h : 6 * i + 6 ≤ L) (hn : GO pr l e s m below meth c dC dI tc b ax am ao i (i + 1) 3264) : GO pr l e s m below meth c dC dI tc b ax am ao i i 2352 := by
  obtain ⟨X, hr, hlk, hX, hbl, hL, hst⟩ := id C
  intro w t o H locs cells slots ls hT hP hD hS hl hc hs
  refine lv_aload_n X.1 X.2.1 dL_law__2352 rfl (lv_at hl 1 rfl) ?_
  obtain ⟨rm, mc, ms, hrm, hM⟩ := top_echo l hst dC dI sk sv tc ax am hT
  obtain ⟨fs, hm⟩ := hT.mem
  refine callZ (As := []) (rest := []) X (hM ao o) mw_3_23 mw_3_24 mw_3_25 mw_1_1 mw_3_26 dc_X11_echo ⟨by have := hrm.1; show rm.frames + 1 ≤ 2048; omega, by have := hrm.2.1; show 8 + (1 + 11) + rm.locals ≤ 84000; omega⟩ hrm.2.2.1 hrm.2.2.2.1 ⟨by have := hrm.2.2.2.2.1; show cells + mc ≤ 601024; omega, by have := hrm.2.2.2.2.2; show slots + ms ≤ 7293034; omega⟩ hP hD hS (List.mem_append_left _ hm) rfl rfl hl.1 (Nat.le_of_ble_eq_true rfl) dL_law__2353 (fun v w' H locs hv hP hD hS => ?_) (fun E q ce w' H locs hx hP hD hS y1 y2 y3 => by obtain ⟨_, _, _, _, hx⟩ := hx; exact hx.elim)
  obtain ⟨w1, rfl, ⟨r, rfl⟩, ⟨fs2, hm2⟩, rm2, hrm2, hM2⟩ := hv
  refine W.eq (g2 := F0 m 2356 ls [.int r]) rfl ?_
  refine lv_aload_n X.1 X.2.1 dL_law__2356 rfl (lv_at hl 2 rfl) ?_
  refine callZ (As := []) (rest := [.int r]) X (hM2 ao o) mw_9_198 mw_9_199 mw_9_200 mw_1_12 mw_9_201 dc_X12_echo ⟨by have := hrm2.1; show rm2.frames + 1 ≤ 2048; omega, by have := hrm2.2.1; show 8 + (5 + 11) + rm2.locals ≤ 84000; omega⟩ hrm2.2.2.1 hrm2.2.2.2.1 ⟨by have := hrm.2.2.2.2.1; show cells + mc + 0 ≤ 601024; omega, by have := hrm.2.2.2.2.2; show slots + ms + 0 ≤ 7293034; omega⟩ hP hD hS (List.mem_append_left _ hm2) rfl rfl hl.1 (Nat.le_of_ble_eq_true rfl) dL_law__2357 (fun v w' H locs hv hP hD hS => ?_) (fun E q ce w' H locs hx hP hD hS y1 y2 y3 => hx.elim)
  obtain ⟨w2, rfl, rfl, t2, hT2⟩ := hv
  refine W.eq (g2 := F0 m 2360 ls [.int r, .int r]) rfl ?_
  refine lv_icmp_eq (tgt := 3264) X.1 X.2.1 dL_law__2360 (by decide) (fun _ => ?_) (fun z => absurd rfl z)
  exact hn w2 t2 o H locs _ _ ls hT2 hP hD hS hl (by have := hrm.2.2.2.2.1; omega) (by have := hrm.2.2.2.2.2; omega)
theorem case_38 {pr : Program} {l : Launch} {e : Env} {s : State} {m : MethodId} {below : List Frame} {meth : Method} {c : Code} {dC : Nat → ClassId} {dI : Nat → Nat → Nat} {sk sv : Nat → Nat} {tc : Nat → ClassId} {b L ax am ao i : Nat} {xs : Nat → Int32} (C : CC pr l s m meth c dC dI sk sv tc b L xs) (h : 6 * i + 6 ≤ L) (hn : GO pr l e s m below meth c dC dI tc b ax am ao i (i + 1) 3264) : GO pr l e s m below meth c dC dI tc b ax am ao i i 2365 := by
  obtain ⟨X, hr, hlk, hX, hbl, hL, hst⟩ := id C
  intro w t o H locs cells slots ls hT hP hD hS hl hc hs
  refine lv_aload_n X.1 X.2.1 dL_law__2365 rfl (lv_at hl 1 rfl) ?_
  refine pushI1 C h hS hl dL_law__2366 dL_law__2367 dL_law__2369 dL_law__2370 dL_law__2371 ?_
  refine pushI2 C h hS hl dL_law__2372 dL_law__2373 dL_law__2375 dL_law__2376 dL_law__2377 ?_
  refine lv_aload_n X.1 X.2.1 dL_law__2378 rfl (lv_at hl 3 rfl) ?_
  obtain ⟨rm, mc, ms, hrm, hM⟩ := top_pages l hst dC dI sk sv tc ax am (xs (6 * i + 1)) (xs (6 * i + 2)) hT
  obtain ⟨fs, hm⟩ := hT.mem
  refine callZS (As := [.ref ax, .int (xs (6 * i + 1)), .int (xs (6 * i + 2)), .ref ao]) (rest := []) X (w_pages l dC dI sk sv tc ax ao o (xs (6 * i + 1)) (xs (6 * i + 2)) w ⟨hrm.1, hrm.2.1, hrm.2.2.1, hrm.2.2.2.1⟩ (List.mem_append_left _ hm) (fun k w1 hk => by have h := hk.1; simpa using h) (SC.w (fun v w1 hv => hv.1) (hM ao o))) mw_6_226 mw_6_227 mw_1_0 mwc_pages dcl_pages ⟨Nat.le_of_ble_eq_true rfl, Nat.le_of_ble_eq_true rfl⟩ rfl rfl ⟨by have := hrm.2.2.2.2.1; show cells + mc ≤ 601024; omega, by have := hrm.2.2.2.2.2; show slots + ms ≤ 7293034; omega⟩ hP hD hS hl.1 (Nat.le_of_ble_eq_true rfl) dL_law__2379 (fun v w' H locs hv hP hD hS => ?_)
  obtain ⟨kk, o', w1, rfl, rfl, ⟨fs2, hm2⟩, rm2, hrm2, hM2⟩ := w_due (by decide) hv
  refine W.eq (g2 := F0 m 2382 ls [.int kk]) rfl ?_
  refine lv_istore (lv' := [(5, .int kk), (0, .ref b), (1, .ref ax), (2, .ref am), (3, .ref ao), (4, .int (nI (6 * i)))]) X.1 X.2.1 dL_law__2382 hl (by decide) rfl (fun ls hl5 => ?_)
  have hl : lv_has ls 7 [(0, .ref b), (1, .ref ax), (2, .ref am), (3, .ref ao), (4, .int (nI (6 * i)))] := lv_sub hl5 [1, 2, 3, 4, 5] rfl
  refine lv_aload_n X.1 X.2.1 dL_law__2384 rfl (lv_at hl 2 rfl) ?_
  refine pushI1 C h hS hl dL_law__2385 dL_law__2386 dL_law__2388 dL_law__2389 dL_law__2390 ?_
  refine pushI2 C h hS hl dL_law__2391 dL_law__2392 dL_law__2394 dL_law__2395 dL_law__2396 ?_
  refine callZ (As := [.int (xs (6 * i + 1)), .int (xs (6 * i + 2))]) (rest := []) X (hM2 ao o') mw_9_206 mw_9_207 mw_9_208 mw_1_12 mw_9_209 dc_X12_pages ⟨by have := hrm2.1; show rm2.frames + 1 ≤ 2048; omega, by have := hrm2.2.1; show 8 + (6 + 11) + rm2.locals ≤ 84000; omega⟩ hrm2.2.2.1 hrm2.2.2.2.1 ⟨by have := hrm.2.2.2.2.1; show cells + mc + 0 ≤ 601024; omega, by have := hrm.2.2.2.2.2; show slots + ms + 0 ≤ 7293034; omega⟩ hP hD hS (List.mem_append_left _ hm2) rfl rfl hl.1 (Nat.le_of_ble_eq_true rfl) dL_law__2397 (fun v w' H locs hv hP hD hS => ?_) (fun E q ce w' H locs hx hP hD hS y1 y2 y3 => hx.elim)
  obtain ⟨w2, rfl, bb, rfl, hT2, ho⟩ := hv
  refine W.eq (g2 := F0 m 2400 ls [.int bb]) rfl ?_
  exact tailI C hn hT2 ho hP hD hS hl5 (by have := hrm.2.2.2.2.1; omega) (by have := hrm.2.2.2.2.2; omega) (by omega) dL_law__2400 dL_law__2402 dL_law__2403 dL_law__2406 dL_law__2408 dL_law__2413 dL_law__2415 dL_law__2418 dL_law__2419 dL_law__2420 dL_law__2421 dL_law__2423 dL_law__2424 dL_law__2425 dL_law__2430 (by decide)
theorem case_39 {pr : Program} {l : Launch} {e : Env} {s : State} {m : MethodId} {below : List Frame} {meth : Method} {c : Code} {dC : Nat → ClassId} {dI : Nat → Nat → Nat} {sk sv : Nat → Nat} {tc : Nat → ClassId} {b L ax am ao i : Nat} {xs : Nat → Int32} (C : CC pr l s m meth c dC dI sk sv tc b L xs) (h : 6 * i + 6 ≤ L) (hn : GO pr l e s m below meth c dC dI tc b ax am ao i (i + 1) 3264) : GO pr l e s m below meth c dC dI tc b ax am ao i i 2433 := by
  obtain ⟨X, hr, hlk, hX, hbl, hL, hst⟩ := id C
  intro w t o H locs cells slots ls hT hP hD hS hl hc hs
  refine lv_aload_n X.1 X.2.1 dL_law__2433 rfl (lv_at hl 1 rfl) ?_
  refine pushI1 C h hS hl dL_law__2434 dL_law__2435 dL_law__2437 dL_law__2438 dL_law__2439 ?_
  refine lv_aload_n X.1 X.2.1 dL_law__2440 rfl (lv_at hl 3 rfl) ?_
  obtain ⟨rm, mc, ms, hrm, hM⟩ := top_pairs l hst dC dI sk sv tc ax am (xs (6 * i + 1)) hT
  obtain ⟨fs, hm⟩ := hT.mem
  refine callZS (As := [.ref ax, .int (xs (6 * i + 1)), .ref ao]) (rest := []) X (w_pairs l dC dI sk sv tc ax ao o (xs (6 * i + 1)) w ⟨hrm.1, hrm.2.1, hrm.2.2.1, hrm.2.2.2.1⟩ (List.mem_append_left _ hm) (fun k w1 hk => by have h := hk.1; simpa using h) (SC.w (fun v w1 hv => hv.1) (hM ao o))) mw_7_2 mw_7_3 mw_1_0 mwc_pairs dcl_pairs ⟨Nat.le_of_ble_eq_true rfl, Nat.le_of_ble_eq_true rfl⟩ rfl rfl ⟨by have := hrm.2.2.2.2.1; show cells + mc ≤ 601024; omega, by have := hrm.2.2.2.2.2; show slots + ms ≤ 7293034; omega⟩ hP hD hS hl.1 (Nat.le_of_ble_eq_true rfl) dL_law__2441 (fun v w' H locs hv hP hD hS => ?_)
  obtain ⟨kk, o', w1, rfl, rfl, ⟨fs2, hm2⟩, rm2, hrm2, hM2⟩ := w_due (by decide) hv
  refine W.eq (g2 := F0 m 2444 ls [.int kk]) rfl ?_
  refine lv_istore (lv' := [(5, .int kk), (0, .ref b), (1, .ref ax), (2, .ref am), (3, .ref ao), (4, .int (nI (6 * i)))]) X.1 X.2.1 dL_law__2444 hl (by decide) rfl (fun ls hl5 => ?_)
  have hl : lv_has ls 7 [(0, .ref b), (1, .ref ax), (2, .ref am), (3, .ref ao), (4, .int (nI (6 * i)))] := lv_sub hl5 [1, 2, 3, 4, 5] rfl
  refine lv_aload_n X.1 X.2.1 dL_law__2446 rfl (lv_at hl 2 rfl) ?_
  refine pushI1 C h hS hl dL_law__2447 dL_law__2448 dL_law__2450 dL_law__2451 dL_law__2452 ?_
  refine callZ (As := [.int (xs (6 * i + 1))]) (rest := []) X (hM2 ao o') mw_9_210 mw_9_211 mw_9_212 mw_1_12 mw_9_213 dc_X12_pairs ⟨by have := hrm2.1; show rm2.frames + 1 ≤ 2048; omega, by have := hrm2.2.1; show 8 + (7 + 11) + rm2.locals ≤ 84000; omega⟩ hrm2.2.2.1 hrm2.2.2.2.1 ⟨by have := hrm.2.2.2.2.1; show cells + mc + 0 ≤ 601024; omega, by have := hrm.2.2.2.2.2; show slots + ms + 0 ≤ 7293034; omega⟩ hP hD hS (List.mem_append_left _ hm2) rfl rfl hl.1 (Nat.le_of_ble_eq_true rfl) dL_law__2453 (fun v w' H locs hv hP hD hS => ?_) (fun E q ce w' H locs hx hP hD hS y1 y2 y3 => hx.elim)
  obtain ⟨w2, rfl, bb, rfl, hT2, ho⟩ := hv
  refine W.eq (g2 := F0 m 2456 ls [.int bb]) rfl ?_
  exact tailI C hn hT2 ho hP hD hS hl5 (by have := hrm.2.2.2.2.1; omega) (by have := hrm.2.2.2.2.2; omega) (by omega) dL_law__2456 dL_law__2458 dL_law__2459 dL_law__2462 dL_law__2464 dL_law__2469 dL_law__2471 dL_law__2474 dL_law__2475 dL_law__2476 dL_law__2477 dL_law__2479 dL_law__2480 dL_law__2481 dL_law__2486 (by decide)
theorem case_40 {pr : Program} {l : Launch} {e : Env} {s : State} {m : MethodId} {below : List Frame} {meth : Method} {c : Code} {dC : Nat → ClassId} {dI : Nat → Nat → Nat} {sk sv : Nat → Nat} {tc : Nat → ClassId} {b L ax am ao i : Nat} {xs : Nat → Int32} (C : CC pr l s m meth c dC dI sk sv tc b L xs) (h : 6 * i + 6 ≤ L) (hn : GO pr l e s m below meth c dC dI tc b ax am ao i (i + 1) 3264) : GO pr l e s m below meth c dC dI tc b ax am ao i i 2489 := by
  obtain ⟨X, hr, hlk, hX, hbl, hL, hst⟩ := id C
  intro w t o H locs cells slots ls hT hP hD hS hl hc hs
  refine lv_aload_n X.1 X.2.1 dL_law__2489 rfl (lv_at hl 1 rfl) ?_
  refine pushI1 C h hS hl dL_law__2490 dL_law__2491 dL_law__2493 dL_law__2494 dL_law__2495 ?_
  refine lv_aload_n X.1 X.2.1 dL_law__2496 rfl (lv_at hl 3 rfl) ?_
  obtain ⟨rm, mc, ms, hrm, hM⟩ := top_rests l hst dC dI sk sv tc ax am (xs (6 * i + 1)) hT
  obtain ⟨fs, hm⟩ := hT.mem
  refine callZS (As := [.ref ax, .int (xs (6 * i + 1)), .ref ao]) (rest := []) X (w_rests l dC dI sk sv tc ax ao o (xs (6 * i + 1)) w ⟨hrm.1, hrm.2.1, hrm.2.2.1, hrm.2.2.2.1⟩ (List.mem_append_left _ hm) (fun k w1 hk => by have h := hk.1; simpa using h) (SC.w (fun v w1 hv => hv.1) (hM ao o))) mw_7_30 mw_7_31 mw_1_0 mwc_rests dcl_rests ⟨Nat.le_of_ble_eq_true rfl, Nat.le_of_ble_eq_true rfl⟩ rfl rfl ⟨by have := hrm.2.2.2.2.1; show cells + mc ≤ 601024; omega, by have := hrm.2.2.2.2.2; show slots + ms ≤ 7293034; omega⟩ hP hD hS hl.1 (Nat.le_of_ble_eq_true rfl) dL_law__2497 (fun v w' H locs hv hP hD hS => ?_)
  obtain ⟨kk, o', w1, rfl, rfl, ⟨fs2, hm2⟩, rm2, hrm2, hM2⟩ := w_due (by decide) hv
  refine W.eq (g2 := F0 m 2500 ls [.int kk]) rfl ?_
  refine lv_istore (lv' := [(5, .int kk), (0, .ref b), (1, .ref ax), (2, .ref am), (3, .ref ao), (4, .int (nI (6 * i)))]) X.1 X.2.1 dL_law__2500 hl (by decide) rfl (fun ls hl5 => ?_)
  have hl : lv_has ls 7 [(0, .ref b), (1, .ref ax), (2, .ref am), (3, .ref ao), (4, .int (nI (6 * i)))] := lv_sub hl5 [1, 2, 3, 4, 5] rfl
  refine lv_aload_n X.1 X.2.1 dL_law__2502 rfl (lv_at hl 2 rfl) ?_
  refine pushI1 C h hS hl dL_law__2503 dL_law__2504 dL_law__2506 dL_law__2507 dL_law__2508 ?_
  refine callZ (As := [.int (xs (6 * i + 1))]) (rest := []) X (hM2 ao o') mw_9_225 mw_9_226 mw_9_227 mw_1_12 mw_9_228 dc_X12_rests ⟨by have := hrm2.1; show rm2.frames + 1 ≤ 2048; omega, by have := hrm2.2.1; show 8 + (6 + 11) + rm2.locals ≤ 84000; omega⟩ hrm2.2.2.1 hrm2.2.2.2.1 ⟨by have := hrm.2.2.2.2.1; show cells + mc + 0 ≤ 601024; omega, by have := hrm.2.2.2.2.2; show slots + ms + 0 ≤ 7293034; omega⟩ hP hD hS (List.mem_append_left _ hm2) rfl rfl hl.1 (Nat.le_of_ble_eq_true rfl) dL_law__2509 (fun v w' H locs hv hP hD hS => ?_) (fun E q ce w' H locs hx hP hD hS y1 y2 y3 => hx.elim)
  obtain ⟨w2, rfl, bb, rfl, hT2, ho⟩ := hv
  refine W.eq (g2 := F0 m 2512 ls [.int bb]) rfl ?_
  exact tailI C hn hT2 ho hP hD hS hl5 (by have := hrm.2.2.2.2.1; omega) (by have := hrm.2.2.2.2.2; omega) (by omega) dL_law__2512 dL_law__2514 dL_law__2515 dL_law__2518 dL_law__2520 dL_law__2525 dL_law__2527 dL_law__2530 dL_law__2531 dL_law__2532 dL_law__2533 dL_law__2535 dL_law__2536 dL_law__2537 dL_law__2542 (by decide)
theorem case_41 {pr : Program} {l : Launch} {e : Env} {s : State} {m : MethodId} {below : List Frame} {meth : Method} {c : Code} {dC : Nat → ClassId} {dI : Nat → Nat → Nat} {sk sv : Nat → Nat} {tc : Nat → ClassId} {b L ax am ao i : Nat} {xs : Nat → Int32} (C : CC pr l s m meth c dC dI sk sv tc b L xs) (h : 6 * i + 6 ≤ L) (hn : GO pr l e s m below meth c dC dI tc b ax am ao i (i + 1) 3264) : GO pr l e s m below meth c dC dI tc b ax am ao i i 2545 := by
  obtain ⟨X, hr, hlk, hX, hbl, hL, hst⟩ := id C
  intro w t o H locs cells slots ls hT hP hD hS hl hc hs
  refine lv_aload_n X.1 X.2.1 dL_law__2545 rfl (lv_at hl 1 rfl) ?_
  refine pushI1 C h hS hl dL_law__2546 dL_law__2547 dL_law__2549 dL_law__2550 dL_law__2551 ?_
  refine pushI2 C h hS hl dL_law__2552 dL_law__2553 dL_law__2555 dL_law__2556 dL_law__2557 ?_
  refine pushI3 C h hS hl dL_law__2558 dL_law__2559 dL_law__2561 dL_law__2562 dL_law__2563 ?_
  refine lv_aload_n X.1 X.2.1 dL_law__2564 rfl (lv_at hl 3 rfl) ?_
  obtain ⟨rm, mc, ms, hrm, hM⟩ := top_odds l hst dC dI sk sv tc ax am (xs (6 * i + 1)) (xs (6 * i + 2)) (xs (6 * i + 3)) hT
  obtain ⟨fs, hm⟩ := hT.mem
  refine callZS (As := [.ref ax, .int (xs (6 * i + 1)), .int (xs (6 * i + 2)), .int (xs (6 * i + 3)), .ref ao]) (rest := []) X (w_odds l dC dI sk sv tc ax ao o (xs (6 * i + 1)) (xs (6 * i + 2)) (xs (6 * i + 3)) w ⟨hrm.1, hrm.2.1, hrm.2.2.1, hrm.2.2.2.1⟩ (List.mem_append_left _ hm) (fun k w1 hk => by have h := hk.1; simpa using h) (SC.w (fun v w1 hv => hv.1) (hM ao o))) mw_7_49 mw_7_50 mw_1_0 mwc_odds dcl_odds ⟨Nat.le_of_ble_eq_true rfl, Nat.le_of_ble_eq_true rfl⟩ rfl rfl ⟨by have := hrm.2.2.2.2.1; show cells + mc ≤ 601024; omega, by have := hrm.2.2.2.2.2; show slots + ms ≤ 7293034; omega⟩ hP hD hS hl.1 (Nat.le_of_ble_eq_true rfl) dL_law__2565 (fun v w' H locs hv hP hD hS => ?_)
  obtain ⟨kk, o', w1, rfl, rfl, ⟨fs2, hm2⟩, rm2, hrm2, hM2⟩ := w_due (by decide) hv
  refine W.eq (g2 := F0 m 2568 ls [.int kk]) rfl ?_
  refine lv_istore (lv' := [(5, .int kk), (0, .ref b), (1, .ref ax), (2, .ref am), (3, .ref ao), (4, .int (nI (6 * i)))]) X.1 X.2.1 dL_law__2568 hl (by decide) rfl (fun ls hl5 => ?_)
  have hl : lv_has ls 7 [(0, .ref b), (1, .ref ax), (2, .ref am), (3, .ref ao), (4, .int (nI (6 * i)))] := lv_sub hl5 [1, 2, 3, 4, 5] rfl
  refine lv_aload_n X.1 X.2.1 dL_law__2570 rfl (lv_at hl 2 rfl) ?_
  refine pushI1 C h hS hl dL_law__2571 dL_law__2572 dL_law__2574 dL_law__2575 dL_law__2576 ?_
  refine pushI2 C h hS hl dL_law__2577 dL_law__2578 dL_law__2580 dL_law__2581 dL_law__2582 ?_
  refine pushI3 C h hS hl dL_law__2583 dL_law__2584 dL_law__2586 dL_law__2587 dL_law__2588 ?_
  refine callZ (As := [.int (xs (6 * i + 1)), .int (xs (6 * i + 2)), .int (xs (6 * i + 3))]) (rest := []) X (hM2 ao o') mw_9_237 mw_9_238 mw_9_239 mw_1_12 mw_10_0 dc_X12_odds ⟨by have := hrm2.1; show rm2.frames + 1 ≤ 2048; omega, by have := hrm2.2.1; show 8 + (6 + 11) + rm2.locals ≤ 84000; omega⟩ hrm2.2.2.1 hrm2.2.2.2.1 ⟨by have := hrm.2.2.2.2.1; show cells + mc + 0 ≤ 601024; omega, by have := hrm.2.2.2.2.2; show slots + ms + 0 ≤ 7293034; omega⟩ hP hD hS (List.mem_append_left _ hm2) rfl rfl hl.1 (Nat.le_of_ble_eq_true rfl) dL_law__2589 (fun v w' H locs hv hP hD hS => ?_) (fun E q ce w' H locs hx hP hD hS y1 y2 y3 => hx.elim)
  obtain ⟨w2, rfl, bb, rfl, hT2, ho⟩ := hv
  refine W.eq (g2 := F0 m 2592 ls [.int bb]) rfl ?_
  exact tailI C hn hT2 ho hP hD hS hl5 (by have := hrm.2.2.2.2.1; omega) (by have := hrm.2.2.2.2.2; omega) (by omega) dL_law__2592 dL_law__2594 dL_law__2595 dL_law__2598 dL_law__2600 dL_law__2605 dL_law__2607 dL_law__2610 dL_law__2611 dL_law__2612 dL_law__2613 dL_law__2615 dL_law__2616 dL_law__2617 dL_law__2622 (by decide)
theorem case_42 {pr : Program} {l : Launch} {e : Env} {s : State} {m : MethodId} {below : List Frame} {meth : Method} {c : Code} {dC : Nat → ClassId} {dI : Nat → Nat → Nat} {sk sv : Nat → Nat} {tc : Nat → ClassId} {b L ax am ao i : Nat} {xs : Nat → Int32} (C : CC pr l s m meth c dC dI sk sv tc b L xs) (h : 6 * i + 6 ≤ L) (hn : GO pr l e s m below meth c dC dI tc b ax am ao i (i + 1) 3264) : GO pr l e s m below meth c dC dI tc b ax am ao i i 2625 := by
  obtain ⟨X, hr, hlk, hX, hbl, hL, hst⟩ := id C
  intro w t o H locs cells slots ls hT hP hD hS hl hc hs
  refine lv_aload_n X.1 X.2.1 dL_law__2625 rfl (lv_at hl 1 rfl) ?_
  refine pushI1 C h hS hl dL_law__2626 dL_law__2627 dL_law__2629 dL_law__2630 dL_law__2631 ?_
  refine pushZ (K := 0) C dL_law__2632 dL_law__2635 dL_law__2636 dL_law__2639 ?_
  obtain ⟨rm, mc, ms, hrm, hM⟩ := top_oftenest l hst dC dI sk sv tc ax am (bz (xs (6 * i + 1))) hT
  obtain ⟨fs, hm⟩ := hT.mem
  refine callZ (As := [.int (bz (xs (6 * i + 1)))]) (rest := []) X (hM ao o) mw_3_35 mw_3_36 mw_3_37 mw_1_1 mw_3_38 dc_X11_oftenest ⟨by have := hrm.1; show rm.frames + 1 ≤ 2048; omega, by have := hrm.2.1; show 8 + (2 + 11) + rm.locals ≤ 84000; omega⟩ hrm.2.2.1 hrm.2.2.2.1 ⟨by have := hrm.2.2.2.2.1; show cells + mc ≤ 601024; omega, by have := hrm.2.2.2.2.2; show slots + ms ≤ 7293034; omega⟩ hP hD hS (List.mem_append_left _ hm) rfl rfl hl.1 (Nat.le_of_ble_eq_true rfl) dL_law__2640 (fun v w' H locs hv hP hD hS => ?_) (fun E q ce w' H locs hx hP hD hS y1 y2 y3 => by obtain ⟨_, _, _, _, hx⟩ := hx; exact hx.elim)
  obtain ⟨w1, rfl, ⟨r, rfl⟩, ⟨fs2, hm2⟩, rm2, hrm2, hM2⟩ := hv
  refine W.eq (g2 := F0 m 2643 ls [.int r]) rfl ?_
  refine lv_aload_n X.1 X.2.1 dL_law__2643 rfl (lv_at hl 2 rfl) ?_
  refine pushI1 C h hS hl dL_law__2644 dL_law__2645 dL_law__2647 dL_law__2648 dL_law__2649 ?_
  refine pushZ (K := 0) C dL_law__2650 dL_law__2653 dL_law__2654 dL_law__2657 ?_
  refine callZ (As := [.int (bz (xs (6 * i + 1)))]) (rest := [.int r]) X (hM2 ao o) mw_10_1 mw_10_2 mw_10_3 mw_1_12 mw_10_4 dc_X12_oftenest ⟨by have := hrm2.1; show rm2.frames + 1 ≤ 2048; omega, by have := hrm2.2.1; show 8 + (5 + 11) + rm2.locals ≤ 84000; omega⟩ hrm2.2.2.1 hrm2.2.2.2.1 ⟨by have := hrm.2.2.2.2.1; show cells + mc + 0 ≤ 601024; omega, by have := hrm.2.2.2.2.2; show slots + ms + 0 ≤ 7293034; omega⟩ hP hD hS (List.mem_append_left _ hm2) rfl rfl hl.1 (Nat.le_of_ble_eq_true rfl) dL_law__2658 (fun v w' H locs hv hP hD hS => ?_) (fun E q ce w' H locs hx hP hD hS y1 y2 y3 => hx.elim)
  obtain ⟨w2, rfl, rfl, t2, hT2⟩ := hv
  refine W.eq (g2 := F0 m 2661 ls [.int r, .int r]) rfl ?_
  refine lv_icmp_eq (tgt := 3264) X.1 X.2.1 dL_law__2661 (by decide) (fun _ => ?_) (fun z => absurd rfl z)
  exact hn w2 t2 o H locs _ _ ls hT2 hP hD hS hl (by have := hrm.2.2.2.2.1; omega) (by have := hrm.2.2.2.2.2; omega)
theorem case_43 {pr : Program} {l : Launch} {e : Env} {s : State} {m : MethodId} {below : List Frame} {meth : Method} {c : Code} {dC : Nat → ClassId} {dI : Nat → Nat → Nat} {sk sv : Nat → Nat} {tc : Nat → ClassId} {b L ax am ao i : Nat} {xs : Nat → Int32} (C : CC pr l s m meth c dC dI sk sv tc b L xs) (h : 6 * i + 6 ≤ L) (hn : GO pr l e s m below meth c dC dI tc b ax am ao i (i + 1) 3264) : GO pr l e s m below meth c dC dI tc b ax am ao i i 2666 := by
  obtain ⟨X, hr, hlk, hX, hbl, hL, hst⟩ := id C
  intro w t o H locs cells slots ls hT hP hD hS hl hc hs
  refine lv_aload_n X.1 X.2.1 dL_law__2666 rfl (lv_at hl 1 rfl) ?_
  refine pushI1 C h hS hl dL_law__2667 dL_law__2668 dL_law__2670 dL_law__2671 dL_law__2672 ?_
  refine pushZ (K := 0) C dL_law__2673 dL_law__2676 dL_law__2677 dL_law__2680 ?_
  obtain ⟨rm, mc, ms, hrm, hM⟩ := top_quickest l hst dC dI sk sv tc ax am (bz (xs (6 * i + 1))) hT
  obtain ⟨fs, hm⟩ := hT.mem
  refine callZ (As := [.int (bz (xs (6 * i + 1)))]) (rest := []) X (hM ao o) mw_3_43 mw_3_44 mw_3_45 mw_1_1 mw_3_46 dc_X11_quickest ⟨by have := hrm.1; show rm.frames + 1 ≤ 2048; omega, by have := hrm.2.1; show 8 + (2 + 11) + rm.locals ≤ 84000; omega⟩ hrm.2.2.1 hrm.2.2.2.1 ⟨by have := hrm.2.2.2.2.1; show cells + mc ≤ 601024; omega, by have := hrm.2.2.2.2.2; show slots + ms ≤ 7293034; omega⟩ hP hD hS (List.mem_append_left _ hm) rfl rfl hl.1 (Nat.le_of_ble_eq_true rfl) dL_law__2681 (fun v w' H locs hv hP hD hS => ?_) (fun E q ce w' H locs hx hP hD hS y1 y2 y3 => by obtain ⟨_, _, _, _, hx⟩ := hx; exact hx.elim)
  obtain ⟨w1, rfl, ⟨r, rfl⟩, ⟨fs2, hm2⟩, rm2, hrm2, hM2⟩ := hv
  refine W.eq (g2 := F0 m 2684 ls [.int r]) rfl ?_
  refine lv_aload_n X.1 X.2.1 dL_law__2684 rfl (lv_at hl 2 rfl) ?_
  refine pushI1 C h hS hl dL_law__2685 dL_law__2686 dL_law__2688 dL_law__2689 dL_law__2690 ?_
  refine pushZ (K := 0) C dL_law__2691 dL_law__2694 dL_law__2695 dL_law__2698 ?_
  refine callZ (As := [.int (bz (xs (6 * i + 1)))]) (rest := [.int r]) X (hM2 ao o) mw_10_5 mw_10_6 mw_10_7 mw_1_12 mw_10_8 dc_X12_quickest ⟨by have := hrm2.1; show rm2.frames + 1 ≤ 2048; omega, by have := hrm2.2.1; show 8 + (5 + 11) + rm2.locals ≤ 84000; omega⟩ hrm2.2.2.1 hrm2.2.2.2.1 ⟨by have := hrm.2.2.2.2.1; show cells + mc + 0 ≤ 601024; omega, by have := hrm.2.2.2.2.2; show slots + ms + 0 ≤ 7293034; omega⟩ hP hD hS (List.mem_append_left _ hm2) rfl rfl hl.1 (Nat.le_of_ble_eq_true rfl) dL_law__2699 (fun v w' H locs hv hP hD hS => ?_) (fun E q ce w' H locs hx hP hD hS y1 y2 y3 => hx.elim)
  obtain ⟨w2, rfl, rfl, t2, hT2⟩ := hv
  refine W.eq (g2 := F0 m 2702 ls [.int r, .int r]) rfl ?_
  refine lv_icmp_eq (tgt := 3264) X.1 X.2.1 dL_law__2702 (by decide) (fun _ => ?_) (fun z => absurd rfl z)
  exact hn w2 t2 o H locs _ _ ls hT2 hP hD hS hl (by have := hrm.2.2.2.2.1; omega) (by have := hrm.2.2.2.2.2; omega)
theorem case_44 {pr : Program} {l : Launch} {e : Env} {s : State} {m : MethodId} {below : List Frame} {meth : Method} {c : Code} {dC : Nat → ClassId} {dI : Nat → Nat → Nat} {sk sv : Nat → Nat} {tc : Nat → ClassId} {b L ax am ao i : Nat} {xs : Nat → Int32} (C : CC pr l s m meth c dC dI sk sv tc b L xs) (h : 6 * i + 6 ≤ L) (hn : GO pr l e s m below meth c dC dI tc b ax am ao i (i + 1) 3264) : GO pr l e s m below meth c dC dI tc b ax am ao i i 2707 := by
  obtain ⟨X, hr, hlk, hX, hbl, hL, hst⟩ := id C
  intro w t o H locs cells slots ls hT hP hD hS hl hc hs
  refine lv_aload_n X.1 X.2.1 dL_law__2707 rfl (lv_at hl 1 rfl) ?_
  obtain ⟨rm, mc, ms, hrm, hM⟩ := top_twins l hst dC dI sk sv tc ax am hT
  obtain ⟨fs, hm⟩ := hT.mem
  refine callZ (As := []) (rest := []) X (hM ao o) mw_3_47 mw_3_48 mw_3_49 mw_1_1 mw_3_50 dc_X11_twins ⟨by have := hrm.1; show rm.frames + 1 ≤ 2048; omega, by have := hrm.2.1; show 8 + (1 + 11) + rm.locals ≤ 84000; omega⟩ hrm.2.2.1 hrm.2.2.2.1 ⟨by have := hrm.2.2.2.2.1; show cells + mc ≤ 601024; omega, by have := hrm.2.2.2.2.2; show slots + ms ≤ 7293034; omega⟩ hP hD hS (List.mem_append_left _ hm) rfl rfl hl.1 (Nat.le_of_ble_eq_true rfl) dL_law__2708 (fun v w' H locs hv hP hD hS => ?_) (fun E q ce w' H locs hx hP hD hS y1 y2 y3 => by obtain ⟨_, _, _, _, hx⟩ := hx; exact hx.elim)
  obtain ⟨w1, rfl, ⟨r, rfl⟩, ⟨fs2, hm2⟩, rm2, hrm2, hM2⟩ := hv
  refine W.eq (g2 := F0 m 2711 ls [.int r]) rfl ?_
  refine lv_aload_n X.1 X.2.1 dL_law__2711 rfl (lv_at hl 2 rfl) ?_
  refine callZ (As := []) (rest := [.int r]) X (hM2 ao o) mw_10_9 mw_10_10 mw_10_11 mw_1_12 mw_10_12 dc_X12_twins ⟨by have := hrm2.1; show rm2.frames + 1 ≤ 2048; omega, by have := hrm2.2.1; show 8 + (6 + 11) + rm2.locals ≤ 84000; omega⟩ hrm2.2.2.1 hrm2.2.2.2.1 ⟨by have := hrm.2.2.2.2.1; show cells + mc + 0 ≤ 601024; omega, by have := hrm.2.2.2.2.2; show slots + ms + 0 ≤ 7293034; omega⟩ hP hD hS (List.mem_append_left _ hm2) rfl rfl hl.1 (Nat.le_of_ble_eq_true rfl) dL_law__2712 (fun v w' H locs hv hP hD hS => ?_) (fun E q ce w' H locs hx hP hD hS y1 y2 y3 => hx.elim)
  obtain ⟨w2, rfl, rfl, t2, hT2⟩ := hv
  refine W.eq (g2 := F0 m 2715 ls [.int r, .int r]) rfl ?_
  refine lv_icmp_eq (tgt := 3264) X.1 X.2.1 dL_law__2715 (by decide) (fun _ => ?_) (fun z => absurd rfl z)
  exact hn w2 t2 o H locs _ _ ls hT2 hP hD hS hl (by have := hrm.2.2.2.2.1; omega) (by have := hrm.2.2.2.2.2; omega)
theorem case_45 {pr : Program} {l : Launch} {e : Env} {s : State} {m : MethodId} {below : List Frame} {meth : Method} {c : Code} {dC : Nat → ClassId} {dI : Nat → Nat → Nat} {sk sv : Nat → Nat} {tc : Nat → ClassId} {b L ax am ao i : Nat} {xs : Nat → Int32} (C : CC pr l s m meth c dC dI sk sv tc b L xs) (h : 6 * i + 6 ≤ L) (hn : GO pr l e s m below meth c dC dI tc b ax am ao i (i + 1) 3264) : GO pr l e s m below meth c dC dI tc b ax am ao i i 2720 := by
  obtain ⟨X, hr, hlk, hX, hbl, hL, hst⟩ := id C
  intro w t o H locs cells slots ls hT hP hD hS hl hc hs
  refine lv_aload_n X.1 X.2.1 dL_law__2720 rfl (lv_at hl 1 rfl) ?_
  refine pushI1 C h hS hl dL_law__2721 dL_law__2722 dL_law__2724 dL_law__2725 dL_law__2726 ?_
  refine lv_aload_n X.1 X.2.1 dL_law__2727 rfl (lv_at hl 3 rfl) ?_
  obtain ⟨rm, mc, ms, hrm, hM⟩ := top_uses l hst dC dI sk sv tc ax am (xs (6 * i + 1)) hT
  obtain ⟨fs, hm⟩ := hT.mem
  refine callZS (As := [.ref ax, .int (xs (6 * i + 1)), .ref ao]) (rest := []) X (w_uses l dC dI sk sv tc ax ao o (xs (6 * i + 1)) w ⟨hrm.1, hrm.2.1, hrm.2.2.1, hrm.2.2.2.1⟩ (List.mem_append_left _ hm) (fun k w1 hk => by have h := hk.1; simpa using h) (SC.w (fun v w1 hv => hv.1) (hM ao o))) mw_7_56 mw_7_57 mw_1_0 mwc_uses dcl_uses ⟨Nat.le_of_ble_eq_true rfl, Nat.le_of_ble_eq_true rfl⟩ rfl rfl ⟨by have := hrm.2.2.2.2.1; show cells + mc ≤ 601024; omega, by have := hrm.2.2.2.2.2; show slots + ms ≤ 7293034; omega⟩ hP hD hS hl.1 (Nat.le_of_ble_eq_true rfl) dL_law__2728 (fun v w' H locs hv hP hD hS => ?_)
  obtain ⟨kk, o', w1, rfl, rfl, ⟨fs2, hm2⟩, rm2, hrm2, hM2⟩ := w_due (by decide) hv
  refine W.eq (g2 := F0 m 2731 ls [.int kk]) rfl ?_
  refine lv_istore (lv' := [(5, .int kk), (0, .ref b), (1, .ref ax), (2, .ref am), (3, .ref ao), (4, .int (nI (6 * i)))]) X.1 X.2.1 dL_law__2731 hl (by decide) rfl (fun ls hl5 => ?_)
  have hl : lv_has ls 7 [(0, .ref b), (1, .ref ax), (2, .ref am), (3, .ref ao), (4, .int (nI (6 * i)))] := lv_sub hl5 [1, 2, 3, 4, 5] rfl
  refine lv_aload_n X.1 X.2.1 dL_law__2733 rfl (lv_at hl 2 rfl) ?_
  refine pushI1 C h hS hl dL_law__2734 dL_law__2735 dL_law__2737 dL_law__2738 dL_law__2739 ?_
  refine callZ (As := [.int (xs (6 * i + 1))]) (rest := []) X (hM2 ao o') mw_10_17 mw_10_18 mw_10_19 mw_1_12 mw_10_20 dc_X12_uses ⟨by have := hrm2.1; show rm2.frames + 1 ≤ 2048; omega, by have := hrm2.2.1; show 8 + (2 + 11) + rm2.locals ≤ 84000; omega⟩ hrm2.2.2.1 hrm2.2.2.2.1 ⟨by have := hrm.2.2.2.2.1; show cells + mc + 0 ≤ 601024; omega, by have := hrm.2.2.2.2.2; show slots + ms + 0 ≤ 7293034; omega⟩ hP hD hS (List.mem_append_left _ hm2) rfl rfl hl.1 (Nat.le_of_ble_eq_true rfl) dL_law__2740 (fun v w' H locs hv hP hD hS => ?_) (fun E q ce w' H locs hx hP hD hS y1 y2 y3 => hx.elim)
  obtain ⟨w2, rfl, bb, rfl, hT2, ho⟩ := hv
  refine W.eq (g2 := F0 m 2743 ls [.int bb]) rfl ?_
  exact tailI C hn hT2 ho hP hD hS hl5 (by have := hrm.2.2.2.2.1; omega) (by have := hrm.2.2.2.2.2; omega) (by omega) dL_law__2743 dL_law__2745 dL_law__2746 dL_law__2749 dL_law__2751 dL_law__2756 dL_law__2758 dL_law__2761 dL_law__2762 dL_law__2763 dL_law__2764 dL_law__2766 dL_law__2767 dL_law__2768 dL_law__2773 (by decide)
theorem case_46 {pr : Program} {l : Launch} {e : Env} {s : State} {m : MethodId} {below : List Frame} {meth : Method} {c : Code} {dC : Nat → ClassId} {dI : Nat → Nat → Nat} {sk sv : Nat → Nat} {tc : Nat → ClassId} {b L ax am ao i : Nat} {xs : Nat → Int32} (C : CC pr l s m meth c dC dI sk sv tc b L xs) (h : 6 * i + 6 ≤ L) (hn : GO pr l e s m below meth c dC dI tc b ax am ao i (i + 1) 3264) : GO pr l e s m below meth c dC dI tc b ax am ao i i 2776 := by
  obtain ⟨X, hr, hlk, hX, hbl, hL, hst⟩ := id C
  intro w t o H locs cells slots ls hT hP hD hS hl hc hs
  refine lv_aload_n X.1 X.2.1 dL_law__2776 rfl (lv_at hl 1 rfl) ?_
  obtain ⟨rm, mc, ms, hrm, hM⟩ := top_silent l hst dC dI sk sv tc ax am hT
  obtain ⟨fs, hm⟩ := hT.mem
  refine callZ (As := []) (rest := []) X (hM ao o) mw_3_59 mw_3_60 mw_3_61 mw_1_1 mw_3_62 dc_X11_silent ⟨by have := hrm.1; show rm.frames + 1 ≤ 2048; omega, by have := hrm.2.1; show 8 + (3 + 11) + rm.locals ≤ 84000; omega⟩ hrm.2.2.1 hrm.2.2.2.1 ⟨by have := hrm.2.2.2.2.1; show cells + mc ≤ 601024; omega, by have := hrm.2.2.2.2.2; show slots + ms ≤ 7293034; omega⟩ hP hD hS (List.mem_append_left _ hm) rfl rfl hl.1 (Nat.le_of_ble_eq_true rfl) dL_law__2777 (fun v w' H locs hv hP hD hS => ?_) (fun E q ce w' H locs hx hP hD hS y1 y2 y3 => by obtain ⟨_, _, _, _, hx⟩ := hx; exact hx.elim)
  obtain ⟨w1, rfl, ⟨r, rfl⟩, ⟨fs2, hm2⟩, rm2, hrm2, hM2⟩ := hv
  refine W.eq (g2 := F0 m 2780 ls [.int r]) rfl ?_
  refine lv_aload_n X.1 X.2.1 dL_law__2780 rfl (lv_at hl 2 rfl) ?_
  refine callZ (As := []) (rest := [.int r]) X (hM2 ao o) mw_10_25 mw_10_26 mw_10_27 mw_1_12 mw_10_28 dc_X12_silent ⟨by have := hrm2.1; show rm2.frames + 1 ≤ 2048; omega, by have := hrm2.2.1; show 8 + (3 + 11) + rm2.locals ≤ 84000; omega⟩ hrm2.2.2.1 hrm2.2.2.2.1 ⟨by have := hrm.2.2.2.2.1; show cells + mc + 0 ≤ 601024; omega, by have := hrm.2.2.2.2.2; show slots + ms + 0 ≤ 7293034; omega⟩ hP hD hS (List.mem_append_left _ hm2) rfl rfl hl.1 (Nat.le_of_ble_eq_true rfl) dL_law__2781 (fun v w' H locs hv hP hD hS => ?_) (fun E q ce w' H locs hx hP hD hS y1 y2 y3 => hx.elim)
  obtain ⟨w2, rfl, rfl, t2, hT2⟩ := hv
  refine W.eq (g2 := F0 m 2784 ls [.int r, .int r]) rfl ?_
  refine lv_icmp_eq (tgt := 3264) X.1 X.2.1 dL_law__2784 (by decide) (fun _ => ?_) (fun z => absurd rfl z)
  exact hn w2 t2 o H locs _ _ ls hT2 hP hD hS hl (by have := hrm.2.2.2.2.1; omega) (by have := hrm.2.2.2.2.2; omega)
theorem case_47 {pr : Program} {l : Launch} {e : Env} {s : State} {m : MethodId} {below : List Frame} {meth : Method} {c : Code} {dC : Nat → ClassId} {dI : Nat → Nat → Nat} {sk sv : Nat → Nat} {tc : Nat → ClassId} {b L ax am ao i : Nat} {xs : Nat → Int32} (C : CC pr l s m meth c dC dI sk sv tc b L xs) (h : 6 * i + 6 ≤ L) (hn : GO pr l e s m below meth c dC dI tc b ax am ao i (i + 1) 3264) : GO pr l e s m below meth c dC dI tc b ax am ao i i 2789 := by
  obtain ⟨X, hr, hlk, hX, hbl, hL, hst⟩ := id C
  intro w t o H locs cells slots ls hT hP hD hS hl hc hs
  refine lv_aload_n X.1 X.2.1 dL_law__2789 rfl (lv_at hl 1 rfl) ?_
  refine pushI1 C h hS hl dL_law__2790 dL_law__2791 dL_law__2793 dL_law__2794 dL_law__2795 ?_
  refine pushI2 C h hS hl dL_law__2796 dL_law__2797 dL_law__2799 dL_law__2800 dL_law__2801 ?_
  refine lv_aload_n X.1 X.2.1 dL_law__2802 rfl (lv_at hl 3 rfl) ?_
  obtain ⟨rm, mc, ms, hrm, hM⟩ := top_ahead l hst dC dI sk sv tc ax am (xs (6 * i + 1)) (xs (6 * i + 2)) hT
  obtain ⟨fs, hm⟩ := hT.mem
  refine callZS (As := [.ref ax, .int (xs (6 * i + 1)), .int (xs (6 * i + 2)), .ref ao]) (rest := []) X (w_ahead l dC dI sk sv tc ax ao o (xs (6 * i + 1)) (xs (6 * i + 2)) w ⟨hrm.1, hrm.2.1, hrm.2.2.1, hrm.2.2.2.1⟩ (List.mem_append_left _ hm) (fun k w1 hk => by have h := hk.1; simpa using h) (SC.w (fun v w1 hv => hv.1) (hM ao o))) mw_7_63 mw_7_64 mw_1_0 mwc_ahead dcl_ahead ⟨Nat.le_of_ble_eq_true rfl, Nat.le_of_ble_eq_true rfl⟩ rfl rfl ⟨by have := hrm.2.2.2.2.1; show cells + mc ≤ 601024; omega, by have := hrm.2.2.2.2.2; show slots + ms ≤ 7293034; omega⟩ hP hD hS hl.1 (Nat.le_of_ble_eq_true rfl) dL_law__2803 (fun v w' H locs hv hP hD hS => ?_)
  obtain ⟨kk, o', w1, rfl, rfl, ⟨fs2, hm2⟩, rm2, hrm2, hM2⟩ := w_due (by decide) hv
  refine W.eq (g2 := F0 m 2806 ls [.int kk]) rfl ?_
  refine lv_istore (lv' := [(5, .int kk), (0, .ref b), (1, .ref ax), (2, .ref am), (3, .ref ao), (4, .int (nI (6 * i)))]) X.1 X.2.1 dL_law__2806 hl (by decide) rfl (fun ls hl5 => ?_)
  have hl : lv_has ls 7 [(0, .ref b), (1, .ref ax), (2, .ref am), (3, .ref ao), (4, .int (nI (6 * i)))] := lv_sub hl5 [1, 2, 3, 4, 5] rfl
  refine lv_aload_n X.1 X.2.1 dL_law__2808 rfl (lv_at hl 2 rfl) ?_
  refine pushI1 C h hS hl dL_law__2809 dL_law__2810 dL_law__2812 dL_law__2813 dL_law__2814 ?_
  refine pushI2 C h hS hl dL_law__2815 dL_law__2816 dL_law__2818 dL_law__2819 dL_law__2820 ?_
  refine callZ (As := [.int (xs (6 * i + 1)), .int (xs (6 * i + 2))]) (rest := []) X (hM2 ao o') mw_10_29 mw_10_30 mw_10_31 mw_1_12 mw_10_32 dc_X12_ahead ⟨by have := hrm2.1; show rm2.frames + 1 ≤ 2048; omega, by have := hrm2.2.1; show 8 + (5 + 11) + rm2.locals ≤ 84000; omega⟩ hrm2.2.2.1 hrm2.2.2.2.1 ⟨by have := hrm.2.2.2.2.1; show cells + mc + 0 ≤ 601024; omega, by have := hrm.2.2.2.2.2; show slots + ms + 0 ≤ 7293034; omega⟩ hP hD hS (List.mem_append_left _ hm2) rfl rfl hl.1 (Nat.le_of_ble_eq_true rfl) dL_law__2821 (fun v w' H locs hv hP hD hS => ?_) (fun E q ce w' H locs hx hP hD hS y1 y2 y3 => hx.elim)
  obtain ⟨w2, rfl, bb, rfl, hT2, ho⟩ := hv
  refine W.eq (g2 := F0 m 2824 ls [.int bb]) rfl ?_
  exact tailI C hn hT2 ho hP hD hS hl5 (by have := hrm.2.2.2.2.1; omega) (by have := hrm.2.2.2.2.2; omega) (by omega) dL_law__2824 dL_law__2826 dL_law__2827 dL_law__2830 dL_law__2832 dL_law__2837 dL_law__2839 dL_law__2842 dL_law__2843 dL_law__2844 dL_law__2845 dL_law__2847 dL_law__2848 dL_law__2849 dL_law__2854 (by decide)
theorem case_48 {pr : Program} {l : Launch} {e : Env} {s : State} {m : MethodId} {below : List Frame} {meth : Method} {c : Code} {dC : Nat → ClassId} {dI : Nat → Nat → Nat} {sk sv : Nat → Nat} {tc : Nat → ClassId} {b L ax am ao i : Nat} {xs : Nat → Int32} (C : CC pr l s m meth c dC dI sk sv tc b L xs) (h : 6 * i + 6 ≤ L) (hn : GO pr l e s m below meth c dC dI tc b ax am ao i (i + 1) 3264) : GO pr l e s m below meth c dC dI tc b ax am ao i i 2857 := by
  obtain ⟨X, hr, hlk, hX, hbl, hL, hst⟩ := id C
  intro w t o H locs cells slots ls hT hP hD hS hl hc hs
  refine lv_aload_n X.1 X.2.1 dL_law__2857 rfl (lv_at hl 1 rfl) ?_
  refine pushI1 C h hS hl dL_law__2858 dL_law__2859 dL_law__2861 dL_law__2862 dL_law__2863 ?_
  refine pushI2 C h hS hl dL_law__2864 dL_law__2865 dL_law__2867 dL_law__2868 dL_law__2869 ?_
  refine pushZ (K := 0) C dL_law__2870 dL_law__2873 dL_law__2874 dL_law__2877 ?_
  refine lv_aload_n X.1 X.2.1 dL_law__2878 rfl (lv_at hl 3 rfl) ?_
  obtain ⟨rm, mc, ms, hrm, hM⟩ := top_trial l hst dC dI sk sv tc ax am (xs (6 * i + 1)) (bz (xs (6 * i + 2))) hT
  obtain ⟨fs, hm⟩ := hT.mem
  refine callZS (As := [.ref ax, .int (xs (6 * i + 1)), .int (bz (xs (6 * i + 2))), .ref ao]) (rest := []) X (w_trial l dC dI sk sv tc ax ao o (xs (6 * i + 1)) (bz (xs (6 * i + 2))) w ⟨hrm.1, hrm.2.1, hrm.2.2.1, hrm.2.2.2.1⟩ (List.mem_append_left _ hm) (fun k w1 hk => by have h := hk.1; simpa using h) (SC.w (fun v w1 hv => hv.1) (hM ao o))) mw_7_70 mw_7_71 mw_1_0 mwc_trial dcl_trial ⟨Nat.le_of_ble_eq_true rfl, Nat.le_of_ble_eq_true rfl⟩ rfl rfl ⟨by have := hrm.2.2.2.2.1; show cells + mc ≤ 601024; omega, by have := hrm.2.2.2.2.2; show slots + ms ≤ 7293034; omega⟩ hP hD hS hl.1 (Nat.le_of_ble_eq_true rfl) dL_law__2879 (fun v w' H locs hv hP hD hS => ?_)
  obtain ⟨kk, o', w1, rfl, rfl, ⟨fs2, hm2⟩, rm2, hrm2, hM2⟩ := w_due (by decide) hv
  refine W.eq (g2 := F0 m 2882 ls [.int kk]) rfl ?_
  refine lv_istore (lv' := [(5, .int kk), (0, .ref b), (1, .ref ax), (2, .ref am), (3, .ref ao), (4, .int (nI (6 * i)))]) X.1 X.2.1 dL_law__2882 hl (by decide) rfl (fun ls hl5 => ?_)
  have hl : lv_has ls 7 [(0, .ref b), (1, .ref ax), (2, .ref am), (3, .ref ao), (4, .int (nI (6 * i)))] := lv_sub hl5 [1, 2, 3, 4, 5] rfl
  refine lv_aload_n X.1 X.2.1 dL_law__2884 rfl (lv_at hl 2 rfl) ?_
  refine pushI1 C h hS hl dL_law__2885 dL_law__2886 dL_law__2888 dL_law__2889 dL_law__2890 ?_
  refine pushI2 C h hS hl dL_law__2891 dL_law__2892 dL_law__2894 dL_law__2895 dL_law__2896 ?_
  refine pushZ (K := 0) C dL_law__2897 dL_law__2900 dL_law__2901 dL_law__2904 ?_
  refine callZ (As := [.int (xs (6 * i + 1)), .int (bz (xs (6 * i + 2)))]) (rest := []) X (hM2 ao o') mw_10_33 mw_10_34 mw_10_35 mw_1_12 mw_10_36 dc_X12_trial ⟨by have := hrm2.1; show rm2.frames + 1 ≤ 2048; omega, by have := hrm2.2.1; show 8 + (5 + 11) + rm2.locals ≤ 84000; omega⟩ hrm2.2.2.1 hrm2.2.2.2.1 ⟨by have := hrm.2.2.2.2.1; show cells + mc + 0 ≤ 601024; omega, by have := hrm.2.2.2.2.2; show slots + ms + 0 ≤ 7293034; omega⟩ hP hD hS (List.mem_append_left _ hm2) rfl rfl hl.1 (Nat.le_of_ble_eq_true rfl) dL_law__2905 (fun v w' H locs hv hP hD hS => ?_) (fun E q ce w' H locs hx hP hD hS y1 y2 y3 => hx.elim)
  obtain ⟨w2, rfl, bb, rfl, hT2, ho⟩ := hv
  refine W.eq (g2 := F0 m 2908 ls [.int bb]) rfl ?_
  exact tailI C hn hT2 ho hP hD hS hl5 (by have := hrm.2.2.2.2.1; omega) (by have := hrm.2.2.2.2.2; omega) (by omega) dL_law__2908 dL_law__2910 dL_law__2911 dL_law__2914 dL_law__2916 dL_law__2921 dL_law__2923 dL_law__2926 dL_law__2927 dL_law__2928 dL_law__2929 dL_law__2931 dL_law__2932 dL_law__2933 dL_law__2938 (by decide)
theorem case_49 {pr : Program} {l : Launch} {e : Env} {s : State} {m : MethodId} {below : List Frame} {meth : Method} {c : Code} {dC : Nat → ClassId} {dI : Nat → Nat → Nat} {sk sv : Nat → Nat} {tc : Nat → ClassId} {b L ax am ao i : Nat} {xs : Nat → Int32} (C : CC pr l s m meth c dC dI sk sv tc b L xs) (h : 6 * i + 6 ≤ L) (hn : GO pr l e s m below meth c dC dI tc b ax am ao i (i + 1) 3264) : GO pr l e s m below meth c dC dI tc b ax am ao i i 2941 := by
  obtain ⟨X, hr, hlk, hX, hbl, hL, hst⟩ := id C
  intro w t o H locs cells slots ls hT hP hD hS hl hc hs
  refine lv_aload_n X.1 X.2.1 dL_law__2941 rfl (lv_at hl 1 rfl) ?_
  refine pushI1 C h hS hl dL_law__2942 dL_law__2943 dL_law__2945 dL_law__2946 dL_law__2947 ?_
  refine pushI2 C h hS hl dL_law__2948 dL_law__2949 dL_law__2951 dL_law__2952 dL_law__2953 ?_
  refine pushZ (K := 0) C dL_law__2954 dL_law__2957 dL_law__2958 dL_law__2961 ?_
  refine lv_aload_n X.1 X.2.1 dL_law__2962 rfl (lv_at hl 3 rfl) ?_
  obtain ⟨rm, mc, ms, hrm, hM⟩ := top_span l hst dC dI sk sv tc ax am (xs (6 * i + 1)) (bz (xs (6 * i + 2))) hT
  obtain ⟨fs, hm⟩ := hT.mem
  refine callZS (As := [.ref ax, .int (xs (6 * i + 1)), .int (bz (xs (6 * i + 2))), .ref ao]) (rest := []) X (w_span l dC dI sk sv tc ax ao o (xs (6 * i + 1)) (bz (xs (6 * i + 2))) w ⟨hrm.1, hrm.2.1, hrm.2.2.1, hrm.2.2.2.1⟩ (List.mem_append_left _ hm) (fun k w1 hk => by have h := hk.1; simpa using h) (SC.w (fun v w1 hv => hv.1) (hM ao o))) mw_7_78 mw_7_79 mw_1_0 mwc_span dcl_span ⟨Nat.le_of_ble_eq_true rfl, Nat.le_of_ble_eq_true rfl⟩ rfl rfl ⟨by have := hrm.2.2.2.2.1; show cells + mc ≤ 601024; omega, by have := hrm.2.2.2.2.2; show slots + ms ≤ 7293034; omega⟩ hP hD hS hl.1 (Nat.le_of_ble_eq_true rfl) dL_law__2963 (fun v w' H locs hv hP hD hS => ?_)
  obtain ⟨kk, o', w1, rfl, rfl, ⟨fs2, hm2⟩, rm2, hrm2, hM2⟩ := w_due (by decide) hv
  refine W.eq (g2 := F0 m 2966 ls [.int kk]) rfl ?_
  refine lv_istore (lv' := [(5, .int kk), (0, .ref b), (1, .ref ax), (2, .ref am), (3, .ref ao), (4, .int (nI (6 * i)))]) X.1 X.2.1 dL_law__2966 hl (by decide) rfl (fun ls hl5 => ?_)
  have hl : lv_has ls 7 [(0, .ref b), (1, .ref ax), (2, .ref am), (3, .ref ao), (4, .int (nI (6 * i)))] := lv_sub hl5 [1, 2, 3, 4, 5] rfl
  refine lv_aload_n X.1 X.2.1 dL_law__2968 rfl (lv_at hl 2 rfl) ?_
  refine pushI1 C h hS hl dL_law__2969 dL_law__2970 dL_law__2972 dL_law__2973 dL_law__2974 ?_
  refine pushI2 C h hS hl dL_law__2975 dL_law__2976 dL_law__2978 dL_law__2979 dL_law__2980 ?_
  refine pushZ (K := 0) C dL_law__2981 dL_law__2984 dL_law__2985 dL_law__2988 ?_
  refine callZ (As := [.int (xs (6 * i + 1)), .int (bz (xs (6 * i + 2)))]) (rest := []) X (hM2 ao o') mw_10_41 mw_10_42 mw_10_43 mw_1_12 mw_10_44 dc_X12_span ⟨by have := hrm2.1; show rm2.frames + 1 ≤ 2048; omega, by have := hrm2.2.1; show 8 + (7 + 11) + rm2.locals ≤ 84000; omega⟩ hrm2.2.2.1 hrm2.2.2.2.1 ⟨by have := hrm.2.2.2.2.1; show cells + mc + 0 ≤ 601024; omega, by have := hrm.2.2.2.2.2; show slots + ms + 0 ≤ 7293034; omega⟩ hP hD hS (List.mem_append_left _ hm2) rfl rfl hl.1 (Nat.le_of_ble_eq_true rfl) dL_law__2989 (fun v w' H locs hv hP hD hS => ?_) (fun E q ce w' H locs hx hP hD hS y1 y2 y3 => hx.elim)
  obtain ⟨w2, rfl, bb, rfl, hT2, ho⟩ := hv
  refine W.eq (g2 := F0 m 2992 ls [.int bb]) rfl ?_
  exact tailI C hn hT2 ho hP hD hS hl5 (by have := hrm.2.2.2.2.1; omega) (by have := hrm.2.2.2.2.2; omega) (by omega) dL_law__2992 dL_law__2994 dL_law__2995 dL_law__2998 dL_law__3000 dL_law__3005 dL_law__3007 dL_law__3010 dL_law__3011 dL_law__3012 dL_law__3013 dL_law__3015 dL_law__3016 dL_law__3017 dL_law__3022 (by decide)
theorem case_50 {pr : Program} {l : Launch} {e : Env} {s : State} {m : MethodId} {below : List Frame} {meth : Method} {c : Code} {dC : Nat → ClassId} {dI : Nat → Nat → Nat} {sk sv : Nat → Nat} {tc : Nat → ClassId} {b L ax am ao i : Nat} {xs : Nat → Int32} (C : CC pr l s m meth c dC dI sk sv tc b L xs) (h : 6 * i + 6 ≤ L) (hn : GO pr l e s m below meth c dC dI tc b ax am ao i (i + 1) 3264) : GO pr l e s m below meth c dC dI tc b ax am ao i i 3025 := by
  obtain ⟨X, hr, hlk, hX, hbl, hL, hst⟩ := id C
  intro w t o H locs cells slots ls hT hP hD hS hl hc hs
  refine lv_aload_n X.1 X.2.1 dL_law__3025 rfl (lv_at hl 1 rfl) ?_
  refine pushI1 C h hS hl dL_law__3026 dL_law__3027 dL_law__3029 dL_law__3030 dL_law__3031 ?_
  refine pushI2 C h hS hl dL_law__3032 dL_law__3033 dL_law__3035 dL_law__3036 dL_law__3037 ?_
  refine pushZ (K := 0) C dL_law__3038 dL_law__3041 dL_law__3042 dL_law__3045 ?_
  refine lv_aload_n X.1 X.2.1 dL_law__3046 rfl (lv_at hl 3 rfl) ?_
  obtain ⟨rm, mc, ms, hrm, hM⟩ := top_led l hst dC dI sk sv tc ax am (xs (6 * i + 1)) (bz (xs (6 * i + 2))) hT
  obtain ⟨fs, hm⟩ := hT.mem
  refine callZS (As := [.ref ax, .int (xs (6 * i + 1)), .int (bz (xs (6 * i + 2))), .ref ao]) (rest := []) X (w_led l dC dI sk sv tc ax ao o (xs (6 * i + 1)) (bz (xs (6 * i + 2))) w ⟨hrm.1, hrm.2.1, hrm.2.2.1, hrm.2.2.2.1⟩ (List.mem_append_left _ hm) (fun k w1 hk => by have h := hk.1; simpa using h) (SC.w (fun v w1 hv => hv.1) (hM ao o))) mw_7_86 mw_7_87 mw_1_0 mwc_led dcl_led ⟨Nat.le_of_ble_eq_true rfl, Nat.le_of_ble_eq_true rfl⟩ rfl rfl ⟨by have := hrm.2.2.2.2.1; show cells + mc ≤ 601024; omega, by have := hrm.2.2.2.2.2; show slots + ms ≤ 7293034; omega⟩ hP hD hS hl.1 (Nat.le_of_ble_eq_true rfl) dL_law__3047 (fun v w' H locs hv hP hD hS => ?_)
  obtain ⟨kk, o', w1, rfl, rfl, ⟨fs2, hm2⟩, rm2, hrm2, hM2⟩ := w_due (by decide) hv
  refine W.eq (g2 := F0 m 3050 ls [.int kk]) rfl ?_
  refine lv_istore (lv' := [(5, .int kk), (0, .ref b), (1, .ref ax), (2, .ref am), (3, .ref ao), (4, .int (nI (6 * i)))]) X.1 X.2.1 dL_law__3050 hl (by decide) rfl (fun ls hl5 => ?_)
  have hl : lv_has ls 7 [(0, .ref b), (1, .ref ax), (2, .ref am), (3, .ref ao), (4, .int (nI (6 * i)))] := lv_sub hl5 [1, 2, 3, 4, 5] rfl
  refine lv_aload_n X.1 X.2.1 dL_law__3052 rfl (lv_at hl 2 rfl) ?_
  refine pushI1 C h hS hl dL_law__3053 dL_law__3054 dL_law__3056 dL_law__3057 dL_law__3058 ?_
  refine pushI2 C h hS hl dL_law__3059 dL_law__3060 dL_law__3062 dL_law__3063 dL_law__3064 ?_
  refine pushZ (K := 0) C dL_law__3065 dL_law__3068 dL_law__3069 dL_law__3072 ?_
  refine callZ (As := [.int (xs (6 * i + 1)), .int (bz (xs (6 * i + 2)))]) (rest := []) X (hM2 ao o') mw_10_45 mw_10_46 mw_10_47 mw_1_12 mw_10_48 dc_X12_led ⟨by have := hrm2.1; show rm2.frames + 1 ≤ 2048; omega, by have := hrm2.2.1; show 8 + (6 + 11) + rm2.locals ≤ 84000; omega⟩ hrm2.2.2.1 hrm2.2.2.2.1 ⟨by have := hrm.2.2.2.2.1; show cells + mc + 0 ≤ 601024; omega, by have := hrm.2.2.2.2.2; show slots + ms + 0 ≤ 7293034; omega⟩ hP hD hS (List.mem_append_left _ hm2) rfl rfl hl.1 (Nat.le_of_ble_eq_true rfl) dL_law__3073 (fun v w' H locs hv hP hD hS => ?_) (fun E q ce w' H locs hx hP hD hS y1 y2 y3 => hx.elim)
  obtain ⟨w2, rfl, bb, rfl, hT2, ho⟩ := hv
  refine W.eq (g2 := F0 m 3076 ls [.int bb]) rfl ?_
  exact tailI C hn hT2 ho hP hD hS hl5 (by have := hrm.2.2.2.2.1; omega) (by have := hrm.2.2.2.2.2; omega) (by omega) dL_law__3076 dL_law__3078 dL_law__3079 dL_law__3082 dL_law__3084 dL_law__3089 dL_law__3091 dL_law__3094 dL_law__3095 dL_law__3096 dL_law__3097 dL_law__3099 dL_law__3100 dL_law__3101 dL_law__3106 (by decide)
theorem case_51 {pr : Program} {l : Launch} {e : Env} {s : State} {m : MethodId} {below : List Frame} {meth : Method} {c : Code} {dC : Nat → ClassId} {dI : Nat → Nat → Nat} {sk sv : Nat → Nat} {tc : Nat → ClassId} {b L ax am ao i : Nat} {xs : Nat → Int32} (C : CC pr l s m meth c dC dI sk sv tc b L xs) (h : 6 * i + 6 ≤ L) (hn : GO pr l e s m below meth c dC dI tc b ax am ao i (i + 1) 3264) : GO pr l e s m below meth c dC dI tc b ax am ao i i 3109 := by
  obtain ⟨X, hr, hlk, hX, hbl, hL, hst⟩ := id C
  intro w t o H locs cells slots ls hT hP hD hS hl hc hs
  refine lv_aload_n X.1 X.2.1 dL_law__3109 rfl (lv_at hl 1 rfl) ?_
  refine pushI1 C h hS hl dL_law__3110 dL_law__3111 dL_law__3113 dL_law__3114 dL_law__3115 ?_
  refine pushI2 C h hS hl dL_law__3116 dL_law__3117 dL_law__3119 dL_law__3120 dL_law__3121 ?_
  refine lv_aload_n X.1 X.2.1 dL_law__3122 rfl (lv_at hl 3 rfl) ?_
  obtain ⟨rm, mc, ms, hrm, hM⟩ := top_log l hst dC dI sk sv tc ax am (xs (6 * i + 1)) (xs (6 * i + 2)) hT
  obtain ⟨fs, hm⟩ := hT.mem
  refine callZS (As := [.ref ax, .int (xs (6 * i + 1)), .int (xs (6 * i + 2)), .ref ao]) (rest := []) X (w_log l dC dI sk sv tc ax ao o (xs (6 * i + 1)) (xs (6 * i + 2)) w ⟨hrm.1, hrm.2.1, hrm.2.2.1, hrm.2.2.2.1⟩ (List.mem_append_left _ hm) (fun k w1 hk => by have h := hk.1; simpa using h) (SC.w (fun v w1 hv => hv.1) (hM ao o))) mw_7_105 mw_7_106 mw_1_0 mwc_log dcl_log ⟨Nat.le_of_ble_eq_true rfl, Nat.le_of_ble_eq_true rfl⟩ rfl rfl ⟨by have := hrm.2.2.2.2.1; show cells + mc ≤ 601024; omega, by have := hrm.2.2.2.2.2; show slots + ms ≤ 7293034; omega⟩ hP hD hS hl.1 (Nat.le_of_ble_eq_true rfl) dL_law__3123 (fun v w' H locs hv hP hD hS => ?_)
  obtain ⟨kk, o', w1, rfl, rfl, ⟨fs2, hm2⟩, rm2, hrm2, hM2⟩ := w_due (by decide) hv
  refine W.eq (g2 := F0 m 3126 ls [.int kk]) rfl ?_
  refine lv_istore (lv' := [(5, .int kk), (0, .ref b), (1, .ref ax), (2, .ref am), (3, .ref ao), (4, .int (nI (6 * i)))]) X.1 X.2.1 dL_law__3126 hl (by decide) rfl (fun ls hl5 => ?_)
  have hl : lv_has ls 7 [(0, .ref b), (1, .ref ax), (2, .ref am), (3, .ref ao), (4, .int (nI (6 * i)))] := lv_sub hl5 [1, 2, 3, 4, 5] rfl
  refine lv_aload_n X.1 X.2.1 dL_law__3128 rfl (lv_at hl 2 rfl) ?_
  refine pushI1 C h hS hl dL_law__3129 dL_law__3130 dL_law__3132 dL_law__3133 dL_law__3134 ?_
  refine pushI2 C h hS hl dL_law__3135 dL_law__3136 dL_law__3138 dL_law__3139 dL_law__3140 ?_
  refine callZ (As := [.int (xs (6 * i + 1)), .int (xs (6 * i + 2))]) (rest := []) X (hM2 ao o') mw_10_53 mw_10_54 mw_10_55 mw_1_12 mw_10_56 dc_X12_log ⟨by have := hrm2.1; show rm2.frames + 1 ≤ 2048; omega, by have := hrm2.2.1; show 8 + (3 + 11) + rm2.locals ≤ 84000; omega⟩ hrm2.2.2.1 hrm2.2.2.2.1 ⟨by have := hrm.2.2.2.2.1; show cells + mc + 0 ≤ 601024; omega, by have := hrm.2.2.2.2.2; show slots + ms + 0 ≤ 7293034; omega⟩ hP hD hS (List.mem_append_left _ hm2) rfl rfl hl.1 (Nat.le_of_ble_eq_true rfl) dL_law__3141 (fun v w' H locs hv hP hD hS => ?_) (fun E q ce w' H locs hx hP hD hS y1 y2 y3 => hx.elim)
  obtain ⟨w2, rfl, bb, rfl, hT2, ho⟩ := hv
  refine W.eq (g2 := F0 m 3144 ls [.int bb]) rfl ?_
  exact tailI C hn hT2 ho hP hD hS hl5 (by have := hrm.2.2.2.2.1; omega) (by have := hrm.2.2.2.2.2; omega) (by omega) dL_law__3144 dL_law__3146 dL_law__3147 dL_law__3150 dL_law__3152 dL_law__3157 dL_law__3159 dL_law__3162 dL_law__3163 dL_law__3164 dL_law__3165 dL_law__3167 dL_law__3168 dL_law__3169 dL_law__3174 (by decide)
theorem case_52 {pr : Program} {l : Launch} {e : Env} {s : State} {m : MethodId} {below : List Frame} {meth : Method} {c : Code} {dC : Nat → ClassId} {dI : Nat → Nat → Nat} {sk sv : Nat → Nat} {tc : Nat → ClassId} {b L ax am ao i : Nat} {xs : Nat → Int32} (C : CC pr l s m meth c dC dI sk sv tc b L xs) (h : 6 * i + 6 ≤ L) (hn : GO pr l e s m below meth c dC dI tc b ax am ao i (i + 1) 3264) : GO pr l e s m below meth c dC dI tc b ax am ao i i 3177 := by
  obtain ⟨X, hr, hlk, hX, hbl, hL, hst⟩ := id C
  intro w t o H locs cells slots ls hT hP hD hS hl hc hs
  refine lv_aload_n X.1 X.2.1 dL_law__3177 rfl (lv_at hl 1 rfl) ?_
  refine pushI1 C h hS hl dL_law__3178 dL_law__3179 dL_law__3181 dL_law__3182 dL_law__3183 ?_
  obtain ⟨rm, mc, ms, hrm, hM⟩ := top_seed l hst dC dI sk sv tc ax am (xs (6 * i + 1)) hT
  obtain ⟨fs, hm⟩ := hT.mem
  refine callZ (As := [.int (xs (6 * i + 1))]) (rest := []) X (hM ao o) mw_3_71 mw_3_72 mw_3_73 mw_1_1 mw_3_74 dc_X11_seed ⟨by have := hrm.1; show rm.frames + 1 ≤ 2048; omega, by have := hrm.2.1; show 8 + (3 + 11) + rm.locals ≤ 84000; omega⟩ hrm.2.2.1 hrm.2.2.2.1 ⟨by have := hrm.2.2.2.2.1; show cells + mc ≤ 601024; omega, by have := hrm.2.2.2.2.2; show slots + ms ≤ 7293034; omega⟩ hP hD hS (List.mem_append_left _ hm) rfl rfl hl.1 (Nat.le_of_ble_eq_true rfl) dL_law__3184 (fun v w' H locs hv hP hD hS => ?_) (fun E q ce w' H locs hx hP hD hS y1 y2 y3 => by obtain ⟨_, _, _, _, hx⟩ := hx; exact hx.elim)
  obtain ⟨w1, rfl, ⟨r, rfl⟩, ⟨fs2, hm2⟩, rm2, hrm2, hM2⟩ := hv
  refine W.eq (g2 := F0 m 3187 ls [.int r]) rfl ?_
  refine lv_aload_n X.1 X.2.1 dL_law__3187 rfl (lv_at hl 2 rfl) ?_
  refine pushI1 C h hS hl dL_law__3188 dL_law__3189 dL_law__3191 dL_law__3192 dL_law__3193 ?_
  refine callZ (As := [.int (xs (6 * i + 1))]) (rest := [.int r]) X (hM2 ao o) mw_10_57 mw_10_58 mw_10_59 mw_1_12 mw_10_60 dc_X12_seed ⟨by have := hrm2.1; show rm2.frames + 1 ≤ 2048; omega, by have := hrm2.2.1; show 8 + (3 + 11) + rm2.locals ≤ 84000; omega⟩ hrm2.2.2.1 hrm2.2.2.2.1 ⟨by have := hrm.2.2.2.2.1; show cells + mc + 0 ≤ 601024; omega, by have := hrm.2.2.2.2.2; show slots + ms + 0 ≤ 7293034; omega⟩ hP hD hS (List.mem_append_left _ hm2) rfl rfl hl.1 (Nat.le_of_ble_eq_true rfl) dL_law__3194 (fun v w' H locs hv hP hD hS => ?_) (fun E q ce w' H locs hx hP hD hS y1 y2 y3 => hx.elim)
  obtain ⟨w2, rfl, rfl, t2, hT2⟩ := hv
  refine W.eq (g2 := F0 m 3197 ls [.int r, .int r]) rfl ?_
  refine lv_icmp_eq (tgt := 3264) X.1 X.2.1 dL_law__3197 (by decide) (fun _ => ?_) (fun z => absurd rfl z)
  exact hn w2 t2 o H locs _ _ ls hT2 hP hD hS hl (by have := hrm.2.2.2.2.1; omega) (by have := hrm.2.2.2.2.2; omega)
theorem case_53 {pr : Program} {l : Launch} {e : Env} {s : State} {m : MethodId} {below : List Frame} {meth : Method} {c : Code} {dC : Nat → ClassId} {dI : Nat → Nat → Nat} {sk sv : Nat → Nat} {tc : Nat → ClassId} {b L ax am ao i : Nat} {xs : Nat → Int32} (C : CC pr l s m meth c dC dI sk sv tc b L xs) (h : 6 * i + 6 ≤ L) (hn : GO pr l e s m below meth c dC dI tc b ax am ao i (i + 1) 3264) : GO pr l e s m below meth c dC dI tc b ax am ao i i 3202 := by
  obtain ⟨X, hr, hlk, hX, hbl, hL, hst⟩ := id C
  intro w t o H locs cells slots ls hT hP hD hS hl hc hs
  refine lv_aload_n X.1 X.2.1 dL_law__3202 rfl (lv_at hl 1 rfl) ?_
  obtain ⟨rm, mc, ms, hrm, hM⟩ := top_undo l hst dC dI sk sv tc ax am hT
  obtain ⟨fs, hm⟩ := hT.mem
  refine callZ (As := []) (rest := []) X (hM ao o) mw_3_75 mw_3_76 mw_3_77 mw_1_1 mw_3_78 dc_X11_undo ⟨by have := hrm.1; show rm.frames + 1 ≤ 2048; omega, by have := hrm.2.1; show 8 + (2 + 11) + rm.locals ≤ 84000; omega⟩ hrm.2.2.1 hrm.2.2.2.1 ⟨by have := hrm.2.2.2.2.1; show cells + mc ≤ 601024; omega, by have := hrm.2.2.2.2.2; show slots + ms ≤ 7293034; omega⟩ hP hD hS (List.mem_append_left _ hm) rfl rfl hl.1 (Nat.le_of_ble_eq_true rfl) dL_law__3203 (fun v w' H locs hv hP hD hS => ?_) (fun E q ce w' H locs hx hP hD hS y1 y2 y3 => by obtain ⟨_, _, _, _, hx⟩ := hx; exact hx.elim)
  obtain ⟨w1, rfl, ⟨r, rfl⟩, ⟨fs2, hm2⟩, rm2, hrm2, hM2⟩ := hv
  refine W.eq (g2 := F0 m 3206 ls [.int r]) rfl ?_
  refine lv_aload_n X.1 X.2.1 dL_law__3206 rfl (lv_at hl 2 rfl) ?_
  refine callZ (As := []) (rest := [.int r]) X (hM2 ao o) mw_10_61 mw_10_62 mw_10_63 mw_1_12 mw_10_64 dc_X12_undo ⟨by have := hrm2.1; show rm2.frames + 1 ≤ 2048; omega, by have := hrm2.2.1; show 8 + (2 + 11) + rm2.locals ≤ 84000; omega⟩ hrm2.2.2.1 hrm2.2.2.2.1 ⟨by have := hrm.2.2.2.2.1; show cells + mc + 0 ≤ 601024; omega, by have := hrm.2.2.2.2.2; show slots + ms + 0 ≤ 7293034; omega⟩ hP hD hS (List.mem_append_left _ hm2) rfl rfl hl.1 (Nat.le_of_ble_eq_true rfl) dL_law__3207 (fun v w' H locs hv hP hD hS => ?_) (fun E q ce w' H locs hx hP hD hS y1 y2 y3 => hx.elim)
  obtain ⟨w2, rfl, rfl, t2, hT2⟩ := hv
  refine W.eq (g2 := F0 m 3210 ls [.int r, .int r]) rfl ?_
  refine lv_icmp_eq (tgt := 3264) X.1 X.2.1 dL_law__3210 (by decide) (fun _ => ?_) (fun z => absurd rfl z)
  exact hn w2 t2 o H locs _ _ ls hT2 hP hD hS hl (by have := hrm.2.2.2.2.1; omega) (by have := hrm.2.2.2.2.2; omega)
theorem case_54 {pr : Program} {l : Launch} {e : Env} {s : State} {m : MethodId} {below : List Frame} {meth : Method} {c : Code} {dC : Nat → ClassId} {dI : Nat → Nat → Nat} {sk sv : Nat → Nat} {tc : Nat → ClassId} {b L ax am ao i : Nat} {xs : Nat → Int32} (C : CC pr l s m meth c dC dI sk sv tc b L xs) (h : 6 * i + 6 ≤ L) (hn : GO pr l e s m below meth c dC dI tc b ax am ao i (i + 1) 3264) : GO pr l e s m below meth c dC dI tc b ax am ao i i 3215 := by
  obtain ⟨X, hr, hlk, hX, hbl, hL, hst⟩ := id C
  intro w t o H locs cells slots ls hT hP hD hS hl hc hs
  refine lv_aload_n X.1 X.2.1 dL_law__3215 rfl (lv_at hl 1 rfl) ?_
  obtain ⟨rm, mc, ms, hrm, hM⟩ := top_image l hst dC dI sk sv tc ax am hT
  obtain ⟨fs, hm⟩ := hT.mem
  refine callZ (As := []) (rest := []) X (hM ao o) mw_3_91 mw_3_92 mw_3_93 mw_1_1 mw_3_94 dc_X11_image ⟨by have := hrm.1; show rm.frames + 1 ≤ 2048; omega, by have := hrm.2.1; show 8 + (1 + 11) + rm.locals ≤ 84000; omega⟩ hrm.2.2.1 hrm.2.2.2.1 ⟨by have := hrm.2.2.2.2.1; show cells + mc ≤ 601024; omega, by have := hrm.2.2.2.2.2; show slots + ms ≤ 7293034; omega⟩ hP hD hS (List.mem_append_left _ hm) rfl rfl hl.1 (Nat.le_of_ble_eq_true rfl) dL_law__3216 (fun v w' H locs hv hP hD hS => ?_) (fun E q ce w' H locs hx hP hD hS y1 y2 y3 => by obtain ⟨_, _, _, _, hx⟩ := hx; exact hx.elim)
  obtain ⟨w1, rfl, rfl, ⟨fs2, hm2⟩, rm2, hrm2, hM2⟩ := hv
  refine W.eq (g2 := F0 m 3219 ls []) rfl ?_
  refine lv_aload_n X.1 X.2.1 dL_law__3219 rfl (lv_at hl 2 rfl) ?_
  refine callZ (As := []) (rest := []) X (hM2 ao o) mw_10_65 mw_10_66 mw_10_67 mw_1_12 mw_10_68 dc_X12_image ⟨by have := hrm2.1; show rm2.frames + 1 ≤ 2048; omega, by have := hrm2.2.1; show 8 + (2 + 11) + rm2.locals ≤ 84000; omega⟩ hrm2.2.2.1 hrm2.2.2.2.1 ⟨by have := hrm.2.2.2.2.1; show cells + mc + 0 ≤ 601024; omega, by have := hrm.2.2.2.2.2; show slots + ms + 0 ≤ 7293034; omega⟩ hP hD hS (List.mem_append_left _ hm2) rfl rfl hl.1 (Nat.le_of_ble_eq_true rfl) dL_law__3220 (fun v w' H locs hv hP hD hS => ?_) (fun E q ce w' H locs hx hP hD hS y1 y2 y3 => hx.elim)
  obtain ⟨w2, rfl, rfl, t2, hT2⟩ := hv
  refine W.eq (g2 := F0 m 3223 ls []) rfl ?_
  refine lv_goto (tgt := 3264) X.1 X.2.1 dL_law__3223 (by decide) ?_
  exact hn w2 t2 o H locs _ _ ls hT2 hP hD hS hl (by have := hrm.2.2.2.2.1; omega) (by have := hrm.2.2.2.2.2; omega)
theorem case_55 {pr : Program} {l : Launch} {e : Env} {s : State} {m : MethodId} {below : List Frame} {meth : Method} {c : Code} {dC : Nat → ClassId} {dI : Nat → Nat → Nat} {sk sv : Nat → Nat} {tc : Nat → ClassId} {b L ax am ao i : Nat} {xs : Nat → Int32} (C : CC pr l s m meth c dC dI sk sv tc b L xs) (h : 6 * i + 6 ≤ L) (hn : GO pr l e s m below meth c dC dI tc b ax am ao i (i + 1) 3264) : GO pr l e s m below meth c dC dI tc b ax am ao i i 3226 := by
  obtain ⟨X, hr, hlk, hX, hbl, hL, hst⟩ := id C
  intro w t o H locs cells slots ls hT hP hD hS hl hc hs
  refine lv_aload_n X.1 X.2.1 dL_law__3226 rfl (lv_at hl 1 rfl) ?_
  obtain ⟨rm, mc, ms, hrm, hM⟩ := top_back l hst dC dI sk sv tc ax am hT
  obtain ⟨fs, hm⟩ := hT.mem
  refine callZ (As := []) (rest := []) X (hM ao o) mw_3_95 mw_3_96 mw_3_97 mw_1_1 mw_3_98 dc_X11_back ⟨by have := hrm.1; show rm.frames + 1 ≤ 2048; omega, by have := hrm.2.1; show 8 + (1 + 11) + rm.locals ≤ 84000; omega⟩ hrm.2.2.1 hrm.2.2.2.1 ⟨by have := hrm.2.2.2.2.1; show cells + mc ≤ 601024; omega, by have := hrm.2.2.2.2.2; show slots + ms ≤ 7293034; omega⟩ hP hD hS (List.mem_append_left _ hm) rfl rfl hl.1 (Nat.le_of_ble_eq_true rfl) dL_law__3227 (fun v w' H locs hv hP hD hS => ?_) (fun E q ce w' H locs hx hP hD hS y1 y2 y3 => by obtain ⟨_, _, _, _, hx⟩ := hx; exact hx.elim)
  obtain ⟨w1, rfl, ⟨r, rfl⟩, ⟨fs2, hm2⟩, rm2, hrm2, hM2⟩ := hv
  refine W.eq (g2 := F0 m 3230 ls [.int r]) rfl ?_
  refine lv_aload_n X.1 X.2.1 dL_law__3230 rfl (lv_at hl 2 rfl) ?_
  refine callZ (As := []) (rest := [.int r]) X (hM2 ao o) mw_10_69 mw_10_70 mw_10_71 mw_1_12 mw_10_72 dc_X12_back ⟨by have := hrm2.1; show rm2.frames + 1 ≤ 2048; omega, by have := hrm2.2.1; show 8 + (2 + 11) + rm2.locals ≤ 84000; omega⟩ hrm2.2.2.1 hrm2.2.2.2.1 ⟨by have := hrm.2.2.2.2.1; show cells + mc + 0 ≤ 601024; omega, by have := hrm.2.2.2.2.2; show slots + ms + 0 ≤ 7293034; omega⟩ hP hD hS (List.mem_append_left _ hm2) rfl rfl hl.1 (Nat.le_of_ble_eq_true rfl) dL_law__3231 (fun v w' H locs hv hP hD hS => ?_) (fun E q ce w' H locs hx hP hD hS y1 y2 y3 => hx.elim)
  obtain ⟨w2, rfl, rfl, t2, hT2⟩ := hv
  refine W.eq (g2 := F0 m 3234 ls [.int r, .int r]) rfl ?_
  refine lv_icmp_eq (tgt := 3264) X.1 X.2.1 dL_law__3234 (by decide) (fun _ => ?_) (fun z => absurd rfl z)
  exact hn w2 t2 o H locs _ _ ls hT2 hP hD hS hl (by have := hrm.2.2.2.2.1; omega) (by have := hrm.2.2.2.2.2; omega)
theorem case_56 {pr : Program} {l : Launch} {e : Env} {s : State} {m : MethodId} {below : List Frame} {meth : Method} {c : Code} {dC : Nat → ClassId} {dI : Nat → Nat → Nat} {sk sv : Nat → Nat} {tc : Nat → ClassId} {b L ax am ao i : Nat} {xs : Nat → Int32} (C : CC pr l s m meth c dC dI sk sv tc b L xs) (h : 6 * i + 6 ≤ L) (hn : GO pr l e s m below meth c dC dI tc b ax am ao i (i + 1) 3264) : GO pr l e s m below meth c dC dI tc b ax am ao i i 3239 := by
  obtain ⟨X, hr, hlk, hX, hbl, hL, hst⟩ := id C
  intro w t o H locs cells slots ls hT hP hD hS hl hc hs
  refine lv_aload_n X.1 X.2.1 dL_law__3239 rfl (lv_at hl 1 rfl) ?_
  refine pushI1 C h hS hl dL_law__3240 dL_law__3241 dL_law__3243 dL_law__3244 dL_law__3245 ?_
  obtain ⟨rm, mc, ms, hrm, hM⟩ := top_count l hst dC dI sk sv tc ax am (xs (6 * i + 1)) hT
  obtain ⟨fs, hm⟩ := hT.mem
  refine callZ (As := [.int (xs (6 * i + 1))]) (rest := []) X (hM ao o) mw_3_103 mw_3_104 mw_3_105 mw_1_1 mw_3_106 dc_X11_count ⟨by have := hrm.1; show rm.frames + 1 ≤ 2048; omega, by have := hrm.2.1; show 8 + (2 + 11) + rm.locals ≤ 84000; omega⟩ hrm.2.2.1 hrm.2.2.2.1 ⟨by have := hrm.2.2.2.2.1; show cells + mc ≤ 601024; omega, by have := hrm.2.2.2.2.2; show slots + ms ≤ 7293034; omega⟩ hP hD hS (List.mem_append_left _ hm) rfl rfl hl.1 (Nat.le_of_ble_eq_true rfl) dL_law__3246 (fun v w' H locs hv hP hD hS => ?_) (fun E q ce w' H locs hx hP hD hS y1 y2 y3 => by obtain ⟨_, _, _, _, hx⟩ := hx; exact hx.elim)
  obtain ⟨w1, rfl, ⟨r, rfl⟩, ⟨fs2, hm2⟩, rm2, hrm2, hM2⟩ := hv
  refine W.eq (g2 := F0 m 3249 ls [.int r]) rfl ?_
  refine lv_aload_n X.1 X.2.1 dL_law__3249 rfl (lv_at hl 2 rfl) ?_
  refine pushI1 C h hS hl dL_law__3250 dL_law__3251 dL_law__3253 dL_law__3254 dL_law__3255 ?_
  refine callZ (As := [.int (xs (6 * i + 1))]) (rest := [.int r]) X (hM2 ao o) mw_10_73 mw_10_74 mw_10_75 mw_1_12 mw_10_76 dc_X12_count ⟨by have := hrm2.1; show rm2.frames + 1 ≤ 2048; omega, by have := hrm2.2.1; show 8 + (2 + 11) + rm2.locals ≤ 84000; omega⟩ hrm2.2.2.1 hrm2.2.2.2.1 ⟨by have := hrm.2.2.2.2.1; show cells + mc + 0 ≤ 601024; omega, by have := hrm.2.2.2.2.2; show slots + ms + 0 ≤ 7293034; omega⟩ hP hD hS (List.mem_append_left _ hm2) rfl rfl hl.1 (Nat.le_of_ble_eq_true rfl) dL_law__3256 (fun v w' H locs hv hP hD hS => ?_) (fun E q ce w' H locs hx hP hD hS y1 y2 y3 => hx.elim)
  obtain ⟨w2, rfl, rfl, t2, hT2⟩ := hv
  refine W.eq (g2 := F0 m 3259 ls [.int r, .int r]) rfl ?_
  refine lv_icmp_eq (tgt := 3264) X.1 X.2.1 dL_law__3259 (by decide) (fun _ => ?_) (fun z => absurd rfl z)
  exact hn w2 t2 o H locs _ _ ls hT2 hP hD hS hl (by have := hrm.2.2.2.2.1; omega) (by have := hrm.2.2.2.2.2; omega)
