set_option maxRecDepth 100000 in
theorem law_case_3 {p : Program} {e : Env} {s : State} {m9 : MethodId} {below : List Frame} {meth : Method} {c : Code} {l : Launch} {b L k : Nat} {xs : Nat → Int32} {D : va_G} {cy : Nat → ClassId} {AD : Nat → Nat} {q q2 : Nat → Option Nat} {th : Int32} {o : Nat → Int64} {f : Hf} {H : Heap} {locs : List Loc} {ls : Array Slot} {cells slots : Nat} (hfl : l.stackTraces = false) (C9 : lw_At p s m9 meth c b L xs) (C0 : hC p l s m9 meth c code 9 #[Value.ref b] RL D (hTy cy) (hA f00 s.heap.size)) (hL : L ≤ 3072) (hk6 : 6 * k + 6 ≤ L) (hcs : cells ≤ 200 + 64 * k ∧ slots ≤ 157000 + 600 * k) (hW : WJ AD cy q q2 k th o f) (G : hG D (hA f00 s.heap.size) f s H locs) (hl : lv_has ls 9 [(0, .ref b), (1, .ref (AD 0)), (2, .ref (AD 125)), (3, .ref (AD 138)), (4, .ref (AD 139)), (5, .int (nI (6 * k)))]) (K : KON p l e s m9 b below meth c D cy AD q q2 k cells slots) : W p l e room_1 s m9 #[Value.ref b] below meth c H locs cells slots (lw_Z below #[Value.ref b] s) (F0 m9 332 ls []) := by
  obtain ⟨hx, hb, hr, hml, hown, hts, hX, hbl, hlocks, hgv⟩ := id C9
  have hbA : ¬ hA f00 s.heap.size b := fun q => by
    rcases q with q | q
    · exact q rfl
    · omega
  refine lv_aload_n hx hb dL_law_332 rfl (lv_at hl 1 rfl) ?_
  refine lv_aload_n hx hb dL_law_333 rfl (lv_at hl 0 rfl) ?_
  refine lv_iload hx hb dL_law_334 (lv_at hl 5 rfl) ?_
  refine lv_iconst (v := 1) hx hb dL_law_336 (by decide) ?_
  refine lv_iadd hx hb dL_law_337 ?_
  refine lv_topv (v := nI (6 * k + 1)) (nI_add _ 1) ?_
  refine va_sld hx hb hX hbl hbA G.2 (i := nI (6 * k + 1)) (vp_in_nI (by omega) (by omega)) dL_law_338 ?_
  refine lv_topv (v := xs (6 * k + 1)) (congrArg xs (nI_c (by omega))) ?_
  refine lv_aload_n hx hb dL_law_339 rfl (lv_at hl 0 rfl) ?_
  refine lv_iload hx hb dL_law_340 (lv_at hl 5 rfl) ?_
  refine lv_iconst (v := 2) hx hb dL_law_342 (by decide) ?_
  refine lv_iadd hx hb dL_law_343 ?_
  refine lv_topv (v := nI (6 * k + 2)) (nI_add _ 2) ?_
  refine va_sld hx hb hX hbl hbA G.2 (i := nI (6 * k + 2)) (vp_in_nI (by omega) (by omega)) dL_law_344 ?_
  refine lv_topv (v := xs (6 * k + 2)) (congrArg xs (nI_c (by omega))) ?_
  refine lv_aload_n hx hb dL_law_345 rfl (lv_at hl 0 rfl) ?_
  refine lv_iload hx hb dL_law_346 (lv_at hl 5 rfl) ?_
  refine lv_iconst (v := 3) hx hb dL_law_348 (by decide) ?_
  refine lv_iadd hx hb dL_law_349 ?_
  refine lv_topv (v := nI (6 * k + 3)) (nI_add _ 3) ?_
  refine va_sld hx hb hX hbl hbA G.2 (i := nI (6 * k + 3)) (vp_in_nI (by omega) (by omega)) dL_law_350 ?_
  refine lv_topv (v := xs (6 * k + 3)) (congrArg xs (nI_c (by omega))) ?_
  refine lw_bool (t1 := 359) (x := (xs (6 * k + 3))) hx hb dL_law_351 (by decide) dL_law_354 (by decide) dL_law_355 (by decide) dL_law_358 (by decide) ?_
  refine lv_aload_n hx hb dL_law_359 rfl (lv_at hl 0 rfl) ?_
  refine lv_iload hx hb dL_law_360 (lv_at hl 5 rfl) ?_
  refine lv_iconst (v := 4) hx hb dL_law_362 (by decide) ?_
  refine lv_iadd hx hb dL_law_363 ?_
  refine lv_topv (v := nI (6 * k + 4)) (nI_add _ 4) ?_
  refine va_sld hx hb hX hbl hbA G.2 (i := nI (6 * k + 4)) (vp_in_nI (by omega) (by omega)) dL_law_364 ?_
  refine lv_topv (v := xs (6 * k + 4)) (congrArg xs (nI_c (by omega))) ?_
  refine lv_aload_n hx hb dL_law_365 rfl (lv_at hl 0 rfl) ?_
  refine lv_iload hx hb dL_law_366 (lv_at hl 5 rfl) ?_
  refine lv_iconst (v := 5) hx hb dL_law_368 (by decide) ?_
  refine lv_iadd hx hb dL_law_369 ?_
  refine lv_topv (v := nI (6 * k + 5)) (nI_add _ 5) ?_
  refine va_sld hx hb hX hbl hbA G.2 (i := nI (6 * k + 5)) (vp_in_nI (by omega) (by omega)) dL_law_370 ?_
  refine lv_topv (v := xs (6 * k + 5)) (congrArg xs (nI_c (by omega))) ?_
  refine lw_bool (t1 := 379) (x := (xs (6 * k + 5))) hx hb dL_law_371 (by decide) dL_law_374 (by decide) dL_law_375 (by decide) dL_law_378 (by decide) ?_
  refine lv_aload_n hx hb dL_law_379 rfl (lv_at hl 3 rfl) ?_
  refine g_cI C0 G (g_runSH C0 G (rest := []) (kL_wicket hfl ((xs (6 * k + 1))) ((xs (6 * k + 2))) ((bz (xs (6 * k + 3)))) ((xs (6 * k + 4))) ((bz (xs (6 * k + 5)))) (by omega) (bz01 _) (bz01 _) hW) hYH_L_wicket mm_L_136 ms_L_wicket ⟨(Nat.le_of_ble_eq_true rfl), (Nat.le_of_ble_eq_true rfl)⟩ rfl hl.1 rfl (Nat.le_of_ble_eq_true rfl) dL_law_380 ⟨(by show cells + 64 ≤ 603072; omega), (by show slots + 600 ≤ 7207018; omega)⟩) (kx_no rfl) (fun r3 u4 H locs hp5 G => ?_)
  refine lv_istore (lv' := [(6, .int r3), (0, .ref b), (1, .ref (AD 0)), (2, .ref (AD 125)), (3, .ref (AD 138)), (4, .ref (AD 139)), (5, .int (nI (6 * k)))]) hx hb dL_law_383 hl (by decide) rfl (fun ls hl => ?_)
  refine lv_aload_n hx hb dL_law_385 rfl (lv_at hl 3 rfl) ?_
  refine lv_aload_n hx hb dL_law_386 rfl (lv_at hl 1 rfl) ?_
  refine lv_iload hx hb dL_law_387 (lv_at hl 6 rfl) ?_
  refine lv_iconst (v := 1) hx hb dL_law_389 (by decide) ?_
  refine lv_iadd hx hb dL_law_390 ?_
  refine lv_topv (v := nI (6 * k + 1)) (nI_add _ 1) ?_
  refine va_sld hx hb hX hbl hbA G.2 (i := nI (6 * k + 1)) (vp_in_nI (by omega) (by omega)) dL_law_391 ?_
  refine lv_topv (v := xs (6 * k + 1)) (congrArg xs (nI_c (by omega))) ?_
  refine lv_aload_n hx hb dL_law_392 rfl (lv_at hl 1 rfl) ?_
  refine lv_iload hx hb dL_law_393 (lv_at hl 6 rfl) ?_
  refine lv_iconst (v := 2) hx hb dL_law_395 (by decide) ?_
  refine lv_iadd hx hb dL_law_396 ?_
  refine lv_topv (v := nI (6 * k + 2)) (nI_add _ 2) ?_
  refine va_sld hx hb hX hbl hbA G.2 (i := nI (6 * k + 2)) (vp_in_nI (by omega) (by omega)) dL_law_397 ?_
  refine lv_topv (v := xs (6 * k + 2)) (congrArg xs (nI_c (by omega))) ?_
  refine lv_aload_n hx hb dL_law_398 rfl (lv_at hl 1 rfl) ?_
  refine lv_iload hx hb dL_law_399 (lv_at hl 6 rfl) ?_
  refine lv_iconst (v := 3) hx hb dL_law_401 (by decide) ?_
  refine lv_iadd hx hb dL_law_402 ?_
  refine lv_topv (v := nI (6 * k + 3)) (nI_add _ 3) ?_
  refine va_sld hx hb hX hbl hbA G.2 (i := nI (6 * k + 3)) (vp_in_nI (by omega) (by omega)) dL_law_403 ?_
  refine lv_topv (v := xs (6 * k + 3)) (congrArg xs (nI_c (by omega))) ?_
  refine lw_bool (t1 := 412) (x := (xs (6 * k + 3))) hx hb dL_law_404 (by decide) dL_law_407 (by decide) dL_law_408 (by decide) dL_law_411 (by decide) ?_
  refine lv_aload_n hx hb dL_law_412 rfl (lv_at hl 1 rfl) ?_
  refine lv_iload hx hb dL_law_413 (lv_at hl 6 rfl) ?_
  refine lv_iconst (v := 4) hx hb dL_law_415 (by decide) ?_
  refine lv_iadd hx hb dL_law_416 ?_
  refine lv_topv (v := nI (6 * k + 4)) (nI_add _ 4) ?_
  refine va_sld hx hb hX hbl hbA G.2 (i := nI (6 * k + 4)) (vp_in_nI (by omega) (by omega)) dL_law_417 ?_
  refine lv_topv (v := xs (6 * k + 4)) (congrArg xs (nI_c (by omega))) ?_
  refine lv_aload_n hx hb dL_law_418 rfl (lv_at hl 1 rfl) ?_
  refine lv_iload hx hb dL_law_419 (lv_at hl 6 rfl) ?_
  refine lv_iconst (v := 5) hx hb dL_law_421 (by decide) ?_
  refine lv_iadd hx hb dL_law_422 ?_
  refine lv_topv (v := nI (6 * k + 5)) (nI_add _ 5) ?_
  refine va_sld hx hb hX hbl hbA G.2 (i := nI (6 * k + 5)) (vp_in_nI (by omega) (by omega)) dL_law_423 ?_
  refine lv_topv (v := xs (6 * k + 5)) (congrArg xs (nI_c (by omega))) ?_
  refine lw_bool (t1 := 432) (x := (xs (6 * k + 5))) hx hb dL_law_424 (by decide) dL_law_427 (by decide) dL_law_428 (by decide) dL_law_431 (by decide) ?_
  obtain ⟨fs9, he9⟩ := m_MID hp5
  refine g_cI C0 G (g_runV C0 G (rest := []) (kR_wicket hfl ((xs (6 * k + 1))) ((xs (6 * k + 2))) ((bz (xs (6 * k + 3)))) ((xs (6 * k + 4))) ((bz (xs (6 * k + 5)))) (by omega) (bz01 _) (bz01 _) hp5) he9 rfl hY_X9_wicket mm_L_139 mi_X9_wicket ml_X9_wicket ⟨(Nat.le_of_ble_eq_true rfl), (Nat.le_of_ble_eq_true rfl)⟩ rfl hl.1 rfl (Nat.le_of_ble_eq_true rfl) dL_law_432 ⟨(by show cells + 64 ≤ 603072; omega), (by show slots + 600 ≤ 7207018; omega)⟩) (kx_no rfl) (fun r8 u9 H locs hp10 G => ?_)
  obtain ⟨or8, hW11, her8⟩ := hp10
  refine lv_istore (lv' := [(7, .int r8), (6, .int r3), (0, .ref b), (1, .ref (AD 0)), (2, .ref (AD 125)), (3, .ref (AD 138)), (4, .ref (AD 139)), (5, .int (nI (6 * k)))]) hx hb dL_law_435 hl (by decide) rfl (fun ls hl => ?_)
  refine lv_goto (tgt := 1332) hx hb dL_law_437 (by decide) ?_
  exact K _ _ _ _ _ _ _ _ hW11 G (lv_sub hl [2, 3, 4, 5, 6, 7] rfl) (by show cells + 64 ≤ cells + 64; omega) (by show slots + 600 ≤ slots + 600; omega)
set_option maxRecDepth 100000 in
theorem law_case_7 {p : Program} {e : Env} {s : State} {m9 : MethodId} {below : List Frame} {meth : Method} {c : Code} {l : Launch} {b L k : Nat} {xs : Nat → Int32} {D : va_G} {cy : Nat → ClassId} {AD : Nat → Nat} {q q2 : Nat → Option Nat} {th : Int32} {o : Nat → Int64} {f : Hf} {H : Heap} {locs : List Loc} {ls : Array Slot} {cells slots : Nat} (hfl : l.stackTraces = false) (C9 : lw_At p s m9 meth c b L xs) (C0 : hC p l s m9 meth c code 9 #[Value.ref b] RL D (hTy cy) (hA f00 s.heap.size)) (hL : L ≤ 3072) (hk6 : 6 * k + 6 ≤ L) (hcs : cells ≤ 200 + 64 * k ∧ slots ≤ 157000 + 600 * k) (hW : WJ AD cy q q2 k th o f) (G : hG D (hA f00 s.heap.size) f s H locs) (hl : lv_has ls 9 [(0, .ref b), (1, .ref (AD 0)), (2, .ref (AD 125)), (3, .ref (AD 138)), (4, .ref (AD 139)), (5, .int (nI (6 * k)))]) (K : KON p l e s m9 b below meth c D cy AD q q2 k cells slots) : W p l e room_1 s m9 #[Value.ref b] below meth c H locs cells slots (lw_Z below #[Value.ref b] s) (F0 m9 556 ls []) := by
  obtain ⟨hx, hb, hr, hml, hown, hts, hX, hbl, hlocks, hgv⟩ := id C9
  have hbA : ¬ hA f00 s.heap.size b := fun q => by
    rcases q with q | q
    · exact q rfl
    · omega
  refine lv_aload_n hx hb dL_law_556 rfl (lv_at hl 1 rfl) ?_
  refine lv_aload_n hx hb dL_law_557 rfl (lv_at hl 0 rfl) ?_
  refine lv_iload hx hb dL_law_558 (lv_at hl 5 rfl) ?_
  refine lv_iconst (v := 1) hx hb dL_law_560 (by decide) ?_
  refine lv_iadd hx hb dL_law_561 ?_
  refine lv_topv (v := nI (6 * k + 1)) (nI_add _ 1) ?_
  refine va_sld hx hb hX hbl hbA G.2 (i := nI (6 * k + 1)) (vp_in_nI (by omega) (by omega)) dL_law_562 ?_
  refine lv_topv (v := xs (6 * k + 1)) (congrArg xs (nI_c (by omega))) ?_
  refine lv_aload_n hx hb dL_law_563 rfl (lv_at hl 3 rfl) ?_
  refine g_cI C0 G (g_runSH C0 G (rest := []) (kL_loseOvers hfl ((xs (6 * k + 1))) (by omega) hW) hYH_L_loseOvers mm_L_151 ms_L_loseOvers ⟨(Nat.le_of_ble_eq_true rfl), (Nat.le_of_ble_eq_true rfl)⟩ rfl hl.1 rfl (Nat.le_of_ble_eq_true rfl) dL_law_564 ⟨(by show cells + 64 ≤ 603072; omega), (by show slots + 600 ≤ 7207018; omega)⟩) (kx_no rfl) (fun r1 u2 H locs hp3 G => ?_)
  refine lv_istore (lv' := [(6, .int r1), (0, .ref b), (1, .ref (AD 0)), (2, .ref (AD 125)), (3, .ref (AD 138)), (4, .ref (AD 139)), (5, .int (nI (6 * k)))]) hx hb dL_law_567 hl (by decide) rfl (fun ls hl => ?_)
  refine lv_aload_n hx hb dL_law_569 rfl (lv_at hl 3 rfl) ?_
  refine lv_aload_n hx hb dL_law_570 rfl (lv_at hl 1 rfl) ?_
  refine lv_iload hx hb dL_law_571 (lv_at hl 6 rfl) ?_
  refine lv_iconst (v := 1) hx hb dL_law_573 (by decide) ?_
  refine lv_iadd hx hb dL_law_574 ?_
  refine lv_topv (v := nI (6 * k + 1)) (nI_add _ 1) ?_
  refine va_sld hx hb hX hbl hbA G.2 (i := nI (6 * k + 1)) (vp_in_nI (by omega) (by omega)) dL_law_575 ?_
  refine lv_topv (v := xs (6 * k + 1)) (congrArg xs (nI_c (by omega))) ?_
  obtain ⟨fs9, he9⟩ := m_MID hp3
  refine g_cI C0 G (g_runV C0 G (rest := []) (kR_loseOvers hfl ((xs (6 * k + 1))) (by omega) hp3) he9 rfl hY_X9_loseOvers mm_L_153 mi_X9_loseOvers ml_X9_loseOvers ⟨(Nat.le_of_ble_eq_true rfl), (Nat.le_of_ble_eq_true rfl)⟩ rfl hl.1 rfl (Nat.le_of_ble_eq_true rfl) dL_law_576 ⟨(by show cells + 64 ≤ 603072; omega), (by show slots + 600 ≤ 7207018; omega)⟩) (kx_no rfl) (fun r4 u5 H locs hp6 G => ?_)
  obtain ⟨or4, hW7, her4⟩ := hp6
  refine lv_istore (lv' := [(7, .int r4), (6, .int r1), (0, .ref b), (1, .ref (AD 0)), (2, .ref (AD 125)), (3, .ref (AD 138)), (4, .ref (AD 139)), (5, .int (nI (6 * k)))]) hx hb dL_law_579 hl (by decide) rfl (fun ls hl => ?_)
  refine lv_aload_n hx hb dL_law_581 rfl (lv_at hl 4 rfl) ?_
  obtain ⟨fs9, he9⟩ := m_WJ hW7
  refine g_cI C0 G (g_runV C0 G (rest := []) (kR_thrown hfl hW7) he9 rfl hY_X9_thrown mm_L_154 mi_X9_thrown ml_X9_thrown ⟨(Nat.le_of_ble_eq_true rfl), (Nat.le_of_ble_eq_true rfl)⟩ rfl hl.1 rfl (Nat.le_of_ble_eq_true rfl) dL_law_582 ⟨(by show cells + 64 ≤ 603072; omega), (by show slots + 600 ≤ 7207018; omega)⟩) (kx_no rfl) (fun r8 u9 H locs hp10 G => ?_)
  obtain ⟨er8, euu9⟩ := hp10
  rw [euu9] at G
  refine lv_topv (v := r1) er8 ?_
  refine lv_iload hx hb dL_law_585 (lv_at hl 1 rfl) ?_
  refine lv_icmp_eq (tgt := 592) hx hb dL_law_587 (by decide) (fun _ => ?_) (fun c9 => absurd rfl c9)
  refine lv_iload hx hb dL_law_592 (lv_at hl 1 rfl) ?_
  refine lv_if_ne (tgt := 609) hx hb dL_law_594 (by decide) (fun _ => ?_) (fun c0 => ?_)
  · refine lv_goto (tgt := 1332) hx hb dL_law_609 (by decide) ?_
    exact K _ _ _ _ _ _ _ _ hW7 G (lv_sub hl [2, 3, 4, 5, 6, 7] rfl) (by show cells + 64 ≤ cells + 64; omega) (by show slots + 600 ≤ slots + 600; omega)
  refine lv_aload_n hx hb dL_law_597 rfl (lv_at hl 5 rfl) ?_
  refine lv_iconst (v := 0) hx hb dL_law_598 (by decide) ?_
  refine g_lald C0 G (m_OUT hW7) 5 rfl (by unfold vp_in; decide) dL_law_599 ?_
  refine lv_topvl (v := r4.toInt64) (her4 c0) ?_
  refine lv_iload hx hb dL_law_600 (lv_at hl 0 rfl) ?_
  refine lv_i2l (v := r4.toInt64) hx hb dL_law_602 rfl ?_
  refine W.lcmp hx hb dL_law_603 ?_
  refine lv_topv (v := 0) (by simp [lg_cmp]) ?_
  refine lv_if_eq (tgt := 609) hx hb dL_law_604 (by decide) (fun _ => ?_) (fun c9 => absurd (by decide) c9)
  refine lv_goto (tgt := 1332) hx hb dL_law_609 (by decide) ?_
  exact K _ _ _ _ _ _ _ _ hW7 G (lv_sub hl [2, 3, 4, 5, 6, 7] rfl) (by show cells + 64 ≤ cells + 64; omega) (by show slots + 600 ≤ slots + 600; omega)
set_option maxRecDepth 100000 in
theorem law_case_11 {p : Program} {e : Env} {s : State} {m9 : MethodId} {below : List Frame} {meth : Method} {c : Code} {l : Launch} {b L k : Nat} {xs : Nat → Int32} {D : va_G} {cy : Nat → ClassId} {AD : Nat → Nat} {q q2 : Nat → Option Nat} {th : Int32} {o : Nat → Int64} {f : Hf} {H : Heap} {locs : List Loc} {ls : Array Slot} {cells slots : Nat} (hfl : l.stackTraces = false) (C9 : lw_At p s m9 meth c b L xs) (C0 : hC p l s m9 meth c code 9 #[Value.ref b] RL D (hTy cy) (hA f00 s.heap.size)) (hL : L ≤ 3072) (hk6 : 6 * k + 6 ≤ L) (hcs : cells ≤ 200 + 64 * k ∧ slots ≤ 157000 + 600 * k) (hW : WJ AD cy q q2 k th o f) (G : hG D (hA f00 s.heap.size) f s H locs) (hl : lv_has ls 9 [(0, .ref b), (1, .ref (AD 0)), (2, .ref (AD 125)), (3, .ref (AD 138)), (4, .ref (AD 139)), (5, .int (nI (6 * k)))]) (K : KON p l e s m9 b below meth c D cy AD q q2 k cells slots) : W p l e room_1 s m9 #[Value.ref b] below meth c H locs cells slots (lw_Z below #[Value.ref b] s) (F0 m9 674 ls []) := by
  obtain ⟨hx, hb, hr, hml, hown, hts, hX, hbl, hlocks, hgv⟩ := id C9
  have hbA : ¬ hA f00 s.heap.size b := fun q => by
    rcases q with q | q
    · exact q rfl
    · omega
  refine lv_aload_n hx hb dL_law_674 rfl (lv_at hl 1 rfl) ?_
  refine lv_aload_n hx hb dL_law_675 rfl (lv_at hl 3 rfl) ?_
  refine g_cI C0 G (g_runSH C0 G (rest := []) (kL_refused hfl hW) hYH_L_refused mm_L_167 ms_L_refused ⟨(Nat.le_of_ble_eq_true rfl), (Nat.le_of_ble_eq_true rfl)⟩ rfl hl.1 rfl (Nat.le_of_ble_eq_true rfl) dL_law_676 ⟨(by show cells + 64 ≤ 603072; omega), (by show slots + 600 ≤ 7207018; omega)⟩) (kx_no rfl) (fun r1 u2 H locs hp3 G => ?_)
  obtain ⟨o4, hW5⟩ := hp3
  refine lv_istore (lv' := [(6, .int r1), (0, .ref b), (1, .ref (AD 0)), (2, .ref (AD 125)), (3, .ref (AD 138)), (4, .ref (AD 139)), (5, .int (nI (6 * k)))]) hx hb dL_law_679 hl (by decide) rfl (fun ls hl => ?_)
  refine lv_aload_n hx hb dL_law_681 rfl (lv_at hl 3 rfl) ?_
  obtain ⟨fs9, he9⟩ := m_WJ hW5
  refine g_cI C0 G (g_runV C0 G (rest := []) (kR_refused hfl hW5) he9 rfl hY_X9_refused mm_L_169 mi_X9_refused ml_X9_refused ⟨(Nat.le_of_ble_eq_true rfl), (Nat.le_of_ble_eq_true rfl)⟩ rfl hl.1 rfl (Nat.le_of_ble_eq_true rfl) dL_law_682 ⟨(by show cells + 64 ≤ 603072; omega), (by show slots + 600 ≤ 7207018; omega)⟩) (kx_no rfl) (fun r6 u7 H locs hp8 G => ?_)
  obtain ⟨tr6, hW9⟩ := hp8
  refine lv_istore (lv' := [(7, .int r6), (6, .int r1), (0, .ref b), (1, .ref (AD 0)), (2, .ref (AD 125)), (3, .ref (AD 138)), (4, .ref (AD 139)), (5, .int (nI (6 * k)))]) hx hb dL_law_685 hl (by decide) rfl (fun ls hl => ?_)
  refine lv_goto (tgt := 1332) hx hb dL_law_687 (by decide) ?_
  exact K _ _ _ _ _ _ _ _ hW9 G (lv_sub hl [2, 3, 4, 5, 6, 7] rfl) (by show cells + 64 ≤ cells + 64; omega) (by show slots + 600 ≤ slots + 600; omega)
set_option maxRecDepth 100000 in
theorem law_case_15 {p : Program} {e : Env} {s : State} {m9 : MethodId} {below : List Frame} {meth : Method} {c : Code} {l : Launch} {b L k : Nat} {xs : Nat → Int32} {D : va_G} {cy : Nat → ClassId} {AD : Nat → Nat} {q q2 : Nat → Option Nat} {th : Int32} {o : Nat → Int64} {f : Hf} {H : Heap} {locs : List Loc} {ls : Array Slot} {cells slots : Nat} (hfl : l.stackTraces = false) (C9 : lw_At p s m9 meth c b L xs) (C0 : hC p l s m9 meth c code 9 #[Value.ref b] RL D (hTy cy) (hA f00 s.heap.size)) (hL : L ≤ 3072) (hk6 : 6 * k + 6 ≤ L) (hcs : cells ≤ 200 + 64 * k ∧ slots ≤ 157000 + 600 * k) (hW : WJ AD cy q q2 k th o f) (G : hG D (hA f00 s.heap.size) f s H locs) (hl : lv_has ls 9 [(0, .ref b), (1, .ref (AD 0)), (2, .ref (AD 125)), (3, .ref (AD 138)), (4, .ref (AD 139)), (5, .int (nI (6 * k)))]) (K : KON p l e s m9 b below meth c D cy AD q q2 k cells slots) : W p l e room_1 s m9 #[Value.ref b] below meth c H locs cells slots (lw_Z below #[Value.ref b] s) (F0 m9 810 ls []) := by
  obtain ⟨hx, hb, hr, hml, hown, hts, hX, hbl, hlocks, hgv⟩ := id C9
  have hbA : ¬ hA f00 s.heap.size b := fun q => by
    rcases q with q | q
    · exact q rfl
    · omega
  refine lv_aload_n hx hb dL_law_810 rfl (lv_at hl 1 rfl) ?_
  refine lv_aload_n hx hb dL_law_811 rfl (lv_at hl 0 rfl) ?_
  refine lv_iload hx hb dL_law_812 (lv_at hl 5 rfl) ?_
  refine lv_iconst (v := 1) hx hb dL_law_814 (by decide) ?_
  refine lv_iadd hx hb dL_law_815 ?_
  refine lv_topv (v := nI (6 * k + 1)) (nI_add _ 1) ?_
  refine va_sld hx hb hX hbl hbA G.2 (i := nI (6 * k + 1)) (vp_in_nI (by omega) (by omega)) dL_law_816 ?_
  refine lv_topv (v := xs (6 * k + 1)) (congrArg xs (nI_c (by omega))) ?_
  refine lv_aload_n hx hb dL_law_817 rfl (lv_at hl 0 rfl) ?_
  refine lv_iload hx hb dL_law_818 (lv_at hl 5 rfl) ?_
  refine lv_iconst (v := 2) hx hb dL_law_820 (by decide) ?_
  refine lv_iadd hx hb dL_law_821 ?_
  refine lv_topv (v := nI (6 * k + 2)) (nI_add _ 2) ?_
  refine va_sld hx hb hX hbl hbA G.2 (i := nI (6 * k + 2)) (vp_in_nI (by omega) (by omega)) dL_law_822 ?_
  refine lv_topv (v := xs (6 * k + 2)) (congrArg xs (nI_c (by omega))) ?_
  refine lv_aload_n hx hb dL_law_823 rfl (lv_at hl 0 rfl) ?_
  refine lv_iload hx hb dL_law_824 (lv_at hl 5 rfl) ?_
  refine lv_iconst (v := 3) hx hb dL_law_826 (by decide) ?_
  refine lv_iadd hx hb dL_law_827 ?_
  refine lv_topv (v := nI (6 * k + 3)) (nI_add _ 3) ?_
  refine va_sld hx hb hX hbl hbA G.2 (i := nI (6 * k + 3)) (vp_in_nI (by omega) (by omega)) dL_law_828 ?_
  refine lv_topv (v := xs (6 * k + 3)) (congrArg xs (nI_c (by omega))) ?_
  refine lv_aload_n hx hb dL_law_829 rfl (lv_at hl 3 rfl) ?_
  refine g_cI C0 G (g_runSH C0 G (rest := []) (kL_bowler hfl ((xs (6 * k + 1))) ((xs (6 * k + 2))) ((xs (6 * k + 3))) hW) hYH_L_bowler mm_L_180 ms_L_bowler ⟨(Nat.le_of_ble_eq_true rfl), (Nat.le_of_ble_eq_true rfl)⟩ rfl hl.1 rfl (Nat.le_of_ble_eq_true rfl) dL_law_830 ⟨(by show cells + 64 ≤ 603072; omega), (by show slots + 600 ≤ 7207018; omega)⟩) (kx_no rfl) (fun r1 u2 H locs hp3 G => ?_)
  obtain ⟨o4, hW5⟩ := hp3
  refine lv_istore (lv' := [(6, .int r1), (0, .ref b), (1, .ref (AD 0)), (2, .ref (AD 125)), (3, .ref (AD 138)), (4, .ref (AD 139)), (5, .int (nI (6 * k)))]) hx hb dL_law_833 hl (by decide) rfl (fun ls hl => ?_)
  refine lv_aload_n hx hb dL_law_835 rfl (lv_at hl 3 rfl) ?_
  refine lv_aload_n hx hb dL_law_836 rfl (lv_at hl 1 rfl) ?_
  refine lv_iload hx hb dL_law_837 (lv_at hl 6 rfl) ?_
  refine lv_iconst (v := 1) hx hb dL_law_839 (by decide) ?_
  refine lv_iadd hx hb dL_law_840 ?_
  refine lv_topv (v := nI (6 * k + 1)) (nI_add _ 1) ?_
  refine va_sld hx hb hX hbl hbA G.2 (i := nI (6 * k + 1)) (vp_in_nI (by omega) (by omega)) dL_law_841 ?_
  refine lv_topv (v := xs (6 * k + 1)) (congrArg xs (nI_c (by omega))) ?_
  refine lv_aload_n hx hb dL_law_842 rfl (lv_at hl 1 rfl) ?_
  refine lv_iload hx hb dL_law_843 (lv_at hl 6 rfl) ?_
  refine lv_iconst (v := 2) hx hb dL_law_845 (by decide) ?_
  refine lv_iadd hx hb dL_law_846 ?_
  refine lv_topv (v := nI (6 * k + 2)) (nI_add _ 2) ?_
  refine va_sld hx hb hX hbl hbA G.2 (i := nI (6 * k + 2)) (vp_in_nI (by omega) (by omega)) dL_law_847 ?_
  refine lv_topv (v := xs (6 * k + 2)) (congrArg xs (nI_c (by omega))) ?_
  refine lv_aload_n hx hb dL_law_848 rfl (lv_at hl 1 rfl) ?_
  refine lv_iload hx hb dL_law_849 (lv_at hl 6 rfl) ?_
  refine lv_iconst (v := 3) hx hb dL_law_851 (by decide) ?_
  refine lv_iadd hx hb dL_law_852 ?_
  refine lv_topv (v := nI (6 * k + 3)) (nI_add _ 3) ?_
  refine va_sld hx hb hX hbl hbA G.2 (i := nI (6 * k + 3)) (vp_in_nI (by omega) (by omega)) dL_law_853 ?_
  refine lv_topv (v := xs (6 * k + 3)) (congrArg xs (nI_c (by omega))) ?_
  obtain ⟨fs9, he9⟩ := m_WJ hW5
  refine g_cI C0 G (g_runV C0 G (rest := []) (kR_bowler hfl ((xs (6 * k + 1))) ((xs (6 * k + 2))) ((xs (6 * k + 3))) hW5) he9 rfl hY_X9_bowler mm_L_182 mi_X9_bowler ml_X9_bowler ⟨(Nat.le_of_ble_eq_true rfl), (Nat.le_of_ble_eq_true rfl)⟩ rfl hl.1 rfl (Nat.le_of_ble_eq_true rfl) dL_law_854 ⟨(by show cells + 64 ≤ 603072; omega), (by show slots + 600 ≤ 7207018; omega)⟩) (kx_no rfl) (fun r6 u7 H locs hp8 G => ?_)
  obtain ⟨tr6, hW9⟩ := hp8
  refine lv_istore (lv' := [(7, .int r6), (6, .int r1), (0, .ref b), (1, .ref (AD 0)), (2, .ref (AD 125)), (3, .ref (AD 138)), (4, .ref (AD 139)), (5, .int (nI (6 * k)))]) hx hb dL_law_857 hl (by decide) rfl (fun ls hl => ?_)
  refine lv_goto (tgt := 1332) hx hb dL_law_859 (by decide) ?_
  exact K _ _ _ _ _ _ _ _ hW9 G (lv_sub hl [2, 3, 4, 5, 6, 7] rfl) (by show cells + 64 ≤ cells + 64; omega) (by show slots + 600 ≤ slots + 600; omega)
set_option maxRecDepth 100000 in
theorem law_case_19 {p : Program} {e : Env} {s : State} {m9 : MethodId} {below : List Frame} {meth : Method} {c : Code} {l : Launch} {b L k : Nat} {xs : Nat → Int32} {D : va_G} {cy : Nat → ClassId} {AD : Nat → Nat} {q q2 : Nat → Option Nat} {th : Int32} {o : Nat → Int64} {f : Hf} {H : Heap} {locs : List Loc} {ls : Array Slot} {cells slots : Nat} (hfl : l.stackTraces = false) (C9 : lw_At p s m9 meth c b L xs) (C0 : hC p l s m9 meth c code 9 #[Value.ref b] RL D (hTy cy) (hA f00 s.heap.size)) (hL : L ≤ 3072) (hk6 : 6 * k + 6 ≤ L) (hcs : cells ≤ 200 + 64 * k ∧ slots ≤ 157000 + 600 * k) (hW : WJ AD cy q q2 k th o f) (G : hG D (hA f00 s.heap.size) f s H locs) (hl : lv_has ls 9 [(0, .ref b), (1, .ref (AD 0)), (2, .ref (AD 125)), (3, .ref (AD 138)), (4, .ref (AD 139)), (5, .int (nI (6 * k)))]) (K : KON p l e s m9 b below meth c D cy AD q q2 k cells slots) : W p l e room_1 s m9 #[Value.ref b] below meth c H locs cells slots (lw_Z below #[Value.ref b] s) (F0 m9 1010 ls []) := by
  obtain ⟨hx, hb, hr, hml, hown, hts, hX, hbl, hlocks, hgv⟩ := id C9
  have hbA : ¬ hA f00 s.heap.size b := fun q => by
    rcases q with q | q
    · exact q rfl
    · omega
  refine lv_aload_n hx hb dL_law_1010 rfl (lv_at hl 1 rfl) ?_
  obtain ⟨fs9, he9⟩ := m_XC hW
  refine g_cI C0 G (g_runV C0 G (rest := []) (kC_result hfl (by omega) hW) he9 rfl hY_X8_result mm_L_193 mi_X8_result ml_X8_result ⟨(Nat.le_of_ble_eq_true rfl), (Nat.le_of_ble_eq_true rfl)⟩ rfl hl.1 rfl (Nat.le_of_ble_eq_true rfl) dL_law_1011 ⟨(by show cells + 64 ≤ 603072; omega), (by show slots + 600 ≤ 7207018; omega)⟩) (kx_no rfl) (fun r1 u2 H locs hp3 G => ?_)
  refine lv_pop hx hb dL_law_1014 rfl ?_
  refine lv_aload_n hx hb dL_law_1015 rfl (lv_at hl 2 rfl) ?_
  obtain ⟨fs9, he9⟩ := m_WJ hp3
  refine g_cI C0 G (g_runV C0 G (rest := []) (kR_result hfl hp3) he9 rfl hY_X9_result mm_L_196 mi_X9_result ml_X9_result ⟨(Nat.le_of_ble_eq_true rfl), (Nat.le_of_ble_eq_true rfl)⟩ rfl hl.1 rfl (Nat.le_of_ble_eq_true rfl) dL_law_1016 ⟨(by show cells + 64 ≤ 603072; omega), (by show slots + 600 ≤ 7207018; omega)⟩) (kx_no rfl) (fun r4 u5 H locs hp6 G => ?_)
  obtain ⟨tr4, hW7⟩ := hp6
  refine lv_pop hx hb dL_law_1019 rfl ?_
  refine lv_goto (tgt := 1332) hx hb dL_law_1020 (by decide) ?_
  exact K _ _ _ _ _ _ _ _ hW7 G (lv_sub hl [0, 1, 2, 3, 4, 5] rfl) (by show cells + 64 ≤ cells + 64; omega) (by show slots + 600 ≤ slots + 600; omega)
set_option maxRecDepth 100000 in
theorem law_case_23 {p : Program} {e : Env} {s : State} {m9 : MethodId} {below : List Frame} {meth : Method} {c : Code} {l : Launch} {b L k : Nat} {xs : Nat → Int32} {D : va_G} {cy : Nat → ClassId} {AD : Nat → Nat} {q q2 : Nat → Option Nat} {th : Int32} {o : Nat → Int64} {f : Hf} {H : Heap} {locs : List Loc} {ls : Array Slot} {cells slots : Nat} (hfl : l.stackTraces = false) (C9 : lw_At p s m9 meth c b L xs) (C0 : hC p l s m9 meth c code 9 #[Value.ref b] RL D (hTy cy) (hA f00 s.heap.size)) (hL : L ≤ 3072) (hk6 : 6 * k + 6 ≤ L) (hcs : cells ≤ 200 + 64 * k ∧ slots ≤ 157000 + 600 * k) (hW : WJ AD cy q q2 k th o f) (G : hG D (hA f00 s.heap.size) f s H locs) (hl : lv_has ls 9 [(0, .ref b), (1, .ref (AD 0)), (2, .ref (AD 125)), (3, .ref (AD 138)), (4, .ref (AD 139)), (5, .int (nI (6 * k)))]) (K : KON p l e s m9 b below meth c D cy AD q q2 k cells slots) : W p l e room_1 s m9 #[Value.ref b] below meth c H locs cells slots (lw_Z below #[Value.ref b] s) (F0 m9 1161 ls []) := by
  obtain ⟨hx, hb, hr, hml, hown, hts, hX, hbl, hlocks, hgv⟩ := id C9
  have hbA : ¬ hA f00 s.heap.size b := fun q => by
    rcases q with q | q
    · exact q rfl
    · omega
  refine lv_aload_n hx hb dL_law_1161 rfl (lv_at hl 1 rfl) ?_
  refine lv_aload_n hx hb dL_law_1162 rfl (lv_at hl 0 rfl) ?_
  refine lv_iload hx hb dL_law_1163 (lv_at hl 5 rfl) ?_
  refine lv_iconst (v := 1) hx hb dL_law_1165 (by decide) ?_
  refine lv_iadd hx hb dL_law_1166 ?_
  refine lv_topv (v := nI (6 * k + 1)) (nI_add _ 1) ?_
  refine va_sld hx hb hX hbl hbA G.2 (i := nI (6 * k + 1)) (vp_in_nI (by omega) (by omega)) dL_law_1167 ?_
  refine lv_topv (v := xs (6 * k + 1)) (congrArg xs (nI_c (by omega))) ?_
  refine lv_aload_n hx hb dL_law_1168 rfl (lv_at hl 0 rfl) ?_
  refine lv_iload hx hb dL_law_1169 (lv_at hl 5 rfl) ?_
  refine lv_iconst (v := 2) hx hb dL_law_1171 (by decide) ?_
  refine lv_iadd hx hb dL_law_1172 ?_
  refine lv_topv (v := nI (6 * k + 2)) (nI_add _ 2) ?_
  refine va_sld hx hb hX hbl hbA G.2 (i := nI (6 * k + 2)) (vp_in_nI (by omega) (by omega)) dL_law_1173 ?_
  refine lv_topv (v := xs (6 * k + 2)) (congrArg xs (nI_c (by omega))) ?_
  refine lv_aload_n hx hb dL_law_1174 rfl (lv_at hl 3 rfl) ?_
  refine g_cI C0 G (g_runSH C0 G (rest := []) (kL_copyOvers hfl ((xs (6 * k + 1))) ((xs (6 * k + 2))) hW) hYH_L_copyOvers mm_L_208 ms_L_copyOvers ⟨(Nat.le_of_ble_eq_true rfl), (Nat.le_of_ble_eq_true rfl)⟩ rfl hl.1 rfl (Nat.le_of_ble_eq_true rfl) dL_law_1175 ⟨(by show cells + 64 ≤ 603072; omega), (by show slots + 600 ≤ 7207018; omega)⟩) (kx_no rfl) (fun r1 u2 H locs hp3 G => ?_)
  refine lv_istore (lv' := [(6, .int r1), (0, .ref b), (1, .ref (AD 0)), (2, .ref (AD 125)), (3, .ref (AD 138)), (4, .ref (AD 139)), (5, .int (nI (6 * k)))]) hx hb dL_law_1178 hl (by decide) rfl (fun ls hl => ?_)
  refine lv_aload_n hx hb dL_law_1180 rfl (lv_at hl 3 rfl) ?_
  refine lv_aload_n hx hb dL_law_1181 rfl (lv_at hl 1 rfl) ?_
  refine lv_iload hx hb dL_law_1182 (lv_at hl 6 rfl) ?_
  refine lv_iconst (v := 1) hx hb dL_law_1184 (by decide) ?_
  refine lv_iadd hx hb dL_law_1185 ?_
  refine lv_topv (v := nI (6 * k + 1)) (nI_add _ 1) ?_
  refine va_sld hx hb hX hbl hbA G.2 (i := nI (6 * k + 1)) (vp_in_nI (by omega) (by omega)) dL_law_1186 ?_
  refine lv_topv (v := xs (6 * k + 1)) (congrArg xs (nI_c (by omega))) ?_
  refine lv_aload_n hx hb dL_law_1187 rfl (lv_at hl 1 rfl) ?_
  refine lv_iload hx hb dL_law_1188 (lv_at hl 6 rfl) ?_
  refine lv_iconst (v := 2) hx hb dL_law_1190 (by decide) ?_
  refine lv_iadd hx hb dL_law_1191 ?_
  refine lv_topv (v := nI (6 * k + 2)) (nI_add _ 2) ?_
  refine va_sld hx hb hX hbl hbA G.2 (i := nI (6 * k + 2)) (vp_in_nI (by omega) (by omega)) dL_law_1192 ?_
  refine lv_topv (v := xs (6 * k + 2)) (congrArg xs (nI_c (by omega))) ?_
  obtain ⟨fs9, he9⟩ := m_MIDC hp3
  refine g_cI C0 G (g_runV C0 G (rest := []) (kR_copyOvers hfl ((xs (6 * k + 1))) ((xs (6 * k + 2))) hp3) he9 rfl hY_X9_copyOvers mm_L_210 mi_X9_copyOvers ml_X9_copyOvers ⟨(Nat.le_of_ble_eq_true rfl), (Nat.le_of_ble_eq_true rfl)⟩ rfl hl.1 rfl (Nat.le_of_ble_eq_true rfl) dL_law_1193 ⟨(by show cells + 64 ≤ 603072; omega), (by show slots + 600 ≤ 7207018; omega)⟩) (kx_no rfl) (fun r4 u5 H locs hp6 G => ?_)
  obtain ⟨tr4, hW7⟩ := hp6
  refine lv_istore (lv' := [(7, .int r4), (6, .int r1), (0, .ref b), (1, .ref (AD 0)), (2, .ref (AD 125)), (3, .ref (AD 138)), (4, .ref (AD 139)), (5, .int (nI (6 * k)))]) hx hb dL_law_1196 hl (by decide) rfl (fun ls hl => ?_)
  refine lv_goto (tgt := 1332) hx hb dL_law_1198 (by decide) ?_
  exact K _ _ _ _ _ _ _ _ hW7 G (lv_sub hl [2, 3, 4, 5, 6, 7] rfl) (by show cells + 64 ≤ cells + 64; omega) (by show slots + 600 ≤ slots + 600; omega)
set_option maxRecDepth 100000 in
theorem law_case_27 {p : Program} {e : Env} {s : State} {m9 : MethodId} {below : List Frame} {meth : Method} {c : Code} {l : Launch} {b L k : Nat} {xs : Nat → Int32} {D : va_G} {cy : Nat → ClassId} {AD : Nat → Nat} {q q2 : Nat → Option Nat} {th : Int32} {o : Nat → Int64} {f : Hf} {H : Heap} {locs : List Loc} {ls : Array Slot} {cells slots : Nat} (hfl : l.stackTraces = false) (C9 : lw_At p s m9 meth c b L xs) (C0 : hC p l s m9 meth c code 9 #[Value.ref b] RL D (hTy cy) (hA f00 s.heap.size)) (hL : L ≤ 3072) (hk6 : 6 * k + 6 ≤ L) (hcs : cells ≤ 200 + 64 * k ∧ slots ≤ 157000 + 600 * k) (hW : WJ AD cy q q2 k th o f) (G : hG D (hA f00 s.heap.size) f s H locs) (hl : lv_has ls 9 [(0, .ref b), (1, .ref (AD 0)), (2, .ref (AD 125)), (3, .ref (AD 138)), (4, .ref (AD 139)), (5, .int (nI (6 * k)))]) (K : KON p l e s m9 b below meth c D cy AD q q2 k cells slots) : W p l e room_1 s m9 #[Value.ref b] below meth c H locs cells slots (lw_Z below #[Value.ref b] s) (F0 m9 1268 ls []) := by
  obtain ⟨hx, hb, hr, hml, hown, hts, hX, hbl, hlocks, hgv⟩ := id C9
  have hbA : ¬ hA f00 s.heap.size b := fun q => by
    rcases q with q | q
    · exact q rfl
    · omega
  refine lv_aload_n hx hb dL_law_1268 rfl (lv_at hl 1 rfl) ?_
  refine lv_aload_n hx hb dL_law_1269 rfl (lv_at hl 3 rfl) ?_
  refine g_cI C0 G (g_runSH C0 G (rest := []) (kL_undo hfl (by omega) hW) hYH_L_undo mm_L_222 ms_L_undo ⟨(Nat.le_of_ble_eq_true rfl), (Nat.le_of_ble_eq_true rfl)⟩ rfl hl.1 rfl (Nat.le_of_ble_eq_true rfl) dL_law_1270 ⟨(by show cells + 64 ≤ 603072; omega), (by show slots + 600 ≤ 7207018; omega)⟩) (kx_no rfl) (fun r1 u2 H locs hp3 G => ?_)
  refine lv_istore (lv' := [(6, .int r1), (0, .ref b), (1, .ref (AD 0)), (2, .ref (AD 125)), (3, .ref (AD 138)), (4, .ref (AD 139)), (5, .int (nI (6 * k)))]) hx hb dL_law_1273 hl (by decide) rfl (fun ls hl => ?_)
  refine lv_aload_n hx hb dL_law_1275 rfl (lv_at hl 3 rfl) ?_
  obtain ⟨fs9, he9⟩ := m_MIDU hp3
  refine g_cI C0 G (g_runV C0 G (rest := []) (kR_undo hfl hp3) he9 rfl hY_X9_undo mm_L_224 mi_X9_undo ml_X9_undo ⟨(Nat.le_of_ble_eq_true rfl), (Nat.le_of_ble_eq_true rfl)⟩ rfl hl.1 rfl (Nat.le_of_ble_eq_true rfl) dL_law_1276 ⟨(by show cells + 64 ≤ 603072; omega), (by show slots + 600 ≤ 7207018; omega)⟩) (kx_no rfl) (fun r4 u5 H locs hp6 G => ?_)
  obtain ⟨or4, hW7, her4⟩ := hp6
  refine lv_istore (lv' := [(7, .int r4), (6, .int r1), (0, .ref b), (1, .ref (AD 0)), (2, .ref (AD 125)), (3, .ref (AD 138)), (4, .ref (AD 139)), (5, .int (nI (6 * k)))]) hx hb dL_law_1279 hl (by decide) rfl (fun ls hl => ?_)
  refine lv_goto (tgt := 1332) hx hb dL_law_1281 (by decide) ?_
  exact K _ _ _ _ _ _ _ _ hW7 G (lv_sub hl [2, 3, 4, 5, 6, 7] rfl) (by show cells + 64 ≤ cells + 64; omega) (by show slots + 600 ≤ slots + 600; omega)
