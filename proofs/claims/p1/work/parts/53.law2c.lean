set_option maxRecDepth 100000 in
theorem law_case_2 {p : Program} {e : Env} {s : State} {m9 : MethodId} {below : List Frame} {meth : Method} {c : Code} {l : Launch} {b  : Nat} {xs : Nat → Int32} {D : va_G} {cy : Nat → ClassId} {sc m0 al i0 i1 i2 i3 i4 i5 i6 i7 i8 i9 i10 i11 i12 lg ln lst len sv sn sst sen tx bf tn tp r0 r0e r1 r1e m v im kp pa de ide mtx pt so mo wh pf out outD m1 : Nat} {g0 : Nat → Option Nat} {f : Hf} {H : Heap} {locs : List Loc} {ls : Array Slot} (hfl : l.stackTraces = false) (C9 : lw_At p s m9 meth c b 6 xs) (C0 : hC p l s m9 meth c code 9 #[Value.ref b] RL D (hTy cy) (hA f00 s.heap.size)) (hord : sc < m0 ∧ m0 < al ∧ al < i0 ∧ i0 < i1 ∧ i1 < i2 ∧ i2 < i3 ∧ i3 < i4 ∧ i4 < i5 ∧ i5 < i6 ∧ i6 < i7 ∧ i7 < i8 ∧ i8 < i9 ∧ i9 < i10 ∧ i10 < i11 ∧ i11 < i12 ∧ i12 < lg ∧ lg < ln ∧ ln < lst ∧ lst < len ∧ len < sv ∧ sv < sn ∧ sn < sst ∧ sst < sen ∧ sen < tx ∧ tx < bf ∧ bf < tn ∧ tn < tp ∧ tp < r0 ∧ r0 < r0e ∧ r0e < r1 ∧ r1 < r1e ∧ r1e < m ∧ m < v ∧ v < im ∧ im < kp ∧ kp < pa ∧ pa < de ∧ de < ide ∧ ide < mtx ∧ mtx < pt ∧ pt < so ∧ so < mo ∧ mo < wh ∧ wh < pf ∧ pf < out ∧ out < outD) (hg0 : g0 0 = some i0) (G : hG D (hA f00 s.heap.size) f s H locs) (hl : lv_has ls 9 [(0, .ref b), (1, .ref sc), (2, .ref m), (3, .ref out), (4, .ref outD), (5, .int 0)]) (h_sc : f sc = some (.inr (10, [.ref m0, .ref m1, .ref lg, .ref sv, .ref tx, .ref r0, .ref r1, .int (-1), .int (-1), .int 0]))) (h_m0 : f m0 = some (.inr (4, [.ref al, .int 0, .int 0, .int 0, .int 0, .int 0]))) (h_m : f m = some (.inr (11, [.int 0, .int 0, .ref v, .ref im, .ref kp, .ref pa, .ref de, .ref ide, .int 0, .int 0, .ref mtx, .int 0, .int (-1), .int (-1), .ref pt, .int 0, .int 0, .int 0, .ref so, .ref mo, .ref wh, .ref pf]))) (h_v : f v = some (.inl (cy 0, 6441, .inl (fun _ => 0)))) : W p l e room_1 s m9 #[Value.ref b] below meth c H locs 140 156303 (lw_Z below #[Value.ref b] s) (F0 m9 320 ls []) := by
  obtain ⟨oo0, oo1, oo2, oo3, oo4, oo5, oo6, oo7, oo8, oo9, oo10, oo11, oo12, oo13, oo14, oo15, oo16, oo17, oo18, oo19, oo20, oo21, oo22, oo23, oo24, oo25, oo26, oo27, oo28, oo29, oo30, oo31, oo32, oo33, oo34, oo35, oo36, oo37, oo38, oo39, oo40, oo41, oo42, oo43, oo44, oo45⟩ := hord
  obtain ⟨hx, hb, hr, hml, hown, hts, hX, hbl, hlocks, hgv⟩ := id C9
  have hbA : ¬ hA f00 s.heap.size b := fun q => by rcases q with q | q; exact q rfl; omega
  refine lv_aload_n hx hb dL_law_320 rfl (lv_at hl 1 rfl) ?_
  refine lv_aload_n hx hb dL_law_321 rfl (lv_at hl 0 rfl) ?_
  refine lv_iload hx hb dL_law_322 (lv_at hl 5 rfl) ?_
  refine lv_iconst (v := 1) hx hb dL_law_324 (by decide) ?_
  refine lv_iadd hx hb dL_law_325 ?_
  refine lv_topv (v := 1) (by decide) ?_
  refine va_sld hx hb hX hbl hbA G.2 (i := 1) (by unfold vp_in; decide) dL_law_326 ?_
  refine lv_aload_n hx hb dL_law_327 rfl (lv_at hl 0 rfl) ?_
  refine lv_iload hx hb dL_law_328 (lv_at hl 5 rfl) ?_
  refine lv_iconst (v := 2) hx hb dL_law_330 (by decide) ?_
  refine lv_iadd hx hb dL_law_331 ?_
  refine lv_topv (v := 2) (by decide) ?_
  refine va_sld hx hb hX hbl hbA G.2 (i := 2) (by unfold vp_in; decide) dL_law_332 ?_
  refine lv_aload_n hx hb dL_law_333 rfl (lv_at hl 0 rfl) ?_
  refine lv_iload hx hb dL_law_334 (lv_at hl 5 rfl) ?_
  refine lv_iconst (v := 3) hx hb dL_law_336 (by decide) ?_
  refine lv_iadd hx hb dL_law_337 ?_
  refine lv_topv (v := 3) (by decide) ?_
  refine va_sld hx hb hX hbl hbA G.2 (i := 3) (by unfold vp_in; decide) dL_law_338 ?_
  refine lv_if_eq (tgt := 346) hx hb dL_law_339 (by decide) (fun c1 => ?_) (fun c1 => ?_)
  · refine lv_iconst (v := 0) hx hb dL_law_346 (by decide) ?_
    refine lv_aload_n hx hb dL_law_347 rfl (lv_at hl 3 rfl) ?_
    refine g_cI C0 G (g_runSH C0 G (rest := []) (k_L_ball hfl (xs 1) (xs 2) 0 h_sc h_m0 (Or.inl rfl)) hYH_L_ball mm_L_135 ms_L_ball ⟨(Nat.le_of_ble_eq_true rfl), (Nat.le_of_ble_eq_true rfl)⟩ rfl hl.1 rfl (Nat.le_of_ble_eq_true rfl) dL_law_348 ⟨(Nat.le_of_ble_eq_true rfl), (Nat.le_of_ble_eq_true rfl)⟩) (kx_no rfl) (fun r2 u3 H locs hp4 G => ?_)
    rcases hp4 with ⟨⟨rfl, hP⟩ | ⟨rfl, hP⟩, fr9⟩
    · refine lv_istore (lv' := [(6, .int 1), (0, .ref b), (1, .ref sc), (2, .ref m), (3, .ref out), (4, .ref outD), (5, .int 0)]) hx hb dL_law_351 hl (by decide) rfl (fun ls hl => ?_)
      refine lv_aload_n hx hb dL_law_353 rfl (lv_at hl 3 rfl) ?_
      refine lv_aload_n hx hb dL_law_354 rfl (lv_at hl 1 rfl) ?_
      refine lv_iload hx hb dL_law_355 (lv_at hl 6 rfl) ?_
      refine lv_iconst (v := 1) hx hb dL_law_357 (by decide) ?_
      refine lv_iadd hx hb dL_law_358 ?_
      refine lv_topv (v := 1) (by decide) ?_
      refine va_sld hx hb hX hbl hbA G.2 (i := 1) (by unfold vp_in; decide) dL_law_359 ?_
      refine lv_aload_n hx hb dL_law_360 rfl (lv_at hl 1 rfl) ?_
      refine lv_iload hx hb dL_law_361 (lv_at hl 6 rfl) ?_
      refine lv_iconst (v := 2) hx hb dL_law_363 (by decide) ?_
      refine lv_iadd hx hb dL_law_364 ?_
      refine lv_topv (v := 2) (by decide) ?_
      refine va_sld hx hb hX hbl hbA G.2 (i := 2) (by unfold vp_in; decide) dL_law_365 ?_
      refine lv_aload_n hx hb dL_law_366 rfl (lv_at hl 1 rfl) ?_
      refine lv_iload hx hb dL_law_367 (lv_at hl 6 rfl) ?_
      refine lv_iconst (v := 3) hx hb dL_law_369 (by decide) ?_
      refine lv_iadd hx hb dL_law_370 ?_
      refine lv_topv (v := 3) (by decide) ?_
      refine va_sld hx hb hX hbl hbA G.2 (i := 3) (by unfold vp_in; decide) dL_law_371 ?_
      refine lv_if_eq (tgt := 379) hx hb dL_law_372 (by decide) (fun _ => ?_) (fun c5 => absurd (c1) c5)
      refine lv_iconst (v := 0) hx hb dL_law_379 (by decide) ?_
      have k6 : u3 m = some (.inr (11, [.int 0, .int 0, .ref v, .ref im, .ref kp, .ref pa, .ref de, .ref ide, .int 0, .int 0, .ref mtx, .int 0, .int (-1), .int (-1), .ref pt, .int 0, .int 0, .int 0, .ref so, .ref mo, .ref wh, .ref pf])) := fr9 _ _ (by omega) h_m
      have k7 : u3 v = some (.inl (cy 0, 6441, .inl (fun _ => 0))) := fr9 _ _ (by omega) h_v
      refine g_cI C0 G (g_runV C0 G (rest := []) (k_X9_ball hfl (xs 1) (xs 2) 0 k6 k7 (Or.inl rfl)) k6 rfl hY_X9_ball mm_L_138 mi_X9_ball ml_X9_ball ⟨(Nat.le_of_ble_eq_true rfl), (Nat.le_of_ble_eq_true rfl)⟩ rfl hl.1 rfl (Nat.le_of_ble_eq_true rfl) dL_law_380 ⟨(Nat.le_of_ble_eq_true rfl), (Nat.le_of_ble_eq_true rfl)⟩) (kx_no rfl) (fun r10 u9 H locs hp8 G => ?_)
      rcases hp8 with ⟨hP9, hm8⟩ | ⟨hP9, hm8⟩
      · exact absurd hP9 hP
      · obtain ⟨rest9, hm9⟩ := hm8
        refine lv_istore (lv' := [(7, .int r10), (6, .int 1), (0, .ref b), (1, .ref sc), (2, .ref m), (3, .ref out), (4, .ref outD), (5, .int 0)]) hx hb dL_law_383 hl (by decide) rfl (fun ls hl => ?_)
        refine lv_aload_n hx hb dL_law_385 rfl (lv_at hl 4 rfl) ?_
        refine g_cI C0 G (g_runV C0 G (rest := []) (k_X9_thrown hfl hm9) hm9 rfl hY_X9_thrown mm_L_128 mi_X9_thrown ml_X9_thrown ⟨(Nat.le_of_ble_eq_true rfl), (Nat.le_of_ble_eq_true rfl)⟩ rfl hl.1 rfl (Nat.le_of_ble_eq_true rfl) dL_law_386 ⟨(Nat.le_of_ble_eq_true rfl), (Nat.le_of_ble_eq_true rfl)⟩) (kx_no rfl) (fun r13 u12 H locs hp11 G => ?_)
        obtain ⟨rfl, eu12⟩ := hp11
        rw [eu12] at G
        refine lv_iload hx hb dL_law_389 (lv_at hl 1 rfl) ?_
        refine lv_icmp_eq (tgt := 396) hx hb dL_law_391 (by decide) (fun _ => ?_) (fun c14 => absurd (by decide) c14)
        refine lv_iload hx hb dL_law_396 (lv_at hl 1 rfl) ?_
        refine lv_if_ne (tgt := 413) hx hb dL_law_398 (by decide) (fun _ => ?_) (fun c15 => absurd c15 (by decide))
        refine lv_goto (tgt := 2164) hx hb dL_law_413 (by decide) ?_
        exact law_tail hfl C9 C0 G (Nat.le_of_ble_eq_true rfl) (Nat.le_of_ble_eq_true rfl) (lv_sub hl [2, 7] rfl)
    · refine lv_istore (lv' := [(6, .int 2), (0, .ref b), (1, .ref sc), (2, .ref m), (3, .ref out), (4, .ref outD), (5, .int 0)]) hx hb dL_law_351 hl (by decide) rfl (fun ls hl => ?_)
      refine lv_aload_n hx hb dL_law_353 rfl (lv_at hl 3 rfl) ?_
      refine lv_aload_n hx hb dL_law_354 rfl (lv_at hl 1 rfl) ?_
      refine lv_iload hx hb dL_law_355 (lv_at hl 6 rfl) ?_
      refine lv_iconst (v := 1) hx hb dL_law_357 (by decide) ?_
      refine lv_iadd hx hb dL_law_358 ?_
      refine lv_topv (v := 1) (by decide) ?_
      refine va_sld hx hb hX hbl hbA G.2 (i := 1) (by unfold vp_in; decide) dL_law_359 ?_
      refine lv_aload_n hx hb dL_law_360 rfl (lv_at hl 1 rfl) ?_
      refine lv_iload hx hb dL_law_361 (lv_at hl 6 rfl) ?_
      refine lv_iconst (v := 2) hx hb dL_law_363 (by decide) ?_
      refine lv_iadd hx hb dL_law_364 ?_
      refine lv_topv (v := 2) (by decide) ?_
      refine va_sld hx hb hX hbl hbA G.2 (i := 2) (by unfold vp_in; decide) dL_law_365 ?_
      refine lv_aload_n hx hb dL_law_366 rfl (lv_at hl 1 rfl) ?_
      refine lv_iload hx hb dL_law_367 (lv_at hl 6 rfl) ?_
      refine lv_iconst (v := 3) hx hb dL_law_369 (by decide) ?_
      refine lv_iadd hx hb dL_law_370 ?_
      refine lv_topv (v := 3) (by decide) ?_
      refine va_sld hx hb hX hbl hbA G.2 (i := 3) (by unfold vp_in; decide) dL_law_371 ?_
      refine lv_if_eq (tgt := 379) hx hb dL_law_372 (by decide) (fun _ => ?_) (fun c16 => absurd (c1) c16)
      refine lv_iconst (v := 0) hx hb dL_law_379 (by decide) ?_
      have k17 : u3 m = some (.inr (11, [.int 0, .int 0, .ref v, .ref im, .ref kp, .ref pa, .ref de, .ref ide, .int 0, .int 0, .ref mtx, .int 0, .int (-1), .int (-1), .ref pt, .int 0, .int 0, .int 0, .ref so, .ref mo, .ref wh, .ref pf])) := fr9 _ _ (by omega) h_m
      have k18 : u3 v = some (.inl (cy 0, 6441, .inl (fun _ => 0))) := fr9 _ _ (by omega) h_v
      refine g_cI C0 G (g_runV C0 G (rest := []) (k_X9_ball hfl (xs 1) (xs 2) 0 k17 k18 (Or.inl rfl)) k17 rfl hY_X9_ball mm_L_138 mi_X9_ball ml_X9_ball ⟨(Nat.le_of_ble_eq_true rfl), (Nat.le_of_ble_eq_true rfl)⟩ rfl hl.1 rfl (Nat.le_of_ble_eq_true rfl) dL_law_380 ⟨(Nat.le_of_ble_eq_true rfl), (Nat.le_of_ble_eq_true rfl)⟩) (kx_no rfl) (fun r21 u20 H locs hp19 G => ?_)
      rcases hp19 with ⟨hP9, hm8⟩ | ⟨hP9, hm8⟩
      · obtain ⟨rest9, hm9⟩ := hm8
        refine lv_istore (lv' := [(7, .int r21), (6, .int 2), (0, .ref b), (1, .ref sc), (2, .ref m), (3, .ref out), (4, .ref outD), (5, .int 0)]) hx hb dL_law_383 hl (by decide) rfl (fun ls hl => ?_)
        refine lv_aload_n hx hb dL_law_385 rfl (lv_at hl 4 rfl) ?_
        refine g_cI C0 G (g_runV C0 G (rest := []) (k_X9_thrown hfl hm9) hm9 rfl hY_X9_thrown mm_L_128 mi_X9_thrown ml_X9_thrown ⟨(Nat.le_of_ble_eq_true rfl), (Nat.le_of_ble_eq_true rfl)⟩ rfl hl.1 rfl (Nat.le_of_ble_eq_true rfl) dL_law_386 ⟨(Nat.le_of_ble_eq_true rfl), (Nat.le_of_ble_eq_true rfl)⟩) (kx_no rfl) (fun r24 u23 H locs hp22 G => ?_)
        obtain ⟨rfl, eu23⟩ := hp22
        rw [eu23] at G
        refine lv_iload hx hb dL_law_389 (lv_at hl 1 rfl) ?_
        refine lv_icmp_eq (tgt := 396) hx hb dL_law_391 (by decide) (fun _ => ?_) (fun c25 => absurd (by decide) c25)
        refine lv_iload hx hb dL_law_396 (lv_at hl 1 rfl) ?_
        refine lv_if_ne (tgt := 413) hx hb dL_law_398 (by decide) (fun _ => ?_) (fun c26 => absurd c26 (by decide))
        refine lv_goto (tgt := 2164) hx hb dL_law_413 (by decide) ?_
        exact law_tail hfl C9 C0 G (Nat.le_of_ble_eq_true rfl) (Nat.le_of_ble_eq_true rfl) (lv_sub hl [2, 7] rfl)
      · exact absurd hP hP9
  · refine lv_iconst (v := 1) hx hb dL_law_342 (by decide) ?_
    refine lv_goto (tgt := 347) hx hb dL_law_343 (by decide) ?_
    refine lv_aload_n hx hb dL_law_347 rfl (lv_at hl 3 rfl) ?_
    refine g_cI C0 G (g_runSH C0 G (rest := []) (k_L_ball hfl (xs 1) (xs 2) 1 h_sc h_m0 (Or.inr rfl)) hYH_L_ball mm_L_135 ms_L_ball ⟨(Nat.le_of_ble_eq_true rfl), (Nat.le_of_ble_eq_true rfl)⟩ rfl hl.1 rfl (Nat.le_of_ble_eq_true rfl) dL_law_348 ⟨(Nat.le_of_ble_eq_true rfl), (Nat.le_of_ble_eq_true rfl)⟩) (kx_no rfl) (fun r27 u28 H locs hp29 G => ?_)
    rcases hp29 with ⟨⟨rfl, hP⟩ | ⟨rfl, hP⟩, fr9⟩
    · refine lv_istore (lv' := [(6, .int 1), (0, .ref b), (1, .ref sc), (2, .ref m), (3, .ref out), (4, .ref outD), (5, .int 0)]) hx hb dL_law_351 hl (by decide) rfl (fun ls hl => ?_)
      refine lv_aload_n hx hb dL_law_353 rfl (lv_at hl 3 rfl) ?_
      refine lv_aload_n hx hb dL_law_354 rfl (lv_at hl 1 rfl) ?_
      refine lv_iload hx hb dL_law_355 (lv_at hl 6 rfl) ?_
      refine lv_iconst (v := 1) hx hb dL_law_357 (by decide) ?_
      refine lv_iadd hx hb dL_law_358 ?_
      refine lv_topv (v := 1) (by decide) ?_
      refine va_sld hx hb hX hbl hbA G.2 (i := 1) (by unfold vp_in; decide) dL_law_359 ?_
      refine lv_aload_n hx hb dL_law_360 rfl (lv_at hl 1 rfl) ?_
      refine lv_iload hx hb dL_law_361 (lv_at hl 6 rfl) ?_
      refine lv_iconst (v := 2) hx hb dL_law_363 (by decide) ?_
      refine lv_iadd hx hb dL_law_364 ?_
      refine lv_topv (v := 2) (by decide) ?_
      refine va_sld hx hb hX hbl hbA G.2 (i := 2) (by unfold vp_in; decide) dL_law_365 ?_
      refine lv_aload_n hx hb dL_law_366 rfl (lv_at hl 1 rfl) ?_
      refine lv_iload hx hb dL_law_367 (lv_at hl 6 rfl) ?_
      refine lv_iconst (v := 3) hx hb dL_law_369 (by decide) ?_
      refine lv_iadd hx hb dL_law_370 ?_
      refine lv_topv (v := 3) (by decide) ?_
      refine va_sld hx hb hX hbl hbA G.2 (i := 3) (by unfold vp_in; decide) dL_law_371 ?_
      refine lv_if_eq (tgt := 379) hx hb dL_law_372 (by decide) (fun c30 => absurd c30 (c1)) (fun _ => ?_)
      refine lv_iconst (v := 1) hx hb dL_law_375 (by decide) ?_
      refine lv_goto (tgt := 380) hx hb dL_law_376 (by decide) ?_
      have k31 : u28 m = some (.inr (11, [.int 0, .int 0, .ref v, .ref im, .ref kp, .ref pa, .ref de, .ref ide, .int 0, .int 0, .ref mtx, .int 0, .int (-1), .int (-1), .ref pt, .int 0, .int 0, .int 0, .ref so, .ref mo, .ref wh, .ref pf])) := fr9 _ _ (by omega) h_m
      have k32 : u28 v = some (.inl (cy 0, 6441, .inl (fun _ => 0))) := fr9 _ _ (by omega) h_v
      refine g_cI C0 G (g_runV C0 G (rest := []) (k_X9_ball hfl (xs 1) (xs 2) 1 k31 k32 (Or.inr rfl)) k31 rfl hY_X9_ball mm_L_138 mi_X9_ball ml_X9_ball ⟨(Nat.le_of_ble_eq_true rfl), (Nat.le_of_ble_eq_true rfl)⟩ rfl hl.1 rfl (Nat.le_of_ble_eq_true rfl) dL_law_380 ⟨(Nat.le_of_ble_eq_true rfl), (Nat.le_of_ble_eq_true rfl)⟩) (kx_no rfl) (fun r35 u34 H locs hp33 G => ?_)
      rcases hp33 with ⟨hP9, hm8⟩ | ⟨hP9, hm8⟩
      · exact absurd hP9 hP
      · obtain ⟨rest9, hm9⟩ := hm8
        refine lv_istore (lv' := [(7, .int r35), (6, .int 1), (0, .ref b), (1, .ref sc), (2, .ref m), (3, .ref out), (4, .ref outD), (5, .int 0)]) hx hb dL_law_383 hl (by decide) rfl (fun ls hl => ?_)
        refine lv_aload_n hx hb dL_law_385 rfl (lv_at hl 4 rfl) ?_
        refine g_cI C0 G (g_runV C0 G (rest := []) (k_X9_thrown hfl hm9) hm9 rfl hY_X9_thrown mm_L_128 mi_X9_thrown ml_X9_thrown ⟨(Nat.le_of_ble_eq_true rfl), (Nat.le_of_ble_eq_true rfl)⟩ rfl hl.1 rfl (Nat.le_of_ble_eq_true rfl) dL_law_386 ⟨(Nat.le_of_ble_eq_true rfl), (Nat.le_of_ble_eq_true rfl)⟩) (kx_no rfl) (fun r38 u37 H locs hp36 G => ?_)
        obtain ⟨rfl, eu37⟩ := hp36
        rw [eu37] at G
        refine lv_iload hx hb dL_law_389 (lv_at hl 1 rfl) ?_
        refine lv_icmp_eq (tgt := 396) hx hb dL_law_391 (by decide) (fun _ => ?_) (fun c39 => absurd (by decide) c39)
        refine lv_iload hx hb dL_law_396 (lv_at hl 1 rfl) ?_
        refine lv_if_ne (tgt := 413) hx hb dL_law_398 (by decide) (fun _ => ?_) (fun c40 => absurd c40 (by decide))
        refine lv_goto (tgt := 2164) hx hb dL_law_413 (by decide) ?_
        exact law_tail hfl C9 C0 G (Nat.le_of_ble_eq_true rfl) (Nat.le_of_ble_eq_true rfl) (lv_sub hl [2, 7] rfl)
    · refine lv_istore (lv' := [(6, .int 2), (0, .ref b), (1, .ref sc), (2, .ref m), (3, .ref out), (4, .ref outD), (5, .int 0)]) hx hb dL_law_351 hl (by decide) rfl (fun ls hl => ?_)
      refine lv_aload_n hx hb dL_law_353 rfl (lv_at hl 3 rfl) ?_
      refine lv_aload_n hx hb dL_law_354 rfl (lv_at hl 1 rfl) ?_
      refine lv_iload hx hb dL_law_355 (lv_at hl 6 rfl) ?_
      refine lv_iconst (v := 1) hx hb dL_law_357 (by decide) ?_
      refine lv_iadd hx hb dL_law_358 ?_
      refine lv_topv (v := 1) (by decide) ?_
      refine va_sld hx hb hX hbl hbA G.2 (i := 1) (by unfold vp_in; decide) dL_law_359 ?_
      refine lv_aload_n hx hb dL_law_360 rfl (lv_at hl 1 rfl) ?_
      refine lv_iload hx hb dL_law_361 (lv_at hl 6 rfl) ?_
      refine lv_iconst (v := 2) hx hb dL_law_363 (by decide) ?_
      refine lv_iadd hx hb dL_law_364 ?_
      refine lv_topv (v := 2) (by decide) ?_
      refine va_sld hx hb hX hbl hbA G.2 (i := 2) (by unfold vp_in; decide) dL_law_365 ?_
      refine lv_aload_n hx hb dL_law_366 rfl (lv_at hl 1 rfl) ?_
      refine lv_iload hx hb dL_law_367 (lv_at hl 6 rfl) ?_
      refine lv_iconst (v := 3) hx hb dL_law_369 (by decide) ?_
      refine lv_iadd hx hb dL_law_370 ?_
      refine lv_topv (v := 3) (by decide) ?_
      refine va_sld hx hb hX hbl hbA G.2 (i := 3) (by unfold vp_in; decide) dL_law_371 ?_
      refine lv_if_eq (tgt := 379) hx hb dL_law_372 (by decide) (fun c41 => absurd c41 (c1)) (fun _ => ?_)
      refine lv_iconst (v := 1) hx hb dL_law_375 (by decide) ?_
      refine lv_goto (tgt := 380) hx hb dL_law_376 (by decide) ?_
      have k42 : u28 m = some (.inr (11, [.int 0, .int 0, .ref v, .ref im, .ref kp, .ref pa, .ref de, .ref ide, .int 0, .int 0, .ref mtx, .int 0, .int (-1), .int (-1), .ref pt, .int 0, .int 0, .int 0, .ref so, .ref mo, .ref wh, .ref pf])) := fr9 _ _ (by omega) h_m
      have k43 : u28 v = some (.inl (cy 0, 6441, .inl (fun _ => 0))) := fr9 _ _ (by omega) h_v
      refine g_cI C0 G (g_runV C0 G (rest := []) (k_X9_ball hfl (xs 1) (xs 2) 1 k42 k43 (Or.inr rfl)) k42 rfl hY_X9_ball mm_L_138 mi_X9_ball ml_X9_ball ⟨(Nat.le_of_ble_eq_true rfl), (Nat.le_of_ble_eq_true rfl)⟩ rfl hl.1 rfl (Nat.le_of_ble_eq_true rfl) dL_law_380 ⟨(Nat.le_of_ble_eq_true rfl), (Nat.le_of_ble_eq_true rfl)⟩) (kx_no rfl) (fun r46 u45 H locs hp44 G => ?_)
      rcases hp44 with ⟨hP9, hm8⟩ | ⟨hP9, hm8⟩
      · obtain ⟨rest9, hm9⟩ := hm8
        refine lv_istore (lv' := [(7, .int r46), (6, .int 2), (0, .ref b), (1, .ref sc), (2, .ref m), (3, .ref out), (4, .ref outD), (5, .int 0)]) hx hb dL_law_383 hl (by decide) rfl (fun ls hl => ?_)
        refine lv_aload_n hx hb dL_law_385 rfl (lv_at hl 4 rfl) ?_
        refine g_cI C0 G (g_runV C0 G (rest := []) (k_X9_thrown hfl hm9) hm9 rfl hY_X9_thrown mm_L_128 mi_X9_thrown ml_X9_thrown ⟨(Nat.le_of_ble_eq_true rfl), (Nat.le_of_ble_eq_true rfl)⟩ rfl hl.1 rfl (Nat.le_of_ble_eq_true rfl) dL_law_386 ⟨(Nat.le_of_ble_eq_true rfl), (Nat.le_of_ble_eq_true rfl)⟩) (kx_no rfl) (fun r49 u48 H locs hp47 G => ?_)
        obtain ⟨rfl, eu48⟩ := hp47
        rw [eu48] at G
        refine lv_iload hx hb dL_law_389 (lv_at hl 1 rfl) ?_
        refine lv_icmp_eq (tgt := 396) hx hb dL_law_391 (by decide) (fun _ => ?_) (fun c50 => absurd (by decide) c50)
        refine lv_iload hx hb dL_law_396 (lv_at hl 1 rfl) ?_
        refine lv_if_ne (tgt := 413) hx hb dL_law_398 (by decide) (fun _ => ?_) (fun c51 => absurd c51 (by decide))
        refine lv_goto (tgt := 2164) hx hb dL_law_413 (by decide) ?_
        exact law_tail hfl C9 C0 G (Nat.le_of_ble_eq_true rfl) (Nat.le_of_ble_eq_true rfl) (lv_sub hl [2, 7] rfl)
      · exact absurd hP hP9
set_option maxRecDepth 100000 in
theorem law_case_6 {p : Program} {e : Env} {s : State} {m9 : MethodId} {below : List Frame} {meth : Method} {c : Code} {l : Launch} {b  : Nat} {xs : Nat → Int32} {D : va_G} {cy : Nat → ClassId} {sc m0 al i0 i1 i2 i3 i4 i5 i6 i7 i8 i9 i10 i11 i12 lg ln lst len sv sn sst sen tx bf tn tp r0 r0e r1 r1e m v im kp pa de ide mtx pt so mo wh pf out outD m1 : Nat} {g0 : Nat → Option Nat} {f : Hf} {H : Heap} {locs : List Loc} {ls : Array Slot} (hfl : l.stackTraces = false) (C9 : lw_At p s m9 meth c b 6 xs) (C0 : hC p l s m9 meth c code 9 #[Value.ref b] RL D (hTy cy) (hA f00 s.heap.size)) (hord : sc < m0 ∧ m0 < al ∧ al < i0 ∧ i0 < i1 ∧ i1 < i2 ∧ i2 < i3 ∧ i3 < i4 ∧ i4 < i5 ∧ i5 < i6 ∧ i6 < i7 ∧ i7 < i8 ∧ i8 < i9 ∧ i9 < i10 ∧ i10 < i11 ∧ i11 < i12 ∧ i12 < lg ∧ lg < ln ∧ ln < lst ∧ lst < len ∧ len < sv ∧ sv < sn ∧ sn < sst ∧ sst < sen ∧ sen < tx ∧ tx < bf ∧ bf < tn ∧ tn < tp ∧ tp < r0 ∧ r0 < r0e ∧ r0e < r1 ∧ r1 < r1e ∧ r1e < m ∧ m < v ∧ v < im ∧ im < kp ∧ kp < pa ∧ pa < de ∧ de < ide ∧ ide < mtx ∧ mtx < pt ∧ pt < so ∧ so < mo ∧ mo < wh ∧ wh < pf ∧ pf < out ∧ out < outD) (hg0 : g0 0 = some i0) (G : hG D (hA f00 s.heap.size) f s H locs) (hl : lv_has ls 9 [(0, .ref b), (1, .ref sc), (2, .ref m), (3, .ref out), (4, .ref outD), (5, .int 0)]) (h_sc : f sc = some (.inr (10, [.ref m0, .ref m1, .ref lg, .ref sv, .ref tx, .ref r0, .ref r1, .int (-1), .int (-1), .int 0]))) (h_m0 : f m0 = some (.inr (4, [.ref al, .int 0, .int 0, .int 0, .int 0, .int 0]))) (h_m : f m = some (.inr (11, [.int 0, .int 0, .ref v, .ref im, .ref kp, .ref pa, .ref de, .ref ide, .int 0, .int 0, .ref mtx, .int 0, .int (-1), .int (-1), .ref pt, .int 0, .int 0, .int 0, .ref so, .ref mo, .ref wh, .ref pf]))) (h_v : f v = some (.inl (cy 0, 6441, .inl (fun _ => 0)))) : W p l e room_1 s m9 #[Value.ref b] below meth c H locs 140 156303 (lw_Z below #[Value.ref b] s) (F0 m9 708 ls []) := by
  obtain ⟨oo0, oo1, oo2, oo3, oo4, oo5, oo6, oo7, oo8, oo9, oo10, oo11, oo12, oo13, oo14, oo15, oo16, oo17, oo18, oo19, oo20, oo21, oo22, oo23, oo24, oo25, oo26, oo27, oo28, oo29, oo30, oo31, oo32, oo33, oo34, oo35, oo36, oo37, oo38, oo39, oo40, oo41, oo42, oo43, oo44, oo45⟩ := hord
  obtain ⟨hx, hb, hr, hml, hown, hts, hX, hbl, hlocks, hgv⟩ := id C9
  have hbA : ¬ hA f00 s.heap.size b := fun q => by rcases q with q | q; exact q rfl; omega
  refine lv_aload_n hx hb dL_law_708 rfl (lv_at hl 1 rfl) ?_
  refine lv_aload_n hx hb dL_law_709 rfl (lv_at hl 3 rfl) ?_
  refine g_cI C0 G (g_runSH C0 G (rest := []) (k_L_declare hfl h_sc h_m0) hYH_L_declare mm_L_150 ms_L_declare ⟨(Nat.le_of_ble_eq_true rfl), (Nat.le_of_ble_eq_true rfl)⟩ rfl hl.1 rfl (Nat.le_of_ble_eq_true rfl) dL_law_710 ⟨(Nat.le_of_ble_eq_true rfl), (Nat.le_of_ble_eq_true rfl)⟩) (kx_no rfl) (fun r1 u2 H locs hp3 G => ?_)
  obtain ⟨rfl, fr9⟩ := hp3
  refine lv_istore (lv' := [(6, .int 1), (0, .ref b), (1, .ref sc), (2, .ref m), (3, .ref out), (4, .ref outD), (5, .int 0)]) hx hb dL_law_713 hl (by decide) rfl (fun ls hl => ?_)
  refine lv_aload_n hx hb dL_law_715 rfl (lv_at hl 3 rfl) ?_
  have k4 : u2 m = some (.inr (11, [.int 0, .int 0, .ref v, .ref im, .ref kp, .ref pa, .ref de, .ref ide, .int 0, .int 0, .ref mtx, .int 0, .int (-1), .int (-1), .ref pt, .int 0, .int 0, .int 0, .ref so, .ref mo, .ref wh, .ref pf])) := fr9 _ _ (by omega) h_m
  have k5 : u2 v = some (.inl (cy 0, 6441, .inl (fun _ => 0))) := fr9 _ _ (by omega) h_v
  refine g_cI C0 G (g_runV C0 G (rest := []) (k_X9_declare hfl k4 k5) k4 rfl hY_X9_declare mm_L_153 mi_X9_declare ml_X9_declare ⟨(Nat.le_of_ble_eq_true rfl), (Nat.le_of_ble_eq_true rfl)⟩ rfl hl.1 rfl (Nat.le_of_ble_eq_true rfl) dL_law_716 ⟨(Nat.le_of_ble_eq_true rfl), (Nat.le_of_ble_eq_true rfl)⟩) (kx_no rfl) (fun r8 u7 H locs hp6 G => ?_)
  obtain ⟨rest9, hm9⟩ := hp6
  refine lv_istore (lv' := [(7, .int r8), (6, .int 1), (0, .ref b), (1, .ref sc), (2, .ref m), (3, .ref out), (4, .ref outD), (5, .int 0)]) hx hb dL_law_719 hl (by decide) rfl (fun ls hl => ?_)
  refine lv_aload_n hx hb dL_law_721 rfl (lv_at hl 4 rfl) ?_
  refine g_cI C0 G (g_runV C0 G (rest := []) (k_X9_thrown hfl hm9) hm9 rfl hY_X9_thrown mm_L_128 mi_X9_thrown ml_X9_thrown ⟨(Nat.le_of_ble_eq_true rfl), (Nat.le_of_ble_eq_true rfl)⟩ rfl hl.1 rfl (Nat.le_of_ble_eq_true rfl) dL_law_722 ⟨(Nat.le_of_ble_eq_true rfl), (Nat.le_of_ble_eq_true rfl)⟩) (kx_no rfl) (fun r11 u10 H locs hp9 G => ?_)
  obtain ⟨rfl, eu10⟩ := hp9
  rw [eu10] at G
  refine lv_iload hx hb dL_law_725 (lv_at hl 1 rfl) ?_
  refine lv_icmp_eq (tgt := 732) hx hb dL_law_727 (by decide) (fun _ => ?_) (fun c12 => absurd (by decide) c12)
  refine lv_iload hx hb dL_law_732 (lv_at hl 1 rfl) ?_
  refine lv_if_ne (tgt := 749) hx hb dL_law_734 (by decide) (fun _ => ?_) (fun c13 => absurd c13 (by decide))
  refine lv_goto (tgt := 2164) hx hb dL_law_749 (by decide) ?_
  exact law_tail hfl C9 C0 G (Nat.le_of_ble_eq_true rfl) (Nat.le_of_ble_eq_true rfl) (lv_sub hl [2, 7] rfl)
set_option maxRecDepth 100000 in
theorem law_case_10 {p : Program} {e : Env} {s : State} {m9 : MethodId} {below : List Frame} {meth : Method} {c : Code} {l : Launch} {b  : Nat} {xs : Nat → Int32} {D : va_G} {cy : Nat → ClassId} {sc m0 al i0 i1 i2 i3 i4 i5 i6 i7 i8 i9 i10 i11 i12 lg ln lst len sv sn sst sen tx bf tn tp r0 r0e r1 r1e m v im kp pa de ide mtx pt so mo wh pf out outD m1 : Nat} {g0 : Nat → Option Nat} {f : Hf} {H : Heap} {locs : List Loc} {ls : Array Slot} (hfl : l.stackTraces = false) (C9 : lw_At p s m9 meth c b 6 xs) (C0 : hC p l s m9 meth c code 9 #[Value.ref b] RL D (hTy cy) (hA f00 s.heap.size)) (hord : sc < m0 ∧ m0 < al ∧ al < i0 ∧ i0 < i1 ∧ i1 < i2 ∧ i2 < i3 ∧ i3 < i4 ∧ i4 < i5 ∧ i5 < i6 ∧ i6 < i7 ∧ i7 < i8 ∧ i8 < i9 ∧ i9 < i10 ∧ i10 < i11 ∧ i11 < i12 ∧ i12 < lg ∧ lg < ln ∧ ln < lst ∧ lst < len ∧ len < sv ∧ sv < sn ∧ sn < sst ∧ sst < sen ∧ sen < tx ∧ tx < bf ∧ bf < tn ∧ tn < tp ∧ tp < r0 ∧ r0 < r0e ∧ r0e < r1 ∧ r1 < r1e ∧ r1e < m ∧ m < v ∧ v < im ∧ im < kp ∧ kp < pa ∧ pa < de ∧ de < ide ∧ ide < mtx ∧ mtx < pt ∧ pt < so ∧ so < mo ∧ mo < wh ∧ wh < pf ∧ pf < out ∧ out < outD) (hg0 : g0 0 = some i0) (G : hG D (hA f00 s.heap.size) f s H locs) (hl : lv_has ls 9 [(0, .ref b), (1, .ref sc), (2, .ref m), (3, .ref out), (4, .ref outD), (5, .int 0)]) (h_sc : f sc = some (.inr (10, [.ref m0, .ref m1, .ref lg, .ref sv, .ref tx, .ref r0, .ref r1, .int (-1), .int (-1), .int 0]))) (h_m : f m = some (.inr (11, [.int 0, .int 0, .ref v, .ref im, .ref kp, .ref pa, .ref de, .ref ide, .int 0, .int 0, .ref mtx, .int 0, .int (-1), .int (-1), .ref pt, .int 0, .int 0, .int 0, .ref so, .ref mo, .ref wh, .ref pf]))) : W p l e room_1 s m9 #[Value.ref b] below meth c H locs 140 156303 (lw_Z below #[Value.ref b] s) (F0 m9 910 ls []) := by
  obtain ⟨oo0, oo1, oo2, oo3, oo4, oo5, oo6, oo7, oo8, oo9, oo10, oo11, oo12, oo13, oo14, oo15, oo16, oo17, oo18, oo19, oo20, oo21, oo22, oo23, oo24, oo25, oo26, oo27, oo28, oo29, oo30, oo31, oo32, oo33, oo34, oo35, oo36, oo37, oo38, oo39, oo40, oo41, oo42, oo43, oo44, oo45⟩ := hord
  obtain ⟨hx, hb, hr, hml, hown, hts, hX, hbl, hlocks, hgv⟩ := id C9
  have hbA : ¬ hA f00 s.heap.size b := fun q => by rcases q with q | q; exact q rfl; omega
  refine lv_aload_n hx hb dL_law_910 rfl (lv_at hl 1 rfl) ?_
  refine lv_aload_n hx hb dL_law_911 rfl (lv_at hl 3 rfl) ?_
  refine g_cI C0 G (g_runSH C0 G (rest := []) (k_L_errorPosition hfl h_sc) hYH_L_errorPosition mm_L_164 ms_L_errorPosition ⟨(Nat.le_of_ble_eq_true rfl), (Nat.le_of_ble_eq_true rfl)⟩ rfl hl.1 rfl (Nat.le_of_ble_eq_true rfl) dL_law_912 ⟨(Nat.le_of_ble_eq_true rfl), (Nat.le_of_ble_eq_true rfl)⟩) (kx_no rfl) (fun r1 u2 H locs hp3 G => ?_)
  obtain ⟨rfl, fr9⟩ := hp3
  refine lv_istore (lv' := [(6, .int 1), (0, .ref b), (1, .ref sc), (2, .ref m), (3, .ref out), (4, .ref outD), (5, .int 0)]) hx hb dL_law_915 hl (by decide) rfl (fun ls hl => ?_)
  refine lv_aload_n hx hb dL_law_917 rfl (lv_at hl 3 rfl) ?_
  have k4 : u2 m = some (.inr (11, [.int 0, .int 0, .ref v, .ref im, .ref kp, .ref pa, .ref de, .ref ide, .int 0, .int 0, .ref mtx, .int 0, .int (-1), .int (-1), .ref pt, .int 0, .int 0, .int 0, .ref so, .ref mo, .ref wh, .ref pf])) := fr9 _ _ (by omega) h_m
  refine g_cI C0 G (g_runV C0 G (rest := []) (k_X9_errorPosition hfl k4) k4 rfl hY_X9_errorPosition mm_L_166 mi_X9_errorPosition ml_X9_errorPosition ⟨(Nat.le_of_ble_eq_true rfl), (Nat.le_of_ble_eq_true rfl)⟩ rfl hl.1 rfl (Nat.le_of_ble_eq_true rfl) dL_law_918 ⟨(Nat.le_of_ble_eq_true rfl), (Nat.le_of_ble_eq_true rfl)⟩) (kx_no rfl) (fun r7 u6 H locs hp5 G => ?_)
  obtain ⟨rest9, hm9⟩ := hp5
  refine lv_istore (lv' := [(7, .int r7), (6, .int 1), (0, .ref b), (1, .ref sc), (2, .ref m), (3, .ref out), (4, .ref outD), (5, .int 0)]) hx hb dL_law_921 hl (by decide) rfl (fun ls hl => ?_)
  refine lv_aload_n hx hb dL_law_923 rfl (lv_at hl 4 rfl) ?_
  refine g_cI C0 G (g_runV C0 G (rest := []) (k_X9_thrown hfl hm9) hm9 rfl hY_X9_thrown mm_L_128 mi_X9_thrown ml_X9_thrown ⟨(Nat.le_of_ble_eq_true rfl), (Nat.le_of_ble_eq_true rfl)⟩ rfl hl.1 rfl (Nat.le_of_ble_eq_true rfl) dL_law_924 ⟨(Nat.le_of_ble_eq_true rfl), (Nat.le_of_ble_eq_true rfl)⟩) (kx_no rfl) (fun r10 u9 H locs hp8 G => ?_)
  obtain ⟨rfl, eu9⟩ := hp8
  rw [eu9] at G
  refine lv_iload hx hb dL_law_927 (lv_at hl 1 rfl) ?_
  refine lv_icmp_eq (tgt := 934) hx hb dL_law_929 (by decide) (fun _ => ?_) (fun c11 => absurd (by decide) c11)
  refine lv_iload hx hb dL_law_934 (lv_at hl 1 rfl) ?_
  refine lv_if_ne (tgt := 951) hx hb dL_law_936 (by decide) (fun _ => ?_) (fun c12 => absurd c12 (by decide))
  refine lv_goto (tgt := 2164) hx hb dL_law_951 (by decide) ?_
  exact law_tail hfl C9 C0 G (Nat.le_of_ble_eq_true rfl) (Nat.le_of_ble_eq_true rfl) (lv_sub hl [2, 7] rfl)
set_option maxRecDepth 100000 in
theorem law_case_14 {p : Program} {e : Env} {s : State} {m9 : MethodId} {below : List Frame} {meth : Method} {c : Code} {l : Launch} {b  : Nat} {xs : Nat → Int32} {D : va_G} {cy : Nat → ClassId} {sc m0 al i0 i1 i2 i3 i4 i5 i6 i7 i8 i9 i10 i11 i12 lg ln lst len sv sn sst sen tx bf tn tp r0 r0e r1 r1e m v im kp pa de ide mtx pt so mo wh pf out outD m1 : Nat} {g0 : Nat → Option Nat} {f : Hf} {H : Heap} {locs : List Loc} {ls : Array Slot} (hfl : l.stackTraces = false) (C9 : lw_At p s m9 meth c b 6 xs) (C0 : hC p l s m9 meth c code 9 #[Value.ref b] RL D (hTy cy) (hA f00 s.heap.size)) (hord : sc < m0 ∧ m0 < al ∧ al < i0 ∧ i0 < i1 ∧ i1 < i2 ∧ i2 < i3 ∧ i3 < i4 ∧ i4 < i5 ∧ i5 < i6 ∧ i6 < i7 ∧ i7 < i8 ∧ i8 < i9 ∧ i9 < i10 ∧ i10 < i11 ∧ i11 < i12 ∧ i12 < lg ∧ lg < ln ∧ ln < lst ∧ lst < len ∧ len < sv ∧ sv < sn ∧ sn < sst ∧ sst < sen ∧ sen < tx ∧ tx < bf ∧ bf < tn ∧ tn < tp ∧ tp < r0 ∧ r0 < r0e ∧ r0e < r1 ∧ r1 < r1e ∧ r1e < m ∧ m < v ∧ v < im ∧ im < kp ∧ kp < pa ∧ pa < de ∧ de < ide ∧ ide < mtx ∧ mtx < pt ∧ pt < so ∧ so < mo ∧ mo < wh ∧ wh < pf ∧ pf < out ∧ out < outD) (hg0 : g0 0 = some i0) (G : hG D (hA f00 s.heap.size) f s H locs) (hl : lv_has ls 9 [(0, .ref b), (1, .ref sc), (2, .ref m), (3, .ref out), (4, .ref outD), (5, .int 0)]) (h_sc : f sc = some (.inr (10, [.ref m0, .ref m1, .ref lg, .ref sv, .ref tx, .ref r0, .ref r1, .int (-1), .int (-1), .int 0]))) (h_m0 : f m0 = some (.inr (4, [.ref al, .int 0, .int 0, .int 0, .int 0, .int 0]))) (h_m : f m = some (.inr (11, [.int 0, .int 0, .ref v, .ref im, .ref kp, .ref pa, .ref de, .ref ide, .int 0, .int 0, .ref mtx, .int 0, .int (-1), .int (-1), .ref pt, .int 0, .int 0, .int 0, .ref so, .ref mo, .ref wh, .ref pf]))) (h_v : f v = some (.inl (cy 0, 6441, .inl (fun _ => 0)))) : W p l e room_1 s m9 #[Value.ref b] below meth c H locs 140 156303 (lw_Z below #[Value.ref b] s) (F0 m9 1122 ls []) := by
  obtain ⟨oo0, oo1, oo2, oo3, oo4, oo5, oo6, oo7, oo8, oo9, oo10, oo11, oo12, oo13, oo14, oo15, oo16, oo17, oo18, oo19, oo20, oo21, oo22, oo23, oo24, oo25, oo26, oo27, oo28, oo29, oo30, oo31, oo32, oo33, oo34, oo35, oo36, oo37, oo38, oo39, oo40, oo41, oo42, oo43, oo44, oo45⟩ := hord
  obtain ⟨hx, hb, hr, hml, hown, hts, hX, hbl, hlocks, hgv⟩ := id C9
  have hbA : ¬ hA f00 s.heap.size b := fun q => by rcases q with q | q; exact q rfl; omega
  refine lv_aload_n hx hb dL_law_1122 rfl (lv_at hl 1 rfl) ?_
  refine lv_aload_n hx hb dL_law_1123 rfl (lv_at hl 0 rfl) ?_
  refine lv_iload hx hb dL_law_1124 (lv_at hl 5 rfl) ?_
  refine lv_iconst (v := 1) hx hb dL_law_1126 (by decide) ?_
  refine lv_iadd hx hb dL_law_1127 ?_
  refine lv_topv (v := 1) (by decide) ?_
  refine va_sld hx hb hX hbl hbA G.2 (i := 1) (by unfold vp_in; decide) dL_law_1128 ?_
  refine lv_aload_n hx hb dL_law_1129 rfl (lv_at hl 0 rfl) ?_
  refine lv_iload hx hb dL_law_1130 (lv_at hl 5 rfl) ?_
  refine lv_iconst (v := 2) hx hb dL_law_1132 (by decide) ?_
  refine lv_iadd hx hb dL_law_1133 ?_
  refine lv_topv (v := 2) (by decide) ?_
  refine va_sld hx hb hX hbl hbA G.2 (i := 2) (by unfold vp_in; decide) dL_law_1134 ?_
  refine lv_aload_n hx hb dL_law_1135 rfl (lv_at hl 0 rfl) ?_
  refine lv_iload hx hb dL_law_1136 (lv_at hl 5 rfl) ?_
  refine lv_iconst (v := 3) hx hb dL_law_1138 (by decide) ?_
  refine lv_iadd hx hb dL_law_1139 ?_
  refine lv_topv (v := 3) (by decide) ?_
  refine va_sld hx hb hX hbl hbA G.2 (i := 3) (by unfold vp_in; decide) dL_law_1140 ?_
  refine lv_aload_n hx hb dL_law_1141 rfl (lv_at hl 3 rfl) ?_
  refine g_cI C0 G (g_runSH C0 G (rest := []) (k_L_batter hfl (xs 1) (xs 2) (xs 3) h_sc h_m0) hYH_L_batter mm_L_177 ms_L_batter ⟨(Nat.le_of_ble_eq_true rfl), (Nat.le_of_ble_eq_true rfl)⟩ rfl hl.1 rfl (Nat.le_of_ble_eq_true rfl) dL_law_1142 ⟨(Nat.le_of_ble_eq_true rfl), (Nat.le_of_ble_eq_true rfl)⟩) (kx_no rfl) (fun r1 u2 H locs hp3 G => ?_)
  obtain ⟨rfl, fr9⟩ := hp3
  refine lv_istore (lv' := [(6, .int 1), (0, .ref b), (1, .ref sc), (2, .ref m), (3, .ref out), (4, .ref outD), (5, .int 0)]) hx hb dL_law_1145 hl (by decide) rfl (fun ls hl => ?_)
  refine lv_aload_n hx hb dL_law_1147 rfl (lv_at hl 3 rfl) ?_
  refine lv_aload_n hx hb dL_law_1148 rfl (lv_at hl 1 rfl) ?_
  refine lv_iload hx hb dL_law_1149 (lv_at hl 6 rfl) ?_
  refine lv_iconst (v := 1) hx hb dL_law_1151 (by decide) ?_
  refine lv_iadd hx hb dL_law_1152 ?_
  refine lv_topv (v := 1) (by decide) ?_
  refine va_sld hx hb hX hbl hbA G.2 (i := 1) (by unfold vp_in; decide) dL_law_1153 ?_
  refine lv_aload_n hx hb dL_law_1154 rfl (lv_at hl 1 rfl) ?_
  refine lv_iload hx hb dL_law_1155 (lv_at hl 6 rfl) ?_
  refine lv_iconst (v := 2) hx hb dL_law_1157 (by decide) ?_
  refine lv_iadd hx hb dL_law_1158 ?_
  refine lv_topv (v := 2) (by decide) ?_
  refine va_sld hx hb hX hbl hbA G.2 (i := 2) (by unfold vp_in; decide) dL_law_1159 ?_
  refine lv_aload_n hx hb dL_law_1160 rfl (lv_at hl 1 rfl) ?_
  refine lv_iload hx hb dL_law_1161 (lv_at hl 6 rfl) ?_
  refine lv_iconst (v := 3) hx hb dL_law_1163 (by decide) ?_
  refine lv_iadd hx hb dL_law_1164 ?_
  refine lv_topv (v := 3) (by decide) ?_
  refine va_sld hx hb hX hbl hbA G.2 (i := 3) (by unfold vp_in; decide) dL_law_1165 ?_
  have k4 : u2 m = some (.inr (11, [.int 0, .int 0, .ref v, .ref im, .ref kp, .ref pa, .ref de, .ref ide, .int 0, .int 0, .ref mtx, .int 0, .int (-1), .int (-1), .ref pt, .int 0, .int 0, .int 0, .ref so, .ref mo, .ref wh, .ref pf])) := fr9 _ _ (by omega) h_m
  have k5 : u2 v = some (.inl (cy 0, 6441, .inl (fun _ => 0))) := fr9 _ _ (by omega) h_v
  refine g_cI C0 G (g_runV C0 G (rest := []) (k_X9_batter hfl (xs 1) (xs 2) (xs 3) k4 k5) k4 rfl hY_X9_batter mm_L_179 mi_X9_batter ml_X9_batter ⟨(Nat.le_of_ble_eq_true rfl), (Nat.le_of_ble_eq_true rfl)⟩ rfl hl.1 rfl (Nat.le_of_ble_eq_true rfl) dL_law_1166 ⟨(Nat.le_of_ble_eq_true rfl), (Nat.le_of_ble_eq_true rfl)⟩) (kx_no rfl) (fun r8 u7 H locs hp6 G => ?_)
  obtain ⟨rest9, hm9⟩ := hp6
  refine lv_istore (lv' := [(7, .int r8), (6, .int 1), (0, .ref b), (1, .ref sc), (2, .ref m), (3, .ref out), (4, .ref outD), (5, .int 0)]) hx hb dL_law_1169 hl (by decide) rfl (fun ls hl => ?_)
  refine lv_aload_n hx hb dL_law_1171 rfl (lv_at hl 4 rfl) ?_
  refine g_cI C0 G (g_runV C0 G (rest := []) (k_X9_thrown hfl hm9) hm9 rfl hY_X9_thrown mm_L_128 mi_X9_thrown ml_X9_thrown ⟨(Nat.le_of_ble_eq_true rfl), (Nat.le_of_ble_eq_true rfl)⟩ rfl hl.1 rfl (Nat.le_of_ble_eq_true rfl) dL_law_1172 ⟨(Nat.le_of_ble_eq_true rfl), (Nat.le_of_ble_eq_true rfl)⟩) (kx_no rfl) (fun r11 u10 H locs hp9 G => ?_)
  obtain ⟨rfl, eu10⟩ := hp9
  rw [eu10] at G
  refine lv_iload hx hb dL_law_1175 (lv_at hl 1 rfl) ?_
  refine lv_icmp_eq (tgt := 1182) hx hb dL_law_1177 (by decide) (fun _ => ?_) (fun c12 => absurd (by decide) c12)
  refine lv_iload hx hb dL_law_1182 (lv_at hl 1 rfl) ?_
  refine lv_if_ne (tgt := 1199) hx hb dL_law_1184 (by decide) (fun _ => ?_) (fun c13 => absurd c13 (by decide))
  refine lv_goto (tgt := 2164) hx hb dL_law_1199 (by decide) ?_
  exact law_tail hfl C9 C0 G (Nat.le_of_ble_eq_true rfl) (Nat.le_of_ble_eq_true rfl) (lv_sub hl [2, 7] rfl)
set_option maxRecDepth 100000 in
theorem law_case_18 {p : Program} {e : Env} {s : State} {m9 : MethodId} {below : List Frame} {meth : Method} {c : Code} {l : Launch} {b  : Nat} {xs : Nat → Int32} {D : va_G} {cy : Nat → ClassId} {sc m0 al i0 i1 i2 i3 i4 i5 i6 i7 i8 i9 i10 i11 i12 lg ln lst len sv sn sst sen tx bf tn tp r0 r0e r1 r1e m v im kp pa de ide mtx pt so mo wh pf out outD m1 : Nat} {g0 : Nat → Option Nat} {f : Hf} {H : Heap} {locs : List Loc} {ls : Array Slot} (hfl : l.stackTraces = false) (C9 : lw_At p s m9 meth c b 6 xs) (C0 : hC p l s m9 meth c code 9 #[Value.ref b] RL D (hTy cy) (hA f00 s.heap.size)) (hord : sc < m0 ∧ m0 < al ∧ al < i0 ∧ i0 < i1 ∧ i1 < i2 ∧ i2 < i3 ∧ i3 < i4 ∧ i4 < i5 ∧ i5 < i6 ∧ i6 < i7 ∧ i7 < i8 ∧ i8 < i9 ∧ i9 < i10 ∧ i10 < i11 ∧ i11 < i12 ∧ i12 < lg ∧ lg < ln ∧ ln < lst ∧ lst < len ∧ len < sv ∧ sv < sn ∧ sn < sst ∧ sst < sen ∧ sen < tx ∧ tx < bf ∧ bf < tn ∧ tn < tp ∧ tp < r0 ∧ r0 < r0e ∧ r0e < r1 ∧ r1 < r1e ∧ r1e < m ∧ m < v ∧ v < im ∧ im < kp ∧ kp < pa ∧ pa < de ∧ de < ide ∧ ide < mtx ∧ mtx < pt ∧ pt < so ∧ so < mo ∧ mo < wh ∧ wh < pf ∧ pf < out ∧ out < outD) (hg0 : g0 0 = some i0) (G : hG D (hA f00 s.heap.size) f s H locs) (hl : lv_has ls 9 [(0, .ref b), (1, .ref sc), (2, .ref m), (3, .ref out), (4, .ref outD), (5, .int 0)]) (h_sc : f sc = some (.inr (10, [.ref m0, .ref m1, .ref lg, .ref sv, .ref tx, .ref r0, .ref r1, .int (-1), .int (-1), .int 0]))) (h_lg : f lg = some (.inr (3, [.ref ln, .ref lst, .ref len, .int 0, .int 0, .int 0, .int 0, .int 0, .int 0]))) (h_m : f m = some (.inr (11, [.int 0, .int 0, .ref v, .ref im, .ref kp, .ref pa, .ref de, .ref ide, .int 0, .int 0, .ref mtx, .int 0, .int (-1), .int (-1), .ref pt, .int 0, .int 0, .int 0, .ref so, .ref mo, .ref wh, .ref pf]))) (h_v : f v = some (.inl (cy 0, 6441, .inl (fun _ => 0)))) : W p l e room_1 s m9 #[Value.ref b] below meth c H locs 140 156303 (lw_Z below #[Value.ref b] s) (F0 m9 1442 ls []) := by
  obtain ⟨oo0, oo1, oo2, oo3, oo4, oo5, oo6, oo7, oo8, oo9, oo10, oo11, oo12, oo13, oo14, oo15, oo16, oo17, oo18, oo19, oo20, oo21, oo22, oo23, oo24, oo25, oo26, oo27, oo28, oo29, oo30, oo31, oo32, oo33, oo34, oo35, oo36, oo37, oo38, oo39, oo40, oo41, oo42, oo43, oo44, oo45⟩ := hord
  obtain ⟨hx, hb, hr, hml, hown, hts, hX, hbl, hlocks, hgv⟩ := id C9
  have hbA : ¬ hA f00 s.heap.size b := fun q => by rcases q with q | q; exact q rfl; omega
  refine lv_aload_n hx hb dL_law_1442 rfl (lv_at hl 1 rfl) ?_
  refine lv_aload_n hx hb dL_law_1443 rfl (lv_at hl 0 rfl) ?_
  refine lv_iload hx hb dL_law_1444 (lv_at hl 5 rfl) ?_
  refine lv_iconst (v := 1) hx hb dL_law_1446 (by decide) ?_
  refine lv_iadd hx hb dL_law_1447 ?_
  refine lv_topv (v := 1) (by decide) ?_
  refine va_sld hx hb hX hbl hbA G.2 (i := 1) (by unfold vp_in; decide) dL_law_1448 ?_
  refine lv_if_eq (tgt := 1456) hx hb dL_law_1449 (by decide) (fun c1 => ?_) (fun c1 => ?_)
  · refine lv_iconst (v := 0) hx hb dL_law_1456 (by decide) ?_
    refine lv_aload_n hx hb dL_law_1457 rfl (lv_at hl 3 rfl) ?_
    refine g_cI C0 G (g_runSH C0 G (rest := []) (k_L_needed hfl 0 h_sc h_lg (Or.inl rfl)) hYH_L_needed mm_L_189 ms_L_needed ⟨(Nat.le_of_ble_eq_true rfl), (Nat.le_of_ble_eq_true rfl)⟩ rfl hl.1 rfl (Nat.le_of_ble_eq_true rfl) dL_law_1458 ⟨(Nat.le_of_ble_eq_true rfl), (Nat.le_of_ble_eq_true rfl)⟩) (kx_no rfl) (fun r2 u3 H locs hp4 G => ?_)
    obtain ⟨rfl, fr9⟩ := hp4
    refine lv_istore (lv' := [(6, .int 1), (0, .ref b), (1, .ref sc), (2, .ref m), (3, .ref out), (4, .ref outD), (5, .int 0)]) hx hb dL_law_1461 hl (by decide) rfl (fun ls hl => ?_)
    refine lv_aload_n hx hb dL_law_1463 rfl (lv_at hl 3 rfl) ?_
    refine lv_aload_n hx hb dL_law_1464 rfl (lv_at hl 1 rfl) ?_
    refine lv_iload hx hb dL_law_1465 (lv_at hl 6 rfl) ?_
    refine lv_iconst (v := 1) hx hb dL_law_1467 (by decide) ?_
    refine lv_iadd hx hb dL_law_1468 ?_
    refine lv_topv (v := 1) (by decide) ?_
    refine va_sld hx hb hX hbl hbA G.2 (i := 1) (by unfold vp_in; decide) dL_law_1469 ?_
    refine lv_if_eq (tgt := 1477) hx hb dL_law_1470 (by decide) (fun _ => ?_) (fun c5 => absurd (c1) c5)
    refine lv_iconst (v := 0) hx hb dL_law_1477 (by decide) ?_
    have k6 : u3 m = some (.inr (11, [.int 0, .int 0, .ref v, .ref im, .ref kp, .ref pa, .ref de, .ref ide, .int 0, .int 0, .ref mtx, .int 0, .int (-1), .int (-1), .ref pt, .int 0, .int 0, .int 0, .ref so, .ref mo, .ref wh, .ref pf])) := fr9 _ _ (by omega) h_m
    have k7 : u3 v = some (.inl (cy 0, 6441, .inl (fun _ => 0))) := fr9 _ _ (by omega) h_v
    refine g_cI C0 G (g_runV C0 G (rest := []) (k_X9_needed hfl 0 k6 k7 (Or.inl rfl)) k6 rfl hY_X9_needed mm_L_192 mi_X9_needed ml_X9_needed ⟨(Nat.le_of_ble_eq_true rfl), (Nat.le_of_ble_eq_true rfl)⟩ rfl hl.1 rfl (Nat.le_of_ble_eq_true rfl) dL_law_1478 ⟨(Nat.le_of_ble_eq_true rfl), (Nat.le_of_ble_eq_true rfl)⟩) (kx_no rfl) (fun r10 u9 H locs hp8 G => ?_)
    obtain ⟨rest9, hm9⟩ := hp8
    refine lv_istore (lv' := [(7, .int r10), (6, .int 1), (0, .ref b), (1, .ref sc), (2, .ref m), (3, .ref out), (4, .ref outD), (5, .int 0)]) hx hb dL_law_1481 hl (by decide) rfl (fun ls hl => ?_)
    refine lv_aload_n hx hb dL_law_1483 rfl (lv_at hl 4 rfl) ?_
    refine g_cI C0 G (g_runV C0 G (rest := []) (k_X9_thrown hfl hm9) hm9 rfl hY_X9_thrown mm_L_128 mi_X9_thrown ml_X9_thrown ⟨(Nat.le_of_ble_eq_true rfl), (Nat.le_of_ble_eq_true rfl)⟩ rfl hl.1 rfl (Nat.le_of_ble_eq_true rfl) dL_law_1484 ⟨(Nat.le_of_ble_eq_true rfl), (Nat.le_of_ble_eq_true rfl)⟩) (kx_no rfl) (fun r13 u12 H locs hp11 G => ?_)
    obtain ⟨rfl, eu12⟩ := hp11
    rw [eu12] at G
    refine lv_iload hx hb dL_law_1487 (lv_at hl 1 rfl) ?_
    refine lv_icmp_eq (tgt := 1494) hx hb dL_law_1489 (by decide) (fun _ => ?_) (fun c14 => absurd (by decide) c14)
    refine lv_iload hx hb dL_law_1494 (lv_at hl 1 rfl) ?_
    refine lv_if_ne (tgt := 1511) hx hb dL_law_1496 (by decide) (fun _ => ?_) (fun c15 => absurd c15 (by decide))
    refine lv_goto (tgt := 2164) hx hb dL_law_1511 (by decide) ?_
    exact law_tail hfl C9 C0 G (Nat.le_of_ble_eq_true rfl) (Nat.le_of_ble_eq_true rfl) (lv_sub hl [2, 7] rfl)
  · refine lv_iconst (v := 1) hx hb dL_law_1452 (by decide) ?_
    refine lv_goto (tgt := 1457) hx hb dL_law_1453 (by decide) ?_
    refine lv_aload_n hx hb dL_law_1457 rfl (lv_at hl 3 rfl) ?_
    refine g_cI C0 G (g_runSH C0 G (rest := []) (k_L_needed hfl 1 h_sc h_lg (Or.inr rfl)) hYH_L_needed mm_L_189 ms_L_needed ⟨(Nat.le_of_ble_eq_true rfl), (Nat.le_of_ble_eq_true rfl)⟩ rfl hl.1 rfl (Nat.le_of_ble_eq_true rfl) dL_law_1458 ⟨(Nat.le_of_ble_eq_true rfl), (Nat.le_of_ble_eq_true rfl)⟩) (kx_no rfl) (fun r16 u17 H locs hp18 G => ?_)
    obtain ⟨rfl, fr9⟩ := hp18
    refine lv_istore (lv' := [(6, .int 1), (0, .ref b), (1, .ref sc), (2, .ref m), (3, .ref out), (4, .ref outD), (5, .int 0)]) hx hb dL_law_1461 hl (by decide) rfl (fun ls hl => ?_)
    refine lv_aload_n hx hb dL_law_1463 rfl (lv_at hl 3 rfl) ?_
    refine lv_aload_n hx hb dL_law_1464 rfl (lv_at hl 1 rfl) ?_
    refine lv_iload hx hb dL_law_1465 (lv_at hl 6 rfl) ?_
    refine lv_iconst (v := 1) hx hb dL_law_1467 (by decide) ?_
    refine lv_iadd hx hb dL_law_1468 ?_
    refine lv_topv (v := 1) (by decide) ?_
    refine va_sld hx hb hX hbl hbA G.2 (i := 1) (by unfold vp_in; decide) dL_law_1469 ?_
    refine lv_if_eq (tgt := 1477) hx hb dL_law_1470 (by decide) (fun c19 => absurd c19 (c1)) (fun _ => ?_)
    refine lv_iconst (v := 1) hx hb dL_law_1473 (by decide) ?_
    refine lv_goto (tgt := 1478) hx hb dL_law_1474 (by decide) ?_
    have k20 : u17 m = some (.inr (11, [.int 0, .int 0, .ref v, .ref im, .ref kp, .ref pa, .ref de, .ref ide, .int 0, .int 0, .ref mtx, .int 0, .int (-1), .int (-1), .ref pt, .int 0, .int 0, .int 0, .ref so, .ref mo, .ref wh, .ref pf])) := fr9 _ _ (by omega) h_m
    have k21 : u17 v = some (.inl (cy 0, 6441, .inl (fun _ => 0))) := fr9 _ _ (by omega) h_v
    refine g_cI C0 G (g_runV C0 G (rest := []) (k_X9_needed hfl 1 k20 k21 (Or.inr rfl)) k20 rfl hY_X9_needed mm_L_192 mi_X9_needed ml_X9_needed ⟨(Nat.le_of_ble_eq_true rfl), (Nat.le_of_ble_eq_true rfl)⟩ rfl hl.1 rfl (Nat.le_of_ble_eq_true rfl) dL_law_1478 ⟨(Nat.le_of_ble_eq_true rfl), (Nat.le_of_ble_eq_true rfl)⟩) (kx_no rfl) (fun r24 u23 H locs hp22 G => ?_)
    obtain ⟨rest9, hm9⟩ := hp22
    refine lv_istore (lv' := [(7, .int r24), (6, .int 1), (0, .ref b), (1, .ref sc), (2, .ref m), (3, .ref out), (4, .ref outD), (5, .int 0)]) hx hb dL_law_1481 hl (by decide) rfl (fun ls hl => ?_)
    refine lv_aload_n hx hb dL_law_1483 rfl (lv_at hl 4 rfl) ?_
    refine g_cI C0 G (g_runV C0 G (rest := []) (k_X9_thrown hfl hm9) hm9 rfl hY_X9_thrown mm_L_128 mi_X9_thrown ml_X9_thrown ⟨(Nat.le_of_ble_eq_true rfl), (Nat.le_of_ble_eq_true rfl)⟩ rfl hl.1 rfl (Nat.le_of_ble_eq_true rfl) dL_law_1484 ⟨(Nat.le_of_ble_eq_true rfl), (Nat.le_of_ble_eq_true rfl)⟩) (kx_no rfl) (fun r27 u26 H locs hp25 G => ?_)
    obtain ⟨rfl, eu26⟩ := hp25
    rw [eu26] at G
    refine lv_iload hx hb dL_law_1487 (lv_at hl 1 rfl) ?_
    refine lv_icmp_eq (tgt := 1494) hx hb dL_law_1489 (by decide) (fun _ => ?_) (fun c28 => absurd (by decide) c28)
    refine lv_iload hx hb dL_law_1494 (lv_at hl 1 rfl) ?_
    refine lv_if_ne (tgt := 1511) hx hb dL_law_1496 (by decide) (fun _ => ?_) (fun c29 => absurd c29 (by decide))
    refine lv_goto (tgt := 2164) hx hb dL_law_1511 (by decide) ?_
    exact law_tail hfl C9 C0 G (Nat.le_of_ble_eq_true rfl) (Nat.le_of_ble_eq_true rfl) (lv_sub hl [2, 7] rfl)
set_option maxRecDepth 100000 in
theorem law_case_22 {p : Program} {e : Env} {s : State} {m9 : MethodId} {below : List Frame} {meth : Method} {c : Code} {l : Launch} {b  : Nat} {xs : Nat → Int32} {D : va_G} {cy : Nat → ClassId} {sc m0 al i0 i1 i2 i3 i4 i5 i6 i7 i8 i9 i10 i11 i12 lg ln lst len sv sn sst sen tx bf tn tp r0 r0e r1 r1e m v im kp pa de ide mtx pt so mo wh pf out outD m1 : Nat} {g0 : Nat → Option Nat} {f : Hf} {H : Heap} {locs : List Loc} {ls : Array Slot} (hfl : l.stackTraces = false) (C9 : lw_At p s m9 meth c b 6 xs) (C0 : hC p l s m9 meth c code 9 #[Value.ref b] RL D (hTy cy) (hA f00 s.heap.size)) (hord : sc < m0 ∧ m0 < al ∧ al < i0 ∧ i0 < i1 ∧ i1 < i2 ∧ i2 < i3 ∧ i3 < i4 ∧ i4 < i5 ∧ i5 < i6 ∧ i6 < i7 ∧ i7 < i8 ∧ i8 < i9 ∧ i9 < i10 ∧ i10 < i11 ∧ i11 < i12 ∧ i12 < lg ∧ lg < ln ∧ ln < lst ∧ lst < len ∧ len < sv ∧ sv < sn ∧ sn < sst ∧ sst < sen ∧ sen < tx ∧ tx < bf ∧ bf < tn ∧ tn < tp ∧ tp < r0 ∧ r0 < r0e ∧ r0e < r1 ∧ r1 < r1e ∧ r1e < m ∧ m < v ∧ v < im ∧ im < kp ∧ kp < pa ∧ pa < de ∧ de < ide ∧ ide < mtx ∧ mtx < pt ∧ pt < so ∧ so < mo ∧ mo < wh ∧ wh < pf ∧ pf < out ∧ out < outD) (hg0 : g0 0 = some i0) (G : hG D (hA f00 s.heap.size) f s H locs) (hl : lv_has ls 9 [(0, .ref b), (1, .ref sc), (2, .ref m), (3, .ref out), (4, .ref outD), (5, .int 0)]) (h_sc : f sc = some (.inr (10, [.ref m0, .ref m1, .ref lg, .ref sv, .ref tx, .ref r0, .ref r1, .int (-1), .int (-1), .int 0]))) (h_m0 : f m0 = some (.inr (4, [.ref al, .int 0, .int 0, .int 0, .int 0, .int 0]))) (h_m : f m = some (.inr (11, [.int 0, .int 0, .ref v, .ref im, .ref kp, .ref pa, .ref de, .ref ide, .int 0, .int 0, .ref mtx, .int 0, .int (-1), .int (-1), .ref pt, .int 0, .int 0, .int 0, .ref so, .ref mo, .ref wh, .ref pf]))) (h_v : f v = some (.inl (cy 0, 6441, .inl (fun _ => 0)))) : W p l e room_1 s m9 #[Value.ref b] below meth c H locs 140 156303 (lw_Z below #[Value.ref b] s) (F0 m9 1694 ls []) := by
  obtain ⟨oo0, oo1, oo2, oo3, oo4, oo5, oo6, oo7, oo8, oo9, oo10, oo11, oo12, oo13, oo14, oo15, oo16, oo17, oo18, oo19, oo20, oo21, oo22, oo23, oo24, oo25, oo26, oo27, oo28, oo29, oo30, oo31, oo32, oo33, oo34, oo35, oo36, oo37, oo38, oo39, oo40, oo41, oo42, oo43, oo44, oo45⟩ := hord
  obtain ⟨hx, hb, hr, hml, hown, hts, hX, hbl, hlocks, hgv⟩ := id C9
  have hbA : ¬ hA f00 s.heap.size b := fun q => by rcases q with q | q; exact q rfl; omega
  refine lv_aload_n hx hb dL_law_1694 rfl (lv_at hl 1 rfl) ?_
  refine lv_aload_n hx hb dL_law_1695 rfl (lv_at hl 0 rfl) ?_
  refine lv_iload hx hb dL_law_1696 (lv_at hl 5 rfl) ?_
  refine lv_iconst (v := 1) hx hb dL_law_1698 (by decide) ?_
  refine lv_iadd hx hb dL_law_1699 ?_
  refine lv_topv (v := 1) (by decide) ?_
  refine va_sld hx hb hX hbl hbA G.2 (i := 1) (by unfold vp_in; decide) dL_law_1700 ?_
  refine lv_aload_n hx hb dL_law_1701 rfl (lv_at hl 0 rfl) ?_
  refine lv_iload hx hb dL_law_1702 (lv_at hl 5 rfl) ?_
  refine lv_iconst (v := 2) hx hb dL_law_1704 (by decide) ?_
  refine lv_iadd hx hb dL_law_1705 ?_
  refine lv_topv (v := 2) (by decide) ?_
  refine va_sld hx hb hX hbl hbA G.2 (i := 2) (by unfold vp_in; decide) dL_law_1706 ?_
  refine lv_aload_n hx hb dL_law_1707 rfl (lv_at hl 0 rfl) ?_
  refine lv_iload hx hb dL_law_1708 (lv_at hl 5 rfl) ?_
  refine lv_iconst (v := 3) hx hb dL_law_1710 (by decide) ?_
  refine lv_iadd hx hb dL_law_1711 ?_
  refine lv_topv (v := 3) (by decide) ?_
  refine va_sld hx hb hX hbl hbA G.2 (i := 3) (by unfold vp_in; decide) dL_law_1712 ?_
  refine lv_if_eq (tgt := 1720) hx hb dL_law_1713 (by decide) (fun c1 => ?_) (fun c1 => ?_)
  · refine lv_iconst (v := 0) hx hb dL_law_1720 (by decide) ?_
    refine lv_aload_n hx hb dL_law_1721 rfl (lv_at hl 3 rfl) ?_
    refine g_cI C0 G (g_runSH C0 G (rest := []) (k_L_storeOvers hfl (xs 1) (xs 2) 0 h_sc h_m0 (Or.inl rfl)) hYH_L_storeOvers mm_L_205 ms_L_storeOvers ⟨(Nat.le_of_ble_eq_true rfl), (Nat.le_of_ble_eq_true rfl)⟩ rfl hl.1 rfl (Nat.le_of_ble_eq_true rfl) dL_law_1722 ⟨(Nat.le_of_ble_eq_true rfl), (Nat.le_of_ble_eq_true rfl)⟩) (kx_no rfl) (fun r2 u3 H locs hp4 G => ?_)
    obtain ⟨rfl, fr9⟩ := hp4
    refine lv_istore (lv' := [(6, .int 1), (0, .ref b), (1, .ref sc), (2, .ref m), (3, .ref out), (4, .ref outD), (5, .int 0)]) hx hb dL_law_1725 hl (by decide) rfl (fun ls hl => ?_)
    refine lv_aload_n hx hb dL_law_1727 rfl (lv_at hl 3 rfl) ?_
    refine lv_aload_n hx hb dL_law_1728 rfl (lv_at hl 1 rfl) ?_
    refine lv_iload hx hb dL_law_1729 (lv_at hl 6 rfl) ?_
    refine lv_iconst (v := 1) hx hb dL_law_1731 (by decide) ?_
    refine lv_iadd hx hb dL_law_1732 ?_
    refine lv_topv (v := 1) (by decide) ?_
    refine va_sld hx hb hX hbl hbA G.2 (i := 1) (by unfold vp_in; decide) dL_law_1733 ?_
    refine lv_aload_n hx hb dL_law_1734 rfl (lv_at hl 1 rfl) ?_
    refine lv_iload hx hb dL_law_1735 (lv_at hl 6 rfl) ?_
    refine lv_iconst (v := 2) hx hb dL_law_1737 (by decide) ?_
    refine lv_iadd hx hb dL_law_1738 ?_
    refine lv_topv (v := 2) (by decide) ?_
    refine va_sld hx hb hX hbl hbA G.2 (i := 2) (by unfold vp_in; decide) dL_law_1739 ?_
    refine lv_aload_n hx hb dL_law_1740 rfl (lv_at hl 1 rfl) ?_
    refine lv_iload hx hb dL_law_1741 (lv_at hl 6 rfl) ?_
    refine lv_iconst (v := 3) hx hb dL_law_1743 (by decide) ?_
    refine lv_iadd hx hb dL_law_1744 ?_
    refine lv_topv (v := 3) (by decide) ?_
    refine va_sld hx hb hX hbl hbA G.2 (i := 3) (by unfold vp_in; decide) dL_law_1745 ?_
    refine lv_if_eq (tgt := 1753) hx hb dL_law_1746 (by decide) (fun _ => ?_) (fun c5 => absurd (c1) c5)
    refine lv_iconst (v := 0) hx hb dL_law_1753 (by decide) ?_
    have k6 : u3 m = some (.inr (11, [.int 0, .int 0, .ref v, .ref im, .ref kp, .ref pa, .ref de, .ref ide, .int 0, .int 0, .ref mtx, .int 0, .int (-1), .int (-1), .ref pt, .int 0, .int 0, .int 0, .ref so, .ref mo, .ref wh, .ref pf])) := fr9 _ _ (by omega) h_m
    have k7 : u3 v = some (.inl (cy 0, 6441, .inl (fun _ => 0))) := fr9 _ _ (by omega) h_v
    refine g_cI C0 G (g_runV C0 G (rest := []) (k_X9_storeOvers hfl (xs 1) (xs 2) 0 k6 k7 (Or.inl rfl)) k6 rfl hY_X9_storeOvers mm_L_207 mi_X9_storeOvers ml_X9_storeOvers ⟨(Nat.le_of_ble_eq_true rfl), (Nat.le_of_ble_eq_true rfl)⟩ rfl hl.1 rfl (Nat.le_of_ble_eq_true rfl) dL_law_1754 ⟨(Nat.le_of_ble_eq_true rfl), (Nat.le_of_ble_eq_true rfl)⟩) (kx_no rfl) (fun r10 u9 H locs hp8 G => ?_)
    obtain ⟨rest9, hm9⟩ := hp8
    refine lv_istore (lv' := [(7, .int r10), (6, .int 1), (0, .ref b), (1, .ref sc), (2, .ref m), (3, .ref out), (4, .ref outD), (5, .int 0)]) hx hb dL_law_1757 hl (by decide) rfl (fun ls hl => ?_)
    refine lv_aload_n hx hb dL_law_1759 rfl (lv_at hl 4 rfl) ?_
    refine g_cI C0 G (g_runV C0 G (rest := []) (k_X9_thrown hfl hm9) hm9 rfl hY_X9_thrown mm_L_128 mi_X9_thrown ml_X9_thrown ⟨(Nat.le_of_ble_eq_true rfl), (Nat.le_of_ble_eq_true rfl)⟩ rfl hl.1 rfl (Nat.le_of_ble_eq_true rfl) dL_law_1760 ⟨(Nat.le_of_ble_eq_true rfl), (Nat.le_of_ble_eq_true rfl)⟩) (kx_no rfl) (fun r13 u12 H locs hp11 G => ?_)
    obtain ⟨rfl, eu12⟩ := hp11
    rw [eu12] at G
    refine lv_iload hx hb dL_law_1763 (lv_at hl 1 rfl) ?_
    refine lv_icmp_eq (tgt := 1770) hx hb dL_law_1765 (by decide) (fun _ => ?_) (fun c14 => absurd (by decide) c14)
    refine lv_iload hx hb dL_law_1770 (lv_at hl 1 rfl) ?_
    refine lv_if_ne (tgt := 1787) hx hb dL_law_1772 (by decide) (fun _ => ?_) (fun c15 => absurd c15 (by decide))
    refine lv_goto (tgt := 2164) hx hb dL_law_1787 (by decide) ?_
    exact law_tail hfl C9 C0 G (Nat.le_of_ble_eq_true rfl) (Nat.le_of_ble_eq_true rfl) (lv_sub hl [2, 7] rfl)
  · refine lv_iconst (v := 1) hx hb dL_law_1716 (by decide) ?_
    refine lv_goto (tgt := 1721) hx hb dL_law_1717 (by decide) ?_
    refine lv_aload_n hx hb dL_law_1721 rfl (lv_at hl 3 rfl) ?_
    refine g_cI C0 G (g_runSH C0 G (rest := []) (k_L_storeOvers hfl (xs 1) (xs 2) 1 h_sc h_m0 (Or.inr rfl)) hYH_L_storeOvers mm_L_205 ms_L_storeOvers ⟨(Nat.le_of_ble_eq_true rfl), (Nat.le_of_ble_eq_true rfl)⟩ rfl hl.1 rfl (Nat.le_of_ble_eq_true rfl) dL_law_1722 ⟨(Nat.le_of_ble_eq_true rfl), (Nat.le_of_ble_eq_true rfl)⟩) (kx_no rfl) (fun r16 u17 H locs hp18 G => ?_)
    obtain ⟨rfl, fr9⟩ := hp18
    refine lv_istore (lv' := [(6, .int 1), (0, .ref b), (1, .ref sc), (2, .ref m), (3, .ref out), (4, .ref outD), (5, .int 0)]) hx hb dL_law_1725 hl (by decide) rfl (fun ls hl => ?_)
    refine lv_aload_n hx hb dL_law_1727 rfl (lv_at hl 3 rfl) ?_
    refine lv_aload_n hx hb dL_law_1728 rfl (lv_at hl 1 rfl) ?_
    refine lv_iload hx hb dL_law_1729 (lv_at hl 6 rfl) ?_
    refine lv_iconst (v := 1) hx hb dL_law_1731 (by decide) ?_
    refine lv_iadd hx hb dL_law_1732 ?_
    refine lv_topv (v := 1) (by decide) ?_
    refine va_sld hx hb hX hbl hbA G.2 (i := 1) (by unfold vp_in; decide) dL_law_1733 ?_
    refine lv_aload_n hx hb dL_law_1734 rfl (lv_at hl 1 rfl) ?_
    refine lv_iload hx hb dL_law_1735 (lv_at hl 6 rfl) ?_
    refine lv_iconst (v := 2) hx hb dL_law_1737 (by decide) ?_
    refine lv_iadd hx hb dL_law_1738 ?_
    refine lv_topv (v := 2) (by decide) ?_
    refine va_sld hx hb hX hbl hbA G.2 (i := 2) (by unfold vp_in; decide) dL_law_1739 ?_
    refine lv_aload_n hx hb dL_law_1740 rfl (lv_at hl 1 rfl) ?_
    refine lv_iload hx hb dL_law_1741 (lv_at hl 6 rfl) ?_
    refine lv_iconst (v := 3) hx hb dL_law_1743 (by decide) ?_
    refine lv_iadd hx hb dL_law_1744 ?_
    refine lv_topv (v := 3) (by decide) ?_
    refine va_sld hx hb hX hbl hbA G.2 (i := 3) (by unfold vp_in; decide) dL_law_1745 ?_
    refine lv_if_eq (tgt := 1753) hx hb dL_law_1746 (by decide) (fun c19 => absurd c19 (c1)) (fun _ => ?_)
    refine lv_iconst (v := 1) hx hb dL_law_1749 (by decide) ?_
    refine lv_goto (tgt := 1754) hx hb dL_law_1750 (by decide) ?_
    have k20 : u17 m = some (.inr (11, [.int 0, .int 0, .ref v, .ref im, .ref kp, .ref pa, .ref de, .ref ide, .int 0, .int 0, .ref mtx, .int 0, .int (-1), .int (-1), .ref pt, .int 0, .int 0, .int 0, .ref so, .ref mo, .ref wh, .ref pf])) := fr9 _ _ (by omega) h_m
    have k21 : u17 v = some (.inl (cy 0, 6441, .inl (fun _ => 0))) := fr9 _ _ (by omega) h_v
    refine g_cI C0 G (g_runV C0 G (rest := []) (k_X9_storeOvers hfl (xs 1) (xs 2) 1 k20 k21 (Or.inr rfl)) k20 rfl hY_X9_storeOvers mm_L_207 mi_X9_storeOvers ml_X9_storeOvers ⟨(Nat.le_of_ble_eq_true rfl), (Nat.le_of_ble_eq_true rfl)⟩ rfl hl.1 rfl (Nat.le_of_ble_eq_true rfl) dL_law_1754 ⟨(Nat.le_of_ble_eq_true rfl), (Nat.le_of_ble_eq_true rfl)⟩) (kx_no rfl) (fun r24 u23 H locs hp22 G => ?_)
    obtain ⟨rest9, hm9⟩ := hp22
    refine lv_istore (lv' := [(7, .int r24), (6, .int 1), (0, .ref b), (1, .ref sc), (2, .ref m), (3, .ref out), (4, .ref outD), (5, .int 0)]) hx hb dL_law_1757 hl (by decide) rfl (fun ls hl => ?_)
    refine lv_aload_n hx hb dL_law_1759 rfl (lv_at hl 4 rfl) ?_
    refine g_cI C0 G (g_runV C0 G (rest := []) (k_X9_thrown hfl hm9) hm9 rfl hY_X9_thrown mm_L_128 mi_X9_thrown ml_X9_thrown ⟨(Nat.le_of_ble_eq_true rfl), (Nat.le_of_ble_eq_true rfl)⟩ rfl hl.1 rfl (Nat.le_of_ble_eq_true rfl) dL_law_1760 ⟨(Nat.le_of_ble_eq_true rfl), (Nat.le_of_ble_eq_true rfl)⟩) (kx_no rfl) (fun r27 u26 H locs hp25 G => ?_)
    obtain ⟨rfl, eu26⟩ := hp25
    rw [eu26] at G
    refine lv_iload hx hb dL_law_1763 (lv_at hl 1 rfl) ?_
    refine lv_icmp_eq (tgt := 1770) hx hb dL_law_1765 (by decide) (fun _ => ?_) (fun c28 => absurd (by decide) c28)
    refine lv_iload hx hb dL_law_1770 (lv_at hl 1 rfl) ?_
    refine lv_if_ne (tgt := 1787) hx hb dL_law_1772 (by decide) (fun _ => ?_) (fun c29 => absurd c29 (by decide))
    refine lv_goto (tgt := 2164) hx hb dL_law_1787 (by decide) ?_
    exact law_tail hfl C9 C0 G (Nat.le_of_ble_eq_true rfl) (Nat.le_of_ble_eq_true rfl) (lv_sub hl [2, 7] rfl)
set_option maxRecDepth 100000 in
theorem law_case_26 {p : Program} {e : Env} {s : State} {m9 : MethodId} {below : List Frame} {meth : Method} {c : Code} {l : Launch} {b  : Nat} {xs : Nat → Int32} {D : va_G} {cy : Nat → ClassId} {sc m0 al i0 i1 i2 i3 i4 i5 i6 i7 i8 i9 i10 i11 i12 lg ln lst len sv sn sst sen tx bf tn tp r0 r0e r1 r1e m v im kp pa de ide mtx pt so mo wh pf out outD m1 : Nat} {g0 : Nat → Option Nat} {f : Hf} {H : Heap} {locs : List Loc} {ls : Array Slot} (hfl : l.stackTraces = false) (C9 : lw_At p s m9 meth c b 6 xs) (C0 : hC p l s m9 meth c code 9 #[Value.ref b] RL D (hTy cy) (hA f00 s.heap.size)) (hord : sc < m0 ∧ m0 < al ∧ al < i0 ∧ i0 < i1 ∧ i1 < i2 ∧ i2 < i3 ∧ i3 < i4 ∧ i4 < i5 ∧ i5 < i6 ∧ i6 < i7 ∧ i7 < i8 ∧ i8 < i9 ∧ i9 < i10 ∧ i10 < i11 ∧ i11 < i12 ∧ i12 < lg ∧ lg < ln ∧ ln < lst ∧ lst < len ∧ len < sv ∧ sv < sn ∧ sn < sst ∧ sst < sen ∧ sen < tx ∧ tx < bf ∧ bf < tn ∧ tn < tp ∧ tp < r0 ∧ r0 < r0e ∧ r0e < r1 ∧ r1 < r1e ∧ r1e < m ∧ m < v ∧ v < im ∧ im < kp ∧ kp < pa ∧ pa < de ∧ de < ide ∧ ide < mtx ∧ mtx < pt ∧ pt < so ∧ so < mo ∧ mo < wh ∧ wh < pf ∧ pf < out ∧ out < outD) (hg0 : g0 0 = some i0) (G : hG D (hA f00 s.heap.size) f s H locs) (hl : lv_has ls 9 [(0, .ref b), (1, .ref sc), (2, .ref m), (3, .ref out), (4, .ref outD), (5, .int 0)]) (h_sc : f sc = some (.inr (10, [.ref m0, .ref m1, .ref lg, .ref sv, .ref tx, .ref r0, .ref r1, .int (-1), .int (-1), .int 0]))) (h_lg : f lg = some (.inr (3, [.ref ln, .ref lst, .ref len, .int 0, .int 0, .int 0, .int 0, .int 0, .int 0]))) (h_m : f m = some (.inr (11, [.int 0, .int 0, .ref v, .ref im, .ref kp, .ref pa, .ref de, .ref ide, .int 0, .int 0, .ref mtx, .int 0, .int (-1), .int (-1), .ref pt, .int 0, .int 0, .int 0, .ref so, .ref mo, .ref wh, .ref pf]))) (h_v : f v = some (.inl (cy 0, 6441, .inl (fun _ => 0)))) : W p l e room_1 s m9 #[Value.ref b] below meth c H locs 140 156303 (lw_Z below #[Value.ref b] s) (F0 m9 1968 ls []) := by
  obtain ⟨oo0, oo1, oo2, oo3, oo4, oo5, oo6, oo7, oo8, oo9, oo10, oo11, oo12, oo13, oo14, oo15, oo16, oo17, oo18, oo19, oo20, oo21, oo22, oo23, oo24, oo25, oo26, oo27, oo28, oo29, oo30, oo31, oo32, oo33, oo34, oo35, oo36, oo37, oo38, oo39, oo40, oo41, oo42, oo43, oo44, oo45⟩ := hord
  obtain ⟨hx, hb, hr, hml, hown, hts, hX, hbl, hlocks, hgv⟩ := id C9
  have hbA : ¬ hA f00 s.heap.size b := fun q => by rcases q with q | q; exact q rfl; omega
  refine lv_aload_n hx hb dL_law_1968 rfl (lv_at hl 1 rfl) ?_
  refine g_cI C0 G (g_runV C0 G (rest := []) (k_X8_commandCount hfl h_sc h_lg) h_sc rfl hY_X8_commandCount mm_L_218 mi_X8_commandCount ml_X8_commandCount ⟨(Nat.le_of_ble_eq_true rfl), (Nat.le_of_ble_eq_true rfl)⟩ rfl hl.1 rfl (Nat.le_of_ble_eq_true rfl) dL_law_1969 ⟨(Nat.le_of_ble_eq_true rfl), (Nat.le_of_ble_eq_true rfl)⟩) (kx_no rfl) (fun r3 u2 H locs hp1 G => ?_)
  obtain ⟨rfl, eu2⟩ := hp1
  rw [eu2] at G
  refine lv_aload_n hx hb dL_law_1972 rfl (lv_at hl 2 rfl) ?_
  refine g_cI C0 G (g_runV C0 G (rest := [.int 0]) (k_X9_commandCount hfl h_m h_v) h_m rfl hY_X9_commandCount mm_L_221 mi_X9_commandCount ml_X9_commandCount ⟨(Nat.le_of_ble_eq_true rfl), (Nat.le_of_ble_eq_true rfl)⟩ rfl hl.1 rfl (Nat.le_of_ble_eq_true rfl) dL_law_1973 ⟨(Nat.le_of_ble_eq_true rfl), (Nat.le_of_ble_eq_true rfl)⟩) (kx_no rfl) (fun r6 u5 H locs hp4 G => ?_)
  obtain ⟨rfl, -⟩ := hp4
  refine lv_icmp_eq (tgt := 2164) hx hb dL_law_1976 (by decide) (fun _ => ?_) (fun c7 => absurd (by decide) c7)
  exact law_tail hfl C9 C0 G (Nat.le_of_ble_eq_true rfl) (Nat.le_of_ble_eq_true rfl) (lv_sub hl [0, 5] rfl)
set_option maxRecDepth 100000 in
theorem law_case_30 {p : Program} {e : Env} {s : State} {m9 : MethodId} {below : List Frame} {meth : Method} {c : Code} {l : Launch} {b  : Nat} {xs : Nat → Int32} {D : va_G} {cy : Nat → ClassId} {sc m0 al i0 i1 i2 i3 i4 i5 i6 i7 i8 i9 i10 i11 i12 lg ln lst len sv sn sst sen tx bf tn tp r0 r0e r1 r1e m v im kp pa de ide mtx pt so mo wh pf out outD m1 : Nat} {g0 : Nat → Option Nat} {f : Hf} {H : Heap} {locs : List Loc} {ls : Array Slot} (hfl : l.stackTraces = false) (C9 : lw_At p s m9 meth c b 6 xs) (C0 : hC p l s m9 meth c code 9 #[Value.ref b] RL D (hTy cy) (hA f00 s.heap.size)) (hord : sc < m0 ∧ m0 < al ∧ al < i0 ∧ i0 < i1 ∧ i1 < i2 ∧ i2 < i3 ∧ i3 < i4 ∧ i4 < i5 ∧ i5 < i6 ∧ i6 < i7 ∧ i7 < i8 ∧ i8 < i9 ∧ i9 < i10 ∧ i10 < i11 ∧ i11 < i12 ∧ i12 < lg ∧ lg < ln ∧ ln < lst ∧ lst < len ∧ len < sv ∧ sv < sn ∧ sn < sst ∧ sst < sen ∧ sen < tx ∧ tx < bf ∧ bf < tn ∧ tn < tp ∧ tp < r0 ∧ r0 < r0e ∧ r0e < r1 ∧ r1 < r1e ∧ r1e < m ∧ m < v ∧ v < im ∧ im < kp ∧ kp < pa ∧ pa < de ∧ de < ide ∧ ide < mtx ∧ mtx < pt ∧ pt < so ∧ so < mo ∧ mo < wh ∧ wh < pf ∧ pf < out ∧ out < outD) (hg0 : g0 0 = some i0) (G : hG D (hA f00 s.heap.size) f s H locs) (hl : lv_has ls 9 [(0, .ref b), (1, .ref sc), (2, .ref m), (3, .ref out), (4, .ref outD), (5, .int 0)]) (h_sc : f sc = some (.inr (10, [.ref m0, .ref m1, .ref lg, .ref sv, .ref tx, .ref r0, .ref r1, .int (-1), .int (-1), .int 0]))) (h_sv : f sv = some (.inr (3, [.ref sn, .ref sst, .ref sen, .int 0, .int 0, .int 0, .int 0, .int 0, .int 0]))) (h_m : f m = some (.inr (11, [.int 0, .int 0, .ref v, .ref im, .ref kp, .ref pa, .ref de, .ref ide, .int 0, .int 0, .ref mtx, .int 0, .int (-1), .int (-1), .ref pt, .int 0, .int 0, .int 0, .ref so, .ref mo, .ref wh, .ref pf]))) : W p l e room_1 s m9 #[Value.ref b] below meth c H locs 140 156303 (lw_Z below #[Value.ref b] s) (F0 m9 2120 ls []) := by
  obtain ⟨oo0, oo1, oo2, oo3, oo4, oo5, oo6, oo7, oo8, oo9, oo10, oo11, oo12, oo13, oo14, oo15, oo16, oo17, oo18, oo19, oo20, oo21, oo22, oo23, oo24, oo25, oo26, oo27, oo28, oo29, oo30, oo31, oo32, oo33, oo34, oo35, oo36, oo37, oo38, oo39, oo40, oo41, oo42, oo43, oo44, oo45⟩ := hord
  obtain ⟨hx, hb, hr, hml, hown, hts, hX, hbl, hlocks, hgv⟩ := id C9
  have hbA : ¬ hA f00 s.heap.size b := fun q => by rcases q with q | q; exact q rfl; omega
  refine lv_aload_n hx hb dL_law_2120 rfl (lv_at hl 1 rfl) ?_
  refine lv_aload_n hx hb dL_law_2121 rfl (lv_at hl 3 rfl) ?_
  refine g_cI C0 G (g_runSH C0 G (rest := []) (k_L_restore hfl h_sc h_sv) hYH_L_restore mm_L_231 ms_L_restore ⟨(Nat.le_of_ble_eq_true rfl), (Nat.le_of_ble_eq_true rfl)⟩ rfl hl.1 rfl (Nat.le_of_ble_eq_true rfl) dL_law_2122 ⟨(Nat.le_of_ble_eq_true rfl), (Nat.le_of_ble_eq_true rfl)⟩) (kx_no rfl) (fun r1 u2 H locs hp3 G => ?_)
  obtain ⟨rfl, fr9⟩ := hp3
  refine lv_istore (lv' := [(6, .int 1), (0, .ref b), (1, .ref sc), (2, .ref m), (3, .ref out), (4, .ref outD), (5, .int 0)]) hx hb dL_law_2125 hl (by decide) rfl (fun ls hl => ?_)
  refine lv_aload_n hx hb dL_law_2127 rfl (lv_at hl 3 rfl) ?_
  have k4 : u2 m = some (.inr (11, [.int 0, .int 0, .ref v, .ref im, .ref kp, .ref pa, .ref de, .ref ide, .int 0, .int 0, .ref mtx, .int 0, .int (-1), .int (-1), .ref pt, .int 0, .int 0, .int 0, .ref so, .ref mo, .ref wh, .ref pf])) := fr9 _ _ (by omega) h_m
  refine g_cI C0 G (g_runV C0 G (rest := []) (k_X9_restore hfl k4) k4 rfl hY_X9_restore mm_L_233 mi_X9_restore ml_X9_restore ⟨(Nat.le_of_ble_eq_true rfl), (Nat.le_of_ble_eq_true rfl)⟩ rfl hl.1 rfl (Nat.le_of_ble_eq_true rfl) dL_law_2128 ⟨(Nat.le_of_ble_eq_true rfl), (Nat.le_of_ble_eq_true rfl)⟩) (kx_no rfl) (fun r7 u6 H locs hp5 G => ?_)
  obtain ⟨rest9, hm9⟩ := hp5
  refine lv_istore (lv' := [(7, .int r7), (6, .int 1), (0, .ref b), (1, .ref sc), (2, .ref m), (3, .ref out), (4, .ref outD), (5, .int 0)]) hx hb dL_law_2131 hl (by decide) rfl (fun ls hl => ?_)
  refine lv_aload_n hx hb dL_law_2133 rfl (lv_at hl 4 rfl) ?_
  refine g_cI C0 G (g_runV C0 G (rest := []) (k_X9_thrown hfl hm9) hm9 rfl hY_X9_thrown mm_L_128 mi_X9_thrown ml_X9_thrown ⟨(Nat.le_of_ble_eq_true rfl), (Nat.le_of_ble_eq_true rfl)⟩ rfl hl.1 rfl (Nat.le_of_ble_eq_true rfl) dL_law_2134 ⟨(Nat.le_of_ble_eq_true rfl), (Nat.le_of_ble_eq_true rfl)⟩) (kx_no rfl) (fun r10 u9 H locs hp8 G => ?_)
  obtain ⟨rfl, eu9⟩ := hp8
  rw [eu9] at G
  refine lv_iload hx hb dL_law_2137 (lv_at hl 1 rfl) ?_
  refine lv_icmp_eq (tgt := 2144) hx hb dL_law_2139 (by decide) (fun _ => ?_) (fun c11 => absurd (by decide) c11)
  refine lv_iload hx hb dL_law_2144 (lv_at hl 1 rfl) ?_
  refine lv_if_ne (tgt := 2161) hx hb dL_law_2146 (by decide) (fun _ => ?_) (fun c12 => absurd c12 (by decide))
  refine lv_goto (tgt := 2164) hx hb dL_law_2161 (by decide) ?_
  exact law_tail hfl C9 C0 G (Nat.le_of_ble_eq_true rfl) (Nat.le_of_ble_eq_true rfl) (lv_sub hl [2, 7] rfl)
