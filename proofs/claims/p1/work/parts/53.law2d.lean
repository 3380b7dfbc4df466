set_option maxRecDepth 100000 in
theorem law_case_3 {p : Program} {e : Env} {s : State} {m9 : MethodId} {below : List Frame} {meth : Method} {c : Code} {l : Launch} {b  : Nat} {xs : Nat → Int32} {D : va_G} {cy : Nat → ClassId} {sc m0 al i0 i1 i2 i3 i4 i5 i6 i7 i8 i9 i10 i11 i12 lg ln lst len sv sn sst sen tx bf tn tp r0 r0e r1 r1e m v im kp pa de ide mtx pt so mo wh pf out outD m1 : Nat} {g0 : Nat → Option Nat} {f : Hf} {H : Heap} {locs : List Loc} {ls : Array Slot} (hfl : l.stackTraces = false) (C9 : lw_At p s m9 meth c b 6 xs) (C0 : hC p l s m9 meth c code 9 #[Value.ref b] RL D (hTy cy) (hA f00 s.heap.size)) (hord : sc < m0 ∧ m0 < al ∧ al < i0 ∧ i0 < i1 ∧ i1 < i2 ∧ i2 < i3 ∧ i3 < i4 ∧ i4 < i5 ∧ i5 < i6 ∧ i6 < i7 ∧ i7 < i8 ∧ i8 < i9 ∧ i9 < i10 ∧ i10 < i11 ∧ i11 < i12 ∧ i12 < lg ∧ lg < ln ∧ ln < lst ∧ lst < len ∧ len < sv ∧ sv < sn ∧ sn < sst ∧ sst < sen ∧ sen < tx ∧ tx < bf ∧ bf < tn ∧ tn < tp ∧ tp < r0 ∧ r0 < r0e ∧ r0e < r1 ∧ r1 < r1e ∧ r1e < m ∧ m < v ∧ v < im ∧ im < kp ∧ kp < pa ∧ pa < de ∧ de < ide ∧ ide < mtx ∧ mtx < pt ∧ pt < so ∧ so < mo ∧ mo < wh ∧ wh < pf ∧ pf < out ∧ out < outD) (hg0 : g0 0 = some i0) (G : hG D (hA f00 s.heap.size) f s H locs) (hl : lv_has ls 9 [(0, .ref b), (1, .ref sc), (2, .ref m), (3, .ref out), (4, .ref outD), (5, .int 0)]) (h_sc : f sc = some (.inr (10, [.ref m0, .ref m1, .ref lg, .ref sv, .ref tx, .ref r0, .ref r1, .int (-1), .int (-1), .int 0]))) (h_m0 : f m0 = some (.inr (4, [.ref al, .int 0, .int 0, .int 0, .int 0, .int 0]))) (h_m : f m = some (.inr (11, [.int 0, .int 0, .ref v, .ref im, .ref kp, .ref pa, .ref de, .ref ide, .int 0, .int 0, .ref mtx, .int 0, .int (-1), .int (-1), .ref pt, .int 0, .int 0, .int 0, .ref so, .ref mo, .ref wh, .ref pf]))) (h_v : f v = some (.inl (cy 0, 6441, .inl (fun _ => 0)))) : W p l e room_1 s m9 #[Value.ref b] below meth c H locs 140 156303 (lw_Z below #[Value.ref b] s) (F0 m9 416 ls []) := by
  obtain ⟨oo0, oo1, oo2, oo3, oo4, oo5, oo6, oo7, oo8, oo9, oo10, oo11, oo12, oo13, oo14, oo15, oo16, oo17, oo18, oo19, oo20, oo21, oo22, oo23, oo24, oo25, oo26, oo27, oo28, oo29, oo30, oo31, oo32, oo33, oo34, oo35, oo36, oo37, oo38, oo39, oo40, oo41, oo42, oo43, oo44, oo45⟩ := hord
  obtain ⟨hx, hb, hr, hml, hown, hts, hX, hbl, hlocks, hgv⟩ := id C9
  have hbA : ¬ hA f00 s.heap.size b := fun q => by rcases q with q | q; exact q rfl; omega
  refine lv_aload_n hx hb dL_law_416 rfl (lv_at hl 1 rfl) ?_
  refine lv_aload_n hx hb dL_law_417 rfl (lv_at hl 0 rfl) ?_
  refine lv_iload hx hb dL_law_418 (lv_at hl 5 rfl) ?_
  refine lv_iconst (v := 1) hx hb dL_law_420 (by decide) ?_
  refine lv_iadd hx hb dL_law_421 ?_
  refine lv_topv (v := 1) (by decide) ?_
  refine va_sld hx hb hX hbl hbA G.2 (i := 1) (by unfold vp_in; decide) dL_law_422 ?_
  refine lv_aload_n hx hb dL_law_423 rfl (lv_at hl 0 rfl) ?_
  refine lv_iload hx hb dL_law_424 (lv_at hl 5 rfl) ?_
  refine lv_iconst (v := 2) hx hb dL_law_426 (by decide) ?_
  refine lv_iadd hx hb dL_law_427 ?_
  refine lv_topv (v := 2) (by decide) ?_
  refine va_sld hx hb hX hbl hbA G.2 (i := 2) (by unfold vp_in; decide) dL_law_428 ?_
  refine lv_aload_n hx hb dL_law_429 rfl (lv_at hl 0 rfl) ?_
  refine lv_iload hx hb dL_law_430 (lv_at hl 5 rfl) ?_
  refine lv_iconst (v := 3) hx hb dL_law_432 (by decide) ?_
  refine lv_iadd hx hb dL_law_433 ?_
  refine lv_topv (v := 3) (by decide) ?_
  refine va_sld hx hb hX hbl hbA G.2 (i := 3) (by unfold vp_in; decide) dL_law_434 ?_
  refine lv_if_eq (tgt := 442) hx hb dL_law_435 (by decide) (fun c1 => ?_) (fun c1 => ?_)
  · refine lv_iconst (v := 0) hx hb dL_law_442 (by decide) ?_
    refine lv_aload_n hx hb dL_law_443 rfl (lv_at hl 0 rfl) ?_
    refine lv_iload hx hb dL_law_444 (lv_at hl 5 rfl) ?_
    refine lv_iconst (v := 4) hx hb dL_law_446 (by decide) ?_
    refine lv_iadd hx hb dL_law_447 ?_
    refine lv_topv (v := 4) (by decide) ?_
    refine va_sld hx hb hX hbl hbA G.2 (i := 4) (by unfold vp_in; decide) dL_law_448 ?_
    refine lv_aload_n hx hb dL_law_449 rfl (lv_at hl 0 rfl) ?_
    refine lv_iload hx hb dL_law_450 (lv_at hl 5 rfl) ?_
    refine lv_iconst (v := 5) hx hb dL_law_452 (by decide) ?_
    refine lv_iadd hx hb dL_law_453 ?_
    refine lv_topv (v := 5) (by decide) ?_
    refine va_sld hx hb hX hbl hbA G.2 (i := 5) (by unfold vp_in; decide) dL_law_454 ?_
    refine lv_if_eq (tgt := 462) hx hb dL_law_455 (by decide) (fun c2 => ?_) (fun c2 => ?_)
    · refine lv_iconst (v := 0) hx hb dL_law_462 (by decide) ?_
      refine lv_aload_n hx hb dL_law_463 rfl (lv_at hl 3 rfl) ?_
      refine g_cI C0 G (g_runSH C0 G (rest := []) (k_L_wicket hfl (xs 1) (xs 2) 0 (xs 4) 0 h_sc h_m0 (Or.inl rfl) (Or.inl rfl)) hYH_L_wicket mm_L_139 ms_L_wicket ⟨(Nat.le_of_ble_eq_true rfl), (Nat.le_of_ble_eq_true rfl)⟩ rfl hl.1 rfl (Nat.le_of_ble_eq_true rfl) dL_law_464 ⟨(Nat.le_of_ble_eq_true rfl), (Nat.le_of_ble_eq_true rfl)⟩) (kx_no rfl) (fun r3 u4 H locs hp5 G => ?_)
      rcases hp5 with ⟨⟨rfl, hP⟩ | ⟨rfl, hP⟩, fr9⟩
      · refine lv_istore (lv' := [(6, .int 1), (0, .ref b), (1, .ref sc), (2, .ref m), (3, .ref out), (4, .ref outD), (5, .int 0)]) hx hb dL_law_467 hl (by decide) rfl (fun ls hl => ?_)
        refine lv_aload_n hx hb dL_law_469 rfl (lv_at hl 3 rfl) ?_
        refine lv_aload_n hx hb dL_law_470 rfl (lv_at hl 1 rfl) ?_
        refine lv_iload hx hb dL_law_471 (lv_at hl 6 rfl) ?_
        refine lv_iconst (v := 1) hx hb dL_law_473 (by decide) ?_
        refine lv_iadd hx hb dL_law_474 ?_
        refine lv_topv (v := 1) (by decide) ?_
        refine va_sld hx hb hX hbl hbA G.2 (i := 1) (by unfold vp_in; decide) dL_law_475 ?_
        refine lv_aload_n hx hb dL_law_476 rfl (lv_at hl 1 rfl) ?_
        refine lv_iload hx hb dL_law_477 (lv_at hl 6 rfl) ?_
        refine lv_iconst (v := 2) hx hb dL_law_479 (by decide) ?_
        refine lv_iadd hx hb dL_law_480 ?_
        refine lv_topv (v := 2) (by decide) ?_
        refine va_sld hx hb hX hbl hbA G.2 (i := 2) (by unfold vp_in; decide) dL_law_481 ?_
        refine lv_aload_n hx hb dL_law_482 rfl (lv_at hl 1 rfl) ?_
        refine lv_iload hx hb dL_law_483 (lv_at hl 6 rfl) ?_
        refine lv_iconst (v := 3) hx hb dL_law_485 (by decide) ?_
        refine lv_iadd hx hb dL_law_486 ?_
        refine lv_topv (v := 3) (by decide) ?_
        refine va_sld hx hb hX hbl hbA G.2 (i := 3) (by unfold vp_in; decide) dL_law_487 ?_
        refine lv_if_eq (tgt := 495) hx hb dL_law_488 (by decide) (fun _ => ?_) (fun c6 => absurd (c1) c6)
        refine lv_iconst (v := 0) hx hb dL_law_495 (by decide) ?_
        refine lv_aload_n hx hb dL_law_496 rfl (lv_at hl 1 rfl) ?_
        refine lv_iload hx hb dL_law_497 (lv_at hl 6 rfl) ?_
        refine lv_iconst (v := 4) hx hb dL_law_499 (by decide) ?_
        refine lv_iadd hx hb dL_law_500 ?_
        refine lv_topv (v := 4) (by decide) ?_
        refine va_sld hx hb hX hbl hbA G.2 (i := 4) (by unfold vp_in; decide) dL_law_501 ?_
        refine lv_aload_n hx hb dL_law_502 rfl (lv_at hl 1 rfl) ?_
        refine lv_iload hx hb dL_law_503 (lv_at hl 6 rfl) ?_
        refine lv_iconst (v := 5) hx hb dL_law_505 (by decide) ?_
        refine lv_iadd hx hb dL_law_506 ?_
        refine lv_topv (v := 5) (by decide) ?_
        refine va_sld hx hb hX hbl hbA G.2 (i := 5) (by unfold vp_in; decide) dL_law_507 ?_
        refine lv_if_eq (tgt := 515) hx hb dL_law_508 (by decide) (fun _ => ?_) (fun c7 => absurd (c2) c7)
        refine lv_iconst (v := 0) hx hb dL_law_515 (by decide) ?_
        have k8 : u4 m = some (.inr (11, [.int 0, .int 0, .ref v, .ref im, .ref kp, .ref pa, .ref de, .ref ide, .int 0, .int 0, .ref mtx, .int 0, .int (-1), .int (-1), .ref pt, .int 0, .int 0, .int 0, .ref so, .ref mo, .ref wh, .ref pf])) := fr9 _ _ (by omega) h_m
        have k9 : u4 v = some (.inl (cy 0, 6441, .inl (fun _ => 0))) := fr9 _ _ (by omega) h_v
        refine g_cI C0 G (g_runV C0 G (rest := []) (k_X9_wicket hfl (xs 1) (xs 2) 0 (xs 4) 0 k8 k9 (Or.inl rfl) (Or.inl rfl)) k8 rfl hY_X9_wicket mm_L_142 mi_X9_wicket ml_X9_wicket ⟨(Nat.le_of_ble_eq_true rfl), (Nat.le_of_ble_eq_true rfl)⟩ rfl hl.1 rfl (Nat.le_of_ble_eq_true rfl) dL_law_516 ⟨(Nat.le_of_ble_eq_true rfl), (Nat.le_of_ble_eq_true rfl)⟩) (kx_no rfl) (fun r12 u11 H locs hp10 G => ?_)
        rcases hp10 with ⟨hP9, hm8⟩ | ⟨hP9, hm8⟩
        · exact absurd hP9 hP
        · obtain ⟨rest9, hm9⟩ := hm8
          refine lv_istore (lv' := [(7, .int r12), (6, .int 1), (0, .ref b), (1, .ref sc), (2, .ref m), (3, .ref out), (4, .ref outD), (5, .int 0)]) hx hb dL_law_519 hl (by decide) rfl (fun ls hl => ?_)
          refine lv_aload_n hx hb dL_law_521 rfl (lv_at hl 4 rfl) ?_
          refine g_cI C0 G (g_runV C0 G (rest := []) (k_X9_thrown hfl hm9) hm9 rfl hY_X9_thrown mm_L_128 mi_X9_thrown ml_X9_thrown ⟨(Nat.le_of_ble_eq_true rfl), (Nat.le_of_ble_eq_true rfl)⟩ rfl hl.1 rfl (Nat.le_of_ble_eq_true rfl) dL_law_522 ⟨(Nat.le_of_ble_eq_true rfl), (Nat.le_of_ble_eq_true rfl)⟩) (kx_no rfl) (fun r15 u14 H locs hp13 G => ?_)
          obtain ⟨rfl, eu14⟩ := hp13
          rw [eu14] at G
          refine lv_iload hx hb dL_law_525 (lv_at hl 1 rfl) ?_
          refine lv_icmp_eq (tgt := 532) hx hb dL_law_527 (by decide) (fun _ => ?_) (fun c16 => absurd (by decide) c16)
          refine lv_iload hx hb dL_law_532 (lv_at hl 1 rfl) ?_
          refine lv_if_ne (tgt := 549) hx hb dL_law_534 (by decide) (fun _ => ?_) (fun c17 => absurd c17 (by decide))
          refine lv_goto (tgt := 2164) hx hb dL_law_549 (by decide) ?_
          exact law_tail hfl C9 C0 G (Nat.le_of_ble_eq_true rfl) (Nat.le_of_ble_eq_true rfl) (lv_sub hl [2, 7] rfl)
      · refine lv_istore (lv' := [(6, .int 2), (0, .ref b), (1, .ref sc), (2, .ref m), (3, .ref out), (4, .ref outD), (5, .int 0)]) hx hb dL_law_467 hl (by decide) rfl (fun ls hl => ?_)
        refine lv_aload_n hx hb dL_law_469 rfl (lv_at hl 3 rfl) ?_
        refine lv_aload_n hx hb dL_law_470 rfl (lv_at hl 1 rfl) ?_
        refine lv_iload hx hb dL_law_471 (lv_at hl 6 rfl) ?_
        refine lv_iconst (v := 1) hx hb dL_law_473 (by decide) ?_
        refine lv_iadd hx hb dL_law_474 ?_
        refine lv_topv (v := 1) (by decide) ?_
        refine va_sld hx hb hX hbl hbA G.2 (i := 1) (by unfold vp_in; decide) dL_law_475 ?_
        refine lv_aload_n hx hb dL_law_476 rfl (lv_at hl 1 rfl) ?_
        refine lv_iload hx hb dL_law_477 (lv_at hl 6 rfl) ?_
        refine lv_iconst (v := 2) hx hb dL_law_479 (by decide) ?_
        refine lv_iadd hx hb dL_law_480 ?_
        refine lv_topv (v := 2) (by decide) ?_
        refine va_sld hx hb hX hbl hbA G.2 (i := 2) (by unfold vp_in; decide) dL_law_481 ?_
        refine lv_aload_n hx hb dL_law_482 rfl (lv_at hl 1 rfl) ?_
        refine lv_iload hx hb dL_law_483 (lv_at hl 6 rfl) ?_
        refine lv_iconst (v := 3) hx hb dL_law_485 (by decide) ?_
        refine lv_iadd hx hb dL_law_486 ?_
        refine lv_topv (v := 3) (by decide) ?_
        refine va_sld hx hb hX hbl hbA G.2 (i := 3) (by unfold vp_in; decide) dL_law_487 ?_
        refine lv_if_eq (tgt := 495) hx hb dL_law_488 (by decide) (fun _ => ?_) (fun c18 => absurd (c1) c18)
        refine lv_iconst (v := 0) hx hb dL_law_495 (by decide) ?_
        refine lv_aload_n hx hb dL_law_496 rfl (lv_at hl 1 rfl) ?_
        refine lv_iload hx hb dL_law_497 (lv_at hl 6 rfl) ?_
        refine lv_iconst (v := 4) hx hb dL_law_499 (by decide) ?_
        refine lv_iadd hx hb dL_law_500 ?_
        refine lv_topv (v := 4) (by decide) ?_
        refine va_sld hx hb hX hbl hbA G.2 (i := 4) (by unfold vp_in; decide) dL_law_501 ?_
        refine lv_aload_n hx hb dL_law_502 rfl (lv_at hl 1 rfl) ?_
        refine lv_iload hx hb dL_law_503 (lv_at hl 6 rfl) ?_
        refine lv_iconst (v := 5) hx hb dL_law_505 (by decide) ?_
        refine lv_iadd hx hb dL_law_506 ?_
        refine lv_topv (v := 5) (by decide) ?_
        refine va_sld hx hb hX hbl hbA G.2 (i := 5) (by unfold vp_in; decide) dL_law_507 ?_
        refine lv_if_eq (tgt := 515) hx hb dL_law_508 (by decide) (fun _ => ?_) (fun c19 => absurd (c2) c19)
        refine lv_iconst (v := 0) hx hb dL_law_515 (by decide) ?_
        have k20 : u4 m = some (.inr (11, [.int 0, .int 0, .ref v, .ref im, .ref kp, .ref pa, .ref de, .ref ide, .int 0, .int 0, .ref mtx, .int 0, .int (-1), .int (-1), .ref pt, .int 0, .int 0, .int 0, .ref so, .ref mo, .ref wh, .ref pf])) := fr9 _ _ (by omega) h_m
        have k21 : u4 v = some (.inl (cy 0, 6441, .inl (fun _ => 0))) := fr9 _ _ (by omega) h_v
        refine g_cI C0 G (g_runV C0 G (rest := []) (k_X9_wicket hfl (xs 1) (xs 2) 0 (xs 4) 0 k20 k21 (Or.inl rfl) (Or.inl rfl)) k20 rfl hY_X9_wicket mm_L_142 mi_X9_wicket ml_X9_wicket ⟨(Nat.le_of_ble_eq_true rfl), (Nat.le_of_ble_eq_true rfl)⟩ rfl hl.1 rfl (Nat.le_of_ble_eq_true rfl) dL_law_516 ⟨(Nat.le_of_ble_eq_true rfl), (Nat.le_of_ble_eq_true rfl)⟩) (kx_no rfl) (fun r24 u23 H locs hp22 G => ?_)
        rcases hp22 with ⟨hP9, hm8⟩ | ⟨hP9, hm8⟩
        · obtain ⟨rest9, hm9⟩ := hm8
          refine lv_istore (lv' := [(7, .int r24), (6, .int 2), (0, .ref b), (1, .ref sc), (2, .ref m), (3, .ref out), (4, .ref outD), (5, .int 0)]) hx hb dL_law_519 hl (by decide) rfl (fun ls hl => ?_)
          refine lv_aload_n hx hb dL_law_521 rfl (lv_at hl 4 rfl) ?_
          refine g_cI C0 G (g_runV C0 G (rest := []) (k_X9_thrown hfl hm9) hm9 rfl hY_X9_thrown mm_L_128 mi_X9_thrown ml_X9_thrown ⟨(Nat.le_of_ble_eq_true rfl), (Nat.le_of_ble_eq_true rfl)⟩ rfl hl.1 rfl (Nat.le_of_ble_eq_true rfl) dL_law_522 ⟨(Nat.le_of_ble_eq_true rfl), (Nat.le_of_ble_eq_true rfl)⟩) (kx_no rfl) (fun r27 u26 H locs hp25 G => ?_)
          obtain ⟨rfl, eu26⟩ := hp25
          rw [eu26] at G
          refine lv_iload hx hb dL_law_525 (lv_at hl 1 rfl) ?_
          refine lv_icmp_eq (tgt := 532) hx hb dL_law_527 (by decide) (fun _ => ?_) (fun c28 => absurd (by decide) c28)
          refine lv_iload hx hb dL_law_532 (lv_at hl 1 rfl) ?_
          refine lv_if_ne (tgt := 549) hx hb dL_law_534 (by decide) (fun _ => ?_) (fun c29 => absurd c29 (by decide))
          refine lv_goto (tgt := 2164) hx hb dL_law_549 (by decide) ?_
          exact law_tail hfl C9 C0 G (Nat.le_of_ble_eq_true rfl) (Nat.le_of_ble_eq_true rfl) (lv_sub hl [2, 7] rfl)
        · exact absurd hP hP9
    · refine lv_iconst (v := 1) hx hb dL_law_458 (by decide) ?_
      refine lv_goto (tgt := 463) hx hb dL_law_459 (by decide) ?_
      refine lv_aload_n hx hb dL_law_463 rfl (lv_at hl 3 rfl) ?_
      refine g_cI C0 G (g_runSH C0 G (rest := []) (k_L_wicket hfl (xs 1) (xs 2) 0 (xs 4) 1 h_sc h_m0 (Or.inl rfl) (Or.inr rfl)) hYH_L_wicket mm_L_139 ms_L_wicket ⟨(Nat.le_of_ble_eq_true rfl), (Nat.le_of_ble_eq_true rfl)⟩ rfl hl.1 rfl (Nat.le_of_ble_eq_true rfl) dL_law_464 ⟨(Nat.le_of_ble_eq_true rfl), (Nat.le_of_ble_eq_true rfl)⟩) (kx_no rfl) (fun r30 u31 H locs hp32 G => ?_)
      rcases hp32 with ⟨⟨rfl, hP⟩ | ⟨rfl, hP⟩, fr9⟩
      · refine lv_istore (lv' := [(6, .int 1), (0, .ref b), (1, .ref sc), (2, .ref m), (3, .ref out), (4, .ref outD), (5, .int 0)]) hx hb dL_law_467 hl (by decide) rfl (fun ls hl => ?_)
        refine lv_aload_n hx hb dL_law_469 rfl (lv_at hl 3 rfl) ?_
        refine lv_aload_n hx hb dL_law_470 rfl (lv_at hl 1 rfl) ?_
        refine lv_iload hx hb dL_law_471 (lv_at hl 6 rfl) ?_
        refine lv_iconst (v := 1) hx hb dL_law_473 (by decide) ?_
        refine lv_iadd hx hb dL_law_474 ?_
        refine lv_topv (v := 1) (by decide) ?_
        refine va_sld hx hb hX hbl hbA G.2 (i := 1) (by unfold vp_in; decide) dL_law_475 ?_
        refine lv_aload_n hx hb dL_law_476 rfl (lv_at hl 1 rfl) ?_
        refine lv_iload hx hb dL_law_477 (lv_at hl 6 rfl) ?_
        refine lv_iconst (v := 2) hx hb dL_law_479 (by decide) ?_
        refine lv_iadd hx hb dL_law_480 ?_
        refine lv_topv (v := 2) (by decide) ?_
        refine va_sld hx hb hX hbl hbA G.2 (i := 2) (by unfold vp_in; decide) dL_law_481 ?_
        refine lv_aload_n hx hb dL_law_482 rfl (lv_at hl 1 rfl) ?_
        refine lv_iload hx hb dL_law_483 (lv_at hl 6 rfl) ?_
        refine lv_iconst (v := 3) hx hb dL_law_485 (by decide) ?_
        refine lv_iadd hx hb dL_law_486 ?_
        refine lv_topv (v := 3) (by decide) ?_
        refine va_sld hx hb hX hbl hbA G.2 (i := 3) (by unfold vp_in; decide) dL_law_487 ?_
        refine lv_if_eq (tgt := 495) hx hb dL_law_488 (by decide) (fun _ => ?_) (fun c33 => absurd (c1) c33)
        refine lv_iconst (v := 0) hx hb dL_law_495 (by decide) ?_
        refine lv_aload_n hx hb dL_law_496 rfl (lv_at hl 1 rfl) ?_
        refine lv_iload hx hb dL_law_497 (lv_at hl 6 rfl) ?_
        refine lv_iconst (v := 4) hx hb dL_law_499 (by decide) ?_
        refine lv_iadd hx hb dL_law_500 ?_
        refine lv_topv (v := 4) (by decide) ?_
        refine va_sld hx hb hX hbl hbA G.2 (i := 4) (by unfold vp_in; decide) dL_law_501 ?_
        refine lv_aload_n hx hb dL_law_502 rfl (lv_at hl 1 rfl) ?_
        refine lv_iload hx hb dL_law_503 (lv_at hl 6 rfl) ?_
        refine lv_iconst (v := 5) hx hb dL_law_505 (by decide) ?_
        refine lv_iadd hx hb dL_law_506 ?_
        refine lv_topv (v := 5) (by decide) ?_
        refine va_sld hx hb hX hbl hbA G.2 (i := 5) (by unfold vp_in; decide) dL_law_507 ?_
        refine lv_if_eq (tgt := 515) hx hb dL_law_508 (by decide) (fun c34 => absurd c34 (c2)) (fun _ => ?_)
        refine lv_iconst (v := 1) hx hb dL_law_511 (by decide) ?_
        refine lv_goto (tgt := 516) hx hb dL_law_512 (by decide) ?_
        have k35 : u31 m = some (.inr (11, [.int 0, .int 0, .ref v, .ref im, .ref kp, .ref pa, .ref de, .ref ide, .int 0, .int 0, .ref mtx, .int 0, .int (-1), .int (-1), .ref pt, .int 0, .int 0, .int 0, .ref so, .ref mo, .ref wh, .ref pf])) := fr9 _ _ (by omega) h_m
        have k36 : u31 v = some (.inl (cy 0, 6441, .inl (fun _ => 0))) := fr9 _ _ (by omega) h_v
        refine g_cI C0 G (g_runV C0 G (rest := []) (k_X9_wicket hfl (xs 1) (xs 2) 0 (xs 4) 1 k35 k36 (Or.inl rfl) (Or.inr rfl)) k35 rfl hY_X9_wicket mm_L_142 mi_X9_wicket ml_X9_wicket ⟨(Nat.le_of_ble_eq_true rfl), (Nat.le_of_ble_eq_true rfl)⟩ rfl hl.1 rfl (Nat.le_of_ble_eq_true rfl) dL_law_516 ⟨(Nat.le_of_ble_eq_true rfl), (Nat.le_of_ble_eq_true rfl)⟩) (kx_no rfl) (fun r39 u38 H locs hp37 G => ?_)
        rcases hp37 with ⟨hP9, hm8⟩ | ⟨hP9, hm8⟩
        · exact absurd hP9 hP
        · obtain ⟨rest9, hm9⟩ := hm8
          refine lv_istore (lv' := [(7, .int r39), (6, .int 1), (0, .ref b), (1, .ref sc), (2, .ref m), (3, .ref out), (4, .ref outD), (5, .int 0)]) hx hb dL_law_519 hl (by decide) rfl (fun ls hl => ?_)
          refine lv_aload_n hx hb dL_law_521 rfl (lv_at hl 4 rfl) ?_
          refine g_cI C0 G (g_runV C0 G (rest := []) (k_X9_thrown hfl hm9) hm9 rfl hY_X9_thrown mm_L_128 mi_X9_thrown ml_X9_thrown ⟨(Nat.le_of_ble_eq_true rfl), (Nat.le_of_ble_eq_true rfl)⟩ rfl hl.1 rfl (Nat.le_of_ble_eq_true rfl) dL_law_522 ⟨(Nat.le_of_ble_eq_true rfl), (Nat.le_of_ble_eq_true rfl)⟩) (kx_no rfl) (fun r42 u41 H locs hp40 G => ?_)
          obtain ⟨rfl, eu41⟩ := hp40
          rw [eu41] at G
          refine lv_iload hx hb dL_law_525 (lv_at hl 1 rfl) ?_
          refine lv_icmp_eq (tgt := 532) hx hb dL_law_527 (by decide) (fun _ => ?_) (fun c43 => absurd (by decide) c43)
          refine lv_iload hx hb dL_law_532 (lv_at hl 1 rfl) ?_
          refine lv_if_ne (tgt := 549) hx hb dL_law_534 (by decide) (fun _ => ?_) (fun c44 => absurd c44 (by decide))
          refine lv_goto (tgt := 2164) hx hb dL_law_549 (by decide) ?_
          exact law_tail hfl C9 C0 G (Nat.le_of_ble_eq_true rfl) (Nat.le_of_ble_eq_true rfl) (lv_sub hl [2, 7] rfl)
      · refine lv_istore (lv' := [(6, .int 2), (0, .ref b), (1, .ref sc), (2, .ref m), (3, .ref out), (4, .ref outD), (5, .int 0)]) hx hb dL_law_467 hl (by decide) rfl (fun ls hl => ?_)
        refine lv_aload_n hx hb dL_law_469 rfl (lv_at hl 3 rfl) ?_
        refine lv_aload_n hx hb dL_law_470 rfl (lv_at hl 1 rfl) ?_
        refine lv_iload hx hb dL_law_471 (lv_at hl 6 rfl) ?_
        refine lv_iconst (v := 1) hx hb dL_law_473 (by decide) ?_
        refine lv_iadd hx hb dL_law_474 ?_
        refine lv_topv (v := 1) (by decide) ?_
        refine va_sld hx hb hX hbl hbA G.2 (i := 1) (by unfold vp_in; decide) dL_law_475 ?_
        refine lv_aload_n hx hb dL_law_476 rfl (lv_at hl 1 rfl) ?_
        refine lv_iload hx hb dL_law_477 (lv_at hl 6 rfl) ?_
        refine lv_iconst (v := 2) hx hb dL_law_479 (by decide) ?_
        refine lv_iadd hx hb dL_law_480 ?_
        refine lv_topv (v := 2) (by decide) ?_
        refine va_sld hx hb hX hbl hbA G.2 (i := 2) (by unfold vp_in; decide) dL_law_481 ?_
        refine lv_aload_n hx hb dL_law_482 rfl (lv_at hl 1 rfl) ?_
        refine lv_iload hx hb dL_law_483 (lv_at hl 6 rfl) ?_
        refine lv_iconst (v := 3) hx hb dL_law_485 (by decide) ?_
        refine lv_iadd hx hb dL_law_486 ?_
        refine lv_topv (v := 3) (by decide) ?_
        refine va_sld hx hb hX hbl hbA G.2 (i := 3) (by unfold vp_in; decide) dL_law_487 ?_
        refine lv_if_eq (tgt := 495) hx hb dL_law_488 (by decide) (fun _ => ?_) (fun c45 => absurd (c1) c45)
        refine lv_iconst (v := 0) hx hb dL_law_495 (by decide) ?_
        refine lv_aload_n hx hb dL_law_496 rfl (lv_at hl 1 rfl) ?_
        refine lv_iload hx hb dL_law_497 (lv_at hl 6 rfl) ?_
        refine lv_iconst (v := 4) hx hb dL_law_499 (by decide) ?_
        refine lv_iadd hx hb dL_law_500 ?_
        refine lv_topv (v := 4) (by decide) ?_
        refine va_sld hx hb hX hbl hbA G.2 (i := 4) (by unfold vp_in; decide) dL_law_501 ?_
        refine lv_aload_n hx hb dL_law_502 rfl (lv_at hl 1 rfl) ?_
        refine lv_iload hx hb dL_law_503 (lv_at hl 6 rfl) ?_
        refine lv_iconst (v := 5) hx hb dL_law_505 (by decide) ?_
        refine lv_iadd hx hb dL_law_506 ?_
        refine lv_topv (v := 5) (by decide) ?_
        refine va_sld hx hb hX hbl hbA G.2 (i := 5) (by unfold vp_in; decide) dL_law_507 ?_
        refine lv_if_eq (tgt := 515) hx hb dL_law_508 (by decide) (fun c46 => absurd c46 (c2)) (fun _ => ?_)
        refine lv_iconst (v := 1) hx hb dL_law_511 (by decide) ?_
        refine lv_goto (tgt := 516) hx hb dL_law_512 (by decide) ?_
        have k47 : u31 m = some (.inr (11, [.int 0, .int 0, .ref v, .ref im, .ref kp, .ref pa, .ref de, .ref ide, .int 0, .int 0, .ref mtx, .int 0, .int (-1), .int (-1), .ref pt, .int 0, .int 0, .int 0, .ref so, .ref mo, .ref wh, .ref pf])) := fr9 _ _ (by omega) h_m
        have k48 : u31 v = some (.inl (cy 0, 6441, .inl (fun _ => 0))) := fr9 _ _ (by omega) h_v
        refine g_cI C0 G (g_runV C0 G (rest := []) (k_X9_wicket hfl (xs 1) (xs 2) 0 (xs 4) 1 k47 k48 (Or.inl rfl) (Or.inr rfl)) k47 rfl hY_X9_wicket mm_L_142 mi_X9_wicket ml_X9_wicket ⟨(Nat.le_of_ble_eq_true rfl), (Nat.le_of_ble_eq_true rfl)⟩ rfl hl.1 rfl (Nat.le_of_ble_eq_true rfl) dL_law_516 ⟨(Nat.le_of_ble_eq_true rfl), (Nat.le_of_ble_eq_true rfl)⟩) (kx_no rfl) (fun r51 u50 H locs hp49 G => ?_)
        rcases hp49 with ⟨hP9, hm8⟩ | ⟨hP9, hm8⟩
        · obtain ⟨rest9, hm9⟩ := hm8
          refine lv_istore (lv' := [(7, .int r51), (6, .int 2), (0, .ref b), (1, .ref sc), (2, .ref m), (3, .ref out), (4, .ref outD), (5, .int 0)]) hx hb dL_law_519 hl (by decide) rfl (fun ls hl => ?_)
          refine lv_aload_n hx hb dL_law_521 rfl (lv_at hl 4 rfl) ?_
          refine g_cI C0 G (g_runV C0 G (rest := []) (k_X9_thrown hfl hm9) hm9 rfl hY_X9_thrown mm_L_128 mi_X9_thrown ml_X9_thrown ⟨(Nat.le_of_ble_eq_true rfl), (Nat.le_of_ble_eq_true rfl)⟩ rfl hl.1 rfl (Nat.le_of_ble_eq_true rfl) dL_law_522 ⟨(Nat.le_of_ble_eq_true rfl), (Nat.le_of_ble_eq_true rfl)⟩) (kx_no rfl) (fun r54 u53 H locs hp52 G => ?_)
          obtain ⟨rfl, eu53⟩ := hp52
          rw [eu53] at G
          refine lv_iload hx hb dL_law_525 (lv_at hl 1 rfl) ?_
          refine lv_icmp_eq (tgt := 532) hx hb dL_law_527 (by decide) (fun _ => ?_) (fun c55 => absurd (by decide) c55)
          refine lv_iload hx hb dL_law_532 (lv_at hl 1 rfl) ?_
          refine lv_if_ne (tgt := 549) hx hb dL_law_534 (by decide) (fun _ => ?_) (fun c56 => absurd c56 (by decide))
          refine lv_goto (tgt := 2164) hx hb dL_law_549 (by decide) ?_
          exact law_tail hfl C9 C0 G (Nat.le_of_ble_eq_true rfl) (Nat.le_of_ble_eq_true rfl) (lv_sub hl [2, 7] rfl)
        · exact absurd hP hP9
  · refine lv_iconst (v := 1) hx hb dL_law_438 (by decide) ?_
    refine lv_goto (tgt := 443) hx hb dL_law_439 (by decide) ?_
    refine lv_aload_n hx hb dL_law_443 rfl (lv_at hl 0 rfl) ?_
    refine lv_iload hx hb dL_law_444 (lv_at hl 5 rfl) ?_
    refine lv_iconst (v := 4) hx hb dL_law_446 (by decide) ?_
    refine lv_iadd hx hb dL_law_447 ?_
    refine lv_topv (v := 4) (by decide) ?_
    refine va_sld hx hb hX hbl hbA G.2 (i := 4) (by unfold vp_in; decide) dL_law_448 ?_
    refine lv_aload_n hx hb dL_law_449 rfl (lv_at hl 0 rfl) ?_
    refine lv_iload hx hb dL_law_450 (lv_at hl 5 rfl) ?_
    refine lv_iconst (v := 5) hx hb dL_law_452 (by decide) ?_
    refine lv_iadd hx hb dL_law_453 ?_
    refine lv_topv (v := 5) (by decide) ?_
    refine va_sld hx hb hX hbl hbA G.2 (i := 5) (by unfold vp_in; decide) dL_law_454 ?_
    refine lv_if_eq (tgt := 462) hx hb dL_law_455 (by decide) (fun c57 => ?_) (fun c57 => ?_)
    · refine lv_iconst (v := 0) hx hb dL_law_462 (by decide) ?_
      refine lv_aload_n hx hb dL_law_463 rfl (lv_at hl 3 rfl) ?_
      refine g_cI C0 G (g_runSH C0 G (rest := []) (k_L_wicket hfl (xs 1) (xs 2) 1 (xs 4) 0 h_sc h_m0 (Or.inr rfl) (Or.inl rfl)) hYH_L_wicket mm_L_139 ms_L_wicket ⟨(Nat.le_of_ble_eq_true rfl), (Nat.le_of_ble_eq_true rfl)⟩ rfl hl.1 rfl (Nat.le_of_ble_eq_true rfl) dL_law_464 ⟨(Nat.le_of_ble_eq_true rfl), (Nat.le_of_ble_eq_true rfl)⟩) (kx_no rfl) (fun r58 u59 H locs hp60 G => ?_)
      rcases hp60 with ⟨⟨rfl, hP⟩ | ⟨rfl, hP⟩, fr9⟩
      · refine lv_istore (lv' := [(6, .int 1), (0, .ref b), (1, .ref sc), (2, .ref m), (3, .ref out), (4, .ref outD), (5, .int 0)]) hx hb dL_law_467 hl (by decide) rfl (fun ls hl => ?_)
        refine lv_aload_n hx hb dL_law_469 rfl (lv_at hl 3 rfl) ?_
        refine lv_aload_n hx hb dL_law_470 rfl (lv_at hl 1 rfl) ?_
        refine lv_iload hx hb dL_law_471 (lv_at hl 6 rfl) ?_
        refine lv_iconst (v := 1) hx hb dL_law_473 (by decide) ?_
        refine lv_iadd hx hb dL_law_474 ?_
        refine lv_topv (v := 1) (by decide) ?_
        refine va_sld hx hb hX hbl hbA G.2 (i := 1) (by unfold vp_in; decide) dL_law_475 ?_
        refine lv_aload_n hx hb dL_law_476 rfl (lv_at hl 1 rfl) ?_
        refine lv_iload hx hb dL_law_477 (lv_at hl 6 rfl) ?_
        refine lv_iconst (v := 2) hx hb dL_law_479 (by decide) ?_
        refine lv_iadd hx hb dL_law_480 ?_
        refine lv_topv (v := 2) (by decide) ?_
        refine va_sld hx hb hX hbl hbA G.2 (i := 2) (by unfold vp_in; decide) dL_law_481 ?_
        refine lv_aload_n hx hb dL_law_482 rfl (lv_at hl 1 rfl) ?_
        refine lv_iload hx hb dL_law_483 (lv_at hl 6 rfl) ?_
        refine lv_iconst (v := 3) hx hb dL_law_485 (by decide) ?_
        refine lv_iadd hx hb dL_law_486 ?_
        refine lv_topv (v := 3) (by decide) ?_
        refine va_sld hx hb hX hbl hbA G.2 (i := 3) (by unfold vp_in; decide) dL_law_487 ?_
        refine lv_if_eq (tgt := 495) hx hb dL_law_488 (by decide) (fun c61 => absurd c61 (c1)) (fun _ => ?_)
        refine lv_iconst (v := 1) hx hb dL_law_491 (by decide) ?_
        refine lv_goto (tgt := 496) hx hb dL_law_492 (by decide) ?_
        refine lv_aload_n hx hb dL_law_496 rfl (lv_at hl 1 rfl) ?_
        refine lv_iload hx hb dL_law_497 (lv_at hl 6 rfl) ?_
        refine lv_iconst (v := 4) hx hb dL_law_499 (by decide) ?_
        refine lv_iadd hx hb dL_law_500 ?_
        refine lv_topv (v := 4) (by decide) ?_
        refine va_sld hx hb hX hbl hbA G.2 (i := 4) (by unfold vp_in; decide) dL_law_501 ?_
        refine lv_aload_n hx hb dL_law_502 rfl (lv_at hl 1 rfl) ?_
        refine lv_iload hx hb dL_law_503 (lv_at hl 6 rfl) ?_
        refine lv_iconst (v := 5) hx hb dL_law_505 (by decide) ?_
        refine lv_iadd hx hb dL_law_506 ?_
        refine lv_topv (v := 5) (by decide) ?_
        refine va_sld hx hb hX hbl hbA G.2 (i := 5) (by unfold vp_in; decide) dL_law_507 ?_
        refine lv_if_eq (tgt := 515) hx hb dL_law_508 (by decide) (fun _ => ?_) (fun c62 => absurd (c57) c62)
        refine lv_iconst (v := 0) hx hb dL_law_515 (by decide) ?_
        have k63 : u59 m = some (.inr (11, [.int 0, .int 0, .ref v, .ref im, .ref kp, .ref pa, .ref de, .ref ide, .int 0, .int 0, .ref mtx, .int 0, .int (-1), .int (-1), .ref pt, .int 0, .int 0, .int 0, .ref so, .ref mo, .ref wh, .ref pf])) := fr9 _ _ (by omega) h_m
        have k64 : u59 v = some (.inl (cy 0, 6441, .inl (fun _ => 0))) := fr9 _ _ (by omega) h_v
        refine g_cI C0 G (g_runV C0 G (rest := []) (k_X9_wicket hfl (xs 1) (xs 2) 1 (xs 4) 0 k63 k64 (Or.inr rfl) (Or.inl rfl)) k63 rfl hY_X9_wicket mm_L_142 mi_X9_wicket ml_X9_wicket ⟨(Nat.le_of_ble_eq_true rfl), (Nat.le_of_ble_eq_true rfl)⟩ rfl hl.1 rfl (Nat.le_of_ble_eq_true rfl) dL_law_516 ⟨(Nat.le_of_ble_eq_true rfl), (Nat.le_of_ble_eq_true rfl)⟩) (kx_no rfl) (fun r67 u66 H locs hp65 G => ?_)
        rcases hp65 with ⟨hP9, hm8⟩ | ⟨hP9, hm8⟩
        · exact absurd hP9 hP
        · obtain ⟨rest9, hm9⟩ := hm8
          refine lv_istore (lv' := [(7, .int r67), (6, .int 1), (0, .ref b), (1, .ref sc), (2, .ref m), (3, .ref out), (4, .ref outD), (5, .int 0)]) hx hb dL_law_519 hl (by decide) rfl (fun ls hl => ?_)
          refine lv_aload_n hx hb dL_law_521 rfl (lv_at hl 4 rfl) ?_
          refine g_cI C0 G (g_runV C0 G (rest := []) (k_X9_thrown hfl hm9) hm9 rfl hY_X9_thrown mm_L_128 mi_X9_thrown ml_X9_thrown ⟨(Nat.le_of_ble_eq_true rfl), (Nat.le_of_ble_eq_true rfl)⟩ rfl hl.1 rfl (Nat.le_of_ble_eq_true rfl) dL_law_522 ⟨(Nat.le_of_ble_eq_true rfl), (Nat.le_of_ble_eq_true rfl)⟩) (kx_no rfl) (fun r70 u69 H locs hp68 G => ?_)
          obtain ⟨rfl, eu69⟩ := hp68
          rw [eu69] at G
          refine lv_iload hx hb dL_law_525 (lv_at hl 1 rfl) ?_
          refine lv_icmp_eq (tgt := 532) hx hb dL_law_527 (by decide) (fun _ => ?_) (fun c71 => absurd (by decide) c71)
          refine lv_iload hx hb dL_law_532 (lv_at hl 1 rfl) ?_
          refine lv_if_ne (tgt := 549) hx hb dL_law_534 (by decide) (fun _ => ?_) (fun c72 => absurd c72 (by decide))
          refine lv_goto (tgt := 2164) hx hb dL_law_549 (by decide) ?_
          exact law_tail hfl C9 C0 G (Nat.le_of_ble_eq_true rfl) (Nat.le_of_ble_eq_true rfl) (lv_sub hl [2, 7] rfl)
      · refine lv_istore (lv' := [(6, .int 2), (0, .ref b), (1, .ref sc), (2, .ref m), (3, .ref out), (4, .ref outD), (5, .int 0)]) hx hb dL_law_467 hl (by decide) rfl (fun ls hl => ?_)
        refine lv_aload_n hx hb dL_law_469 rfl (lv_at hl 3 rfl) ?_
        refine lv_aload_n hx hb dL_law_470 rfl (lv_at hl 1 rfl) ?_
        refine lv_iload hx hb dL_law_471 (lv_at hl 6 rfl) ?_
        refine lv_iconst (v := 1) hx hb dL_law_473 (by decide) ?_
        refine lv_iadd hx hb dL_law_474 ?_
        refine lv_topv (v := 1) (by decide) ?_
        refine va_sld hx hb hX hbl hbA G.2 (i := 1) (by unfold vp_in; decide) dL_law_475 ?_
        refine lv_aload_n hx hb dL_law_476 rfl (lv_at hl 1 rfl) ?_
        refine lv_iload hx hb dL_law_477 (lv_at hl 6 rfl) ?_
        refine lv_iconst (v := 2) hx hb dL_law_479 (by decide) ?_
        refine lv_iadd hx hb dL_law_480 ?_
        refine lv_topv (v := 2) (by decide) ?_
        refine va_sld hx hb hX hbl hbA G.2 (i := 2) (by unfold vp_in; decide) dL_law_481 ?_
        refine lv_aload_n hx hb dL_law_482 rfl (lv_at hl 1 rfl) ?_
        refine lv_iload hx hb dL_law_483 (lv_at hl 6 rfl) ?_
        refine lv_iconst (v := 3) hx hb dL_law_485 (by decide) ?_
        refine lv_iadd hx hb dL_law_486 ?_
        refine lv_topv (v := 3) (by decide) ?_
        refine va_sld hx hb hX hbl hbA G.2 (i := 3) (by unfold vp_in; decide) dL_law_487 ?_
        refine lv_if_eq (tgt := 495) hx hb dL_law_488 (by decide) (fun c73 => absurd c73 (c1)) (fun _ => ?_)
        refine lv_iconst (v := 1) hx hb dL_law_491 (by decide) ?_
        refine lv_goto (tgt := 496) hx hb dL_law_492 (by decide) ?_
        refine lv_aload_n hx hb dL_law_496 rfl (lv_at hl 1 rfl) ?_
        refine lv_iload hx hb dL_law_497 (lv_at hl 6 rfl) ?_
        refine lv_iconst (v := 4) hx hb dL_law_499 (by decide) ?_
        refine lv_iadd hx hb dL_law_500 ?_
        refine lv_topv (v := 4) (by decide) ?_
        refine va_sld hx hb hX hbl hbA G.2 (i := 4) (by unfold vp_in; decide) dL_law_501 ?_
        refine lv_aload_n hx hb dL_law_502 rfl (lv_at hl 1 rfl) ?_
        refine lv_iload hx hb dL_law_503 (lv_at hl 6 rfl) ?_
        refine lv_iconst (v := 5) hx hb dL_law_505 (by decide) ?_
        refine lv_iadd hx hb dL_law_506 ?_
        refine lv_topv (v := 5) (by decide) ?_
        refine va_sld hx hb hX hbl hbA G.2 (i := 5) (by unfold vp_in; decide) dL_law_507 ?_
        refine lv_if_eq (tgt := 515) hx hb dL_law_508 (by decide) (fun _ => ?_) (fun c74 => absurd (c57) c74)
        refine lv_iconst (v := 0) hx hb dL_law_515 (by decide) ?_
        have k75 : u59 m = some (.inr (11, [.int 0, .int 0, .ref v, .ref im, .ref kp, .ref pa, .ref de, .ref ide, .int 0, .int 0, .ref mtx, .int 0, .int (-1), .int (-1), .ref pt, .int 0, .int 0, .int 0, .ref so, .ref mo, .ref wh, .ref pf])) := fr9 _ _ (by omega) h_m
        have k76 : u59 v = some (.inl (cy 0, 6441, .inl (fun _ => 0))) := fr9 _ _ (by omega) h_v
        refine g_cI C0 G (g_runV C0 G (rest := []) (k_X9_wicket hfl (xs 1) (xs 2) 1 (xs 4) 0 k75 k76 (Or.inr rfl) (Or.inl rfl)) k75 rfl hY_X9_wicket mm_L_142 mi_X9_wicket ml_X9_wicket ⟨(Nat.le_of_ble_eq_true rfl), (Nat.le_of_ble_eq_true rfl)⟩ rfl hl.1 rfl (Nat.le_of_ble_eq_true rfl) dL_law_516 ⟨(Nat.le_of_ble_eq_true rfl), (Nat.le_of_ble_eq_true rfl)⟩) (kx_no rfl) (fun r79 u78 H locs hp77 G => ?_)
        rcases hp77 with ⟨hP9, hm8⟩ | ⟨hP9, hm8⟩
        · obtain ⟨rest9, hm9⟩ := hm8
          refine lv_istore (lv' := [(7, .int r79), (6, .int 2), (0, .ref b), (1, .ref sc), (2, .ref m), (3, .ref out), (4, .ref outD), (5, .int 0)]) hx hb dL_law_519 hl (by decide) rfl (fun ls hl => ?_)
          refine lv_aload_n hx hb dL_law_521 rfl (lv_at hl 4 rfl) ?_
          refine g_cI C0 G (g_runV C0 G (rest := []) (k_X9_thrown hfl hm9) hm9 rfl hY_X9_thrown mm_L_128 mi_X9_thrown ml_X9_thrown ⟨(Nat.le_of_ble_eq_true rfl), (Nat.le_of_ble_eq_true rfl)⟩ rfl hl.1 rfl (Nat.le_of_ble_eq_true rfl) dL_law_522 ⟨(Nat.le_of_ble_eq_true rfl), (Nat.le_of_ble_eq_true rfl)⟩) (kx_no rfl) (fun r82 u81 H locs hp80 G => ?_)
          obtain ⟨rfl, eu81⟩ := hp80
          rw [eu81] at G
          refine lv_iload hx hb dL_law_525 (lv_at hl 1 rfl) ?_
          refine lv_icmp_eq (tgt := 532) hx hb dL_law_527 (by decide) (fun _ => ?_) (fun c83 => absurd (by decide) c83)
          refine lv_iload hx hb dL_law_532 (lv_at hl 1 rfl) ?_
          refine lv_if_ne (tgt := 549) hx hb dL_law_534 (by decide) (fun _ => ?_) (fun c84 => absurd c84 (by decide))
          refine lv_goto (tgt := 2164) hx hb dL_law_549 (by decide) ?_
          exact law_tail hfl C9 C0 G (Nat.le_of_ble_eq_true rfl) (Nat.le_of_ble_eq_true rfl) (lv_sub hl [2, 7] rfl)
        · exact absurd hP hP9
    · refine lv_iconst (v := 1) hx hb dL_law_458 (by decide) ?_
      refine lv_goto (tgt := 463) hx hb dL_law_459 (by decide) ?_
      refine lv_aload_n hx hb dL_law_463 rfl (lv_at hl 3 rfl) ?_
      refine g_cI C0 G (g_runSH C0 G (rest := []) (k_L_wicket hfl (xs 1) (xs 2) 1 (xs 4) 1 h_sc h_m0 (Or.inr rfl) (Or.inr rfl)) hYH_L_wicket mm_L_139 ms_L_wicket ⟨(Nat.le_of_ble_eq_true rfl), (Nat.le_of_ble_eq_true rfl)⟩ rfl hl.1 rfl (Nat.le_of_ble_eq_true rfl) dL_law_464 ⟨(Nat.le_of_ble_eq_true rfl), (Nat.le_of_ble_eq_true rfl)⟩) (kx_no rfl) (fun r85 u86 H locs hp87 G => ?_)
      rcases hp87 with ⟨⟨rfl, hP⟩ | ⟨rfl, hP⟩, fr9⟩
      · refine lv_istore (lv' := [(6, .int 1), (0, .ref b), (1, .ref sc), (2, .ref m), (3, .ref out), (4, .ref outD), (5, .int 0)]) hx hb dL_law_467 hl (by decide) rfl (fun ls hl => ?_)
        refine lv_aload_n hx hb dL_law_469 rfl (lv_at hl 3 rfl) ?_
        refine lv_aload_n hx hb dL_law_470 rfl (lv_at hl 1 rfl) ?_
        refine lv_iload hx hb dL_law_471 (lv_at hl 6 rfl) ?_
        refine lv_iconst (v := 1) hx hb dL_law_473 (by decide) ?_
        refine lv_iadd hx hb dL_law_474 ?_
        refine lv_topv (v := 1) (by decide) ?_
        refine va_sld hx hb hX hbl hbA G.2 (i := 1) (by unfold vp_in; decide) dL_law_475 ?_
        refine lv_aload_n hx hb dL_law_476 rfl (lv_at hl 1 rfl) ?_
        refine lv_iload hx hb dL_law_477 (lv_at hl 6 rfl) ?_
        refine lv_iconst (v := 2) hx hb dL_law_479 (by decide) ?_
        refine lv_iadd hx hb dL_law_480 ?_
        refine lv_topv (v := 2) (by decide) ?_
        refine va_sld hx hb hX hbl hbA G.2 (i := 2) (by unfold vp_in; decide) dL_law_481 ?_
        refine lv_aload_n hx hb dL_law_482 rfl (lv_at hl 1 rfl) ?_
        refine lv_iload hx hb dL_law_483 (lv_at hl 6 rfl) ?_
        refine lv_iconst (v := 3) hx hb dL_law_485 (by decide) ?_
        refine lv_iadd hx hb dL_law_486 ?_
        refine lv_topv (v := 3) (by decide) ?_
        refine va_sld hx hb hX hbl hbA G.2 (i := 3) (by unfold vp_in; decide) dL_law_487 ?_
        refine lv_if_eq (tgt := 495) hx hb dL_law_488 (by decide) (fun c88 => absurd c88 (c1)) (fun _ => ?_)
        refine lv_iconst (v := 1) hx hb dL_law_491 (by decide) ?_
        refine lv_goto (tgt := 496) hx hb dL_law_492 (by decide) ?_
        refine lv_aload_n hx hb dL_law_496 rfl (lv_at hl 1 rfl) ?_
        refine lv_iload hx hb dL_law_497 (lv_at hl 6 rfl) ?_
        refine lv_iconst (v := 4) hx hb dL_law_499 (by decide) ?_
        refine lv_iadd hx hb dL_law_500 ?_
        refine lv_topv (v := 4) (by decide) ?_
        refine va_sld hx hb hX hbl hbA G.2 (i := 4) (by unfold vp_in; decide) dL_law_501 ?_
        refine lv_aload_n hx hb dL_law_502 rfl (lv_at hl 1 rfl) ?_
        refine lv_iload hx hb dL_law_503 (lv_at hl 6 rfl) ?_
        refine lv_iconst (v := 5) hx hb dL_law_505 (by decide) ?_
        refine lv_iadd hx hb dL_law_506 ?_
        refine lv_topv (v := 5) (by decide) ?_
        refine va_sld hx hb hX hbl hbA G.2 (i := 5) (by unfold vp_in; decide) dL_law_507 ?_
        refine lv_if_eq (tgt := 515) hx hb dL_law_508 (by decide) (fun c89 => absurd c89 (c57)) (fun _ => ?_)
        refine lv_iconst (v := 1) hx hb dL_law_511 (by decide) ?_
        refine lv_goto (tgt := 516) hx hb dL_law_512 (by decide) ?_
        have k90 : u86 m = some (.inr (11, [.int 0, .int 0, .ref v, .ref im, .ref kp, .ref pa, .ref de, .ref ide, .int 0, .int 0, .ref mtx, .int 0, .int (-1), .int (-1), .ref pt, .int 0, .int 0, .int 0, .ref so, .ref mo, .ref wh, .ref pf])) := fr9 _ _ (by omega) h_m
        have k91 : u86 v = some (.inl (cy 0, 6441, .inl (fun _ => 0))) := fr9 _ _ (by omega) h_v
        refine g_cI C0 G (g_runV C0 G (rest := []) (k_X9_wicket hfl (xs 1) (xs 2) 1 (xs 4) 1 k90 k91 (Or.inr rfl) (Or.inr rfl)) k90 rfl hY_X9_wicket mm_L_142 mi_X9_wicket ml_X9_wicket ⟨(Nat.le_of_ble_eq_true rfl), (Nat.le_of_ble_eq_true rfl)⟩ rfl hl.1 rfl (Nat.le_of_ble_eq_true rfl) dL_law_516 ⟨(Nat.le_of_ble_eq_true rfl), (Nat.le_of_ble_eq_true rfl)⟩) (kx_no rfl) (fun r94 u93 H locs hp92 G => ?_)
        rcases hp92 with ⟨hP9, hm8⟩ | ⟨hP9, hm8⟩
        · exact absurd hP9 hP
        · obtain ⟨rest9, hm9⟩ := hm8
          refine lv_istore (lv' := [(7, .int r94), (6, .int 1), (0, .ref b), (1, .ref sc), (2, .ref m), (3, .ref out), (4, .ref outD), (5, .int 0)]) hx hb dL_law_519 hl (by decide) rfl (fun ls hl => ?_)
          refine lv_aload_n hx hb dL_law_521 rfl (lv_at hl 4 rfl) ?_
          refine g_cI C0 G (g_runV C0 G (rest := []) (k_X9_thrown hfl hm9) hm9 rfl hY_X9_thrown mm_L_128 mi_X9_thrown ml_X9_thrown ⟨(Nat.le_of_ble_eq_true rfl), (Nat.le_of_ble_eq_true rfl)⟩ rfl hl.1 rfl (Nat.le_of_ble_eq_true rfl) dL_law_522 ⟨(Nat.le_of_ble_eq_true rfl), (Nat.le_of_ble_eq_true rfl)⟩) (kx_no rfl) (fun r97 u96 H locs hp95 G => ?_)
          obtain ⟨rfl, eu96⟩ := hp95
          rw [eu96] at G
          refine lv_iload hx hb dL_law_525 (lv_at hl 1 rfl) ?_
          refine lv_icmp_eq (tgt := 532) hx hb dL_law_527 (by decide) (fun _ => ?_) (fun c98 => absurd (by decide) c98)
          refine lv_iload hx hb dL_law_532 (lv_at hl 1 rfl) ?_
          refine lv_if_ne (tgt := 549) hx hb dL_law_534 (by decide) (fun _ => ?_) (fun c99 => absurd c99 (by decide))
          refine lv_goto (tgt := 2164) hx hb dL_law_549 (by decide) ?_
          exact law_tail hfl C9 C0 G (Nat.le_of_ble_eq_true rfl) (Nat.le_of_ble_eq_true rfl) (lv_sub hl [2, 7] rfl)
      · refine lv_istore (lv' := [(6, .int 2), (0, .ref b), (1, .ref sc), (2, .ref m), (3, .ref out), (4, .ref outD), (5, .int 0)]) hx hb dL_law_467 hl (by decide) rfl (fun ls hl => ?_)
        refine lv_aload_n hx hb dL_law_469 rfl (lv_at hl 3 rfl) ?_
        refine lv_aload_n hx hb dL_law_470 rfl (lv_at hl 1 rfl) ?_
        refine lv_iload hx hb dL_law_471 (lv_at hl 6 rfl) ?_
        refine lv_iconst (v := 1) hx hb dL_law_473 (by decide) ?_
        refine lv_iadd hx hb dL_law_474 ?_
        refine lv_topv (v := 1) (by decide) ?_
        refine va_sld hx hb hX hbl hbA G.2 (i := 1) (by unfold vp_in; decide) dL_law_475 ?_
        refine lv_aload_n hx hb dL_law_476 rfl (lv_at hl 1 rfl) ?_
        refine lv_iload hx hb dL_law_477 (lv_at hl 6 rfl) ?_
        refine lv_iconst (v := 2) hx hb dL_law_479 (by decide) ?_
        refine lv_iadd hx hb dL_law_480 ?_
        refine lv_topv (v := 2) (by decide) ?_
        refine va_sld hx hb hX hbl hbA G.2 (i := 2) (by unfold vp_in; decide) dL_law_481 ?_
        refine lv_aload_n hx hb dL_law_482 rfl (lv_at hl 1 rfl) ?_
        refine lv_iload hx hb dL_law_483 (lv_at hl 6 rfl) ?_
        refine lv_iconst (v := 3) hx hb dL_law_485 (by decide) ?_
        refine lv_iadd hx hb dL_law_486 ?_
        refine lv_topv (v := 3) (by decide) ?_
        refine va_sld hx hb hX hbl hbA G.2 (i := 3) (by unfold vp_in; decide) dL_law_487 ?_
        refine lv_if_eq (tgt := 495) hx hb dL_law_488 (by decide) (fun c100 => absurd c100 (c1)) (fun _ => ?_)
        refine lv_iconst (v := 1) hx hb dL_law_491 (by decide) ?_
        refine lv_goto (tgt := 496) hx hb dL_law_492 (by decide) ?_
        refine lv_aload_n hx hb dL_law_496 rfl (lv_at hl 1 rfl) ?_
        refine lv_iload hx hb dL_law_497 (lv_at hl 6 rfl) ?_
        refine lv_iconst (v := 4) hx hb dL_law_499 (by decide) ?_
        refine lv_iadd hx hb dL_law_500 ?_
        refine lv_topv (v := 4) (by decide) ?_
        refine va_sld hx hb hX hbl hbA G.2 (i := 4) (by unfold vp_in; decide) dL_law_501 ?_
        refine lv_aload_n hx hb dL_law_502 rfl (lv_at hl 1 rfl) ?_
        refine lv_iload hx hb dL_law_503 (lv_at hl 6 rfl) ?_
        refine lv_iconst (v := 5) hx hb dL_law_505 (by decide) ?_
        refine lv_iadd hx hb dL_law_506 ?_
        refine lv_topv (v := 5) (by decide) ?_
        refine va_sld hx hb hX hbl hbA G.2 (i := 5) (by unfold vp_in; decide) dL_law_507 ?_
        refine lv_if_eq (tgt := 515) hx hb dL_law_508 (by decide) (fun c101 => absurd c101 (c57)) (fun _ => ?_)
        refine lv_iconst (v := 1) hx hb dL_law_511 (by decide) ?_
        refine lv_goto (tgt := 516) hx hb dL_law_512 (by decide) ?_
        have k102 : u86 m = some (.inr (11, [.int 0, .int 0, .ref v, .ref im, .ref kp, .ref pa, .ref de, .ref ide, .int 0, .int 0, .ref mtx, .int 0, .int (-1), .int (-1), .ref pt, .int 0, .int 0, .int 0, .ref so, .ref mo, .ref wh, .ref pf])) := fr9 _ _ (by omega) h_m
        have k103 : u86 v = some (.inl (cy 0, 6441, .inl (fun _ => 0))) := fr9 _ _ (by omega) h_v
        refine g_cI C0 G (g_runV C0 G (rest := []) (k_X9_wicket hfl (xs 1) (xs 2) 1 (xs 4) 1 k102 k103 (Or.inr rfl) (Or.inr rfl)) k102 rfl hY_X9_wicket mm_L_142 mi_X9_wicket ml_X9_wicket ⟨(Nat.le_of_ble_eq_true rfl), (Nat.le_of_ble_eq_true rfl)⟩ rfl hl.1 rfl (Nat.le_of_ble_eq_true rfl) dL_law_516 ⟨(Nat.le_of_ble_eq_true rfl), (Nat.le_of_ble_eq_true rfl)⟩) (kx_no rfl) (fun r106 u105 H locs hp104 G => ?_)
        rcases hp104 with ⟨hP9, hm8⟩ | ⟨hP9, hm8⟩
        · obtain ⟨rest9, hm9⟩ := hm8
          refine lv_istore (lv' := [(7, .int r106), (6, .int 2), (0, .ref b), (1, .ref sc), (2, .ref m), (3, .ref out), (4, .ref outD), (5, .int 0)]) hx hb dL_law_519 hl (by decide) rfl (fun ls hl => ?_)
          refine lv_aload_n hx hb dL_law_521 rfl (lv_at hl 4 rfl) ?_
          refine g_cI C0 G (g_runV C0 G (rest := []) (k_X9_thrown hfl hm9) hm9 rfl hY_X9_thrown mm_L_128 mi_X9_thrown ml_X9_thrown ⟨(Nat.le_of_ble_eq_true rfl), (Nat.le_of_ble_eq_true rfl)⟩ rfl hl.1 rfl (Nat.le_of_ble_eq_true rfl) dL_law_522 ⟨(Nat.le_of_ble_eq_true rfl), (Nat.le_of_ble_eq_true rfl)⟩) (kx_no rfl) (fun r109 u108 H locs hp107 G => ?_)
          obtain ⟨rfl, eu108⟩ := hp107
          rw [eu108] at G
          refine lv_iload hx hb dL_law_525 (lv_at hl 1 rfl) ?_
          refine lv_icmp_eq (tgt := 532) hx hb dL_law_527 (by decide) (fun _ => ?_) (fun c110 => absurd (by decide) c110)
          refine lv_iload hx hb dL_law_532 (lv_at hl 1 rfl) ?_
          refine lv_if_ne (tgt := 549) hx hb dL_law_534 (by decide) (fun _ => ?_) (fun c111 => absurd c111 (by decide))
          refine lv_goto (tgt := 2164) hx hb dL_law_549 (by decide) ?_
          exact law_tail hfl C9 C0 G (Nat.le_of_ble_eq_true rfl) (Nat.le_of_ble_eq_true rfl) (lv_sub hl [2, 7] rfl)
        · exact absurd hP hP9
set_option maxRecDepth 100000 in
theorem law_case_7 {p : Program} {e : Env} {s : State} {m9 : MethodId} {below : List Frame} {meth : Method} {c : Code} {l : Launch} {b  : Nat} {xs : Nat → Int32} {D : va_G} {cy : Nat → ClassId} {sc m0 al i0 i1 i2 i3 i4 i5 i6 i7 i8 i9 i10 i11 i12 lg ln lst len sv sn sst sen tx bf tn tp r0 r0e r1 r1e m v im kp pa de ide mtx pt so mo wh pf out outD m1 : Nat} {g0 : Nat → Option Nat} {f : Hf} {H : Heap} {locs : List Loc} {ls : Array Slot} (hfl : l.stackTraces = false) (C9 : lw_At p s m9 meth c b 6 xs) (C0 : hC p l s m9 meth c code 9 #[Value.ref b] RL D (hTy cy) (hA f00 s.heap.size)) (hord : sc < m0 ∧ m0 < al ∧ al < i0 ∧ i0 < i1 ∧ i1 < i2 ∧ i2 < i3 ∧ i3 < i4 ∧ i4 < i5 ∧ i5 < i6 ∧ i6 < i7 ∧ i7 < i8 ∧ i8 < i9 ∧ i9 < i10 ∧ i10 < i11 ∧ i11 < i12 ∧ i12 < lg ∧ lg < ln ∧ ln < lst ∧ lst < len ∧ len < sv ∧ sv < sn ∧ sn < sst ∧ sst < sen ∧ sen < tx ∧ tx < bf ∧ bf < tn ∧ tn < tp ∧ tp < r0 ∧ r0 < r0e ∧ r0e < r1 ∧ r1 < r1e ∧ r1e < m ∧ m < v ∧ v < im ∧ im < kp ∧ kp < pa ∧ pa < de ∧ de < ide ∧ ide < mtx ∧ mtx < pt ∧ pt < so ∧ so < mo ∧ mo < wh ∧ wh < pf ∧ pf < out ∧ out < outD) (hg0 : g0 0 = some i0) (G : hG D (hA f00 s.heap.size) f s H locs) (hl : lv_has ls 9 [(0, .ref b), (1, .ref sc), (2, .ref m), (3, .ref out), (4, .ref outD), (5, .int 0)]) (h_sc : f sc = some (.inr (10, [.ref m0, .ref m1, .ref lg, .ref sv, .ref tx, .ref r0, .ref r1, .int (-1), .int (-1), .int 0]))) (h_m0 : f m0 = some (.inr (4, [.ref al, .int 0, .int 0, .int 0, .int 0, .int 0]))) (h_m : f m = some (.inr (11, [.int 0, .int 0, .ref v, .ref im, .ref kp, .ref pa, .ref de, .ref ide, .int 0, .int 0, .ref mtx, .int 0, .int (-1), .int (-1), .ref pt, .int 0, .int 0, .int 0, .ref so, .ref mo, .ref wh, .ref pf]))) (h_v : f v = some (.inl (cy 0, 6441, .inl (fun _ => 0)))) : W p l e room_1 s m9 #[Value.ref b] below meth c H locs 140 156303 (lw_Z below #[Value.ref b] s) (F0 m9 752 ls []) := by
  obtain ⟨oo0, oo1, oo2, oo3, oo4, oo5, oo6, oo7, oo8, oo9, oo10, oo11, oo12, oo13, oo14, oo15, oo16, oo17, oo18, oo19, oo20, oo21, oo22, oo23, oo24, oo25, oo26, oo27, oo28, oo29, oo30, oo31, oo32, oo33, oo34, oo35, oo36, oo37, oo38, oo39, oo40, oo41, oo42, oo43, oo44, oo45⟩ := hord
  obtain ⟨hx, hb, hr, hml, hown, hts, hX, hbl, hlocks, hgv⟩ := id C9
  have hbA : ¬ hA f00 s.heap.size b := fun q => by rcases q with q | q; exact q rfl; omega
  refine lv_aload_n hx hb dL_law_752 rfl (lv_at hl 1 rfl) ?_
  refine lv_aload_n hx hb dL_law_753 rfl (lv_at hl 0 rfl) ?_
  refine lv_iload hx hb dL_law_754 (lv_at hl 5 rfl) ?_
  refine lv_iconst (v := 1) hx hb dL_law_756 (by decide) ?_
  refine lv_iadd hx hb dL_law_757 ?_
  refine lv_topv (v := 1) (by decide) ?_
  refine va_sld hx hb hX hbl hbA G.2 (i := 1) (by unfold vp_in; decide) dL_law_758 ?_
  refine lv_aload_n hx hb dL_law_759 rfl (lv_at hl 3 rfl) ?_
  refine g_cI C0 G (g_runSH C0 G (rest := []) (k_L_loseOvers hfl (xs 1) h_sc h_m0) hYH_L_loseOvers mm_L_154 ms_L_loseOvers ⟨(Nat.le_of_ble_eq_true rfl), (Nat.le_of_ble_eq_true rfl)⟩ rfl hl.1 rfl (Nat.le_of_ble_eq_true rfl) dL_law_760 ⟨(Nat.le_of_ble_eq_true rfl), (Nat.le_of_ble_eq_true rfl)⟩) (kx_no rfl) (fun r1 u2 H locs hp3 G => ?_)
  rcases hp3 with ⟨⟨rfl, hP⟩ | ⟨rfl, hP⟩, fr9⟩
  · refine lv_istore (lv' := [(6, .int 1), (0, .ref b), (1, .ref sc), (2, .ref m), (3, .ref out), (4, .ref outD), (5, .int 0)]) hx hb dL_law_763 hl (by decide) rfl (fun ls hl => ?_)
    refine lv_aload_n hx hb dL_law_765 rfl (lv_at hl 3 rfl) ?_
    refine lv_aload_n hx hb dL_law_766 rfl (lv_at hl 1 rfl) ?_
    refine lv_iload hx hb dL_law_767 (lv_at hl 6 rfl) ?_
    refine lv_iconst (v := 1) hx hb dL_law_769 (by decide) ?_
    refine lv_iadd hx hb dL_law_770 ?_
    refine lv_topv (v := 1) (by decide) ?_
    refine va_sld hx hb hX hbl hbA G.2 (i := 1) (by unfold vp_in; decide) dL_law_771 ?_
    have k4 : u2 m = some (.inr (11, [.int 0, .int 0, .ref v, .ref im, .ref kp, .ref pa, .ref de, .ref ide, .int 0, .int 0, .ref mtx, .int 0, .int (-1), .int (-1), .ref pt, .int 0, .int 0, .int 0, .ref so, .ref mo, .ref wh, .ref pf])) := fr9 _ _ (by omega) h_m
    have k5 : u2 v = some (.inl (cy 0, 6441, .inl (fun _ => 0))) := fr9 _ _ (by omega) h_v
    refine g_cI C0 G (g_runV C0 G (rest := []) (k_X9_loseOvers hfl (xs 1) k4 k5) k4 rfl hY_X9_loseOvers mm_L_156 mi_X9_loseOvers ml_X9_loseOvers ⟨(Nat.le_of_ble_eq_true rfl), (Nat.le_of_ble_eq_true rfl)⟩ rfl hl.1 rfl (Nat.le_of_ble_eq_true rfl) dL_law_772 ⟨(Nat.le_of_ble_eq_true rfl), (Nat.le_of_ble_eq_true rfl)⟩) (kx_no rfl) (fun r8 u7 H locs hp6 G => ?_)
    rcases hp6 with ⟨hP9, hm8⟩ | ⟨hP9, hm8⟩
    · exact absurd hP9 hP
    · obtain ⟨rest9, hm9⟩ := hm8
      refine lv_istore (lv' := [(7, .int r8), (6, .int 1), (0, .ref b), (1, .ref sc), (2, .ref m), (3, .ref out), (4, .ref outD), (5, .int 0)]) hx hb dL_law_775 hl (by decide) rfl (fun ls hl => ?_)
      refine lv_aload_n hx hb dL_law_777 rfl (lv_at hl 4 rfl) ?_
      refine g_cI C0 G (g_runV C0 G (rest := []) (k_X9_thrown hfl hm9) hm9 rfl hY_X9_thrown mm_L_128 mi_X9_thrown ml_X9_thrown ⟨(Nat.le_of_ble_eq_true rfl), (Nat.le_of_ble_eq_true rfl)⟩ rfl hl.1 rfl (Nat.le_of_ble_eq_true rfl) dL_law_778 ⟨(Nat.le_of_ble_eq_true rfl), (Nat.le_of_ble_eq_true rfl)⟩) (kx_no rfl) (fun r11 u10 H locs hp9 G => ?_)
      obtain ⟨rfl, eu10⟩ := hp9
      rw [eu10] at G
      refine lv_iload hx hb dL_law_781 (lv_at hl 1 rfl) ?_
      refine lv_icmp_eq (tgt := 788) hx hb dL_law_783 (by decide) (fun _ => ?_) (fun c12 => absurd (by decide) c12)
      refine lv_iload hx hb dL_law_788 (lv_at hl 1 rfl) ?_
      refine lv_if_ne (tgt := 805) hx hb dL_law_790 (by decide) (fun _ => ?_) (fun c13 => absurd c13 (by decide))
      refine lv_goto (tgt := 2164) hx hb dL_law_805 (by decide) ?_
      exact law_tail hfl C9 C0 G (Nat.le_of_ble_eq_true rfl) (Nat.le_of_ble_eq_true rfl) (lv_sub hl [2, 7] rfl)
  · refine lv_istore (lv' := [(6, .int 2), (0, .ref b), (1, .ref sc), (2, .ref m), (3, .ref out), (4, .ref outD), (5, .int 0)]) hx hb dL_law_763 hl (by decide) rfl (fun ls hl => ?_)
    refine lv_aload_n hx hb dL_law_765 rfl (lv_at hl 3 rfl) ?_
    refine lv_aload_n hx hb dL_law_766 rfl (lv_at hl 1 rfl) ?_
    refine lv_iload hx hb dL_law_767 (lv_at hl 6 rfl) ?_
    refine lv_iconst (v := 1) hx hb dL_law_769 (by decide) ?_
    refine lv_iadd hx hb dL_law_770 ?_
    refine lv_topv (v := 1) (by decide) ?_
    refine va_sld hx hb hX hbl hbA G.2 (i := 1) (by unfold vp_in; decide) dL_law_771 ?_
    have k14 : u2 m = some (.inr (11, [.int 0, .int 0, .ref v, .ref im, .ref kp, .ref pa, .ref de, .ref ide, .int 0, .int 0, .ref mtx, .int 0, .int (-1), .int (-1), .ref pt, .int 0, .int 0, .int 0, .ref so, .ref mo, .ref wh, .ref pf])) := fr9 _ _ (by omega) h_m
    have k15 : u2 v = some (.inl (cy 0, 6441, .inl (fun _ => 0))) := fr9 _ _ (by omega) h_v
    refine g_cI C0 G (g_runV C0 G (rest := []) (k_X9_loseOvers hfl (xs 1) k14 k15) k14 rfl hY_X9_loseOvers mm_L_156 mi_X9_loseOvers ml_X9_loseOvers ⟨(Nat.le_of_ble_eq_true rfl), (Nat.le_of_ble_eq_true rfl)⟩ rfl hl.1 rfl (Nat.le_of_ble_eq_true rfl) dL_law_772 ⟨(Nat.le_of_ble_eq_true rfl), (Nat.le_of_ble_eq_true rfl)⟩) (kx_no rfl) (fun r18 u17 H locs hp16 G => ?_)
    rcases hp16 with ⟨hP9, hm8⟩ | ⟨hP9, hm8⟩
    · obtain ⟨rest9, hm9⟩ := hm8
      refine lv_istore (lv' := [(7, .int r18), (6, .int 2), (0, .ref b), (1, .ref sc), (2, .ref m), (3, .ref out), (4, .ref outD), (5, .int 0)]) hx hb dL_law_775 hl (by decide) rfl (fun ls hl => ?_)
      refine lv_aload_n hx hb dL_law_777 rfl (lv_at hl 4 rfl) ?_
      refine g_cI C0 G (g_runV C0 G (rest := []) (k_X9_thrown hfl hm9) hm9 rfl hY_X9_thrown mm_L_128 mi_X9_thrown ml_X9_thrown ⟨(Nat.le_of_ble_eq_true rfl), (Nat.le_of_ble_eq_true rfl)⟩ rfl hl.1 rfl (Nat.le_of_ble_eq_true rfl) dL_law_778 ⟨(Nat.le_of_ble_eq_true rfl), (Nat.le_of_ble_eq_true rfl)⟩) (kx_no rfl) (fun r21 u20 H locs hp19 G => ?_)
      obtain ⟨rfl, eu20⟩ := hp19
      rw [eu20] at G
      refine lv_iload hx hb dL_law_781 (lv_at hl 1 rfl) ?_
      refine lv_icmp_eq (tgt := 788) hx hb dL_law_783 (by decide) (fun _ => ?_) (fun c22 => absurd (by decide) c22)
      refine lv_iload hx hb dL_law_788 (lv_at hl 1 rfl) ?_
      refine lv_if_ne (tgt := 805) hx hb dL_law_790 (by decide) (fun _ => ?_) (fun c23 => absurd c23 (by decide))
      refine lv_goto (tgt := 2164) hx hb dL_law_805 (by decide) ?_
      exact law_tail hfl C9 C0 G (Nat.le_of_ble_eq_true rfl) (Nat.le_of_ble_eq_true rfl) (lv_sub hl [2, 7] rfl)
    · exact absurd hP hP9
set_option maxRecDepth 100000 in
theorem law_case_11 {p : Program} {e : Env} {s : State} {m9 : MethodId} {below : List Frame} {meth : Method} {c : Code} {l : Launch} {b  : Nat} {xs : Nat → Int32} {D : va_G} {cy : Nat → ClassId} {sc m0 al i0 i1 i2 i3 i4 i5 i6 i7 i8 i9 i10 i11 i12 lg ln lst len sv sn sst sen tx bf tn tp r0 r0e r1 r1e m v im kp pa de ide mtx pt so mo wh pf out outD m1 : Nat} {g0 : Nat → Option Nat} {f : Hf} {H : Heap} {locs : List Loc} {ls : Array Slot} (hfl : l.stackTraces = false) (C9 : lw_At p s m9 meth c b 6 xs) (C0 : hC p l s m9 meth c code 9 #[Value.ref b] RL D (hTy cy) (hA f00 s.heap.size)) (hord : sc < m0 ∧ m0 < al ∧ al < i0 ∧ i0 < i1 ∧ i1 < i2 ∧ i2 < i3 ∧ i3 < i4 ∧ i4 < i5 ∧ i5 < i6 ∧ i6 < i7 ∧ i7 < i8 ∧ i8 < i9 ∧ i9 < i10 ∧ i10 < i11 ∧ i11 < i12 ∧ i12 < lg ∧ lg < ln ∧ ln < lst ∧ lst < len ∧ len < sv ∧ sv < sn ∧ sn < sst ∧ sst < sen ∧ sen < tx ∧ tx < bf ∧ bf < tn ∧ tn < tp ∧ tp < r0 ∧ r0 < r0e ∧ r0e < r1 ∧ r1 < r1e ∧ r1e < m ∧ m < v ∧ v < im ∧ im < kp ∧ kp < pa ∧ pa < de ∧ de < ide ∧ ide < mtx ∧ mtx < pt ∧ pt < so ∧ so < mo ∧ mo < wh ∧ wh < pf ∧ pf < out ∧ out < outD) (hg0 : g0 0 = some i0) (G : hG D (hA f00 s.heap.size) f s H locs) (hl : lv_has ls 9 [(0, .ref b), (1, .ref sc), (2, .ref m), (3, .ref out), (4, .ref outD), (5, .int 0)]) (h_sc : f sc = some (.inr (10, [.ref m0, .ref m1, .ref lg, .ref sv, .ref tx, .ref r0, .ref r1, .int (-1), .int (-1), .int 0]))) (h_m : f m = some (.inr (11, [.int 0, .int 0, .ref v, .ref im, .ref kp, .ref pa, .ref de, .ref ide, .int 0, .int 0, .ref mtx, .int 0, .int (-1), .int (-1), .ref pt, .int 0, .int 0, .int 0, .ref so, .ref mo, .ref wh, .ref pf]))) : W p l e room_1 s m9 #[Value.ref b] below meth c H locs 140 156303 (lw_Z below #[Value.ref b] s) (F0 m9 954 ls []) := by
  obtain ⟨oo0, oo1, oo2, oo3, oo4, oo5, oo6, oo7, oo8, oo9, oo10, oo11, oo12, oo13, oo14, oo15, oo16, oo17, oo18, oo19, oo20, oo21, oo22, oo23, oo24, oo25, oo26, oo27, oo28, oo29, oo30, oo31, oo32, oo33, oo34, oo35, oo36, oo37, oo38, oo39, oo40, oo41, oo42, oo43, oo44, oo45⟩ := hord
  obtain ⟨hx, hb, hr, hml, hown, hts, hX, hbl, hlocks, hgv⟩ := id C9
  have hbA : ¬ hA f00 s.heap.size b := fun q => by rcases q with q | q; exact q rfl; omega
  refine lv_aload_n hx hb dL_law_954 rfl (lv_at hl 1 rfl) ?_
  refine lv_aload_n hx hb dL_law_955 rfl (lv_at hl 3 rfl) ?_
  refine g_cI C0 G (g_runSH C0 G (rest := []) (k_L_refused hfl h_sc) hYH_L_refused mm_L_167 ms_L_refused ⟨(Nat.le_of_ble_eq_true rfl), (Nat.le_of_ble_eq_true rfl)⟩ rfl hl.1 rfl (Nat.le_of_ble_eq_true rfl) dL_law_956 ⟨(Nat.le_of_ble_eq_true rfl), (Nat.le_of_ble_eq_true rfl)⟩) (kx_no rfl) (fun r1 u2 H locs hp3 G => ?_)
  obtain ⟨rfl, fr9⟩ := hp3
  refine lv_istore (lv' := [(6, .int 1), (0, .ref b), (1, .ref sc), (2, .ref m), (3, .ref out), (4, .ref outD), (5, .int 0)]) hx hb dL_law_959 hl (by decide) rfl (fun ls hl => ?_)
  refine lv_aload_n hx hb dL_law_961 rfl (lv_at hl 3 rfl) ?_
  have k4 : u2 m = some (.inr (11, [.int 0, .int 0, .ref v, .ref im, .ref kp, .ref pa, .ref de, .ref ide, .int 0, .int 0, .ref mtx, .int 0, .int (-1), .int (-1), .ref pt, .int 0, .int 0, .int 0, .ref so, .ref mo, .ref wh, .ref pf])) := fr9 _ _ (by omega) h_m
  refine g_cI C0 G (g_runV C0 G (rest := []) (k_X9_refused hfl k4) k4 rfl hY_X9_refused mm_L_169 mi_X9_refused ml_X9_refused ⟨(Nat.le_of_ble_eq_true rfl), (Nat.le_of_ble_eq_true rfl)⟩ rfl hl.1 rfl (Nat.le_of_ble_eq_true rfl) dL_law_962 ⟨(Nat.le_of_ble_eq_true rfl), (Nat.le_of_ble_eq_true rfl)⟩) (kx_no rfl) (fun r7 u6 H locs hp5 G => ?_)
  obtain ⟨rest9, hm9⟩ := hp5
  refine lv_istore (lv' := [(7, .int r7), (6, .int 1), (0, .ref b), (1, .ref sc), (2, .ref m), (3, .ref out), (4, .ref outD), (5, .int 0)]) hx hb dL_law_965 hl (by decide) rfl (fun ls hl => ?_)
  refine lv_aload_n hx hb dL_law_967 rfl (lv_at hl 4 rfl) ?_
  refine g_cI C0 G (g_runV C0 G (rest := []) (k_X9_thrown hfl hm9) hm9 rfl hY_X9_thrown mm_L_128 mi_X9_thrown ml_X9_thrown ⟨(Nat.le_of_ble_eq_true rfl), (Nat.le_of_ble_eq_true rfl)⟩ rfl hl.1 rfl (Nat.le_of_ble_eq_true rfl) dL_law_968 ⟨(Nat.le_of_ble_eq_true rfl), (Nat.le_of_ble_eq_true rfl)⟩) (kx_no rfl) (fun r10 u9 H locs hp8 G => ?_)
  obtain ⟨rfl, eu9⟩ := hp8
  rw [eu9] at G
  refine lv_iload hx hb dL_law_971 (lv_at hl 1 rfl) ?_
  refine lv_icmp_eq (tgt := 978) hx hb dL_law_973 (by decide) (fun _ => ?_) (fun c11 => absurd (by decide) c11)
  refine lv_iload hx hb dL_law_978 (lv_at hl 1 rfl) ?_
  refine lv_if_ne (tgt := 995) hx hb dL_law_980 (by decide) (fun _ => ?_) (fun c12 => absurd c12 (by decide))
  refine lv_goto (tgt := 2164) hx hb dL_law_995 (by decide) ?_
  exact law_tail hfl C9 C0 G (Nat.le_of_ble_eq_true rfl) (Nat.le_of_ble_eq_true rfl) (lv_sub hl [2, 7] rfl)
set_option maxRecDepth 100000 in
theorem law_case_15 {p : Program} {e : Env} {s : State} {m9 : MethodId} {below : List Frame} {meth : Method} {c : Code} {l : Launch} {b  : Nat} {xs : Nat → Int32} {D : va_G} {cy : Nat → ClassId} {sc m0 al i0 i1 i2 i3 i4 i5 i6 i7 i8 i9 i10 i11 i12 lg ln lst len sv sn sst sen tx bf tn tp r0 r0e r1 r1e m v im kp pa de ide mtx pt so mo wh pf out outD m1 : Nat} {g0 : Nat → Option Nat} {f : Hf} {H : Heap} {locs : List Loc} {ls : Array Slot} (hfl : l.stackTraces = false) (C9 : lw_At p s m9 meth c b 6 xs) (C0 : hC p l s m9 meth c code 9 #[Value.ref b] RL D (hTy cy) (hA f00 s.heap.size)) (hord : sc < m0 ∧ m0 < al ∧ al < i0 ∧ i0 < i1 ∧ i1 < i2 ∧ i2 < i3 ∧ i3 < i4 ∧ i4 < i5 ∧ i5 < i6 ∧ i6 < i7 ∧ i7 < i8 ∧ i8 < i9 ∧ i9 < i10 ∧ i10 < i11 ∧ i11 < i12 ∧ i12 < lg ∧ lg < ln ∧ ln < lst ∧ lst < len ∧ len < sv ∧ sv < sn ∧ sn < sst ∧ sst < sen ∧ sen < tx ∧ tx < bf ∧ bf < tn ∧ tn < tp ∧ tp < r0 ∧ r0 < r0e ∧ r0e < r1 ∧ r1 < r1e ∧ r1e < m ∧ m < v ∧ v < im ∧ im < kp ∧ kp < pa ∧ pa < de ∧ de < ide ∧ ide < mtx ∧ mtx < pt ∧ pt < so ∧ so < mo ∧ mo < wh ∧ wh < pf ∧ pf < out ∧ out < outD) (hg0 : g0 0 = some i0) (G : hG D (hA f00 s.heap.size) f s H locs) (hl : lv_has ls 9 [(0, .ref b), (1, .ref sc), (2, .ref m), (3, .ref out), (4, .ref outD), (5, .int 0)]) (h_sc : f sc = some (.inr (10, [.ref m0, .ref m1, .ref lg, .ref sv, .ref tx, .ref r0, .ref r1, .int (-1), .int (-1), .int 0]))) (h_m0 : f m0 = some (.inr (4, [.ref al, .int 0, .int 0, .int 0, .int 0, .int 0]))) (h_m : f m = some (.inr (11, [.int 0, .int 0, .ref v, .ref im, .ref kp, .ref pa, .ref de, .ref ide, .int 0, .int 0, .ref mtx, .int 0, .int (-1), .int (-1), .ref pt, .int 0, .int 0, .int 0, .ref so, .ref mo, .ref wh, .ref pf]))) (h_v : f v = some (.inl (cy 0, 6441, .inl (fun _ => 0)))) : W p l e room_1 s m9 #[Value.ref b] below meth c H locs 140 156303 (lw_Z below #[Value.ref b] s) (F0 m9 1202 ls []) := by
  obtain ⟨oo0, oo1, oo2, oo3, oo4, oo5, oo6, oo7, oo8, oo9, oo10, oo11, oo12, oo13, oo14, oo15, oo16, oo17, oo18, oo19, oo20, oo21, oo22, oo23, oo24, oo25, oo26, oo27, oo28, oo29, oo30, oo31, oo32, oo33, oo34, oo35, oo36, oo37, oo38, oo39, oo40, oo41, oo42, oo43, oo44, oo45⟩ := hord
  obtain ⟨hx, hb, hr, hml, hown, hts, hX, hbl, hlocks, hgv⟩ := id C9
  have hbA : ¬ hA f00 s.heap.size b := fun q => by rcases q with q | q; exact q rfl; omega
  refine lv_aload_n hx hb dL_law_1202 rfl (lv_at hl 1 rfl) ?_
  refine lv_aload_n hx hb dL_law_1203 rfl (lv_at hl 0 rfl) ?_
  refine lv_iload hx hb dL_law_1204 (lv_at hl 5 rfl) ?_
  refine lv_iconst (v := 1) hx hb dL_law_1206 (by decide) ?_
  refine lv_iadd hx hb dL_law_1207 ?_
  refine lv_topv (v := 1) (by decide) ?_
  refine va_sld hx hb hX hbl hbA G.2 (i := 1) (by unfold vp_in; decide) dL_law_1208 ?_
  refine lv_aload_n hx hb dL_law_1209 rfl (lv_at hl 0 rfl) ?_
  refine lv_iload hx hb dL_law_1210 (lv_at hl 5 rfl) ?_
  refine lv_iconst (v := 2) hx hb dL_law_1212 (by decide) ?_
  refine lv_iadd hx hb dL_law_1213 ?_
  refine lv_topv (v := 2) (by decide) ?_
  refine va_sld hx hb hX hbl hbA G.2 (i := 2) (by unfold vp_in; decide) dL_law_1214 ?_
  refine lv_aload_n hx hb dL_law_1215 rfl (lv_at hl 0 rfl) ?_
  refine lv_iload hx hb dL_law_1216 (lv_at hl 5 rfl) ?_
  refine lv_iconst (v := 3) hx hb dL_law_1218 (by decide) ?_
  refine lv_iadd hx hb dL_law_1219 ?_
  refine lv_topv (v := 3) (by decide) ?_
  refine va_sld hx hb hX hbl hbA G.2 (i := 3) (by unfold vp_in; decide) dL_law_1220 ?_
  refine lv_aload_n hx hb dL_law_1221 rfl (lv_at hl 3 rfl) ?_
  refine g_cI C0 G (g_runSH C0 G (rest := []) (k_L_bowler hfl (xs 1) (xs 2) (xs 3) h_sc h_m0) hYH_L_bowler mm_L_180 ms_L_bowler ⟨(Nat.le_of_ble_eq_true rfl), (Nat.le_of_ble_eq_true rfl)⟩ rfl hl.1 rfl (Nat.le_of_ble_eq_true rfl) dL_law_1222 ⟨(Nat.le_of_ble_eq_true rfl), (Nat.le_of_ble_eq_true rfl)⟩) (kx_no rfl) (fun r1 u2 H locs hp3 G => ?_)
  obtain ⟨rfl, fr9⟩ := hp3
  refine lv_istore (lv' := [(6, .int 1), (0, .ref b), (1, .ref sc), (2, .ref m), (3, .ref out), (4, .ref outD), (5, .int 0)]) hx hb dL_law_1225 hl (by decide) rfl (fun ls hl => ?_)
  refine lv_aload_n hx hb dL_law_1227 rfl (lv_at hl 3 rfl) ?_
  refine lv_aload_n hx hb dL_law_1228 rfl (lv_at hl 1 rfl) ?_
  refine lv_iload hx hb dL_law_1229 (lv_at hl 6 rfl) ?_
  refine lv_iconst (v := 1) hx hb dL_law_1231 (by decide) ?_
  refine lv_iadd hx hb dL_law_1232 ?_
  refine lv_topv (v := 1) (by decide) ?_
  refine va_sld hx hb hX hbl hbA G.2 (i := 1) (by unfold vp_in; decide) dL_law_1233 ?_
  refine lv_aload_n hx hb dL_law_1234 rfl (lv_at hl 1 rfl) ?_
  refine lv_iload hx hb dL_law_1235 (lv_at hl 6 rfl) ?_
  refine lv_iconst (v := 2) hx hb dL_law_1237 (by decide) ?_
  refine lv_iadd hx hb dL_law_1238 ?_
  refine lv_topv (v := 2) (by decide) ?_
  refine va_sld hx hb hX hbl hbA G.2 (i := 2) (by unfold vp_in; decide) dL_law_1239 ?_
  refine lv_aload_n hx hb dL_law_1240 rfl (lv_at hl 1 rfl) ?_
  refine lv_iload hx hb dL_law_1241 (lv_at hl 6 rfl) ?_
  refine lv_iconst (v := 3) hx hb dL_law_1243 (by decide) ?_
  refine lv_iadd hx hb dL_law_1244 ?_
  refine lv_topv (v := 3) (by decide) ?_
  refine va_sld hx hb hX hbl hbA G.2 (i := 3) (by unfold vp_in; decide) dL_law_1245 ?_
  have k4 : u2 m = some (.inr (11, [.int 0, .int 0, .ref v, .ref im, .ref kp, .ref pa, .ref de, .ref ide, .int 0, .int 0, .ref mtx, .int 0, .int (-1), .int (-1), .ref pt, .int 0, .int 0, .int 0, .ref so, .ref mo, .ref wh, .ref pf])) := fr9 _ _ (by omega) h_m
  have k5 : u2 v = some (.inl (cy 0, 6441, .inl (fun _ => 0))) := fr9 _ _ (by omega) h_v
  refine g_cI C0 G (g_runV C0 G (rest := []) (k_X9_bowler hfl (xs 1) (xs 2) (xs 3) k4 k5) k4 rfl hY_X9_bowler mm_L_182 mi_X9_bowler ml_X9_bowler ⟨(Nat.le_of_ble_eq_true rfl), (Nat.le_of_ble_eq_true rfl)⟩ rfl hl.1 rfl (Nat.le_of_ble_eq_true rfl) dL_law_1246 ⟨(Nat.le_of_ble_eq_true rfl), (Nat.le_of_ble_eq_true rfl)⟩) (kx_no rfl) (fun r8 u7 H locs hp6 G => ?_)
  obtain ⟨rest9, hm9⟩ := hp6
  refine lv_istore (lv' := [(7, .int r8), (6, .int 1), (0, .ref b), (1, .ref sc), (2, .ref m), (3, .ref out), (4, .ref outD), (5, .int 0)]) hx hb dL_law_1249 hl (by decide) rfl (fun ls hl => ?_)
  refine lv_aload_n hx hb dL_law_1251 rfl (lv_at hl 4 rfl) ?_
  refine g_cI C0 G (g_runV C0 G (rest := []) (k_X9_thrown hfl hm9) hm9 rfl hY_X9_thrown mm_L_128 mi_X9_thrown ml_X9_thrown ⟨(Nat.le_of_ble_eq_true rfl), (Nat.le_of_ble_eq_true rfl)⟩ rfl hl.1 rfl (Nat.le_of_ble_eq_true rfl) dL_law_1252 ⟨(Nat.le_of_ble_eq_true rfl), (Nat.le_of_ble_eq_true rfl)⟩) (kx_no rfl) (fun r11 u10 H locs hp9 G => ?_)
  obtain ⟨rfl, eu10⟩ := hp9
  rw [eu10] at G
  refine lv_iload hx hb dL_law_1255 (lv_at hl 1 rfl) ?_
  refine lv_icmp_eq (tgt := 1262) hx hb dL_law_1257 (by decide) (fun _ => ?_) (fun c12 => absurd (by decide) c12)
  refine lv_iload hx hb dL_law_1262 (lv_at hl 1 rfl) ?_
  refine lv_if_ne (tgt := 1279) hx hb dL_law_1264 (by decide) (fun _ => ?_) (fun c13 => absurd c13 (by decide))
  refine lv_goto (tgt := 2164) hx hb dL_law_1279 (by decide) ?_
  exact law_tail hfl C9 C0 G (Nat.le_of_ble_eq_true rfl) (Nat.le_of_ble_eq_true rfl) (lv_sub hl [2, 7] rfl)
set_option maxRecDepth 100000 in
theorem law_case_19 {p : Program} {e : Env} {s : State} {m9 : MethodId} {below : List Frame} {meth : Method} {c : Code} {l : Launch} {b  : Nat} {xs : Nat → Int32} {D : va_G} {cy : Nat → ClassId} {sc m0 al i0 i1 i2 i3 i4 i5 i6 i7 i8 i9 i10 i11 i12 lg ln lst len sv sn sst sen tx bf tn tp r0 r0e r1 r1e m v im kp pa de ide mtx pt so mo wh pf out outD m1 : Nat} {g0 : Nat → Option Nat} {f : Hf} {H : Heap} {locs : List Loc} {ls : Array Slot} (hfl : l.stackTraces = false) (C9 : lw_At p s m9 meth c b 6 xs) (C0 : hC p l s m9 meth c code 9 #[Value.ref b] RL D (hTy cy) (hA f00 s.heap.size)) (hord : sc < m0 ∧ m0 < al ∧ al < i0 ∧ i0 < i1 ∧ i1 < i2 ∧ i2 < i3 ∧ i3 < i4 ∧ i4 < i5 ∧ i5 < i6 ∧ i6 < i7 ∧ i7 < i8 ∧ i8 < i9 ∧ i9 < i10 ∧ i10 < i11 ∧ i11 < i12 ∧ i12 < lg ∧ lg < ln ∧ ln < lst ∧ lst < len ∧ len < sv ∧ sv < sn ∧ sn < sst ∧ sst < sen ∧ sen < tx ∧ tx < bf ∧ bf < tn ∧ tn < tp ∧ tp < r0 ∧ r0 < r0e ∧ r0e < r1 ∧ r1 < r1e ∧ r1e < m ∧ m < v ∧ v < im ∧ im < kp ∧ kp < pa ∧ pa < de ∧ de < ide ∧ ide < mtx ∧ mtx < pt ∧ pt < so ∧ so < mo ∧ mo < wh ∧ wh < pf ∧ pf < out ∧ out < outD) (hg0 : g0 0 = some i0) (G : hG D (hA f00 s.heap.size) f s H locs) (hl : lv_has ls 9 [(0, .ref b), (1, .ref sc), (2, .ref m), (3, .ref out), (4, .ref outD), (5, .int 0)]) (h_sc : f sc = some (.inr (10, [.ref m0, .ref m1, .ref lg, .ref sv, .ref tx, .ref r0, .ref r1, .int (-1), .int (-1), .int 0]))) (h_m0 : f m0 = some (.inr (4, [.ref al, .int 0, .int 0, .int 0, .int 0, .int 0]))) (h_m : f m = some (.inr (11, [.int 0, .int 0, .ref v, .ref im, .ref kp, .ref pa, .ref de, .ref ide, .int 0, .int 0, .ref mtx, .int 0, .int (-1), .int (-1), .ref pt, .int 0, .int 0, .int 0, .ref so, .ref mo, .ref wh, .ref pf]))) (h_v : f v = some (.inl (cy 0, 6441, .inl (fun _ => 0)))) : W p l e room_1 s m9 #[Value.ref b] below meth c H locs 140 156303 (lw_Z below #[Value.ref b] s) (F0 m9 1514 ls []) := by
  obtain ⟨oo0, oo1, oo2, oo3, oo4, oo5, oo6, oo7, oo8, oo9, oo10, oo11, oo12, oo13, oo14, oo15, oo16, oo17, oo18, oo19, oo20, oo21, oo22, oo23, oo24, oo25, oo26, oo27, oo28, oo29, oo30, oo31, oo32, oo33, oo34, oo35, oo36, oo37, oo38, oo39, oo40, oo41, oo42, oo43, oo44, oo45⟩ := hord
  obtain ⟨hx, hb, hr, hml, hown, hts, hX, hbl, hlocks, hgv⟩ := id C9
  have hbA : ¬ hA f00 s.heap.size b := fun q => by rcases q with q | q; exact q rfl; omega
  refine lv_aload_n hx hb dL_law_1514 rfl (lv_at hl 1 rfl) ?_
  refine g_cI C0 G (g_runV C0 G (rest := []) (k_X8_result hfl h_sc h_m0) h_sc rfl hY_X8_result mm_L_193 mi_X8_result ml_X8_result ⟨(Nat.le_of_ble_eq_true rfl), (Nat.le_of_ble_eq_true rfl)⟩ rfl hl.1 rfl (Nat.le_of_ble_eq_true rfl) dL_law_1515 ⟨(Nat.le_of_ble_eq_true rfl), (Nat.le_of_ble_eq_true rfl)⟩) (kx_no rfl) (fun r3 u2 H locs hp1 G => ?_)
  obtain ⟨rfl, eu2⟩ := hp1
  rw [eu2] at G
  refine lv_aload_n hx hb dL_law_1518 rfl (lv_at hl 2 rfl) ?_
  refine g_cI C0 G (g_runV C0 G (rest := [.int 0]) (k_X9_result hfl h_m h_v) h_m rfl hY_X9_result mm_L_196 mi_X9_result ml_X9_result ⟨(Nat.le_of_ble_eq_true rfl), (Nat.le_of_ble_eq_true rfl)⟩ rfl hl.1 rfl (Nat.le_of_ble_eq_true rfl) dL_law_1519 ⟨(Nat.le_of_ble_eq_true rfl), (Nat.le_of_ble_eq_true rfl)⟩) (kx_no rfl) (fun r6 u5 H locs hp4 G => ?_)
  obtain ⟨rfl, -⟩ := hp4
  refine lv_icmp_eq (tgt := 2164) hx hb dL_law_1522 (by decide) (fun _ => ?_) (fun c7 => absurd (by decide) c7)
  exact law_tail hfl C9 C0 G (Nat.le_of_ble_eq_true rfl) (Nat.le_of_ble_eq_true rfl) (lv_sub hl [0, 5] rfl)
set_option maxRecDepth 100000 in
theorem law_case_23 {p : Program} {e : Env} {s : State} {m9 : MethodId} {below : List Frame} {meth : Method} {c : Code} {l : Launch} {b  : Nat} {xs : Nat → Int32} {D : va_G} {cy : Nat → ClassId} {sc m0 al i0 i1 i2 i3 i4 i5 i6 i7 i8 i9 i10 i11 i12 lg ln lst len sv sn sst sen tx bf tn tp r0 r0e r1 r1e m v im kp pa de ide mtx pt so mo wh pf out outD m1 : Nat} {g0 : Nat → Option Nat} {f : Hf} {H : Heap} {locs : List Loc} {ls : Array Slot} (hfl : l.stackTraces = false) (C9 : lw_At p s m9 meth c b 6 xs) (C0 : hC p l s m9 meth c code 9 #[Value.ref b] RL D (hTy cy) (hA f00 s.heap.size)) (hord : sc < m0 ∧ m0 < al ∧ al < i0 ∧ i0 < i1 ∧ i1 < i2 ∧ i2 < i3 ∧ i3 < i4 ∧ i4 < i5 ∧ i5 < i6 ∧ i6 < i7 ∧ i7 < i8 ∧ i8 < i9 ∧ i9 < i10 ∧ i10 < i11 ∧ i11 < i12 ∧ i12 < lg ∧ lg < ln ∧ ln < lst ∧ lst < len ∧ len < sv ∧ sv < sn ∧ sn < sst ∧ sst < sen ∧ sen < tx ∧ tx < bf ∧ bf < tn ∧ tn < tp ∧ tp < r0 ∧ r0 < r0e ∧ r0e < r1 ∧ r1 < r1e ∧ r1e < m ∧ m < v ∧ v < im ∧ im < kp ∧ kp < pa ∧ pa < de ∧ de < ide ∧ ide < mtx ∧ mtx < pt ∧ pt < so ∧ so < mo ∧ mo < wh ∧ wh < pf ∧ pf < out ∧ out < outD) (hg0 : g0 0 = some i0) (G : hG D (hA f00 s.heap.size) f s H locs) (hl : lv_has ls 9 [(0, .ref b), (1, .ref sc), (2, .ref m), (3, .ref out), (4, .ref outD), (5, .int 0)]) (h_sc : f sc = some (.inr (10, [.ref m0, .ref m1, .ref lg, .ref sv, .ref tx, .ref r0, .ref r1, .int (-1), .int (-1), .int 0]))) (h_r0 : f r0 = some (.inr (6, [.ref r0e, .int 0, .int 0, .int 0]))) (h_r1 : f r1 = some (.inr (6, [.ref r1e, .int 0, .int 0, .int 0]))) (h_m : f m = some (.inr (11, [.int 0, .int 0, .ref v, .ref im, .ref kp, .ref pa, .ref de, .ref ide, .int 0, .int 0, .ref mtx, .int 0, .int (-1), .int (-1), .ref pt, .int 0, .int 0, .int 0, .ref so, .ref mo, .ref wh, .ref pf]))) (h_so : f so = some (.inl (cy 0, 2, .inl (fun _ => 0)))) (h_mo : f mo = some (.inl (cy 0, 2, .inl (fun _ => 0)))) : W p l e room_1 s m9 #[Value.ref b] below meth c H locs 140 156303 (lw_Z below #[Value.ref b] s) (F0 m9 1790 ls []) := by
  obtain ⟨oo0, oo1, oo2, oo3, oo4, oo5, oo6, oo7, oo8, oo9, oo10, oo11, oo12, oo13, oo14, oo15, oo16, oo17, oo18, oo19, oo20, oo21, oo22, oo23, oo24, oo25, oo26, oo27, oo28, oo29, oo30, oo31, oo32, oo33, oo34, oo35, oo36, oo37, oo38, oo39, oo40, oo41, oo42, oo43, oo44, oo45⟩ := hord
  obtain ⟨hx, hb, hr, hml, hown, hts, hX, hbl, hlocks, hgv⟩ := id C9
  have hbA : ¬ hA f00 s.heap.size b := fun q => by rcases q with q | q; exact q rfl; omega
  refine lv_aload_n hx hb dL_law_1790 rfl (lv_at hl 1 rfl) ?_
  refine lv_aload_n hx hb dL_law_1791 rfl (lv_at hl 0 rfl) ?_
  refine lv_iload hx hb dL_law_1792 (lv_at hl 5 rfl) ?_
  refine lv_iconst (v := 1) hx hb dL_law_1794 (by decide) ?_
  refine lv_iadd hx hb dL_law_1795 ?_
  refine lv_topv (v := 1) (by decide) ?_
  refine va_sld hx hb hX hbl hbA G.2 (i := 1) (by unfold vp_in; decide) dL_law_1796 ?_
  refine lv_aload_n hx hb dL_law_1797 rfl (lv_at hl 0 rfl) ?_
  refine lv_iload hx hb dL_law_1798 (lv_at hl 5 rfl) ?_
  refine lv_iconst (v := 2) hx hb dL_law_1800 (by decide) ?_
  refine lv_iadd hx hb dL_law_1801 ?_
  refine lv_topv (v := 2) (by decide) ?_
  refine va_sld hx hb hX hbl hbA G.2 (i := 2) (by unfold vp_in; decide) dL_law_1802 ?_
  refine lv_aload_n hx hb dL_law_1803 rfl (lv_at hl 3 rfl) ?_
  refine g_cI C0 G (g_runSH C0 G (rest := []) (k_L_copyOvers hfl (xs 1) (xs 2) h_sc h_r0 h_r1) hYH_L_copyOvers mm_L_208 ms_L_copyOvers ⟨(Nat.le_of_ble_eq_true rfl), (Nat.le_of_ble_eq_true rfl)⟩ rfl hl.1 rfl (Nat.le_of_ble_eq_true rfl) dL_law_1804 ⟨(Nat.le_of_ble_eq_true rfl), (Nat.le_of_ble_eq_true rfl)⟩) (kx_no rfl) (fun r1 u2 H locs hp3 G => ?_)
  rcases hp3 with ⟨⟨rfl, hP⟩ | ⟨rfl, hP⟩, fr9⟩
  · refine lv_istore (lv' := [(6, .int 1), (0, .ref b), (1, .ref sc), (2, .ref m), (3, .ref out), (4, .ref outD), (5, .int 0)]) hx hb dL_law_1807 hl (by decide) rfl (fun ls hl => ?_)
    refine lv_aload_n hx hb dL_law_1809 rfl (lv_at hl 3 rfl) ?_
    refine lv_aload_n hx hb dL_law_1810 rfl (lv_at hl 1 rfl) ?_
    refine lv_iload hx hb dL_law_1811 (lv_at hl 6 rfl) ?_
    refine lv_iconst (v := 1) hx hb dL_law_1813 (by decide) ?_
    refine lv_iadd hx hb dL_law_1814 ?_
    refine lv_topv (v := 1) (by decide) ?_
    refine va_sld hx hb hX hbl hbA G.2 (i := 1) (by unfold vp_in; decide) dL_law_1815 ?_
    refine lv_aload_n hx hb dL_law_1816 rfl (lv_at hl 1 rfl) ?_
    refine lv_iload hx hb dL_law_1817 (lv_at hl 6 rfl) ?_
    refine lv_iconst (v := 2) hx hb dL_law_1819 (by decide) ?_
    refine lv_iadd hx hb dL_law_1820 ?_
    refine lv_topv (v := 2) (by decide) ?_
    refine va_sld hx hb hX hbl hbA G.2 (i := 2) (by unfold vp_in; decide) dL_law_1821 ?_
    have k4 : u2 m = some (.inr (11, [.int 0, .int 0, .ref v, .ref im, .ref kp, .ref pa, .ref de, .ref ide, .int 0, .int 0, .ref mtx, .int 0, .int (-1), .int (-1), .ref pt, .int 0, .int 0, .int 0, .ref so, .ref mo, .ref wh, .ref pf])) := fr9 _ _ (by omega) h_m
    have k5 : u2 so = some (.inl (cy 0, 2, .inl (fun _ => 0))) := fr9 _ _ (by omega) h_so
    have k6 : u2 mo = some (.inl (cy 0, 2, .inl (fun _ => 0))) := fr9 _ _ (by omega) h_mo
    refine g_cI C0 G (g_runV C0 G (rest := []) (k_X9_copyOvers hfl (xs 1) (xs 2) k4 k5 k6) k4 rfl hY_X9_copyOvers mm_L_210 mi_X9_copyOvers ml_X9_copyOvers ⟨(Nat.le_of_ble_eq_true rfl), (Nat.le_of_ble_eq_true rfl)⟩ rfl hl.1 rfl (Nat.le_of_ble_eq_true rfl) dL_law_1822 ⟨(Nat.le_of_ble_eq_true rfl), (Nat.le_of_ble_eq_true rfl)⟩) (kx_no rfl) (fun r9 u8 H locs hp7 G => ?_)
    rcases hp7 with ⟨hP9, hm8⟩ | ⟨hP9, hm8⟩
    · exact absurd hP9 hP
    · obtain ⟨rest9, hm9⟩ := hm8
      refine lv_istore (lv' := [(7, .int r9), (6, .int 1), (0, .ref b), (1, .ref sc), (2, .ref m), (3, .ref out), (4, .ref outD), (5, .int 0)]) hx hb dL_law_1825 hl (by decide) rfl (fun ls hl => ?_)
      refine lv_aload_n hx hb dL_law_1827 rfl (lv_at hl 4 rfl) ?_
      refine g_cI C0 G (g_runV C0 G (rest := []) (k_X9_thrown hfl hm9) hm9 rfl hY_X9_thrown mm_L_128 mi_X9_thrown ml_X9_thrown ⟨(Nat.le_of_ble_eq_true rfl), (Nat.le_of_ble_eq_true rfl)⟩ rfl hl.1 rfl (Nat.le_of_ble_eq_true rfl) dL_law_1828 ⟨(Nat.le_of_ble_eq_true rfl), (Nat.le_of_ble_eq_true rfl)⟩) (kx_no rfl) (fun r12 u11 H locs hp10 G => ?_)
      obtain ⟨rfl, eu11⟩ := hp10
      rw [eu11] at G
      refine lv_iload hx hb dL_law_1831 (lv_at hl 1 rfl) ?_
      refine lv_icmp_eq (tgt := 1838) hx hb dL_law_1833 (by decide) (fun _ => ?_) (fun c13 => absurd (by decide) c13)
      refine lv_iload hx hb dL_law_1838 (lv_at hl 1 rfl) ?_
      refine lv_if_ne (tgt := 1862) hx hb dL_law_1840 (by decide) (fun _ => ?_) (fun c14 => absurd c14 (by decide))
      refine lv_goto (tgt := 2164) hx hb dL_law_1862 (by decide) ?_
      exact law_tail hfl C9 C0 G (Nat.le_of_ble_eq_true rfl) (Nat.le_of_ble_eq_true rfl) (lv_sub hl [2, 7] rfl)
  · refine lv_istore (lv' := [(6, .int 2), (0, .ref b), (1, .ref sc), (2, .ref m), (3, .ref out), (4, .ref outD), (5, .int 0)]) hx hb dL_law_1807 hl (by decide) rfl (fun ls hl => ?_)
    refine lv_aload_n hx hb dL_law_1809 rfl (lv_at hl 3 rfl) ?_
    refine lv_aload_n hx hb dL_law_1810 rfl (lv_at hl 1 rfl) ?_
    refine lv_iload hx hb dL_law_1811 (lv_at hl 6 rfl) ?_
    refine lv_iconst (v := 1) hx hb dL_law_1813 (by decide) ?_
    refine lv_iadd hx hb dL_law_1814 ?_
    refine lv_topv (v := 1) (by decide) ?_
    refine va_sld hx hb hX hbl hbA G.2 (i := 1) (by unfold vp_in; decide) dL_law_1815 ?_
    refine lv_aload_n hx hb dL_law_1816 rfl (lv_at hl 1 rfl) ?_
    refine lv_iload hx hb dL_law_1817 (lv_at hl 6 rfl) ?_
    refine lv_iconst (v := 2) hx hb dL_law_1819 (by decide) ?_
    refine lv_iadd hx hb dL_law_1820 ?_
    refine lv_topv (v := 2) (by decide) ?_
    refine va_sld hx hb hX hbl hbA G.2 (i := 2) (by unfold vp_in; decide) dL_law_1821 ?_
    have k15 : u2 m = some (.inr (11, [.int 0, .int 0, .ref v, .ref im, .ref kp, .ref pa, .ref de, .ref ide, .int 0, .int 0, .ref mtx, .int 0, .int (-1), .int (-1), .ref pt, .int 0, .int 0, .int 0, .ref so, .ref mo, .ref wh, .ref pf])) := fr9 _ _ (by omega) h_m
    have k16 : u2 so = some (.inl (cy 0, 2, .inl (fun _ => 0))) := fr9 _ _ (by omega) h_so
    have k17 : u2 mo = some (.inl (cy 0, 2, .inl (fun _ => 0))) := fr9 _ _ (by omega) h_mo
    refine g_cI C0 G (g_runV C0 G (rest := []) (k_X9_copyOvers hfl (xs 1) (xs 2) k15 k16 k17) k15 rfl hY_X9_copyOvers mm_L_210 mi_X9_copyOvers ml_X9_copyOvers ⟨(Nat.le_of_ble_eq_true rfl), (Nat.le_of_ble_eq_true rfl)⟩ rfl hl.1 rfl (Nat.le_of_ble_eq_true rfl) dL_law_1822 ⟨(Nat.le_of_ble_eq_true rfl), (Nat.le_of_ble_eq_true rfl)⟩) (kx_no rfl) (fun r20 u19 H locs hp18 G => ?_)
    rcases hp18 with ⟨hP9, hm8⟩ | ⟨hP9, hm8⟩
    · obtain ⟨rest9, hm9⟩ := hm8
      refine lv_istore (lv' := [(7, .int r20), (6, .int 2), (0, .ref b), (1, .ref sc), (2, .ref m), (3, .ref out), (4, .ref outD), (5, .int 0)]) hx hb dL_law_1825 hl (by decide) rfl (fun ls hl => ?_)
      refine lv_aload_n hx hb dL_law_1827 rfl (lv_at hl 4 rfl) ?_
      refine g_cI C0 G (g_runV C0 G (rest := []) (k_X9_thrown hfl hm9) hm9 rfl hY_X9_thrown mm_L_128 mi_X9_thrown ml_X9_thrown ⟨(Nat.le_of_ble_eq_true rfl), (Nat.le_of_ble_eq_true rfl)⟩ rfl hl.1 rfl (Nat.le_of_ble_eq_true rfl) dL_law_1828 ⟨(Nat.le_of_ble_eq_true rfl), (Nat.le_of_ble_eq_true rfl)⟩) (kx_no rfl) (fun r23 u22 H locs hp21 G => ?_)
      obtain ⟨rfl, eu22⟩ := hp21
      rw [eu22] at G
      refine lv_iload hx hb dL_law_1831 (lv_at hl 1 rfl) ?_
      refine lv_icmp_eq (tgt := 1838) hx hb dL_law_1833 (by decide) (fun _ => ?_) (fun c24 => absurd (by decide) c24)
      refine lv_iload hx hb dL_law_1838 (lv_at hl 1 rfl) ?_
      refine lv_if_ne (tgt := 1862) hx hb dL_law_1840 (by decide) (fun _ => ?_) (fun c25 => absurd c25 (by decide))
      refine lv_goto (tgt := 2164) hx hb dL_law_1862 (by decide) ?_
      exact law_tail hfl C9 C0 G (Nat.le_of_ble_eq_true rfl) (Nat.le_of_ble_eq_true rfl) (lv_sub hl [2, 7] rfl)
    · exact absurd hP hP9
set_option maxRecDepth 100000 in
theorem law_case_27 {p : Program} {e : Env} {s : State} {m9 : MethodId} {below : List Frame} {meth : Method} {c : Code} {l : Launch} {b  : Nat} {xs : Nat → Int32} {D : va_G} {cy : Nat → ClassId} {sc m0 al i0 i1 i2 i3 i4 i5 i6 i7 i8 i9 i10 i11 i12 lg ln lst len sv sn sst sen tx bf tn tp r0 r0e r1 r1e m v im kp pa de ide mtx pt so mo wh pf out outD m1 : Nat} {g0 : Nat → Option Nat} {f : Hf} {H : Heap} {locs : List Loc} {ls : Array Slot} (hfl : l.stackTraces = false) (C9 : lw_At p s m9 meth c b 6 xs) (C0 : hC p l s m9 meth c code 9 #[Value.ref b] RL D (hTy cy) (hA f00 s.heap.size)) (hord : sc < m0 ∧ m0 < al ∧ al < i0 ∧ i0 < i1 ∧ i1 < i2 ∧ i2 < i3 ∧ i3 < i4 ∧ i4 < i5 ∧ i5 < i6 ∧ i6 < i7 ∧ i7 < i8 ∧ i8 < i9 ∧ i9 < i10 ∧ i10 < i11 ∧ i11 < i12 ∧ i12 < lg ∧ lg < ln ∧ ln < lst ∧ lst < len ∧ len < sv ∧ sv < sn ∧ sn < sst ∧ sst < sen ∧ sen < tx ∧ tx < bf ∧ bf < tn ∧ tn < tp ∧ tp < r0 ∧ r0 < r0e ∧ r0e < r1 ∧ r1 < r1e ∧ r1e < m ∧ m < v ∧ v < im ∧ im < kp ∧ kp < pa ∧ pa < de ∧ de < ide ∧ ide < mtx ∧ mtx < pt ∧ pt < so ∧ so < mo ∧ mo < wh ∧ wh < pf ∧ pf < out ∧ out < outD) (hg0 : g0 0 = some i0) (G : hG D (hA f00 s.heap.size) f s H locs) (hl : lv_has ls 9 [(0, .ref b), (1, .ref sc), (2, .ref m), (3, .ref out), (4, .ref outD), (5, .int 0)]) (h_sc : f sc = some (.inr (10, [.ref m0, .ref m1, .ref lg, .ref sv, .ref tx, .ref r0, .ref r1, .int (-1), .int (-1), .int 0]))) (h_lg : f lg = some (.inr (3, [.ref ln, .ref lst, .ref len, .int 0, .int 0, .int 0, .int 0, .int 0, .int 0]))) (h_m : f m = some (.inr (11, [.int 0, .int 0, .ref v, .ref im, .ref kp, .ref pa, .ref de, .ref ide, .int 0, .int 0, .ref mtx, .int 0, .int (-1), .int (-1), .ref pt, .int 0, .int 0, .int 0, .ref so, .ref mo, .ref wh, .ref pf]))) : W p l e room_1 s m9 #[Value.ref b] below meth c H locs 140 156303 (lw_Z below #[Value.ref b] s) (F0 m9 1981 ls []) := by
  obtain ⟨oo0, oo1, oo2, oo3, oo4, oo5, oo6, oo7, oo8, oo9, oo10, oo11, oo12, oo13, oo14, oo15, oo16, oo17, oo18, oo19, oo20, oo21, oo22, oo23, oo24, oo25, oo26, oo27, oo28, oo29, oo30, oo31, oo32, oo33, oo34, oo35, oo36, oo37, oo38, oo39, oo40, oo41, oo42, oo43, oo44, oo45⟩ := hord
  obtain ⟨hx, hb, hr, hml, hown, hts, hX, hbl, hlocks, hgv⟩ := id C9
  have hbA : ¬ hA f00 s.heap.size b := fun q => by rcases q with q | q; exact q rfl; omega
  refine lv_aload_n hx hb dL_law_1981 rfl (lv_at hl 1 rfl) ?_
  refine lv_aload_n hx hb dL_law_1982 rfl (lv_at hl 3 rfl) ?_
  refine g_cI C0 G (g_runSH C0 G (rest := []) (k_L_undo hfl h_sc h_lg) hYH_L_undo mm_L_222 ms_L_undo ⟨(Nat.le_of_ble_eq_true rfl), (Nat.le_of_ble_eq_true rfl)⟩ rfl hl.1 rfl (Nat.le_of_ble_eq_true rfl) dL_law_1983 ⟨(Nat.le_of_ble_eq_true rfl), (Nat.le_of_ble_eq_true rfl)⟩) (kx_no rfl) (fun r1 u2 H locs hp3 G => ?_)
  obtain ⟨rfl, fr9⟩ := hp3
  refine lv_istore (lv' := [(6, .int 1), (0, .ref b), (1, .ref sc), (2, .ref m), (3, .ref out), (4, .ref outD), (5, .int 0)]) hx hb dL_law_1986 hl (by decide) rfl (fun ls hl => ?_)
  refine lv_aload_n hx hb dL_law_1988 rfl (lv_at hl 3 rfl) ?_
  have k4 : u2 m = some (.inr (11, [.int 0, .int 0, .ref v, .ref im, .ref kp, .ref pa, .ref de, .ref ide, .int 0, .int 0, .ref mtx, .int 0, .int (-1), .int (-1), .ref pt, .int 0, .int 0, .int 0, .ref so, .ref mo, .ref wh, .ref pf])) := fr9 _ _ (by omega) h_m
  refine g_cI C0 G (g_runV C0 G (rest := []) (k_X9_undo hfl k4) k4 rfl hY_X9_undo mm_L_224 mi_X9_undo ml_X9_undo ⟨(Nat.le_of_ble_eq_true rfl), (Nat.le_of_ble_eq_true rfl)⟩ rfl hl.1 rfl (Nat.le_of_ble_eq_true rfl) dL_law_1989 ⟨(Nat.le_of_ble_eq_true rfl), (Nat.le_of_ble_eq_true rfl)⟩) (kx_no rfl) (fun r7 u6 H locs hp5 G => ?_)
  obtain ⟨rest9, hm9⟩ := hp5
  refine lv_istore (lv' := [(7, .int r7), (6, .int 1), (0, .ref b), (1, .ref sc), (2, .ref m), (3, .ref out), (4, .ref outD), (5, .int 0)]) hx hb dL_law_1992 hl (by decide) rfl (fun ls hl => ?_)
  refine lv_aload_n hx hb dL_law_1994 rfl (lv_at hl 4 rfl) ?_
  refine g_cI C0 G (g_runV C0 G (rest := []) (k_X9_thrown hfl hm9) hm9 rfl hY_X9_thrown mm_L_128 mi_X9_thrown ml_X9_thrown ⟨(Nat.le_of_ble_eq_true rfl), (Nat.le_of_ble_eq_true rfl)⟩ rfl hl.1 rfl (Nat.le_of_ble_eq_true rfl) dL_law_1995 ⟨(Nat.le_of_ble_eq_true rfl), (Nat.le_of_ble_eq_true rfl)⟩) (kx_no rfl) (fun r10 u9 H locs hp8 G => ?_)
  obtain ⟨rfl, eu9⟩ := hp8
  rw [eu9] at G
  refine lv_iload hx hb dL_law_1998 (lv_at hl 1 rfl) ?_
  refine lv_icmp_eq (tgt := 2005) hx hb dL_law_2000 (by decide) (fun _ => ?_) (fun c11 => absurd (by decide) c11)
  refine lv_iload hx hb dL_law_2005 (lv_at hl 1 rfl) ?_
  refine lv_if_ne (tgt := 2022) hx hb dL_law_2007 (by decide) (fun _ => ?_) (fun c12 => absurd c12 (by decide))
  refine lv_goto (tgt := 2164) hx hb dL_law_2022 (by decide) ?_
  exact law_tail hfl C9 C0 G (Nat.le_of_ble_eq_true rfl) (Nat.le_of_ble_eq_true rfl) (lv_sub hl [2, 7] rfl)
