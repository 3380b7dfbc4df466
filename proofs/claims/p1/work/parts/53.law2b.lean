set_option maxRecDepth 100000 in
theorem law_case_1 {p : Program} {e : Env} {s : State} {m9 : MethodId} {below : List Frame} {meth : Method} {c : Code} {l : Launch} {b  : Nat} {xs : Nat → Int32} {D : va_G} {cy : Nat → ClassId} {sc m0 al i0 i1 i2 i3 i4 i5 i6 i7 i8 i9 i10 i11 i12 lg ln lst len sv sn sst sen tx bf tn tp r0 r0e r1 r1e m v im kp pa de ide mtx pt so mo wh pf out outD m1 : Nat} {g0 : Nat → Option Nat} {f : Hf} {H : Heap} {locs : List Loc} {ls : Array Slot} (hfl : l.stackTraces = false) (C9 : lw_At p s m9 meth c b 6 xs) (C0 : hC p l s m9 meth c code 9 #[Value.ref b] RL D (hTy cy) (hA f00 s.heap.size)) (hord : sc < m0 ∧ m0 < al ∧ al < i0 ∧ i0 < i1 ∧ i1 < i2 ∧ i2 < i3 ∧ i3 < i4 ∧ i4 < i5 ∧ i5 < i6 ∧ i6 < i7 ∧ i7 < i8 ∧ i8 < i9 ∧ i9 < i10 ∧ i10 < i11 ∧ i11 < i12 ∧ i12 < lg ∧ lg < ln ∧ ln < lst ∧ lst < len ∧ len < sv ∧ sv < sn ∧ sn < sst ∧ sst < sen ∧ sen < tx ∧ tx < bf ∧ bf < tn ∧ tn < tp ∧ tp < r0 ∧ r0 < r0e ∧ r0e < r1 ∧ r1 < r1e ∧ r1e < m ∧ m < v ∧ v < im ∧ im < kp ∧ kp < pa ∧ pa < de ∧ de < ide ∧ ide < mtx ∧ mtx < pt ∧ pt < so ∧ so < mo ∧ mo < wh ∧ wh < pf ∧ pf < out ∧ out < outD) (hg0 : g0 0 = some i0) (G : hG D (hA f00 s.heap.size) f s H locs) (hl : lv_has ls 9 [(0, .ref b), (1, .ref sc), (2, .ref m), (3, .ref out), (4, .ref outD), (5, .int 0)]) (h_sc : f sc = some (.inr (10, [.ref m0, .ref m1, .ref lg, .ref sv, .ref tx, .ref r0, .ref r1, .int (-1), .int (-1), .int 0]))) (h_m0 : f m0 = some (.inr (4, [.ref al, .int 0, .int 0, .int 0, .int 0, .int 0]))) (h_m : f m = some (.inr (11, [.int 0, .int 0, .ref v, .ref im, .ref kp, .ref pa, .ref de, .ref ide, .int 0, .int 0, .ref mtx, .int 0, .int (-1), .int (-1), .ref pt, .int 0, .int 0, .int 0, .ref so, .ref mo, .ref wh, .ref pf]))) (h_v : f v = some (.inl (cy 0, 6441, .inl (fun _ => 0)))) : W p l e room_1 s m9 #[Value.ref b] below meth c H locs 140 156303 (lw_Z below #[Value.ref b] s) (F0 m9 264 ls []) := by
  obtain ⟨oo0, oo1, oo2, oo3, oo4, oo5, oo6, oo7, oo8, oo9, oo10, oo11, oo12, oo13, oo14, oo15, oo16, oo17, oo18, oo19, oo20, oo21, oo22, oo23, oo24, oo25, oo26, oo27, oo28, oo29, oo30, oo31, oo32, oo33, oo34, oo35, oo36, oo37, oo38, oo39, oo40, oo41, oo42, oo43, oo44, oo45⟩ := hord
  obtain ⟨hx, hb, hr, hml, hown, hts, hX, hbl, hlocks, hgv⟩ := id C9
  have hbA : ¬ hA f00 s.heap.size b := fun q => by rcases q with q | q; exact q rfl; omega
  refine lv_aload_n hx hb dL_law_264 rfl (lv_at hl 1 rfl) ?_
  refine lv_aload_n hx hb dL_law_265 rfl (lv_at hl 0 rfl) ?_
  refine lv_iload hx hb dL_law_266 (lv_at hl 5 rfl) ?_
  refine lv_iconst (v := 1) hx hb dL_law_268 (by decide) ?_
  refine lv_iadd hx hb dL_law_269 ?_
  refine lv_topv (v := 1) (by decide) ?_
  refine va_sld hx hb hX hbl hbA G.2 (i := 1) (by unfold vp_in; decide) dL_law_270 ?_
  refine lv_aload_n hx hb dL_law_271 rfl (lv_at hl 3 rfl) ?_
  refine g_cI C0 G (g_runSH C0 G (rest := []) (k_L_bowl hfl (xs 1) h_sc h_m0) hYH_L_bowl mm_L_131 ms_L_bowl ⟨(Nat.le_of_ble_eq_true rfl), (Nat.le_of_ble_eq_true rfl)⟩ rfl hl.1 rfl (Nat.le_of_ble_eq_true rfl) dL_law_272 ⟨(Nat.le_of_ble_eq_true rfl), (Nat.le_of_ble_eq_true rfl)⟩) (kx_no rfl) (fun r1 u2 H locs hp3 G => ?_)
  rcases hp3 with ⟨⟨rfl, hP⟩ | ⟨rfl, hP⟩, fr9⟩
  · refine lv_istore (lv' := [(6, .int 1), (0, .ref b), (1, .ref sc), (2, .ref m), (3, .ref out), (4, .ref outD), (5, .int 0)]) hx hb dL_law_275 hl (by decide) rfl (fun ls hl => ?_)
    refine lv_aload_n hx hb dL_law_277 rfl (lv_at hl 3 rfl) ?_
    refine lv_aload_n hx hb dL_law_278 rfl (lv_at hl 1 rfl) ?_
    refine lv_iload hx hb dL_law_279 (lv_at hl 6 rfl) ?_
    refine lv_iconst (v := 1) hx hb dL_law_281 (by decide) ?_
    refine lv_iadd hx hb dL_law_282 ?_
    refine lv_topv (v := 1) (by decide) ?_
    refine va_sld hx hb hX hbl hbA G.2 (i := 1) (by unfold vp_in; decide) dL_law_283 ?_
    have k4 : u2 m = some (.inr (11, [.int 0, .int 0, .ref v, .ref im, .ref kp, .ref pa, .ref de, .ref ide, .int 0, .int 0, .ref mtx, .int 0, .int (-1), .int (-1), .ref pt, .int 0, .int 0, .int 0, .ref so, .ref mo, .ref wh, .ref pf])) := fr9 _ _ (by omega) h_m
    have k5 : u2 v = some (.inl (cy 0, 6441, .inl (fun _ => 0))) := fr9 _ _ (by omega) h_v
    refine g_cI C0 G (g_runV C0 G (rest := []) (k_X9_bowl hfl (xs 1) k4 k5) k4 rfl hY_X9_bowl mm_L_134 mi_X9_bowl ml_X9_bowl ⟨(Nat.le_of_ble_eq_true rfl), (Nat.le_of_ble_eq_true rfl)⟩ rfl hl.1 rfl (Nat.le_of_ble_eq_true rfl) dL_law_284 ⟨(Nat.le_of_ble_eq_true rfl), (Nat.le_of_ble_eq_true rfl)⟩) (kx_no rfl) (fun r8 u7 H locs hp6 G => ?_)
    rcases hp6 with ⟨hP9, hm8⟩ | ⟨hP9, hm8⟩
    · exact absurd hP9 hP
    · obtain ⟨rest9, hm9⟩ := hm8
      refine lv_istore (lv' := [(7, .int r8), (6, .int 1), (0, .ref b), (1, .ref sc), (2, .ref m), (3, .ref out), (4, .ref outD), (5, .int 0)]) hx hb dL_law_287 hl (by decide) rfl (fun ls hl => ?_)
      refine lv_aload_n hx hb dL_law_289 rfl (lv_at hl 4 rfl) ?_
      refine g_cI C0 G (g_runV C0 G (rest := []) (k_X9_thrown hfl hm9) hm9 rfl hY_X9_thrown mm_L_128 mi_X9_thrown ml_X9_thrown ⟨(Nat.le_of_ble_eq_true rfl), (Nat.le_of_ble_eq_true rfl)⟩ rfl hl.1 rfl (Nat.le_of_ble_eq_true rfl) dL_law_290 ⟨(Nat.le_of_ble_eq_true rfl), (Nat.le_of_ble_eq_true rfl)⟩) (kx_no rfl) (fun r11 u10 H locs hp9 G => ?_)
      obtain ⟨rfl, eu10⟩ := hp9
      rw [eu10] at G
      refine lv_iload hx hb dL_law_293 (lv_at hl 1 rfl) ?_
      refine lv_icmp_eq (tgt := 300) hx hb dL_law_295 (by decide) (fun _ => ?_) (fun c12 => absurd (by decide) c12)
      refine lv_iload hx hb dL_law_300 (lv_at hl 1 rfl) ?_
      refine lv_if_ne (tgt := 317) hx hb dL_law_302 (by decide) (fun _ => ?_) (fun c13 => absurd c13 (by decide))
      refine lv_goto (tgt := 2164) hx hb dL_law_317 (by decide) ?_
      exact law_tail hfl C9 C0 G (Nat.le_of_ble_eq_true rfl) (Nat.le_of_ble_eq_true rfl) (lv_sub hl [2, 7] rfl)
  · refine lv_istore (lv' := [(6, .int 2), (0, .ref b), (1, .ref sc), (2, .ref m), (3, .ref out), (4, .ref outD), (5, .int 0)]) hx hb dL_law_275 hl (by decide) rfl (fun ls hl => ?_)
    refine lv_aload_n hx hb dL_law_277 rfl (lv_at hl 3 rfl) ?_
    refine lv_aload_n hx hb dL_law_278 rfl (lv_at hl 1 rfl) ?_
    refine lv_iload hx hb dL_law_279 (lv_at hl 6 rfl) ?_
    refine lv_iconst (v := 1) hx hb dL_law_281 (by decide) ?_
    refine lv_iadd hx hb dL_law_282 ?_
    refine lv_topv (v := 1) (by decide) ?_
    refine va_sld hx hb hX hbl hbA G.2 (i := 1) (by unfold vp_in; decide) dL_law_283 ?_
    have k14 : u2 m = some (.inr (11, [.int 0, .int 0, .ref v, .ref im, .ref kp, .ref pa, .ref de, .ref ide, .int 0, .int 0, .ref mtx, .int 0, .int (-1), .int (-1), .ref pt, .int 0, .int 0, .int 0, .ref so, .ref mo, .ref wh, .ref pf])) := fr9 _ _ (by omega) h_m
    have k15 : u2 v = some (.inl (cy 0, 6441, .inl (fun _ => 0))) := fr9 _ _ (by omega) h_v
    refine g_cI C0 G (g_runV C0 G (rest := []) (k_X9_bowl hfl (xs 1) k14 k15) k14 rfl hY_X9_bowl mm_L_134 mi_X9_bowl ml_X9_bowl ⟨(Nat.le_of_ble_eq_true rfl), (Nat.le_of_ble_eq_true rfl)⟩ rfl hl.1 rfl (Nat.le_of_ble_eq_true rfl) dL_law_284 ⟨(Nat.le_of_ble_eq_true rfl), (Nat.le_of_ble_eq_true rfl)⟩) (kx_no rfl) (fun r18 u17 H locs hp16 G => ?_)
    rcases hp16 with ⟨hP9, hm8⟩ | ⟨hP9, hm8⟩
    · obtain ⟨rest9, hm9⟩ := hm8
      refine lv_istore (lv' := [(7, .int r18), (6, .int 2), (0, .ref b), (1, .ref sc), (2, .ref m), (3, .ref out), (4, .ref outD), (5, .int 0)]) hx hb dL_law_287 hl (by decide) rfl (fun ls hl => ?_)
      refine lv_aload_n hx hb dL_law_289 rfl (lv_at hl 4 rfl) ?_
      refine g_cI C0 G (g_runV C0 G (rest := []) (k_X9_thrown hfl hm9) hm9 rfl hY_X9_thrown mm_L_128 mi_X9_thrown ml_X9_thrown ⟨(Nat.le_of_ble_eq_true rfl), (Nat.le_of_ble_eq_true rfl)⟩ rfl hl.1 rfl (Nat.le_of_ble_eq_true rfl) dL_law_290 ⟨(Nat.le_of_ble_eq_true rfl), (Nat.le_of_ble_eq_true rfl)⟩) (kx_no rfl) (fun r21 u20 H locs hp19 G => ?_)
      obtain ⟨rfl, eu20⟩ := hp19
      rw [eu20] at G
      refine lv_iload hx hb dL_law_293 (lv_at hl 1 rfl) ?_
      refine lv_icmp_eq (tgt := 300) hx hb dL_law_295 (by decide) (fun _ => ?_) (fun c22 => absurd (by decide) c22)
      refine lv_iload hx hb dL_law_300 (lv_at hl 1 rfl) ?_
      refine lv_if_ne (tgt := 317) hx hb dL_law_302 (by decide) (fun _ => ?_) (fun c23 => absurd c23 (by decide))
      refine lv_goto (tgt := 2164) hx hb dL_law_317 (by decide) ?_
      exact law_tail hfl C9 C0 G (Nat.le_of_ble_eq_true rfl) (Nat.le_of_ble_eq_true rfl) (lv_sub hl [2, 7] rfl)
    · exact absurd hP hP9
set_option maxRecDepth 100000 in
theorem law_case_5 {p : Program} {e : Env} {s : State} {m9 : MethodId} {below : List Frame} {meth : Method} {c : Code} {l : Launch} {b  : Nat} {xs : Nat → Int32} {D : va_G} {cy : Nat → ClassId} {sc m0 al i0 i1 i2 i3 i4 i5 i6 i7 i8 i9 i10 i11 i12 lg ln lst len sv sn sst sen tx bf tn tp r0 r0e r1 r1e m v im kp pa de ide mtx pt so mo wh pf out outD m1 : Nat} {g0 : Nat → Option Nat} {f : Hf} {H : Heap} {locs : List Loc} {ls : Array Slot} (hfl : l.stackTraces = false) (C9 : lw_At p s m9 meth c b 6 xs) (C0 : hC p l s m9 meth c code 9 #[Value.ref b] RL D (hTy cy) (hA f00 s.heap.size)) (hord : sc < m0 ∧ m0 < al ∧ al < i0 ∧ i0 < i1 ∧ i1 < i2 ∧ i2 < i3 ∧ i3 < i4 ∧ i4 < i5 ∧ i5 < i6 ∧ i6 < i7 ∧ i7 < i8 ∧ i8 < i9 ∧ i9 < i10 ∧ i10 < i11 ∧ i11 < i12 ∧ i12 < lg ∧ lg < ln ∧ ln < lst ∧ lst < len ∧ len < sv ∧ sv < sn ∧ sn < sst ∧ sst < sen ∧ sen < tx ∧ tx < bf ∧ bf < tn ∧ tn < tp ∧ tp < r0 ∧ r0 < r0e ∧ r0e < r1 ∧ r1 < r1e ∧ r1e < m ∧ m < v ∧ v < im ∧ im < kp ∧ kp < pa ∧ pa < de ∧ de < ide ∧ ide < mtx ∧ mtx < pt ∧ pt < so ∧ so < mo ∧ mo < wh ∧ wh < pf ∧ pf < out ∧ out < outD) (hg0 : g0 0 = some i0) (G : hG D (hA f00 s.heap.size) f s H locs) (hl : lv_has ls 9 [(0, .ref b), (1, .ref sc), (2, .ref m), (3, .ref out), (4, .ref outD), (5, .int 0)]) (h_sc : f sc = some (.inr (10, [.ref m0, .ref m1, .ref lg, .ref sv, .ref tx, .ref r0, .ref r1, .int (-1), .int (-1), .int 0]))) (h_m0 : f m0 = some (.inr (4, [.ref al, .int 0, .int 0, .int 0, .int 0, .int 0]))) (h_m : f m = some (.inr (11, [.int 0, .int 0, .ref v, .ref im, .ref kp, .ref pa, .ref de, .ref ide, .int 0, .int 0, .ref mtx, .int 0, .int (-1), .int (-1), .ref pt, .int 0, .int 0, .int 0, .ref so, .ref mo, .ref wh, .ref pf]))) (h_v : f v = some (.inl (cy 0, 6441, .inl (fun _ => 0)))) : W p l e room_1 s m9 #[Value.ref b] below meth c H locs 140 156303 (lw_Z below #[Value.ref b] s) (F0 m9 652 ls []) := by
  obtain ⟨oo0, oo1, oo2, oo3, oo4, oo5, oo6, oo7, oo8, oo9, oo10, oo11, oo12, oo13, oo14, oo15, oo16, oo17, oo18, oo19, oo20, oo21, oo22, oo23, oo24, oo25, oo26, oo27, oo28, oo29, oo30, oo31, oo32, oo33, oo34, oo35, oo36, oo37, oo38, oo39, oo40, oo41, oo42, oo43, oo44, oo45⟩ := hord
  obtain ⟨hx, hb, hr, hml, hown, hts, hX, hbl, hlocks, hgv⟩ := id C9
  have hbA : ¬ hA f00 s.heap.size b := fun q => by rcases q with q | q; exact q rfl; omega
  refine lv_aload_n hx hb dL_law_652 rfl (lv_at hl 1 rfl) ?_
  refine lv_aload_n hx hb dL_law_653 rfl (lv_at hl 0 rfl) ?_
  refine lv_iload hx hb dL_law_654 (lv_at hl 5 rfl) ?_
  refine lv_iconst (v := 1) hx hb dL_law_656 (by decide) ?_
  refine lv_iadd hx hb dL_law_657 ?_
  refine lv_topv (v := 1) (by decide) ?_
  refine va_sld hx hb hX hbl hbA G.2 (i := 1) (by unfold vp_in; decide) dL_law_658 ?_
  refine lv_aload_n hx hb dL_law_659 rfl (lv_at hl 3 rfl) ?_
  refine g_cI C0 G (g_runSH C0 G (rest := []) (k_L_choose hfl (xs 1) h_sc h_m0) hYH_L_choose mm_L_147 ms_L_choose ⟨(Nat.le_of_ble_eq_true rfl), (Nat.le_of_ble_eq_true rfl)⟩ rfl hl.1 rfl (Nat.le_of_ble_eq_true rfl) dL_law_660 ⟨(Nat.le_of_ble_eq_true rfl), (Nat.le_of_ble_eq_true rfl)⟩) (kx_no rfl) (fun r1 u2 H locs hp3 G => ?_)
  rcases hp3 with ⟨⟨rfl, hP⟩ | ⟨rfl, hP⟩, fr9⟩
  · refine lv_istore (lv' := [(6, .int 1), (0, .ref b), (1, .ref sc), (2, .ref m), (3, .ref out), (4, .ref outD), (5, .int 0)]) hx hb dL_law_663 hl (by decide) rfl (fun ls hl => ?_)
    refine lv_aload_n hx hb dL_law_665 rfl (lv_at hl 3 rfl) ?_
    refine lv_aload_n hx hb dL_law_666 rfl (lv_at hl 1 rfl) ?_
    refine lv_iload hx hb dL_law_667 (lv_at hl 6 rfl) ?_
    refine lv_iconst (v := 1) hx hb dL_law_669 (by decide) ?_
    refine lv_iadd hx hb dL_law_670 ?_
    refine lv_topv (v := 1) (by decide) ?_
    refine va_sld hx hb hX hbl hbA G.2 (i := 1) (by unfold vp_in; decide) dL_law_671 ?_
    have k4 : u2 m = some (.inr (11, [.int 0, .int 0, .ref v, .ref im, .ref kp, .ref pa, .ref de, .ref ide, .int 0, .int 0, .ref mtx, .int 0, .int (-1), .int (-1), .ref pt, .int 0, .int 0, .int 0, .ref so, .ref mo, .ref wh, .ref pf])) := fr9 _ _ (by omega) h_m
    have k5 : u2 v = some (.inl (cy 0, 6441, .inl (fun _ => 0))) := fr9 _ _ (by omega) h_v
    refine g_cI C0 G (g_runV C0 G (rest := []) (k_X9_choose hfl (xs 1) k4 k5) k4 rfl hY_X9_choose mm_L_149 mi_X9_choose ml_X9_choose ⟨(Nat.le_of_ble_eq_true rfl), (Nat.le_of_ble_eq_true rfl)⟩ rfl hl.1 rfl (Nat.le_of_ble_eq_true rfl) dL_law_672 ⟨(Nat.le_of_ble_eq_true rfl), (Nat.le_of_ble_eq_true rfl)⟩) (kx_no rfl) (fun r8 u7 H locs hp6 G => ?_)
    rcases hp6 with ⟨hP9, hm8⟩ | ⟨hP9, hm8⟩
    · exact absurd hP9 hP
    · obtain ⟨rest9, hm9⟩ := hm8
      refine lv_istore (lv' := [(7, .int r8), (6, .int 1), (0, .ref b), (1, .ref sc), (2, .ref m), (3, .ref out), (4, .ref outD), (5, .int 0)]) hx hb dL_law_675 hl (by decide) rfl (fun ls hl => ?_)
      refine lv_aload_n hx hb dL_law_677 rfl (lv_at hl 4 rfl) ?_
      refine g_cI C0 G (g_runV C0 G (rest := []) (k_X9_thrown hfl hm9) hm9 rfl hY_X9_thrown mm_L_128 mi_X9_thrown ml_X9_thrown ⟨(Nat.le_of_ble_eq_true rfl), (Nat.le_of_ble_eq_true rfl)⟩ rfl hl.1 rfl (Nat.le_of_ble_eq_true rfl) dL_law_678 ⟨(Nat.le_of_ble_eq_true rfl), (Nat.le_of_ble_eq_true rfl)⟩) (kx_no rfl) (fun r11 u10 H locs hp9 G => ?_)
      obtain ⟨rfl, eu10⟩ := hp9
      rw [eu10] at G
      refine lv_iload hx hb dL_law_681 (lv_at hl 1 rfl) ?_
      refine lv_icmp_eq (tgt := 688) hx hb dL_law_683 (by decide) (fun _ => ?_) (fun c12 => absurd (by decide) c12)
      refine lv_iload hx hb dL_law_688 (lv_at hl 1 rfl) ?_
      refine lv_if_ne (tgt := 705) hx hb dL_law_690 (by decide) (fun _ => ?_) (fun c13 => absurd c13 (by decide))
      refine lv_goto (tgt := 2164) hx hb dL_law_705 (by decide) ?_
      exact law_tail hfl C9 C0 G (Nat.le_of_ble_eq_true rfl) (Nat.le_of_ble_eq_true rfl) (lv_sub hl [2, 7] rfl)
  · refine lv_istore (lv' := [(6, .int 2), (0, .ref b), (1, .ref sc), (2, .ref m), (3, .ref out), (4, .ref outD), (5, .int 0)]) hx hb dL_law_663 hl (by decide) rfl (fun ls hl => ?_)
    refine lv_aload_n hx hb dL_law_665 rfl (lv_at hl 3 rfl) ?_
    refine lv_aload_n hx hb dL_law_666 rfl (lv_at hl 1 rfl) ?_
    refine lv_iload hx hb dL_law_667 (lv_at hl 6 rfl) ?_
    refine lv_iconst (v := 1) hx hb dL_law_669 (by decide) ?_
    refine lv_iadd hx hb dL_law_670 ?_
    refine lv_topv (v := 1) (by decide) ?_
    refine va_sld hx hb hX hbl hbA G.2 (i := 1) (by unfold vp_in; decide) dL_law_671 ?_
    have k14 : u2 m = some (.inr (11, [.int 0, .int 0, .ref v, .ref im, .ref kp, .ref pa, .ref de, .ref ide, .int 0, .int 0, .ref mtx, .int 0, .int (-1), .int (-1), .ref pt, .int 0, .int 0, .int 0, .ref so, .ref mo, .ref wh, .ref pf])) := fr9 _ _ (by omega) h_m
    have k15 : u2 v = some (.inl (cy 0, 6441, .inl (fun _ => 0))) := fr9 _ _ (by omega) h_v
    refine g_cI C0 G (g_runV C0 G (rest := []) (k_X9_choose hfl (xs 1) k14 k15) k14 rfl hY_X9_choose mm_L_149 mi_X9_choose ml_X9_choose ⟨(Nat.le_of_ble_eq_true rfl), (Nat.le_of_ble_eq_true rfl)⟩ rfl hl.1 rfl (Nat.le_of_ble_eq_true rfl) dL_law_672 ⟨(Nat.le_of_ble_eq_true rfl), (Nat.le_of_ble_eq_true rfl)⟩) (kx_no rfl) (fun r18 u17 H locs hp16 G => ?_)
    rcases hp16 with ⟨hP9, hm8⟩ | ⟨hP9, hm8⟩
    · obtain ⟨rest9, hm9⟩ := hm8
      refine lv_istore (lv' := [(7, .int r18), (6, .int 2), (0, .ref b), (1, .ref sc), (2, .ref m), (3, .ref out), (4, .ref outD), (5, .int 0)]) hx hb dL_law_675 hl (by decide) rfl (fun ls hl => ?_)
      refine lv_aload_n hx hb dL_law_677 rfl (lv_at hl 4 rfl) ?_
      refine g_cI C0 G (g_runV C0 G (rest := []) (k_X9_thrown hfl hm9) hm9 rfl hY_X9_thrown mm_L_128 mi_X9_thrown ml_X9_thrown ⟨(Nat.le_of_ble_eq_true rfl), (Nat.le_of_ble_eq_true rfl)⟩ rfl hl.1 rfl (Nat.le_of_ble_eq_true rfl) dL_law_678 ⟨(Nat.le_of_ble_eq_true rfl), (Nat.le_of_ble_eq_true rfl)⟩) (kx_no rfl) (fun r21 u20 H locs hp19 G => ?_)
      obtain ⟨rfl, eu20⟩ := hp19
      rw [eu20] at G
      refine lv_iload hx hb dL_law_681 (lv_at hl 1 rfl) ?_
      refine lv_icmp_eq (tgt := 688) hx hb dL_law_683 (by decide) (fun _ => ?_) (fun c22 => absurd (by decide) c22)
      refine lv_iload hx hb dL_law_688 (lv_at hl 1 rfl) ?_
      refine lv_if_ne (tgt := 705) hx hb dL_law_690 (by decide) (fun _ => ?_) (fun c23 => absurd c23 (by decide))
      refine lv_goto (tgt := 2164) hx hb dL_law_705 (by decide) ?_
      exact law_tail hfl C9 C0 G (Nat.le_of_ble_eq_true rfl) (Nat.le_of_ble_eq_true rfl) (lv_sub hl [2, 7] rfl)
    · exact absurd hP hP9
set_option maxRecDepth 100000 in
theorem law_case_9 {p : Program} {e : Env} {s : State} {m9 : MethodId} {below : List Frame} {meth : Method} {c : Code} {l : Launch} {b  : Nat} {xs : Nat → Int32} {D : va_G} {cy : Nat → ClassId} {sc m0 al i0 i1 i2 i3 i4 i5 i6 i7 i8 i9 i10 i11 i12 lg ln lst len sv sn sst sen tx bf tn tp r0 r0e r1 r1e m v im kp pa de ide mtx pt so mo wh pf out outD m1 : Nat} {g0 : Nat → Option Nat} {f : Hf} {H : Heap} {locs : List Loc} {ls : Array Slot} (hfl : l.stackTraces = false) (C9 : lw_At p s m9 meth c b 6 xs) (C0 : hC p l s m9 meth c code 9 #[Value.ref b] RL D (hTy cy) (hA f00 s.heap.size)) (hord : sc < m0 ∧ m0 < al ∧ al < i0 ∧ i0 < i1 ∧ i1 < i2 ∧ i2 < i3 ∧ i3 < i4 ∧ i4 < i5 ∧ i5 < i6 ∧ i6 < i7 ∧ i7 < i8 ∧ i8 < i9 ∧ i9 < i10 ∧ i10 < i11 ∧ i11 < i12 ∧ i12 < lg ∧ lg < ln ∧ ln < lst ∧ lst < len ∧ len < sv ∧ sv < sn ∧ sn < sst ∧ sst < sen ∧ sen < tx ∧ tx < bf ∧ bf < tn ∧ tn < tp ∧ tp < r0 ∧ r0 < r0e ∧ r0e < r1 ∧ r1 < r1e ∧ r1e < m ∧ m < v ∧ v < im ∧ im < kp ∧ kp < pa ∧ pa < de ∧ de < ide ∧ ide < mtx ∧ mtx < pt ∧ pt < so ∧ so < mo ∧ mo < wh ∧ wh < pf ∧ pf < out ∧ out < outD) (hg0 : g0 0 = some i0) (G : hG D (hA f00 s.heap.size) f s H locs) (hl : lv_has ls 9 [(0, .ref b), (1, .ref sc), (2, .ref m), (3, .ref out), (4, .ref outD), (5, .int 0)]) (h_sc : f sc = some (.inr (10, [.ref m0, .ref m1, .ref lg, .ref sv, .ref tx, .ref r0, .ref r1, .int (-1), .int (-1), .int 0]))) (h_tx : f tx = some (.inr (9, [.ref bf, .ref tn, .ref tp, .int 0, .int 0]))) (h_m : f m = some (.inr (11, [.int 0, .int 0, .ref v, .ref im, .ref kp, .ref pa, .ref de, .ref ide, .int 0, .int 0, .ref mtx, .int 0, .int (-1), .int (-1), .ref pt, .int 0, .int 0, .int 0, .ref so, .ref mo, .ref wh, .ref pf]))) (h_v : f v = some (.inl (cy 0, 6441, .inl (fun _ => 0)))) : W p l e room_1 s m9 #[Value.ref b] below meth c H locs 140 156303 (lw_Z below #[Value.ref b] s) (F0 m9 866 ls []) := by
  obtain ⟨oo0, oo1, oo2, oo3, oo4, oo5, oo6, oo7, oo8, oo9, oo10, oo11, oo12, oo13, oo14, oo15, oo16, oo17, oo18, oo19, oo20, oo21, oo22, oo23, oo24, oo25, oo26, oo27, oo28, oo29, oo30, oo31, oo32, oo33, oo34, oo35, oo36, oo37, oo38, oo39, oo40, oo41, oo42, oo43, oo44, oo45⟩ := hord
  obtain ⟨hx, hb, hr, hml, hown, hts, hX, hbl, hlocks, hgv⟩ := id C9
  have hbA : ¬ hA f00 s.heap.size b := fun q => by rcases q with q | q; exact q rfl; omega
  refine lv_aload_n hx hb dL_law_866 rfl (lv_at hl 1 rfl) ?_
  refine lv_aload_n hx hb dL_law_867 rfl (lv_at hl 3 rfl) ?_
  refine g_cI C0 G (g_runSH C0 G (rest := []) (k_L_play hfl h_sc h_tx) hYH_L_play mm_L_161 ms_L_play ⟨(Nat.le_of_ble_eq_true rfl), (Nat.le_of_ble_eq_true rfl)⟩ rfl hl.1 rfl (Nat.le_of_ble_eq_true rfl) dL_law_868 ⟨(Nat.le_of_ble_eq_true rfl), (Nat.le_of_ble_eq_true rfl)⟩) (kx_no rfl) (fun r1 u2 H locs hp3 G => ?_)
  obtain ⟨rfl, fr9⟩ := hp3
  refine lv_istore (lv' := [(6, .int 1), (0, .ref b), (1, .ref sc), (2, .ref m), (3, .ref out), (4, .ref outD), (5, .int 0)]) hx hb dL_law_871 hl (by decide) rfl (fun ls hl => ?_)
  refine lv_aload_n hx hb dL_law_873 rfl (lv_at hl 3 rfl) ?_
  have k4 : u2 m = some (.inr (11, [.int 0, .int 0, .ref v, .ref im, .ref kp, .ref pa, .ref de, .ref ide, .int 0, .int 0, .ref mtx, .int 0, .int (-1), .int (-1), .ref pt, .int 0, .int 0, .int 0, .ref so, .ref mo, .ref wh, .ref pf])) := fr9 _ _ (by simp only [List.mem_cons, List.not_mem_nil, or_false]; intro q; rcases q with q | q <;> exact absurd q (by omega)) h_m
  have k5 : u2 v = some (.inl (cy 0, 6441, .inl (fun _ => 0))) := fr9 _ _ (by simp only [List.mem_cons, List.not_mem_nil, or_false]; intro q; rcases q with q | q <;> exact absurd q (by omega)) h_v
  refine g_cI C0 G (g_runV C0 G (rest := []) (k_X9_play hfl k4 k5) k4 rfl hY_X9_play mm_L_163 mi_X9_play ml_X9_play ⟨(Nat.le_of_ble_eq_true rfl), (Nat.le_of_ble_eq_true rfl)⟩ rfl hl.1 rfl (Nat.le_of_ble_eq_true rfl) dL_law_874 ⟨(Nat.le_of_ble_eq_true rfl), (Nat.le_of_ble_eq_true rfl)⟩) (kx_no rfl) (fun r8 u7 H locs hp6 G => ?_)
  obtain ⟨rest9, hm9⟩ := hp6
  refine lv_istore (lv' := [(7, .int r8), (6, .int 1), (0, .ref b), (1, .ref sc), (2, .ref m), (3, .ref out), (4, .ref outD), (5, .int 0)]) hx hb dL_law_877 hl (by decide) rfl (fun ls hl => ?_)
  refine lv_aload_n hx hb dL_law_879 rfl (lv_at hl 4 rfl) ?_
  refine g_cI C0 G (g_runV C0 G (rest := []) (k_X9_thrown hfl hm9) hm9 rfl hY_X9_thrown mm_L_128 mi_X9_thrown ml_X9_thrown ⟨(Nat.le_of_ble_eq_true rfl), (Nat.le_of_ble_eq_true rfl)⟩ rfl hl.1 rfl (Nat.le_of_ble_eq_true rfl) dL_law_880 ⟨(Nat.le_of_ble_eq_true rfl), (Nat.le_of_ble_eq_true rfl)⟩) (kx_no rfl) (fun r11 u10 H locs hp9 G => ?_)
  obtain ⟨rfl, eu10⟩ := hp9
  rw [eu10] at G
  refine lv_iload hx hb dL_law_883 (lv_at hl 1 rfl) ?_
  refine lv_icmp_eq (tgt := 890) hx hb dL_law_885 (by decide) (fun _ => ?_) (fun c12 => absurd (by decide) c12)
  refine lv_iload hx hb dL_law_890 (lv_at hl 1 rfl) ?_
  refine lv_if_ne (tgt := 907) hx hb dL_law_892 (by decide) (fun _ => ?_) (fun c13 => absurd c13 (by decide))
  refine lv_goto (tgt := 2164) hx hb dL_law_907 (by decide) ?_
  exact law_tail hfl C9 C0 G (Nat.le_of_ble_eq_true rfl) (Nat.le_of_ble_eq_true rfl) (lv_sub hl [2, 7] rfl)
set_option maxRecDepth 100000 in
theorem law_case_13 {p : Program} {e : Env} {s : State} {m9 : MethodId} {below : List Frame} {meth : Method} {c : Code} {l : Launch} {b  : Nat} {xs : Nat → Int32} {D : va_G} {cy : Nat → ClassId} {sc m0 al i0 i1 i2 i3 i4 i5 i6 i7 i8 i9 i10 i11 i12 lg ln lst len sv sn sst sen tx bf tn tp r0 r0e r1 r1e m v im kp pa de ide mtx pt so mo wh pf out outD m1 : Nat} {g0 : Nat → Option Nat} {f : Hf} {H : Heap} {locs : List Loc} {ls : Array Slot} (hfl : l.stackTraces = false) (C9 : lw_At p s m9 meth c b 6 xs) (C0 : hC p l s m9 meth c code 9 #[Value.ref b] RL D (hTy cy) (hA f00 s.heap.size)) (hord : sc < m0 ∧ m0 < al ∧ al < i0 ∧ i0 < i1 ∧ i1 < i2 ∧ i2 < i3 ∧ i3 < i4 ∧ i4 < i5 ∧ i5 < i6 ∧ i6 < i7 ∧ i7 < i8 ∧ i8 < i9 ∧ i9 < i10 ∧ i10 < i11 ∧ i11 < i12 ∧ i12 < lg ∧ lg < ln ∧ ln < lst ∧ lst < len ∧ len < sv ∧ sv < sn ∧ sn < sst ∧ sst < sen ∧ sen < tx ∧ tx < bf ∧ bf < tn ∧ tn < tp ∧ tp < r0 ∧ r0 < r0e ∧ r0e < r1 ∧ r1 < r1e ∧ r1e < m ∧ m < v ∧ v < im ∧ im < kp ∧ kp < pa ∧ pa < de ∧ de < ide ∧ ide < mtx ∧ mtx < pt ∧ pt < so ∧ so < mo ∧ mo < wh ∧ wh < pf ∧ pf < out ∧ out < outD) (hg0 : g0 0 = some i0) (G : hG D (hA f00 s.heap.size) f s H locs) (hl : lv_has ls 9 [(0, .ref b), (1, .ref sc), (2, .ref m), (3, .ref out), (4, .ref outD), (5, .int 0)]) (h_sc : f sc = some (.inr (10, [.ref m0, .ref m1, .ref lg, .ref sv, .ref tx, .ref r0, .ref r1, .int (-1), .int (-1), .int 0]))) (h_m0 : f m0 = some (.inr (4, [.ref al, .int 0, .int 0, .int 0, .int 0, .int 0]))) (h_m : f m = some (.inr (11, [.int 0, .int 0, .ref v, .ref im, .ref kp, .ref pa, .ref de, .ref ide, .int 0, .int 0, .ref mtx, .int 0, .int (-1), .int (-1), .ref pt, .int 0, .int 0, .int 0, .ref so, .ref mo, .ref wh, .ref pf]))) (h_v : f v = some (.inl (cy 0, 6441, .inl (fun _ => 0)))) : W p l e room_1 s m9 #[Value.ref b] below meth c H locs 140 156303 (lw_Z below #[Value.ref b] s) (F0 m9 1054 ls []) := by
  obtain ⟨oo0, oo1, oo2, oo3, oo4, oo5, oo6, oo7, oo8, oo9, oo10, oo11, oo12, oo13, oo14, oo15, oo16, oo17, oo18, oo19, oo20, oo21, oo22, oo23, oo24, oo25, oo26, oo27, oo28, oo29, oo30, oo31, oo32, oo33, oo34, oo35, oo36, oo37, oo38, oo39, oo40, oo41, oo42, oo43, oo44, oo45⟩ := hord
  obtain ⟨hx, hb, hr, hml, hown, hts, hX, hbl, hlocks, hgv⟩ := id C9
  have hbA : ¬ hA f00 s.heap.size b := fun q => by rcases q with q | q; exact q rfl; omega
  refine lv_aload_n hx hb dL_law_1054 rfl (lv_at hl 1 rfl) ?_
  refine lv_aload_n hx hb dL_law_1055 rfl (lv_at hl 0 rfl) ?_
  refine lv_iload hx hb dL_law_1056 (lv_at hl 5 rfl) ?_
  refine lv_iconst (v := 1) hx hb dL_law_1058 (by decide) ?_
  refine lv_iadd hx hb dL_law_1059 ?_
  refine lv_topv (v := 1) (by decide) ?_
  refine va_sld hx hb hX hbl hbA G.2 (i := 1) (by unfold vp_in; decide) dL_law_1060 ?_
  refine lv_aload_n hx hb dL_law_1061 rfl (lv_at hl 0 rfl) ?_
  refine lv_iload hx hb dL_law_1062 (lv_at hl 5 rfl) ?_
  refine lv_iconst (v := 2) hx hb dL_law_1064 (by decide) ?_
  refine lv_iadd hx hb dL_law_1065 ?_
  refine lv_topv (v := 2) (by decide) ?_
  refine va_sld hx hb hX hbl hbA G.2 (i := 2) (by unfold vp_in; decide) dL_law_1066 ?_
  refine lv_aload_n hx hb dL_law_1067 rfl (lv_at hl 3 rfl) ?_
  refine g_cI C0 G (g_runSH C0 G (rest := []) (k_L_innings hfl (xs 1) (xs 2) h_sc h_m0) hYH_L_innings mm_L_173 ms_L_innings ⟨(Nat.le_of_ble_eq_true rfl), (Nat.le_of_ble_eq_true rfl)⟩ rfl hl.1 rfl (Nat.le_of_ble_eq_true rfl) dL_law_1068 ⟨(Nat.le_of_ble_eq_true rfl), (Nat.le_of_ble_eq_true rfl)⟩) (kx_no rfl) (fun r1 u2 H locs hp3 G => ?_)
  obtain ⟨rfl, fr9⟩ := hp3
  refine lv_istore (lv' := [(6, .int 1), (0, .ref b), (1, .ref sc), (2, .ref m), (3, .ref out), (4, .ref outD), (5, .int 0)]) hx hb dL_law_1071 hl (by decide) rfl (fun ls hl => ?_)
  refine lv_aload_n hx hb dL_law_1073 rfl (lv_at hl 3 rfl) ?_
  refine lv_aload_n hx hb dL_law_1074 rfl (lv_at hl 1 rfl) ?_
  refine lv_iload hx hb dL_law_1075 (lv_at hl 6 rfl) ?_
  refine lv_iconst (v := 1) hx hb dL_law_1077 (by decide) ?_
  refine lv_iadd hx hb dL_law_1078 ?_
  refine lv_topv (v := 1) (by decide) ?_
  refine va_sld hx hb hX hbl hbA G.2 (i := 1) (by unfold vp_in; decide) dL_law_1079 ?_
  refine lv_aload_n hx hb dL_law_1080 rfl (lv_at hl 1 rfl) ?_
  refine lv_iload hx hb dL_law_1081 (lv_at hl 6 rfl) ?_
  refine lv_iconst (v := 2) hx hb dL_law_1083 (by decide) ?_
  refine lv_iadd hx hb dL_law_1084 ?_
  refine lv_topv (v := 2) (by decide) ?_
  refine va_sld hx hb hX hbl hbA G.2 (i := 2) (by unfold vp_in; decide) dL_law_1085 ?_
  have k4 : u2 m = some (.inr (11, [.int 0, .int 0, .ref v, .ref im, .ref kp, .ref pa, .ref de, .ref ide, .int 0, .int 0, .ref mtx, .int 0, .int (-1), .int (-1), .ref pt, .int 0, .int 0, .int 0, .ref so, .ref mo, .ref wh, .ref pf])) := fr9 _ _ (by omega) h_m
  have k5 : u2 v = some (.inl (cy 0, 6441, .inl (fun _ => 0))) := fr9 _ _ (by omega) h_v
  refine g_cI C0 G (g_runV C0 G (rest := []) (k_X9_innings hfl (xs 1) (xs 2) k4 k5) k4 rfl hY_X9_innings mm_L_176 mi_X9_innings ml_X9_innings ⟨(Nat.le_of_ble_eq_true rfl), (Nat.le_of_ble_eq_true rfl)⟩ rfl hl.1 rfl (Nat.le_of_ble_eq_true rfl) dL_law_1086 ⟨(Nat.le_of_ble_eq_true rfl), (Nat.le_of_ble_eq_true rfl)⟩) (kx_no rfl) (fun r8 u7 H locs hp6 G => ?_)
  obtain ⟨rest9, hm9⟩ := hp6
  refine lv_istore (lv' := [(7, .int r8), (6, .int 1), (0, .ref b), (1, .ref sc), (2, .ref m), (3, .ref out), (4, .ref outD), (5, .int 0)]) hx hb dL_law_1089 hl (by decide) rfl (fun ls hl => ?_)
  refine lv_aload_n hx hb dL_law_1091 rfl (lv_at hl 4 rfl) ?_
  refine g_cI C0 G (g_runV C0 G (rest := []) (k_X9_thrown hfl hm9) hm9 rfl hY_X9_thrown mm_L_128 mi_X9_thrown ml_X9_thrown ⟨(Nat.le_of_ble_eq_true rfl), (Nat.le_of_ble_eq_true rfl)⟩ rfl hl.1 rfl (Nat.le_of_ble_eq_true rfl) dL_law_1092 ⟨(Nat.le_of_ble_eq_true rfl), (Nat.le_of_ble_eq_true rfl)⟩) (kx_no rfl) (fun r11 u10 H locs hp9 G => ?_)
  obtain ⟨rfl, eu10⟩ := hp9
  rw [eu10] at G
  refine lv_iload hx hb dL_law_1095 (lv_at hl 1 rfl) ?_
  refine lv_icmp_eq (tgt := 1102) hx hb dL_law_1097 (by decide) (fun _ => ?_) (fun c12 => absurd (by decide) c12)
  refine lv_iload hx hb dL_law_1102 (lv_at hl 1 rfl) ?_
  refine lv_if_ne (tgt := 1119) hx hb dL_law_1104 (by decide) (fun _ => ?_) (fun c13 => absurd c13 (by decide))
  refine lv_goto (tgt := 2164) hx hb dL_law_1119 (by decide) ?_
  exact law_tail hfl C9 C0 G (Nat.le_of_ble_eq_true rfl) (Nat.le_of_ble_eq_true rfl) (lv_sub hl [2, 7] rfl)
set_option maxRecDepth 100000 in
theorem law_case_17 {p : Program} {e : Env} {s : State} {m9 : MethodId} {below : List Frame} {meth : Method} {c : Code} {l : Launch} {b  : Nat} {xs : Nat → Int32} {D : va_G} {cy : Nat → ClassId} {sc m0 al i0 i1 i2 i3 i4 i5 i6 i7 i8 i9 i10 i11 i12 lg ln lst len sv sn sst sen tx bf tn tp r0 r0e r1 r1e m v im kp pa de ide mtx pt so mo wh pf out outD m1 : Nat} {g0 : Nat → Option Nat} {f : Hf} {H : Heap} {locs : List Loc} {ls : Array Slot} (hfl : l.stackTraces = false) (C9 : lw_At p s m9 meth c b 6 xs) (C0 : hC p l s m9 meth c code 9 #[Value.ref b] RL D (hTy cy) (hA f00 s.heap.size)) (hord : sc < m0 ∧ m0 < al ∧ al < i0 ∧ i0 < i1 ∧ i1 < i2 ∧ i2 < i3 ∧ i3 < i4 ∧ i4 < i5 ∧ i5 < i6 ∧ i6 < i7 ∧ i7 < i8 ∧ i8 < i9 ∧ i9 < i10 ∧ i10 < i11 ∧ i11 < i12 ∧ i12 < lg ∧ lg < ln ∧ ln < lst ∧ lst < len ∧ len < sv ∧ sv < sn ∧ sn < sst ∧ sst < sen ∧ sen < tx ∧ tx < bf ∧ bf < tn ∧ tn < tp ∧ tp < r0 ∧ r0 < r0e ∧ r0e < r1 ∧ r1 < r1e ∧ r1e < m ∧ m < v ∧ v < im ∧ im < kp ∧ kp < pa ∧ pa < de ∧ de < ide ∧ ide < mtx ∧ mtx < pt ∧ pt < so ∧ so < mo ∧ mo < wh ∧ wh < pf ∧ pf < out ∧ out < outD) (hg0 : g0 0 = some i0) (G : hG D (hA f00 s.heap.size) f s H locs) (hl : lv_has ls 9 [(0, .ref b), (1, .ref sc), (2, .ref m), (3, .ref out), (4, .ref outD), (5, .int 0)]) (h_sc : f sc = some (.inr (10, [.ref m0, .ref m1, .ref lg, .ref sv, .ref tx, .ref r0, .ref r1, .int (-1), .int (-1), .int 0]))) (h_m0 : f m0 = some (.inr (4, [.ref al, .int 0, .int 0, .int 0, .int 0, .int 0]))) (h_m : f m = some (.inr (11, [.int 0, .int 0, .ref v, .ref im, .ref kp, .ref pa, .ref de, .ref ide, .int 0, .int 0, .ref mtx, .int 0, .int (-1), .int (-1), .ref pt, .int 0, .int 0, .int 0, .ref so, .ref mo, .ref wh, .ref pf]))) (h_v : f v = some (.inl (cy 0, 6441, .inl (fun _ => 0)))) : W p l e room_1 s m9 #[Value.ref b] below meth c H locs 140 156303 (lw_Z below #[Value.ref b] s) (F0 m9 1362 ls []) := by
  obtain ⟨oo0, oo1, oo2, oo3, oo4, oo5, oo6, oo7, oo8, oo9, oo10, oo11, oo12, oo13, oo14, oo15, oo16, oo17, oo18, oo19, oo20, oo21, oo22, oo23, oo24, oo25, oo26, oo27, oo28, oo29, oo30, oo31, oo32, oo33, oo34, oo35, oo36, oo37, oo38, oo39, oo40, oo41, oo42, oo43, oo44, oo45⟩ := hord
  obtain ⟨hx, hb, hr, hml, hown, hts, hX, hbl, hlocks, hgv⟩ := id C9
  have hbA : ¬ hA f00 s.heap.size b := fun q => by rcases q with q | q; exact q rfl; omega
  refine lv_aload_n hx hb dL_law_1362 rfl (lv_at hl 1 rfl) ?_
  refine lv_aload_n hx hb dL_law_1363 rfl (lv_at hl 0 rfl) ?_
  refine lv_iload hx hb dL_law_1364 (lv_at hl 5 rfl) ?_
  refine lv_iconst (v := 1) hx hb dL_law_1366 (by decide) ?_
  refine lv_iadd hx hb dL_law_1367 ?_
  refine lv_topv (v := 1) (by decide) ?_
  refine va_sld hx hb hX hbl hbA G.2 (i := 1) (by unfold vp_in; decide) dL_law_1368 ?_
  refine lv_aload_n hx hb dL_law_1369 rfl (lv_at hl 0 rfl) ?_
  refine lv_iload hx hb dL_law_1370 (lv_at hl 5 rfl) ?_
  refine lv_iconst (v := 2) hx hb dL_law_1372 (by decide) ?_
  refine lv_iadd hx hb dL_law_1373 ?_
  refine lv_topv (v := 2) (by decide) ?_
  refine va_sld hx hb hX hbl hbA G.2 (i := 2) (by unfold vp_in; decide) dL_law_1374 ?_
  refine lv_aload_n hx hb dL_law_1375 rfl (lv_at hl 0 rfl) ?_
  refine lv_iload hx hb dL_law_1376 (lv_at hl 5 rfl) ?_
  refine lv_iconst (v := 3) hx hb dL_law_1378 (by decide) ?_
  refine lv_iadd hx hb dL_law_1379 ?_
  refine lv_topv (v := 3) (by decide) ?_
  refine va_sld hx hb hX hbl hbA G.2 (i := 3) (by unfold vp_in; decide) dL_law_1380 ?_
  refine lv_aload_n hx hb dL_law_1381 rfl (lv_at hl 3 rfl) ?_
  refine g_cI C0 G (g_runSH C0 G (rest := []) (k_L_fall hfl (xs 1) (xs 2) (xs 3) h_sc h_m0) hYH_L_fall mm_L_186 ms_L_fall ⟨(Nat.le_of_ble_eq_true rfl), (Nat.le_of_ble_eq_true rfl)⟩ rfl hl.1 rfl (Nat.le_of_ble_eq_true rfl) dL_law_1382 ⟨(Nat.le_of_ble_eq_true rfl), (Nat.le_of_ble_eq_true rfl)⟩) (kx_no rfl) (fun r1 u2 H locs hp3 G => ?_)
  obtain ⟨rfl, fr9⟩ := hp3
  refine lv_istore (lv' := [(6, .int 1), (0, .ref b), (1, .ref sc), (2, .ref m), (3, .ref out), (4, .ref outD), (5, .int 0)]) hx hb dL_law_1385 hl (by decide) rfl (fun ls hl => ?_)
  refine lv_aload_n hx hb dL_law_1387 rfl (lv_at hl 3 rfl) ?_
  refine lv_aload_n hx hb dL_law_1388 rfl (lv_at hl 1 rfl) ?_
  refine lv_iload hx hb dL_law_1389 (lv_at hl 6 rfl) ?_
  refine lv_iconst (v := 1) hx hb dL_law_1391 (by decide) ?_
  refine lv_iadd hx hb dL_law_1392 ?_
  refine lv_topv (v := 1) (by decide) ?_
  refine va_sld hx hb hX hbl hbA G.2 (i := 1) (by unfold vp_in; decide) dL_law_1393 ?_
  refine lv_aload_n hx hb dL_law_1394 rfl (lv_at hl 1 rfl) ?_
  refine lv_iload hx hb dL_law_1395 (lv_at hl 6 rfl) ?_
  refine lv_iconst (v := 2) hx hb dL_law_1397 (by decide) ?_
  refine lv_iadd hx hb dL_law_1398 ?_
  refine lv_topv (v := 2) (by decide) ?_
  refine va_sld hx hb hX hbl hbA G.2 (i := 2) (by unfold vp_in; decide) dL_law_1399 ?_
  refine lv_aload_n hx hb dL_law_1400 rfl (lv_at hl 1 rfl) ?_
  refine lv_iload hx hb dL_law_1401 (lv_at hl 6 rfl) ?_
  refine lv_iconst (v := 3) hx hb dL_law_1403 (by decide) ?_
  refine lv_iadd hx hb dL_law_1404 ?_
  refine lv_topv (v := 3) (by decide) ?_
  refine va_sld hx hb hX hbl hbA G.2 (i := 3) (by unfold vp_in; decide) dL_law_1405 ?_
  have k4 : u2 m = some (.inr (11, [.int 0, .int 0, .ref v, .ref im, .ref kp, .ref pa, .ref de, .ref ide, .int 0, .int 0, .ref mtx, .int 0, .int (-1), .int (-1), .ref pt, .int 0, .int 0, .int 0, .ref so, .ref mo, .ref wh, .ref pf])) := fr9 _ _ (by omega) h_m
  have k5 : u2 v = some (.inl (cy 0, 6441, .inl (fun _ => 0))) := fr9 _ _ (by omega) h_v
  refine g_cI C0 G (g_runV C0 G (rest := []) (k_X9_fall hfl (xs 1) (xs 2) (xs 3) k4 k5) k4 rfl hY_X9_fall mm_L_188 mi_X9_fall ml_X9_fall ⟨(Nat.le_of_ble_eq_true rfl), (Nat.le_of_ble_eq_true rfl)⟩ rfl hl.1 rfl (Nat.le_of_ble_eq_true rfl) dL_law_1406 ⟨(Nat.le_of_ble_eq_true rfl), (Nat.le_of_ble_eq_true rfl)⟩) (kx_no rfl) (fun r8 u7 H locs hp6 G => ?_)
  obtain ⟨rest9, hm9⟩ := hp6
  refine lv_istore (lv' := [(7, .int r8), (6, .int 1), (0, .ref b), (1, .ref sc), (2, .ref m), (3, .ref out), (4, .ref outD), (5, .int 0)]) hx hb dL_law_1409 hl (by decide) rfl (fun ls hl => ?_)
  refine lv_aload_n hx hb dL_law_1411 rfl (lv_at hl 4 rfl) ?_
  refine g_cI C0 G (g_runV C0 G (rest := []) (k_X9_thrown hfl hm9) hm9 rfl hY_X9_thrown mm_L_128 mi_X9_thrown ml_X9_thrown ⟨(Nat.le_of_ble_eq_true rfl), (Nat.le_of_ble_eq_true rfl)⟩ rfl hl.1 rfl (Nat.le_of_ble_eq_true rfl) dL_law_1412 ⟨(Nat.le_of_ble_eq_true rfl), (Nat.le_of_ble_eq_true rfl)⟩) (kx_no rfl) (fun r11 u10 H locs hp9 G => ?_)
  obtain ⟨rfl, eu10⟩ := hp9
  rw [eu10] at G
  refine lv_iload hx hb dL_law_1415 (lv_at hl 1 rfl) ?_
  refine lv_icmp_eq (tgt := 1422) hx hb dL_law_1417 (by decide) (fun _ => ?_) (fun c12 => absurd (by decide) c12)
  refine lv_iload hx hb dL_law_1422 (lv_at hl 1 rfl) ?_
  refine lv_if_ne (tgt := 1439) hx hb dL_law_1424 (by decide) (fun _ => ?_) (fun c13 => absurd c13 (by decide))
  refine lv_goto (tgt := 2164) hx hb dL_law_1439 (by decide) ?_
  exact law_tail hfl C9 C0 G (Nat.le_of_ble_eq_true rfl) (Nat.le_of_ble_eq_true rfl) (lv_sub hl [2, 7] rfl)
set_option maxRecDepth 100000 in
theorem law_case_21 {p : Program} {e : Env} {s : State} {m9 : MethodId} {below : List Frame} {meth : Method} {c : Code} {l : Launch} {b  : Nat} {xs : Nat → Int32} {D : va_G} {cy : Nat → ClassId} {sc m0 al i0 i1 i2 i3 i4 i5 i6 i7 i8 i9 i10 i11 i12 lg ln lst len sv sn sst sen tx bf tn tp r0 r0e r1 r1e m v im kp pa de ide mtx pt so mo wh pf out outD m1 : Nat} {g0 : Nat → Option Nat} {f : Hf} {H : Heap} {locs : List Loc} {ls : Array Slot} (hfl : l.stackTraces = false) (C9 : lw_At p s m9 meth c b 6 xs) (C0 : hC p l s m9 meth c code 9 #[Value.ref b] RL D (hTy cy) (hA f00 s.heap.size)) (hord : sc < m0 ∧ m0 < al ∧ al < i0 ∧ i0 < i1 ∧ i1 < i2 ∧ i2 < i3 ∧ i3 < i4 ∧ i4 < i5 ∧ i5 < i6 ∧ i6 < i7 ∧ i7 < i8 ∧ i8 < i9 ∧ i9 < i10 ∧ i10 < i11 ∧ i11 < i12 ∧ i12 < lg ∧ lg < ln ∧ ln < lst ∧ lst < len ∧ len < sv ∧ sv < sn ∧ sn < sst ∧ sst < sen ∧ sen < tx ∧ tx < bf ∧ bf < tn ∧ tn < tp ∧ tp < r0 ∧ r0 < r0e ∧ r0e < r1 ∧ r1 < r1e ∧ r1e < m ∧ m < v ∧ v < im ∧ im < kp ∧ kp < pa ∧ pa < de ∧ de < ide ∧ ide < mtx ∧ mtx < pt ∧ pt < so ∧ so < mo ∧ mo < wh ∧ wh < pf ∧ pf < out ∧ out < outD) (hg0 : g0 0 = some i0) (G : hG D (hA f00 s.heap.size) f s H locs) (hl : lv_has ls 9 [(0, .ref b), (1, .ref sc), (2, .ref m), (3, .ref out), (4, .ref outD), (5, .int 0)]) (h_sc : f sc = some (.inr (10, [.ref m0, .ref m1, .ref lg, .ref sv, .ref tx, .ref r0, .ref r1, .int (-1), .int (-1), .int 0]))) (h_m0 : f m0 = some (.inr (4, [.ref al, .int 0, .int 0, .int 0, .int 0, .int 0]))) (h_m : f m = some (.inr (11, [.int 0, .int 0, .ref v, .ref im, .ref kp, .ref pa, .ref de, .ref ide, .int 0, .int 0, .ref mtx, .int 0, .int (-1), .int (-1), .ref pt, .int 0, .int 0, .int 0, .ref so, .ref mo, .ref wh, .ref pf]))) (h_v : f v = some (.inl (cy 0, 6441, .inl (fun _ => 0)))) : W p l e room_1 s m9 #[Value.ref b] below meth c H locs 140 156303 (lw_Z below #[Value.ref b] s) (F0 m9 1604 ls []) := by
  obtain ⟨oo0, oo1, oo2, oo3, oo4, oo5, oo6, oo7, oo8, oo9, oo10, oo11, oo12, oo13, oo14, oo15, oo16, oo17, oo18, oo19, oo20, oo21, oo22, oo23, oo24, oo25, oo26, oo27, oo28, oo29, oo30, oo31, oo32, oo33, oo34, oo35, oo36, oo37, oo38, oo39, oo40, oo41, oo42, oo43, oo44, oo45⟩ := hord
  obtain ⟨hx, hb, hr, hml, hown, hts, hX, hbl, hlocks, hgv⟩ := id C9
  have hbA : ¬ hA f00 s.heap.size b := fun q => by rcases q with q | q; exact q rfl; omega
  refine lv_aload_n hx hb dL_law_1604 rfl (lv_at hl 1 rfl) ?_
  refine lv_aload_n hx hb dL_law_1605 rfl (lv_at hl 0 rfl) ?_
  refine lv_iload hx hb dL_law_1606 (lv_at hl 5 rfl) ?_
  refine lv_iconst (v := 1) hx hb dL_law_1608 (by decide) ?_
  refine lv_iadd hx hb dL_law_1609 ?_
  refine lv_topv (v := 1) (by decide) ?_
  refine va_sld hx hb hX hbl hbA G.2 (i := 1) (by unfold vp_in; decide) dL_law_1610 ?_
  refine lv_aload_n hx hb dL_law_1611 rfl (lv_at hl 0 rfl) ?_
  refine lv_iload hx hb dL_law_1612 (lv_at hl 5 rfl) ?_
  refine lv_iconst (v := 2) hx hb dL_law_1614 (by decide) ?_
  refine lv_iadd hx hb dL_law_1615 ?_
  refine lv_topv (v := 2) (by decide) ?_
  refine va_sld hx hb hX hbl hbA G.2 (i := 2) (by unfold vp_in; decide) dL_law_1616 ?_
  refine lv_aload hx hb dL_law_1617 (lv_at hl 4 rfl) ?_
  refine g_cI C0 G (g_runSH C0 G (rest := []) (k_L_strikeRate hfl (xs 1) (xs 2) h_sc h_m0) hYH_L_strikeRate mm_L_201 ms_L_strikeRate ⟨(Nat.le_of_ble_eq_true rfl), (Nat.le_of_ble_eq_true rfl)⟩ rfl hl.1 rfl (Nat.le_of_ble_eq_true rfl) dL_law_1619 ⟨(Nat.le_of_ble_eq_true rfl), (Nat.le_of_ble_eq_true rfl)⟩) (kx_no rfl) (fun r1 u2 H locs hp3 G => ?_)
  obtain ⟨rfl, fr9⟩ := hp3
  refine lv_istore (lv' := [(6, .int 1), (0, .ref b), (1, .ref sc), (2, .ref m), (3, .ref out), (4, .ref outD), (5, .int 0)]) hx hb dL_law_1622 hl (by decide) rfl (fun ls hl => ?_)
  refine lv_aload_n hx hb dL_law_1624 rfl (lv_at hl 3 rfl) ?_
  refine lv_aload_n hx hb dL_law_1625 rfl (lv_at hl 1 rfl) ?_
  refine lv_iload hx hb dL_law_1626 (lv_at hl 6 rfl) ?_
  refine lv_iconst (v := 1) hx hb dL_law_1628 (by decide) ?_
  refine lv_iadd hx hb dL_law_1629 ?_
  refine lv_topv (v := 1) (by decide) ?_
  refine va_sld hx hb hX hbl hbA G.2 (i := 1) (by unfold vp_in; decide) dL_law_1630 ?_
  refine lv_aload_n hx hb dL_law_1631 rfl (lv_at hl 1 rfl) ?_
  refine lv_iload hx hb dL_law_1632 (lv_at hl 6 rfl) ?_
  refine lv_iconst (v := 2) hx hb dL_law_1634 (by decide) ?_
  refine lv_iadd hx hb dL_law_1635 ?_
  refine lv_topv (v := 2) (by decide) ?_
  refine va_sld hx hb hX hbl hbA G.2 (i := 2) (by unfold vp_in; decide) dL_law_1636 ?_
  have k4 : u2 m = some (.inr (11, [.int 0, .int 0, .ref v, .ref im, .ref kp, .ref pa, .ref de, .ref ide, .int 0, .int 0, .ref mtx, .int 0, .int (-1), .int (-1), .ref pt, .int 0, .int 0, .int 0, .ref so, .ref mo, .ref wh, .ref pf])) := fr9 _ _ (by omega) h_m
  have k5 : u2 v = some (.inl (cy 0, 6441, .inl (fun _ => 0))) := fr9 _ _ (by omega) h_v
  refine g_cF C0 G (g_runV C0 G (rest := []) (k_X9_strikeRate hfl (xs 1) (xs 2) k4 k5) k4 rfl hY_X9_strikeRate mm_L_204 mi_X9_strikeRate ml_X9_strikeRate ⟨(Nat.le_of_ble_eq_true rfl), (Nat.le_of_ble_eq_true rfl)⟩ rfl hl.1 rfl (Nat.le_of_ble_eq_true rfl) dL_law_1637 ⟨(Nat.le_of_ble_eq_true rfl), (Nat.le_of_ble_eq_true rfl)⟩) (kx_no rfl) (fun r6 u7 H locs hp8 G => ?_)
  obtain ⟨rest9, hm9⟩ := hp8
  refine lv_fstore (lv' := [(7, .float r6), (6, .int 1), (0, .ref b), (1, .ref sc), (2, .ref m), (3, .ref out), (4, .ref outD), (5, .int 0)]) hx hb dL_law_1640 hl (by decide) rfl (fun ls hl => ?_)
  refine lv_aload_n hx hb dL_law_1642 rfl (lv_at hl 4 rfl) ?_
  refine g_cI C0 G (g_runV C0 G (rest := []) (k_X9_thrown hfl hm9) hm9 rfl hY_X9_thrown mm_L_128 mi_X9_thrown ml_X9_thrown ⟨(Nat.le_of_ble_eq_true rfl), (Nat.le_of_ble_eq_true rfl)⟩ rfl hl.1 rfl (Nat.le_of_ble_eq_true rfl) dL_law_1643 ⟨(Nat.le_of_ble_eq_true rfl), (Nat.le_of_ble_eq_true rfl)⟩) (kx_no rfl) (fun r11 u10 H locs hp9 G => ?_)
  obtain ⟨rfl, eu10⟩ := hp9
  rw [eu10] at G
  refine lv_iload hx hb dL_law_1646 (lv_at hl 1 rfl) ?_
  refine lv_icmp_eq (tgt := 1653) hx hb dL_law_1648 (by decide) (fun _ => ?_) (fun c12 => absurd (by decide) c12)
  refine lv_iload hx hb dL_law_1653 (lv_at hl 1 rfl) ?_
  refine lv_if_ne (tgt := 1691) hx hb dL_law_1655 (by decide) (fun _ => ?_) (fun c13 => absurd c13 (by decide))
  refine lv_goto (tgt := 2164) hx hb dL_law_1691 (by decide) ?_
  exact law_tail hfl C9 C0 G (Nat.le_of_ble_eq_true rfl) (Nat.le_of_ble_eq_true rfl) (lv_sub hl [2, 7] rfl)
set_option maxRecDepth 100000 in
theorem law_case_25 {p : Program} {e : Env} {s : State} {m9 : MethodId} {below : List Frame} {meth : Method} {c : Code} {l : Launch} {b  : Nat} {xs : Nat → Int32} {D : va_G} {cy : Nat → ClassId} {sc m0 al i0 i1 i2 i3 i4 i5 i6 i7 i8 i9 i10 i11 i12 lg ln lst len sv sn sst sen tx bf tn tp r0 r0e r1 r1e m v im kp pa de ide mtx pt so mo wh pf out outD m1 : Nat} {g0 : Nat → Option Nat} {f : Hf} {H : Heap} {locs : List Loc} {ls : Array Slot} (hfl : l.stackTraces = false) (C9 : lw_At p s m9 meth c b 6 xs) (C0 : hC p l s m9 meth c code 9 #[Value.ref b] RL D (hTy cy) (hA f00 s.heap.size)) (hord : sc < m0 ∧ m0 < al ∧ al < i0 ∧ i0 < i1 ∧ i1 < i2 ∧ i2 < i3 ∧ i3 < i4 ∧ i4 < i5 ∧ i5 < i6 ∧ i6 < i7 ∧ i7 < i8 ∧ i8 < i9 ∧ i9 < i10 ∧ i10 < i11 ∧ i11 < i12 ∧ i12 < lg ∧ lg < ln ∧ ln < lst ∧ lst < len ∧ len < sv ∧ sv < sn ∧ sn < sst ∧ sst < sen ∧ sen < tx ∧ tx < bf ∧ bf < tn ∧ tn < tp ∧ tp < r0 ∧ r0 < r0e ∧ r0e < r1 ∧ r1 < r1e ∧ r1e < m ∧ m < v ∧ v < im ∧ im < kp ∧ kp < pa ∧ pa < de ∧ de < ide ∧ ide < mtx ∧ mtx < pt ∧ pt < so ∧ so < mo ∧ mo < wh ∧ wh < pf ∧ pf < out ∧ out < outD) (hg0 : g0 0 = some i0) (G : hG D (hA f00 s.heap.size) f s H locs) (hl : lv_has ls 9 [(0, .ref b), (1, .ref sc), (2, .ref m), (3, .ref out), (4, .ref outD), (5, .int 0)]) (h_sc : f sc = some (.inr (10, [.ref m0, .ref m1, .ref lg, .ref sv, .ref tx, .ref r0, .ref r1, .int (-1), .int (-1), .int 0]))) (h_m : f m = some (.inr (11, [.int 0, .int 0, .ref v, .ref im, .ref kp, .ref pa, .ref de, .ref ide, .int 0, .int 0, .ref mtx, .int 0, .int (-1), .int (-1), .ref pt, .int 0, .int 0, .int 0, .ref so, .ref mo, .ref wh, .ref pf]))) : W p l e room_1 s m9 #[Value.ref b] below meth c H locs 140 156303 (lw_Z below #[Value.ref b] s) (F0 m9 1955 ls []) := by
  obtain ⟨oo0, oo1, oo2, oo3, oo4, oo5, oo6, oo7, oo8, oo9, oo10, oo11, oo12, oo13, oo14, oo15, oo16, oo17, oo18, oo19, oo20, oo21, oo22, oo23, oo24, oo25, oo26, oo27, oo28, oo29, oo30, oo31, oo32, oo33, oo34, oo35, oo36, oo37, oo38, oo39, oo40, oo41, oo42, oo43, oo44, oo45⟩ := hord
  obtain ⟨hx, hb, hr, hml, hown, hts, hX, hbl, hlocks, hgv⟩ := id C9
  have hbA : ¬ hA f00 s.heap.size b := fun q => by rcases q with q | q; exact q rfl; omega
  refine lv_aload_n hx hb dL_law_1955 rfl (lv_at hl 1 rfl) ?_
  refine g_cI C0 G (g_runV C0 G (rest := []) (k_X8_reason hfl h_sc) h_sc rfl hY_X8_reason mm_L_214 mi_X8_reason ml_X8_reason ⟨(Nat.le_of_ble_eq_true rfl), (Nat.le_of_ble_eq_true rfl)⟩ rfl hl.1 rfl (Nat.le_of_ble_eq_true rfl) dL_law_1956 ⟨(Nat.le_of_ble_eq_true rfl), (Nat.le_of_ble_eq_true rfl)⟩) (kx_no rfl) (fun r3 u2 H locs hp1 G => ?_)
  obtain ⟨rfl, eu2⟩ := hp1
  rw [eu2] at G
  refine lv_aload_n hx hb dL_law_1959 rfl (lv_at hl 2 rfl) ?_
  refine g_cI C0 G (g_runV C0 G (rest := [.int 0]) (k_X9_reason hfl h_m) h_m rfl hY_X9_reason mm_L_217 mi_X9_reason ml_X9_reason ⟨(Nat.le_of_ble_eq_true rfl), (Nat.le_of_ble_eq_true rfl)⟩ rfl hl.1 rfl (Nat.le_of_ble_eq_true rfl) dL_law_1960 ⟨(Nat.le_of_ble_eq_true rfl), (Nat.le_of_ble_eq_true rfl)⟩) (kx_no rfl) (fun r6 u5 H locs hp4 G => ?_)
  obtain ⟨rfl, -⟩ := hp4
  refine lv_icmp_eq (tgt := 2164) hx hb dL_law_1963 (by decide) (fun _ => ?_) (fun c7 => absurd (by decide) c7)
  exact law_tail hfl C9 C0 G (Nat.le_of_ble_eq_true rfl) (Nat.le_of_ble_eq_true rfl) (lv_sub hl [0, 5] rfl)
set_option maxRecDepth 100000 in
theorem law_case_29 {p : Program} {e : Env} {s : State} {m9 : MethodId} {below : List Frame} {meth : Method} {c : Code} {l : Launch} {b  : Nat} {xs : Nat → Int32} {D : va_G} {cy : Nat → ClassId} {sc m0 al i0 i1 i2 i3 i4 i5 i6 i7 i8 i9 i10 i11 i12 lg ln lst len sv sn sst sen tx bf tn tp r0 r0e r1 r1e m v im kp pa de ide mtx pt so mo wh pf out outD m1 : Nat} {g0 : Nat → Option Nat} {f : Hf} {H : Heap} {locs : List Loc} {ls : Array Slot} (hfl : l.stackTraces = false) (C9 : lw_At p s m9 meth c b 6 xs) (C0 : hC p l s m9 meth c code 9 #[Value.ref b] RL D (hTy cy) (hA f00 s.heap.size)) (hord : sc < m0 ∧ m0 < al ∧ al < i0 ∧ i0 < i1 ∧ i1 < i2 ∧ i2 < i3 ∧ i3 < i4 ∧ i4 < i5 ∧ i5 < i6 ∧ i6 < i7 ∧ i7 < i8 ∧ i8 < i9 ∧ i9 < i10 ∧ i10 < i11 ∧ i11 < i12 ∧ i12 < lg ∧ lg < ln ∧ ln < lst ∧ lst < len ∧ len < sv ∧ sv < sn ∧ sn < sst ∧ sst < sen ∧ sen < tx ∧ tx < bf ∧ bf < tn ∧ tn < tp ∧ tp < r0 ∧ r0 < r0e ∧ r0e < r1 ∧ r1 < r1e ∧ r1e < m ∧ m < v ∧ v < im ∧ im < kp ∧ kp < pa ∧ pa < de ∧ de < ide ∧ ide < mtx ∧ mtx < pt ∧ pt < so ∧ so < mo ∧ mo < wh ∧ wh < pf ∧ pf < out ∧ out < outD) (hg0 : g0 0 = some i0) (G : hG D (hA f00 s.heap.size) f s H locs) (hl : lv_has ls 9 [(0, .ref b), (1, .ref sc), (2, .ref m), (3, .ref out), (4, .ref outD), (5, .int 0)]) (h_sc : f sc = some (.inr (10, [.ref m0, .ref m1, .ref lg, .ref sv, .ref tx, .ref r0, .ref r1, .int (-1), .int (-1), .int 0]))) (h_lg : f lg = some (.inr (3, [.ref ln, .ref lst, .ref len, .int 0, .int 0, .int 0, .int 0, .int 0, .int 0]))) (h_m : f m = some (.inr (11, [.int 0, .int 0, .ref v, .ref im, .ref kp, .ref pa, .ref de, .ref ide, .int 0, .int 0, .ref mtx, .int 0, .int (-1), .int (-1), .ref pt, .int 0, .int 0, .int 0, .ref so, .ref mo, .ref wh, .ref pf]))) (h_v : f v = some (.inl (cy 0, 6441, .inl (fun _ => 0)))) : W p l e room_1 s m9 #[Value.ref b] below meth c H locs 140 156303 (lw_Z below #[Value.ref b] s) (F0 m9 2076 ls []) := by
  obtain ⟨oo0, oo1, oo2, oo3, oo4, oo5, oo6, oo7, oo8, oo9, oo10, oo11, oo12, oo13, oo14, oo15, oo16, oo17, oo18, oo19, oo20, oo21, oo22, oo23, oo24, oo25, oo26, oo27, oo28, oo29, oo30, oo31, oo32, oo33, oo34, oo35, oo36, oo37, oo38, oo39, oo40, oo41, oo42, oo43, oo44, oo45⟩ := hord
  obtain ⟨hx, hb, hr, hml, hown, hts, hX, hbl, hlocks, hgv⟩ := id C9
  have hbA : ¬ hA f00 s.heap.size b := fun q => by rcases q with q | q; exact q rfl; omega
  refine lv_aload_n hx hb dL_law_2076 rfl (lv_at hl 1 rfl) ?_
  refine lv_aload_n hx hb dL_law_2077 rfl (lv_at hl 3 rfl) ?_
  refine g_cI C0 G (g_runSH C0 G (rest := []) (k_L_snapshot hfl h_sc h_lg) hYH_L_snapshot mm_L_228 ms_L_snapshot ⟨(Nat.le_of_ble_eq_true rfl), (Nat.le_of_ble_eq_true rfl)⟩ rfl hl.1 rfl (Nat.le_of_ble_eq_true rfl) dL_law_2078 ⟨(Nat.le_of_ble_eq_true rfl), (Nat.le_of_ble_eq_true rfl)⟩) (kx_no rfl) (fun r1 u2 H locs hp3 G => ?_)
  obtain ⟨rfl, fr9⟩ := hp3
  refine lv_istore (lv' := [(6, .int 1), (0, .ref b), (1, .ref sc), (2, .ref m), (3, .ref out), (4, .ref outD), (5, .int 0)]) hx hb dL_law_2081 hl (by decide) rfl (fun ls hl => ?_)
  refine lv_aload_n hx hb dL_law_2083 rfl (lv_at hl 3 rfl) ?_
  have k4 : u2 m = some (.inr (11, [.int 0, .int 0, .ref v, .ref im, .ref kp, .ref pa, .ref de, .ref ide, .int 0, .int 0, .ref mtx, .int 0, .int (-1), .int (-1), .ref pt, .int 0, .int 0, .int 0, .ref so, .ref mo, .ref wh, .ref pf])) := fr9 _ _ (by omega) h_m
  have k5 : u2 v = some (.inl (cy 0, 6441, .inl (fun _ => 0))) := fr9 _ _ (by omega) h_v
  refine g_cI C0 G (g_runV C0 G (rest := []) (k_X9_snapshot hfl k4 k5) k4 rfl hY_X9_snapshot mm_L_230 mi_X9_snapshot ml_X9_snapshot ⟨(Nat.le_of_ble_eq_true rfl), (Nat.le_of_ble_eq_true rfl)⟩ rfl hl.1 rfl (Nat.le_of_ble_eq_true rfl) dL_law_2084 ⟨(Nat.le_of_ble_eq_true rfl), (Nat.le_of_ble_eq_true rfl)⟩) (kx_no rfl) (fun r8 u7 H locs hp6 G => ?_)
  obtain ⟨rest9, hm9⟩ := hp6
  refine lv_istore (lv' := [(7, .int r8), (6, .int 1), (0, .ref b), (1, .ref sc), (2, .ref m), (3, .ref out), (4, .ref outD), (5, .int 0)]) hx hb dL_law_2087 hl (by decide) rfl (fun ls hl => ?_)
  refine lv_aload_n hx hb dL_law_2089 rfl (lv_at hl 4 rfl) ?_
  refine g_cI C0 G (g_runV C0 G (rest := []) (k_X9_thrown hfl hm9) hm9 rfl hY_X9_thrown mm_L_128 mi_X9_thrown ml_X9_thrown ⟨(Nat.le_of_ble_eq_true rfl), (Nat.le_of_ble_eq_true rfl)⟩ rfl hl.1 rfl (Nat.le_of_ble_eq_true rfl) dL_law_2090 ⟨(Nat.le_of_ble_eq_true rfl), (Nat.le_of_ble_eq_true rfl)⟩) (kx_no rfl) (fun r11 u10 H locs hp9 G => ?_)
  obtain ⟨rfl, eu10⟩ := hp9
  rw [eu10] at G
  refine lv_iload hx hb dL_law_2093 (lv_at hl 1 rfl) ?_
  refine lv_icmp_eq (tgt := 2100) hx hb dL_law_2095 (by decide) (fun _ => ?_) (fun c12 => absurd (by decide) c12)
  refine lv_iload hx hb dL_law_2100 (lv_at hl 1 rfl) ?_
  refine lv_if_ne (tgt := 2117) hx hb dL_law_2102 (by decide) (fun _ => ?_) (fun c13 => absurd c13 (by decide))
  refine lv_goto (tgt := 2164) hx hb dL_law_2117 (by decide) ?_
  exact law_tail hfl C9 C0 G (Nat.le_of_ble_eq_true rfl) (Nat.le_of_ble_eq_true rfl) (lv_sub hl [2, 7] rfl)
