set_option maxRecDepth 100000 in
theorem law_case_0 {p : Program} {e : Env} {s : State} {m9 : MethodId} {below : List Frame} {meth : Method} {c : Code} {l : Launch} {b  : Nat} {xs : Nat → Int32} {D : va_G} {cy : Nat → ClassId} {sc m0 al i0 i1 i2 i3 i4 i5 i6 i7 i8 i9 i10 i11 i12 lg ln lst len sv sn sst sen tx bf tn tp r0 r0e r1 r1e m v im kp pa de ide mtx pt so mo wh pf out outD m1 : Nat} {g0 : Nat → Option Nat} {f : Hf} {H : Heap} {locs : List Loc} {ls : Array Slot} (hfl : l.stackTraces = false) (C9 : lw_At p s m9 meth c b 6 xs) (C0 : hC p l s m9 meth c code 9 #[Value.ref b] RL D (hTy cy) (hA f00 s.heap.size)) (hord : sc < m0 ∧ m0 < al ∧ al < i0 ∧ i0 < i1 ∧ i1 < i2 ∧ i2 < i3 ∧ i3 < i4 ∧ i4 < i5 ∧ i5 < i6 ∧ i6 < i7 ∧ i7 < i8 ∧ i8 < i9 ∧ i9 < i10 ∧ i10 < i11 ∧ i11 < i12 ∧ i12 < lg ∧ lg < ln ∧ ln < lst ∧ lst < len ∧ len < sv ∧ sv < sn ∧ sn < sst ∧ sst < sen ∧ sen < tx ∧ tx < bf ∧ bf < tn ∧ tn < tp ∧ tp < r0 ∧ r0 < r0e ∧ r0e < r1 ∧ r1 < r1e ∧ r1e < m ∧ m < v ∧ v < im ∧ im < kp ∧ kp < pa ∧ pa < de ∧ de < ide ∧ ide < mtx ∧ mtx < pt ∧ pt < so ∧ so < mo ∧ mo < wh ∧ wh < pf ∧ pf < out ∧ out < outD) (hg0 : g0 0 = some i0) (G : hG D (hA f00 s.heap.size) f s H locs) (hl : lv_has ls 9 [(0, .ref b), (1, .ref sc), (2, .ref m), (3, .ref out), (4, .ref outD), (5, .int 0)]) (h_sc : f sc = some (.inr (10, [.ref m0, .ref m1, .ref lg, .ref sv, .ref tx, .ref r0, .ref r1, .int (-1), .int (-1), .int 0]))) (h_m0 : f m0 = some (.inr (4, [.ref al, .int 0, .int 0, .int 0, .int 0, .int 0]))) (h_al : f al = some (.inl (cy 3, 4, .inr (.inr (.inr (.inr g0)))))) (h_i0 : f i0 = some (.inr (2, [.ref i1, .ref i3, .ref i5, .ref i7, .ref i9, .ref i11, .int 0, .int 0, .int 1, .int (-1), .int 0]))) (h_i1 : f i1 = some (.inr (8, [.int 8, .ref i2, .int 0]))) (h_i2 : f i2 = some (.inl (cy 0, 8, .inl (fun _ => 0)))) (h_i3 : f i3 = some (.inr (8, [.int 6, .ref i4, .int 0]))) (h_i4 : f i4 = some (.inl (cy 0, 66, .inl (fun _ => 0)))) (h_i5 : f i5 = some (.inr (8, [.int 7, .ref i6, .int 0]))) (h_i6 : f i6 = some (.inl (cy 0, 77, .inl (fun _ => 0)))) (h_i7 : f i7 = some (.inr (8, [.int 8, .ref i8, .int 0]))) (h_i8 : f i8 = some (.inl (cy 0, 4104, .inl (fun _ => 0)))) (h_i9 : f i9 = some (.inr (8, [.int 3, .ref i10, .int 0]))) (h_i10 : f i10 = some (.inl (cy 0, 33, .inl (fun _ => 0)))) (h_i11 : f i11 = some (.inr (5, [.ref i12, .int 0, .int 0, .int 0, .int (-1), .int (-1), .int 0, .int 0, .int 0]))) (h_i12 : f i12 = some (.inl (cy 0, 20, .inl (fun _ => 0)))) (h_lg : f lg = some (.inr (3, [.ref ln, .ref lst, .ref len, .int 0, .int 0, .int 0, .int 0, .int 0, .int 0]))) (h_m : f m = some (.inr (11, [.int 0, .int 0, .ref v, .ref im, .ref kp, .ref pa, .ref de, .ref ide, .int 0, .int 0, .ref mtx, .int 0, .int (-1), .int (-1), .ref pt, .int 0, .int 0, .int 0, .ref so, .ref mo, .ref wh, .ref pf]))) (h_v : f v = some (.inl (cy 0, 6441, .inl (fun _ => 0)))) (h_out : f out = some (.inl (cy 5, 1, .inr (.inl (fun _ => 0))))) : W p l e room_1 s m9 #[Value.ref b] below meth c H locs 140 156303 (lw_Z below #[Value.ref b] s) (F0 m9 184 ls []) := by
  obtain ⟨oo0, oo1, oo2, oo3, oo4, oo5, oo6, oo7, oo8, oo9, oo10, oo11, oo12, oo13, oo14, oo15, oo16, oo17, oo18, oo19, oo20, oo21, oo22, oo23, oo24, oo25, oo26, oo27, oo28, oo29, oo30, oo31, oo32, oo33, oo34, oo35, oo36, oo37, oo38, oo39, oo40, oo41, oo42, oo43, oo44, oo45⟩ := hord
  obtain ⟨hx, hb, hr, hml, hown, hts, hX, hbl, hlocks, hgv⟩ := id C9
  have hbA : ¬ hA f00 s.heap.size b := fun q => by rcases q with q | q; exact q rfl; omega
  refine lv_aload_n hx hb dL_law_184 rfl (lv_at hl 1 rfl) ?_
  refine lv_aload_n hx hb dL_law_185 rfl (lv_at hl 0 rfl) ?_
  refine lv_iload hx hb dL_law_186 (lv_at hl 5 rfl) ?_
  refine lv_iconst (v := 1) hx hb dL_law_188 (by decide) ?_
  refine lv_iadd hx hb dL_law_189 ?_
  refine lv_topv (v := 1) (by decide) ?_
  refine va_sld hx hb hX hbl hbA G.2 (i := 1) (by unfold vp_in; decide) dL_law_190 ?_
  refine lv_aload_n hx hb dL_law_191 rfl (lv_at hl 0 rfl) ?_
  refine lv_iload hx hb dL_law_192 (lv_at hl 5 rfl) ?_
  refine lv_iconst (v := 2) hx hb dL_law_194 (by decide) ?_
  refine lv_iadd hx hb dL_law_195 ?_
  refine lv_topv (v := 2) (by decide) ?_
  refine va_sld hx hb hX hbl hbA G.2 (i := 2) (by unfold vp_in; decide) dL_law_196 ?_
  refine lv_aload_n hx hb dL_law_197 rfl (lv_at hl 0 rfl) ?_
  refine lv_iload hx hb dL_law_198 (lv_at hl 5 rfl) ?_
  refine lv_iconst (v := 3) hx hb dL_law_200 (by decide) ?_
  refine lv_iadd hx hb dL_law_201 ?_
  refine lv_topv (v := 3) (by decide) ?_
  refine va_sld hx hb hX hbl hbA G.2 (i := 3) (by unfold vp_in; decide) dL_law_202 ?_
  refine lv_aload_n hx hb dL_law_203 rfl (lv_at hl 3 rfl) ?_
  refine g_cI C0 G (g_runSH C0 G (rest := []) (k_L_begin hfl (xs 1) (xs 2) (xs 3) h_sc h_m0 h_lg h_al h_i0 h_i1 h_i2 h_i3 h_i4 h_i5 h_i6 h_i7 h_i8 h_i9 h_i10 h_i11 h_i12 h_out hg0 (by refine ⟨?_, ?_, ?_, ?_, ?_, ?_, ?_, ?_, ?_, ?_, ?_, ?_⟩ <;> omega) (by refine ⟨?_, ?_, ?_, ?_⟩ <;> omega) (by refine ⟨?_, ?_, ?_, ?_, ?_, ?_, ?_, ?_, ?_, ?_, ?_, ?_, ?_, ?_, ?_, ?_⟩ <;> omega)) hYH_L_begin mm_L_122 ms_L_begin ⟨(Nat.le_of_ble_eq_true rfl), (Nat.le_of_ble_eq_true rfl)⟩ rfl hl.1 rfl (Nat.le_of_ble_eq_true rfl) dL_law_204 ⟨(Nat.le_of_ble_eq_true rfl), (Nat.le_of_ble_eq_true rfl)⟩) (kx_no rfl) (fun r1 u2 H locs hp3 G => ?_)
  rcases hp3 with ⟨rfl, hP, ho9, fr9⟩ | ⟨rfl, hP, fr9⟩
  · refine lv_istore (lv' := [(6, .int 0), (0, .ref b), (1, .ref sc), (2, .ref m), (3, .ref out), (4, .ref outD), (5, .int 0)]) hx hb dL_law_207 hl (by decide) rfl (fun ls hl => ?_)
    refine lv_aload_n hx hb dL_law_209 rfl (lv_at hl 3 rfl) ?_
    refine lv_aload_n hx hb dL_law_210 rfl (lv_at hl 1 rfl) ?_
    refine lv_iload hx hb dL_law_211 (lv_at hl 6 rfl) ?_
    refine lv_iconst (v := 1) hx hb dL_law_213 (by decide) ?_
    refine lv_iadd hx hb dL_law_214 ?_
    refine lv_topv (v := 1) (by decide) ?_
    refine va_sld hx hb hX hbl hbA G.2 (i := 1) (by unfold vp_in; decide) dL_law_215 ?_
    refine lv_aload_n hx hb dL_law_216 rfl (lv_at hl 1 rfl) ?_
    refine lv_iload hx hb dL_law_217 (lv_at hl 6 rfl) ?_
    refine lv_iconst (v := 2) hx hb dL_law_219 (by decide) ?_
    refine lv_iadd hx hb dL_law_220 ?_
    refine lv_topv (v := 2) (by decide) ?_
    refine va_sld hx hb hX hbl hbA G.2 (i := 2) (by unfold vp_in; decide) dL_law_221 ?_
    refine lv_aload_n hx hb dL_law_222 rfl (lv_at hl 1 rfl) ?_
    refine lv_iload hx hb dL_law_223 (lv_at hl 6 rfl) ?_
    refine lv_iconst (v := 3) hx hb dL_law_225 (by decide) ?_
    refine lv_iadd hx hb dL_law_226 ?_
    refine lv_topv (v := 3) (by decide) ?_
    refine va_sld hx hb hX hbl hbA G.2 (i := 3) (by unfold vp_in; decide) dL_law_227 ?_
    have k4 : u2 m = some (.inr (11, [.int 0, .int 0, .ref v, .ref im, .ref kp, .ref pa, .ref de, .ref ide, .int 0, .int 0, .ref mtx, .int 0, .int (-1), .int (-1), .ref pt, .int 0, .int 0, .int 0, .ref so, .ref mo, .ref wh, .ref pf])) := fr9 _ _ (by simp only [List.mem_cons, List.not_mem_nil, or_false]; intro q; rcases q with q | q | q | q | q | q | q | q | q | q | q | q | q | q | q | q <;> exact absurd q (by omega)) h_m
    have k5 : u2 v = some (.inl (cy 0, 6441, .inl (fun _ => 0))) := fr9 _ _ (by simp only [List.mem_cons, List.not_mem_nil, or_false]; intro q; rcases q with q | q | q | q | q | q | q | q | q | q | q | q | q | q | q | q <;> exact absurd q (by omega)) h_v
    refine g_cI C0 G (g_runV C0 G (rest := []) (k_X9_begin hfl (xs 1) (xs 2) (xs 3) k4 k5) k4 rfl hY_X9_begin mm_L_127 mi_X9_begin ml_X9_begin ⟨(Nat.le_of_ble_eq_true rfl), (Nat.le_of_ble_eq_true rfl)⟩ rfl hl.1 rfl (Nat.le_of_ble_eq_true rfl) dL_law_228 ⟨(Nat.le_of_ble_eq_true rfl), (Nat.le_of_ble_eq_true rfl)⟩) (kx_no rfl) (fun r8 u7 H locs hp6 G => ?_)
    rcases hp6 with ⟨hP9, hm8, rfl, fr8⟩ | ⟨hP9, hm8⟩
    · obtain ⟨rest9, hm9⟩ := hm8
      refine lv_istore (lv' := [(7, .int (((xs 1) + 4) / 5)), (6, .int 0), (0, .ref b), (1, .ref sc), (2, .ref m), (3, .ref out), (4, .ref outD), (5, .int 0)]) hx hb dL_law_231 hl (by decide) rfl (fun ls hl => ?_)
      refine lv_aload_n hx hb dL_law_233 rfl (lv_at hl 4 rfl) ?_
      refine g_cI C0 G (g_runV C0 G (rest := []) (k_X9_thrown hfl hm9) hm9 rfl hY_X9_thrown mm_L_128 mi_X9_thrown ml_X9_thrown ⟨(Nat.le_of_ble_eq_true rfl), (Nat.le_of_ble_eq_true rfl)⟩ rfl hl.1 rfl (Nat.le_of_ble_eq_true rfl) dL_law_234 ⟨(Nat.le_of_ble_eq_true rfl), (Nat.le_of_ble_eq_true rfl)⟩) (kx_no rfl) (fun r11 u10 H locs hp9 G => ?_)
      obtain ⟨rfl, eu10⟩ := hp9
      rw [eu10] at G
      refine lv_iload hx hb dL_law_237 (lv_at hl 1 rfl) ?_
      refine lv_icmp_eq (tgt := 244) hx hb dL_law_239 (by decide) (fun _ => ?_) (fun c12 => absurd (by decide) c12)
      refine lv_iload hx hb dL_law_244 (lv_at hl 1 rfl) ?_
      refine lv_if_ne (tgt := 261) hx hb dL_law_246 (by decide) (fun c13 => absurd (by decide) c13) (fun _ => ?_)
      refine lv_aload_n hx hb dL_law_249 rfl (lv_at hl 5 rfl) ?_
      refine lv_iconst (v := 0) hx hb dL_law_250 (by decide) ?_
      have k14 : u7 out = some (.inl (cy 5, 1, .inr (.inl (vp_updL (fun _ => 0) 0 (((xs 1) + 4) / 5).toInt64)))) := fr8 _ _ (by simp only [List.mem_cons, List.not_mem_nil, or_false]; intro q; rcases q with q | q <;> exact absurd q (by omega)) ho9
      refine g_lald C0 G k14 5 rfl (by unfold vp_in; decide) dL_law_251 ?_
      refine lv_topvl (v := (((xs 1) + 4) / 5).toInt64) (by rfl) ?_
      refine lv_iload hx hb dL_law_252 (lv_at hl 0 rfl) ?_
      refine lv_i2l (v := (((xs 1) + 4) / 5).toInt64) hx hb dL_law_254 rfl ?_
      refine W.lcmp hx hb dL_law_255 ?_
      refine lv_topv (v := 0) (by simp [lg_cmp]) ?_
      refine lv_if_eq (tgt := 261) hx hb dL_law_256 (by decide) (fun _ => ?_) (fun c15 => absurd (by decide) c15)
      refine lv_goto (tgt := 2164) hx hb dL_law_261 (by decide) ?_
      exact law_tail hfl C9 C0 G (Nat.le_of_ble_eq_true rfl) (Nat.le_of_ble_eq_true rfl) (lv_sub hl [2, 7] rfl)
    · exact absurd hP hP9
  · refine lv_istore (lv' := [(6, .int 1), (0, .ref b), (1, .ref sc), (2, .ref m), (3, .ref out), (4, .ref outD), (5, .int 0)]) hx hb dL_law_207 hl (by decide) rfl (fun ls hl => ?_)
    refine lv_aload_n hx hb dL_law_209 rfl (lv_at hl 3 rfl) ?_
    refine lv_aload_n hx hb dL_law_210 rfl (lv_at hl 1 rfl) ?_
    refine lv_iload hx hb dL_law_211 (lv_at hl 6 rfl) ?_
    refine lv_iconst (v := 1) hx hb dL_law_213 (by decide) ?_
    refine lv_iadd hx hb dL_law_214 ?_
    refine lv_topv (v := 1) (by decide) ?_
    refine va_sld hx hb hX hbl hbA G.2 (i := 1) (by unfold vp_in; decide) dL_law_215 ?_
    refine lv_aload_n hx hb dL_law_216 rfl (lv_at hl 1 rfl) ?_
    refine lv_iload hx hb dL_law_217 (lv_at hl 6 rfl) ?_
    refine lv_iconst (v := 2) hx hb dL_law_219 (by decide) ?_
    refine lv_iadd hx hb dL_law_220 ?_
    refine lv_topv (v := 2) (by decide) ?_
    refine va_sld hx hb hX hbl hbA G.2 (i := 2) (by unfold vp_in; decide) dL_law_221 ?_
    refine lv_aload_n hx hb dL_law_222 rfl (lv_at hl 1 rfl) ?_
    refine lv_iload hx hb dL_law_223 (lv_at hl 6 rfl) ?_
    refine lv_iconst (v := 3) hx hb dL_law_225 (by decide) ?_
    refine lv_iadd hx hb dL_law_226 ?_
    refine lv_topv (v := 3) (by decide) ?_
    refine va_sld hx hb hX hbl hbA G.2 (i := 3) (by unfold vp_in; decide) dL_law_227 ?_
    have k16 : u2 m = some (.inr (11, [.int 0, .int 0, .ref v, .ref im, .ref kp, .ref pa, .ref de, .ref ide, .int 0, .int 0, .ref mtx, .int 0, .int (-1), .int (-1), .ref pt, .int 0, .int 0, .int 0, .ref so, .ref mo, .ref wh, .ref pf])) := fr9 _ _ (by omega) h_m
    have k17 : u2 v = some (.inl (cy 0, 6441, .inl (fun _ => 0))) := fr9 _ _ (by omega) h_v
    refine g_cI C0 G (g_runV C0 G (rest := []) (k_X9_begin hfl (xs 1) (xs 2) (xs 3) k16 k17) k16 rfl hY_X9_begin mm_L_127 mi_X9_begin ml_X9_begin ⟨(Nat.le_of_ble_eq_true rfl), (Nat.le_of_ble_eq_true rfl)⟩ rfl hl.1 rfl (Nat.le_of_ble_eq_true rfl) dL_law_228 ⟨(Nat.le_of_ble_eq_true rfl), (Nat.le_of_ble_eq_true rfl)⟩) (kx_no rfl) (fun r20 u19 H locs hp18 G => ?_)
    rcases hp18 with ⟨hP9, hm8, rfl, fr8⟩ | ⟨hP9, hm8⟩
    · exact absurd hP9 hP
    · obtain ⟨rest9, hm9⟩ := hm8
      refine lv_istore (lv' := [(7, .int r20), (6, .int 1), (0, .ref b), (1, .ref sc), (2, .ref m), (3, .ref out), (4, .ref outD), (5, .int 0)]) hx hb dL_law_231 hl (by decide) rfl (fun ls hl => ?_)
      refine lv_aload_n hx hb dL_law_233 rfl (lv_at hl 4 rfl) ?_
      refine g_cI C0 G (g_runV C0 G (rest := []) (k_X9_thrown hfl hm9) hm9 rfl hY_X9_thrown mm_L_128 mi_X9_thrown ml_X9_thrown ⟨(Nat.le_of_ble_eq_true rfl), (Nat.le_of_ble_eq_true rfl)⟩ rfl hl.1 rfl (Nat.le_of_ble_eq_true rfl) dL_law_234 ⟨(Nat.le_of_ble_eq_true rfl), (Nat.le_of_ble_eq_true rfl)⟩) (kx_no rfl) (fun r23 u22 H locs hp21 G => ?_)
      obtain ⟨rfl, eu22⟩ := hp21
      rw [eu22] at G
      refine lv_iload hx hb dL_law_237 (lv_at hl 1 rfl) ?_
      refine lv_icmp_eq (tgt := 244) hx hb dL_law_239 (by decide) (fun _ => ?_) (fun c24 => absurd (by decide) c24)
      refine lv_iload hx hb dL_law_244 (lv_at hl 1 rfl) ?_
      refine lv_if_ne (tgt := 261) hx hb dL_law_246 (by decide) (fun _ => ?_) (fun c25 => absurd c25 (by decide))
      refine lv_goto (tgt := 2164) hx hb dL_law_261 (by decide) ?_
      exact law_tail hfl C9 C0 G (Nat.le_of_ble_eq_true rfl) (Nat.le_of_ble_eq_true rfl) (lv_sub hl [2, 7] rfl)
set_option maxRecDepth 100000 in
theorem law_case_4 {p : Program} {e : Env} {s : State} {m9 : MethodId} {below : List Frame} {meth : Method} {c : Code} {l : Launch} {b  : Nat} {xs : Nat → Int32} {D : va_G} {cy : Nat → ClassId} {sc m0 al i0 i1 i2 i3 i4 i5 i6 i7 i8 i9 i10 i11 i12 lg ln lst len sv sn sst sen tx bf tn tp r0 r0e r1 r1e m v im kp pa de ide mtx pt so mo wh pf out outD m1 : Nat} {g0 : Nat → Option Nat} {f : Hf} {H : Heap} {locs : List Loc} {ls : Array Slot} (hfl : l.stackTraces = false) (C9 : lw_At p s m9 meth c b 6 xs) (C0 : hC p l s m9 meth c code 9 #[Value.ref b] RL D (hTy cy) (hA f00 s.heap.size)) (hord : sc < m0 ∧ m0 < al ∧ al < i0 ∧ i0 < i1 ∧ i1 < i2 ∧ i2 < i3 ∧ i3 < i4 ∧ i4 < i5 ∧ i5 < i6 ∧ i6 < i7 ∧ i7 < i8 ∧ i8 < i9 ∧ i9 < i10 ∧ i10 < i11 ∧ i11 < i12 ∧ i12 < lg ∧ lg < ln ∧ ln < lst ∧ lst < len ∧ len < sv ∧ sv < sn ∧ sn < sst ∧ sst < sen ∧ sen < tx ∧ tx < bf ∧ bf < tn ∧ tn < tp ∧ tp < r0 ∧ r0 < r0e ∧ r0e < r1 ∧ r1 < r1e ∧ r1e < m ∧ m < v ∧ v < im ∧ im < kp ∧ kp < pa ∧ pa < de ∧ de < ide ∧ ide < mtx ∧ mtx < pt ∧ pt < so ∧ so < mo ∧ mo < wh ∧ wh < pf ∧ pf < out ∧ out < outD) (hg0 : g0 0 = some i0) (G : hG D (hA f00 s.heap.size) f s H locs) (hl : lv_has ls 9 [(0, .ref b), (1, .ref sc), (2, .ref m), (3, .ref out), (4, .ref outD), (5, .int 0)]) (h_sc : f sc = some (.inr (10, [.ref m0, .ref m1, .ref lg, .ref sv, .ref tx, .ref r0, .ref r1, .int (-1), .int (-1), .int 0]))) (h_m0 : f m0 = some (.inr (4, [.ref al, .int 0, .int 0, .int 0, .int 0, .int 0]))) (h_m : f m = some (.inr (11, [.int 0, .int 0, .ref v, .ref im, .ref kp, .ref pa, .ref de, .ref ide, .int 0, .int 0, .ref mtx, .int 0, .int (-1), .int (-1), .ref pt, .int 0, .int 0, .int 0, .ref so, .ref mo, .ref wh, .ref pf]))) (h_v : f v = some (.inl (cy 0, 6441, .inl (fun _ => 0)))) : W p l e room_1 s m9 #[Value.ref b] below meth c H locs 140 156303 (lw_Z below #[Value.ref b] s) (F0 m9 552 ls []) := by
  obtain ⟨oo0, oo1, oo2, oo3, oo4, oo5, oo6, oo7, oo8, oo9, oo10, oo11, oo12, oo13, oo14, oo15, oo16, oo17, oo18, oo19, oo20, oo21, oo22, oo23, oo24, oo25, oo26, oo27, oo28, oo29, oo30, oo31, oo32, oo33, oo34, oo35, oo36, oo37, oo38, oo39, oo40, oo41, oo42, oo43, oo44, oo45⟩ := hord
  obtain ⟨hx, hb, hr, hml, hown, hts, hX, hbl, hlocks, hgv⟩ := id C9
  have hbA : ¬ hA f00 s.heap.size b := fun q => by rcases q with q | q; exact q rfl; omega
  refine lv_aload_n hx hb dL_law_552 rfl (lv_at hl 1 rfl) ?_
  refine lv_aload_n hx hb dL_law_553 rfl (lv_at hl 0 rfl) ?_
  refine lv_iload hx hb dL_law_554 (lv_at hl 5 rfl) ?_
  refine lv_iconst (v := 1) hx hb dL_law_556 (by decide) ?_
  refine lv_iadd hx hb dL_law_557 ?_
  refine lv_topv (v := 1) (by decide) ?_
  refine va_sld hx hb hX hbl hbA G.2 (i := 1) (by unfold vp_in; decide) dL_law_558 ?_
  refine lv_if_eq (tgt := 566) hx hb dL_law_559 (by decide) (fun c1 => ?_) (fun c1 => ?_)
  · refine lv_iconst (v := 0) hx hb dL_law_566 (by decide) ?_
    refine lv_aload_n hx hb dL_law_567 rfl (lv_at hl 0 rfl) ?_
    refine lv_iload hx hb dL_law_568 (lv_at hl 5 rfl) ?_
    refine lv_iconst (v := 2) hx hb dL_law_570 (by decide) ?_
    refine lv_iadd hx hb dL_law_571 ?_
    refine lv_topv (v := 2) (by decide) ?_
    refine va_sld hx hb hX hbl hbA G.2 (i := 2) (by unfold vp_in; decide) dL_law_572 ?_
    refine lv_if_eq (tgt := 580) hx hb dL_law_573 (by decide) (fun c2 => ?_) (fun c2 => ?_)
    · refine lv_iconst (v := 0) hx hb dL_law_580 (by decide) ?_
      refine lv_aload_n hx hb dL_law_581 rfl (lv_at hl 3 rfl) ?_
      refine g_cI C0 G (g_runSH C0 G (rest := []) (k_L_retire hfl 0 0 h_sc h_m0 (Or.inl rfl) (Or.inl rfl)) hYH_L_retire mm_L_143 ms_L_retire ⟨(Nat.le_of_ble_eq_true rfl), (Nat.le_of_ble_eq_true rfl)⟩ rfl hl.1 rfl (Nat.le_of_ble_eq_true rfl) dL_law_582 ⟨(Nat.le_of_ble_eq_true rfl), (Nat.le_of_ble_eq_true rfl)⟩) (kx_no rfl) (fun r3 u4 H locs hp5 G => ?_)
      obtain ⟨rfl, fr9⟩ := hp5
      refine lv_istore (lv' := [(6, .int 1), (0, .ref b), (1, .ref sc), (2, .ref m), (3, .ref out), (4, .ref outD), (5, .int 0)]) hx hb dL_law_585 hl (by decide) rfl (fun ls hl => ?_)
      refine lv_aload_n hx hb dL_law_587 rfl (lv_at hl 3 rfl) ?_
      refine lv_aload_n hx hb dL_law_588 rfl (lv_at hl 1 rfl) ?_
      refine lv_iload hx hb dL_law_589 (lv_at hl 6 rfl) ?_
      refine lv_iconst (v := 1) hx hb dL_law_591 (by decide) ?_
      refine lv_iadd hx hb dL_law_592 ?_
      refine lv_topv (v := 1) (by decide) ?_
      refine va_sld hx hb hX hbl hbA G.2 (i := 1) (by unfold vp_in; decide) dL_law_593 ?_
      refine lv_if_eq (tgt := 601) hx hb dL_law_594 (by decide) (fun _ => ?_) (fun c6 => absurd (c1) c6)
      refine lv_iconst (v := 0) hx hb dL_law_601 (by decide) ?_
      refine lv_aload_n hx hb dL_law_602 rfl (lv_at hl 1 rfl) ?_
      refine lv_iload hx hb dL_law_603 (lv_at hl 6 rfl) ?_
      refine lv_iconst (v := 2) hx hb dL_law_605 (by decide) ?_
      refine lv_iadd hx hb dL_law_606 ?_
      refine lv_topv (v := 2) (by decide) ?_
      refine va_sld hx hb hX hbl hbA G.2 (i := 2) (by unfold vp_in; decide) dL_law_607 ?_
      refine lv_if_eq (tgt := 615) hx hb dL_law_608 (by decide) (fun _ => ?_) (fun c7 => absurd (c2) c7)
      refine lv_iconst (v := 0) hx hb dL_law_615 (by decide) ?_
      have k8 : u4 m = some (.inr (11, [.int 0, .int 0, .ref v, .ref im, .ref kp, .ref pa, .ref de, .ref ide, .int 0, .int 0, .ref mtx, .int 0, .int (-1), .int (-1), .ref pt, .int 0, .int 0, .int 0, .ref so, .ref mo, .ref wh, .ref pf])) := fr9 _ _ (by omega) h_m
      have k9 : u4 v = some (.inl (cy 0, 6441, .inl (fun _ => 0))) := fr9 _ _ (by omega) h_v
      refine g_cI C0 G (g_runV C0 G (rest := []) (k_X9_retire hfl 0 0 k8 k9 (Or.inl rfl) (Or.inl rfl)) k8 rfl hY_X9_retire mm_L_146 mi_X9_retire ml_X9_retire ⟨(Nat.le_of_ble_eq_true rfl), (Nat.le_of_ble_eq_true rfl)⟩ rfl hl.1 rfl (Nat.le_of_ble_eq_true rfl) dL_law_616 ⟨(Nat.le_of_ble_eq_true rfl), (Nat.le_of_ble_eq_true rfl)⟩) (kx_no rfl) (fun r12 u11 H locs hp10 G => ?_)
      obtain ⟨rest9, hm9⟩ := hp10
      refine lv_istore (lv' := [(7, .int r12), (6, .int 1), (0, .ref b), (1, .ref sc), (2, .ref m), (3, .ref out), (4, .ref outD), (5, .int 0)]) hx hb dL_law_619 hl (by decide) rfl (fun ls hl => ?_)
      refine lv_aload_n hx hb dL_law_621 rfl (lv_at hl 4 rfl) ?_
      refine g_cI C0 G (g_runV C0 G (rest := []) (k_X9_thrown hfl hm9) hm9 rfl hY_X9_thrown mm_L_128 mi_X9_thrown ml_X9_thrown ⟨(Nat.le_of_ble_eq_true rfl), (Nat.le_of_ble_eq_true rfl)⟩ rfl hl.1 rfl (Nat.le_of_ble_eq_true rfl) dL_law_622 ⟨(Nat.le_of_ble_eq_true rfl), (Nat.le_of_ble_eq_true rfl)⟩) (kx_no rfl) (fun r15 u14 H locs hp13 G => ?_)
      obtain ⟨rfl, eu14⟩ := hp13
      rw [eu14] at G
      refine lv_iload hx hb dL_law_625 (lv_at hl 1 rfl) ?_
      refine lv_icmp_eq (tgt := 632) hx hb dL_law_627 (by decide) (fun _ => ?_) (fun c16 => absurd (by decide) c16)
      refine lv_iload hx hb dL_law_632 (lv_at hl 1 rfl) ?_
      refine lv_if_ne (tgt := 649) hx hb dL_law_634 (by decide) (fun _ => ?_) (fun c17 => absurd c17 (by decide))
      refine lv_goto (tgt := 2164) hx hb dL_law_649 (by decide) ?_
      exact law_tail hfl C9 C0 G (Nat.le_of_ble_eq_true rfl) (Nat.le_of_ble_eq_true rfl) (lv_sub hl [2, 7] rfl)
    · refine lv_iconst (v := 1) hx hb dL_law_576 (by decide) ?_
      refine lv_goto (tgt := 581) hx hb dL_law_577 (by decide) ?_
      refine lv_aload_n hx hb dL_law_581 rfl (lv_at hl 3 rfl) ?_
      refine g_cI C0 G (g_runSH C0 G (rest := []) (k_L_retire hfl 0 1 h_sc h_m0 (Or.inl rfl) (Or.inr rfl)) hYH_L_retire mm_L_143 ms_L_retire ⟨(Nat.le_of_ble_eq_true rfl), (Nat.le_of_ble_eq_true rfl)⟩ rfl hl.1 rfl (Nat.le_of_ble_eq_true rfl) dL_law_582 ⟨(Nat.le_of_ble_eq_true rfl), (Nat.le_of_ble_eq_true rfl)⟩) (kx_no rfl) (fun r18 u19 H locs hp20 G => ?_)
      obtain ⟨rfl, fr9⟩ := hp20
      refine lv_istore (lv' := [(6, .int 1), (0, .ref b), (1, .ref sc), (2, .ref m), (3, .ref out), (4, .ref outD), (5, .int 0)]) hx hb dL_law_585 hl (by decide) rfl (fun ls hl => ?_)
      refine lv_aload_n hx hb dL_law_587 rfl (lv_at hl 3 rfl) ?_
      refine lv_aload_n hx hb dL_law_588 rfl (lv_at hl 1 rfl) ?_
      refine lv_iload hx hb dL_law_589 (lv_at hl 6 rfl) ?_
      refine lv_iconst (v := 1) hx hb dL_law_591 (by decide) ?_
      refine lv_iadd hx hb dL_law_592 ?_
      refine lv_topv (v := 1) (by decide) ?_
      refine va_sld hx hb hX hbl hbA G.2 (i := 1) (by unfold vp_in; decide) dL_law_593 ?_
      refine lv_if_eq (tgt := 601) hx hb dL_law_594 (by decide) (fun _ => ?_) (fun c21 => absurd (c1) c21)
      refine lv_iconst (v := 0) hx hb dL_law_601 (by decide) ?_
      refine lv_aload_n hx hb dL_law_602 rfl (lv_at hl 1 rfl) ?_
      refine lv_iload hx hb dL_law_603 (lv_at hl 6 rfl) ?_
      refine lv_iconst (v := 2) hx hb dL_law_605 (by decide) ?_
      refine lv_iadd hx hb dL_law_606 ?_
      refine lv_topv (v := 2) (by decide) ?_
      refine va_sld hx hb hX hbl hbA G.2 (i := 2) (by unfold vp_in; decide) dL_law_607 ?_
      refine lv_if_eq (tgt := 615) hx hb dL_law_608 (by decide) (fun c22 => absurd c22 (c2)) (fun _ => ?_)
      refine lv_iconst (v := 1) hx hb dL_law_611 (by decide) ?_
      refine lv_goto (tgt := 616) hx hb dL_law_612 (by decide) ?_
      have k23 : u19 m = some (.inr (11, [.int 0, .int 0, .ref v, .ref im, .ref kp, .ref pa, .ref de, .ref ide, .int 0, .int 0, .ref mtx, .int 0, .int (-1), .int (-1), .ref pt, .int 0, .int 0, .int 0, .ref so, .ref mo, .ref wh, .ref pf])) := fr9 _ _ (by omega) h_m
      have k24 : u19 v = some (.inl (cy 0, 6441, .inl (fun _ => 0))) := fr9 _ _ (by omega) h_v
      refine g_cI C0 G (g_runV C0 G (rest := []) (k_X9_retire hfl 0 1 k23 k24 (Or.inl rfl) (Or.inr rfl)) k23 rfl hY_X9_retire mm_L_146 mi_X9_retire ml_X9_retire ⟨(Nat.le_of_ble_eq_true rfl), (Nat.le_of_ble_eq_true rfl)⟩ rfl hl.1 rfl (Nat.le_of_ble_eq_true rfl) dL_law_616 ⟨(Nat.le_of_ble_eq_true rfl), (Nat.le_of_ble_eq_true rfl)⟩) (kx_no rfl) (fun r27 u26 H locs hp25 G => ?_)
      obtain ⟨rest9, hm9⟩ := hp25
      refine lv_istore (lv' := [(7, .int r27), (6, .int 1), (0, .ref b), (1, .ref sc), (2, .ref m), (3, .ref out), (4, .ref outD), (5, .int 0)]) hx hb dL_law_619 hl (by decide) rfl (fun ls hl => ?_)
      refine lv_aload_n hx hb dL_law_621 rfl (lv_at hl 4 rfl) ?_
      refine g_cI C0 G (g_runV C0 G (rest := []) (k_X9_thrown hfl hm9) hm9 rfl hY_X9_thrown mm_L_128 mi_X9_thrown ml_X9_thrown ⟨(Nat.le_of_ble_eq_true rfl), (Nat.le_of_ble_eq_true rfl)⟩ rfl hl.1 rfl (Nat.le_of_ble_eq_true rfl) dL_law_622 ⟨(Nat.le_of_ble_eq_true rfl), (Nat.le_of_ble_eq_true rfl)⟩) (kx_no rfl) (fun r30 u29 H locs hp28 G => ?_)
      obtain ⟨rfl, eu29⟩ := hp28
      rw [eu29] at G
      refine lv_iload hx hb dL_law_625 (lv_at hl 1 rfl) ?_
      refine lv_icmp_eq (tgt := 632) hx hb dL_law_627 (by decide) (fun _ => ?_) (fun c31 => absurd (by decide) c31)
      refine lv_iload hx hb dL_law_632 (lv_at hl 1 rfl) ?_
      refine lv_if_ne (tgt := 649) hx hb dL_law_634 (by decide) (fun _ => ?_) (fun c32 => absurd c32 (by decide))
      refine lv_goto (tgt := 2164) hx hb dL_law_649 (by decide) ?_
      exact law_tail hfl C9 C0 G (Nat.le_of_ble_eq_true rfl) (Nat.le_of_ble_eq_true rfl) (lv_sub hl [2, 7] rfl)
  · refine lv_iconst (v := 1) hx hb dL_law_562 (by decide) ?_
    refine lv_goto (tgt := 567) hx hb dL_law_563 (by decide) ?_
    refine lv_aload_n hx hb dL_law_567 rfl (lv_at hl 0 rfl) ?_
    refine lv_iload hx hb dL_law_568 (lv_at hl 5 rfl) ?_
    refine lv_iconst (v := 2) hx hb dL_law_570 (by decide) ?_
    refine lv_iadd hx hb dL_law_571 ?_
    refine lv_topv (v := 2) (by decide) ?_
    refine va_sld hx hb hX hbl hbA G.2 (i := 2) (by unfold vp_in; decide) dL_law_572 ?_
    refine lv_if_eq (tgt := 580) hx hb dL_law_573 (by decide) (fun c33 => ?_) (fun c33 => ?_)
    · refine lv_iconst (v := 0) hx hb dL_law_580 (by decide) ?_
      refine lv_aload_n hx hb dL_law_581 rfl (lv_at hl 3 rfl) ?_
      refine g_cI C0 G (g_runSH C0 G (rest := []) (k_L_retire hfl 1 0 h_sc h_m0 (Or.inr rfl) (Or.inl rfl)) hYH_L_retire mm_L_143 ms_L_retire ⟨(Nat.le_of_ble_eq_true rfl), (Nat.le_of_ble_eq_true rfl)⟩ rfl hl.1 rfl (Nat.le_of_ble_eq_true rfl) dL_law_582 ⟨(Nat.le_of_ble_eq_true rfl), (Nat.le_of_ble_eq_true rfl)⟩) (kx_no rfl) (fun r34 u35 H locs hp36 G => ?_)
      obtain ⟨rfl, fr9⟩ := hp36
      refine lv_istore (lv' := [(6, .int 1), (0, .ref b), (1, .ref sc), (2, .ref m), (3, .ref out), (4, .ref outD), (5, .int 0)]) hx hb dL_law_585 hl (by decide) rfl (fun ls hl => ?_)
      refine lv_aload_n hx hb dL_law_587 rfl (lv_at hl 3 rfl) ?_
      refine lv_aload_n hx hb dL_law_588 rfl (lv_at hl 1 rfl) ?_
      refine lv_iload hx hb dL_law_589 (lv_at hl 6 rfl) ?_
      refine lv_iconst (v := 1) hx hb dL_law_591 (by decide) ?_
      refine lv_iadd hx hb dL_law_592 ?_
      refine lv_topv (v := 1) (by decide) ?_
      refine va_sld hx hb hX hbl hbA G.2 (i := 1) (by unfold vp_in; decide) dL_law_593 ?_
      refine lv_if_eq (tgt := 601) hx hb dL_law_594 (by decide) (fun c37 => absurd c37 (c1)) (fun _ => ?_)
      refine lv_iconst (v := 1) hx hb dL_law_597 (by decide) ?_
      refine lv_goto (tgt := 602) hx hb dL_law_598 (by decide) ?_
      refine lv_aload_n hx hb dL_law_602 rfl (lv_at hl 1 rfl) ?_
      refine lv_iload hx hb dL_law_603 (lv_at hl 6 rfl) ?_
      refine lv_iconst (v := 2) hx hb dL_law_605 (by decide) ?_
      refine lv_iadd hx hb dL_law_606 ?_
      refine lv_topv (v := 2) (by decide) ?_
      refine va_sld hx hb hX hbl hbA G.2 (i := 2) (by unfold vp_in; decide) dL_law_607 ?_
      refine lv_if_eq (tgt := 615) hx hb dL_law_608 (by decide) (fun _ => ?_) (fun c38 => absurd (c33) c38)
      refine lv_iconst (v := 0) hx hb dL_law_615 (by decide) ?_
      have k39 : u35 m = some (.inr (11, [.int 0, .int 0, .ref v, .ref im, .ref kp, .ref pa, .ref de, .ref ide, .int 0, .int 0, .ref mtx, .int 0, .int (-1), .int (-1), .ref pt, .int 0, .int 0, .int 0, .ref so, .ref mo, .ref wh, .ref pf])) := fr9 _ _ (by omega) h_m
      have k40 : u35 v = some (.inl (cy 0, 6441, .inl (fun _ => 0))) := fr9 _ _ (by omega) h_v
      refine g_cI C0 G (g_runV C0 G (rest := []) (k_X9_retire hfl 1 0 k39 k40 (Or.inr rfl) (Or.inl rfl)) k39 rfl hY_X9_retire mm_L_146 mi_X9_retire ml_X9_retire ⟨(Nat.le_of_ble_eq_true rfl), (Nat.le_of_ble_eq_true rfl)⟩ rfl hl.1 rfl (Nat.le_of_ble_eq_true rfl) dL_law_616 ⟨(Nat.le_of_ble_eq_true rfl), (Nat.le_of_ble_eq_true rfl)⟩) (kx_no rfl) (fun r43 u42 H locs hp41 G => ?_)
      obtain ⟨rest9, hm9⟩ := hp41
      refine lv_istore (lv' := [(7, .int r43), (6, .int 1), (0, .ref b), (1, .ref sc), (2, .ref m), (3, .ref out), (4, .ref outD), (5, .int 0)]) hx hb dL_law_619 hl (by decide) rfl (fun ls hl => ?_)
      refine lv_aload_n hx hb dL_law_621 rfl (lv_at hl 4 rfl) ?_
      refine g_cI C0 G (g_runV C0 G (rest := []) (k_X9_thrown hfl hm9) hm9 rfl hY_X9_thrown mm_L_128 mi_X9_thrown ml_X9_thrown ⟨(Nat.le_of_ble_eq_true rfl), (Nat.le_of_ble_eq_true rfl)⟩ rfl hl.1 rfl (Nat.le_of_ble_eq_true rfl) dL_law_622 ⟨(Nat.le_of_ble_eq_true rfl), (Nat.le_of_ble_eq_true rfl)⟩) (kx_no rfl) (fun r46 u45 H locs hp44 G => ?_)
      obtain ⟨rfl, eu45⟩ := hp44
      rw [eu45] at G
      refine lv_iload hx hb dL_law_625 (lv_at hl 1 rfl) ?_
      refine lv_icmp_eq (tgt := 632) hx hb dL_law_627 (by decide) (fun _ => ?_) (fun c47 => absurd (by decide) c47)
      refine lv_iload hx hb dL_law_632 (lv_at hl 1 rfl) ?_
      refine lv_if_ne (tgt := 649) hx hb dL_law_634 (by decide) (fun _ => ?_) (fun c48 => absurd c48 (by decide))
      refine lv_goto (tgt := 2164) hx hb dL_law_649 (by decide) ?_
      exact law_tail hfl C9 C0 G (Nat.le_of_ble_eq_true rfl) (Nat.le_of_ble_eq_true rfl) (lv_sub hl [2, 7] rfl)
    · refine lv_iconst (v := 1) hx hb dL_law_576 (by decide) ?_
      refine lv_goto (tgt := 581) hx hb dL_law_577 (by decide) ?_
      refine lv_aload_n hx hb dL_law_581 rfl (lv_at hl 3 rfl) ?_
      refine g_cI C0 G (g_runSH C0 G (rest := []) (k_L_retire hfl 1 1 h_sc h_m0 (Or.inr rfl) (Or.inr rfl)) hYH_L_retire mm_L_143 ms_L_retire ⟨(Nat.le_of_ble_eq_true rfl), (Nat.le_of_ble_eq_true rfl)⟩ rfl hl.1 rfl (Nat.le_of_ble_eq_true rfl) dL_law_582 ⟨(Nat.le_of_ble_eq_true rfl), (Nat.le_of_ble_eq_true rfl)⟩) (kx_no rfl) (fun r49 u50 H locs hp51 G => ?_)
      obtain ⟨rfl, fr9⟩ := hp51
      refine lv_istore (lv' := [(6, .int 1), (0, .ref b), (1, .ref sc), (2, .ref m), (3, .ref out), (4, .ref outD), (5, .int 0)]) hx hb dL_law_585 hl (by decide) rfl (fun ls hl => ?_)
      refine lv_aload_n hx hb dL_law_587 rfl (lv_at hl 3 rfl) ?_
      refine lv_aload_n hx hb dL_law_588 rfl (lv_at hl 1 rfl) ?_
      refine lv_iload hx hb dL_law_589 (lv_at hl 6 rfl) ?_
      refine lv_iconst (v := 1) hx hb dL_law_591 (by decide) ?_
      refine lv_iadd hx hb dL_law_592 ?_
      refine lv_topv (v := 1) (by decide) ?_
      refine va_sld hx hb hX hbl hbA G.2 (i := 1) (by unfold vp_in; decide) dL_law_593 ?_
      refine lv_if_eq (tgt := 601) hx hb dL_law_594 (by decide) (fun c52 => absurd c52 (c1)) (fun _ => ?_)
      refine lv_iconst (v := 1) hx hb dL_law_597 (by decide) ?_
      refine lv_goto (tgt := 602) hx hb dL_law_598 (by decide) ?_
      refine lv_aload_n hx hb dL_law_602 rfl (lv_at hl 1 rfl) ?_
      refine lv_iload hx hb dL_law_603 (lv_at hl 6 rfl) ?_
      refine lv_iconst (v := 2) hx hb dL_law_605 (by decide) ?_
      refine lv_iadd hx hb dL_law_606 ?_
      refine lv_topv (v := 2) (by decide) ?_
      refine va_sld hx hb hX hbl hbA G.2 (i := 2) (by unfold vp_in; decide) dL_law_607 ?_
      refine lv_if_eq (tgt := 615) hx hb dL_law_608 (by decide) (fun c53 => absurd c53 (c33)) (fun _ => ?_)
      refine lv_iconst (v := 1) hx hb dL_law_611 (by decide) ?_
      refine lv_goto (tgt := 616) hx hb dL_law_612 (by decide) ?_
      have k54 : u50 m = some (.inr (11, [.int 0, .int 0, .ref v, .ref im, .ref kp, .ref pa, .ref de, .ref ide, .int 0, .int 0, .ref mtx, .int 0, .int (-1), .int (-1), .ref pt, .int 0, .int 0, .int 0, .ref so, .ref mo, .ref wh, .ref pf])) := fr9 _ _ (by omega) h_m
      have k55 : u50 v = some (.inl (cy 0, 6441, .inl (fun _ => 0))) := fr9 _ _ (by omega) h_v
      refine g_cI C0 G (g_runV C0 G (rest := []) (k_X9_retire hfl 1 1 k54 k55 (Or.inr rfl) (Or.inr rfl)) k54 rfl hY_X9_retire mm_L_146 mi_X9_retire ml_X9_retire ⟨(Nat.le_of_ble_eq_true rfl), (Nat.le_of_ble_eq_true rfl)⟩ rfl hl.1 rfl (Nat.le_of_ble_eq_true rfl) dL_law_616 ⟨(Nat.le_of_ble_eq_true rfl), (Nat.le_of_ble_eq_true rfl)⟩) (kx_no rfl) (fun r58 u57 H locs hp56 G => ?_)
      obtain ⟨rest9, hm9⟩ := hp56
      refine lv_istore (lv' := [(7, .int r58), (6, .int 1), (0, .ref b), (1, .ref sc), (2, .ref m), (3, .ref out), (4, .ref outD), (5, .int 0)]) hx hb dL_law_619 hl (by decide) rfl (fun ls hl => ?_)
      refine lv_aload_n hx hb dL_law_621 rfl (lv_at hl 4 rfl) ?_
      refine g_cI C0 G (g_runV C0 G (rest := []) (k_X9_thrown hfl hm9) hm9 rfl hY_X9_thrown mm_L_128 mi_X9_thrown ml_X9_thrown ⟨(Nat.le_of_ble_eq_true rfl), (Nat.le_of_ble_eq_true rfl)⟩ rfl hl.1 rfl (Nat.le_of_ble_eq_true rfl) dL_law_622 ⟨(Nat.le_of_ble_eq_true rfl), (Nat.le_of_ble_eq_true rfl)⟩) (kx_no rfl) (fun r61 u60 H locs hp59 G => ?_)
      obtain ⟨rfl, eu60⟩ := hp59
      rw [eu60] at G
      refine lv_iload hx hb dL_law_625 (lv_at hl 1 rfl) ?_
      refine lv_icmp_eq (tgt := 632) hx hb dL_law_627 (by decide) (fun _ => ?_) (fun c62 => absurd (by decide) c62)
      refine lv_iload hx hb dL_law_632 (lv_at hl 1 rfl) ?_
      refine lv_if_ne (tgt := 649) hx hb dL_law_634 (by decide) (fun _ => ?_) (fun c63 => absurd c63 (by decide))
      refine lv_goto (tgt := 2164) hx hb dL_law_649 (by decide) ?_
      exact law_tail hfl C9 C0 G (Nat.le_of_ble_eq_true rfl) (Nat.le_of_ble_eq_true rfl) (lv_sub hl [2, 7] rfl)
set_option maxRecDepth 100000 in
theorem law_case_8 {p : Program} {e : Env} {s : State} {m9 : MethodId} {below : List Frame} {meth : Method} {c : Code} {l : Launch} {b  : Nat} {xs : Nat → Int32} {D : va_G} {cy : Nat → ClassId} {sc m0 al i0 i1 i2 i3 i4 i5 i6 i7 i8 i9 i10 i11 i12 lg ln lst len sv sn sst sen tx bf tn tp r0 r0e r1 r1e m v im kp pa de ide mtx pt so mo wh pf out outD m1 : Nat} {g0 : Nat → Option Nat} {f : Hf} {H : Heap} {locs : List Loc} {ls : Array Slot} (hfl : l.stackTraces = false) (C9 : lw_At p s m9 meth c b 6 xs) (C0 : hC p l s m9 meth c code 9 #[Value.ref b] RL D (hTy cy) (hA f00 s.heap.size)) (hord : sc < m0 ∧ m0 < al ∧ al < i0 ∧ i0 < i1 ∧ i1 < i2 ∧ i2 < i3 ∧ i3 < i4 ∧ i4 < i5 ∧ i5 < i6 ∧ i6 < i7 ∧ i7 < i8 ∧ i8 < i9 ∧ i9 < i10 ∧ i10 < i11 ∧ i11 < i12 ∧ i12 < lg ∧ lg < ln ∧ ln < lst ∧ lst < len ∧ len < sv ∧ sv < sn ∧ sn < sst ∧ sst < sen ∧ sen < tx ∧ tx < bf ∧ bf < tn ∧ tn < tp ∧ tp < r0 ∧ r0 < r0e ∧ r0e < r1 ∧ r1 < r1e ∧ r1e < m ∧ m < v ∧ v < im ∧ im < kp ∧ kp < pa ∧ pa < de ∧ de < ide ∧ ide < mtx ∧ mtx < pt ∧ pt < so ∧ so < mo ∧ mo < wh ∧ wh < pf ∧ pf < out ∧ out < outD) (hg0 : g0 0 = some i0) (G : hG D (hA f00 s.heap.size) f s H locs) (hl : lv_has ls 9 [(0, .ref b), (1, .ref sc), (2, .ref m), (3, .ref out), (4, .ref outD), (5, .int 0)]) (h_sc : f sc = some (.inr (10, [.ref m0, .ref m1, .ref lg, .ref sv, .ref tx, .ref r0, .ref r1, .int (-1), .int (-1), .int 0]))) (h_tx : f tx = some (.inr (9, [.ref bf, .ref tn, .ref tp, .int 0, .int 0]))) (h_bf : f bf = some (.inl (cy 1, 60, .inl (fun _ => 0)))) (h_m : f m = some (.inr (11, [.int 0, .int 0, .ref v, .ref im, .ref kp, .ref pa, .ref de, .ref ide, .int 0, .int 0, .ref mtx, .int 0, .int (-1), .int (-1), .ref pt, .int 0, .int 0, .int 0, .ref so, .ref mo, .ref wh, .ref pf]))) (h_mtx : f mtx = some (.inl (cy 0, 60, .inl (fun _ => 0)))) (h_out : f out = some (.inl (cy 5, 1, .inr (.inl (fun _ => 0))))) : W p l e room_1 s m9 #[Value.ref b] below meth c H locs 140 156303 (lw_Z below #[Value.ref b] s) (F0 m9 808 ls []) := by
  obtain ⟨oo0, oo1, oo2, oo3, oo4, oo5, oo6, oo7, oo8, oo9, oo10, oo11, oo12, oo13, oo14, oo15, oo16, oo17, oo18, oo19, oo20, oo21, oo22, oo23, oo24, oo25, oo26, oo27, oo28, oo29, oo30, oo31, oo32, oo33, oo34, oo35, oo36, oo37, oo38, oo39, oo40, oo41, oo42, oo43, oo44, oo45⟩ := hord
  obtain ⟨hx, hb, hr, hml, hown, hts, hX, hbl, hlocks, hgv⟩ := id C9
  have hbA : ¬ hA f00 s.heap.size b := fun q => by rcases q with q | q; exact q rfl; omega
  refine lv_aload_n hx hb dL_law_808 rfl (lv_at hl 1 rfl) ?_
  refine lv_aload_n hx hb dL_law_809 rfl (lv_at hl 0 rfl) ?_
  refine lv_iload hx hb dL_law_810 (lv_at hl 5 rfl) ?_
  refine lv_iconst (v := 1) hx hb dL_law_812 (by decide) ?_
  refine lv_iadd hx hb dL_law_813 ?_
  refine lv_topv (v := 1) (by decide) ?_
  refine va_sld hx hb hX hbl hbA G.2 (i := 1) (by unfold vp_in; decide) dL_law_814 ?_
  refine lv_i2c (v := ((xs 1).toUInt32 % 65536).toInt32) hx hb dL_law_815 rfl ?_
  refine lv_aload_n hx hb dL_law_816 rfl (lv_at hl 3 rfl) ?_
  refine g_cI C0 G (g_runSH C0 G (rest := []) (k_L_append hfl (((xs 1).toUInt32 % 65536).toInt32) h_sc h_tx h_bf h_out (by refine ⟨?_, ?_, ?_⟩ <;> omega)) hYH_L_append mm_L_157 ms_L_append ⟨(Nat.le_of_ble_eq_true rfl), (Nat.le_of_ble_eq_true rfl)⟩ rfl hl.1 rfl (Nat.le_of_ble_eq_true rfl) dL_law_817 ⟨(Nat.le_of_ble_eq_true rfl), (Nat.le_of_ble_eq_true rfl)⟩) (kx_no rfl) (fun r1 u2 H locs hp3 G => ?_)
  rcases hp3 with ⟨rfl, hP, ho9, fr9⟩ | ⟨rfl, hP, fr9⟩
  · refine lv_istore (lv' := [(6, .int 0), (0, .ref b), (1, .ref sc), (2, .ref m), (3, .ref out), (4, .ref outD), (5, .int 0)]) hx hb dL_law_820 hl (by decide) rfl (fun ls hl => ?_)
    refine lv_aload_n hx hb dL_law_822 rfl (lv_at hl 3 rfl) ?_
    refine lv_aload_n hx hb dL_law_823 rfl (lv_at hl 1 rfl) ?_
    refine lv_iload hx hb dL_law_824 (lv_at hl 6 rfl) ?_
    refine lv_iconst (v := 1) hx hb dL_law_826 (by decide) ?_
    refine lv_iadd hx hb dL_law_827 ?_
    refine lv_topv (v := 1) (by decide) ?_
    refine va_sld hx hb hX hbl hbA G.2 (i := 1) (by unfold vp_in; decide) dL_law_828 ?_
    refine lv_i2c (v := ((xs 1).toUInt32 % 65536).toInt32) hx hb dL_law_829 rfl ?_
    have k4 : u2 m = some (.inr (11, [.int 0, .int 0, .ref v, .ref im, .ref kp, .ref pa, .ref de, .ref ide, .int 0, .int 0, .ref mtx, .int 0, .int (-1), .int (-1), .ref pt, .int 0, .int 0, .int 0, .ref so, .ref mo, .ref wh, .ref pf])) := fr9 _ _ (by simp only [List.mem_cons, List.not_mem_nil, or_false]; intro q; rcases q with q | q | q <;> exact absurd q (by omega)) h_m
    have k5 : u2 mtx = some (.inl (cy 0, 60, .inl (fun _ => 0))) := fr9 _ _ (by simp only [List.mem_cons, List.not_mem_nil, or_false]; intro q; rcases q with q | q | q <;> exact absurd q (by omega)) h_mtx
    refine g_cI C0 G (g_runV C0 G (rest := []) (k_X9_append hfl (((xs 1).toUInt32 % 65536).toInt32) k4 k5) k4 rfl hY_X9_append mm_L_160 mi_X9_append ml_X9_append ⟨(Nat.le_of_ble_eq_true rfl), (Nat.le_of_ble_eq_true rfl)⟩ rfl hl.1 rfl (Nat.le_of_ble_eq_true rfl) dL_law_830 ⟨(Nat.le_of_ble_eq_true rfl), (Nat.le_of_ble_eq_true rfl)⟩) (kx_no rfl) (fun r8 u7 H locs hp6 G => ?_)
    rcases hp6 with ⟨hP9, hm8, rfl, fr8⟩ | ⟨hP9, hm8⟩
    · obtain ⟨rest9, hm9⟩ := hm8
      refine lv_istore (lv' := [(7, .int 1), (6, .int 0), (0, .ref b), (1, .ref sc), (2, .ref m), (3, .ref out), (4, .ref outD), (5, .int 0)]) hx hb dL_law_833 hl (by decide) rfl (fun ls hl => ?_)
      refine lv_aload_n hx hb dL_law_835 rfl (lv_at hl 4 rfl) ?_
      refine g_cI C0 G (g_runV C0 G (rest := []) (k_X9_thrown hfl hm9) hm9 rfl hY_X9_thrown mm_L_128 mi_X9_thrown ml_X9_thrown ⟨(Nat.le_of_ble_eq_true rfl), (Nat.le_of_ble_eq_true rfl)⟩ rfl hl.1 rfl (Nat.le_of_ble_eq_true rfl) dL_law_836 ⟨(Nat.le_of_ble_eq_true rfl), (Nat.le_of_ble_eq_true rfl)⟩) (kx_no rfl) (fun r11 u10 H locs hp9 G => ?_)
      obtain ⟨rfl, eu10⟩ := hp9
      rw [eu10] at G
      refine lv_iload hx hb dL_law_839 (lv_at hl 1 rfl) ?_
      refine lv_icmp_eq (tgt := 846) hx hb dL_law_841 (by decide) (fun _ => ?_) (fun c12 => absurd (by decide) c12)
      refine lv_iload hx hb dL_law_846 (lv_at hl 1 rfl) ?_
      refine lv_if_ne (tgt := 863) hx hb dL_law_848 (by decide) (fun c13 => absurd (by decide) c13) (fun _ => ?_)
      refine lv_aload_n hx hb dL_law_851 rfl (lv_at hl 5 rfl) ?_
      refine lv_iconst (v := 0) hx hb dL_law_852 (by decide) ?_
      have k14 : u7 out = some (.inl (cy 5, 1, .inr (.inl (vp_updL (fun _ => 0) 0 (1).toInt64)))) := fr8 _ _ (by simp only [List.mem_cons, List.not_mem_nil, or_false]; intro q; rcases q with q | q <;> exact absurd q (by omega)) ho9
      refine g_lald C0 G k14 5 rfl (by unfold vp_in; decide) dL_law_853 ?_
      refine lv_topvl (v := (1).toInt64) (by rfl) ?_
      refine lv_iload hx hb dL_law_854 (lv_at hl 0 rfl) ?_
      refine lv_i2l (v := (1).toInt64) hx hb dL_law_856 rfl ?_
      refine W.lcmp hx hb dL_law_857 ?_
      refine lv_topv (v := 0) (by simp [lg_cmp]) ?_
      refine lv_if_eq (tgt := 863) hx hb dL_law_858 (by decide) (fun _ => ?_) (fun c15 => absurd (by decide) c15)
      refine lv_goto (tgt := 2164) hx hb dL_law_863 (by decide) ?_
      exact law_tail hfl C9 C0 G (Nat.le_of_ble_eq_true rfl) (Nat.le_of_ble_eq_true rfl) (lv_sub hl [2, 7] rfl)
    · exact absurd hP hP9
  · refine lv_istore (lv' := [(6, .int 1), (0, .ref b), (1, .ref sc), (2, .ref m), (3, .ref out), (4, .ref outD), (5, .int 0)]) hx hb dL_law_820 hl (by decide) rfl (fun ls hl => ?_)
    refine lv_aload_n hx hb dL_law_822 rfl (lv_at hl 3 rfl) ?_
    refine lv_aload_n hx hb dL_law_823 rfl (lv_at hl 1 rfl) ?_
    refine lv_iload hx hb dL_law_824 (lv_at hl 6 rfl) ?_
    refine lv_iconst (v := 1) hx hb dL_law_826 (by decide) ?_
    refine lv_iadd hx hb dL_law_827 ?_
    refine lv_topv (v := 1) (by decide) ?_
    refine va_sld hx hb hX hbl hbA G.2 (i := 1) (by unfold vp_in; decide) dL_law_828 ?_
    refine lv_i2c (v := ((xs 1).toUInt32 % 65536).toInt32) hx hb dL_law_829 rfl ?_
    have k16 : u2 m = some (.inr (11, [.int 0, .int 0, .ref v, .ref im, .ref kp, .ref pa, .ref de, .ref ide, .int 0, .int 0, .ref mtx, .int 0, .int (-1), .int (-1), .ref pt, .int 0, .int 0, .int 0, .ref so, .ref mo, .ref wh, .ref pf])) := fr9 _ _ (by omega) h_m
    have k17 : u2 mtx = some (.inl (cy 0, 60, .inl (fun _ => 0))) := fr9 _ _ (by omega) h_mtx
    refine g_cI C0 G (g_runV C0 G (rest := []) (k_X9_append hfl (((xs 1).toUInt32 % 65536).toInt32) k16 k17) k16 rfl hY_X9_append mm_L_160 mi_X9_append ml_X9_append ⟨(Nat.le_of_ble_eq_true rfl), (Nat.le_of_ble_eq_true rfl)⟩ rfl hl.1 rfl (Nat.le_of_ble_eq_true rfl) dL_law_830 ⟨(Nat.le_of_ble_eq_true rfl), (Nat.le_of_ble_eq_true rfl)⟩) (kx_no rfl) (fun r20 u19 H locs hp18 G => ?_)
    rcases hp18 with ⟨hP9, hm8, rfl, fr8⟩ | ⟨hP9, hm8⟩
    · exact absurd hP9 hP
    · obtain ⟨rest9, hm9⟩ := hm8
      refine lv_istore (lv' := [(7, .int r20), (6, .int 1), (0, .ref b), (1, .ref sc), (2, .ref m), (3, .ref out), (4, .ref outD), (5, .int 0)]) hx hb dL_law_833 hl (by decide) rfl (fun ls hl => ?_)
      refine lv_aload_n hx hb dL_law_835 rfl (lv_at hl 4 rfl) ?_
      refine g_cI C0 G (g_runV C0 G (rest := []) (k_X9_thrown hfl hm9) hm9 rfl hY_X9_thrown mm_L_128 mi_X9_thrown ml_X9_thrown ⟨(Nat.le_of_ble_eq_true rfl), (Nat.le_of_ble_eq_true rfl)⟩ rfl hl.1 rfl (Nat.le_of_ble_eq_true rfl) dL_law_836 ⟨(Nat.le_of_ble_eq_true rfl), (Nat.le_of_ble_eq_true rfl)⟩) (kx_no rfl) (fun r23 u22 H locs hp21 G => ?_)
      obtain ⟨rfl, eu22⟩ := hp21
      rw [eu22] at G
      refine lv_iload hx hb dL_law_839 (lv_at hl 1 rfl) ?_
      refine lv_icmp_eq (tgt := 846) hx hb dL_law_841 (by decide) (fun _ => ?_) (fun c24 => absurd (by decide) c24)
      refine lv_iload hx hb dL_law_846 (lv_at hl 1 rfl) ?_
      refine lv_if_ne (tgt := 863) hx hb dL_law_848 (by decide) (fun _ => ?_) (fun c25 => absurd c25 (by decide))
      refine lv_goto (tgt := 2164) hx hb dL_law_863 (by decide) ?_
      exact law_tail hfl C9 C0 G (Nat.le_of_ble_eq_true rfl) (Nat.le_of_ble_eq_true rfl) (lv_sub hl [2, 7] rfl)
set_option maxRecDepth 100000 in
theorem law_case_12 {p : Program} {e : Env} {s : State} {m9 : MethodId} {below : List Frame} {meth : Method} {c : Code} {l : Launch} {b  : Nat} {xs : Nat → Int32} {D : va_G} {cy : Nat → ClassId} {sc m0 al i0 i1 i2 i3 i4 i5 i6 i7 i8 i9 i10 i11 i12 lg ln lst len sv sn sst sen tx bf tn tp r0 r0e r1 r1e m v im kp pa de ide mtx pt so mo wh pf out outD m1 : Nat} {g0 : Nat → Option Nat} {f : Hf} {H : Heap} {locs : List Loc} {ls : Array Slot} (hfl : l.stackTraces = false) (C9 : lw_At p s m9 meth c b 6 xs) (C0 : hC p l s m9 meth c code 9 #[Value.ref b] RL D (hTy cy) (hA f00 s.heap.size)) (hord : sc < m0 ∧ m0 < al ∧ al < i0 ∧ i0 < i1 ∧ i1 < i2 ∧ i2 < i3 ∧ i3 < i4 ∧ i4 < i5 ∧ i5 < i6 ∧ i6 < i7 ∧ i7 < i8 ∧ i8 < i9 ∧ i9 < i10 ∧ i10 < i11 ∧ i11 < i12 ∧ i12 < lg ∧ lg < ln ∧ ln < lst ∧ lst < len ∧ len < sv ∧ sv < sn ∧ sn < sst ∧ sst < sen ∧ sen < tx ∧ tx < bf ∧ bf < tn ∧ tn < tp ∧ tp < r0 ∧ r0 < r0e ∧ r0e < r1 ∧ r1 < r1e ∧ r1e < m ∧ m < v ∧ v < im ∧ im < kp ∧ kp < pa ∧ pa < de ∧ de < ide ∧ ide < mtx ∧ mtx < pt ∧ pt < so ∧ so < mo ∧ mo < wh ∧ wh < pf ∧ pf < out ∧ out < outD) (hg0 : g0 0 = some i0) (G : hG D (hA f00 s.heap.size) f s H locs) (hl : lv_has ls 9 [(0, .ref b), (1, .ref sc), (2, .ref m), (3, .ref out), (4, .ref outD), (5, .int 0)]) (h_sc : f sc = some (.inr (10, [.ref m0, .ref m1, .ref lg, .ref sv, .ref tx, .ref r0, .ref r1, .int (-1), .int (-1), .int 0]))) (h_lg : f lg = some (.inr (3, [.ref ln, .ref lst, .ref len, .int 0, .int 0, .int 0, .int 0, .int 0, .int 0]))) (h_m : f m = some (.inr (11, [.int 0, .int 0, .ref v, .ref im, .ref kp, .ref pa, .ref de, .ref ide, .int 0, .int 0, .ref mtx, .int 0, .int (-1), .int (-1), .ref pt, .int 0, .int 0, .int 0, .ref so, .ref mo, .ref wh, .ref pf]))) (h_v : f v = some (.inl (cy 0, 6441, .inl (fun _ => 0)))) : W p l e room_1 s m9 #[Value.ref b] below meth c H locs 140 156303 (lw_Z below #[Value.ref b] s) (F0 m9 998 ls []) := by
  obtain ⟨oo0, oo1, oo2, oo3, oo4, oo5, oo6, oo7, oo8, oo9, oo10, oo11, oo12, oo13, oo14, oo15, oo16, oo17, oo18, oo19, oo20, oo21, oo22, oo23, oo24, oo25, oo26, oo27, oo28, oo29, oo30, oo31, oo32, oo33, oo34, oo35, oo36, oo37, oo38, oo39, oo40, oo41, oo42, oo43, oo44, oo45⟩ := hord
  obtain ⟨hx, hb, hr, hml, hown, hts, hX, hbl, hlocks, hgv⟩ := id C9
  have hbA : ¬ hA f00 s.heap.size b := fun q => by rcases q with q | q; exact q rfl; omega
  refine lv_aload_n hx hb dL_law_998 rfl (lv_at hl 1 rfl) ?_
  refine lv_aload_n hx hb dL_law_999 rfl (lv_at hl 0 rfl) ?_
  refine lv_iload hx hb dL_law_1000 (lv_at hl 5 rfl) ?_
  refine lv_iconst (v := 1) hx hb dL_law_1002 (by decide) ?_
  refine lv_iadd hx hb dL_law_1003 ?_
  refine lv_topv (v := 1) (by decide) ?_
  refine va_sld hx hb hX hbl hbA G.2 (i := 1) (by unfold vp_in; decide) dL_law_1004 ?_
  refine lv_aload_n hx hb dL_law_1005 rfl (lv_at hl 3 rfl) ?_
  refine g_cI C0 G (g_runSH C0 G (rest := []) (k_L_now hfl (xs 1) h_sc h_lg) hYH_L_now mm_L_170 ms_L_now ⟨(Nat.le_of_ble_eq_true rfl), (Nat.le_of_ble_eq_true rfl)⟩ rfl hl.1 rfl (Nat.le_of_ble_eq_true rfl) dL_law_1006 ⟨(Nat.le_of_ble_eq_true rfl), (Nat.le_of_ble_eq_true rfl)⟩) (kx_no rfl) (fun r1 u2 H locs hp3 G => ?_)
  rcases hp3 with ⟨⟨rfl, hP⟩ | ⟨rfl, hP⟩, fr9⟩
  · refine lv_istore (lv' := [(6, .int 1), (0, .ref b), (1, .ref sc), (2, .ref m), (3, .ref out), (4, .ref outD), (5, .int 0)]) hx hb dL_law_1009 hl (by decide) rfl (fun ls hl => ?_)
    refine lv_aload_n hx hb dL_law_1011 rfl (lv_at hl 3 rfl) ?_
    refine lv_aload_n hx hb dL_law_1012 rfl (lv_at hl 1 rfl) ?_
    refine lv_iload hx hb dL_law_1013 (lv_at hl 6 rfl) ?_
    refine lv_iconst (v := 1) hx hb dL_law_1015 (by decide) ?_
    refine lv_iadd hx hb dL_law_1016 ?_
    refine lv_topv (v := 1) (by decide) ?_
    refine va_sld hx hb hX hbl hbA G.2 (i := 1) (by unfold vp_in; decide) dL_law_1017 ?_
    have k4 : u2 m = some (.inr (11, [.int 0, .int 0, .ref v, .ref im, .ref kp, .ref pa, .ref de, .ref ide, .int 0, .int 0, .ref mtx, .int 0, .int (-1), .int (-1), .ref pt, .int 0, .int 0, .int 0, .ref so, .ref mo, .ref wh, .ref pf])) := fr9 _ _ (by omega) h_m
    have k5 : u2 v = some (.inl (cy 0, 6441, .inl (fun _ => 0))) := fr9 _ _ (by omega) h_v
    refine g_cI C0 G (g_runV C0 G (rest := []) (k_X9_now hfl (xs 1) k4 k5) k4 rfl hY_X9_now mm_L_172 mi_X9_now ml_X9_now ⟨(Nat.le_of_ble_eq_true rfl), (Nat.le_of_ble_eq_true rfl)⟩ rfl hl.1 rfl (Nat.le_of_ble_eq_true rfl) dL_law_1018 ⟨(Nat.le_of_ble_eq_true rfl), (Nat.le_of_ble_eq_true rfl)⟩) (kx_no rfl) (fun r8 u7 H locs hp6 G => ?_)
    rcases hp6 with ⟨hP9, hm8⟩ | ⟨hP9, hm8⟩
    · exact absurd hP9 hP
    · obtain ⟨rest9, hm9⟩ := hm8
      refine lv_istore (lv' := [(7, .int r8), (6, .int 1), (0, .ref b), (1, .ref sc), (2, .ref m), (3, .ref out), (4, .ref outD), (5, .int 0)]) hx hb dL_law_1021 hl (by decide) rfl (fun ls hl => ?_)
      refine lv_aload_n hx hb dL_law_1023 rfl (lv_at hl 4 rfl) ?_
      refine g_cI C0 G (g_runV C0 G (rest := []) (k_X9_thrown hfl hm9) hm9 rfl hY_X9_thrown mm_L_128 mi_X9_thrown ml_X9_thrown ⟨(Nat.le_of_ble_eq_true rfl), (Nat.le_of_ble_eq_true rfl)⟩ rfl hl.1 rfl (Nat.le_of_ble_eq_true rfl) dL_law_1024 ⟨(Nat.le_of_ble_eq_true rfl), (Nat.le_of_ble_eq_true rfl)⟩) (kx_no rfl) (fun r11 u10 H locs hp9 G => ?_)
      obtain ⟨rfl, eu10⟩ := hp9
      rw [eu10] at G
      refine lv_iload hx hb dL_law_1027 (lv_at hl 1 rfl) ?_
      refine lv_icmp_eq (tgt := 1034) hx hb dL_law_1029 (by decide) (fun _ => ?_) (fun c12 => absurd (by decide) c12)
      refine lv_iload hx hb dL_law_1034 (lv_at hl 1 rfl) ?_
      refine lv_if_ne (tgt := 1051) hx hb dL_law_1036 (by decide) (fun _ => ?_) (fun c13 => absurd c13 (by decide))
      refine lv_goto (tgt := 2164) hx hb dL_law_1051 (by decide) ?_
      exact law_tail hfl C9 C0 G (Nat.le_of_ble_eq_true rfl) (Nat.le_of_ble_eq_true rfl) (lv_sub hl [2, 7] rfl)
  · refine lv_istore (lv' := [(6, .int 2), (0, .ref b), (1, .ref sc), (2, .ref m), (3, .ref out), (4, .ref outD), (5, .int 0)]) hx hb dL_law_1009 hl (by decide) rfl (fun ls hl => ?_)
    refine lv_aload_n hx hb dL_law_1011 rfl (lv_at hl 3 rfl) ?_
    refine lv_aload_n hx hb dL_law_1012 rfl (lv_at hl 1 rfl) ?_
    refine lv_iload hx hb dL_law_1013 (lv_at hl 6 rfl) ?_
    refine lv_iconst (v := 1) hx hb dL_law_1015 (by decide) ?_
    refine lv_iadd hx hb dL_law_1016 ?_
    refine lv_topv (v := 1) (by decide) ?_
    refine va_sld hx hb hX hbl hbA G.2 (i := 1) (by unfold vp_in; decide) dL_law_1017 ?_
    have k14 : u2 m = some (.inr (11, [.int 0, .int 0, .ref v, .ref im, .ref kp, .ref pa, .ref de, .ref ide, .int 0, .int 0, .ref mtx, .int 0, .int (-1), .int (-1), .ref pt, .int 0, .int 0, .int 0, .ref so, .ref mo, .ref wh, .ref pf])) := fr9 _ _ (by omega) h_m
    have k15 : u2 v = some (.inl (cy 0, 6441, .inl (fun _ => 0))) := fr9 _ _ (by omega) h_v
    refine g_cI C0 G (g_runV C0 G (rest := []) (k_X9_now hfl (xs 1) k14 k15) k14 rfl hY_X9_now mm_L_172 mi_X9_now ml_X9_now ⟨(Nat.le_of_ble_eq_true rfl), (Nat.le_of_ble_eq_true rfl)⟩ rfl hl.1 rfl (Nat.le_of_ble_eq_true rfl) dL_law_1018 ⟨(Nat.le_of_ble_eq_true rfl), (Nat.le_of_ble_eq_true rfl)⟩) (kx_no rfl) (fun r18 u17 H locs hp16 G => ?_)
    rcases hp16 with ⟨hP9, hm8⟩ | ⟨hP9, hm8⟩
    · obtain ⟨rest9, hm9⟩ := hm8
      refine lv_istore (lv' := [(7, .int r18), (6, .int 2), (0, .ref b), (1, .ref sc), (2, .ref m), (3, .ref out), (4, .ref outD), (5, .int 0)]) hx hb dL_law_1021 hl (by decide) rfl (fun ls hl => ?_)
      refine lv_aload_n hx hb dL_law_1023 rfl (lv_at hl 4 rfl) ?_
      refine g_cI C0 G (g_runV C0 G (rest := []) (k_X9_thrown hfl hm9) hm9 rfl hY_X9_thrown mm_L_128 mi_X9_thrown ml_X9_thrown ⟨(Nat.le_of_ble_eq_true rfl), (Nat.le_of_ble_eq_true rfl)⟩ rfl hl.1 rfl (Nat.le_of_ble_eq_true rfl) dL_law_1024 ⟨(Nat.le_of_ble_eq_true rfl), (Nat.le_of_ble_eq_true rfl)⟩) (kx_no rfl) (fun r21 u20 H locs hp19 G => ?_)
      obtain ⟨rfl, eu20⟩ := hp19
      rw [eu20] at G
      refine lv_iload hx hb dL_law_1027 (lv_at hl 1 rfl) ?_
      refine lv_icmp_eq (tgt := 1034) hx hb dL_law_1029 (by decide) (fun _ => ?_) (fun c22 => absurd (by decide) c22)
      refine lv_iload hx hb dL_law_1034 (lv_at hl 1 rfl) ?_
      refine lv_if_ne (tgt := 1051) hx hb dL_law_1036 (by decide) (fun _ => ?_) (fun c23 => absurd c23 (by decide))
      refine lv_goto (tgt := 2164) hx hb dL_law_1051 (by decide) ?_
      exact law_tail hfl C9 C0 G (Nat.le_of_ble_eq_true rfl) (Nat.le_of_ble_eq_true rfl) (lv_sub hl [2, 7] rfl)
    · exact absurd hP hP9
set_option maxRecDepth 100000 in
theorem law_case_16 {p : Program} {e : Env} {s : State} {m9 : MethodId} {below : List Frame} {meth : Method} {c : Code} {l : Launch} {b  : Nat} {xs : Nat → Int32} {D : va_G} {cy : Nat → ClassId} {sc m0 al i0 i1 i2 i3 i4 i5 i6 i7 i8 i9 i10 i11 i12 lg ln lst len sv sn sst sen tx bf tn tp r0 r0e r1 r1e m v im kp pa de ide mtx pt so mo wh pf out outD m1 : Nat} {g0 : Nat → Option Nat} {f : Hf} {H : Heap} {locs : List Loc} {ls : Array Slot} (hfl : l.stackTraces = false) (C9 : lw_At p s m9 meth c b 6 xs) (C0 : hC p l s m9 meth c code 9 #[Value.ref b] RL D (hTy cy) (hA f00 s.heap.size)) (hord : sc < m0 ∧ m0 < al ∧ al < i0 ∧ i0 < i1 ∧ i1 < i2 ∧ i2 < i3 ∧ i3 < i4 ∧ i4 < i5 ∧ i5 < i6 ∧ i6 < i7 ∧ i7 < i8 ∧ i8 < i9 ∧ i9 < i10 ∧ i10 < i11 ∧ i11 < i12 ∧ i12 < lg ∧ lg < ln ∧ ln < lst ∧ lst < len ∧ len < sv ∧ sv < sn ∧ sn < sst ∧ sst < sen ∧ sen < tx ∧ tx < bf ∧ bf < tn ∧ tn < tp ∧ tp < r0 ∧ r0 < r0e ∧ r0e < r1 ∧ r1 < r1e ∧ r1e < m ∧ m < v ∧ v < im ∧ im < kp ∧ kp < pa ∧ pa < de ∧ de < ide ∧ ide < mtx ∧ mtx < pt ∧ pt < so ∧ so < mo ∧ mo < wh ∧ wh < pf ∧ pf < out ∧ out < outD) (hg0 : g0 0 = some i0) (G : hG D (hA f00 s.heap.size) f s H locs) (hl : lv_has ls 9 [(0, .ref b), (1, .ref sc), (2, .ref m), (3, .ref out), (4, .ref outD), (5, .int 0)]) (h_sc : f sc = some (.inr (10, [.ref m0, .ref m1, .ref lg, .ref sv, .ref tx, .ref r0, .ref r1, .int (-1), .int (-1), .int 0]))) (h_m0 : f m0 = some (.inr (4, [.ref al, .int 0, .int 0, .int 0, .int 0, .int 0]))) (h_m : f m = some (.inr (11, [.int 0, .int 0, .ref v, .ref im, .ref kp, .ref pa, .ref de, .ref ide, .int 0, .int 0, .ref mtx, .int 0, .int (-1), .int (-1), .ref pt, .int 0, .int 0, .int 0, .ref so, .ref mo, .ref wh, .ref pf]))) (h_v : f v = some (.inl (cy 0, 6441, .inl (fun _ => 0)))) : W p l e room_1 s m9 #[Value.ref b] below meth c H locs 140 156303 (lw_Z below #[Value.ref b] s) (F0 m9 1282 ls []) := by
  obtain ⟨oo0, oo1, oo2, oo3, oo4, oo5, oo6, oo7, oo8, oo9, oo10, oo11, oo12, oo13, oo14, oo15, oo16, oo17, oo18, oo19, oo20, oo21, oo22, oo23, oo24, oo25, oo26, oo27, oo28, oo29, oo30, oo31, oo32, oo33, oo34, oo35, oo36, oo37, oo38, oo39, oo40, oo41, oo42, oo43, oo44, oo45⟩ := hord
  obtain ⟨hx, hb, hr, hml, hown, hts, hX, hbl, hlocks, hgv⟩ := id C9
  have hbA : ¬ hA f00 s.heap.size b := fun q => by rcases q with q | q; exact q rfl; omega
  refine lv_aload_n hx hb dL_law_1282 rfl (lv_at hl 1 rfl) ?_
  refine lv_aload_n hx hb dL_law_1283 rfl (lv_at hl 0 rfl) ?_
  refine lv_iload hx hb dL_law_1284 (lv_at hl 5 rfl) ?_
  refine lv_iconst (v := 1) hx hb dL_law_1286 (by decide) ?_
  refine lv_iadd hx hb dL_law_1287 ?_
  refine lv_topv (v := 1) (by decide) ?_
  refine va_sld hx hb hX hbl hbA G.2 (i := 1) (by unfold vp_in; decide) dL_law_1288 ?_
  refine lv_aload_n hx hb dL_law_1289 rfl (lv_at hl 0 rfl) ?_
  refine lv_iload hx hb dL_law_1290 (lv_at hl 5 rfl) ?_
  refine lv_iconst (v := 2) hx hb dL_law_1292 (by decide) ?_
  refine lv_iadd hx hb dL_law_1293 ?_
  refine lv_topv (v := 2) (by decide) ?_
  refine va_sld hx hb hX hbl hbA G.2 (i := 2) (by unfold vp_in; decide) dL_law_1294 ?_
  refine lv_aload_n hx hb dL_law_1295 rfl (lv_at hl 0 rfl) ?_
  refine lv_iload hx hb dL_law_1296 (lv_at hl 5 rfl) ?_
  refine lv_iconst (v := 3) hx hb dL_law_1298 (by decide) ?_
  refine lv_iadd hx hb dL_law_1299 ?_
  refine lv_topv (v := 3) (by decide) ?_
  refine va_sld hx hb hX hbl hbA G.2 (i := 3) (by unfold vp_in; decide) dL_law_1300 ?_
  refine lv_aload_n hx hb dL_law_1301 rfl (lv_at hl 3 rfl) ?_
  refine g_cI C0 G (g_runSH C0 G (rest := []) (k_L_partnership hfl (xs 1) (xs 2) (xs 3) h_sc h_m0) hYH_L_partnership mm_L_183 ms_L_partnership ⟨(Nat.le_of_ble_eq_true rfl), (Nat.le_of_ble_eq_true rfl)⟩ rfl hl.1 rfl (Nat.le_of_ble_eq_true rfl) dL_law_1302 ⟨(Nat.le_of_ble_eq_true rfl), (Nat.le_of_ble_eq_true rfl)⟩) (kx_no rfl) (fun r1 u2 H locs hp3 G => ?_)
  obtain ⟨rfl, fr9⟩ := hp3
  refine lv_istore (lv' := [(6, .int 1), (0, .ref b), (1, .ref sc), (2, .ref m), (3, .ref out), (4, .ref outD), (5, .int 0)]) hx hb dL_law_1305 hl (by decide) rfl (fun ls hl => ?_)
  refine lv_aload_n hx hb dL_law_1307 rfl (lv_at hl 3 rfl) ?_
  refine lv_aload_n hx hb dL_law_1308 rfl (lv_at hl 1 rfl) ?_
  refine lv_iload hx hb dL_law_1309 (lv_at hl 6 rfl) ?_
  refine lv_iconst (v := 1) hx hb dL_law_1311 (by decide) ?_
  refine lv_iadd hx hb dL_law_1312 ?_
  refine lv_topv (v := 1) (by decide) ?_
  refine va_sld hx hb hX hbl hbA G.2 (i := 1) (by unfold vp_in; decide) dL_law_1313 ?_
  refine lv_aload_n hx hb dL_law_1314 rfl (lv_at hl 1 rfl) ?_
  refine lv_iload hx hb dL_law_1315 (lv_at hl 6 rfl) ?_
  refine lv_iconst (v := 2) hx hb dL_law_1317 (by decide) ?_
  refine lv_iadd hx hb dL_law_1318 ?_
  refine lv_topv (v := 2) (by decide) ?_
  refine va_sld hx hb hX hbl hbA G.2 (i := 2) (by unfold vp_in; decide) dL_law_1319 ?_
  refine lv_aload_n hx hb dL_law_1320 rfl (lv_at hl 1 rfl) ?_
  refine lv_iload hx hb dL_law_1321 (lv_at hl 6 rfl) ?_
  refine lv_iconst (v := 3) hx hb dL_law_1323 (by decide) ?_
  refine lv_iadd hx hb dL_law_1324 ?_
  refine lv_topv (v := 3) (by decide) ?_
  refine va_sld hx hb hX hbl hbA G.2 (i := 3) (by unfold vp_in; decide) dL_law_1325 ?_
  have k4 : u2 m = some (.inr (11, [.int 0, .int 0, .ref v, .ref im, .ref kp, .ref pa, .ref de, .ref ide, .int 0, .int 0, .ref mtx, .int 0, .int (-1), .int (-1), .ref pt, .int 0, .int 0, .int 0, .ref so, .ref mo, .ref wh, .ref pf])) := fr9 _ _ (by omega) h_m
  have k5 : u2 v = some (.inl (cy 0, 6441, .inl (fun _ => 0))) := fr9 _ _ (by omega) h_v
  refine g_cI C0 G (g_runV C0 G (rest := []) (k_X9_partnership hfl (xs 1) (xs 2) (xs 3) k4 k5) k4 rfl hY_X9_partnership mm_L_185 mi_X9_partnership ml_X9_partnership ⟨(Nat.le_of_ble_eq_true rfl), (Nat.le_of_ble_eq_true rfl)⟩ rfl hl.1 rfl (Nat.le_of_ble_eq_true rfl) dL_law_1326 ⟨(Nat.le_of_ble_eq_true rfl), (Nat.le_of_ble_eq_true rfl)⟩) (kx_no rfl) (fun r8 u7 H locs hp6 G => ?_)
  obtain ⟨rest9, hm9⟩ := hp6
  refine lv_istore (lv' := [(7, .int r8), (6, .int 1), (0, .ref b), (1, .ref sc), (2, .ref m), (3, .ref out), (4, .ref outD), (5, .int 0)]) hx hb dL_law_1329 hl (by decide) rfl (fun ls hl => ?_)
  refine lv_aload_n hx hb dL_law_1331 rfl (lv_at hl 4 rfl) ?_
  refine g_cI C0 G (g_runV C0 G (rest := []) (k_X9_thrown hfl hm9) hm9 rfl hY_X9_thrown mm_L_128 mi_X9_thrown ml_X9_thrown ⟨(Nat.le_of_ble_eq_true rfl), (Nat.le_of_ble_eq_true rfl)⟩ rfl hl.1 rfl (Nat.le_of_ble_eq_true rfl) dL_law_1332 ⟨(Nat.le_of_ble_eq_true rfl), (Nat.le_of_ble_eq_true rfl)⟩) (kx_no rfl) (fun r11 u10 H locs hp9 G => ?_)
  obtain ⟨rfl, eu10⟩ := hp9
  rw [eu10] at G
  refine lv_iload hx hb dL_law_1335 (lv_at hl 1 rfl) ?_
  refine lv_icmp_eq (tgt := 1342) hx hb dL_law_1337 (by decide) (fun _ => ?_) (fun c12 => absurd (by decide) c12)
  refine lv_iload hx hb dL_law_1342 (lv_at hl 1 rfl) ?_
  refine lv_if_ne (tgt := 1359) hx hb dL_law_1344 (by decide) (fun _ => ?_) (fun c13 => absurd c13 (by decide))
  refine lv_goto (tgt := 2164) hx hb dL_law_1359 (by decide) ?_
  exact law_tail hfl C9 C0 G (Nat.le_of_ble_eq_true rfl) (Nat.le_of_ble_eq_true rfl) (lv_sub hl [2, 7] rfl)
set_option maxRecDepth 100000 in
theorem law_case_20 {p : Program} {e : Env} {s : State} {m9 : MethodId} {below : List Frame} {meth : Method} {c : Code} {l : Launch} {b  : Nat} {xs : Nat → Int32} {D : va_G} {cy : Nat → ClassId} {sc m0 al i0 i1 i2 i3 i4 i5 i6 i7 i8 i9 i10 i11 i12 lg ln lst len sv sn sst sen tx bf tn tp r0 r0e r1 r1e m v im kp pa de ide mtx pt so mo wh pf out outD m1 : Nat} {g0 : Nat → Option Nat} {f : Hf} {H : Heap} {locs : List Loc} {ls : Array Slot} (hfl : l.stackTraces = false) (C9 : lw_At p s m9 meth c b 6 xs) (C0 : hC p l s m9 meth c code 9 #[Value.ref b] RL D (hTy cy) (hA f00 s.heap.size)) (hord : sc < m0 ∧ m0 < al ∧ al < i0 ∧ i0 < i1 ∧ i1 < i2 ∧ i2 < i3 ∧ i3 < i4 ∧ i4 < i5 ∧ i5 < i6 ∧ i6 < i7 ∧ i7 < i8 ∧ i8 < i9 ∧ i9 < i10 ∧ i10 < i11 ∧ i11 < i12 ∧ i12 < lg ∧ lg < ln ∧ ln < lst ∧ lst < len ∧ len < sv ∧ sv < sn ∧ sn < sst ∧ sst < sen ∧ sen < tx ∧ tx < bf ∧ bf < tn ∧ tn < tp ∧ tp < r0 ∧ r0 < r0e ∧ r0e < r1 ∧ r1 < r1e ∧ r1e < m ∧ m < v ∧ v < im ∧ im < kp ∧ kp < pa ∧ pa < de ∧ de < ide ∧ ide < mtx ∧ mtx < pt ∧ pt < so ∧ so < mo ∧ mo < wh ∧ wh < pf ∧ pf < out ∧ out < outD) (hg0 : g0 0 = some i0) (G : hG D (hA f00 s.heap.size) f s H locs) (hl : lv_has ls 9 [(0, .ref b), (1, .ref sc), (2, .ref m), (3, .ref out), (4, .ref outD), (5, .int 0)]) (h_sc : f sc = some (.inr (10, [.ref m0, .ref m1, .ref lg, .ref sv, .ref tx, .ref r0, .ref r1, .int (-1), .int (-1), .int 0]))) (h_m0 : f m0 = some (.inr (4, [.ref al, .int 0, .int 0, .int 0, .int 0, .int 0]))) (h_m : f m = some (.inr (11, [.int 0, .int 0, .ref v, .ref im, .ref kp, .ref pa, .ref de, .ref ide, .int 0, .int 0, .ref mtx, .int 0, .int (-1), .int (-1), .ref pt, .int 0, .int 0, .int 0, .ref so, .ref mo, .ref wh, .ref pf]))) (h_v : f v = some (.inl (cy 0, 6441, .inl (fun _ => 0)))) : W p l e room_1 s m9 #[Value.ref b] below meth c H locs 140 156303 (lw_Z below #[Value.ref b] s) (F0 m9 1527 ls []) := by
  obtain ⟨oo0, oo1, oo2, oo3, oo4, oo5, oo6, oo7, oo8, oo9, oo10, oo11, oo12, oo13, oo14, oo15, oo16, oo17, oo18, oo19, oo20, oo21, oo22, oo23, oo24, oo25, oo26, oo27, oo28, oo29, oo30, oo31, oo32, oo33, oo34, oo35, oo36, oo37, oo38, oo39, oo40, oo41, oo42, oo43, oo44, oo45⟩ := hord
  obtain ⟨hx, hb, hr, hml, hown, hts, hX, hbl, hlocks, hgv⟩ := id C9
  have hbA : ¬ hA f00 s.heap.size b := fun q => by rcases q with q | q; exact q rfl; omega
  refine lv_aload_n hx hb dL_law_1527 rfl (lv_at hl 1 rfl) ?_
  refine lv_aload_n hx hb dL_law_1528 rfl (lv_at hl 0 rfl) ?_
  refine lv_iload hx hb dL_law_1529 (lv_at hl 5 rfl) ?_
  refine lv_iconst (v := 1) hx hb dL_law_1531 (by decide) ?_
  refine lv_iadd hx hb dL_law_1532 ?_
  refine lv_topv (v := 1) (by decide) ?_
  refine va_sld hx hb hX hbl hbA G.2 (i := 1) (by unfold vp_in; decide) dL_law_1533 ?_
  refine lv_aload hx hb dL_law_1534 (lv_at hl 4 rfl) ?_
  refine g_cI C0 G (g_runSH C0 G (rest := []) (k_L_runRate hfl (xs 1) h_sc h_m0) hYH_L_runRate mm_L_197 ms_L_runRate ⟨(Nat.le_of_ble_eq_true rfl), (Nat.le_of_ble_eq_true rfl)⟩ rfl hl.1 rfl (Nat.le_of_ble_eq_true rfl) dL_law_1536 ⟨(Nat.le_of_ble_eq_true rfl), (Nat.le_of_ble_eq_true rfl)⟩) (kx_no rfl) (fun r1 u2 H locs hp3 G => ?_)
  obtain ⟨rfl, fr9⟩ := hp3
  refine lv_istore (lv' := [(6, .int 1), (0, .ref b), (1, .ref sc), (2, .ref m), (3, .ref out), (4, .ref outD), (5, .int 0)]) hx hb dL_law_1539 hl (by decide) rfl (fun ls hl => ?_)
  refine lv_aload_n hx hb dL_law_1541 rfl (lv_at hl 3 rfl) ?_
  refine lv_aload_n hx hb dL_law_1542 rfl (lv_at hl 1 rfl) ?_
  refine lv_iload hx hb dL_law_1543 (lv_at hl 6 rfl) ?_
  refine lv_iconst (v := 1) hx hb dL_law_1545 (by decide) ?_
  refine lv_iadd hx hb dL_law_1546 ?_
  refine lv_topv (v := 1) (by decide) ?_
  refine va_sld hx hb hX hbl hbA G.2 (i := 1) (by unfold vp_in; decide) dL_law_1547 ?_
  have k4 : u2 m = some (.inr (11, [.int 0, .int 0, .ref v, .ref im, .ref kp, .ref pa, .ref de, .ref ide, .int 0, .int 0, .ref mtx, .int 0, .int (-1), .int (-1), .ref pt, .int 0, .int 0, .int 0, .ref so, .ref mo, .ref wh, .ref pf])) := fr9 _ _ (by omega) h_m
  have k5 : u2 v = some (.inl (cy 0, 6441, .inl (fun _ => 0))) := fr9 _ _ (by omega) h_v
  refine g_cD C0 G (g_runV C0 G (rest := []) (k_X9_runRate hfl (xs 1) k4 k5) k4 rfl hY_X9_runRate mm_L_200 mi_X9_runRate ml_X9_runRate ⟨(Nat.le_of_ble_eq_true rfl), (Nat.le_of_ble_eq_true rfl)⟩ rfl hl.1 rfl (Nat.le_of_ble_eq_true rfl) dL_law_1548 ⟨(Nat.le_of_ble_eq_true rfl), (Nat.le_of_ble_eq_true rfl)⟩) (kx_no rfl) (fun r6 u7 H locs hp8 G => ?_)
  obtain ⟨rest9, hm9⟩ := hp8
  refine lv_dstore (lv' := [(7, .double r6), (6, .int 1), (0, .ref b), (1, .ref sc), (2, .ref m), (3, .ref out), (4, .ref outD), (5, .int 0)]) hx hb dL_law_1551 hl (by decide) rfl (fun ls hl => ?_)
  refine lv_aload_n hx hb dL_law_1553 rfl (lv_at hl 4 rfl) ?_
  refine g_cI C0 G (g_runV C0 G (rest := []) (k_X9_thrown hfl hm9) hm9 rfl hY_X9_thrown mm_L_128 mi_X9_thrown ml_X9_thrown ⟨(Nat.le_of_ble_eq_true rfl), (Nat.le_of_ble_eq_true rfl)⟩ rfl hl.1 rfl (Nat.le_of_ble_eq_true rfl) dL_law_1554 ⟨(Nat.le_of_ble_eq_true rfl), (Nat.le_of_ble_eq_true rfl)⟩) (kx_no rfl) (fun r11 u10 H locs hp9 G => ?_)
  obtain ⟨rfl, eu10⟩ := hp9
  rw [eu10] at G
  refine lv_iload hx hb dL_law_1557 (lv_at hl 1 rfl) ?_
  refine lv_icmp_eq (tgt := 1564) hx hb dL_law_1559 (by decide) (fun _ => ?_) (fun c12 => absurd (by decide) c12)
  refine lv_iload hx hb dL_law_1564 (lv_at hl 1 rfl) ?_
  refine lv_if_ne (tgt := 1601) hx hb dL_law_1566 (by decide) (fun _ => ?_) (fun c13 => absurd c13 (by decide))
  refine lv_goto (tgt := 2164) hx hb dL_law_1601 (by decide) ?_
  exact law_tail hfl C9 C0 G (Nat.le_of_ble_eq_true rfl) (Nat.le_of_ble_eq_true rfl) (lv_sub hl [2, 7] rfl)
set_option maxRecDepth 100000 in
theorem law_case_24 {p : Program} {e : Env} {s : State} {m9 : MethodId} {below : List Frame} {meth : Method} {c : Code} {l : Launch} {b  : Nat} {xs : Nat → Int32} {D : va_G} {cy : Nat → ClassId} {sc m0 al i0 i1 i2 i3 i4 i5 i6 i7 i8 i9 i10 i11 i12 lg ln lst len sv sn sst sen tx bf tn tp r0 r0e r1 r1e m v im kp pa de ide mtx pt so mo wh pf out outD m1 : Nat} {g0 : Nat → Option Nat} {f : Hf} {H : Heap} {locs : List Loc} {ls : Array Slot} (hfl : l.stackTraces = false) (C9 : lw_At p s m9 meth c b 6 xs) (C0 : hC p l s m9 meth c code 9 #[Value.ref b] RL D (hTy cy) (hA f00 s.heap.size)) (hord : sc < m0 ∧ m0 < al ∧ al < i0 ∧ i0 < i1 ∧ i1 < i2 ∧ i2 < i3 ∧ i3 < i4 ∧ i4 < i5 ∧ i5 < i6 ∧ i6 < i7 ∧ i7 < i8 ∧ i8 < i9 ∧ i9 < i10 ∧ i10 < i11 ∧ i11 < i12 ∧ i12 < lg ∧ lg < ln ∧ ln < lst ∧ lst < len ∧ len < sv ∧ sv < sn ∧ sn < sst ∧ sst < sen ∧ sen < tx ∧ tx < bf ∧ bf < tn ∧ tn < tp ∧ tp < r0 ∧ r0 < r0e ∧ r0e < r1 ∧ r1 < r1e ∧ r1e < m ∧ m < v ∧ v < im ∧ im < kp ∧ kp < pa ∧ pa < de ∧ de < ide ∧ ide < mtx ∧ mtx < pt ∧ pt < so ∧ so < mo ∧ mo < wh ∧ wh < pf ∧ pf < out ∧ out < outD) (hg0 : g0 0 = some i0) (G : hG D (hA f00 s.heap.size) f s H locs) (hl : lv_has ls 9 [(0, .ref b), (1, .ref sc), (2, .ref m), (3, .ref out), (4, .ref outD), (5, .int 0)]) (h_sc : f sc = some (.inr (10, [.ref m0, .ref m1, .ref lg, .ref sv, .ref tx, .ref r0, .ref r1, .int (-1), .int (-1), .int 0]))) (h_r0 : f r0 = some (.inr (6, [.ref r0e, .int 0, .int 0, .int 0]))) (h_r1 : f r1 = some (.inr (6, [.ref r1e, .int 0, .int 0, .int 0]))) (h_m : f m = some (.inr (11, [.int 0, .int 0, .ref v, .ref im, .ref kp, .ref pa, .ref de, .ref ide, .int 0, .int 0, .ref mtx, .int 0, .int (-1), .int (-1), .ref pt, .int 0, .int 0, .int 0, .ref so, .ref mo, .ref wh, .ref pf]))) (h_so : f so = some (.inl (cy 0, 2, .inl (fun _ => 0)))) (h_mo : f mo = some (.inl (cy 0, 2, .inl (fun _ => 0)))) : W p l e room_1 s m9 #[Value.ref b] below meth c H locs 140 156303 (lw_Z below #[Value.ref b] s) (F0 m9 1865 ls []) := by
  obtain ⟨oo0, oo1, oo2, oo3, oo4, oo5, oo6, oo7, oo8, oo9, oo10, oo11, oo12, oo13, oo14, oo15, oo16, oo17, oo18, oo19, oo20, oo21, oo22, oo23, oo24, oo25, oo26, oo27, oo28, oo29, oo30, oo31, oo32, oo33, oo34, oo35, oo36, oo37, oo38, oo39, oo40, oo41, oo42, oo43, oo44, oo45⟩ := hord
  obtain ⟨hx, hb, hr, hml, hown, hts, hX, hbl, hlocks, hgv⟩ := id C9
  have hbA : ¬ hA f00 s.heap.size b := fun q => by rcases q with q | q; exact q rfl; omega
  refine lv_aload_n hx hb dL_law_1865 rfl (lv_at hl 1 rfl) ?_
  refine lv_aload_n hx hb dL_law_1866 rfl (lv_at hl 0 rfl) ?_
  refine lv_iload hx hb dL_law_1867 (lv_at hl 5 rfl) ?_
  refine lv_iconst (v := 1) hx hb dL_law_1869 (by decide) ?_
  refine lv_iadd hx hb dL_law_1870 ?_
  refine lv_topv (v := 1) (by decide) ?_
  refine va_sld hx hb hX hbl hbA G.2 (i := 1) (by unfold vp_in; decide) dL_law_1871 ?_
  refine lv_aload_n hx hb dL_law_1872 rfl (lv_at hl 0 rfl) ?_
  refine lv_iload hx hb dL_law_1873 (lv_at hl 5 rfl) ?_
  refine lv_iconst (v := 2) hx hb dL_law_1875 (by decide) ?_
  refine lv_iadd hx hb dL_law_1876 ?_
  refine lv_topv (v := 2) (by decide) ?_
  refine va_sld hx hb hX hbl hbA G.2 (i := 2) (by unfold vp_in; decide) dL_law_1877 ?_
  refine lv_aload hx hb dL_law_1878 (lv_at hl 4 rfl) ?_
  refine g_cI C0 G (g_runSH C0 G (rest := []) (k_L_storedOvers hfl (xs 1) (xs 2) h_sc h_r0 h_r1) hYH_L_storedOvers mm_L_211 ms_L_storedOvers ⟨(Nat.le_of_ble_eq_true rfl), (Nat.le_of_ble_eq_true rfl)⟩ rfl hl.1 rfl (Nat.le_of_ble_eq_true rfl) dL_law_1880 ⟨(Nat.le_of_ble_eq_true rfl), (Nat.le_of_ble_eq_true rfl)⟩) (kx_no rfl) (fun r1 u2 H locs hp3 G => ?_)
  rcases hp3 with ⟨⟨rfl, hP⟩ | ⟨rfl, hP⟩, fr9⟩
  · refine lv_istore (lv' := [(6, .int 1), (0, .ref b), (1, .ref sc), (2, .ref m), (3, .ref out), (4, .ref outD), (5, .int 0)]) hx hb dL_law_1883 hl (by decide) rfl (fun ls hl => ?_)
    refine lv_aload_n hx hb dL_law_1885 rfl (lv_at hl 3 rfl) ?_
    refine lv_aload_n hx hb dL_law_1886 rfl (lv_at hl 1 rfl) ?_
    refine lv_iload hx hb dL_law_1887 (lv_at hl 6 rfl) ?_
    refine lv_iconst (v := 1) hx hb dL_law_1889 (by decide) ?_
    refine lv_iadd hx hb dL_law_1890 ?_
    refine lv_topv (v := 1) (by decide) ?_
    refine va_sld hx hb hX hbl hbA G.2 (i := 1) (by unfold vp_in; decide) dL_law_1891 ?_
    refine lv_aload_n hx hb dL_law_1892 rfl (lv_at hl 1 rfl) ?_
    refine lv_iload hx hb dL_law_1893 (lv_at hl 6 rfl) ?_
    refine lv_iconst (v := 2) hx hb dL_law_1895 (by decide) ?_
    refine lv_iadd hx hb dL_law_1896 ?_
    refine lv_topv (v := 2) (by decide) ?_
    refine va_sld hx hb hX hbl hbA G.2 (i := 2) (by unfold vp_in; decide) dL_law_1897 ?_
    have k4 : u2 m = some (.inr (11, [.int 0, .int 0, .ref v, .ref im, .ref kp, .ref pa, .ref de, .ref ide, .int 0, .int 0, .ref mtx, .int 0, .int (-1), .int (-1), .ref pt, .int 0, .int 0, .int 0, .ref so, .ref mo, .ref wh, .ref pf])) := fr9 _ _ (by omega) h_m
    have k5 : u2 so = some (.inl (cy 0, 2, .inl (fun _ => 0))) := fr9 _ _ (by omega) h_so
    have k6 : u2 mo = some (.inl (cy 0, 2, .inl (fun _ => 0))) := fr9 _ _ (by omega) h_mo
    refine g_cF C0 G (g_runV C0 G (rest := []) (k_X9_storedOvers hfl (xs 1) (xs 2) k4 k5 k6) k4 rfl hY_X9_storedOvers mm_L_213 mi_X9_storedOvers ml_X9_storedOvers ⟨(Nat.le_of_ble_eq_true rfl), (Nat.le_of_ble_eq_true rfl)⟩ rfl hl.1 rfl (Nat.le_of_ble_eq_true rfl) dL_law_1898 ⟨(Nat.le_of_ble_eq_true rfl), (Nat.le_of_ble_eq_true rfl)⟩) (kx_no rfl) (fun r7 u8 H locs hp9 G => ?_)
    rcases hp9 with ⟨hP9, hm8⟩ | ⟨hP9, hm8⟩
    · exact absurd hP9 hP
    · obtain ⟨rest9, hm9⟩ := hm8
      refine lv_fstore (lv' := [(7, .float r7), (6, .int 1), (0, .ref b), (1, .ref sc), (2, .ref m), (3, .ref out), (4, .ref outD), (5, .int 0)]) hx hb dL_law_1901 hl (by decide) rfl (fun ls hl => ?_)
      refine lv_aload_n hx hb dL_law_1903 rfl (lv_at hl 4 rfl) ?_
      refine g_cI C0 G (g_runV C0 G (rest := []) (k_X9_thrown hfl hm9) hm9 rfl hY_X9_thrown mm_L_128 mi_X9_thrown ml_X9_thrown ⟨(Nat.le_of_ble_eq_true rfl), (Nat.le_of_ble_eq_true rfl)⟩ rfl hl.1 rfl (Nat.le_of_ble_eq_true rfl) dL_law_1904 ⟨(Nat.le_of_ble_eq_true rfl), (Nat.le_of_ble_eq_true rfl)⟩) (kx_no rfl) (fun r12 u11 H locs hp10 G => ?_)
      obtain ⟨rfl, eu11⟩ := hp10
      rw [eu11] at G
      refine lv_iload hx hb dL_law_1907 (lv_at hl 1 rfl) ?_
      refine lv_icmp_eq (tgt := 1914) hx hb dL_law_1909 (by decide) (fun _ => ?_) (fun c13 => absurd (by decide) c13)
      refine lv_iload hx hb dL_law_1914 (lv_at hl 1 rfl) ?_
      refine lv_if_ne (tgt := 1952) hx hb dL_law_1916 (by decide) (fun _ => ?_) (fun c14 => absurd c14 (by decide))
      refine lv_goto (tgt := 2164) hx hb dL_law_1952 (by decide) ?_
      exact law_tail hfl C9 C0 G (Nat.le_of_ble_eq_true rfl) (Nat.le_of_ble_eq_true rfl) (lv_sub hl [2, 7] rfl)
  · refine lv_istore (lv' := [(6, .int 2), (0, .ref b), (1, .ref sc), (2, .ref m), (3, .ref out), (4, .ref outD), (5, .int 0)]) hx hb dL_law_1883 hl (by decide) rfl (fun ls hl => ?_)
    refine lv_aload_n hx hb dL_law_1885 rfl (lv_at hl 3 rfl) ?_
    refine lv_aload_n hx hb dL_law_1886 rfl (lv_at hl 1 rfl) ?_
    refine lv_iload hx hb dL_law_1887 (lv_at hl 6 rfl) ?_
    refine lv_iconst (v := 1) hx hb dL_law_1889 (by decide) ?_
    refine lv_iadd hx hb dL_law_1890 ?_
    refine lv_topv (v := 1) (by decide) ?_
    refine va_sld hx hb hX hbl hbA G.2 (i := 1) (by unfold vp_in; decide) dL_law_1891 ?_
    refine lv_aload_n hx hb dL_law_1892 rfl (lv_at hl 1 rfl) ?_
    refine lv_iload hx hb dL_law_1893 (lv_at hl 6 rfl) ?_
    refine lv_iconst (v := 2) hx hb dL_law_1895 (by decide) ?_
    refine lv_iadd hx hb dL_law_1896 ?_
    refine lv_topv (v := 2) (by decide) ?_
    refine va_sld hx hb hX hbl hbA G.2 (i := 2) (by unfold vp_in; decide) dL_law_1897 ?_
    have k15 : u2 m = some (.inr (11, [.int 0, .int 0, .ref v, .ref im, .ref kp, .ref pa, .ref de, .ref ide, .int 0, .int 0, .ref mtx, .int 0, .int (-1), .int (-1), .ref pt, .int 0, .int 0, .int 0, .ref so, .ref mo, .ref wh, .ref pf])) := fr9 _ _ (by omega) h_m
    have k16 : u2 so = some (.inl (cy 0, 2, .inl (fun _ => 0))) := fr9 _ _ (by omega) h_so
    have k17 : u2 mo = some (.inl (cy 0, 2, .inl (fun _ => 0))) := fr9 _ _ (by omega) h_mo
    refine g_cF C0 G (g_runV C0 G (rest := []) (k_X9_storedOvers hfl (xs 1) (xs 2) k15 k16 k17) k15 rfl hY_X9_storedOvers mm_L_213 mi_X9_storedOvers ml_X9_storedOvers ⟨(Nat.le_of_ble_eq_true rfl), (Nat.le_of_ble_eq_true rfl)⟩ rfl hl.1 rfl (Nat.le_of_ble_eq_true rfl) dL_law_1898 ⟨(Nat.le_of_ble_eq_true rfl), (Nat.le_of_ble_eq_true rfl)⟩) (kx_no rfl) (fun r18 u19 H locs hp20 G => ?_)
    rcases hp20 with ⟨hP9, hm8⟩ | ⟨hP9, hm8⟩
    · obtain ⟨rest9, hm9⟩ := hm8
      refine lv_fstore (lv' := [(7, .float r18), (6, .int 2), (0, .ref b), (1, .ref sc), (2, .ref m), (3, .ref out), (4, .ref outD), (5, .int 0)]) hx hb dL_law_1901 hl (by decide) rfl (fun ls hl => ?_)
      refine lv_aload_n hx hb dL_law_1903 rfl (lv_at hl 4 rfl) ?_
      refine g_cI C0 G (g_runV C0 G (rest := []) (k_X9_thrown hfl hm9) hm9 rfl hY_X9_thrown mm_L_128 mi_X9_thrown ml_X9_thrown ⟨(Nat.le_of_ble_eq_true rfl), (Nat.le_of_ble_eq_true rfl)⟩ rfl hl.1 rfl (Nat.le_of_ble_eq_true rfl) dL_law_1904 ⟨(Nat.le_of_ble_eq_true rfl), (Nat.le_of_ble_eq_true rfl)⟩) (kx_no rfl) (fun r23 u22 H locs hp21 G => ?_)
      obtain ⟨rfl, eu22⟩ := hp21
      rw [eu22] at G
      refine lv_iload hx hb dL_law_1907 (lv_at hl 1 rfl) ?_
      refine lv_icmp_eq (tgt := 1914) hx hb dL_law_1909 (by decide) (fun _ => ?_) (fun c24 => absurd (by decide) c24)
      refine lv_iload hx hb dL_law_1914 (lv_at hl 1 rfl) ?_
      refine lv_if_ne (tgt := 1952) hx hb dL_law_1916 (by decide) (fun _ => ?_) (fun c25 => absurd c25 (by decide))
      refine lv_goto (tgt := 2164) hx hb dL_law_1952 (by decide) ?_
      exact law_tail hfl C9 C0 G (Nat.le_of_ble_eq_true rfl) (Nat.le_of_ble_eq_true rfl) (lv_sub hl [2, 7] rfl)
    · exact absurd hP hP9
set_option maxRecDepth 100000 in
theorem law_case_28 {p : Program} {e : Env} {s : State} {m9 : MethodId} {below : List Frame} {meth : Method} {c : Code} {l : Launch} {b  : Nat} {xs : Nat → Int32} {D : va_G} {cy : Nat → ClassId} {sc m0 al i0 i1 i2 i3 i4 i5 i6 i7 i8 i9 i10 i11 i12 lg ln lst len sv sn sst sen tx bf tn tp r0 r0e r1 r1e m v im kp pa de ide mtx pt so mo wh pf out outD m1 : Nat} {g0 : Nat → Option Nat} {f : Hf} {H : Heap} {locs : List Loc} {ls : Array Slot} (hfl : l.stackTraces = false) (C9 : lw_At p s m9 meth c b 6 xs) (C0 : hC p l s m9 meth c code 9 #[Value.ref b] RL D (hTy cy) (hA f00 s.heap.size)) (hord : sc < m0 ∧ m0 < al ∧ al < i0 ∧ i0 < i1 ∧ i1 < i2 ∧ i2 < i3 ∧ i3 < i4 ∧ i4 < i5 ∧ i5 < i6 ∧ i6 < i7 ∧ i7 < i8 ∧ i8 < i9 ∧ i9 < i10 ∧ i10 < i11 ∧ i11 < i12 ∧ i12 < lg ∧ lg < ln ∧ ln < lst ∧ lst < len ∧ len < sv ∧ sv < sn ∧ sn < sst ∧ sst < sen ∧ sen < tx ∧ tx < bf ∧ bf < tn ∧ tn < tp ∧ tp < r0 ∧ r0 < r0e ∧ r0e < r1 ∧ r1 < r1e ∧ r1e < m ∧ m < v ∧ v < im ∧ im < kp ∧ kp < pa ∧ pa < de ∧ de < ide ∧ ide < mtx ∧ mtx < pt ∧ pt < so ∧ so < mo ∧ mo < wh ∧ wh < pf ∧ pf < out ∧ out < outD) (hg0 : g0 0 = some i0) (G : hG D (hA f00 s.heap.size) f s H locs) (hl : lv_has ls 9 [(0, .ref b), (1, .ref sc), (2, .ref m), (3, .ref out), (4, .ref outD), (5, .int 0)]) (h_sc : f sc = some (.inr (10, [.ref m0, .ref m1, .ref lg, .ref sv, .ref tx, .ref r0, .ref r1, .int (-1), .int (-1), .int 0]))) (h_lg : f lg = some (.inr (3, [.ref ln, .ref lst, .ref len, .int 0, .int 0, .int 0, .int 0, .int 0, .int 0]))) (h_m : f m = some (.inr (11, [.int 0, .int 0, .ref v, .ref im, .ref kp, .ref pa, .ref de, .ref ide, .int 0, .int 0, .ref mtx, .int 0, .int (-1), .int (-1), .ref pt, .int 0, .int 0, .int 0, .ref so, .ref mo, .ref wh, .ref pf]))) (h_v : f v = some (.inl (cy 0, 6441, .inl (fun _ => 0)))) : W p l e room_1 s m9 #[Value.ref b] below meth c H locs 140 156303 (lw_Z below #[Value.ref b] s) (F0 m9 2025 ls []) := by
  obtain ⟨oo0, oo1, oo2, oo3, oo4, oo5, oo6, oo7, oo8, oo9, oo10, oo11, oo12, oo13, oo14, oo15, oo16, oo17, oo18, oo19, oo20, oo21, oo22, oo23, oo24, oo25, oo26, oo27, oo28, oo29, oo30, oo31, oo32, oo33, oo34, oo35, oo36, oo37, oo38, oo39, oo40, oo41, oo42, oo43, oo44, oo45⟩ := hord
  obtain ⟨hx, hb, hr, hml, hown, hts, hX, hbl, hlocks, hgv⟩ := id C9
  have hbA : ¬ hA f00 s.heap.size b := fun q => by rcases q with q | q; exact q rfl; omega
  refine lv_aload_n hx hb dL_law_2025 rfl (lv_at hl 1 rfl) ?_
  refine lv_aload_n hx hb dL_law_2026 rfl (lv_at hl 3 rfl) ?_
  refine g_cI C0 G (g_runSH C0 G (rest := []) (k_L_isReplayed hfl h_sc h_lg) hYH_L_isReplayed mm_L_225 ms_L_isReplayed ⟨(Nat.le_of_ble_eq_true rfl), (Nat.le_of_ble_eq_true rfl)⟩ rfl hl.1 rfl (Nat.le_of_ble_eq_true rfl) dL_law_2027 ⟨(Nat.le_of_ble_eq_true rfl), (Nat.le_of_ble_eq_true rfl)⟩) (kx_no rfl) (fun r1 u2 H locs hp3 G => ?_)
  obtain ⟨rfl, fr9⟩ := hp3
  refine lv_istore (lv' := [(6, .int 1), (0, .ref b), (1, .ref sc), (2, .ref m), (3, .ref out), (4, .ref outD), (5, .int 0)]) hx hb dL_law_2030 hl (by decide) rfl (fun ls hl => ?_)
  refine lv_aload_n hx hb dL_law_2032 rfl (lv_at hl 3 rfl) ?_
  have k4 : u2 m = some (.inr (11, [.int 0, .int 0, .ref v, .ref im, .ref kp, .ref pa, .ref de, .ref ide, .int 0, .int 0, .ref mtx, .int 0, .int (-1), .int (-1), .ref pt, .int 0, .int 0, .int 0, .ref so, .ref mo, .ref wh, .ref pf])) := fr9 _ _ (by omega) h_m
  have k5 : u2 v = some (.inl (cy 0, 6441, .inl (fun _ => 0))) := fr9 _ _ (by omega) h_v
  refine g_cI C0 G (g_runV C0 G (rest := []) (k_X9_isReplayed hfl k4 k5) k4 rfl hY_X9_isReplayed mm_L_227 mi_X9_isReplayed ml_X9_isReplayed ⟨(Nat.le_of_ble_eq_true rfl), (Nat.le_of_ble_eq_true rfl)⟩ rfl hl.1 rfl (Nat.le_of_ble_eq_true rfl) dL_law_2033 ⟨(Nat.le_of_ble_eq_true rfl), (Nat.le_of_ble_eq_true rfl)⟩) (kx_no rfl) (fun r8 u7 H locs hp6 G => ?_)
  obtain ⟨rest9, hm9⟩ := hp6
  refine lv_istore (lv' := [(7, .int r8), (6, .int 1), (0, .ref b), (1, .ref sc), (2, .ref m), (3, .ref out), (4, .ref outD), (5, .int 0)]) hx hb dL_law_2036 hl (by decide) rfl (fun ls hl => ?_)
  refine lv_aload_n hx hb dL_law_2038 rfl (lv_at hl 4 rfl) ?_
  refine g_cI C0 G (g_runV C0 G (rest := []) (k_X9_thrown hfl hm9) hm9 rfl hY_X9_thrown mm_L_128 mi_X9_thrown ml_X9_thrown ⟨(Nat.le_of_ble_eq_true rfl), (Nat.le_of_ble_eq_true rfl)⟩ rfl hl.1 rfl (Nat.le_of_ble_eq_true rfl) dL_law_2039 ⟨(Nat.le_of_ble_eq_true rfl), (Nat.le_of_ble_eq_true rfl)⟩) (kx_no rfl) (fun r11 u10 H locs hp9 G => ?_)
  obtain ⟨rfl, eu10⟩ := hp9
  rw [eu10] at G
  refine lv_iload hx hb dL_law_2042 (lv_at hl 1 rfl) ?_
  refine lv_icmp_eq (tgt := 2049) hx hb dL_law_2044 (by decide) (fun _ => ?_) (fun c12 => absurd (by decide) c12)
  refine lv_iload hx hb dL_law_2049 (lv_at hl 1 rfl) ?_
  refine lv_if_ne (tgt := 2073) hx hb dL_law_2051 (by decide) (fun _ => ?_) (fun c13 => absurd c13 (by decide))
  refine lv_goto (tgt := 2164) hx hb dL_law_2073 (by decide) ?_
  exact law_tail hfl C9 C0 G (Nat.le_of_ble_eq_true rfl) (Nat.le_of_ble_eq_true rfl) (lv_sub hl [2, 7] rfl)
