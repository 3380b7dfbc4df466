set_option maxRecDepth 100000 in
theorem law_case_2 {p : Program} {e : Env} {s : State} {m9 : MethodId} {below : List Frame} {meth : Method} {c : Code} {l : Launch} {b L k : Nat} {xs : Nat → Int32} {D : va_G} {cy : Nat → ClassId} {AD : Nat → Nat} {q q2 : Nat → Option Nat} {th : Int32} {o : Nat → Int64} {f : Hf} {H : Heap} {locs : List Loc} {ls : Array Slot} {cells slots : Nat} (hfl : l.stackTraces = false) (C9 : lw_At p s m9 meth c b L xs) (C0 : hC p l s m9 meth c code 9 #[Value.ref b] RL D (hTy cy) (hA f00 s.heap.size)) (hL : L ≤ 3072) (hk6 : 6 * k + 6 ≤ L) (hcs : cells ≤ 200 + 64 * k ∧ slots ≤ 157000 + 600 * k) (hW : WJ AD cy q q2 k th o f) (G : hG D (hA f00 s.heap.size) f s H locs) (hl : lv_has ls 9 [(0, .ref b), (1, .ref (AD 0)), (2, .ref (AD 125)), (3, .ref (AD 138)), (4, .ref (AD 139)), (5, .int (nI (6 * k)))]) (K : KON p l e s m9 b below meth c D cy AD q q2 k cells slots) : W p l e room_1 s m9 #[Value.ref b] below meth c H locs cells slots (lw_Z below #[Value.ref b] s) (F0 m9 264 ls []) := by
  obtain ⟨hx, hb, hr, hml, hown, hts, hX, hbl, hlocks, hgv⟩ := id C9
  have hbA : ¬ hA f00 s.heap.size b := fun q => by
    rcases q with q | q
    · exact q rfl
    · omega
  refine lv_aload_n hx hb dL_law_264 rfl (lv_at hl 1 rfl) ?_
  refine lv_aload_n hx hb dL_law_265 rfl (lv_at hl 0 rfl) ?_
  refine lv_iload hx hb dL_law_266 (lv_at hl 5 rfl) ?_
  refine lv_iconst (v := 1) hx hb dL_law_268 (by decide) ?_
  refine lv_iadd hx hb dL_law_269 ?_
  refine lv_topv (v := nI (6 * k + 1)) (nI_add _ 1) ?_
  refine va_sld hx hb hX hbl hbA G.2 (i := nI (6 * k + 1)) (vp_in_nI (by omega) (by omega)) dL_law_270 ?_
  refine lv_topv (v := xs (6 * k + 1)) (congrArg xs (nI_c (by omega))) ?_
  refine lv_aload_n hx hb dL_law_271 rfl (lv_at hl 0 rfl) ?_
  refine lv_iload hx hb dL_law_272 (lv_at hl 5 rfl) ?_
  refine lv_iconst (v := 2) hx hb dL_law_274 (by decide) ?_
  refine lv_iadd hx hb dL_law_275 ?_
  refine lv_topv (v := nI (6 * k + 2)) (nI_add _ 2) ?_
  refine va_sld hx hb hX hbl hbA G.2 (i := nI (6 * k + 2)) (vp_in_nI (by omega) (by omega)) dL_law_276 ?_
  refine lv_topv (v := xs (6 * k + 2)) (congrArg xs (nI_c (by omega))) ?_
  refine lv_aload_n hx hb dL_law_277 rfl (lv_at hl 0 rfl) ?_
  refine lv_iload hx hb dL_law_278 (lv_at hl 5 rfl) ?_
  refine lv_iconst (v := 3) hx hb dL_law_280 (by decide) ?_
  refine lv_iadd hx hb dL_law_281 ?_
  refine lv_topv (v := nI (6 * k + 3)) (nI_add _ 3) ?_
  refine va_sld hx hb hX hbl hbA G.2 (i := nI (6 * k + 3)) (vp_in_nI (by omega) (by omega)) dL_law_282 ?_
  refine lv_topv (v := xs (6 * k + 3)) (congrArg xs (nI_c (by omega))) ?_
  refine lw_bool (t1 := 291) (x := (xs (6 * k + 3))) hx hb dL_law_283 (by decide) dL_law_286 (by decide) dL_law_287 (by decide) dL_law_290 (by decide) ?_
  refine lv_aload_n hx hb dL_law_291 rfl (lv_at hl 3 rfl) ?_
  refine g_cI C0 G (g_runSH C0 G (rest := []) (kL_ball hfl ((xs (6 * k + 1))) ((xs (6 * k + 2))) ((bz (xs (6 * k + 3)))) (by omega) (bz01 _) hW) hYH_L_ball mm_L_132 ms_L_ball ⟨(Nat.le_of_ble_eq_true rfl), (Nat.le_of_ble_eq_true rfl)⟩ rfl hl.1 rfl (Nat.le_of_ble_eq_true rfl) dL_law_292 ⟨(by show cells + 64 ≤ 603072; omega), (by show slots + 600 ≤ 7207018; omega)⟩) (kx_no rfl) (fun r2 u3 H locs hp4 G => ?_)
  refine lv_istore (lv' := [(6, .int r2), (0, .ref b), (1, .ref (AD 0)), (2, .ref (AD 125)), (3, .ref (AD 138)), (4, .ref (AD 139)), (5, .int (nI (6 * k)))]) hx hb dL_law_295 hl (by decide) rfl (fun ls hl => ?_)
  refine lv_aload_n hx hb dL_law_297 rfl (lv_at hl 3 rfl) ?_
  refine lv_aload_n hx hb dL_law_298 rfl (lv_at hl 1 rfl) ?_
  refine lv_iload hx hb dL_law_299 (lv_at hl 6 rfl) ?_
  refine lv_iconst (v := 1) hx hb dL_law_301 (by decide) ?_
  refine lv_iadd hx hb dL_law_302 ?_
  refine lv_topv (v := nI (6 * k + 1)) (nI_add _ 1) ?_
  refine va_sld hx hb hX hbl hbA G.2 (i := nI (6 * k + 1)) (vp_in_nI (by omega) (by omega)) dL_law_303 ?_
  refine lv_topv (v := xs (6 * k + 1)) (congrArg xs (nI_c (by omega))) ?_
  refine lv_aload_n hx hb dL_law_304 rfl (lv_at hl 1 rfl) ?_
  refine lv_iload hx hb dL_law_305 (lv_at hl 6 rfl) ?_
  refine lv_iconst (v := 2) hx hb dL_law_307 (by decide) ?_
  refine lv_iadd hx hb dL_law_308 ?_
  refine lv_topv (v := nI (6 * k + 2)) (nI_add _ 2) ?_
  refine va_sld hx hb hX hbl hbA G.2 (i := nI (6 * k + 2)) (vp_in_nI (by omega) (by omega)) dL_law_309 ?_
  refine lv_topv (v := xs (6 * k + 2)) (congrArg xs (nI_c (by omega))) ?_
  refine lv_aload_n hx hb dL_law_310 rfl (lv_at hl 1 rfl) ?_
  refine lv_iload hx hb dL_law_311 (lv_at hl 6 rfl) ?_
  refine lv_iconst (v := 3) hx hb dL_law_313 (by decide) ?_
  refine lv_iadd hx hb dL_law_314 ?_
  refine lv_topv (v := nI (6 * k + 3)) (nI_add _ 3) ?_
  refine va_sld hx hb hX hbl hbA G.2 (i := nI (6 * k + 3)) (vp_in_nI (by omega) (by omega)) dL_law_315 ?_
  refine lv_topv (v := xs (6 * k + 3)) (congrArg xs (nI_c (by omega))) ?_
  refine lw_bool (t1 := 324) (x := (xs (6 * k + 3))) hx hb dL_law_316 (by decide) dL_law_319 (by decide) dL_law_320 (by decide) dL_law_323 (by decide) ?_
  obtain ⟨fs9, he9⟩ := m_MID hp4
  refine g_cI C0 G (g_runV C0 G (rest := []) (kR_ball hfl ((xs (6 * k + 1))) ((xs (6 * k + 2))) ((bz (xs (6 * k + 3)))) (by omega) (bz01 _) hp4) he9 rfl hY_X9_ball mm_L_135 mi_X9_ball ml_X9_ball ⟨(Nat.le_of_ble_eq_true rfl), (Nat.le_of_ble_eq_true rfl)⟩ rfl hl.1 rfl (Nat.le_of_ble_eq_true rfl) dL_law_324 ⟨(by show cells + 64 ≤ 603072; omega), (by show slots + 600 ≤ 7207018; omega)⟩) (kx_no rfl) (fun r6 u7 H locs hp8 G => ?_)
  obtain ⟨or6, hW9, her6⟩ := hp8
  refine lv_istore (lv' := [(7, .int r6), (6, .int r2), (0, .ref b), (1, .ref (AD 0)), (2, .ref (AD 125)), (3, .ref (AD 138)), (4, .ref (AD 139)), (5, .int (nI (6 * k)))]) hx hb dL_law_327 hl (by decide) rfl (fun ls hl => ?_)
  refine lv_goto (tgt := 1332) hx hb dL_law_329 (by decide) ?_
  exact K _ _ _ _ _ _ _ _ hW9 G (lv_sub hl [2, 3, 4, 5, 6, 7] rfl) (by show cells + 64 ≤ cells + 64; omega) (by show slots + 600 ≤ slots + 600; omega)
set_option maxRecDepth 100000 in
theorem law_case_6 {p : Program} {e : Env} {s : State} {m9 : MethodId} {below : List Frame} {meth : Method} {c : Code} {l : Launch} {b L k : Nat} {xs : Nat → Int32} {D : va_G} {cy : Nat → ClassId} {AD : Nat → Nat} {q q2 : Nat → Option Nat} {th : Int32} {o : Nat → Int64} {f : Hf} {H : Heap} {locs : List Loc} {ls : Array Slot} {cells slots : Nat} (hfl : l.stackTraces = false) (C9 : lw_At p s m9 meth c b L xs) (C0 : hC p l s m9 meth c code 9 #[Value.ref b] RL D (hTy cy) (hA f00 s.heap.size)) (hL : L ≤ 3072) (hk6 : 6 * k + 6 ≤ L) (hcs : cells ≤ 200 + 64 * k ∧ slots ≤ 157000 + 600 * k) (hW : WJ AD cy q q2 k th o f) (G : hG D (hA f00 s.heap.size) f s H locs) (hl : lv_has ls 9 [(0, .ref b), (1, .ref (AD 0)), (2, .ref (AD 125)), (3, .ref (AD 138)), (4, .ref (AD 139)), (5, .int (nI (6 * k)))]) (K : KON p l e s m9 b below meth c D cy AD q q2 k cells slots) : W p l e room_1 s m9 #[Value.ref b] below meth c H locs cells slots (lw_Z below #[Value.ref b] s) (F0 m9 540 ls []) := by
  obtain ⟨hx, hb, hr, hml, hown, hts, hX, hbl, hlocks, hgv⟩ := id C9
  have hbA : ¬ hA f00 s.heap.size b := fun q => by
    rcases q with q | q
    · exact q rfl
    · omega
  refine lv_aload_n hx hb dL_law_540 rfl (lv_at hl 1 rfl) ?_
  refine lv_aload_n hx hb dL_law_541 rfl (lv_at hl 3 rfl) ?_
  refine g_cI C0 G (g_runSH C0 G (rest := []) (kL_declare hfl (by omega) hW) hYH_L_declare mm_L_147 ms_L_declare ⟨(Nat.le_of_ble_eq_true rfl), (Nat.le_of_ble_eq_true rfl)⟩ rfl hl.1 rfl (Nat.le_of_ble_eq_true rfl) dL_law_542 ⟨(by show cells + 64 ≤ 603072; omega), (by show slots + 600 ≤ 7207018; omega)⟩) (kx_no rfl) (fun r1 u2 H locs hp3 G => ?_)
  refine lv_istore (lv' := [(6, .int r1), (0, .ref b), (1, .ref (AD 0)), (2, .ref (AD 125)), (3, .ref (AD 138)), (4, .ref (AD 139)), (5, .int (nI (6 * k)))]) hx hb dL_law_545 hl (by decide) rfl (fun ls hl => ?_)
  refine lv_aload_n hx hb dL_law_547 rfl (lv_at hl 3 rfl) ?_
  obtain ⟨fs9, he9⟩ := m_MID hp3
  refine g_cI C0 G (g_runV C0 G (rest := []) (kR_declare hfl (by omega) hp3) he9 rfl hY_X9_declare mm_L_150 mi_X9_declare ml_X9_declare ⟨(Nat.le_of_ble_eq_true rfl), (Nat.le_of_ble_eq_true rfl)⟩ rfl hl.1 rfl (Nat.le_of_ble_eq_true rfl) dL_law_548 ⟨(by show cells + 64 ≤ 603072; omega), (by show slots + 600 ≤ 7207018; omega)⟩) (kx_no rfl) (fun r4 u5 H locs hp6 G => ?_)
  obtain ⟨or4, hW7, her4⟩ := hp6
  refine lv_istore (lv' := [(7, .int r4), (6, .int r1), (0, .ref b), (1, .ref (AD 0)), (2, .ref (AD 125)), (3, .ref (AD 138)), (4, .ref (AD 139)), (5, .int (nI (6 * k)))]) hx hb dL_law_551 hl (by decide) rfl (fun ls hl => ?_)
  refine lv_goto (tgt := 1332) hx hb dL_law_553 (by decide) ?_
  exact K _ _ _ _ _ _ _ _ hW7 G (lv_sub hl [2, 3, 4, 5, 6, 7] rfl) (by show cells + 64 ≤ cells + 64; omega) (by show slots + 600 ≤ slots + 600; omega)
set_option maxRecDepth 100000 in
theorem law_case_10 {p : Program} {e : Env} {s : State} {m9 : MethodId} {below : List Frame} {meth : Method} {c : Code} {l : Launch} {b L k : Nat} {xs : Nat → Int32} {D : va_G} {cy : Nat → ClassId} {AD : Nat → Nat} {q q2 : Nat → Option Nat} {th : Int32} {o : Nat → Int64} {f : Hf} {H : Heap} {locs : List Loc} {ls : Array Slot} {cells slots : Nat} (hfl : l.stackTraces = false) (C9 : lw_At p s m9 meth c b L xs) (C0 : hC p l s m9 meth c code 9 #[Value.ref b] RL D (hTy cy) (hA f00 s.heap.size)) (hL : L ≤ 3072) (hk6 : 6 * k + 6 ≤ L) (hcs : cells ≤ 200 + 64 * k ∧ slots ≤ 157000 + 600 * k) (hW : WJ AD cy q q2 k th o f) (G : hG D (hA f00 s.heap.size) f s H locs) (hl : lv_has ls 9 [(0, .ref b), (1, .ref (AD 0)), (2, .ref (AD 125)), (3, .ref (AD 138)), (4, .ref (AD 139)), (5, .int (nI (6 * k)))]) (K : KON p l e s m9 b below meth c D cy AD q q2 k cells slots) : W p l e room_1 s m9 #[Value.ref b] below meth c H locs cells slots (lw_Z below #[Value.ref b] s) (F0 m9 658 ls []) := by
  obtain ⟨hx, hb, hr, hml, hown, hts, hX, hbl, hlocks, hgv⟩ := id C9
  have hbA : ¬ hA f00 s.heap.size b := fun q => by
    rcases q with q | q
    · exact q rfl
    · omega
  refine lv_aload_n hx hb dL_law_658 rfl (lv_at hl 1 rfl) ?_
  refine lv_aload_n hx hb dL_law_659 rfl (lv_at hl 3 rfl) ?_
  refine g_cI C0 G (g_runSH C0 G (rest := []) (kL_errorPosition hfl hW) hYH_L_errorPosition mm_L_164 ms_L_errorPosition ⟨(Nat.le_of_ble_eq_true rfl), (Nat.le_of_ble_eq_true rfl)⟩ rfl hl.1 rfl (Nat.le_of_ble_eq_true rfl) dL_law_660 ⟨(by show cells + 64 ≤ 603072; omega), (by show slots + 600 ≤ 7207018; omega)⟩) (kx_no rfl) (fun r1 u2 H locs hp3 G => ?_)
  obtain ⟨o4, hW5⟩ := hp3
  refine lv_istore (lv' := [(6, .int r1), (0, .ref b), (1, .ref (AD 0)), (2, .ref (AD 125)), (3, .ref (AD 138)), (4, .ref (AD 139)), (5, .int (nI (6 * k)))]) hx hb dL_law_663 hl (by decide) rfl (fun ls hl => ?_)
  refine lv_aload_n hx hb dL_law_665 rfl (lv_at hl 3 rfl) ?_
  obtain ⟨fs9, he9⟩ := m_WJ hW5
  refine g_cI C0 G (g_runV C0 G (rest := []) (kR_errorPosition hfl hW5) he9 rfl hY_X9_errorPosition mm_L_166 mi_X9_errorPosition ml_X9_errorPosition ⟨(Nat.le_of_ble_eq_true rfl), (Nat.le_of_ble_eq_true rfl)⟩ rfl hl.1 rfl (Nat.le_of_ble_eq_true rfl) dL_law_666 ⟨(by show cells + 64 ≤ 603072; omega), (by show slots + 600 ≤ 7207018; omega)⟩) (kx_no rfl) (fun r6 u7 H locs hp8 G => ?_)
  obtain ⟨tr6, hW9⟩ := hp8
  refine lv_istore (lv' := [(7, .int r6), (6, .int r1), (0, .ref b), (1, .ref (AD 0)), (2, .ref (AD 125)), (3, .ref (AD 138)), (4, .ref (AD 139)), (5, .int (nI (6 * k)))]) hx hb dL_law_669 hl (by decide) rfl (fun ls hl => ?_)
  refine lv_goto (tgt := 1332) hx hb dL_law_671 (by decide) ?_
  exact K _ _ _ _ _ _ _ _ hW9 G (lv_sub hl [2, 3, 4, 5, 6, 7] rfl) (by show cells + 64 ≤ cells + 64; omega) (by show slots + 600 ≤ slots + 600; omega)
set_option maxRecDepth 100000 in
theorem law_case_14 {p : Program} {e : Env} {s : State} {m9 : MethodId} {below : List Frame} {meth : Method} {c : Code} {l : Launch} {b L k : Nat} {xs : Nat → Int32} {D : va_G} {cy : Nat → ClassId} {AD : Nat → Nat} {q q2 : Nat → Option Nat} {th : Int32} {o : Nat → Int64} {f : Hf} {H : Heap} {locs : List Loc} {ls : Array Slot} {cells slots : Nat} (hfl : l.stackTraces = false) (C9 : lw_At p s m9 meth c b L xs) (C0 : hC p l s m9 meth c code 9 #[Value.ref b] RL D (hTy cy) (hA f00 s.heap.size)) (hL : L ≤ 3072) (hk6 : 6 * k + 6 ≤ L) (hcs : cells ≤ 200 + 64 * k ∧ slots ≤ 157000 + 600 * k) (hW : WJ AD cy q q2 k th o f) (G : hG D (hA f00 s.heap.size) f s H locs) (hl : lv_has ls 9 [(0, .ref b), (1, .ref (AD 0)), (2, .ref (AD 125)), (3, .ref (AD 138)), (4, .ref (AD 139)), (5, .int (nI (6 * k)))]) (K : KON p l e s m9 b below meth c D cy AD q q2 k cells slots) : W p l e room_1 s m9 #[Value.ref b] below meth c H locs cells slots (lw_Z below #[Value.ref b] s) (F0 m9 758 ls []) := by
  obtain ⟨hx, hb, hr, hml, hown, hts, hX, hbl, hlocks, hgv⟩ := id C9
  have hbA : ¬ hA f00 s.heap.size b := fun q => by
    rcases q with q | q
    · exact q rfl
    · omega
  refine lv_aload_n hx hb dL_law_758 rfl (lv_at hl 1 rfl) ?_
  refine lv_aload_n hx hb dL_law_759 rfl (lv_at hl 0 rfl) ?_
  refine lv_iload hx hb dL_law_760 (lv_at hl 5 rfl) ?_
  refine lv_iconst (v := 1) hx hb dL_law_762 (by decide) ?_
  refine lv_iadd hx hb dL_law_763 ?_
  refine lv_topv (v := nI (6 * k + 1)) (nI_add _ 1) ?_
  refine va_sld hx hb hX hbl hbA G.2 (i := nI (6 * k + 1)) (vp_in_nI (by omega) (by omega)) dL_law_764 ?_
  refine lv_topv (v := xs (6 * k + 1)) (congrArg xs (nI_c (by omega))) ?_
  refine lv_aload_n hx hb dL_law_765 rfl (lv_at hl 0 rfl) ?_
  refine lv_iload hx hb dL_law_766 (lv_at hl 5 rfl) ?_
  refine lv_iconst (v := 2) hx hb dL_law_768 (by decide) ?_
  refine lv_iadd hx hb dL_law_769 ?_
  refine lv_topv (v := nI (6 * k + 2)) (nI_add _ 2) ?_
  refine va_sld hx hb hX hbl hbA G.2 (i := nI (6 * k + 2)) (vp_in_nI (by omega) (by omega)) dL_law_770 ?_
  refine lv_topv (v := xs (6 * k + 2)) (congrArg xs (nI_c (by omega))) ?_
  refine lv_aload_n hx hb dL_law_771 rfl (lv_at hl 0 rfl) ?_
  refine lv_iload hx hb dL_law_772 (lv_at hl 5 rfl) ?_
  refine lv_iconst (v := 3) hx hb dL_law_774 (by decide) ?_
  refine lv_iadd hx hb dL_law_775 ?_
  refine lv_topv (v := nI (6 * k + 3)) (nI_add _ 3) ?_
  refine va_sld hx hb hX hbl hbA G.2 (i := nI (6 * k + 3)) (vp_in_nI (by omega) (by omega)) dL_law_776 ?_
  refine lv_topv (v := xs (6 * k + 3)) (congrArg xs (nI_c (by omega))) ?_
  refine lv_aload_n hx hb dL_law_777 rfl (lv_at hl 3 rfl) ?_
  refine g_cI C0 G (g_runSH C0 G (rest := []) (kL_batter hfl ((xs (6 * k + 1))) ((xs (6 * k + 2))) ((xs (6 * k + 3))) hW) hYH_L_batter mm_L_177 ms_L_batter ⟨(Nat.le_of_ble_eq_true rfl), (Nat.le_of_ble_eq_true rfl)⟩ rfl hl.1 rfl (Nat.le_of_ble_eq_true rfl) dL_law_778 ⟨(by show cells + 64 ≤ 603072; omega), (by show slots + 600 ≤ 7207018; omega)⟩) (kx_no rfl) (fun r1 u2 H locs hp3 G => ?_)
  obtain ⟨o4, hW5⟩ := hp3
  refine lv_istore (lv' := [(6, .int r1), (0, .ref b), (1, .ref (AD 0)), (2, .ref (AD 125)), (3, .ref (AD 138)), (4, .ref (AD 139)), (5, .int (nI (6 * k)))]) hx hb dL_law_781 hl (by decide) rfl (fun ls hl => ?_)
  refine lv_aload_n hx hb dL_law_783 rfl (lv_at hl 3 rfl) ?_
  refine lv_aload_n hx hb dL_law_784 rfl (lv_at hl 1 rfl) ?_
  refine lv_iload hx hb dL_law_785 (lv_at hl 6 rfl) ?_
  refine lv_iconst (v := 1) hx hb dL_law_787 (by decide) ?_
  refine lv_iadd hx hb dL_law_788 ?_
  refine lv_topv (v := nI (6 * k + 1)) (nI_add _ 1) ?_
  refine va_sld hx hb hX hbl hbA G.2 (i := nI (6 * k + 1)) (vp_in_nI (by omega) (by omega)) dL_law_789 ?_
  refine lv_topv (v := xs (6 * k + 1)) (congrArg xs (nI_c (by omega))) ?_
  refine lv_aload_n hx hb dL_law_790 rfl (lv_at hl 1 rfl) ?_
  refine lv_iload hx hb dL_law_791 (lv_at hl 6 rfl) ?_
  refine lv_iconst (v := 2) hx hb dL_law_793 (by decide) ?_
  refine lv_iadd hx hb dL_law_794 ?_
  refine lv_topv (v := nI (6 * k + 2)) (nI_add _ 2) ?_
  refine va_sld hx hb hX hbl hbA G.2 (i := nI (6 * k + 2)) (vp_in_nI (by omega) (by omega)) dL_law_795 ?_
  refine lv_topv (v := xs (6 * k + 2)) (congrArg xs (nI_c (by omega))) ?_
  refine lv_aload_n hx hb dL_law_796 rfl (lv_at hl 1 rfl) ?_
  refine lv_iload hx hb dL_law_797 (lv_at hl 6 rfl) ?_
  refine lv_iconst (v := 3) hx hb dL_law_799 (by decide) ?_
  refine lv_iadd hx hb dL_law_800 ?_
  refine lv_topv (v := nI (6 * k + 3)) (nI_add _ 3) ?_
  refine va_sld hx hb hX hbl hbA G.2 (i := nI (6 * k + 3)) (vp_in_nI (by omega) (by omega)) dL_law_801 ?_
  refine lv_topv (v := xs (6 * k + 3)) (congrArg xs (nI_c (by omega))) ?_
  obtain ⟨fs9, he9⟩ := m_WJ hW5
  refine g_cI C0 G (g_runV C0 G (rest := []) (kR_batter hfl ((xs (6 * k + 1))) ((xs (6 * k + 2))) ((xs (6 * k + 3))) hW5) he9 rfl hY_X9_batter mm_L_179 mi_X9_batter ml_X9_batter ⟨(Nat.le_of_ble_eq_true rfl), (Nat.le_of_ble_eq_true rfl)⟩ rfl hl.1 rfl (Nat.le_of_ble_eq_true rfl) dL_law_802 ⟨(by show cells + 64 ≤ 603072; omega), (by show slots + 600 ≤ 7207018; omega)⟩) (kx_no rfl) (fun r6 u7 H locs hp8 G => ?_)
  obtain ⟨tr6, hW9⟩ := hp8
  refine lv_istore (lv' := [(7, .int r6), (6, .int r1), (0, .ref b), (1, .ref (AD 0)), (2, .ref (AD 125)), (3, .ref (AD 138)), (4, .ref (AD 139)), (5, .int (nI (6 * k)))]) hx hb dL_law_805 hl (by decide) rfl (fun ls hl => ?_)
  refine lv_goto (tgt := 1332) hx hb dL_law_807 (by decide) ?_
  exact K _ _ _ _ _ _ _ _ hW9 G (lv_sub hl [2, 3, 4, 5, 6, 7] rfl) (by show cells + 64 ≤ cells + 64; omega) (by show slots + 600 ≤ slots + 600; omega)
set_option maxRecDepth 100000 in
theorem law_case_18 {p : Program} {e : Env} {s : State} {m9 : MethodId} {below : List Frame} {meth : Method} {c : Code} {l : Launch} {b L k : Nat} {xs : Nat → Int32} {D : va_G} {cy : Nat → ClassId} {AD : Nat → Nat} {q q2 : Nat → Option Nat} {th : Int32} {o : Nat → Int64} {f : Hf} {H : Heap} {locs : List Loc} {ls : Array Slot} {cells slots : Nat} (hfl : l.stackTraces = false) (C9 : lw_At p s m9 meth c b L xs) (C0 : hC p l s m9 meth c code 9 #[Value.ref b] RL D (hTy cy) (hA f00 s.heap.size)) (hL : L ≤ 3072) (hk6 : 6 * k + 6 ≤ L) (hcs : cells ≤ 200 + 64 * k ∧ slots ≤ 157000 + 600 * k) (hW : WJ AD cy q q2 k th o f) (G : hG D (hA f00 s.heap.size) f s H locs) (hl : lv_has ls 9 [(0, .ref b), (1, .ref (AD 0)), (2, .ref (AD 125)), (3, .ref (AD 138)), (4, .ref (AD 139)), (5, .int (nI (6 * k)))]) (K : KON p l e s m9 b below meth c D cy AD q q2 k cells slots) : W p l e room_1 s m9 #[Value.ref b] below meth c H locs cells slots (lw_Z below #[Value.ref b] s) (F0 m9 966 ls []) := by
  obtain ⟨hx, hb, hr, hml, hown, hts, hX, hbl, hlocks, hgv⟩ := id C9
  have hbA : ¬ hA f00 s.heap.size b := fun q => by
    rcases q with q | q
    · exact q rfl
    · omega
  refine lv_aload_n hx hb dL_law_966 rfl (lv_at hl 1 rfl) ?_
  refine lv_aload_n hx hb dL_law_967 rfl (lv_at hl 0 rfl) ?_
  refine lv_iload hx hb dL_law_968 (lv_at hl 5 rfl) ?_
  refine lv_iconst (v := 1) hx hb dL_law_970 (by decide) ?_
  refine lv_iadd hx hb dL_law_971 ?_
  refine lv_topv (v := nI (6 * k + 1)) (nI_add _ 1) ?_
  refine va_sld hx hb hX hbl hbA G.2 (i := nI (6 * k + 1)) (vp_in_nI (by omega) (by omega)) dL_law_972 ?_
  refine lv_topv (v := xs (6 * k + 1)) (congrArg xs (nI_c (by omega))) ?_
  refine lw_bool (t1 := 981) (x := (xs (6 * k + 1))) hx hb dL_law_973 (by decide) dL_law_976 (by decide) dL_law_977 (by decide) dL_law_980 (by decide) ?_
  refine lv_aload_n hx hb dL_law_981 rfl (lv_at hl 3 rfl) ?_
  refine g_cI C0 G (g_runSH C0 G (rest := []) (kL_needed hfl ((bz (xs (6 * k + 1)))) (bz01 _) hW) hYH_L_needed mm_L_189 ms_L_needed ⟨(Nat.le_of_ble_eq_true rfl), (Nat.le_of_ble_eq_true rfl)⟩ rfl hl.1 rfl (Nat.le_of_ble_eq_true rfl) dL_law_982 ⟨(by show cells + 64 ≤ 603072; omega), (by show slots + 600 ≤ 7207018; omega)⟩) (kx_no rfl) (fun r2 u3 H locs hp4 G => ?_)
  refine lv_istore (lv' := [(6, .int r2), (0, .ref b), (1, .ref (AD 0)), (2, .ref (AD 125)), (3, .ref (AD 138)), (4, .ref (AD 139)), (5, .int (nI (6 * k)))]) hx hb dL_law_985 hl (by decide) rfl (fun ls hl => ?_)
  refine lv_aload_n hx hb dL_law_987 rfl (lv_at hl 3 rfl) ?_
  refine lv_aload_n hx hb dL_law_988 rfl (lv_at hl 1 rfl) ?_
  refine lv_iload hx hb dL_law_989 (lv_at hl 6 rfl) ?_
  refine lv_iconst (v := 1) hx hb dL_law_991 (by decide) ?_
  refine lv_iadd hx hb dL_law_992 ?_
  refine lv_topv (v := nI (6 * k + 1)) (nI_add _ 1) ?_
  refine va_sld hx hb hX hbl hbA G.2 (i := nI (6 * k + 1)) (vp_in_nI (by omega) (by omega)) dL_law_993 ?_
  refine lv_topv (v := xs (6 * k + 1)) (congrArg xs (nI_c (by omega))) ?_
  refine lw_bool (t1 := 1002) (x := (xs (6 * k + 1))) hx hb dL_law_994 (by decide) dL_law_997 (by decide) dL_law_998 (by decide) dL_law_1001 (by decide) ?_
  obtain ⟨fs9, he9⟩ := m_MIDN hp4
  refine g_cI C0 G (g_runV C0 G (rest := []) (kR_needed hfl ((bz (xs (6 * k + 1)))) (bz01 _) hp4) he9 rfl hY_X9_needed mm_L_192 mi_X9_needed ml_X9_needed ⟨(Nat.le_of_ble_eq_true rfl), (Nat.le_of_ble_eq_true rfl)⟩ rfl hl.1 rfl (Nat.le_of_ble_eq_true rfl) dL_law_1002 ⟨(by show cells + 64 ≤ 603072; omega), (by show slots + 600 ≤ 7207018; omega)⟩) (kx_no rfl) (fun r6 u7 H locs hp8 G => ?_)
  obtain ⟨tr6, or6, hW9⟩ := hp8
  refine lv_istore (lv' := [(7, .int r6), (6, .int r2), (0, .ref b), (1, .ref (AD 0)), (2, .ref (AD 125)), (3, .ref (AD 138)), (4, .ref (AD 139)), (5, .int (nI (6 * k)))]) hx hb dL_law_1005 hl (by decide) rfl (fun ls hl => ?_)
  refine lv_goto (tgt := 1332) hx hb dL_law_1007 (by decide) ?_
  exact K _ _ _ _ _ _ _ _ hW9 G (lv_sub hl [2, 3, 4, 5, 6, 7] rfl) (by show cells + 64 ≤ cells + 64; omega) (by show slots + 600 ≤ slots + 600; omega)
set_option maxRecDepth 100000 in
theorem law_case_22 {p : Program} {e : Env} {s : State} {m9 : MethodId} {below : List Frame} {meth : Method} {c : Code} {l : Launch} {b L k : Nat} {xs : Nat → Int32} {D : va_G} {cy : Nat → ClassId} {AD : Nat → Nat} {q q2 : Nat → Option Nat} {th : Int32} {o : Nat → Int64} {f : Hf} {H : Heap} {locs : List Loc} {ls : Array Slot} {cells slots : Nat} (hfl : l.stackTraces = false) (C9 : lw_At p s m9 meth c b L xs) (C0 : hC p l s m9 meth c code 9 #[Value.ref b] RL D (hTy cy) (hA f00 s.heap.size)) (hL : L ≤ 3072) (hk6 : 6 * k + 6 ≤ L) (hcs : cells ≤ 200 + 64 * k ∧ slots ≤ 157000 + 600 * k) (hW : WJ AD cy q q2 k th o f) (G : hG D (hA f00 s.heap.size) f s H locs) (hl : lv_has ls 9 [(0, .ref b), (1, .ref (AD 0)), (2, .ref (AD 125)), (3, .ref (AD 138)), (4, .ref (AD 139)), (5, .int (nI (6 * k)))]) (K : KON p l e s m9 b below meth c D cy AD q q2 k cells slots) : W p l e room_1 s m9 #[Value.ref b] below meth c H locs cells slots (lw_Z below #[Value.ref b] s) (F0 m9 1093 ls []) := by
  obtain ⟨hx, hb, hr, hml, hown, hts, hX, hbl, hlocks, hgv⟩ := id C9
  have hbA : ¬ hA f00 s.heap.size b := fun q => by
    rcases q with q | q
    · exact q rfl
    · omega
  refine lv_aload_n hx hb dL_law_1093 rfl (lv_at hl 1 rfl) ?_
  refine lv_aload_n hx hb dL_law_1094 rfl (lv_at hl 0 rfl) ?_
  refine lv_iload hx hb dL_law_1095 (lv_at hl 5 rfl) ?_
  refine lv_iconst (v := 1) hx hb dL_law_1097 (by decide) ?_
  refine lv_iadd hx hb dL_law_1098 ?_
  refine lv_topv (v := nI (6 * k + 1)) (nI_add _ 1) ?_
  refine va_sld hx hb hX hbl hbA G.2 (i := nI (6 * k + 1)) (vp_in_nI (by omega) (by omega)) dL_law_1099 ?_
  refine lv_topv (v := xs (6 * k + 1)) (congrArg xs (nI_c (by omega))) ?_
  refine lv_aload_n hx hb dL_law_1100 rfl (lv_at hl 0 rfl) ?_
  refine lv_iload hx hb dL_law_1101 (lv_at hl 5 rfl) ?_
  refine lv_iconst (v := 2) hx hb dL_law_1103 (by decide) ?_
  refine lv_iadd hx hb dL_law_1104 ?_
  refine lv_topv (v := nI (6 * k + 2)) (nI_add _ 2) ?_
  refine va_sld hx hb hX hbl hbA G.2 (i := nI (6 * k + 2)) (vp_in_nI (by omega) (by omega)) dL_law_1105 ?_
  refine lv_topv (v := xs (6 * k + 2)) (congrArg xs (nI_c (by omega))) ?_
  refine lv_aload_n hx hb dL_law_1106 rfl (lv_at hl 0 rfl) ?_
  refine lv_iload hx hb dL_law_1107 (lv_at hl 5 rfl) ?_
  refine lv_iconst (v := 3) hx hb dL_law_1109 (by decide) ?_
  refine lv_iadd hx hb dL_law_1110 ?_
  refine lv_topv (v := nI (6 * k + 3)) (nI_add _ 3) ?_
  refine va_sld hx hb hX hbl hbA G.2 (i := nI (6 * k + 3)) (vp_in_nI (by omega) (by omega)) dL_law_1111 ?_
  refine lv_topv (v := xs (6 * k + 3)) (congrArg xs (nI_c (by omega))) ?_
  refine lw_bool (t1 := 1120) (x := (xs (6 * k + 3))) hx hb dL_law_1112 (by decide) dL_law_1115 (by decide) dL_law_1116 (by decide) dL_law_1119 (by decide) ?_
  refine lv_aload_n hx hb dL_law_1120 rfl (lv_at hl 3 rfl) ?_
  refine g_cI C0 G (g_runSH C0 G (rest := []) (kL_storeOvers hfl ((xs (6 * k + 1))) ((xs (6 * k + 2))) ((bz (xs (6 * k + 3)))) (bz01 _) hW) hYH_L_storeOvers mm_L_205 ms_L_storeOvers ⟨(Nat.le_of_ble_eq_true rfl), (Nat.le_of_ble_eq_true rfl)⟩ rfl hl.1 rfl (Nat.le_of_ble_eq_true rfl) dL_law_1121 ⟨(by show cells + 64 ≤ 603072; omega), (by show slots + 600 ≤ 7207018; omega)⟩) (kx_no rfl) (fun r2 u3 H locs hp4 G => ?_)
  refine lv_istore (lv' := [(6, .int r2), (0, .ref b), (1, .ref (AD 0)), (2, .ref (AD 125)), (3, .ref (AD 138)), (4, .ref (AD 139)), (5, .int (nI (6 * k)))]) hx hb dL_law_1124 hl (by decide) rfl (fun ls hl => ?_)
  refine lv_aload_n hx hb dL_law_1126 rfl (lv_at hl 3 rfl) ?_
  refine lv_aload_n hx hb dL_law_1127 rfl (lv_at hl 1 rfl) ?_
  refine lv_iload hx hb dL_law_1128 (lv_at hl 6 rfl) ?_
  refine lv_iconst (v := 1) hx hb dL_law_1130 (by decide) ?_
  refine lv_iadd hx hb dL_law_1131 ?_
  refine lv_topv (v := nI (6 * k + 1)) (nI_add _ 1) ?_
  refine va_sld hx hb hX hbl hbA G.2 (i := nI (6 * k + 1)) (vp_in_nI (by omega) (by omega)) dL_law_1132 ?_
  refine lv_topv (v := xs (6 * k + 1)) (congrArg xs (nI_c (by omega))) ?_
  refine lv_aload_n hx hb dL_law_1133 rfl (lv_at hl 1 rfl) ?_
  refine lv_iload hx hb dL_law_1134 (lv_at hl 6 rfl) ?_
  refine lv_iconst (v := 2) hx hb dL_law_1136 (by decide) ?_
  refine lv_iadd hx hb dL_law_1137 ?_
  refine lv_topv (v := nI (6 * k + 2)) (nI_add _ 2) ?_
  refine va_sld hx hb hX hbl hbA G.2 (i := nI (6 * k + 2)) (vp_in_nI (by omega) (by omega)) dL_law_1138 ?_
  refine lv_topv (v := xs (6 * k + 2)) (congrArg xs (nI_c (by omega))) ?_
  refine lv_aload_n hx hb dL_law_1139 rfl (lv_at hl 1 rfl) ?_
  refine lv_iload hx hb dL_law_1140 (lv_at hl 6 rfl) ?_
  refine lv_iconst (v := 3) hx hb dL_law_1142 (by decide) ?_
  refine lv_iadd hx hb dL_law_1143 ?_
  refine lv_topv (v := nI (6 * k + 3)) (nI_add _ 3) ?_
  refine va_sld hx hb hX hbl hbA G.2 (i := nI (6 * k + 3)) (vp_in_nI (by omega) (by omega)) dL_law_1144 ?_
  refine lv_topv (v := xs (6 * k + 3)) (congrArg xs (nI_c (by omega))) ?_
  refine lw_bool (t1 := 1153) (x := (xs (6 * k + 3))) hx hb dL_law_1145 (by decide) dL_law_1148 (by decide) dL_law_1149 (by decide) dL_law_1152 (by decide) ?_
  obtain ⟨fs9, he9⟩ := m_MIDW hp4
  refine g_cI C0 G (g_runV C0 G (rest := []) (kR_storeOvers hfl ((xs (6 * k + 1))) ((xs (6 * k + 2))) ((bz (xs (6 * k + 3)))) (bz01 _) hp4) he9 rfl hY_X9_storeOvers mm_L_207 mi_X9_storeOvers ml_X9_storeOvers ⟨(Nat.le_of_ble_eq_true rfl), (Nat.le_of_ble_eq_true rfl)⟩ rfl hl.1 rfl (Nat.le_of_ble_eq_true rfl) dL_law_1153 ⟨(by show cells + 64 ≤ 603072; omega), (by show slots + 600 ≤ 7207018; omega)⟩) (kx_no rfl) (fun r6 u7 H locs hp8 G => ?_)
  obtain ⟨or6, hW9, her6⟩ := hp8
  refine lv_istore (lv' := [(7, .int r6), (6, .int r2), (0, .ref b), (1, .ref (AD 0)), (2, .ref (AD 125)), (3, .ref (AD 138)), (4, .ref (AD 139)), (5, .int (nI (6 * k)))]) hx hb dL_law_1156 hl (by decide) rfl (fun ls hl => ?_)
  refine lv_goto (tgt := 1332) hx hb dL_law_1158 (by decide) ?_
  exact K _ _ _ _ _ _ _ _ hW9 G (lv_sub hl [2, 3, 4, 5, 6, 7] rfl) (by show cells + 64 ≤ cells + 64; omega) (by show slots + 600 ≤ slots + 600; omega)
set_option maxRecDepth 100000 in
theorem law_case_26 {p : Program} {e : Env} {s : State} {m9 : MethodId} {below : List Frame} {meth : Method} {c : Code} {l : Launch} {b L k : Nat} {xs : Nat → Int32} {D : va_G} {cy : Nat → ClassId} {AD : Nat → Nat} {q q2 : Nat → Option Nat} {th : Int32} {o : Nat → Int64} {f : Hf} {H : Heap} {locs : List Loc} {ls : Array Slot} {cells slots : Nat} (hfl : l.stackTraces = false) (C9 : lw_At p s m9 meth c b L xs) (C0 : hC p l s m9 meth c code 9 #[Value.ref b] RL D (hTy cy) (hA f00 s.heap.size)) (hL : L ≤ 3072) (hk6 : 6 * k + 6 ≤ L) (hcs : cells ≤ 200 + 64 * k ∧ slots ≤ 157000 + 600 * k) (hW : WJ AD cy q q2 k th o f) (G : hG D (hA f00 s.heap.size) f s H locs) (hl : lv_has ls 9 [(0, .ref b), (1, .ref (AD 0)), (2, .ref (AD 125)), (3, .ref (AD 138)), (4, .ref (AD 139)), (5, .int (nI (6 * k)))]) (K : KON p l e s m9 b below meth c D cy AD q q2 k cells slots) : W p l e room_1 s m9 #[Value.ref b] below meth c H locs cells slots (lw_Z below #[Value.ref b] s) (F0 m9 1255 ls []) := by
  obtain ⟨hx, hb, hr, hml, hown, hts, hX, hbl, hlocks, hgv⟩ := id C9
  have hbA : ¬ hA f00 s.heap.size b := fun q => by
    rcases q with q | q
    · exact q rfl
    · omega
  refine lv_aload_n hx hb dL_law_1255 rfl (lv_at hl 1 rfl) ?_
  obtain ⟨fs9, he9⟩ := m_XC hW
  refine g_cI C0 G (g_runV C0 G (rest := []) (kC_commandCount hfl (by omega) hW) he9 rfl hY_X8_commandCount mm_L_218 mi_X8_commandCount ml_X8_commandCount ⟨(Nat.le_of_ble_eq_true rfl), (Nat.le_of_ble_eq_true rfl)⟩ rfl hl.1 rfl (Nat.le_of_ble_eq_true rfl) dL_law_1256 ⟨(by show cells + 64 ≤ 603072; omega), (by show slots + 600 ≤ 7207018; omega)⟩) (kx_no rfl) (fun r1 u2 H locs hp3 G => ?_)
  refine lv_pop hx hb dL_law_1259 rfl ?_
  refine lv_aload_n hx hb dL_law_1260 rfl (lv_at hl 2 rfl) ?_
  obtain ⟨fs9, he9⟩ := m_WJ hp3
  refine g_cI C0 G (g_runV C0 G (rest := []) (kR_commandCount hfl hp3) he9 rfl hY_X9_commandCount mm_L_221 mi_X9_commandCount ml_X9_commandCount ⟨(Nat.le_of_ble_eq_true rfl), (Nat.le_of_ble_eq_true rfl)⟩ rfl hl.1 rfl (Nat.le_of_ble_eq_true rfl) dL_law_1261 ⟨(by show cells + 64 ≤ 603072; omega), (by show slots + 600 ≤ 7207018; omega)⟩) (kx_no rfl) (fun r4 u5 H locs hp6 G => ?_)
  obtain ⟨tr4, hW7⟩ := hp6
  refine lv_pop hx hb dL_law_1264 rfl ?_
  refine lv_goto (tgt := 1332) hx hb dL_law_1265 (by decide) ?_
  exact K _ _ _ _ _ _ _ _ hW7 G (lv_sub hl [0, 1, 2, 3, 4, 5] rfl) (by show cells + 64 ≤ cells + 64; omega) (by show slots + 600 ≤ slots + 600; omega)
set_option maxRecDepth 100000 in
theorem law_case_30 {p : Program} {e : Env} {s : State} {m9 : MethodId} {below : List Frame} {meth : Method} {c : Code} {l : Launch} {b L k : Nat} {xs : Nat → Int32} {D : va_G} {cy : Nat → ClassId} {AD : Nat → Nat} {q q2 : Nat → Option Nat} {th : Int32} {o : Nat → Int64} {f : Hf} {H : Heap} {locs : List Loc} {ls : Array Slot} {cells slots : Nat} (hfl : l.stackTraces = false) (C9 : lw_At p s m9 meth c b L xs) (C0 : hC p l s m9 meth c code 9 #[Value.ref b] RL D (hTy cy) (hA f00 s.heap.size)) (hL : L ≤ 3072) (hk6 : 6 * k + 6 ≤ L) (hcs : cells ≤ 200 + 64 * k ∧ slots ≤ 157000 + 600 * k) (hW : WJ AD cy q q2 k th o f) (G : hG D (hA f00 s.heap.size) f s H locs) (hl : lv_has ls 9 [(0, .ref b), (1, .ref (AD 0)), (2, .ref (AD 125)), (3, .ref (AD 138)), (4, .ref (AD 139)), (5, .int (nI (6 * k)))]) (K : KON p l e s m9 b below meth c D cy AD q q2 k cells slots) : W p l e room_1 s m9 #[Value.ref b] below meth c H locs cells slots (lw_Z below #[Value.ref b] s) (F0 m9 1316 ls []) := by
  obtain ⟨hx, hb, hr, hml, hown, hts, hX, hbl, hlocks, hgv⟩ := id C9
  have hbA : ¬ hA f00 s.heap.size b := fun q => by
    rcases q with q | q
    · exact q rfl
    · omega
  refine lv_aload_n hx hb dL_law_1316 rfl (lv_at hl 1 rfl) ?_
  refine lv_aload_n hx hb dL_law_1317 rfl (lv_at hl 3 rfl) ?_
  refine g_cI C0 G (g_runSH C0 G (rest := []) (kL_restore hfl hW) hYH_L_restore mm_L_231 ms_L_restore ⟨(Nat.le_of_ble_eq_true rfl), (Nat.le_of_ble_eq_true rfl)⟩ rfl hl.1 rfl (Nat.le_of_ble_eq_true rfl) dL_law_1318 ⟨(by show cells + 64 ≤ 603072; omega), (by show slots + 600 ≤ 7207018; omega)⟩) (kx_no rfl) (fun r1 u2 H locs hp3 G => ?_)
  refine lv_istore (lv' := [(6, .int r1), (0, .ref b), (1, .ref (AD 0)), (2, .ref (AD 125)), (3, .ref (AD 138)), (4, .ref (AD 139)), (5, .int (nI (6 * k)))]) hx hb dL_law_1321 hl (by decide) rfl (fun ls hl => ?_)
  refine lv_aload_n hx hb dL_law_1323 rfl (lv_at hl 3 rfl) ?_
  obtain ⟨fs9, he9⟩ := m_MIDV hp3
  refine g_cI C0 G (g_runV C0 G (rest := []) (kR_restore hfl hp3) he9 rfl hY_X9_restore mm_L_233 mi_X9_restore ml_X9_restore ⟨(Nat.le_of_ble_eq_true rfl), (Nat.le_of_ble_eq_true rfl)⟩ rfl hl.1 rfl (Nat.le_of_ble_eq_true rfl) dL_law_1324 ⟨(by show cells + 64 ≤ 603072; omega), (by show slots + 600 ≤ 7207018; omega)⟩) (kx_no rfl) (fun r4 u5 H locs hp6 G => ?_)
  obtain ⟨or4, hW7, her4⟩ := hp6
  refine lv_istore (lv' := [(7, .int r4), (6, .int r1), (0, .ref b), (1, .ref (AD 0)), (2, .ref (AD 125)), (3, .ref (AD 138)), (4, .ref (AD 139)), (5, .int (nI (6 * k)))]) hx hb dL_law_1327 hl (by decide) rfl (fun ls hl => ?_)
  refine lv_goto (tgt := 1332) hx hb dL_law_1329 (by decide) ?_
  exact K _ _ _ _ _ _ _ _ hW7 G (lv_sub hl [2, 3, 4, 5, 6, 7] rfl) (by show cells + 64 ≤ cells + 64; omega) (by show slots + 600 ≤ slots + 600; omega)
