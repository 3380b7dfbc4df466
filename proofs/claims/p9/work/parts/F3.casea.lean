set_option maxRecDepth 100000 in
theorem law_case_0 {p : Program} {e : Env} {s : State} {m9 : MethodId} {below : List Frame} {meth : Method} {c : Code} {l : Launch} {b L k : Nat} {xs : Nat → Int32} {D : va_G} {cy : Nat → ClassId} {AD : Nat → Nat} {q q2 : Nat → Option Nat} {th : Int32} {o : Nat → Int64} {f : Hf} {H : Heap} {locs : List Loc} {ls : Array Slot} {cells slots : Nat} (hfl : l.stackTraces = false) (C9 : lw_At p s m9 meth c b L xs) (C0 : hC p l s m9 meth c code 9 #[Value.ref b] RL D (hTy cy) (hA f00 s.heap.size)) (hL : L ≤ 3072) (hk6 : 6 * k + 6 ≤ L) (hcs : cells ≤ 200 + 64 * k ∧ slots ≤ 157000 + 600 * k) (hW : WJ AD cy q q2 k th o f) (G : hG D (hA f00 s.heap.size) f s H locs) (hl : lv_has ls 9 [(0, .ref b), (1, .ref (AD 0)), (2, .ref (AD 125)), (3, .ref (AD 138)), (4, .ref (AD 139)), (5, .int (nI (6 * k)))]) (K : KON p l e s m9 b below meth c D cy AD q q2 k cells slots) : W p l e room_1 s m9 #[Value.ref b] below meth c H locs cells slots (lw_Z below #[Value.ref b] s) (F0 m9 184 ls []) := by
  obtain ⟨hx, hb, hr, hml, hown, hts, hX, hbl, hlocks, hgv⟩ := id C9
  have hbA : ¬ hA f00 s.heap.size b := fun q => by
    rcases q with q | q
    · exact q rfl
    · omega
  refine lv_aload_n hx hb dL_law_184 rfl (lv_at hl 1 rfl) ?_
  refine lv_aload_n hx hb dL_law_185 rfl (lv_at hl 0 rfl) ?_
  refine lv_iload hx hb dL_law_186 (lv_at hl 5 rfl) ?_
  refine lv_iconst (v := 1) hx hb dL_law_188 (by decide) ?_
  refine lv_iadd hx hb dL_law_189 ?_
  refine lv_topv (v := nI (6 * k + 1)) (nI_add _ 1) ?_
  refine va_sld hx hb hX hbl hbA G.2 (i := nI (6 * k + 1)) (vp_in_nI (by omega) (by omega)) dL_law_190 ?_
  refine lv_topv (v := xs (6 * k + 1)) (congrArg xs (nI_c (by omega))) ?_
  refine lv_aload_n hx hb dL_law_191 rfl (lv_at hl 0 rfl) ?_
  refine lv_iload hx hb dL_law_192 (lv_at hl 5 rfl) ?_
  refine lv_iconst (v := 2) hx hb dL_law_194 (by decide) ?_
  refine lv_iadd hx hb dL_law_195 ?_
  refine lv_topv (v := nI (6 * k + 2)) (nI_add _ 2) ?_
  refine va_sld hx hb hX hbl hbA G.2 (i := nI (6 * k + 2)) (vp_in_nI (by omega) (by omega)) dL_law_196 ?_
  refine lv_topv (v := xs (6 * k + 2)) (congrArg xs (nI_c (by omega))) ?_
  refine lv_aload_n hx hb dL_law_197 rfl (lv_at hl 0 rfl) ?_
  refine lv_iload hx hb dL_law_198 (lv_at hl 5 rfl) ?_
  refine lv_iconst (v := 3) hx hb dL_law_200 (by decide) ?_
  refine lv_iadd hx hb dL_law_201 ?_
  refine lv_topv (v := nI (6 * k + 3)) (nI_add _ 3) ?_
  refine va_sld hx hb hX hbl hbA G.2 (i := nI (6 * k + 3)) (vp_in_nI (by omega) (by omega)) dL_law_202 ?_
  refine lv_topv (v := xs (6 * k + 3)) (congrArg xs (nI_c (by omega))) ?_
  refine lv_aload_n hx hb dL_law_203 rfl (lv_at hl 3 rfl) ?_
  refine g_cI C0 G (g_runSH C0 G (rest := []) (kL_begin hfl ((xs (6 * k + 1))) ((xs (6 * k + 2))) ((xs (6 * k + 3))) hW) hYH_L_begin mm_L_122 ms_L_begin ⟨(Nat.le_of_ble_eq_true rfl), (Nat.le_of_ble_eq_true rfl)⟩ rfl hl.1 rfl (Nat.le_of_ble_eq_true rfl) dL_law_204 ⟨(by show cells + 64 ≤ 603072; omega), (by show slots + 600 ≤ 7207018; omega)⟩) (kx_no rfl) (fun r1 u2 H locs hp3 G => ?_)
  refine lv_istore (lv' := [(6, .int r1), (0, .ref b), (1, .ref (AD 0)), (2, .ref (AD 125)), (3, .ref (AD 138)), (4, .ref (AD 139)), (5, .int (nI (6 * k)))]) hx hb dL_law_207 hl (by decide) rfl (fun ls hl => ?_)
  refine lv_aload_n hx hb dL_law_209 rfl (lv_at hl 3 rfl) ?_
  refine lv_aload_n hx hb dL_law_210 rfl (lv_at hl 1 rfl) ?_
  refine lv_iload hx hb dL_law_211 (lv_at hl 6 rfl) ?_
  refine lv_iconst (v := 1) hx hb dL_law_213 (by decide) ?_
  refine lv_iadd hx hb dL_law_214 ?_
  refine lv_topv (v := nI (6 * k + 1)) (nI_add _ 1) ?_
  refine va_sld hx hb hX hbl hbA G.2 (i := nI (6 * k + 1)) (vp_in_nI (by omega) (by omega)) dL_law_215 ?_
  refine lv_topv (v := xs (6 * k + 1)) (congrArg xs (nI_c (by omega))) ?_
  refine lv_aload_n hx hb dL_law_216 rfl (lv_at hl 1 rfl) ?_
  refine lv_iload hx hb dL_law_217 (lv_at hl 6 rfl) ?_
  refine lv_iconst (v := 2) hx hb dL_law_219 (by decide) ?_
  refine lv_iadd hx hb dL_law_220 ?_
  refine lv_topv (v := nI (6 * k + 2)) (nI_add _ 2) ?_
  refine va_sld hx hb hX hbl hbA G.2 (i := nI (6 * k + 2)) (vp_in_nI (by omega) (by omega)) dL_law_221 ?_
  refine lv_topv (v := xs (6 * k + 2)) (congrArg xs (nI_c (by omega))) ?_
  refine lv_aload_n hx hb dL_law_222 rfl (lv_at hl 1 rfl) ?_
  refine lv_iload hx hb dL_law_223 (lv_at hl 6 rfl) ?_
  refine lv_iconst (v := 3) hx hb dL_law_225 (by decide) ?_
  refine lv_iadd hx hb dL_law_226 ?_
  refine lv_topv (v := nI (6 * k + 3)) (nI_add _ 3) ?_
  refine va_sld hx hb hX hbl hbA G.2 (i := nI (6 * k + 3)) (vp_in_nI (by omega) (by omega)) dL_law_227 ?_
  refine lv_topv (v := xs (6 * k + 3)) (congrArg xs (nI_c (by omega))) ?_
  obtain ⟨fs9, he9⟩ := m_MIDB hp3
  refine g_cI C0 G (g_runV C0 G (rest := []) (kR_begin hfl ((xs (6 * k + 1))) ((xs (6 * k + 2))) ((xs (6 * k + 3))) hp3) he9 rfl hY_X9_begin mm_L_127 mi_X9_begin ml_X9_begin ⟨(Nat.le_of_ble_eq_true rfl), (Nat.le_of_ble_eq_true rfl)⟩ rfl hl.1 rfl (Nat.le_of_ble_eq_true rfl) dL_law_228 ⟨(by show cells + 64 ≤ 603072; omega), (by show slots + 600 ≤ 7207018; omega)⟩) (kx_no rfl) (fun r4 u5 H locs hp6 G => ?_)
  obtain ⟨or4, hW7, her4⟩ := hp6
  refine lv_istore (lv' := [(7, .int r4), (6, .int r1), (0, .ref b), (1, .ref (AD 0)), (2, .ref (AD 125)), (3, .ref (AD 138)), (4, .ref (AD 139)), (5, .int (nI (6 * k)))]) hx hb dL_law_231 hl (by decide) rfl (fun ls hl => ?_)
  refine lv_goto (tgt := 1332) hx hb dL_law_233 (by decide) ?_
  exact K _ _ _ _ _ _ _ _ hW7 G (lv_sub hl [2, 3, 4, 5, 6, 7] rfl) (by show cells + 64 ≤ cells + 64; omega) (by show slots + 600 ≤ slots + 600; omega)
set_option maxRecDepth 100000 in
theorem law_case_4 {p : Program} {e : Env} {s : State} {m9 : MethodId} {below : List Frame} {meth : Method} {c : Code} {l : Launch} {b L k : Nat} {xs : Nat → Int32} {D : va_G} {cy : Nat → ClassId} {AD : Nat → Nat} {q q2 : Nat → Option Nat} {th : Int32} {o : Nat → Int64} {f : Hf} {H : Heap} {locs : List Loc} {ls : Array Slot} {cells slots : Nat} (hfl : l.stackTraces = false) (C9 : lw_At p s m9 meth c b L xs) (C0 : hC p l s m9 meth c code 9 #[Value.ref b] RL D (hTy cy) (hA f00 s.heap.size)) (hL : L ≤ 3072) (hk6 : 6 * k + 6 ≤ L) (hcs : cells ≤ 200 + 64 * k ∧ slots ≤ 157000 + 600 * k) (hW : WJ AD cy q q2 k th o f) (G : hG D (hA f00 s.heap.size) f s H locs) (hl : lv_has ls 9 [(0, .ref b), (1, .ref (AD 0)), (2, .ref (AD 125)), (3, .ref (AD 138)), (4, .ref (AD 139)), (5, .int (nI (6 * k)))]) (K : KON p l e s m9 b below meth c D cy AD q q2 k cells slots) : W p l e room_1 s m9 #[Value.ref b] below meth c H locs cells slots (lw_Z below #[Value.ref b] s) (F0 m9 440 ls []) := by
  obtain ⟨hx, hb, hr, hml, hown, hts, hX, hbl, hlocks, hgv⟩ := id C9
  have hbA : ¬ hA f00 s.heap.size b := fun q => by
    rcases q with q | q
    · exact q rfl
    · omega
  refine lv_aload_n hx hb dL_law_440 rfl (lv_at hl 1 rfl) ?_
  refine lv_aload_n hx hb dL_law_441 rfl (lv_at hl 0 rfl) ?_
  refine lv_iload hx hb dL_law_442 (lv_at hl 5 rfl) ?_
  refine lv_iconst (v := 1) hx hb dL_law_444 (by decide) ?_
  refine lv_iadd hx hb dL_law_445 ?_
  refine lv_topv (v := nI (6 * k + 1)) (nI_add _ 1) ?_
  refine va_sld hx hb hX hbl hbA G.2 (i := nI (6 * k + 1)) (vp_in_nI (by omega) (by omega)) dL_law_446 ?_
  refine lv_topv (v := xs (6 * k + 1)) (congrArg xs (nI_c (by omega))) ?_
  refine lw_bool (t1 := 455) (x := (xs (6 * k + 1))) hx hb dL_law_447 (by decide) dL_law_450 (by decide) dL_law_451 (by decide) dL_law_454 (by decide) ?_
  refine lv_aload_n hx hb dL_law_455 rfl (lv_at hl 0 rfl) ?_
  refine lv_iload hx hb dL_law_456 (lv_at hl 5 rfl) ?_
  refine lv_iconst (v := 2) hx hb dL_law_458 (by decide) ?_
  refine lv_iadd hx hb dL_law_459 ?_
  refine lv_topv (v := nI (6 * k + 2)) (nI_add _ 2) ?_
  refine va_sld hx hb hX hbl hbA G.2 (i := nI (6 * k + 2)) (vp_in_nI (by omega) (by omega)) dL_law_460 ?_
  refine lv_topv (v := xs (6 * k + 2)) (congrArg xs (nI_c (by omega))) ?_
  refine lw_bool (t1 := 469) (x := (xs (6 * k + 2))) hx hb dL_law_461 (by decide) dL_law_464 (by decide) dL_law_465 (by decide) dL_law_468 (by decide) ?_
  refine lv_aload_n hx hb dL_law_469 rfl (lv_at hl 3 rfl) ?_
  refine g_cI C0 G (g_runSH C0 G (rest := []) (kL_retire hfl ((bz (xs (6 * k + 1)))) ((bz (xs (6 * k + 2)))) (by omega) (bz01 _) (bz01 _) hW) hYH_L_retire mm_L_140 ms_L_retire ⟨(Nat.le_of_ble_eq_true rfl), (Nat.le_of_ble_eq_true rfl)⟩ rfl hl.1 rfl (Nat.le_of_ble_eq_true rfl) dL_law_470 ⟨(by show cells + 64 ≤ 603072; omega), (by show slots + 600 ≤ 7207018; omega)⟩) (kx_no rfl) (fun r3 u4 H locs hp5 G => ?_)
  refine lv_istore (lv' := [(6, .int r3), (0, .ref b), (1, .ref (AD 0)), (2, .ref (AD 125)), (3, .ref (AD 138)), (4, .ref (AD 139)), (5, .int (nI (6 * k)))]) hx hb dL_law_473 hl (by decide) rfl (fun ls hl => ?_)
  refine lv_aload_n hx hb dL_law_475 rfl (lv_at hl 3 rfl) ?_
  refine lv_aload_n hx hb dL_law_476 rfl (lv_at hl 1 rfl) ?_
  refine lv_iload hx hb dL_law_477 (lv_at hl 6 rfl) ?_
  refine lv_iconst (v := 1) hx hb dL_law_479 (by decide) ?_
  refine lv_iadd hx hb dL_law_480 ?_
  refine lv_topv (v := nI (6 * k + 1)) (nI_add _ 1) ?_
  refine va_sld hx hb hX hbl hbA G.2 (i := nI (6 * k + 1)) (vp_in_nI (by omega) (by omega)) dL_law_481 ?_
  refine lv_topv (v := xs (6 * k + 1)) (congrArg xs (nI_c (by omega))) ?_
  refine lw_bool (t1 := 490) (x := (xs (6 * k + 1))) hx hb dL_law_482 (by decide) dL_law_485 (by decide) dL_law_486 (by decide) dL_law_489 (by decide) ?_
  refine lv_aload_n hx hb dL_law_490 rfl (lv_at hl 1 rfl) ?_
  refine lv_iload hx hb dL_law_491 (lv_at hl 6 rfl) ?_
  refine lv_iconst (v := 2) hx hb dL_law_493 (by decide) ?_
  refine lv_iadd hx hb dL_law_494 ?_
  refine lv_topv (v := nI (6 * k + 2)) (nI_add _ 2) ?_
  refine va_sld hx hb hX hbl hbA G.2 (i := nI (6 * k + 2)) (vp_in_nI (by omega) (by omega)) dL_law_495 ?_
  refine lv_topv (v := xs (6 * k + 2)) (congrArg xs (nI_c (by omega))) ?_
  refine lw_bool (t1 := 504) (x := (xs (6 * k + 2))) hx hb dL_law_496 (by decide) dL_law_499 (by decide) dL_law_500 (by decide) dL_law_503 (by decide) ?_
  obtain ⟨fs9, he9⟩ := m_MID hp5
  refine g_cI C0 G (g_runV C0 G (rest := []) (kR_retire hfl ((bz (xs (6 * k + 1)))) ((bz (xs (6 * k + 2)))) (by omega) (bz01 _) (bz01 _) hp5) he9 rfl hY_X9_retire mm_L_143 mi_X9_retire ml_X9_retire ⟨(Nat.le_of_ble_eq_true rfl), (Nat.le_of_ble_eq_true rfl)⟩ rfl hl.1 rfl (Nat.le_of_ble_eq_true rfl) dL_law_504 ⟨(by show cells + 64 ≤ 603072; omega), (by show slots + 600 ≤ 7207018; omega)⟩) (kx_no rfl) (fun r8 u9 H locs hp10 G => ?_)
  obtain ⟨or8, hW11, her8⟩ := hp10
  refine lv_istore (lv' := [(7, .int r8), (6, .int r3), (0, .ref b), (1, .ref (AD 0)), (2, .ref (AD 125)), (3, .ref (AD 138)), (4, .ref (AD 139)), (5, .int (nI (6 * k)))]) hx hb dL_law_507 hl (by decide) rfl (fun ls hl => ?_)
  refine lv_goto (tgt := 1332) hx hb dL_law_509 (by decide) ?_
  exact K _ _ _ _ _ _ _ _ hW11 G (lv_sub hl [2, 3, 4, 5, 6, 7] rfl) (by show cells + 64 ≤ cells + 64; omega) (by show slots + 600 ≤ slots + 600; omega)
set_option maxRecDepth 100000 in
theorem law_case_8 {p : Program} {e : Env} {s : State} {m9 : MethodId} {below : List Frame} {meth : Method} {c : Code} {l : Launch} {b L k : Nat} {xs : Nat → Int32} {D : va_G} {cy : Nat → ClassId} {AD : Nat → Nat} {q q2 : Nat → Option Nat} {th : Int32} {o : Nat → Int64} {f : Hf} {H : Heap} {locs : List Loc} {ls : Array Slot} {cells slots : Nat} (hfl : l.stackTraces = false) (C9 : lw_At p s m9 meth c b L xs) (C0 : hC p l s m9 meth c code 9 #[Value.ref b] RL D (hTy cy) (hA f00 s.heap.size)) (hL : L ≤ 3072) (hk6 : 6 * k + 6 ≤ L) (hcs : cells ≤ 200 + 64 * k ∧ slots ≤ 157000 + 600 * k) (hW : WJ AD cy q q2 k th o f) (G : hG D (hA f00 s.heap.size) f s H locs) (hl : lv_has ls 9 [(0, .ref b), (1, .ref (AD 0)), (2, .ref (AD 125)), (3, .ref (AD 138)), (4, .ref (AD 139)), (5, .int (nI (6 * k)))]) (K : KON p l e s m9 b below meth c D cy AD q q2 k cells slots) : W p l e room_1 s m9 #[Value.ref b] below meth c H locs cells slots (lw_Z below #[Value.ref b] s) (F0 m9 612 ls []) := by
  obtain ⟨hx, hb, hr, hml, hown, hts, hX, hbl, hlocks, hgv⟩ := id C9
  have hbA : ¬ hA f00 s.heap.size b := fun q => by
    rcases q with q | q
    · exact q rfl
    · omega
  refine lv_aload_n hx hb dL_law_612 rfl (lv_at hl 1 rfl) ?_
  refine lv_aload_n hx hb dL_law_613 rfl (lv_at hl 0 rfl) ?_
  refine lv_iload hx hb dL_law_614 (lv_at hl 5 rfl) ?_
  refine lv_iconst (v := 1) hx hb dL_law_616 (by decide) ?_
  refine lv_iadd hx hb dL_law_617 ?_
  refine lv_topv (v := nI (6 * k + 1)) (nI_add _ 1) ?_
  refine va_sld hx hb hX hbl hbA G.2 (i := nI (6 * k + 1)) (vp_in_nI (by omega) (by omega)) dL_law_618 ?_
  refine lv_topv (v := xs (6 * k + 1)) (congrArg xs (nI_c (by omega))) ?_
  refine lv_i2c (v := ((xs (6 * k + 1)).toUInt32 % 65536).toInt32) hx hb dL_law_619 rfl ?_
  refine lv_aload_n hx hb dL_law_620 rfl (lv_at hl 3 rfl) ?_
  refine g_cI C0 G (g_runSH C0 G (rest := []) (kL_append hfl ((((xs (6 * k + 1)).toUInt32 % 65536).toInt32)) hW) hYH_L_append mm_L_157 ms_L_append ⟨(Nat.le_of_ble_eq_true rfl), (Nat.le_of_ble_eq_true rfl)⟩ rfl hl.1 rfl (Nat.le_of_ble_eq_true rfl) dL_law_621 ⟨(by show cells + 64 ≤ 603072; omega), (by show slots + 600 ≤ 7207018; omega)⟩) (kx_no rfl) (fun r1 u2 H locs hp3 G => ?_)
  refine lv_istore (lv' := [(6, .int r1), (0, .ref b), (1, .ref (AD 0)), (2, .ref (AD 125)), (3, .ref (AD 138)), (4, .ref (AD 139)), (5, .int (nI (6 * k)))]) hx hb dL_law_624 hl (by decide) rfl (fun ls hl => ?_)
  refine lv_aload_n hx hb dL_law_626 rfl (lv_at hl 3 rfl) ?_
  refine lv_aload_n hx hb dL_law_627 rfl (lv_at hl 1 rfl) ?_
  refine lv_iload hx hb dL_law_628 (lv_at hl 6 rfl) ?_
  refine lv_iconst (v := 1) hx hb dL_law_630 (by decide) ?_
  refine lv_iadd hx hb dL_law_631 ?_
  refine lv_topv (v := nI (6 * k + 1)) (nI_add _ 1) ?_
  refine va_sld hx hb hX hbl hbA G.2 (i := nI (6 * k + 1)) (vp_in_nI (by omega) (by omega)) dL_law_632 ?_
  refine lv_topv (v := xs (6 * k + 1)) (congrArg xs (nI_c (by omega))) ?_
  refine lv_i2c (v := ((xs (6 * k + 1)).toUInt32 % 65536).toInt32) hx hb dL_law_633 rfl ?_
  obtain ⟨fs9, he9⟩ := m_MIDP hp3
  refine g_cI C0 G (g_runV C0 G (rest := []) (kR_append hfl ((((xs (6 * k + 1)).toUInt32 % 65536).toInt32)) hp3) he9 rfl hY_X9_append mm_L_160 mi_X9_append ml_X9_append ⟨(Nat.le_of_ble_eq_true rfl), (Nat.le_of_ble_eq_true rfl)⟩ rfl hl.1 rfl (Nat.le_of_ble_eq_true rfl) dL_law_634 ⟨(by show cells + 64 ≤ 603072; omega), (by show slots + 600 ≤ 7207018; omega)⟩) (kx_no rfl) (fun r4 u5 H locs hp6 G => ?_)
  obtain ⟨or4, hW7, her4⟩ := hp6
  refine lv_istore (lv' := [(7, .int r4), (6, .int r1), (0, .ref b), (1, .ref (AD 0)), (2, .ref (AD 125)), (3, .ref (AD 138)), (4, .ref (AD 139)), (5, .int (nI (6 * k)))]) hx hb dL_law_637 hl (by decide) rfl (fun ls hl => ?_)
  refine lv_goto (tgt := 1332) hx hb dL_law_639 (by decide) ?_
  exact K _ _ _ _ _ _ _ _ hW7 G (lv_sub hl [2, 3, 4, 5, 6, 7] rfl) (by show cells + 64 ≤ cells + 64; omega) (by show slots + 600 ≤ slots + 600; omega)
set_option maxRecDepth 100000 in
theorem law_case_12 {p : Program} {e : Env} {s : State} {m9 : MethodId} {below : List Frame} {meth : Method} {c : Code} {l : Launch} {b L k : Nat} {xs : Nat → Int32} {D : va_G} {cy : Nat → ClassId} {AD : Nat → Nat} {q q2 : Nat → Option Nat} {th : Int32} {o : Nat → Int64} {f : Hf} {H : Heap} {locs : List Loc} {ls : Array Slot} {cells slots : Nat} (hfl : l.stackTraces = false) (C9 : lw_At p s m9 meth c b L xs) (C0 : hC p l s m9 meth c code 9 #[Value.ref b] RL D (hTy cy) (hA f00 s.heap.size)) (hL : L ≤ 3072) (hk6 : 6 * k + 6 ≤ L) (hcs : cells ≤ 200 + 64 * k ∧ slots ≤ 157000 + 600 * k) (hW : WJ AD cy q q2 k th o f) (G : hG D (hA f00 s.heap.size) f s H locs) (hl : lv_has ls 9 [(0, .ref b), (1, .ref (AD 0)), (2, .ref (AD 125)), (3, .ref (AD 138)), (4, .ref (AD 139)), (5, .int (nI (6 * k)))]) (K : KON p l e s m9 b below meth c D cy AD q q2 k cells slots) : W p l e room_1 s m9 #[Value.ref b] below meth c H locs cells slots (lw_Z below #[Value.ref b] s) (F0 m9 690 ls []) := by
  obtain ⟨hx, hb, hr, hml, hown, hts, hX, hbl, hlocks, hgv⟩ := id C9
  have hbA : ¬ hA f00 s.heap.size b := fun q => by
    rcases q with q | q
    · exact q rfl
    · omega
  refine lv_aload_n hx hb dL_law_690 rfl (lv_at hl 1 rfl) ?_
  refine lv_aload_n hx hb dL_law_691 rfl (lv_at hl 0 rfl) ?_
  refine lv_iload hx hb dL_law_692 (lv_at hl 5 rfl) ?_
  refine lv_iconst (v := 1) hx hb dL_law_694 (by decide) ?_
  refine lv_iadd hx hb dL_law_695 ?_
  refine lv_topv (v := nI (6 * k + 1)) (nI_add _ 1) ?_
  refine va_sld hx hb hX hbl hbA G.2 (i := nI (6 * k + 1)) (vp_in_nI (by omega) (by omega)) dL_law_696 ?_
  refine lv_topv (v := xs (6 * k + 1)) (congrArg xs (nI_c (by omega))) ?_
  refine lv_aload_n hx hb dL_law_697 rfl (lv_at hl 3 rfl) ?_
  refine g_cI C0 G (g_runSH C0 G (rest := []) (kL_now hfl ((xs (6 * k + 1))) hW) hYH_L_now mm_L_170 ms_L_now ⟨(Nat.le_of_ble_eq_true rfl), (Nat.le_of_ble_eq_true rfl)⟩ rfl hl.1 rfl (Nat.le_of_ble_eq_true rfl) dL_law_698 ⟨(by show cells + 64 ≤ 603072; omega), (by show slots + 600 ≤ 7207018; omega)⟩) (kx_no rfl) (fun r1 u2 H locs hp3 G => ?_)
  refine lv_istore (lv' := [(6, .int r1), (0, .ref b), (1, .ref (AD 0)), (2, .ref (AD 125)), (3, .ref (AD 138)), (4, .ref (AD 139)), (5, .int (nI (6 * k)))]) hx hb dL_law_701 hl (by decide) rfl (fun ls hl => ?_)
  refine lv_aload_n hx hb dL_law_703 rfl (lv_at hl 3 rfl) ?_
  refine lv_aload_n hx hb dL_law_704 rfl (lv_at hl 1 rfl) ?_
  refine lv_iload hx hb dL_law_705 (lv_at hl 6 rfl) ?_
  refine lv_iconst (v := 1) hx hb dL_law_707 (by decide) ?_
  refine lv_iadd hx hb dL_law_708 ?_
  refine lv_topv (v := nI (6 * k + 1)) (nI_add _ 1) ?_
  refine va_sld hx hb hX hbl hbA G.2 (i := nI (6 * k + 1)) (vp_in_nI (by omega) (by omega)) dL_law_709 ?_
  refine lv_topv (v := xs (6 * k + 1)) (congrArg xs (nI_c (by omega))) ?_
  obtain ⟨fs9, he9⟩ := m_MIDN hp3
  refine g_cI C0 G (g_runV C0 G (rest := []) (kR_now hfl ((xs (6 * k + 1))) hp3) he9 rfl hY_X9_now mm_L_172 mi_X9_now ml_X9_now ⟨(Nat.le_of_ble_eq_true rfl), (Nat.le_of_ble_eq_true rfl)⟩ rfl hl.1 rfl (Nat.le_of_ble_eq_true rfl) dL_law_710 ⟨(by show cells + 64 ≤ 603072; omega), (by show slots + 600 ≤ 7207018; omega)⟩) (kx_no rfl) (fun r4 u5 H locs hp6 G => ?_)
  obtain ⟨tr4, or4, hW7⟩ := hp6
  refine lv_istore (lv' := [(7, .int r4), (6, .int r1), (0, .ref b), (1, .ref (AD 0)), (2, .ref (AD 125)), (3, .ref (AD 138)), (4, .ref (AD 139)), (5, .int (nI (6 * k)))]) hx hb dL_law_713 hl (by decide) rfl (fun ls hl => ?_)
  refine lv_goto (tgt := 1332) hx hb dL_law_715 (by decide) ?_
  exact K _ _ _ _ _ _ _ _ hW7 G (lv_sub hl [2, 3, 4, 5, 6, 7] rfl) (by show cells + 64 ≤ cells + 64; omega) (by show slots + 600 ≤ slots + 600; omega)
set_option maxRecDepth 100000 in
theorem law_case_16 {p : Program} {e : Env} {s : State} {m9 : MethodId} {below : List Frame} {meth : Method} {c : Code} {l : Launch} {b L k : Nat} {xs : Nat → Int32} {D : va_G} {cy : Nat → ClassId} {AD : Nat → Nat} {q q2 : Nat → Option Nat} {th : Int32} {o : Nat → Int64} {f : Hf} {H : Heap} {locs : List Loc} {ls : Array Slot} {cells slots : Nat} (hfl : l.stackTraces = false) (C9 : lw_At p s m9 meth c b L xs) (C0 : hC p l s m9 meth c code 9 #[Value.ref b] RL D (hTy cy) (hA f00 s.heap.size)) (hL : L ≤ 3072) (hk6 : 6 * k + 6 ≤ L) (hcs : cells ≤ 200 + 64 * k ∧ slots ≤ 157000 + 600 * k) (hW : WJ AD cy q q2 k th o f) (G : hG D (hA f00 s.heap.size) f s H locs) (hl : lv_has ls 9 [(0, .ref b), (1, .ref (AD 0)), (2, .ref (AD 125)), (3, .ref (AD 138)), (4, .ref (AD 139)), (5, .int (nI (6 * k)))]) (K : KON p l e s m9 b below meth c D cy AD q q2 k cells slots) : W p l e room_1 s m9 #[Value.ref b] below meth c H locs cells slots (lw_Z below #[Value.ref b] s) (F0 m9 862 ls []) := by
  obtain ⟨hx, hb, hr, hml, hown, hts, hX, hbl, hlocks, hgv⟩ := id C9
  have hbA : ¬ hA f00 s.heap.size b := fun q => by
    rcases q with q | q
    · exact q rfl
    · omega
  refine lv_aload_n hx hb dL_law_862 rfl (lv_at hl 1 rfl) ?_
  refine lv_aload_n hx hb dL_law_863 rfl (lv_at hl 0 rfl) ?_
  refine lv_iload hx hb dL_law_864 (lv_at hl 5 rfl) ?_
  refine lv_iconst (v := 1) hx hb dL_law_866 (by decide) ?_
  refine lv_iadd hx hb dL_law_867 ?_
  refine lv_topv (v := nI (6 * k + 1)) (nI_add _ 1) ?_
  refine va_sld hx hb hX hbl hbA G.2 (i := nI (6 * k + 1)) (vp_in_nI (by omega) (by omega)) dL_law_868 ?_
  refine lv_topv (v := xs (6 * k + 1)) (congrArg xs (nI_c (by omega))) ?_
  refine lv_aload_n hx hb dL_law_869 rfl (lv_at hl 0 rfl) ?_
  refine lv_iload hx hb dL_law_870 (lv_at hl 5 rfl) ?_
  refine lv_iconst (v := 2) hx hb dL_law_872 (by decide) ?_
  refine lv_iadd hx hb dL_law_873 ?_
  refine lv_topv (v := nI (6 * k + 2)) (nI_add _ 2) ?_
  refine va_sld hx hb hX hbl hbA G.2 (i := nI (6 * k + 2)) (vp_in_nI (by omega) (by omega)) dL_law_874 ?_
  refine lv_topv (v := xs (6 * k + 2)) (congrArg xs (nI_c (by omega))) ?_
  refine lv_aload_n hx hb dL_law_875 rfl (lv_at hl 0 rfl) ?_
  refine lv_iload hx hb dL_law_876 (lv_at hl 5 rfl) ?_
  refine lv_iconst (v := 3) hx hb dL_law_878 (by decide) ?_
  refine lv_iadd hx hb dL_law_879 ?_
  refine lv_topv (v := nI (6 * k + 3)) (nI_add _ 3) ?_
  refine va_sld hx hb hX hbl hbA G.2 (i := nI (6 * k + 3)) (vp_in_nI (by omega) (by omega)) dL_law_880 ?_
  refine lv_topv (v := xs (6 * k + 3)) (congrArg xs (nI_c (by omega))) ?_
  refine lv_aload_n hx hb dL_law_881 rfl (lv_at hl 3 rfl) ?_
  refine g_cI C0 G (g_runSH C0 G (rest := []) (kL_partnership hfl ((xs (6 * k + 1))) ((xs (6 * k + 2))) ((xs (6 * k + 3))) hW) hYH_L_partnership mm_L_183 ms_L_partnership ⟨(Nat.le_of_ble_eq_true rfl), (Nat.le_of_ble_eq_true rfl)⟩ rfl hl.1 rfl (Nat.le_of_ble_eq_true rfl) dL_law_882 ⟨(by show cells + 64 ≤ 603072; omega), (by show slots + 600 ≤ 7207018; omega)⟩) (kx_no rfl) (fun r1 u2 H locs hp3 G => ?_)
  obtain ⟨o4, hW5⟩ := hp3
  refine lv_istore (lv' := [(6, .int r1), (0, .ref b), (1, .ref (AD 0)), (2, .ref (AD 125)), (3, .ref (AD 138)), (4, .ref (AD 139)), (5, .int (nI (6 * k)))]) hx hb dL_law_885 hl (by decide) rfl (fun ls hl => ?_)
  refine lv_aload_n hx hb dL_law_887 rfl (lv_at hl 3 rfl) ?_
  refine lv_aload_n hx hb dL_law_888 rfl (lv_at hl 1 rfl) ?_
  refine lv_iload hx hb dL_law_889 (lv_at hl 6 rfl) ?_
  refine lv_iconst (v := 1) hx hb dL_law_891 (by decide) ?_
  refine lv_iadd hx hb dL_law_892 ?_
  refine lv_topv (v := nI (6 * k + 1)) (nI_add _ 1) ?_
  refine va_sld hx hb hX hbl hbA G.2 (i := nI (6 * k + 1)) (vp_in_nI (by omega) (by omega)) dL_law_893 ?_
  refine lv_topv (v := xs (6 * k + 1)) (congrArg xs (nI_c (by omega))) ?_
  refine lv_aload_n hx hb dL_law_894 rfl (lv_at hl 1 rfl) ?_
  refine lv_iload hx hb dL_law_895 (lv_at hl 6 rfl) ?_
  refine lv_iconst (v := 2) hx hb dL_law_897 (by decide) ?_
  refine lv_iadd hx hb dL_law_898 ?_
  refine lv_topv (v := nI (6 * k + 2)) (nI_add _ 2) ?_
  refine va_sld hx hb hX hbl hbA G.2 (i := nI (6 * k + 2)) (vp_in_nI (by omega) (by omega)) dL_law_899 ?_
  refine lv_topv (v := xs (6 * k + 2)) (congrArg xs (nI_c (by omega))) ?_
  refine lv_aload_n hx hb dL_law_900 rfl (lv_at hl 1 rfl) ?_
  refine lv_iload hx hb dL_law_901 (lv_at hl 6 rfl) ?_
  refine lv_iconst (v := 3) hx hb dL_law_903 (by decide) ?_
  refine lv_iadd hx hb dL_law_904 ?_
  refine lv_topv (v := nI (6 * k + 3)) (nI_add _ 3) ?_
  refine va_sld hx hb hX hbl hbA G.2 (i := nI (6 * k + 3)) (vp_in_nI (by omega) (by omega)) dL_law_905 ?_
  refine lv_topv (v := xs (6 * k + 3)) (congrArg xs (nI_c (by omega))) ?_
  obtain ⟨fs9, he9⟩ := m_WJ hW5
  refine g_cI C0 G (g_runV C0 G (rest := []) (kR_partnership hfl ((xs (6 * k + 1))) ((xs (6 * k + 2))) ((xs (6 * k + 3))) hW5) he9 rfl hY_X9_partnership mm_L_185 mi_X9_partnership ml_X9_partnership ⟨(Nat.le_of_ble_eq_true rfl), (Nat.le_of_ble_eq_true rfl)⟩ rfl hl.1 rfl (Nat.le_of_ble_eq_true rfl) dL_law_906 ⟨(by show cells + 64 ≤ 603072; omega), (by show slots + 600 ≤ 7207018; omega)⟩) (kx_no rfl) (fun r6 u7 H locs hp8 G => ?_)
  obtain ⟨tr6, hW9⟩ := hp8
  refine lv_istore (lv' := [(7, .int r6), (6, .int r1), (0, .ref b), (1, .ref (AD 0)), (2, .ref (AD 125)), (3, .ref (AD 138)), (4, .ref (AD 139)), (5, .int (nI (6 * k)))]) hx hb dL_law_909 hl (by decide) rfl (fun ls hl => ?_)
  refine lv_goto (tgt := 1332) hx hb dL_law_911 (by decide) ?_
  exact K _ _ _ _ _ _ _ _ hW9 G (lv_sub hl [2, 3, 4, 5, 6, 7] rfl) (by show cells + 64 ≤ cells + 64; omega) (by show slots + 600 ≤ slots + 600; omega)
set_option maxRecDepth 100000 in
theorem law_case_20 {p : Program} {e : Env} {s : State} {m9 : MethodId} {below : List Frame} {meth : Method} {c : Code} {l : Launch} {b L k : Nat} {xs : Nat → Int32} {D : va_G} {cy : Nat → ClassId} {AD : Nat → Nat} {q q2 : Nat → Option Nat} {th : Int32} {o : Nat → Int64} {f : Hf} {H : Heap} {locs : List Loc} {ls : Array Slot} {cells slots : Nat} (hfl : l.stackTraces = false) (C9 : lw_At p s m9 meth c b L xs) (C0 : hC p l s m9 meth c code 9 #[Value.ref b] RL D (hTy cy) (hA f00 s.heap.size)) (hL : L ≤ 3072) (hk6 : 6 * k + 6 ≤ L) (hcs : cells ≤ 200 + 64 * k ∧ slots ≤ 157000 + 600 * k) (hW : WJ AD cy q q2 k th o f) (G : hG D (hA f00 s.heap.size) f s H locs) (hl : lv_has ls 9 [(0, .ref b), (1, .ref (AD 0)), (2, .ref (AD 125)), (3, .ref (AD 138)), (4, .ref (AD 139)), (5, .int (nI (6 * k)))]) (K : KON p l e s m9 b below meth c D cy AD q q2 k cells slots) : W p l e room_1 s m9 #[Value.ref b] below meth c H locs cells slots (lw_Z below #[Value.ref b] s) (F0 m9 1023 ls []) := by
  obtain ⟨hx, hb, hr, hml, hown, hts, hX, hbl, hlocks, hgv⟩ := id C9
  have hbA : ¬ hA f00 s.heap.size b := fun q => by
    rcases q with q | q
    · exact q rfl
    · omega
  refine lv_aload_n hx hb dL_law_1023 rfl (lv_at hl 1 rfl) ?_
  refine lv_aload_n hx hb dL_law_1024 rfl (lv_at hl 0 rfl) ?_
  refine lv_iload hx hb dL_law_1025 (lv_at hl 5 rfl) ?_
  refine lv_iconst (v := 1) hx hb dL_law_1027 (by decide) ?_
  refine lv_iadd hx hb dL_law_1028 ?_
  refine lv_topv (v := nI (6 * k + 1)) (nI_add _ 1) ?_
  refine va_sld hx hb hX hbl hbA G.2 (i := nI (6 * k + 1)) (vp_in_nI (by omega) (by omega)) dL_law_1029 ?_
  refine lv_topv (v := xs (6 * k + 1)) (congrArg xs (nI_c (by omega))) ?_
  refine lv_aload hx hb dL_law_1030 (lv_at hl 4 rfl) ?_
  refine g_cI C0 G (g_runSH C0 G (rest := []) (kL_runRate hfl ((xs (6 * k + 1))) hW) hYH_L_runRate mm_L_197 ms_L_runRate ⟨(Nat.le_of_ble_eq_true rfl), (Nat.le_of_ble_eq_true rfl)⟩ rfl hl.1 rfl (Nat.le_of_ble_eq_true rfl) dL_law_1032 ⟨(by show cells + 64 ≤ 603072; omega), (by show slots + 600 ≤ 7207018; omega)⟩) (kx_no rfl) (fun r1 u2 H locs hp3 G => ?_)
  obtain ⟨o4, hW5⟩ := hp3
  refine lv_istore (lv' := [(6, .int r1), (0, .ref b), (1, .ref (AD 0)), (2, .ref (AD 125)), (3, .ref (AD 138)), (4, .ref (AD 139)), (5, .int (nI (6 * k)))]) hx hb dL_law_1035 hl (by decide) rfl (fun ls hl => ?_)
  refine lv_aload_n hx hb dL_law_1037 rfl (lv_at hl 3 rfl) ?_
  refine lv_aload_n hx hb dL_law_1038 rfl (lv_at hl 1 rfl) ?_
  refine lv_iload hx hb dL_law_1039 (lv_at hl 6 rfl) ?_
  refine lv_iconst (v := 1) hx hb dL_law_1041 (by decide) ?_
  refine lv_iadd hx hb dL_law_1042 ?_
  refine lv_topv (v := nI (6 * k + 1)) (nI_add _ 1) ?_
  refine va_sld hx hb hX hbl hbA G.2 (i := nI (6 * k + 1)) (vp_in_nI (by omega) (by omega)) dL_law_1043 ?_
  refine lv_topv (v := xs (6 * k + 1)) (congrArg xs (nI_c (by omega))) ?_
  obtain ⟨fs9, he9⟩ := m_WJ hW5
  refine g_cD C0 G (g_runV C0 G (rest := []) (kR_runRate hfl ((xs (6 * k + 1))) hW5) he9 rfl hY_X9_runRate mm_L_200 mi_X9_runRate ml_X9_runRate ⟨(Nat.le_of_ble_eq_true rfl), (Nat.le_of_ble_eq_true rfl)⟩ rfl hl.1 rfl (Nat.le_of_ble_eq_true rfl) dL_law_1044 ⟨(by show cells + 64 ≤ 603072; omega), (by show slots + 600 ≤ 7207018; omega)⟩) (kx_no rfl) (fun r6 u7 H locs hp8 G => ?_)
  obtain ⟨tr6, hW9⟩ := hp8
  refine lv_dstore (lv' := [(7, .double r6), (6, .int r1), (0, .ref b), (1, .ref (AD 0)), (2, .ref (AD 125)), (3, .ref (AD 138)), (4, .ref (AD 139)), (5, .int (nI (6 * k)))]) hx hb dL_law_1047 hl (by decide) rfl (fun ls hl => ?_)
  refine lv_goto (tgt := 1332) hx hb dL_law_1049 (by decide) ?_
  exact K _ _ _ _ _ _ _ _ hW9 G (lv_sub hl [2, 3, 4, 5, 6, 7] rfl) (by show cells + 64 ≤ cells + 64; omega) (by show slots + 600 ≤ slots + 600; omega)
set_option maxRecDepth 100000 in
theorem law_case_24 {p : Program} {e : Env} {s : State} {m9 : MethodId} {below : List Frame} {meth : Method} {c : Code} {l : Launch} {b L k : Nat} {xs : Nat → Int32} {D : va_G} {cy : Nat → ClassId} {AD : Nat → Nat} {q q2 : Nat → Option Nat} {th : Int32} {o : Nat → Int64} {f : Hf} {H : Heap} {locs : List Loc} {ls : Array Slot} {cells slots : Nat} (hfl : l.stackTraces = false) (C9 : lw_At p s m9 meth c b L xs) (C0 : hC p l s m9 meth c code 9 #[Value.ref b] RL D (hTy cy) (hA f00 s.heap.size)) (hL : L ≤ 3072) (hk6 : 6 * k + 6 ≤ L) (hcs : cells ≤ 200 + 64 * k ∧ slots ≤ 157000 + 600 * k) (hW : WJ AD cy q q2 k th o f) (G : hG D (hA f00 s.heap.size) f s H locs) (hl : lv_has ls 9 [(0, .ref b), (1, .ref (AD 0)), (2, .ref (AD 125)), (3, .ref (AD 138)), (4, .ref (AD 139)), (5, .int (nI (6 * k)))]) (K : KON p l e s m9 b below meth c D cy AD q q2 k cells slots) : W p l e room_1 s m9 #[Value.ref b] below meth c H locs cells slots (lw_Z below #[Value.ref b] s) (F0 m9 1201 ls []) := by
  obtain ⟨hx, hb, hr, hml, hown, hts, hX, hbl, hlocks, hgv⟩ := id C9
  have hbA : ¬ hA f00 s.heap.size b := fun q => by
    rcases q with q | q
    · exact q rfl
    · omega
  refine lv_aload_n hx hb dL_law_1201 rfl (lv_at hl 1 rfl) ?_
  refine lv_aload_n hx hb dL_law_1202 rfl (lv_at hl 0 rfl) ?_
  refine lv_iload hx hb dL_law_1203 (lv_at hl 5 rfl) ?_
  refine lv_iconst (v := 1) hx hb dL_law_1205 (by decide) ?_
  refine lv_iadd hx hb dL_law_1206 ?_
  refine lv_topv (v := nI (6 * k + 1)) (nI_add _ 1) ?_
  refine va_sld hx hb hX hbl hbA G.2 (i := nI (6 * k + 1)) (vp_in_nI (by omega) (by omega)) dL_law_1207 ?_
  refine lv_topv (v := xs (6 * k + 1)) (congrArg xs (nI_c (by omega))) ?_
  refine lv_aload_n hx hb dL_law_1208 rfl (lv_at hl 0 rfl) ?_
  refine lv_iload hx hb dL_law_1209 (lv_at hl 5 rfl) ?_
  refine lv_iconst (v := 2) hx hb dL_law_1211 (by decide) ?_
  refine lv_iadd hx hb dL_law_1212 ?_
  refine lv_topv (v := nI (6 * k + 2)) (nI_add _ 2) ?_
  refine va_sld hx hb hX hbl hbA G.2 (i := nI (6 * k + 2)) (vp_in_nI (by omega) (by omega)) dL_law_1213 ?_
  refine lv_topv (v := xs (6 * k + 2)) (congrArg xs (nI_c (by omega))) ?_
  refine lv_aload hx hb dL_law_1214 (lv_at hl 4 rfl) ?_
  refine g_cI C0 G (g_runSH C0 G (rest := []) (kL_storedOvers hfl ((xs (6 * k + 1))) ((xs (6 * k + 2))) hW) hYH_L_storedOvers mm_L_211 ms_L_storedOvers ⟨(Nat.le_of_ble_eq_true rfl), (Nat.le_of_ble_eq_true rfl)⟩ rfl hl.1 rfl (Nat.le_of_ble_eq_true rfl) dL_law_1216 ⟨(by show cells + 64 ≤ 603072; omega), (by show slots + 600 ≤ 7207018; omega)⟩) (kx_no rfl) (fun r1 u2 H locs hp3 G => ?_)
  obtain ⟨o4, hW5⟩ := hp3
  refine lv_istore (lv' := [(6, .int r1), (0, .ref b), (1, .ref (AD 0)), (2, .ref (AD 125)), (3, .ref (AD 138)), (4, .ref (AD 139)), (5, .int (nI (6 * k)))]) hx hb dL_law_1219 hl (by decide) rfl (fun ls hl => ?_)
  refine lv_aload_n hx hb dL_law_1221 rfl (lv_at hl 3 rfl) ?_
  refine lv_aload_n hx hb dL_law_1222 rfl (lv_at hl 1 rfl) ?_
  refine lv_iload hx hb dL_law_1223 (lv_at hl 6 rfl) ?_
  refine lv_iconst (v := 1) hx hb dL_law_1225 (by decide) ?_
  refine lv_iadd hx hb dL_law_1226 ?_
  refine lv_topv (v := nI (6 * k + 1)) (nI_add _ 1) ?_
  refine va_sld hx hb hX hbl hbA G.2 (i := nI (6 * k + 1)) (vp_in_nI (by omega) (by omega)) dL_law_1227 ?_
  refine lv_topv (v := xs (6 * k + 1)) (congrArg xs (nI_c (by omega))) ?_
  refine lv_aload_n hx hb dL_law_1228 rfl (lv_at hl 1 rfl) ?_
  refine lv_iload hx hb dL_law_1229 (lv_at hl 6 rfl) ?_
  refine lv_iconst (v := 2) hx hb dL_law_1231 (by decide) ?_
  refine lv_iadd hx hb dL_law_1232 ?_
  refine lv_topv (v := nI (6 * k + 2)) (nI_add _ 2) ?_
  refine va_sld hx hb hX hbl hbA G.2 (i := nI (6 * k + 2)) (vp_in_nI (by omega) (by omega)) dL_law_1233 ?_
  refine lv_topv (v := xs (6 * k + 2)) (congrArg xs (nI_c (by omega))) ?_
  obtain ⟨fs9, he9⟩ := m_WJ hW5
  refine g_cF C0 G (g_runV C0 G (rest := []) (kR_storedOvers hfl ((xs (6 * k + 1))) ((xs (6 * k + 2))) hW5) he9 rfl hY_X9_storedOvers mm_L_213 mi_X9_storedOvers ml_X9_storedOvers ⟨(Nat.le_of_ble_eq_true rfl), (Nat.le_of_ble_eq_true rfl)⟩ rfl hl.1 rfl (Nat.le_of_ble_eq_true rfl) dL_law_1234 ⟨(by show cells + 64 ≤ 603072; omega), (by show slots + 600 ≤ 7207018; omega)⟩) (kx_no rfl) (fun r6 u7 H locs hp8 G => ?_)
  obtain ⟨tr6, hW9⟩ := hp8
  refine lv_fstore (lv' := [(7, .float r6), (6, .int r1), (0, .ref b), (1, .ref (AD 0)), (2, .ref (AD 125)), (3, .ref (AD 138)), (4, .ref (AD 139)), (5, .int (nI (6 * k)))]) hx hb dL_law_1237 hl (by decide) rfl (fun ls hl => ?_)
  refine lv_goto (tgt := 1332) hx hb dL_law_1239 (by decide) ?_
  exact K _ _ _ _ _ _ _ _ hW9 G (lv_sub hl [2, 3, 4, 5, 6, 7] rfl) (by show cells + 64 ≤ cells + 64; omega) (by show slots + 600 ≤ slots + 600; omega)
set_option maxRecDepth 100000 in
theorem law_case_28 {p : Program} {e : Env} {s : State} {m9 : MethodId} {below : List Frame} {meth : Method} {c : Code} {l : Launch} {b L k : Nat} {xs : Nat → Int32} {D : va_G} {cy : Nat → ClassId} {AD : Nat → Nat} {q q2 : Nat → Option Nat} {th : Int32} {o : Nat → Int64} {f : Hf} {H : Heap} {locs : List Loc} {ls : Array Slot} {cells slots : Nat} (hfl : l.stackTraces = false) (C9 : lw_At p s m9 meth c b L xs) (C0 : hC p l s m9 meth c code 9 #[Value.ref b] RL D (hTy cy) (hA f00 s.heap.size)) (hL : L ≤ 3072) (hk6 : 6 * k + 6 ≤ L) (hcs : cells ≤ 200 + 64 * k ∧ slots ≤ 157000 + 600 * k) (hW : WJ AD cy q q2 k th o f) (G : hG D (hA f00 s.heap.size) f s H locs) (hl : lv_has ls 9 [(0, .ref b), (1, .ref (AD 0)), (2, .ref (AD 125)), (3, .ref (AD 138)), (4, .ref (AD 139)), (5, .int (nI (6 * k)))]) (K : KON p l e s m9 b below meth c D cy AD q q2 k cells slots) : W p l e room_1 s m9 #[Value.ref b] below meth c H locs cells slots (lw_Z below #[Value.ref b] s) (F0 m9 1284 ls []) := by
  obtain ⟨hx, hb, hr, hml, hown, hts, hX, hbl, hlocks, hgv⟩ := id C9
  have hbA : ¬ hA f00 s.heap.size b := fun q => by
    rcases q with q | q
    · exact q rfl
    · omega
  refine lv_aload_n hx hb dL_law_1284 rfl (lv_at hl 1 rfl) ?_
  refine lv_aload_n hx hb dL_law_1285 rfl (lv_at hl 3 rfl) ?_
  refine g_cI C0 G (g_runSH C0 G (rest := []) (kL_isReplayed hfl (by omega) hW) hYH_L_isReplayed mm_L_225 ms_L_isReplayed ⟨(Nat.le_of_ble_eq_true rfl), (Nat.le_of_ble_eq_true rfl)⟩ rfl hl.1 rfl (Nat.le_of_ble_eq_true rfl) dL_law_1286 ⟨(by show cells + 64 ≤ 603072; omega), (by show slots + 600 ≤ 7207018; omega)⟩) (kx_no rfl) (fun r1 u2 H locs hp3 G => ?_)
  refine lv_istore (lv' := [(6, .int r1), (0, .ref b), (1, .ref (AD 0)), (2, .ref (AD 125)), (3, .ref (AD 138)), (4, .ref (AD 139)), (5, .int (nI (6 * k)))]) hx hb dL_law_1289 hl (by decide) rfl (fun ls hl => ?_)
  refine lv_aload_n hx hb dL_law_1291 rfl (lv_at hl 3 rfl) ?_
  obtain ⟨fs9, he9⟩ := m_MIDN hp3
  refine g_cI C0 G (g_runV C0 G (rest := []) (kR_isReplayed hfl hp3) he9 rfl hY_X9_isReplayed mm_L_227 mi_X9_isReplayed ml_X9_isReplayed ⟨(Nat.le_of_ble_eq_true rfl), (Nat.le_of_ble_eq_true rfl)⟩ rfl hl.1 rfl (Nat.le_of_ble_eq_true rfl) dL_law_1292 ⟨(by show cells + 64 ≤ 603072; omega), (by show slots + 600 ≤ 7207018; omega)⟩) (kx_no rfl) (fun r4 u5 H locs hp6 G => ?_)
  obtain ⟨tr4, or4, hW7⟩ := hp6
  refine lv_istore (lv' := [(7, .int r4), (6, .int r1), (0, .ref b), (1, .ref (AD 0)), (2, .ref (AD 125)), (3, .ref (AD 138)), (4, .ref (AD 139)), (5, .int (nI (6 * k)))]) hx hb dL_law_1295 hl (by decide) rfl (fun ls hl => ?_)
  refine lv_goto (tgt := 1332) hx hb dL_law_1297 (by decide) ?_
  exact K _ _ _ _ _ _ _ _ hW7 G (lv_sub hl [2, 3, 4, 5, 6, 7] rfl) (by show cells + 64 ≤ cells + 64; omega) (by show slots + 600 ≤ slots + 600; omega)
