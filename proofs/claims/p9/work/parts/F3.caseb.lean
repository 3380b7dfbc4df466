set_option maxRecDepth 100000 in
theorem law_case_1 {p : Program} {e : Env} {s : State} {m9 : MethodId} {below : List Frame} {meth : Method} {c : Code} {l : Launch} {b L k : Nat} {xs : Nat → Int32} {D : va_G} {cy : Nat → ClassId} {AD : Nat → Nat} {q q2 : Nat → Option Nat} {th : Int32} {o : Nat → Int64} {f : Hf} {H : Heap} {locs : List Loc} {ls : Array Slot} {cells slots : Nat} (hfl : l.stackTraces = false) (C9 : lw_At p s m9 meth c b L xs) (C0 : hC p l s m9 meth c code 9 #[Value.ref b] RL D (hTy cy) (hA f00 s.heap.size)) (hL : L ≤ 3072) (hk6 : 6 * k + 6 ≤ L) (hcs : cells ≤ 200 + 64 * k ∧ slots ≤ 157000 + 600 * k) (hW : WJ AD cy q q2 k th o f) (G : hG D (hA f00 s.heap.size) f s H locs) (hl : lv_has ls 9 [(0, .ref b), (1, .ref (AD 0)), (2, .ref (AD 125)), (3, .ref (AD 138)), (4, .ref (AD 139)), (5, .int (nI (6 * k)))]) (K : KON p l e s m9 b below meth c D cy AD q q2 k cells slots) : W p l e room_1 s m9 #[Value.ref b] below meth c H locs cells slots (lw_Z below #[Value.ref b] s) (F0 m9 236 ls []) := by
  obtain ⟨hx, hb, hr, hml, hown, hts, hX, hbl, hlocks, hgv⟩ := id C9
  have hbA : ¬ hA f00 s.heap.size b := fun q => by
    rcases q with q | q
    · exact q rfl
    · omega
  refine lv_aload_n hx hb dL_law_236 rfl (lv_at hl 1 rfl) ?_
  refine lv_aload_n hx hb dL_law_237 rfl (lv_at hl 0 rfl) ?_
  refine lv_iload hx hb dL_law_238 (lv_at hl 5 rfl) ?_
  refine lv_iconst (v := 1) hx hb dL_law_240 (by decide) ?_
  refine lv_iadd hx hb dL_law_241 ?_
  refine lv_topv (v := nI (6 * k + 1)) (nI_add _ 1) ?_
  refine va_sld hx hb hX hbl hbA G.2 (i := nI (6 * k + 1)) (vp_in_nI (by omega) (by omega)) dL_law_242 ?_
  refine lv_topv (v := xs (6 * k + 1)) (congrArg xs (nI_c (by omega))) ?_
  refine lv_aload_n hx hb dL_law_243 rfl (lv_at hl 3 rfl) ?_
  refine g_cI C0 G (g_runSH C0 G (rest := []) (kL_bowl hfl ((xs (6 * k + 1))) (by omega) hW) hYH_L_bowl mm_L_128 ms_L_bowl ⟨(Nat.le_of_ble_eq_true rfl), (Nat.le_of_ble_eq_true rfl)⟩ rfl hl.1 rfl (Nat.le_of_ble_eq_true rfl) dL_law_244 ⟨(by show cells + 64 ≤ 603072; omega), (by show slots + 600 ≤ 7207018; omega)⟩) (kx_no rfl) (fun r1 u2 H locs hp3 G => ?_)
  refine lv_istore (lv' := [(6, .int r1), (0, .ref b), (1, .ref (AD 0)), (2, .ref (AD 125)), (3, .ref (AD 138)), (4, .ref (AD 139)), (5, .int (nI (6 * k)))]) hx hb dL_law_247 hl (by decide) rfl (fun ls hl => ?_)
  refine lv_aload_n hx hb dL_law_249 rfl (lv_at hl 3 rfl) ?_
  refine lv_aload_n hx hb dL_law_250 rfl (lv_at hl 1 rfl) ?_
  refine lv_iload hx hb dL_law_251 (lv_at hl 6 rfl) ?_
  refine lv_iconst (v := 1) hx hb dL_law_253 (by decide) ?_
  refine lv_iadd hx hb dL_law_254 ?_
  refine lv_topv (v := nI (6 * k + 1)) (nI_add _ 1) ?_
  refine va_sld hx hb hX hbl hbA G.2 (i := nI (6 * k + 1)) (vp_in_nI (by omega) (by omega)) dL_law_255 ?_
  refine lv_topv (v := xs (6 * k + 1)) (congrArg xs (nI_c (by omega))) ?_
  obtain ⟨fs9, he9⟩ := m_MID hp3
  refine g_cI C0 G (g_runV C0 G (rest := []) (kR_bowl hfl ((xs (6 * k + 1))) (by omega) hp3) he9 rfl hY_X9_bowl mm_L_131 mi_X9_bowl ml_X9_bowl ⟨(Nat.le_of_ble_eq_true rfl), (Nat.le_of_ble_eq_true rfl)⟩ rfl hl.1 rfl (Nat.le_of_ble_eq_true rfl) dL_law_256 ⟨(by show cells + 64 ≤ 603072; omega), (by show slots + 600 ≤ 7207018; omega)⟩) (kx_no rfl) (fun r4 u5 H locs hp6 G => ?_)
  obtain ⟨or4, hW7, her4⟩ := hp6
  refine lv_istore (lv' := [(7, .int r4), (6, .int r1), (0, .ref b), (1, .ref (AD 0)), (2, .ref (AD 125)), (3, .ref (AD 138)), (4, .ref (AD 139)), (5, .int (nI (6 * k)))]) hx hb dL_law_259 hl (by decide) rfl (fun ls hl => ?_)
  refine lv_goto (tgt := 1332) hx hb dL_law_261 (by decide) ?_
  exact K _ _ _ _ _ _ _ _ hW7 G (lv_sub hl [2, 3, 4, 5, 6, 7] rfl) (by show cells + 64 ≤ cells + 64; omega) (by show slots + 600 ≤ slots + 600; omega)
set_option maxRecDepth 100000 in
theorem law_case_5 {p : Program} {e : Env} {s : State} {m9 : MethodId} {below : List Frame} {meth : Method} {c : Code} {l : Launch} {b L k : Nat} {xs : Nat → Int32} {D : va_G} {cy : Nat → ClassId} {AD : Nat → Nat} {q q2 : Nat → Option Nat} {th : Int32} {o : Nat → Int64} {f : Hf} {H : Heap} {locs : List Loc} {ls : Array Slot} {cells slots : Nat} (hfl : l.stackTraces = false) (C9 : lw_At p s m9 meth c b L xs) (C0 : hC p l s m9 meth c code 9 #[Value.ref b] RL D (hTy cy) (hA f00 s.heap.size)) (hL : L ≤ 3072) (hk6 : 6 * k + 6 ≤ L) (hcs : cells ≤ 200 + 64 * k ∧ slots ≤ 157000 + 600 * k) (hW : WJ AD cy q q2 k th o f) (G : hG D (hA f00 s.heap.size) f s H locs) (hl : lv_has ls 9 [(0, .ref b), (1, .ref (AD 0)), (2, .ref (AD 125)), (3, .ref (AD 138)), (4, .ref (AD 139)), (5, .int (nI (6 * k)))]) (K : KON p l e s m9 b below meth c D cy AD q q2 k cells slots) : W p l e room_1 s m9 #[Value.ref b] below meth c H locs cells slots (lw_Z below #[Value.ref b] s) (F0 m9 512 ls []) := by
  obtain ⟨hx, hb, hr, hml, hown, hts, hX, hbl, hlocks, hgv⟩ := id C9
  have hbA : ¬ hA f00 s.heap.size b := fun q => by
    rcases q with q | q
    · exact q rfl
    · omega
  refine lv_aload_n hx hb dL_law_512 rfl (lv_at hl 1 rfl) ?_
  refine lv_aload_n hx hb dL_law_513 rfl (lv_at hl 0 rfl) ?_
  refine lv_iload hx hb dL_law_514 (lv_at hl 5 rfl) ?_
  refine lv_iconst (v := 1) hx hb dL_law_516 (by decide) ?_
  refine lv_iadd hx hb dL_law_517 ?_
  refine lv_topv (v := nI (6 * k + 1)) (nI_add _ 1) ?_
  refine va_sld hx hb hX hbl hbA G.2 (i := nI (6 * k + 1)) (vp_in_nI (by omega) (by omega)) dL_law_518 ?_
  refine lv_topv (v := xs (6 * k + 1)) (congrArg xs (nI_c (by omega))) ?_
  refine lv_aload_n hx hb dL_law_519 rfl (lv_at hl 3 rfl) ?_
  refine g_cI C0 G (g_runSH C0 G (rest := []) (kL_choose hfl ((xs (6 * k + 1))) (by omega) hW) hYH_L_choose mm_L_144 ms_L_choose ⟨(Nat.le_of_ble_eq_true rfl), (Nat.le_of_ble_eq_true rfl)⟩ rfl hl.1 rfl (Nat.le_of_ble_eq_true rfl) dL_law_520 ⟨(by show cells + 64 ≤ 603072; omega), (by show slots + 600 ≤ 7207018; omega)⟩) (kx_no rfl) (fun r1 u2 H locs hp3 G => ?_)
  refine lv_istore (lv' := [(6, .int r1), (0, .ref b), (1, .ref (AD 0)), (2, .ref (AD 125)), (3, .ref (AD 138)), (4, .ref (AD 139)), (5, .int (nI (6 * k)))]) hx hb dL_law_523 hl (by decide) rfl (fun ls hl => ?_)
  refine lv_aload_n hx hb dL_law_525 rfl (lv_at hl 3 rfl) ?_
  refine lv_aload_n hx hb dL_law_526 rfl (lv_at hl 1 rfl) ?_
  refine lv_iload hx hb dL_law_527 (lv_at hl 6 rfl) ?_
  refine lv_iconst (v := 1) hx hb dL_law_529 (by decide) ?_
  refine lv_iadd hx hb dL_law_530 ?_
  refine lv_topv (v := nI (6 * k + 1)) (nI_add _ 1) ?_
  refine va_sld hx hb hX hbl hbA G.2 (i := nI (6 * k + 1)) (vp_in_nI (by omega) (by omega)) dL_law_531 ?_
  refine lv_topv (v := xs (6 * k + 1)) (congrArg xs (nI_c (by omega))) ?_
  obtain ⟨fs9, he9⟩ := m_MID hp3
  refine g_cI C0 G (g_runV C0 G (rest := []) (kR_choose hfl ((xs (6 * k + 1))) (by omega) hp3) he9 rfl hY_X9_choose mm_L_146 mi_X9_choose ml_X9_choose ⟨(Nat.le_of_ble_eq_true rfl), (Nat.le_of_ble_eq_true rfl)⟩ rfl hl.1 rfl (Nat.le_of_ble_eq_true rfl) dL_law_532 ⟨(by show cells + 64 ≤ 603072; omega), (by show slots + 600 ≤ 7207018; omega)⟩) (kx_no rfl) (fun r4 u5 H locs hp6 G => ?_)
  obtain ⟨or4, hW7, her4⟩ := hp6
  refine lv_istore (lv' := [(7, .int r4), (6, .int r1), (0, .ref b), (1, .ref (AD 0)), (2, .ref (AD 125)), (3, .ref (AD 138)), (4, .ref (AD 139)), (5, .int (nI (6 * k)))]) hx hb dL_law_535 hl (by decide) rfl (fun ls hl => ?_)
  refine lv_goto (tgt := 1332) hx hb dL_law_537 (by decide) ?_
  exact K _ _ _ _ _ _ _ _ hW7 G (lv_sub hl [2, 3, 4, 5, 6, 7] rfl) (by show cells + 64 ≤ cells + 64; omega) (by show slots + 600 ≤ slots + 600; omega)
set_option maxRecDepth 100000 in
theorem law_case_9 {p : Program} {e : Env} {s : State} {m9 : MethodId} {below : List Frame} {meth : Method} {c : Code} {l : Launch} {b L k : Nat} {xs : Nat → Int32} {D : va_G} {cy : Nat → ClassId} {AD : Nat → Nat} {q q2 : Nat → Option Nat} {th : Int32} {o : Nat → Int64} {f : Hf} {H : Heap} {locs : List Loc} {ls : Array Slot} {cells slots : Nat} (hfl : l.stackTraces = false) (C9 : lw_At p s m9 meth c b L xs) (C0 : hC p l s m9 meth c code 9 #[Value.ref b] RL D (hTy cy) (hA f00 s.heap.size)) (hL : L ≤ 3072) (hk6 : 6 * k + 6 ≤ L) (hcs : cells ≤ 200 + 64 * k ∧ slots ≤ 157000 + 600 * k) (hW : WJ AD cy q q2 k th o f) (G : hG D (hA f00 s.heap.size) f s H locs) (hl : lv_has ls 9 [(0, .ref b), (1, .ref (AD 0)), (2, .ref (AD 125)), (3, .ref (AD 138)), (4, .ref (AD 139)), (5, .int (nI (6 * k)))]) (K : KON p l e s m9 b below meth c D cy AD q q2 k cells slots) : W p l e room_1 s m9 #[Value.ref b] below meth c H locs cells slots (lw_Z below #[Value.ref b] s) (F0 m9 642 ls []) := by
  obtain ⟨hx, hb, hr, hml, hown, hts, hX, hbl, hlocks, hgv⟩ := id C9
  have hbA : ¬ hA f00 s.heap.size b := fun q => by
    rcases q with q | q
    · exact q rfl
    · omega
  refine lv_aload_n hx hb dL_law_642 rfl (lv_at hl 1 rfl) ?_
  refine lv_aload_n hx hb dL_law_643 rfl (lv_at hl 3 rfl) ?_
  refine g_cI C0 G (g_runSH C0 G (rest := []) (kL_play hfl (by omega) hW) hYH_L_play mm_L_161 ms_L_play ⟨(Nat.le_of_ble_eq_true rfl), (Nat.le_of_ble_eq_true rfl)⟩ rfl hl.1 rfl (Nat.le_of_ble_eq_true rfl) dL_law_644 ⟨(by show cells + 64 ≤ 603072; omega), (by show slots + 600 ≤ 7207018; omega)⟩) (kx_no rfl) (fun r1 u2 H locs hp3 G => ?_)
  refine lv_istore (lv' := [(6, .int r1), (0, .ref b), (1, .ref (AD 0)), (2, .ref (AD 125)), (3, .ref (AD 138)), (4, .ref (AD 139)), (5, .int (nI (6 * k)))]) hx hb dL_law_647 hl (by decide) rfl (fun ls hl => ?_)
  refine lv_aload_n hx hb dL_law_649 rfl (lv_at hl 3 rfl) ?_
  obtain ⟨fs9, he9⟩ := m_MIDPL hp3
  refine g_cI C0 G (g_runV C0 G (rest := []) (kR_play hfl (by omega) hp3) he9 rfl hY_X9_play mm_L_163 mi_X9_play ml_X9_play ⟨(Nat.le_of_ble_eq_true rfl), (Nat.le_of_ble_eq_true rfl)⟩ rfl hl.1 rfl (Nat.le_of_ble_eq_true rfl) dL_law_650 ⟨(by show cells + 64 ≤ 603072; omega), (by show slots + 600 ≤ 7207018; omega)⟩) (kx_no rfl) (fun r4 u5 H locs hp6 G => ?_)
  obtain ⟨or4, hW7, her4⟩ := hp6
  refine lv_istore (lv' := [(7, .int r4), (6, .int r1), (0, .ref b), (1, .ref (AD 0)), (2, .ref (AD 125)), (3, .ref (AD 138)), (4, .ref (AD 139)), (5, .int (nI (6 * k)))]) hx hb dL_law_653 hl (by decide) rfl (fun ls hl => ?_)
  refine lv_goto (tgt := 1332) hx hb dL_law_655 (by decide) ?_
  exact K _ _ _ _ _ _ _ _ hW7 G (lv_sub hl [2, 3, 4, 5, 6, 7] rfl) (by show cells + 64 ≤ cells + 64; omega) (by show slots + 600 ≤ slots + 600; omega)
set_option maxRecDepth 100000 in
theorem law_case_13 {p : Program} {e : Env} {s : State} {m9 : MethodId} {below : List Frame} {meth : Method} {c : Code} {l : Launch} {b L k : Nat} {xs : Nat → Int32} {D : va_G} {cy : Nat → ClassId} {AD : Nat → Nat} {q q2 : Nat → Option Nat} {th : Int32} {o : Nat → Int64} {f : Hf} {H : Heap} {locs : List Loc} {ls : Array Slot} {cells slots : Nat} (hfl : l.stackTraces = false) (C9 : lw_At p s m9 meth c b L xs) (C0 : hC p l s m9 meth c code 9 #[Value.ref b] RL D (hTy cy) (hA f00 s.heap.size)) (hL : L ≤ 3072) (hk6 : 6 * k + 6 ≤ L) (hcs : cells ≤ 200 + 64 * k ∧ slots ≤ 157000 + 600 * k) (hW : WJ AD cy q q2 k th o f) (G : hG D (hA f00 s.heap.size) f s H locs) (hl : lv_has ls 9 [(0, .ref b), (1, .ref (AD 0)), (2, .ref (AD 125)), (3, .ref (AD 138)), (4, .ref (AD 139)), (5, .int (nI (6 * k)))]) (K : KON p l e s m9 b below meth c D cy AD q q2 k cells slots) : W p l e room_1 s m9 #[Value.ref b] below meth c H locs cells slots (lw_Z below #[Value.ref b] s) (F0 m9 718 ls []) := by
  obtain ⟨hx, hb, hr, hml, hown, hts, hX, hbl, hlocks, hgv⟩ := id C9
  have hbA : ¬ hA f00 s.heap.size b := fun q => by
    rcases q with q | q
    · exact q rfl
    · omega
  refine lv_aload_n hx hb dL_law_718 rfl (lv_at hl 1 rfl) ?_
  refine lv_aload_n hx hb dL_law_719 rfl (lv_at hl 0 rfl) ?_
  refine lv_iload hx hb dL_law_720 (lv_at hl 5 rfl) ?_
  refine lv_iconst (v := 1) hx hb dL_law_722 (by decide) ?_
  refine lv_iadd hx hb dL_law_723 ?_
  refine lv_topv (v := nI (6 * k + 1)) (nI_add _ 1) ?_
  refine va_sld hx hb hX hbl hbA G.2 (i := nI (6 * k + 1)) (vp_in_nI (by omega) (by omega)) dL_law_724 ?_
  refine lv_topv (v := xs (6 * k + 1)) (congrArg xs (nI_c (by omega))) ?_
  refine lv_aload_n hx hb dL_law_725 rfl (lv_at hl 0 rfl) ?_
  refine lv_iload hx hb dL_law_726 (lv_at hl 5 rfl) ?_
  refine lv_iconst (v := 2) hx hb dL_law_728 (by decide) ?_
  refine lv_iadd hx hb dL_law_729 ?_
  refine lv_topv (v := nI (6 * k + 2)) (nI_add _ 2) ?_
  refine va_sld hx hb hX hbl hbA G.2 (i := nI (6 * k + 2)) (vp_in_nI (by omega) (by omega)) dL_law_730 ?_
  refine lv_topv (v := xs (6 * k + 2)) (congrArg xs (nI_c (by omega))) ?_
  refine lv_aload_n hx hb dL_law_731 rfl (lv_at hl 3 rfl) ?_
  refine g_cI C0 G (g_runSH C0 G (rest := []) (kL_innings hfl ((xs (6 * k + 1))) ((xs (6 * k + 2))) hW) hYH_L_innings mm_L_173 ms_L_innings ⟨(Nat.le_of_ble_eq_true rfl), (Nat.le_of_ble_eq_true rfl)⟩ rfl hl.1 rfl (Nat.le_of_ble_eq_true rfl) dL_law_732 ⟨(by show cells + 64 ≤ 603072; omega), (by show slots + 600 ≤ 7207018; omega)⟩) (kx_no rfl) (fun r1 u2 H locs hp3 G => ?_)
  obtain ⟨o4, hW5⟩ := hp3
  refine lv_istore (lv' := [(6, .int r1), (0, .ref b), (1, .ref (AD 0)), (2, .ref (AD 125)), (3, .ref (AD 138)), (4, .ref (AD 139)), (5, .int (nI (6 * k)))]) hx hb dL_law_735 hl (by decide) rfl (fun ls hl => ?_)
  refine lv_aload_n hx hb dL_law_737 rfl (lv_at hl 3 rfl) ?_
  refine lv_aload_n hx hb dL_law_738 rfl (lv_at hl 1 rfl) ?_
  refine lv_iload hx hb dL_law_739 (lv_at hl 6 rfl) ?_
  refine lv_iconst (v := 1) hx hb dL_law_741 (by decide) ?_
  refine lv_iadd hx hb dL_law_742 ?_
  refine lv_topv (v := nI (6 * k + 1)) (nI_add _ 1) ?_
  refine va_sld hx hb hX hbl hbA G.2 (i := nI (6 * k + 1)) (vp_in_nI (by omega) (by omega)) dL_law_743 ?_
  refine lv_topv (v := xs (6 * k + 1)) (congrArg xs (nI_c (by omega))) ?_
  refine lv_aload_n hx hb dL_law_744 rfl (lv_at hl 1 rfl) ?_
  refine lv_iload hx hb dL_law_745 (lv_at hl 6 rfl) ?_
  refine lv_iconst (v := 2) hx hb dL_law_747 (by decide) ?_
  refine lv_iadd hx hb dL_law_748 ?_
  refine lv_topv (v := nI (6 * k + 2)) (nI_add _ 2) ?_
  refine va_sld hx hb hX hbl hbA G.2 (i := nI (6 * k + 2)) (vp_in_nI (by omega) (by omega)) dL_law_749 ?_
  refine lv_topv (v := xs (6 * k + 2)) (congrArg xs (nI_c (by omega))) ?_
  obtain ⟨fs9, he9⟩ := m_WJ hW5
  refine g_cI C0 G (g_runV C0 G (rest := []) (kR_innings hfl ((xs (6 * k + 1))) ((xs (6 * k + 2))) hW5) he9 rfl hY_X9_innings mm_L_176 mi_X9_innings ml_X9_innings ⟨(Nat.le_of_ble_eq_true rfl), (Nat.le_of_ble_eq_true rfl)⟩ rfl hl.1 rfl (Nat.le_of_ble_eq_true rfl) dL_law_750 ⟨(by show cells + 64 ≤ 603072; omega), (by show slots + 600 ≤ 7207018; omega)⟩) (kx_no rfl) (fun r6 u7 H locs hp8 G => ?_)
  obtain ⟨tr6, hW9⟩ := hp8
  refine lv_istore (lv' := [(7, .int r6), (6, .int r1), (0, .ref b), (1, .ref (AD 0)), (2, .ref (AD 125)), (3, .ref (AD 138)), (4, .ref (AD 139)), (5, .int (nI (6 * k)))]) hx hb dL_law_753 hl (by decide) rfl (fun ls hl => ?_)
  refine lv_goto (tgt := 1332) hx hb dL_law_755 (by decide) ?_
  exact K _ _ _ _ _ _ _ _ hW9 G (lv_sub hl [2, 3, 4, 5, 6, 7] rfl) (by show cells + 64 ≤ cells + 64; omega) (by show slots + 600 ≤ slots + 600; omega)
set_option maxRecDepth 100000 in
theorem law_case_17 {p : Program} {e : Env} {s : State} {m9 : MethodId} {below : List Frame} {meth : Method} {c : Code} {l : Launch} {b L k : Nat} {xs : Nat → Int32} {D : va_G} {cy : Nat → ClassId} {AD : Nat → Nat} {q q2 : Nat → Option Nat} {th : Int32} {o : Nat → Int64} {f : Hf} {H : Heap} {locs : List Loc} {ls : Array Slot} {cells slots : Nat} (hfl : l.stackTraces = false) (C9 : lw_At p s m9 meth c b L xs) (C0 : hC p l s m9 meth c code 9 #[Value.ref b] RL D (hTy cy) (hA f00 s.heap.size)) (hL : L ≤ 3072) (hk6 : 6 * k + 6 ≤ L) (hcs : cells ≤ 200 + 64 * k ∧ slots ≤ 157000 + 600 * k) (hW : WJ AD cy q q2 k th o f) (G : hG D (hA f00 s.heap.size) f s H locs) (hl : lv_has ls 9 [(0, .ref b), (1, .ref (AD 0)), (2, .ref (AD 125)), (3, .ref (AD 138)), (4, .ref (AD 139)), (5, .int (nI (6 * k)))]) (K : KON p l e s m9 b below meth c D cy AD q q2 k cells slots) : W p l e room_1 s m9 #[Value.ref b] below meth c H locs cells slots (lw_Z below #[Value.ref b] s) (F0 m9 914 ls []) := by
  obtain ⟨hx, hb, hr, hml, hown, hts, hX, hbl, hlocks, hgv⟩ := id C9
  have hbA : ¬ hA f00 s.heap.size b := fun q => by
    rcases q with q | q
    · exact q rfl
    · omega
  refine lv_aload_n hx hb dL_law_914 rfl (lv_at hl 1 rfl) ?_
  refine lv_aload_n hx hb dL_law_915 rfl (lv_at hl 0 rfl) ?_
  refine lv_iload hx hb dL_law_916 (lv_at hl 5 rfl) ?_
  refine lv_iconst (v := 1) hx hb dL_law_918 (by decide) ?_
  refine lv_iadd hx hb dL_law_919 ?_
  refine lv_topv (v := nI (6 * k + 1)) (nI_add _ 1) ?_
  refine va_sld hx hb hX hbl hbA G.2 (i := nI (6 * k + 1)) (vp_in_nI (by omega) (by omega)) dL_law_920 ?_
  refine lv_topv (v := xs (6 * k + 1)) (congrArg xs (nI_c (by omega))) ?_
  refine lv_aload_n hx hb dL_law_921 rfl (lv_at hl 0 rfl) ?_
  refine lv_iload hx hb dL_law_922 (lv_at hl 5 rfl) ?_
  refine lv_iconst (v := 2) hx hb dL_law_924 (by decide) ?_
  refine lv_iadd hx hb dL_law_925 ?_
  refine lv_topv (v := nI (6 * k + 2)) (nI_add _ 2) ?_
  refine va_sld hx hb hX hbl hbA G.2 (i := nI (6 * k + 2)) (vp_in_nI (by omega) (by omega)) dL_law_926 ?_
  refine lv_topv (v := xs (6 * k + 2)) (congrArg xs (nI_c (by omega))) ?_
  refine lv_aload_n hx hb dL_law_927 rfl (lv_at hl 0 rfl) ?_
  refine lv_iload hx hb dL_law_928 (lv_at hl 5 rfl) ?_
  refine lv_iconst (v := 3) hx hb dL_law_930 (by decide) ?_
  refine lv_iadd hx hb dL_law_931 ?_
  refine lv_topv (v := nI (6 * k + 3)) (nI_add _ 3) ?_
  refine va_sld hx hb hX hbl hbA G.2 (i := nI (6 * k + 3)) (vp_in_nI (by omega) (by omega)) dL_law_932 ?_
  refine lv_topv (v := xs (6 * k + 3)) (congrArg xs (nI_c (by omega))) ?_
  refine lv_aload_n hx hb dL_law_933 rfl (lv_at hl 3 rfl) ?_
  refine g_cI C0 G (g_runSH C0 G (rest := []) (kL_fall hfl ((xs (6 * k + 1))) ((xs (6 * k + 2))) ((xs (6 * k + 3))) hW) hYH_L_fall mm_L_186 ms_L_fall ⟨(Nat.le_of_ble_eq_true rfl), (Nat.le_of_ble_eq_true rfl)⟩ rfl hl.1 rfl (Nat.le_of_ble_eq_true rfl) dL_law_934 ⟨(by show cells + 64 ≤ 603072; omega), (by show slots + 600 ≤ 7207018; omega)⟩) (kx_no rfl) (fun r1 u2 H locs hp3 G => ?_)
  obtain ⟨o4, hW5⟩ := hp3
  refine lv_istore (lv' := [(6, .int r1), (0, .ref b), (1, .ref (AD 0)), (2, .ref (AD 125)), (3, .ref (AD 138)), (4, .ref (AD 139)), (5, .int (nI (6 * k)))]) hx hb dL_law_937 hl (by decide) rfl (fun ls hl => ?_)
  refine lv_aload_n hx hb dL_law_939 rfl (lv_at hl 3 rfl) ?_
  refine lv_aload_n hx hb dL_law_940 rfl (lv_at hl 1 rfl) ?_
  refine lv_iload hx hb dL_law_941 (lv_at hl 6 rfl) ?_
  refine lv_iconst (v := 1) hx hb dL_law_943 (by decide) ?_
  refine lv_iadd hx hb dL_law_944 ?_
  refine lv_topv (v := nI (6 * k + 1)) (nI_add _ 1) ?_
  refine va_sld hx hb hX hbl hbA G.2 (i := nI (6 * k + 1)) (vp_in_nI (by omega) (by omega)) dL_law_945 ?_
  refine lv_topv (v := xs (6 * k + 1)) (congrArg xs (nI_c (by omega))) ?_
  refine lv_aload_n hx hb dL_law_946 rfl (lv_at hl 1 rfl) ?_
  refine lv_iload hx hb dL_law_947 (lv_at hl 6 rfl) ?_
  refine lv_iconst (v := 2) hx hb dL_law_949 (by decide) ?_
  refine lv_iadd hx hb dL_law_950 ?_
  refine lv_topv (v := nI (6 * k + 2)) (nI_add _ 2) ?_
  refine va_sld hx hb hX hbl hbA G.2 (i := nI (6 * k + 2)) (vp_in_nI (by omega) (by omega)) dL_law_951 ?_
  refine lv_topv (v := xs (6 * k + 2)) (congrArg xs (nI_c (by omega))) ?_
  refine lv_aload_n hx hb dL_law_952 rfl (lv_at hl 1 rfl) ?_
  refine lv_iload hx hb dL_law_953 (lv_at hl 6 rfl) ?_
  refine lv_iconst (v := 3) hx hb dL_law_955 (by decide) ?_
  refine lv_iadd hx hb dL_law_956 ?_
  refine lv_topv (v := nI (6 * k + 3)) (nI_add _ 3) ?_
  refine va_sld hx hb hX hbl hbA G.2 (i := nI (6 * k + 3)) (vp_in_nI (by omega) (by omega)) dL_law_957 ?_
  refine lv_topv (v := xs (6 * k + 3)) (congrArg xs (nI_c (by omega))) ?_
  obtain ⟨fs9, he9⟩ := m_WJ hW5
  refine g_cI C0 G (g_runV C0 G (rest := []) (kR_fall hfl ((xs (6 * k + 1))) ((xs (6 * k + 2))) ((xs (6 * k + 3))) hW5) he9 rfl hY_X9_fall mm_L_188 mi_X9_fall ml_X9_fall ⟨(Nat.le_of_ble_eq_true rfl), (Nat.le_of_ble_eq_true rfl)⟩ rfl hl.1 rfl (Nat.le_of_ble_eq_true rfl) dL_law_958 ⟨(by show cells + 64 ≤ 603072; omega), (by show slots + 600 ≤ 7207018; omega)⟩) (kx_no rfl) (fun r6 u7 H locs hp8 G => ?_)
  obtain ⟨tr6, hW9⟩ := hp8
  refine lv_istore (lv' := [(7, .int r6), (6, .int r1), (0, .ref b), (1, .ref (AD 0)), (2, .ref (AD 125)), (3, .ref (AD 138)), (4, .ref (AD 139)), (5, .int (nI (6 * k)))]) hx hb dL_law_961 hl (by decide) rfl (fun ls hl => ?_)
  refine lv_goto (tgt := 1332) hx hb dL_law_963 (by decide) ?_
  exact K _ _ _ _ _ _ _ _ hW9 G (lv_sub hl [2, 3, 4, 5, 6, 7] rfl) (by show cells + 64 ≤ cells + 64; omega) (by show slots + 600 ≤ slots + 600; omega)
set_option maxRecDepth 100000 in
theorem law_case_21 {p : Program} {e : Env} {s : State} {m9 : MethodId} {below : List Frame} {meth : Method} {c : Code} {l : Launch} {b L k : Nat} {xs : Nat → Int32} {D : va_G} {cy : Nat → ClassId} {AD : Nat → Nat} {q q2 : Nat → Option Nat} {th : Int32} {o : Nat → Int64} {f : Hf} {H : Heap} {locs : List Loc} {ls : Array Slot} {cells slots : Nat} (hfl : l.stackTraces = false) (C9 : lw_At p s m9 meth c b L xs) (C0 : hC p l s m9 meth c code 9 #[Value.ref b] RL D (hTy cy) (hA f00 s.heap.size)) (hL : L ≤ 3072) (hk6 : 6 * k + 6 ≤ L) (hcs : cells ≤ 200 + 64 * k ∧ slots ≤ 157000 + 600 * k) (hW : WJ AD cy q q2 k th o f) (G : hG D (hA f00 s.heap.size) f s H locs) (hl : lv_has ls 9 [(0, .ref b), (1, .ref (AD 0)), (2, .ref (AD 125)), (3, .ref (AD 138)), (4, .ref (AD 139)), (5, .int (nI (6 * k)))]) (K : KON p l e s m9 b below meth c D cy AD q q2 k cells slots) : W p l e room_1 s m9 #[Value.ref b] below meth c H locs cells slots (lw_Z below #[Value.ref b] s) (F0 m9 1052 ls []) := by
  obtain ⟨hx, hb, hr, hml, hown, hts, hX, hbl, hlocks, hgv⟩ := id C9
  have hbA : ¬ hA f00 s.heap.size b := fun q => by
    rcases q with q | q
    · exact q rfl
    · omega
  refine lv_aload_n hx hb dL_law_1052 rfl (lv_at hl 1 rfl) ?_
  refine lv_aload_n hx hb dL_law_1053 rfl (lv_at hl 0 rfl) ?_
  refine lv_iload hx hb dL_law_1054 (lv_at hl 5 rfl) ?_
  refine lv_iconst (v := 1) hx hb dL_law_1056 (by decide) ?_
  refine lv_iadd hx hb dL_law_1057 ?_
  refine lv_topv (v := nI (6 * k + 1)) (nI_add _ 1) ?_
  refine va_sld hx hb hX hbl hbA G.2 (i := nI (6 * k + 1)) (vp_in_nI (by omega) (by omega)) dL_law_1058 ?_
  refine lv_topv (v := xs (6 * k + 1)) (congrArg xs (nI_c (by omega))) ?_
  refine lv_aload_n hx hb dL_law_1059 rfl (lv_at hl 0 rfl) ?_
  refine lv_iload hx hb dL_law_1060 (lv_at hl 5 rfl) ?_
  refine lv_iconst (v := 2) hx hb dL_law_1062 (by decide) ?_
  refine lv_iadd hx hb dL_law_1063 ?_
  refine lv_topv (v := nI (6 * k + 2)) (nI_add _ 2) ?_
  refine va_sld hx hb hX hbl hbA G.2 (i := nI (6 * k + 2)) (vp_in_nI (by omega) (by omega)) dL_law_1064 ?_
  refine lv_topv (v := xs (6 * k + 2)) (congrArg xs (nI_c (by omega))) ?_
  refine lv_aload hx hb dL_law_1065 (lv_at hl 4 rfl) ?_
  refine g_cI C0 G (g_runSH C0 G (rest := []) (kL_strikeRate hfl ((xs (6 * k + 1))) ((xs (6 * k + 2))) hW) hYH_L_strikeRate mm_L_201 ms_L_strikeRate ⟨(Nat.le_of_ble_eq_true rfl), (Nat.le_of_ble_eq_true rfl)⟩ rfl hl.1 rfl (Nat.le_of_ble_eq_true rfl) dL_law_1067 ⟨(by show cells + 64 ≤ 603072; omega), (by show slots + 600 ≤ 7207018; omega)⟩) (kx_no rfl) (fun r1 u2 H locs hp3 G => ?_)
  obtain ⟨o4, hW5⟩ := hp3
  refine lv_istore (lv' := [(6, .int r1), (0, .ref b), (1, .ref (AD 0)), (2, .ref (AD 125)), (3, .ref (AD 138)), (4, .ref (AD 139)), (5, .int (nI (6 * k)))]) hx hb dL_law_1070 hl (by decide) rfl (fun ls hl => ?_)
  refine lv_aload_n hx hb dL_law_1072 rfl (lv_at hl 3 rfl) ?_
  refine lv_aload_n hx hb dL_law_1073 rfl (lv_at hl 1 rfl) ?_
  refine lv_iload hx hb dL_law_1074 (lv_at hl 6 rfl) ?_
  refine lv_iconst (v := 1) hx hb dL_law_1076 (by decide) ?_
  refine lv_iadd hx hb dL_law_1077 ?_
  refine lv_topv (v := nI (6 * k + 1)) (nI_add _ 1) ?_
  refine va_sld hx hb hX hbl hbA G.2 (i := nI (6 * k + 1)) (vp_in_nI (by omega) (by omega)) dL_law_1078 ?_
  refine lv_topv (v := xs (6 * k + 1)) (congrArg xs (nI_c (by omega))) ?_
  refine lv_aload_n hx hb dL_law_1079 rfl (lv_at hl 1 rfl) ?_
  refine lv_iload hx hb dL_law_1080 (lv_at hl 6 rfl) ?_
  refine lv_iconst (v := 2) hx hb dL_law_1082 (by decide) ?_
  refine lv_iadd hx hb dL_law_1083 ?_
  refine lv_topv (v := nI (6 * k + 2)) (nI_add _ 2) ?_
  refine va_sld hx hb hX hbl hbA G.2 (i := nI (6 * k + 2)) (vp_in_nI (by omega) (by omega)) dL_law_1084 ?_
  refine lv_topv (v := xs (6 * k + 2)) (congrArg xs (nI_c (by omega))) ?_
  obtain ⟨fs9, he9⟩ := m_WJ hW5
  refine g_cF C0 G (g_runV C0 G (rest := []) (kR_strikeRate hfl ((xs (6 * k + 1))) ((xs (6 * k + 2))) hW5) he9 rfl hY_X9_strikeRate mm_L_204 mi_X9_strikeRate ml_X9_strikeRate ⟨(Nat.le_of_ble_eq_true rfl), (Nat.le_of_ble_eq_true rfl)⟩ rfl hl.1 rfl (Nat.le_of_ble_eq_true rfl) dL_law_1085 ⟨(by show cells + 64 ≤ 603072; omega), (by show slots + 600 ≤ 7207018; omega)⟩) (kx_no rfl) (fun r6 u7 H locs hp8 G => ?_)
  obtain ⟨tr6, hW9⟩ := hp8
  refine lv_fstore (lv' := [(7, .float r6), (6, .int r1), (0, .ref b), (1, .ref (AD 0)), (2, .ref (AD 125)), (3, .ref (AD 138)), (4, .ref (AD 139)), (5, .int (nI (6 * k)))]) hx hb dL_law_1088 hl (by decide) rfl (fun ls hl => ?_)
  refine lv_goto (tgt := 1332) hx hb dL_law_1090 (by decide) ?_
  exact K _ _ _ _ _ _ _ _ hW9 G (lv_sub hl [2, 3, 4, 5, 6, 7] rfl) (by show cells + 64 ≤ cells + 64; omega) (by show slots + 600 ≤ slots + 600; omega)
set_option maxRecDepth 100000 in
theorem law_case_25 {p : Program} {e : Env} {s : State} {m9 : MethodId} {below : List Frame} {meth : Method} {c : Code} {l : Launch} {b L k : Nat} {xs : Nat → Int32} {D : va_G} {cy : Nat → ClassId} {AD : Nat → Nat} {q q2 : Nat → Option Nat} {th : Int32} {o : Nat → Int64} {f : Hf} {H : Heap} {locs : List Loc} {ls : Array Slot} {cells slots : Nat} (hfl : l.stackTraces = false) (C9 : lw_At p s m9 meth c b L xs) (C0 : hC p l s m9 meth c code 9 #[Value.ref b] RL D (hTy cy) (hA f00 s.heap.size)) (hL : L ≤ 3072) (hk6 : 6 * k + 6 ≤ L) (hcs : cells ≤ 200 + 64 * k ∧ slots ≤ 157000 + 600 * k) (hW : WJ AD cy q q2 k th o f) (G : hG D (hA f00 s.heap.size) f s H locs) (hl : lv_has ls 9 [(0, .ref b), (1, .ref (AD 0)), (2, .ref (AD 125)), (3, .ref (AD 138)), (4, .ref (AD 139)), (5, .int (nI (6 * k)))]) (K : KON p l e s m9 b below meth c D cy AD q q2 k cells slots) : W p l e room_1 s m9 #[Value.ref b] below meth c H locs cells slots (lw_Z below #[Value.ref b] s) (F0 m9 1242 ls []) := by
  obtain ⟨hx, hb, hr, hml, hown, hts, hX, hbl, hlocks, hgv⟩ := id C9
  have hbA : ¬ hA f00 s.heap.size b := fun q => by
    rcases q with q | q
    · exact q rfl
    · omega
  refine lv_aload_n hx hb dL_law_1242 rfl (lv_at hl 1 rfl) ?_
  obtain ⟨fs9, he9⟩ := m_XC hW
  refine g_cI C0 G (g_runV C0 G (rest := []) (kC_reason hfl (by omega) hW) he9 rfl hY_X8_reason mm_L_214 mi_X8_reason ml_X8_reason ⟨(Nat.le_of_ble_eq_true rfl), (Nat.le_of_ble_eq_true rfl)⟩ rfl hl.1 rfl (Nat.le_of_ble_eq_true rfl) dL_law_1243 ⟨(by show cells + 64 ≤ 603072; omega), (by show slots + 600 ≤ 7207018; omega)⟩) (kx_no rfl) (fun r1 u2 H locs hp3 G => ?_)
  refine lv_pop hx hb dL_law_1246 rfl ?_
  refine lv_aload_n hx hb dL_law_1247 rfl (lv_at hl 2 rfl) ?_
  obtain ⟨fs9, he9⟩ := m_WJ hp3
  refine g_cI C0 G (g_runV C0 G (rest := []) (kR_reason hfl hp3) he9 rfl hY_X9_reason mm_L_217 mi_X9_reason ml_X9_reason ⟨(Nat.le_of_ble_eq_true rfl), (Nat.le_of_ble_eq_true rfl)⟩ rfl hl.1 rfl (Nat.le_of_ble_eq_true rfl) dL_law_1248 ⟨(by show cells + 64 ≤ 603072; omega), (by show slots + 600 ≤ 7207018; omega)⟩) (kx_no rfl) (fun r4 u5 H locs hp6 G => ?_)
  obtain ⟨tr4, hW7⟩ := hp6
  refine lv_pop hx hb dL_law_1251 rfl ?_
  refine lv_goto (tgt := 1332) hx hb dL_law_1252 (by decide) ?_
  exact K _ _ _ _ _ _ _ _ hW7 G (lv_sub hl [0, 1, 2, 3, 4, 5] rfl) (by show cells + 64 ≤ cells + 64; omega) (by show slots + 600 ≤ slots + 600; omega)
set_option maxRecDepth 100000 in
theorem law_case_29 {p : Program} {e : Env} {s : State} {m9 : MethodId} {below : List Frame} {meth : Method} {c : Code} {l : Launch} {b L k : Nat} {xs : Nat → Int32} {D : va_G} {cy : Nat → ClassId} {AD : Nat → Nat} {q q2 : Nat → Option Nat} {th : Int32} {o : Nat → Int64} {f : Hf} {H : Heap} {locs : List Loc} {ls : Array Slot} {cells slots : Nat} (hfl : l.stackTraces = false) (C9 : lw_At p s m9 meth c b L xs) (C0 : hC p l s m9 meth c code 9 #[Value.ref b] RL D (hTy cy) (hA f00 s.heap.size)) (hL : L ≤ 3072) (hk6 : 6 * k + 6 ≤ L) (hcs : cells ≤ 200 + 64 * k ∧ slots ≤ 157000 + 600 * k) (hW : WJ AD cy q q2 k th o f) (G : hG D (hA f00 s.heap.size) f s H locs) (hl : lv_has ls 9 [(0, .ref b), (1, .ref (AD 0)), (2, .ref (AD 125)), (3, .ref (AD 138)), (4, .ref (AD 139)), (5, .int (nI (6 * k)))]) (K : KON p l e s m9 b below meth c D cy AD q q2 k cells slots) : W p l e room_1 s m9 #[Value.ref b] below meth c H locs cells slots (lw_Z below #[Value.ref b] s) (F0 m9 1300 ls []) := by
  obtain ⟨hx, hb, hr, hml, hown, hts, hX, hbl, hlocks, hgv⟩ := id C9
  have hbA : ¬ hA f00 s.heap.size b := fun q => by
    rcases q with q | q
    · exact q rfl
    · omega
  refine lv_aload_n hx hb dL_law_1300 rfl (lv_at hl 1 rfl) ?_
  refine lv_aload_n hx hb dL_law_1301 rfl (lv_at hl 3 rfl) ?_
  refine g_cI C0 G (g_runSH C0 G (rest := []) (kL_snapshot hfl hW) hYH_L_snapshot mm_L_228 ms_L_snapshot ⟨(Nat.le_of_ble_eq_true rfl), (Nat.le_of_ble_eq_true rfl)⟩ rfl hl.1 rfl (Nat.le_of_ble_eq_true rfl) dL_law_1302 ⟨(by show cells + 64 ≤ 603072; omega), (by show slots + 600 ≤ 7207018; omega)⟩) (kx_no rfl) (fun r1 u2 H locs hp3 G => ?_)
  refine lv_istore (lv' := [(6, .int r1), (0, .ref b), (1, .ref (AD 0)), (2, .ref (AD 125)), (3, .ref (AD 138)), (4, .ref (AD 139)), (5, .int (nI (6 * k)))]) hx hb dL_law_1305 hl (by decide) rfl (fun ls hl => ?_)
  refine lv_aload_n hx hb dL_law_1307 rfl (lv_at hl 3 rfl) ?_
  obtain ⟨fs9, he9⟩ := m_MIDS hp3
  refine g_cI C0 G (g_runV C0 G (rest := []) (kR_snapshot hfl hp3) he9 rfl hY_X9_snapshot mm_L_230 mi_X9_snapshot ml_X9_snapshot ⟨(Nat.le_of_ble_eq_true rfl), (Nat.le_of_ble_eq_true rfl)⟩ rfl hl.1 rfl (Nat.le_of_ble_eq_true rfl) dL_law_1308 ⟨(by show cells + 64 ≤ 603072; omega), (by show slots + 600 ≤ 7207018; omega)⟩) (kx_no rfl) (fun r4 u5 H locs hp6 G => ?_)
  obtain ⟨or4, hW7, her4⟩ := hp6
  refine lv_istore (lv' := [(7, .int r4), (6, .int r1), (0, .ref b), (1, .ref (AD 0)), (2, .ref (AD 125)), (3, .ref (AD 138)), (4, .ref (AD 139)), (5, .int (nI (6 * k)))]) hx hb dL_law_1311 hl (by decide) rfl (fun ls hl => ?_)
  refine lv_goto (tgt := 1332) hx hb dL_law_1313 (by decide) ?_
  exact K _ _ _ _ _ _ _ _ hW7 G (lv_sub hl [2, 3, 4, 5, 6, 7] rfl) (by show cells + 64 ≤ cells + 64; omega) (by show slots + 600 ≤ slots + 600; omega)
