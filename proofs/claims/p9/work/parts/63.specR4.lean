def X9_fallsN_n0 (oth : Int32) (a : Nat) (b2 : Nat) : Nat := if oth = 0 then a else b2
def X9_fallsN_g1 (g : Nat → Int32) (kind : Nat) (runs : Int32) (i : Nat) (a : Nat) (bo : Nat) (s : Nat) : Nat → Int32 := if (runs - runs / 2 * 2) = 1 then (X9_changesEnds_g1 (X9_scores_g44 g kind runs 0 i a bo s)) else (X9_scores_g44 g kind runs 0 i a bo s)
def X9_fallsN_g2 (g : Nat → Int32) (kind : Nat) (runs : Int32) (cro : Int32) (i : Nat) (a : Nat) (bo : Nat) (s : Nat) : Nat → Int32 := if cro = 0 then (X9_fallsN_g1 g kind runs i a bo s) else (X9_changesEnds_g1 (X9_fallsN_g1 g kind runs i a bo s))
def X9_fallsN_g3 (g : Nat → Int32) (kind : Nat) (oth : Int32) (runs : Int32) (cro : Int32) (i : Nat) (a : Nat) (b2 : Nat) (bo : Nat) (s : Nat) (wk : Nat) : Nat → Int32 := upd (X9_fallsN_g2 g kind runs cro i a bo s) (641 + 30 * i + 3 * wk) (nI (X9_fallsN_n0 oth a b2))
def X9_fallsN_g4 (g : Nat → Int32) (kind : Nat) (oth : Int32) (runs : Int32) (cro : Int32) (i : Nat) (a : Nat) (b2 : Nat) (bo : Nat) (s : Nat) (wk : Nat) : Nat → Int32 := upd (X9_fallsN_g3 g kind oth runs cro i a b2 bo s wk) (641 + 30 * i + 3 * wk + 1) ((X9_fallsN_g3 g kind oth runs cro i a b2 bo s wk) (25 + 11 * i + 0))
def X9_fallsN_g5 (g : Nat → Int32) (kind : Nat) (oth : Int32) (runs : Int32) (cro : Int32) (i : Nat) (a : Nat) (b2 : Nat) (bo : Nat) (s : Nat) (wk : Nat) : Nat → Int32 := upd (X9_fallsN_g4 g kind oth runs cro i a b2 bo s wk) (641 + 30 * i + 3 * wk + 2) ((X9_fallsN_g4 g kind oth runs cro i a b2 bo s wk) (25 + 11 * i + 2))
def X9_fallsN_g6 (g : Nat → Int32) (kind : Nat) (oth : Int32) (runs : Int32) (cro : Int32) (i : Nat) (a : Nat) (b2 : Nat) (bo : Nat) (s : Nat) (wk : Nat) : Nat → Int32 := upd (X9_fallsN_g5 g kind oth runs cro i a b2 bo s wk) (25 + 11 * i + 1) (nI (wk + 1))
def X9_fallsN_g7 (g : Nat → Int32) (kind : Nat) (oth : Int32) (runs : Int32) (cro : Int32) (i : Nat) (a : Nat) (b2 : Nat) (bo : Nat) (s : Nat) (wk : Nat) : Nat → Int32 := upd (X9_fallsN_g6 g kind oth runs cro i a b2 bo s wk) (69 + 6 * (11 * i + (X9_fallsN_n0 oth a b2)) + 5) (nI bo)
def X9_fallsN_x8 (g : Nat → Int32) (kind : Nat) (oth : Int32) (runs : Int32) (cro : Int32) (i : Nat) (a : Nat) (b2 : Nat) (bo : Nat) (s : Nat) (wk : Nat) : Int32 := ((X9_fallsN_g7 g kind oth runs cro i a b2 bo s wk) (333 + 7 * (11 * i + bo) + 2)) + 1
def X9_fallsN_g9 (g : Nat → Int32) (kind : Nat) (oth : Int32) (runs : Int32) (cro : Int32) (i : Nat) (a : Nat) (b2 : Nat) (bo : Nat) (s : Nat) (wk : Nat) : Nat → Int32 := upd (X9_fallsN_g7 g kind oth runs cro i a b2 bo s wk) (333 + 7 * (11 * i + bo) + 2) (X9_fallsN_x8 g kind oth runs cro i a b2 bo s wk)
def X9_fallsN_g10 (g : Nat → Int32) (way : Int32) (kind : Nat) (oth : Int32) (runs : Int32) (cro : Int32) (i : Nat) (a : Nat) (b2 : Nat) (bo : Nat) (s : Nat) (wk : Nat) : Nat → Int32 := if way = 5 then (X9_fallsN_g6 g kind oth runs cro i a b2 bo s wk) else (X9_fallsN_g9 g kind oth runs cro i a b2 bo s wk)
def X9_fallsN_r11 (wk : Nat) : Int32 := nI (wk + 1)
def X9_fallsN_g12 (g : Nat → Int32) (way : Int32) (kind : Nat) (oth : Int32) (runs : Int32) (cro : Int32) (i : Nat) (a : Nat) (b2 : Nat) (bo : Nat) (s : Nat) (cm : Nat) (wk : Nat) (e : Nat) : Nat → Int32 := (X9_looks_g11 (X9_completes_g11 (X9_leavesN_g1 (X9_fallsN_g10 g way kind oth runs cro i a b2 bo s wk) (X9_fallsN_n0 oth a b2) way i s) i bo cm) 1 0 i e s)
set_option maxRecDepth 100000 in
theorem k_X9_fallsN {l : Launch} (hfl : l.stackTraces = false) {D : va_G} {cy : Nat → ClassId} {f : Hf} {sz : Nat} {m : Nat} {v : Nat} {im : Nat} {kp : Nat} {pa : Nat} {de : Nat} {ide : Nat} {tx : Nat} {pt : Nat} {so : Nat} {mo : Nat} {wh : Nat} {pf : Nat} {c_th : Int32} {c_re : Int32} {c_un : Int32} {c_hi : Int32} {c_tn : Int32} {c_fa : Int32} {c_rf : Int32} {c_ps : Int32} {c_pl : Int32} {c_to : Int32} {g : Nat → Int32} (way : Int32) {kind : Nat} (oth : Int32) (runs : Int32) (cro : Int32) {i : Nat} {a : Nat} {b2 : Nat} {bo : Nat} {s : Nat} {cm : Nat} {wk : Nat} {e : Nat} (h_m : f m = some (.inr (11, [.int c_th, .int c_re, .ref v, .ref im, .ref kp, .ref pa, .ref de, .ref ide, .int c_un, .int c_hi, .ref tx, .int c_tn, .int c_fa, .int c_rf, .ref pt, .int c_ps, .int c_pl, .int c_to, .ref so, .ref mo, .ref wh, .ref pf]))) (h_v : f v = some (.inl (cy 0, 6441, .inl g))) (h4 : g 4 = nI i) (hi : i < 4) (h6 : g 6 = nI a) (ha : a < 11) (h7 : g 7 = nI b2) (hb2 : b2 < 11) (h9 : g 9 = nI bo) (hbo : bo < 11) (h22 : g 22 = nI s) (hs1 : 1 ≤ s) (hs : s < 699) (hcm : g (25 + 11 * i + 8) = nI cm) (hc : cm < 20) (hwk : g (25 + 11 * i + 1) = nI wk) (hwk1 : wk < 11) (h1 : g 1 = nI e) (he : e = 1 ∨ e = 2) (hie : i + 1 ≤ 2 * e) (hrr : i + 1 = 2 * e → e = 2 ∨ ¬ (g 14).toInt64 = 0) (hn : X9_next_r1 g i = -1) (hk : kind < 5) (hb_oth : oth = 0 ∨ oth = 1) (hb_cro : cro = 0 ∨ cro = 1) : hMet l yX9_falls cX9_falls 11 (some .int) { frames := 3, cells := 0, slots := 0, locals := 71 } D (hTy cy) f sz [.ref m, .int way, .int (nI kind), .int oth, .int runs, .int cro] (hQi (fun r u => r = (X9_fallsN_r11 wk) ∧ u v = some (.inl (cy 0, 6441, .inl (X9_fallsN_g12 g way kind oth runs cro i a b2 bo s cm wk e))) ∧ hFrL f u [v]) D f sz) hNo := by
  refine h_enter (by decide) hfl (Nat.le_of_ble_eq_true rfl) ?_
  intro p9 e9 s9 m9 b9 t9 c9 hsz C0 hr hnm G ls hl
  have hx := C0.1.1
  have hb := C0.1.2.1
  have hl : lv_has ls 11 [(0, .ref m), (1, .int way), (2, .int (nI kind)), (3, .int oth), (4, .int runs), (5, .int cro)] := hl
  refine lv_aload_n hx hb dX9_falls_0 rfl (lv_at hl 0 rfl) ?_
  refine g_get C0 G h_m rfl hiX9 2 (by decide) mf_X9_9 rfl dX9_falls_1 ?_
  refine lv_iconst (v := 4) hx hb dX9_falls_4 (by decide) ?_
  refine g_iald C0 G h_v 0 rfl (by unfold vp_in; decide) dX9_falls_5 ?_
  refine lv_topv (v := g 4) rfl ?_
  refine lv_topv (v := nI i) (h4) ?_
  refine lv_istore (lv' := [(6, .int (nI i)), (0, .ref m), (1, .int way), (2, .int (nI kind)), (3, .int oth), (4, .int runs), (5, .int cro)]) hx hb dX9_falls_6 hl (by decide) rfl (fun ls hl => ?_)
  refine lv_aload_n hx hb dX9_falls_8 rfl (lv_at hl 1 rfl) ?_
  refine g_cI C0 G (g_runV C0 G (rest := []) (k_X9_next hfl h_m h_v h4 hi) h_m rfl hY_X9_next mm_X9_136 mi_X9_next ml_X9_next ⟨(Nat.le_of_ble_eq_true rfl), (Nat.le_of_ble_eq_true rfl)⟩ rfl hl.1 rfl (Nat.le_of_ble_eq_true rfl) dX9_falls_9 ⟨(Nat.le_of_ble_eq_true rfl), (Nat.le_of_ble_eq_true rfl)⟩) (kx_no rfl) (fun r13 u12 H locs hp11 G => ?_)
  obtain ⟨zr, eu12⟩ := hp11
  replace zr := Eq.symm zr
  subst zr
  rw [eu12] at G
  refine lv_topv (v := (-1)) (hn) ?_
  refine lv_istore (lv' := [(7, .int (-1)), (6, .int (nI i)), (0, .ref m), (1, .int way), (2, .int (nI kind)), (3, .int oth), (4, .int runs), (5, .int cro)]) hx hb dX9_falls_12 hl (by decide) rfl (fun ls hl => ?_)
  refine lv_iload_n hx hb dX9_falls_14 rfl (lv_at hl 5 rfl) ?_
  have J16 : ∀ (y15 : Int32) (_ : y15 = nI (X9_fallsN_n0 oth a b2)) (H : Heap) (locs : List Loc) (ls : Array Slot), hG D (hA f sz) f s9 H locs → lv_has ls 11 [(7, .int (-1)), (6, .int (nI i)), (0, .ref m), (1, .int way), (2, .int (nI kind)), (3, .int oth), (4, .int runs), (5, .int cro)] → W p9 l e9 ({ frames := 3, cells := 0, slots := 0, locals := 71 } : Room) s9 m9 ([.ref m, .int way, .int (nI kind), .int oth, .int runs, .int cro] : List Value).toArray b9 t9 c9 H locs 0 0 (vx_MQ b9 (hQi (fun r u => r = (X9_fallsN_r11 wk) ∧ u v = some (.inl (cy 0, 6441, .inl (X9_fallsN_g12 g way kind oth runs cro i a b2 bo s cm wk e))) ∧ hFrL f u [v]) D f sz) (hPx hNo D f sz) ([.ref m, .int way, .int (nI kind), .int oth, .int runs, .int cro] : List Value).toArray s9 0 0 (hA f sz)) (F0 m9 35 ls [.int y15]) := by
    intro y15 ey15 H locs ls G hl
    replace ey15 := Eq.symm ey15
    subst ey15
    have bd18 : (X9_fallsN_n0 oth a b2) ≤ 10 := by unfold X9_fallsN_n0; repeat (first | omega | split)
    refine lv_istore (lv' := [(8, .int (nI (X9_fallsN_n0 oth a b2))), (7, .int (-1)), (6, .int (nI i)), (0, .ref m), (1, .int way), (2, .int (nI kind)), (3, .int oth), (4, .int runs), (5, .int cro)]) hx hb dX9_falls_35 hl (by decide) rfl (fun ls hl => ?_)
    refine lv_aload_n hx hb dX9_falls_37 rfl (lv_at hl 3 rfl) ?_
    refine lv_iload_n hx hb dX9_falls_38 rfl (lv_at hl 5 rfl) ?_
    refine lv_iload hx hb dX9_falls_39 (lv_at hl 7 rfl) ?_
    refine lv_iconst (v := 0) hx hb dX9_falls_41 (by decide) ?_
    refine g_cI C0 G (g_runV C0 G (rest := []) (k_X9_scores hfl runs 0 h_m h_v h4 hi h6 ha h9 hbo h22 hs1 (by omega) hk (Or.inl rfl)) h_m rfl hY_X9_scores mm_X9_152 mi_X9_scores ml_X9_scores ⟨(Nat.le_of_ble_eq_true rfl), (Nat.le_of_ble_eq_true rfl)⟩ rfl hl.1 rfl (Nat.le_of_ble_eq_true rfl) dX9_falls_42 ⟨(Nat.le_of_ble_eq_true rfl), (Nat.le_of_ble_eq_true rfl)⟩) (kx_no rfl) (fun r21 u20 H locs hp19 G => ?_)
    obtain ⟨zr, k22, fr23⟩ := hp19
    replace zr := Eq.symm zr
    subst zr
    refine lv_pop hx hb dX9_falls_45 rfl ?_
    refine lv_iload hx hb dX9_falls_46 (lv_at hl 7 rfl) ?_
    refine lv_iconst (v := 2) hx hb dX9_falls_48 (by decide) ?_
    refine lv_irem hx hb dX9_falls_49 (by decide) ?_
    refine lv_iconst (v := 1) hx hb dX9_falls_50 (by decide) ?_
    have J26 : ∀ (y25 : Nat → Int32) (_ : y25 = (X9_fallsN_g1 g kind runs i a bo s)) (f27 : Hf) (H : Heap) (locs : List Loc) (ls : Array Slot), f27 v = some (.inl (cy 0, 6441, .inl y25)) → hFrL u20 f27 [v] → hG D (hA f sz) f27 s9 H locs → lv_has ls 11 [(8, .int (nI (X9_fallsN_n0 oth a b2))), (7, .int (-1)), (6, .int (nI i)), (0, .ref m), (1, .int way), (2, .int (nI kind)), (3, .int oth), (4, .int runs), (5, .int cro)] → W p9 l e9 ({ frames := 3, cells := 0, slots := 0, locals := 71 } : Room) s9 m9 ([.ref m, .int way, .int (nI kind), .int oth, .int runs, .int cro] : List Value).toArray b9 t9 c9 H locs 0 0 (vx_MQ b9 (hQi (fun r u => r = (X9_fallsN_r11 wk) ∧ u v = some (.inl (cy 0, 6441, .inl (X9_fallsN_g12 g way kind oth runs cro i a b2 bo s cm wk e))) ∧ hFrL f u [v]) D f sz) (hPx hNo D f sz) ([.ref m, .int way, .int (nI kind), .int oth, .int runs, .int cro] : List Value).toArray s9 0 0 (hA f sz)) (F0 m9 58 ls []) := by
      intro y25 ey25 f27 H locs ls k28 fr29 G hl
      replace ey25 := Eq.symm ey25
      subst ey25
      refine lv_iload hx hb dX9_falls_58 (lv_at hl 8 rfl) ?_
      have J32 : ∀ (y31 : Nat → Int32) (_ : y31 = (X9_fallsN_g2 g kind runs cro i a bo s)) (f33 : Hf) (H : Heap) (locs : List Loc) (ls : Array Slot), f33 v = some (.inl (cy 0, 6441, .inl y31)) → hFrL f27 f33 [v] → hG D (hA f sz) f33 s9 H locs → lv_has ls 11 [(8, .int (nI (X9_fallsN_n0 oth a b2))), (7, .int (-1)), (6, .int (nI i)), (0, .ref m), (1, .int way), (2, .int (nI kind)), (3, .int oth), (4, .int runs), (5, .int cro)] → W p9 l e9 ({ frames := 3, cells := 0, slots := 0, locals := 71 } : Room) s9 m9 ([.ref m, .int way, .int (nI kind), .int oth, .int runs, .int cro] : List Value).toArray b9 t9 c9 H locs 0 0 (vx_MQ b9 (hQi (fun r u => r = (X9_fallsN_r11 wk) ∧ u v = some (.inl (cy 0, 6441, .inl (X9_fallsN_g12 g way kind oth runs cro i a b2 bo s cm wk e))) ∧ hFrL f u [v]) D f sz) (hPx hNo D f sz) ([.ref m, .int way, .int (nI kind), .int oth, .int runs, .int cro] : List Value).toArray s9 0 0 (hA f sz)) (F0 m9 67 ls []) := by
        intro y31 ey31 f33 H locs ls k34 fr35 G hl
        replace ey31 := Eq.symm ey31
        subst ey31
        refine lv_sipush (v := 641) hx hb dX9_falls_67 (by decide) ?_
        refine lv_bipush (v := 30) hx hb dX9_falls_70 (by decide) ?_
        refine lv_iload hx hb dX9_falls_72 (lv_at hl 2 rfl) ?_
        refine lv_imul hx hb dX9_falls_74 ?_
        refine lv_topv (v := nI (30 * i)) ((pk_mul _ _)) ?_
        refine lv_iadd hx hb dX9_falls_75 ?_
        refine lv_topv (v := nI (641 + 30 * i)) ((nI_add _ _)) ?_
        refine lv_iconst (v := 3) hx hb dX9_falls_76 (by decide) ?_
        refine lv_aload_n hx hb dX9_falls_77 rfl (lv_at hl 3 rfl) ?_
        have k36 : f33 m = some (.inr (11, [.int c_th, .int c_re, .ref v, .ref im, .ref kp, .ref pa, .ref de, .ref ide, .int c_un, .int c_hi, .ref tx, .int c_tn, .int c_fa, .int c_rf, .ref pt, .int c_ps, .int c_pl, .int c_to, .ref so, .ref mo, .ref wh, .ref pf])) := fr35 _ _ (by simp only [List.mem_cons, List.not_mem_nil, or_false]; intro q; exact (hne (fr29 _ _ (by simp only [List.mem_cons, List.not_mem_nil, or_false]; intro q; exact (hne (fr23 _ _ (by simp only [List.mem_cons, List.not_mem_nil, or_false]; intro q; exact (hne h_m h_v (by intro q; cases q)) q) h_m) k22 (by intro q; cases q)) q) (fr23 _ _ (by simp only [List.mem_cons, List.not_mem_nil, or_false]; intro q; exact (hne h_m h_v (by intro q; cases q)) q) h_m)) k28 (by intro q; cases q)) q) (fr29 _ _ (by simp only [List.mem_cons, List.not_mem_nil, or_false]; intro q; exact (hne (fr23 _ _ (by simp only [List.mem_cons, List.not_mem_nil, or_false]; intro q; exact (hne h_m h_v (by intro q; cases q)) q) h_m) k22 (by intro q; cases q)) q) (fr23 _ _ (by simp only [List.mem_cons, List.not_mem_nil, or_false]; intro q; exact (hne h_m h_v (by intro q; cases q)) q) h_m))
        refine g_get C0 G k36 rfl hiX9 2 (by decide) mf_X9_9 rfl dX9_falls_78 ?_
        refine lv_iload hx hb dX9_falls_81 (lv_at hl 2 rfl) ?_
        refine lv_iconst (v := 1) hx hb dX9_falls_83 (by decide) ?_
        refine g_cI C0 G (g_runS C0 G (rest := [.ref v, .int 3, .int (nI (641 + 30 * i))]) (k_X9_at hfl (nI i) 1 ) hY_X9_at mm_X9_62 ms_X9_at ⟨(Nat.le_of_ble_eq_true rfl), (Nat.le_of_ble_eq_true rfl)⟩ rfl hl.1 rfl (Nat.le_of_ble_eq_true rfl) dX9_falls_84 ⟨(Nat.le_of_ble_eq_true rfl), (Nat.le_of_ble_eq_true rfl)⟩) (kx_no rfl) (fun r39 u38 H locs hp37 G => ?_)
        obtain ⟨zr, eu38⟩ := hp37
        replace zr := Eq.symm zr
        subst zr
        rw [eu38] at G
        refine lv_topv (v := nI (25 + 11 * i + 1)) (at_n i 1) ?_
        refine g_iald C0 G k34 0 rfl (vp_in_nI (by omega) (by omega)) dX9_falls_87 ?_
        refine lv_topv (v := (X9_fallsN_g2 g kind runs cro i a bo s) (25 + 11 * i + 1)) (congrArg (X9_fallsN_g2 g kind runs cro i a bo s) (nI_c (by omega))) ?_
        refine lv_topv (v := nI wk) ((by rw [X9_fallsN_g2]; split; exact (by rw [X9_fallsN_g1]; split; exact (by rw [X9_changesEnds_g1, upd_off (by omega)]; exact (by rw [X9_changesEnds_g0, upd_off (by omega)]; exact ((rd_X9_scores_25_11_i_1 (by omega) (by omega) (by omega) (by omega) (by omega) (by omega)).trans hwk))); exact ((rd_X9_scores_25_11_i_1 (by omega) (by omega) (by omega) (by omega) (by omega) (by omega)).trans hwk)); exact (by rw [X9_changesEnds_g1, upd_off (by omega)]; exact (by rw [X9_changesEnds_g0, upd_off (by omega)]; exact (by rw [X9_fallsN_g1]; split; exact (by rw [X9_changesEnds_g1, upd_off (by omega)]; exact (by rw [X9_changesEnds_g0, upd_off (by omega)]; exact ((rd_X9_scores_25_11_i_1 (by omega) (by omega) (by omega) (by omega) (by omega) (by omega)).trans hwk))); exact ((rd_X9_scores_25_11_i_1 (by omega) (by omega) (by omega) (by omega) (by omega) (by omega)).trans hwk)))))) ?_
        refine lv_imul hx hb dX9_falls_88 ?_
        refine lv_topv (v := nI (3 * wk)) ((pk_mul _ _)) ?_
        refine lv_iadd hx hb dX9_falls_89 ?_
        refine lv_topv (v := nI (641 + 30 * i + 3 * wk)) ((nI_add _ _)) ?_
        refine lv_istore (lv' := [(9, .int (nI (641 + 30 * i + 3 * wk))), (8, .int (nI (X9_fallsN_n0 oth a b2))), (7, .int (-1)), (6, .int (nI i)), (0, .ref m), (1, .int way), (2, .int (nI kind)), (3, .int oth), (4, .int runs), (5, .int cro)]) hx hb dX9_falls_90 hl (by decide) rfl (fun ls hl => ?_)
        refine lv_aload_n hx hb dX9_falls_92 rfl (lv_at hl 4 rfl) ?_
        refine g_get C0 G k36 rfl hiX9 2 (by decide) mf_X9_9 rfl dX9_falls_93 ?_
        refine lv_iload hx hb dX9_falls_96 (lv_at hl 0 rfl) ?_
        refine lv_iload hx hb dX9_falls_98 (lv_at hl 1 rfl) ?_
        refine g_iast C0 G k34 0 rfl (vp_in_nI (by omega) (by omega)) dX9_falls_100 (fun H locs f40 hf40 G => ?_)
        have k41 : f40 v = some (.inl (cy 0, 6441, .inl (X9_fallsN_g3 g kind oth runs cro i a b2 bo s wk))) := (by have h9 := hus hf40; rw [nI_c (by omega)] at h9; exact h9)
        refine lv_aload_n hx hb dX9_falls_101 rfl (lv_at hl 4 rfl) ?_
        have k42 : f40 m = some (.inr (11, [.int c_th, .int c_re, .ref v, .ref im, .ref kp, .ref pa, .ref de, .ref ide, .int c_un, .int c_hi, .ref tx, .int c_tn, .int c_fa, .int c_rf, .ref pt, .int c_ps, .int c_pl, .int c_to, .ref so, .ref mo, .ref wh, .ref pf])) := hup hf40 (hne k36 k34 (by intro q; cases q)) k36
        refine g_get C0 G k42 rfl hiX9 2 (by decide) mf_X9_9 rfl dX9_falls_102 ?_
        refine lv_iload hx hb dX9_falls_105 (lv_at hl 0 rfl) ?_
        refine lv_iconst (v := 1) hx hb dX9_falls_107 (by decide) ?_
        refine lv_iadd hx hb dX9_falls_108 ?_
        refine lv_topv (v := nI (641 + 30 * i + 3 * wk + 1)) ((nI_add _ _)) ?_
        refine lv_aload_n hx hb dX9_falls_109 rfl (lv_at hl 4 rfl) ?_
        refine g_get C0 G k42 rfl hiX9 2 (by decide) mf_X9_9 rfl dX9_falls_110 ?_
        refine lv_iload hx hb dX9_falls_113 (lv_at hl 3 rfl) ?_
        refine lv_iconst (v := 0) hx hb dX9_falls_115 (by decide) ?_
        refine g_cI C0 G (g_runS C0 G (rest := [.ref v, .int (nI (641 + 30 * i + 3 * wk + 1)), .ref v]) (k_X9_at hfl (nI i) 0 ) hY_X9_at mm_X9_62 ms_X9_at ⟨(Nat.le_of_ble_eq_true rfl), (Nat.le_of_ble_eq_true rfl)⟩ rfl hl.1 rfl (Nat.le_of_ble_eq_true rfl) dX9_falls_116 ⟨(Nat.le_of_ble_eq_true rfl), (Nat.le_of_ble_eq_true rfl)⟩) (kx_no rfl) (fun r45 u44 H locs hp43 G => ?_)
        obtain ⟨zr, eu44⟩ := hp43
        replace zr := Eq.symm zr
        subst zr
        rw [eu44] at G
        refine lv_topv (v := nI (25 + 11 * i + 0)) (at_n i 0) ?_
        refine g_iald C0 G k41 0 rfl (vp_in_nI (by omega) (by omega)) dX9_falls_119 ?_
        refine lv_topv (v := (X9_fallsN_g3 g kind oth runs cro i a b2 bo s wk) (25 + 11 * i + 0)) (congrArg (X9_fallsN_g3 g kind oth runs cro i a b2 bo s wk) (nI_c (by omega))) ?_
        refine g_iast C0 G k41 0 rfl (vp_in_nI (by omega) (by omega)) dX9_falls_120 (fun H locs f46 hf46 G => ?_)
        have k47 : f46 v = some (.inl (cy 0, 6441, .inl (X9_fallsN_g4 g kind oth runs cro i a b2 bo s wk))) := (by have h9 := hus hf46; rw [nI_c (by omega)] at h9; exact h9)
        refine lv_aload_n hx hb dX9_falls_121 rfl (lv_at hl 4 rfl) ?_
        have k48 : f46 m = some (.inr (11, [.int c_th, .int c_re, .ref v, .ref im, .ref kp, .ref pa, .ref de, .ref ide, .int c_un, .int c_hi, .ref tx, .int c_tn, .int c_fa, .int c_rf, .ref pt, .int c_ps, .int c_pl, .int c_to, .ref so, .ref mo, .ref wh, .ref pf])) := hup hf46 (hne k42 k41 (by intro q; cases q)) k42
        refine g_get C0 G k48 rfl hiX9 2 (by decide) mf_X9_9 rfl dX9_falls_122 ?_
        refine lv_iload hx hb dX9_falls_125 (lv_at hl 0 rfl) ?_
        refine lv_iconst (v := 2) hx hb dX9_falls_127 (by decide) ?_
        refine lv_iadd hx hb dX9_falls_128 ?_
        refine lv_topv (v := nI (641 + 30 * i + 3 * wk + 2)) ((nI_add _ _)) ?_
        refine lv_aload_n hx hb dX9_falls_129 rfl (lv_at hl 4 rfl) ?_
        refine g_get C0 G k48 rfl hiX9 2 (by decide) mf_X9_9 rfl dX9_falls_130 ?_
        refine lv_iload hx hb dX9_falls_133 (lv_at hl 3 rfl) ?_
        refine lv_iconst (v := 2) hx hb dX9_falls_135 (by decide) ?_
        refine g_cI C0 G (g_runS C0 G (rest := [.ref v, .int (nI (641 + 30 * i + 3 * wk + 2)), .ref v]) (k_X9_at hfl (nI i) 2 ) hY_X9_at mm_X9_62 ms_X9_at ⟨(Nat.le_of_ble_eq_true rfl), (Nat.le_of_ble_eq_true rfl)⟩ rfl hl.1 rfl (Nat.le_of_ble_eq_true rfl) dX9_falls_136 ⟨(Nat.le_of_ble_eq_true rfl), (Nat.le_of_ble_eq_true rfl)⟩) (kx_no rfl) (fun r51 u50 H locs hp49 G => ?_)
        obtain ⟨zr, eu50⟩ := hp49
        replace zr := Eq.symm zr
        subst zr
        rw [eu50] at G
        refine lv_topv (v := nI (25 + 11 * i + 2)) (at_n i 2) ?_
        refine g_iald C0 G k47 0 rfl (vp_in_nI (by omega) (by omega)) dX9_falls_139 ?_
        refine lv_topv (v := (X9_fallsN_g4 g kind oth runs cro i a b2 bo s wk) (25 + 11 * i + 2)) (congrArg (X9_fallsN_g4 g kind oth runs cro i a b2 bo s wk) (nI_c (by omega))) ?_
        refine g_iast C0 G k47 0 rfl (vp_in_nI (by omega) (by omega)) dX9_falls_140 (fun H locs f52 hf52 G => ?_)
        have k53 : f52 v = some (.inl (cy 0, 6441, .inl (X9_fallsN_g5 g kind oth runs cro i a b2 bo s wk))) := (by have h9 := hus hf52; rw [nI_c (by omega)] at h9; exact h9)
        refine lv_aload_n hx hb dX9_falls_141 rfl (lv_at hl 4 rfl) ?_
        have k54 : f52 m = some (.inr (11, [.int c_th, .int c_re, .ref v, .ref im, .ref kp, .ref pa, .ref de, .ref ide, .int c_un, .int c_hi, .ref tx, .int c_tn, .int c_fa, .int c_rf, .ref pt, .int c_ps, .int c_pl, .int c_to, .ref so, .ref mo, .ref wh, .ref pf])) := hup hf52 (hne k48 k47 (by intro q; cases q)) k48
        refine g_get C0 G k54 rfl hiX9 2 (by decide) mf_X9_9 rfl dX9_falls_142 ?_
        refine lv_iload hx hb dX9_falls_145 (lv_at hl 3 rfl) ?_
        refine lv_iconst (v := 1) hx hb dX9_falls_147 (by decide) ?_
        refine g_cI C0 G (g_runS C0 G (rest := [.ref v]) (k_X9_at hfl (nI i) 1 ) hY_X9_at mm_X9_62 ms_X9_at ⟨(Nat.le_of_ble_eq_true rfl), (Nat.le_of_ble_eq_true rfl)⟩ rfl hl.1 rfl (Nat.le_of_ble_eq_true rfl) dX9_falls_148 ⟨(Nat.le_of_ble_eq_true rfl), (Nat.le_of_ble_eq_true rfl)⟩) (kx_no rfl) (fun r57 u56 H locs hp55 G => ?_)
        obtain ⟨zr, eu56⟩ := hp55
        replace zr := Eq.symm zr
        subst zr
        rw [eu56] at G
        refine lv_topv (v := nI (25 + 11 * i + 1)) (at_n i 1) ?_
        refine lv_dup2_11 hx hb dX9_falls_151 rfl rfl ?_
        refine g_iald C0 G k53 0 rfl (vp_in_nI (by omega) (by omega)) dX9_falls_152 ?_
        refine lv_topv (v := (X9_fallsN_g5 g kind oth runs cro i a b2 bo s wk) (25 + 11 * i + 1)) (congrArg (X9_fallsN_g5 g kind oth runs cro i a b2 bo s wk) (nI_c (by omega))) ?_
        refine lv_topv (v := nI wk) ((by rw [X9_fallsN_g5, upd_off (by omega)]; exact (by rw [X9_fallsN_g4, upd_off (by omega)]; exact (by rw [X9_fallsN_g3, upd_off (by omega)]; exact (by rw [X9_fallsN_g2]; split; exact (by rw [X9_fallsN_g1]; split; exact (by rw [X9_changesEnds_g1, upd_off (by omega)]; exact (by rw [X9_changesEnds_g0, upd_off (by omega)]; exact ((rd_X9_scores_25_11_i_1 (by omega) (by omega) (by omega) (by omega) (by omega) (by omega)).trans hwk))); exact ((rd_X9_scores_25_11_i_1 (by omega) (by omega) (by omega) (by omega) (by omega) (by omega)).trans hwk)); exact (by rw [X9_changesEnds_g1, upd_off (by omega)]; exact (by rw [X9_changesEnds_g0, upd_off (by omega)]; exact (by rw [X9_fallsN_g1]; split; exact (by rw [X9_changesEnds_g1, upd_off (by omega)]; exact (by rw [X9_changesEnds_g0, upd_off (by omega)]; exact ((rd_X9_scores_25_11_i_1 (by omega) (by omega) (by omega) (by omega) (by omega) (by omega)).trans hwk))); exact ((rd_X9_scores_25_11_i_1 (by omega) (by omega) (by omega) (by omega) (by omega) (by omega)).trans hwk))))))))) ?_
        refine lv_iconst (v := 1) hx hb dX9_falls_153 (by decide) ?_
        refine lv_iadd hx hb dX9_falls_154 ?_
        refine lv_topv (v := nI (wk + 1)) ((nI_add _ _)) ?_
        refine g_iast C0 G k53 0 rfl (vp_in_nI (by omega) (by omega)) dX9_falls_155 (fun H locs f58 hf58 G => ?_)
        have k59 : f58 v = some (.inl (cy 0, 6441, .inl (X9_fallsN_g6 g kind oth runs cro i a b2 bo s wk))) := (by have h9 := hus hf58; rw [nI_c (by omega)] at h9; exact h9)
        refine lv_aload_n hx hb dX9_falls_156 rfl (lv_at hl 4 rfl) ?_
        have k60 : f58 m = some (.inr (11, [.int c_th, .int c_re, .ref v, .ref im, .ref kp, .ref pa, .ref de, .ref ide, .int c_un, .int c_hi, .ref tx, .int c_tn, .int c_fa, .int c_rf, .ref pt, .int c_ps, .int c_pl, .int c_to, .ref so, .ref mo, .ref wh, .ref pf])) := hup hf58 (hne k54 k53 (by intro q; cases q)) k54
        refine g_get C0 G k60 rfl hiX9 2 (by decide) mf_X9_9 rfl dX9_falls_157 ?_
        refine lv_iload hx hb dX9_falls_160 (lv_at hl 3 rfl) ?_
        refine lv_iconst (v := 1) hx hb dX9_falls_162 (by decide) ?_
        refine g_cI C0 G (g_runS C0 G (rest := [.ref v]) (k_X9_at hfl (nI i) 1 ) hY_X9_at mm_X9_62 ms_X9_at ⟨(Nat.le_of_ble_eq_true rfl), (Nat.le_of_ble_eq_true rfl)⟩ rfl hl.1 rfl (Nat.le_of_ble_eq_true rfl) dX9_falls_163 ⟨(Nat.le_of_ble_eq_true rfl), (Nat.le_of_ble_eq_true rfl)⟩) (kx_no rfl) (fun r63 u62 H locs hp61 G => ?_)
        obtain ⟨zr, eu62⟩ := hp61
        replace zr := Eq.symm zr
        subst zr
        rw [eu62] at G
        refine lv_topv (v := nI (25 + 11 * i + 1)) (at_n i 1) ?_
        refine g_iald C0 G k59 0 rfl (vp_in_nI (by omega) (by omega)) dX9_falls_166 ?_
        refine lv_topv (v := (X9_fallsN_g6 g kind oth runs cro i a b2 bo s wk) (25 + 11 * i + 1)) (congrArg (X9_fallsN_g6 g kind oth runs cro i a b2 bo s wk) (nI_c (by omega))) ?_
        refine lv_topv (v := nI (wk + 1)) ((by rw [X9_fallsN_g6, upd_at])) ?_
        refine lv_istore (lv' := [(10, .int (nI (wk + 1))), (9, .int (nI (641 + 30 * i + 3 * wk))), (8, .int (nI (X9_fallsN_n0 oth a b2))), (7, .int (-1)), (6, .int (nI i)), (0, .ref m), (1, .int way), (2, .int (nI kind)), (3, .int oth), (4, .int runs), (5, .int cro)]) hx hb dX9_falls_167 hl (by decide) rfl (fun ls hl => ?_)
        refine lv_iload_n hx hb dX9_falls_169 rfl (lv_at hl 6 rfl) ?_
        refine lv_iconst (v := 5) hx hb dX9_falls_170 (by decide) ?_
        have J66 : ∀ (y65 : Nat → Int32) (_ : y65 = (X9_fallsN_g10 g way kind oth runs cro i a b2 bo s wk)) (f67 : Hf) (H : Heap) (locs : List Loc) (ls : Array Slot), f67 v = some (.inl (cy 0, 6441, .inl y65)) → hFrL f58 f67 [v] → hG D (hA f sz) f67 s9 H locs → lv_has ls 11 [(10, .int (nI (wk + 1))), (9, .int (nI (641 + 30 * i + 3 * wk))), (8, .int (nI (X9_fallsN_n0 oth a b2))), (7, .int (-1)), (6, .int (nI i)), (0, .ref m), (1, .int way), (2, .int (nI kind)), (3, .int oth), (4, .int runs), (5, .int cro)] → W p9 l e9 ({ frames := 3, cells := 0, slots := 0, locals := 71 } : Room) s9 m9 ([.ref m, .int way, .int (nI kind), .int oth, .int runs, .int cro] : List Value).toArray b9 t9 c9 H locs 0 0 (vx_MQ b9 (hQi (fun r u => r = (X9_fallsN_r11 wk) ∧ u v = some (.inl (cy 0, 6441, .inl (X9_fallsN_g12 g way kind oth runs cro i a b2 bo s cm wk e))) ∧ hFrL f u [v]) D f sz) (hPx hNo D f sz) ([.ref m, .int way, .int (nI kind), .int oth, .int runs, .int cro] : List Value).toArray s9 0 0 (hA f sz)) (F0 m9 216 ls []) := by
          intro y65 ey65 f67 H locs ls k68 fr69 G hl
          replace ey65 := Eq.symm ey65
          subst ey65
          refine lv_aload_n hx hb dX9_falls_216 rfl (lv_at hl 5 rfl) ?_
          refine lv_iload hx hb dX9_falls_217 (lv_at hl 2 rfl) ?_
          refine lv_iload hx hb dX9_falls_219 (lv_at hl 3 rfl) ?_
          refine lv_iload_n hx hb dX9_falls_221 rfl (lv_at hl 6 rfl) ?_
          have k70 : f67 m = some (.inr (11, [.int c_th, .int c_re, .ref v, .ref im, .ref kp, .ref pa, .ref de, .ref ide, .int c_un, .int c_hi, .ref tx, .int c_tn, .int c_fa, .int c_rf, .ref pt, .int c_ps, .int c_pl, .int c_to, .ref so, .ref mo, .ref wh, .ref pf])) := fr69 _ _ (by simp only [List.mem_cons, List.not_mem_nil, or_false]; intro q; exact (hne k60 k59 (by intro q; cases q)) q) k60
          refine g_cV C0 G (g_runV C0 G (rest := []) (k_X9_leavesN hfl way k70 k68 (by rw [X9_fallsN_g10]; split; exact (by rw [X9_fallsN_g6, upd_off (by omega)]; exact (by rw [X9_fallsN_g5, upd_off (by omega)]; exact (by rw [X9_fallsN_g4, upd_off (by omega)]; exact (by rw [X9_fallsN_g3, upd_off (by omega)]; exact (by rw [X9_fallsN_g2]; split; exact (by rw [X9_fallsN_g1]; split; exact ((rd_X9_changesEnds_4).trans ((rd_X9_scores_4 (by omega) (by omega) (by omega) (by omega) (by omega) (by omega)).trans h4)); exact ((rd_X9_scores_4 (by omega) (by omega) (by omega) (by omega) (by omega) (by omega)).trans h4)); exact ((rd_X9_changesEnds_4).trans (by rw [X9_fallsN_g1]; split; exact ((rd_X9_changesEnds_4).trans ((rd_X9_scores_4 (by omega) (by omega) (by omega) (by omega) (by omega) (by omega)).trans h4)); exact ((rd_X9_scores_4 (by omega) (by omega) (by omega) (by omega) (by omega) (by omega)).trans h4)))))))); exact (by rw [X9_fallsN_g9, upd_off (by omega)]; exact (by rw [X9_fallsN_g7, upd_off (by omega)]; exact (by rw [X9_fallsN_g6, upd_off (by omega)]; exact (by rw [X9_fallsN_g5, upd_off (by omega)]; exact (by rw [X9_fallsN_g4, upd_off (by omega)]; exact (by rw [X9_fallsN_g3, upd_off (by omega)]; exact (by rw [X9_fallsN_g2]; split; exact (by rw [X9_fallsN_g1]; split; exact ((rd_X9_changesEnds_4).trans ((rd_X9_scores_4 (by omega) (by omega) (by omega) (by omega) (by omega) (by omega)).trans h4)); exact ((rd_X9_scores_4 (by omega) (by omega) (by omega) (by omega) (by omega) (by omega)).trans h4)); exact ((rd_X9_changesEnds_4).trans (by rw [X9_fallsN_g1]; split; exact ((rd_X9_changesEnds_4).trans ((rd_X9_scores_4 (by omega) (by omega) (by omega) (by omega) (by omega) (by omega)).trans h4)); exact ((rd_X9_scores_4 (by omega) (by omega) (by omega) (by omega) (by omega) (by omega)).trans h4))))))))))) hi (by rw [X9_fallsN_g10]; split; exact (by rw [X9_fallsN_g6, upd_off (by omega)]; exact (by rw [X9_fallsN_g5, upd_off (by omega)]; exact (by rw [X9_fallsN_g4, upd_off (by omega)]; exact (by rw [X9_fallsN_g3, upd_off (by omega)]; exact (by rw [X9_fallsN_g2]; split; exact (by rw [X9_fallsN_g1]; split; exact ((rd_X9_changesEnds_22).trans ((rd_X9_scores_22 (by omega) (by omega) (by omega) (by omega) (by omega) (by omega)).trans h22)); exact ((rd_X9_scores_22 (by omega) (by omega) (by omega) (by omega) (by omega) (by omega)).trans h22)); exact ((rd_X9_changesEnds_22).trans (by rw [X9_fallsN_g1]; split; exact ((rd_X9_changesEnds_22).trans ((rd_X9_scores_22 (by omega) (by omega) (by omega) (by omega) (by omega) (by omega)).trans h22)); exact ((rd_X9_scores_22 (by omega) (by omega) (by omega) (by omega) (by omega) (by omega)).trans h22)))))))); exact (by rw [X9_fallsN_g9, upd_off (by omega)]; exact (by rw [X9_fallsN_g7, upd_off (by omega)]; exact (by rw [X9_fallsN_g6, upd_off (by omega)]; exact (by rw [X9_fallsN_g5, upd_off (by omega)]; exact (by rw [X9_fallsN_g4, upd_off (by omega)]; exact (by rw [X9_fallsN_g3, upd_off (by omega)]; exact (by rw [X9_fallsN_g2]; split; exact (by rw [X9_fallsN_g1]; split; exact ((rd_X9_changesEnds_22).trans ((rd_X9_scores_22 (by omega) (by omega) (by omega) (by omega) (by omega) (by omega)).trans h22)); exact ((rd_X9_scores_22 (by omega) (by omega) (by omega) (by omega) (by omega) (by omega)).trans h22)); exact ((rd_X9_changesEnds_22).trans (by rw [X9_fallsN_g1]; split; exact ((rd_X9_changesEnds_22).trans ((rd_X9_scores_22 (by omega) (by omega) (by omega) (by omega) (by omega) (by omega)).trans h22)); exact ((rd_X9_scores_22 (by omega) (by omega) (by omega) (by omega) (by omega) (by omega)).trans h22))))))))))) hs1 hs (by omega)) k70 rfl hY_X9_leaves mm_X9_158 mi_X9_leaves ml_X9_leaves ⟨(Nat.le_of_ble_eq_true rfl), (Nat.le_of_ble_eq_true rfl)⟩ rfl hl.1 rfl (Nat.le_of_ble_eq_true rfl) dX9_falls_222 ⟨(Nat.le_of_ble_eq_true rfl), (Nat.le_of_ble_eq_true rfl)⟩) (kx_no rfl) (fun u72 H locs hp71 G => ?_)
          obtain ⟨k73, fr74⟩ := hp71
          refine lv_aload_n hx hb dX9_falls_225 rfl (lv_at hl 5 rfl) ?_
          have k75 : u72 m = some (.inr (11, [.int c_th, .int c_re, .ref v, .ref im, .ref kp, .ref pa, .ref de, .ref ide, .int c_un, .int c_hi, .ref tx, .int c_tn, .int c_fa, .int c_rf, .ref pt, .int c_ps, .int c_pl, .int c_to, .ref so, .ref mo, .ref wh, .ref pf])) := fr74 _ _ (by simp only [List.mem_cons, List.not_mem_nil, or_false]; intro q; exact (hne k70 k68 (by intro q; cases q)) q) k70
          refine g_cV C0 G (g_runV C0 G (rest := []) (k_X9_completes hfl k75 k73 ((rd_X9_leavesN_4 (by omega) (by omega) (by omega) (by omega)).trans (by rw [X9_fallsN_g10]; split; exact (by rw [X9_fallsN_g6, upd_off (by omega)]; exact (by rw [X9_fallsN_g5, upd_off (by omega)]; exact (by rw [X9_fallsN_g4, upd_off (by omega)]; exact (by rw [X9_fallsN_g3, upd_off (by omega)]; exact (by rw [X9_fallsN_g2]; split; exact (by rw [X9_fallsN_g1]; split; exact ((rd_X9_changesEnds_4).trans ((rd_X9_scores_4 (by omega) (by omega) (by omega) (by omega) (by omega) (by omega)).trans h4)); exact ((rd_X9_scores_4 (by omega) (by omega) (by omega) (by omega) (by omega) (by omega)).trans h4)); exact ((rd_X9_changesEnds_4).trans (by rw [X9_fallsN_g1]; split; exact ((rd_X9_changesEnds_4).trans ((rd_X9_scores_4 (by omega) (by omega) (by omega) (by omega) (by omega) (by omega)).trans h4)); exact ((rd_X9_scores_4 (by omega) (by omega) (by omega) (by omega) (by omega) (by omega)).trans h4)))))))); exact (by rw [X9_fallsN_g9, upd_off (by omega)]; exact (by rw [X9_fallsN_g7, upd_off (by omega)]; exact (by rw [X9_fallsN_g6, upd_off (by omega)]; exact (by rw [X9_fallsN_g5, upd_off (by omega)]; exact (by rw [X9_fallsN_g4, upd_off (by omega)]; exact (by rw [X9_fallsN_g3, upd_off (by omega)]; exact (by rw [X9_fallsN_g2]; split; exact (by rw [X9_fallsN_g1]; split; exact ((rd_X9_changesEnds_4).trans ((rd_X9_scores_4 (by omega) (by omega) (by omega) (by omega) (by omega) (by omega)).trans h4)); exact ((rd_X9_scores_4 (by omega) (by omega) (by omega) (by omega) (by omega) (by omega)).trans h4)); exact ((rd_X9_changesEnds_4).trans (by rw [X9_fallsN_g1]; split; exact ((rd_X9_changesEnds_4).trans ((rd_X9_scores_4 (by omega) (by omega) (by omega) (by omega) (by omega) (by omega)).trans h4)); exact ((rd_X9_scores_4 (by omega) (by omega) (by omega) (by omega) (by omega) (by omega)).trans h4)))))))))))) hi ((rd_X9_leavesN_9 (by omega) (by omega) (by omega) (by omega)).trans (by rw [X9_fallsN_g10]; split; exact (by rw [X9_fallsN_g6, upd_off (by omega)]; exact (by rw [X9_fallsN_g5, upd_off (by omega)]; exact (by rw [X9_fallsN_g4, upd_off (by omega)]; exact (by rw [X9_fallsN_g3, upd_off (by omega)]; exact (by rw [X9_fallsN_g2]; split; exact (by rw [X9_fallsN_g1]; split; exact ((rd_X9_changesEnds_9).trans ((rd_X9_scores_9 (by omega) (by omega) (by omega) (by omega) (by omega) (by omega)).trans h9)); exact ((rd_X9_scores_9 (by omega) (by omega) (by omega) (by omega) (by omega) (by omega)).trans h9)); exact ((rd_X9_changesEnds_9).trans (by rw [X9_fallsN_g1]; split; exact ((rd_X9_changesEnds_9).trans ((rd_X9_scores_9 (by omega) (by omega) (by omega) (by omega) (by omega) (by omega)).trans h9)); exact ((rd_X9_scores_9 (by omega) (by omega) (by omega) (by omega) (by omega) (by omega)).trans h9)))))))); exact (by rw [X9_fallsN_g9, upd_off (by omega)]; exact (by rw [X9_fallsN_g7, upd_off (by omega)]; exact (by rw [X9_fallsN_g6, upd_off (by omega)]; exact (by rw [X9_fallsN_g5, upd_off (by omega)]; exact (by rw [X9_fallsN_g4, upd_off (by omega)]; exact (by rw [X9_fallsN_g3, upd_off (by omega)]; exact (by rw [X9_fallsN_g2]; split; exact (by rw [X9_fallsN_g1]; split; exact ((rd_X9_changesEnds_9).trans ((rd_X9_scores_9 (by omega) (by omega) (by omega) (by omega) (by omega) (by omega)).trans h9)); exact ((rd_X9_scores_9 (by omega) (by omega) (by omega) (by omega) (by omega) (by omega)).trans h9)); exact ((rd_X9_changesEnds_9).trans (by rw [X9_fallsN_g1]; split; exact ((rd_X9_changesEnds_9).trans ((rd_X9_scores_9 (by omega) (by omega) (by omega) (by omega) (by omega) (by omega)).trans h9)); exact ((rd_X9_scores_9 (by omega) (by omega) (by omega) (by omega) (by omega) (by omega)).trans h9)))))))))))) hbo ((rd_X9_leavesN_25_11_i_8 (by omega) (by omega) (by omega) (by omega)).trans (by rw [X9_fallsN_g10]; split; exact (by rw [X9_fallsN_g6, upd_off (by omega)]; exact (by rw [X9_fallsN_g5, upd_off (by omega)]; exact (by rw [X9_fallsN_g4, upd_off (by omega)]; exact (by rw [X9_fallsN_g3, upd_off (by omega)]; exact (by rw [X9_fallsN_g2]; split; exact (by rw [X9_fallsN_g1]; split; exact (by rw [X9_changesEnds_g1, upd_off (by omega)]; exact (by rw [X9_changesEnds_g0, upd_off (by omega)]; exact ((rd_X9_scores_25_11_i_8 (by omega) (by omega) (by omega) (by omega) (by omega) (by omega)).trans hcm))); exact ((rd_X9_scores_25_11_i_8 (by omega) (by omega) (by omega) (by omega) (by omega) (by omega)).trans hcm)); exact (by rw [X9_changesEnds_g1, upd_off (by omega)]; exact (by rw [X9_changesEnds_g0, upd_off (by omega)]; exact (by rw [X9_fallsN_g1]; split; exact (by rw [X9_changesEnds_g1, upd_off (by omega)]; exact (by rw [X9_changesEnds_g0, upd_off (by omega)]; exact ((rd_X9_scores_25_11_i_8 (by omega) (by omega) (by omega) (by omega) (by omega) (by omega)).trans hcm))); exact ((rd_X9_scores_25_11_i_8 (by omega) (by omega) (by omega) (by omega) (by omega) (by omega)).trans hcm))))))))); exact (by rw [X9_fallsN_g9, upd_off (by omega)]; exact (by rw [X9_fallsN_g7, upd_off (by omega)]; exact (by rw [X9_fallsN_g6, upd_off (by omega)]; exact (by rw [X9_fallsN_g5, upd_off (by omega)]; exact (by rw [X9_fallsN_g4, upd_off (by omega)]; exact (by rw [X9_fallsN_g3, upd_off (by omega)]; exact (by rw [X9_fallsN_g2]; split; exact (by rw [X9_fallsN_g1]; split; exact (by rw [X9_changesEnds_g1, upd_off (by omega)]; exact (by rw [X9_changesEnds_g0, upd_off (by omega)]; exact ((rd_X9_scores_25_11_i_8 (by omega) (by omega) (by omega) (by omega) (by omega) (by omega)).trans hcm))); exact ((rd_X9_scores_25_11_i_8 (by omega) (by omega) (by omega) (by omega) (by omega) (by omega)).trans hcm)); exact (by rw [X9_changesEnds_g1, upd_off (by omega)]; exact (by rw [X9_changesEnds_g0, upd_off (by omega)]; exact (by rw [X9_fallsN_g1]; split; exact (by rw [X9_changesEnds_g1, upd_off (by omega)]; exact (by rw [X9_changesEnds_g0, upd_off (by omega)]; exact ((rd_X9_scores_25_11_i_8 (by omega) (by omega) (by omega) (by omega) (by omega) (by omega)).trans hcm))); exact ((rd_X9_scores_25_11_i_8 (by omega) (by omega) (by omega) (by omega) (by omega) (by omega)).trans hcm))))))))))))) hc) k75 rfl hY_X9_completes mm_X9_155 mi_X9_completes ml_X9_completes ⟨(Nat.le_of_ble_eq_true rfl), (Nat.le_of_ble_eq_true rfl)⟩ rfl hl.1 rfl (Nat.le_of_ble_eq_true rfl) dX9_falls_226 ⟨(Nat.le_of_ble_eq_true rfl), (Nat.le_of_ble_eq_true rfl)⟩) (kx_no rfl) (fun u77 H locs hp76 G => ?_)
          obtain ⟨k78, fr79⟩ := hp76
          refine lv_aload_n hx hb dX9_falls_229 rfl (lv_at hl 5 rfl) ?_
          refine lv_iload hx hb dX9_falls_230 (lv_at hl 3 rfl) ?_
          refine lv_if_ge (tgt := 239) hx hb dX9_falls_232 (by decide) (fun c80 => absurd c80 (by decide)) (fun _ => ?_)
          refine lv_iconst (v := 1) hx hb dX9_falls_235 (by decide) ?_
          refine lv_goto (tgt := 240) hx hb dX9_falls_236 (by decide) ?_
          refine lv_iconst (v := 0) hx hb dX9_falls_240 (by decide) ?_
          have k81 : u77 m = some (.inr (11, [.int c_th, .int c_re, .ref v, .ref im, .ref kp, .ref pa, .ref de, .ref ide, .int c_un, .int c_hi, .ref tx, .int c_tn, .int c_fa, .int c_rf, .ref pt, .int c_ps, .int c_pl, .int c_to, .ref so, .ref mo, .ref wh, .ref pf])) := fr79 _ _ (by simp only [List.mem_cons, List.not_mem_nil, or_false]; intro q; exact (hne k75 k73 (by intro q; cases q)) q) k75
          refine g_cV C0 G (g_runV C0 G (rest := []) (k_X9_looks hfl 1 0 k81 k78 ((rd_X9_completes_4 (by omega) (by omega) (by omega)).trans ((rd_X9_leavesN_4 (by omega) (by omega) (by omega) (by omega)).trans (by rw [X9_fallsN_g10]; split; exact (by rw [X9_fallsN_g6, upd_off (by omega)]; exact (by rw [X9_fallsN_g5, upd_off (by omega)]; exact (by rw [X9_fallsN_g4, upd_off (by omega)]; exact (by rw [X9_fallsN_g3, upd_off (by omega)]; exact (by rw [X9_fallsN_g2]; split; exact (by rw [X9_fallsN_g1]; split; exact ((rd_X9_changesEnds_4).trans ((rd_X9_scores_4 (by omega) (by omega) (by omega) (by omega) (by omega) (by omega)).trans h4)); exact ((rd_X9_scores_4 (by omega) (by omega) (by omega) (by omega) (by omega) (by omega)).trans h4)); exact ((rd_X9_changesEnds_4).trans (by rw [X9_fallsN_g1]; split; exact ((rd_X9_changesEnds_4).trans ((rd_X9_scores_4 (by omega) (by omega) (by omega) (by omega) (by omega) (by omega)).trans h4)); exact ((rd_X9_scores_4 (by omega) (by omega) (by omega) (by omega) (by omega) (by omega)).trans h4)))))))); exact (by rw [X9_fallsN_g9, upd_off (by omega)]; exact (by rw [X9_fallsN_g7, upd_off (by omega)]; exact (by rw [X9_fallsN_g6, upd_off (by omega)]; exact (by rw [X9_fallsN_g5, upd_off (by omega)]; exact (by rw [X9_fallsN_g4, upd_off (by omega)]; exact (by rw [X9_fallsN_g3, upd_off (by omega)]; exact (by rw [X9_fallsN_g2]; split; exact (by rw [X9_fallsN_g1]; split; exact ((rd_X9_changesEnds_4).trans ((rd_X9_scores_4 (by omega) (by omega) (by omega) (by omega) (by omega) (by omega)).trans h4)); exact ((rd_X9_scores_4 (by omega) (by omega) (by omega) (by omega) (by omega) (by omega)).trans h4)); exact ((rd_X9_changesEnds_4).trans (by rw [X9_fallsN_g1]; split; exact ((rd_X9_changesEnds_4).trans ((rd_X9_scores_4 (by omega) (by omega) (by omega) (by omega) (by omega) (by omega)).trans h4)); exact ((rd_X9_scores_4 (by omega) (by omega) (by omega) (by omega) (by omega) (by omega)).trans h4))))))))))))) hi ((rd_X9_completes_1 (by omega) (by omega) (by omega)).trans ((rd_X9_leavesN_1 (by omega) (by omega) (by omega) (by omega)).trans (by rw [X9_fallsN_g10]; split; exact (by rw [X9_fallsN_g6, upd_off (by omega)]; exact (by rw [X9_fallsN_g5, upd_off (by omega)]; exact (by rw [X9_fallsN_g4, upd_off (by omega)]; exact (by rw [X9_fallsN_g3, upd_off (by omega)]; exact (by rw [X9_fallsN_g2]; split; exact (by rw [X9_fallsN_g1]; split; exact ((rd_X9_changesEnds_1).trans ((rd_X9_scores_1 (by omega) (by omega) (by omega) (by omega) (by omega) (by omega)).trans h1)); exact ((rd_X9_scores_1 (by omega) (by omega) (by omega) (by omega) (by omega) (by omega)).trans h1)); exact ((rd_X9_changesEnds_1).trans (by rw [X9_fallsN_g1]; split; exact ((rd_X9_changesEnds_1).trans ((rd_X9_scores_1 (by omega) (by omega) (by omega) (by omega) (by omega) (by omega)).trans h1)); exact ((rd_X9_scores_1 (by omega) (by omega) (by omega) (by omega) (by omega) (by omega)).trans h1)))))))); exact (by rw [X9_fallsN_g9, upd_off (by omega)]; exact (by rw [X9_fallsN_g7, upd_off (by omega)]; exact (by rw [X9_fallsN_g6, upd_off (by omega)]; exact (by rw [X9_fallsN_g5, upd_off (by omega)]; exact (by rw [X9_fallsN_g4, upd_off (by omega)]; exact (by rw [X9_fallsN_g3, upd_off (by omega)]; exact (by rw [X9_fallsN_g2]; split; exact (by rw [X9_fallsN_g1]; split; exact ((rd_X9_changesEnds_1).trans ((rd_X9_scores_1 (by omega) (by omega) (by omega) (by omega) (by omega) (by omega)).trans h1)); exact ((rd_X9_scores_1 (by omega) (by omega) (by omega) (by omega) (by omega) (by omega)).trans h1)); exact ((rd_X9_changesEnds_1).trans (by rw [X9_fallsN_g1]; split; exact ((rd_X9_changesEnds_1).trans ((rd_X9_scores_1 (by omega) (by omega) (by omega) (by omega) (by omega) (by omega)).trans h1)); exact ((rd_X9_scores_1 (by omega) (by omega) (by omega) (by omega) (by omega) (by omega)).trans h1))))))))))))) he hie (fun q => by have e9 : (X9_completes_g11 (X9_leavesN_g1 (X9_fallsN_g10 g way kind oth runs cro i a b2 bo s wk) (X9_fallsN_n0 oth a b2) way i s) i bo cm) 14 = g 14 := ((rd_X9_completes_14 (by omega) (by omega) (by omega)).trans ((rd_X9_leavesN_14 (by omega) (by omega) (by omega) (by omega)).trans (by rw [X9_fallsN_g10]; split; exact (by rw [X9_fallsN_g6, upd_off (by omega)]; exact (by rw [X9_fallsN_g5, upd_off (by omega)]; exact (by rw [X9_fallsN_g4, upd_off (by omega)]; exact (by rw [X9_fallsN_g3, upd_off (by omega)]; exact (by rw [X9_fallsN_g2]; split; exact (by rw [X9_fallsN_g1]; split; exact ((rd_X9_changesEnds_14).trans (rd_X9_scores_14 (by omega) (by omega) (by omega) (by omega) (by omega) (by omega))); exact (rd_X9_scores_14 (by omega) (by omega) (by omega) (by omega) (by omega) (by omega))); exact ((rd_X9_changesEnds_14).trans (by rw [X9_fallsN_g1]; split; exact ((rd_X9_changesEnds_14).trans (rd_X9_scores_14 (by omega) (by omega) (by omega) (by omega) (by omega) (by omega))); exact (rd_X9_scores_14 (by omega) (by omega) (by omega) (by omega) (by omega) (by omega))))))))); exact (by rw [X9_fallsN_g9, upd_off (by omega)]; exact (by rw [X9_fallsN_g7, upd_off (by omega)]; exact (by rw [X9_fallsN_g6, upd_off (by omega)]; exact (by rw [X9_fallsN_g5, upd_off (by omega)]; exact (by rw [X9_fallsN_g4, upd_off (by omega)]; exact (by rw [X9_fallsN_g3, upd_off (by omega)]; exact (by rw [X9_fallsN_g2]; split; exact (by rw [X9_fallsN_g1]; split; exact ((rd_X9_changesEnds_14).trans (rd_X9_scores_14 (by omega) (by omega) (by omega) (by omega) (by omega) (by omega))); exact (rd_X9_scores_14 (by omega) (by omega) (by omega) (by omega) (by omega) (by omega))); exact ((rd_X9_changesEnds_14).trans (by rw [X9_fallsN_g1]; split; exact ((rd_X9_changesEnds_14).trans (rd_X9_scores_14 (by omega) (by omega) (by omega) (by omega) (by omega) (by omega))); exact (rd_X9_scores_14 (by omega) (by omega) (by omega) (by omega) (by omega) (by omega)))))))))))))); rw [e9]; exact hrr q) ((rd_X9_completes_22 (by omega) (by omega) (by omega)).trans ((rd_X9_leavesN_22 (by omega) (by omega) (by omega) (by omega)).trans (by rw [X9_fallsN_g10]; split; exact (by rw [X9_fallsN_g6, upd_off (by omega)]; exact (by rw [X9_fallsN_g5, upd_off (by omega)]; exact (by rw [X9_fallsN_g4, upd_off (by omega)]; exact (by rw [X9_fallsN_g3, upd_off (by omega)]; exact (by rw [X9_fallsN_g2]; split; exact (by rw [X9_fallsN_g1]; split; exact ((rd_X9_changesEnds_22).trans ((rd_X9_scores_22 (by omega) (by omega) (by omega) (by omega) (by omega) (by omega)).trans h22)); exact ((rd_X9_scores_22 (by omega) (by omega) (by omega) (by omega) (by omega) (by omega)).trans h22)); exact ((rd_X9_changesEnds_22).trans (by rw [X9_fallsN_g1]; split; exact ((rd_X9_changesEnds_22).trans ((rd_X9_scores_22 (by omega) (by omega) (by omega) (by omega) (by omega) (by omega)).trans h22)); exact ((rd_X9_scores_22 (by omega) (by omega) (by omega) (by omega) (by omega) (by omega)).trans h22)))))))); exact (by rw [X9_fallsN_g9, upd_off (by omega)]; exact (by rw [X9_fallsN_g7, upd_off (by omega)]; exact (by rw [X9_fallsN_g6, upd_off (by omega)]; exact (by rw [X9_fallsN_g5, upd_off (by omega)]; exact (by rw [X9_fallsN_g4, upd_off (by omega)]; exact (by rw [X9_fallsN_g3, upd_off (by omega)]; exact (by rw [X9_fallsN_g2]; split; exact (by rw [X9_fallsN_g1]; split; exact ((rd_X9_changesEnds_22).trans ((rd_X9_scores_22 (by omega) (by omega) (by omega) (by omega) (by omega) (by omega)).trans h22)); exact ((rd_X9_scores_22 (by omega) (by omega) (by omega) (by omega) (by omega) (by omega)).trans h22)); exact ((rd_X9_changesEnds_22).trans (by rw [X9_fallsN_g1]; split; exact ((rd_X9_changesEnds_22).trans ((rd_X9_scores_22 (by omega) (by omega) (by omega) (by omega) (by omega) (by omega)).trans h22)); exact ((rd_X9_scores_22 (by omega) (by omega) (by omega) (by omega) (by omega) (by omega)).trans h22))))))))))))) (by omega) (Or.inr rfl) (Or.inl rfl)) k81 rfl hY_X9_looks mm_X9_139 mi_X9_looks ml_X9_looks ⟨(Nat.le_of_ble_eq_true rfl), (Nat.le_of_ble_eq_true rfl)⟩ rfl hl.1 rfl (Nat.le_of_ble_eq_true rfl) dX9_falls_241 ⟨(Nat.le_of_ble_eq_true rfl), (Nat.le_of_ble_eq_true rfl)⟩) (kx_no rfl) (fun u83 H locs hp82 G => ?_)
          obtain ⟨k84, fr85⟩ := hp82
          refine lv_iload hx hb dX9_falls_244 (lv_at hl 0 rfl) ?_
          exact g_iret C0 G hr dX9_falls_246 (Nat.le_of_ble_eq_true rfl) (Nat.le_of_ble_eq_true rfl) (by exact ⟨(by rw [X9_fallsN_r11]), (by rw [(by rw [X9_fallsN_g12] : (X9_fallsN_g12 g way kind oth runs cro i a b2 bo s cm wk e) = (X9_looks_g11 (X9_completes_g11 (X9_leavesN_g1 (X9_fallsN_g10 g way kind oth runs cro i a b2 bo s wk) (X9_fallsN_n0 oth a b2) way i s) i bo cm) 1 0 i e s))]; exact k84), (fun a9 e9 h7 h8 => fr85 _ _ (fun q => h7 (by simp only [List.mem_cons, List.not_mem_nil, or_false] at q ⊢; first | exact q | (rcases q with q <;> simp [q]) | omega)) (fr79 _ _ (fun q => h7 (by simp only [List.mem_cons, List.not_mem_nil, or_false] at q ⊢; first | exact q | (rcases q with q <;> simp [q]) | omega)) (fr74 _ _ (fun q => h7 (by simp only [List.mem_cons, List.not_mem_nil, or_false] at q ⊢; first | exact q | (rcases q with q <;> simp [q]) | omega)) (fr69 _ _ (fun q => h7 (by simp only [List.mem_cons, List.not_mem_nil, or_false] at q ⊢; first | exact q | (rcases q with q <;> simp [q]) | omega)) (hup hf58 (fun q => h7 (by rw [q]; simp)) (hup hf52 (fun q => h7 (by rw [q]; simp)) (hup hf46 (fun q => h7 (by rw [q]; simp)) (hup hf40 (fun q => h7 (by rw [q]; simp)) (fr35 _ _ (fun q => h7 (by simp only [List.mem_cons, List.not_mem_nil, or_false] at q ⊢; first | exact q | (rcases q with q <;> simp [q]) | omega)) (fr29 _ _ (fun q => h7 (by simp only [List.mem_cons, List.not_mem_nil, or_false] at q ⊢; first | exact q | (rcases q with q <;> simp [q]) | omega)) (fr23 _ _ (fun q => h7 (by simp only [List.mem_cons, List.not_mem_nil, or_false] at q ⊢; first | exact q | (rcases q with q <;> simp [q]) | omega)) (h8))))))))))))⟩)
        refine lv_icmp_eq (tgt := 216) hx hb dX9_falls_171 (by decide) (fun c64 => ?_) (fun c64 => ?_)
        · exact J66 (X9_fallsN_g6 g kind oth runs cro i a b2 bo s wk) (by rw [X9_fallsN_g10, if_pos c64]) f58 _ _ _ k59 (fun a9 e9 h7 h8 => h8) G (lv_sub hl [0, 1, 2, 3, 4, 5, 6, 7, 8, 9, 10] rfl)
        · refine lv_aload_n hx hb dX9_falls_174 rfl (lv_at hl 5 rfl) ?_
          refine g_get C0 G k60 rfl hiX9 2 (by decide) mf_X9_9 rfl dX9_falls_175 ?_
          refine lv_iload hx hb dX9_falls_178 (lv_at hl 4 rfl) ?_
          refine lv_iload hx hb dX9_falls_180 (lv_at hl 2 rfl) ?_
          refine lv_iconst (v := 5) hx hb dX9_falls_182 (by decide) ?_
          refine g_cI C0 G (g_runS C0 G (rest := [.ref v]) (k_X9_batterAt hfl (nI i) (nI (X9_fallsN_n0 oth a b2)) 5 ) hY_X9_batterAt mm_X9_65 ms_X9_batterAt ⟨(Nat.le_of_ble_eq_true rfl), (Nat.le_of_ble_eq_true rfl)⟩ rfl hl.1 rfl (Nat.le_of_ble_eq_true rfl) dX9_falls_183 ⟨(Nat.le_of_ble_eq_true rfl), (Nat.le_of_ble_eq_true rfl)⟩) (kx_no rfl) (fun r88 u87 H locs hp86 G => ?_)
          obtain ⟨zr, eu87⟩ := hp86
          replace zr := Eq.symm zr
          subst zr
          rw [eu87] at G
          refine lv_topv (v := nI (69 + 6 * (11 * i + (X9_fallsN_n0 oth a b2)) + 5)) (bat_n i (X9_fallsN_n0 oth a b2) 5) ?_
          refine lv_aload_n hx hb dX9_falls_186 rfl (lv_at hl 5 rfl) ?_
          refine g_get C0 G k60 rfl hiX9 2 (by decide) mf_X9_9 rfl dX9_falls_187 ?_
          refine lv_bipush (v := 9) hx hb dX9_falls_190 (by decide) ?_
          refine g_iald C0 G k59 0 rfl (by unfold vp_in; decide) dX9_falls_192 ?_
          refine lv_topv (v := (X9_fallsN_g6 g kind oth runs cro i a b2 bo s wk) 9) rfl ?_
          refine lv_topv (v := nI bo) ((by rw [X9_fallsN_g6, upd_off (by omega)]; exact (by rw [X9_fallsN_g5, upd_off (by omega)]; exact (by rw [X9_fallsN_g4, upd_off (by omega)]; exact (by rw [X9_fallsN_g3, upd_off (by omega)]; exact (by rw [X9_fallsN_g2]; split; exact (by rw [X9_fallsN_g1]; split; exact ((rd_X9_changesEnds_9).trans ((rd_X9_scores_9 (by omega) (by omega) (by omega) (by omega) (by omega) (by omega)).trans h9)); exact ((rd_X9_scores_9 (by omega) (by omega) (by omega) (by omega) (by omega) (by omega)).trans h9)); exact ((rd_X9_changesEnds_9).trans (by rw [X9_fallsN_g1]; split; exact ((rd_X9_changesEnds_9).trans ((rd_X9_scores_9 (by omega) (by omega) (by omega) (by omega) (by omega) (by omega)).trans h9)); exact ((rd_X9_scores_9 (by omega) (by omega) (by omega) (by omega) (by omega) (by omega)).trans h9))))))))) ?_
          refine g_iast C0 G k59 0 rfl (vp_in_nI (by omega) (by omega)) dX9_falls_193 (fun H locs f89 hf89 G => ?_)
          have k90 : f89 v = some (.inl (cy 0, 6441, .inl (X9_fallsN_g7 g kind oth runs cro i a b2 bo s wk))) := (by have h9 := hus hf89; rw [nI_c (by omega)] at h9; exact h9)
          refine lv_aload_n hx hb dX9_falls_194 rfl (lv_at hl 5 rfl) ?_
          have k91 : f89 m = some (.inr (11, [.int c_th, .int c_re, .ref v, .ref im, .ref kp, .ref pa, .ref de, .ref ide, .int c_un, .int c_hi, .ref tx, .int c_tn, .int c_fa, .int c_rf, .ref pt, .int c_ps, .int c_pl, .int c_to, .ref so, .ref mo, .ref wh, .ref pf])) := hup hf89 (hne k60 k59 (by intro q; cases q)) k60
          refine g_get C0 G k91 rfl hiX9 2 (by decide) mf_X9_9 rfl dX9_falls_195 ?_
          refine lv_iload hx hb dX9_falls_198 (lv_at hl 4 rfl) ?_
          refine lv_aload_n hx hb dX9_falls_200 rfl (lv_at hl 5 rfl) ?_
          refine g_get C0 G k91 rfl hiX9 2 (by decide) mf_X9_9 rfl dX9_falls_201 ?_
          refine lv_bipush (v := 9) hx hb dX9_falls_204 (by decide) ?_
          refine g_iald C0 G k90 0 rfl (by unfold vp_in; decide) dX9_falls_206 ?_
          refine lv_topv (v := (X9_fallsN_g7 g kind oth runs cro i a b2 bo s wk) 9) rfl ?_
          refine lv_topv (v := nI bo) ((by rw [X9_fallsN_g7, upd_off (by omega)]; exact (by rw [X9_fallsN_g6, upd_off (by omega)]; exact (by rw [X9_fallsN_g5, upd_off (by omega)]; exact (by rw [X9_fallsN_g4, upd_off (by omega)]; exact (by rw [X9_fallsN_g3, upd_off (by omega)]; exact (by rw [X9_fallsN_g2]; split; exact (by rw [X9_fallsN_g1]; split; exact ((rd_X9_changesEnds_9).trans ((rd_X9_scores_9 (by omega) (by omega) (by omega) (by omega) (by omega) (by omega)).trans h9)); exact ((rd_X9_scores_9 (by omega) (by omega) (by omega) (by omega) (by omega) (by omega)).trans h9)); exact ((rd_X9_changesEnds_9).trans (by rw [X9_fallsN_g1]; split; exact ((rd_X9_changesEnds_9).trans ((rd_X9_scores_9 (by omega) (by omega) (by omega) (by omega) (by omega) (by omega)).trans h9)); exact ((rd_X9_scores_9 (by omega) (by omega) (by omega) (by omega) (by omega) (by omega)).trans h9)))))))))) ?_
          refine lv_iconst (v := 2) hx hb dX9_falls_207 (by decide) ?_
          refine g_cI C0 G (g_runS C0 G (rest := [.ref v]) (k_X9_bowlerAt hfl (nI i) (nI bo) 2 ) hY_X9_bowlerAt mm_X9_105 ms_X9_bowlerAt ⟨(Nat.le_of_ble_eq_true rfl), (Nat.le_of_ble_eq_true rfl)⟩ rfl hl.1 rfl (Nat.le_of_ble_eq_true rfl) dX9_falls_208 ⟨(Nat.le_of_ble_eq_true rfl), (Nat.le_of_ble_eq_true rfl)⟩) (kx_no rfl) (fun r94 u93 H locs hp92 G => ?_)
          obtain ⟨zr, eu93⟩ := hp92
          replace zr := Eq.symm zr
          subst zr
          rw [eu93] at G
          refine lv_topv (v := nI (333 + 7 * (11 * i + bo) + 2)) (bow_n i bo 2) ?_
          refine lv_dup2_11 hx hb dX9_falls_211 rfl rfl ?_
          refine g_iald C0 G k90 0 rfl (vp_in_nI (by omega) (by omega)) dX9_falls_212 ?_
          refine lv_topv (v := (X9_fallsN_g7 g kind oth runs cro i a b2 bo s wk) (333 + 7 * (11 * i + bo) + 2)) (congrArg (X9_fallsN_g7 g kind oth runs cro i a b2 bo s wk) (nI_c (by omega))) ?_
          refine lv_iconst (v := 1) hx hb dX9_falls_213 (by decide) ?_
          refine lv_iadd hx hb dX9_falls_214 ?_
          refine g_iast C0 G k90 0 rfl (vp_in_nI (by omega) (by omega)) dX9_falls_215 (fun H locs f95 hf95 G => ?_)
          have k96 : f95 v = some (.inl (cy 0, 6441, .inl (X9_fallsN_g9 g kind oth runs cro i a b2 bo s wk))) := (by have h9 := hus hf95; rw [nI_c (by omega)] at h9; exact h9)
          exact J66 (X9_fallsN_g9 g kind oth runs cro i a b2 bo s wk) (by rw [X9_fallsN_g10, if_neg c64]) f95 _ _ _ k96 (fun a9 e9 h7 h8 => hup hf95 (fun q => h7 (by rw [q]; simp)) (hup hf89 (fun q => h7 (by rw [q]; simp)) (h8))) G (lv_sub hl [0, 1, 2, 3, 4, 5, 6, 7, 8, 9, 10] rfl)
      refine lv_if_eq (tgt := 67) hx hb dX9_falls_60 (by decide) (fun c30 => ?_) (fun c30 => ?_)
      · exact J32 (X9_fallsN_g1 g kind runs i a bo s) (by rw [X9_fallsN_g2, if_pos c30]) f27 _ _ _ k28 (fun a9 e9 h7 h8 => h8) G (lv_sub hl [0, 1, 2, 3, 4, 5, 6, 7, 8] rfl)
      · refine lv_aload_n hx hb dX9_falls_63 rfl (lv_at hl 3 rfl) ?_
        have k97 : f27 m = some (.inr (11, [.int c_th, .int c_re, .ref v, .ref im, .ref kp, .ref pa, .ref de, .ref ide, .int c_un, .int c_hi, .ref tx, .int c_tn, .int c_fa, .int c_rf, .ref pt, .int c_ps, .int c_pl, .int c_to, .ref so, .ref mo, .ref wh, .ref pf])) := fr29 _ _ (by simp only [List.mem_cons, List.not_mem_nil, or_false]; intro q; exact (hne (fr23 _ _ (by simp only [List.mem_cons, List.not_mem_nil, or_false]; intro q; exact (hne h_m h_v (by intro q; cases q)) q) h_m) k22 (by intro q; cases q)) q) (fr23 _ _ (by simp only [List.mem_cons, List.not_mem_nil, or_false]; intro q; exact (hne h_m h_v (by intro q; cases q)) q) h_m)
        refine g_cV C0 G (g_runV C0 G (rest := []) (k_X9_changesEnds hfl k97 k28) k97 rfl hY_X9_changesEnds mm_X9_149 mi_X9_changesEnds ml_X9_changesEnds ⟨(Nat.le_of_ble_eq_true rfl), (Nat.le_of_ble_eq_true rfl)⟩ rfl hl.1 rfl (Nat.le_of_ble_eq_true rfl) dX9_falls_64 ⟨(Nat.le_of_ble_eq_true rfl), (Nat.le_of_ble_eq_true rfl)⟩) (kx_no rfl) (fun u99 H locs hp98 G => ?_)
        obtain ⟨k100, fr101⟩ := hp98
        exact J32 (X9_changesEnds_g1 (X9_fallsN_g1 g kind runs i a bo s)) (by rw [X9_fallsN_g2, if_neg c30]) u99 _ _ _ k100 (fun a9 e9 h7 h8 => fr101 _ _ (fun q => h7 (by simp only [List.mem_cons, List.not_mem_nil, or_false] at q ⊢; first | exact q | (rcases q with q <;> simp [q]) | omega)) (h8)) G (lv_sub hl [0, 1, 2, 3, 4, 5, 6, 7, 8] rfl)
    refine lv_icmp_ne (tgt := 58) hx hb dX9_falls_51 (by decide) (fun c24 => ?_) (fun c24 => ?_)
    · exact J26 (X9_scores_g44 g kind runs 0 i a bo s) (by rw [X9_fallsN_g1, if_neg c24]) u20 _ _ _ k22 (fun a9 e9 h7 h8 => h8) G (lv_sub hl [0, 1, 2, 3, 4, 5, 6, 7, 8] rfl)
    · refine lv_aload_n hx hb dX9_falls_54 rfl (lv_at hl 3 rfl) ?_
      have k102 : u20 m = some (.inr (11, [.int c_th, .int c_re, .ref v, .ref im, .ref kp, .ref pa, .ref de, .ref ide, .int c_un, .int c_hi, .ref tx, .int c_tn, .int c_fa, .int c_rf, .ref pt, .int c_ps, .int c_pl, .int c_to, .ref so, .ref mo, .ref wh, .ref pf])) := fr23 _ _ (by simp only [List.mem_cons, List.not_mem_nil, or_false]; intro q; exact (hne h_m h_v (by intro q; cases q)) q) h_m
      refine g_cV C0 G (g_runV C0 G (rest := []) (k_X9_changesEnds hfl k102 k22) k102 rfl hY_X9_changesEnds mm_X9_149 mi_X9_changesEnds ml_X9_changesEnds ⟨(Nat.le_of_ble_eq_true rfl), (Nat.le_of_ble_eq_true rfl)⟩ rfl hl.1 rfl (Nat.le_of_ble_eq_true rfl) dX9_falls_55 ⟨(Nat.le_of_ble_eq_true rfl), (Nat.le_of_ble_eq_true rfl)⟩) (kx_no rfl) (fun u104 H locs hp103 G => ?_)
      obtain ⟨k105, fr106⟩ := hp103
      exact J26 (X9_changesEnds_g1 (X9_scores_g44 g kind runs 0 i a bo s)) (by rw [X9_fallsN_g1, if_pos c24]) u104 _ _ _ k105 (fun a9 e9 h7 h8 => fr106 _ _ (fun q => h7 (by simp only [List.mem_cons, List.not_mem_nil, or_false] at q ⊢; first | exact q | (rcases q with q <;> simp [q]) | omega)) (h8)) G (lv_sub hl [0, 1, 2, 3, 4, 5, 6, 7, 8] rfl)
  refine lv_if_eq (tgt := 28) hx hb dX9_falls_15 (by decide) (fun c14 => ?_) (fun c14 => ?_)
  · refine lv_aload_n hx hb dX9_falls_28 rfl (lv_at hl 2 rfl) ?_
    refine g_get C0 G h_m rfl hiX9 2 (by decide) mf_X9_9 rfl dX9_falls_29 ?_
    refine lv_bipush (v := 6) hx hb dX9_falls_32 (by decide) ?_
    refine g_iald C0 G h_v 0 rfl (by unfold vp_in; decide) dX9_falls_34 ?_
    refine lv_topv (v := g 6) rfl ?_
    refine lv_topv (v := nI a) (h6) ?_
    exact J16 (nI a) (by rw [X9_fallsN_n0, if_pos c14] <;> rfl) _ _ _ G (lv_sub hl [0, 1, 2, 3, 4, 5, 6, 7] rfl)
  · refine lv_aload_n hx hb dX9_falls_18 rfl (lv_at hl 2 rfl) ?_
    refine g_get C0 G h_m rfl hiX9 2 (by decide) mf_X9_9 rfl dX9_falls_19 ?_
    refine lv_bipush (v := 7) hx hb dX9_falls_22 (by decide) ?_
    refine g_iald C0 G h_v 0 rfl (by unfold vp_in; decide) dX9_falls_24 ?_
    refine lv_topv (v := g 7) rfl ?_
    refine lv_topv (v := nI b2) (h7) ?_
    refine lv_goto (tgt := 35) hx hb dX9_falls_25 (by decide) ?_
    exact J16 (nI b2) (by rw [X9_fallsN_n0, if_neg c14] <;> rfl) _ _ _ G (lv_sub hl [0, 1, 2, 3, 4, 5, 6, 7] rfl)
def X9_retiresN_n0 (oth : Int32) (a : Nat) (b2 : Nat) : Nat := if oth = 0 then a else b2
def X9_retiresN_n1 (hur : Int32) : Nat := if hur = 0 then 7 else 6
def X9_retiresN_g2 (g : Nat → Int32) (oth : Int32) (hur : Int32) (i : Nat) (a : Nat) (b2 : Nat) (s : Nat) (e : Nat) : Nat → Int32 := (X9_looks_g11 (X9_leavesN_g1 g (X9_retiresN_n0 oth a b2) (nI (X9_retiresN_n1 hur)) i s) 1 0 i e s)
set_option maxRecDepth 100000 in
theorem k_X9_retiresN {l : Launch} (hfl : l.stackTraces = false) {D : va_G} {cy : Nat → ClassId} {f : Hf} {sz : Nat} {m : Nat} {v : Nat} {im : Nat} {kp : Nat} {pa : Nat} {de : Nat} {ide : Nat} {tx : Nat} {pt : Nat} {so : Nat} {mo : Nat} {wh : Nat} {pf : Nat} {c_th : Int32} {c_re : Int32} {c_un : Int32} {c_hi : Int32} {c_tn : Int32} {c_fa : Int32} {c_rf : Int32} {c_ps : Int32} {c_pl : Int32} {c_to : Int32} {g : Nat → Int32} (oth : Int32) (hur : Int32) {i : Nat} {a : Nat} {b2 : Nat} {s : Nat} {e : Nat} (h_m : f m = some (.inr (11, [.int c_th, .int c_re, .ref v, .ref im, .ref kp, .ref pa, .ref de, .ref ide, .int c_un, .int c_hi, .ref tx, .int c_tn, .int c_fa, .int c_rf, .ref pt, .int c_ps, .int c_pl, .int c_to, .ref so, .ref mo, .ref wh, .ref pf]))) (h_v : f v = some (.inl (cy 0, 6441, .inl g))) (h4 : g 4 = nI i) (hi : i < 4) (h6 : g 6 = nI a) (ha : a < 11) (h7 : g 7 = nI b2) (hb2 : b2 < 11) (h22 : g 22 = nI s) (hs1 : 1 ≤ s) (hs : s < 699) (h1 : g 1 = nI e) (he : e = 1 ∨ e = 2) (hie : i + 1 ≤ 2 * e) (hrr : i + 1 = 2 * e → e = 2 ∨ ¬ (g 14).toInt64 = 0) (hn : X9_next_r1 g i = -1) (hb_oth : oth = 0 ∨ oth = 1) (hb_hur : hur = 0 ∨ hur = 1) : hMet l yX9_retires cX9_retires 4 (some .int) { frames := 3, cells := 0, slots := 0, locals := 71 } D (hTy cy) f sz [.ref m, .int oth, .int hur] (hQi (fun r u => r = (-1) ∧ u v = some (.inl (cy 0, 6441, .inl (X9_retiresN_g2 g oth hur i a b2 s e))) ∧ hFrL f u [v]) D f sz) hNo := by
  refine h_enter (by decide) hfl (Nat.le_of_ble_eq_true rfl) ?_
  intro p9 e9 s9 m9 b9 t9 c9 hsz C0 hr hnm G ls hl
  have hx := C0.1.1
  have hb := C0.1.2.1
  have hl : lv_has ls 4 [(0, .ref m), (1, .int oth), (2, .int hur)] := hl
  refine lv_aload_n hx hb dX9_retires_0 rfl (lv_at hl 0 rfl) ?_
  refine g_cI C0 G (g_runV C0 G (rest := []) (k_X9_next hfl h_m h_v h4 hi) h_m rfl hY_X9_next mm_X9_136 mi_X9_next ml_X9_next ⟨(Nat.le_of_ble_eq_true rfl), (Nat.le_of_ble_eq_true rfl)⟩ rfl hl.1 rfl (Nat.le_of_ble_eq_true rfl) dX9_retires_1 ⟨(Nat.le_of_ble_eq_true rfl), (Nat.le_of_ble_eq_true rfl)⟩) (kx_no rfl) (fun r13 u12 H locs hp11 G => ?_)
  obtain ⟨zr, eu12⟩ := hp11
  replace zr := Eq.symm zr
  subst zr
  rw [eu12] at G
  refine lv_topv (v := (-1)) (hn) ?_
  refine lv_istore_n (lv' := [(3, .int (-1)), (0, .ref m), (1, .int oth), (2, .int hur)]) hx hb dX9_retires_4 rfl hl (by decide) rfl (fun ls hl => ?_)
  refine lv_aload_n hx hb dX9_retires_5 rfl (lv_at hl 1 rfl) ?_
  refine lv_iload_n hx hb dX9_retires_6 rfl (lv_at hl 2 rfl) ?_
  have J16 : ∀ (y15 : Int32) (_ : y15 = nI (X9_retiresN_n0 oth a b2)) (H : Heap) (locs : List Loc) (ls : Array Slot), hG D (hA f sz) f s9 H locs → lv_has ls 4 [(3, .int (-1)), (0, .ref m), (1, .int oth), (2, .int hur)] → W p9 l e9 ({ frames := 3, cells := 0, slots := 0, locals := 71 } : Room) s9 m9 ([.ref m, .int oth, .int hur] : List Value).toArray b9 t9 c9 H locs 0 0 (vx_MQ b9 (hQi (fun r u => r = (-1) ∧ u v = some (.inl (cy 0, 6441, .inl (X9_retiresN_g2 g oth hur i a b2 s e))) ∧ hFrL f u [v]) D f sz) (hPx hNo D f sz) ([.ref m, .int oth, .int hur] : List Value).toArray s9 0 0 (hA f sz)) (F0 m9 27 ls [.int y15, .ref m]) := by
    intro y15 ey15 H locs ls G hl
    replace ey15 := Eq.symm ey15
    subst ey15
    have bd18 : (X9_retiresN_n0 oth a b2) ≤ 10 := by unfold X9_retiresN_n0; repeat (first | omega | split)
    refine lv_iload_n hx hb dX9_retires_27 rfl (lv_at hl 0 rfl) ?_
    refine lv_iload_n hx hb dX9_retires_28 rfl (lv_at hl 3 rfl) ?_
    have J21 : ∀ (y20 : Int32) (_ : y20 = nI (X9_retiresN_n1 hur)) (H : Heap) (locs : List Loc) (ls : Array Slot), hG D (hA f sz) f s9 H locs → lv_has ls 4 [(3, .int (-1)), (0, .ref m), (1, .int oth), (2, .int hur)] → W p9 l e9 ({ frames := 3, cells := 0, slots := 0, locals := 71 } : Room) s9 m9 ([.ref m, .int oth, .int hur] : List Value).toArray b9 t9 c9 H locs 0 0 (vx_MQ b9 (hQi (fun r u => r = (-1) ∧ u v = some (.inl (cy 0, 6441, .inl (X9_retiresN_g2 g oth hur i a b2 s e))) ∧ hFrL f u [v]) D f sz) (hPx hNo D f sz) ([.ref m, .int oth, .int hur] : List Value).toArray s9 0 0 (hA f sz)) (F0 m9 39 ls [.int y20, .int (-1), .int (nI (X9_retiresN_n0 oth a b2)), .ref m]) := by
      intro y20 ey20 H locs ls G hl
      replace ey20 := Eq.symm ey20
      subst ey20
      have bd23 : (X9_retiresN_n1 hur) ≤ 7 := by unfold X9_retiresN_n1; repeat (first | omega | split)
      refine g_cV C0 G (g_runV C0 G (rest := []) (k_X9_leavesN hfl (nI (X9_retiresN_n1 hur)) h_m h_v h4 hi h22 hs1 hs (by omega)) h_m rfl hY_X9_leaves mm_X9_158 mi_X9_leaves ml_X9_leaves ⟨(Nat.le_of_ble_eq_true rfl), (Nat.le_of_ble_eq_true rfl)⟩ rfl hl.1 rfl (Nat.le_of_ble_eq_true rfl) dX9_retires_39 ⟨(Nat.le_of_ble_eq_true rfl), (Nat.le_of_ble_eq_true rfl)⟩) (kx_no rfl) (fun u25 H locs hp24 G => ?_)
      obtain ⟨k26, fr27⟩ := hp24
      refine lv_aload_n hx hb dX9_retires_42 rfl (lv_at hl 1 rfl) ?_
      refine lv_iload_n hx hb dX9_retires_43 rfl (lv_at hl 0 rfl) ?_
      refine lv_if_ge (tgt := 51) hx hb dX9_retires_44 (by decide) (fun c28 => absurd c28 (by decide)) (fun _ => ?_)
      refine lv_iconst (v := 1) hx hb dX9_retires_47 (by decide) ?_
      refine lv_goto (tgt := 52) hx hb dX9_retires_48 (by decide) ?_
      refine lv_iconst (v := 0) hx hb dX9_retires_52 (by decide) ?_
      have k29 : u25 m = some (.inr (11, [.int c_th, .int c_re, .ref v, .ref im, .ref kp, .ref pa, .ref de, .ref ide, .int c_un, .int c_hi, .ref tx, .int c_tn, .int c_fa, .int c_rf, .ref pt, .int c_ps, .int c_pl, .int c_to, .ref so, .ref mo, .ref wh, .ref pf])) := fr27 _ _ (by simp only [List.mem_cons, List.not_mem_nil, or_false]; intro q; exact (hne h_m h_v (by intro q; cases q)) q) h_m
      refine g_cV C0 G (g_runV C0 G (rest := []) (k_X9_looks hfl 1 0 k29 k26 ((rd_X9_leavesN_4 (by omega) (by omega) (by omega) (by omega)).trans h4) hi ((rd_X9_leavesN_1 (by omega) (by omega) (by omega) (by omega)).trans h1) he hie (fun q => by have e9 : (X9_leavesN_g1 g (X9_retiresN_n0 oth a b2) (nI (X9_retiresN_n1 hur)) i s) 14 = g 14 := (rd_X9_leavesN_14 (by omega) (by omega) (by omega) (by omega)); rw [e9]; exact hrr q) ((rd_X9_leavesN_22 (by omega) (by omega) (by omega) (by omega)).trans h22) (by omega) (Or.inr rfl) (Or.inl rfl)) k29 rfl hY_X9_looks mm_X9_139 mi_X9_looks ml_X9_looks ⟨(Nat.le_of_ble_eq_true rfl), (Nat.le_of_ble_eq_true rfl)⟩ rfl hl.1 rfl (Nat.le_of_ble_eq_true rfl) dX9_retires_53 ⟨(Nat.le_of_ble_eq_true rfl), (Nat.le_of_ble_eq_true rfl)⟩) (kx_no rfl) (fun u31 H locs hp30 G => ?_)
      obtain ⟨k32, fr33⟩ := hp30
      refine lv_iload_n hx hb dX9_retires_56 rfl (lv_at hl 0 rfl) ?_
      exact g_iret C0 G hr dX9_retires_57 (Nat.le_of_ble_eq_true rfl) (Nat.le_of_ble_eq_true rfl) (by exact ⟨rfl, (by rw [(by rw [X9_retiresN_g2] : (X9_retiresN_g2 g oth hur i a b2 s e) = (X9_looks_g11 (X9_leavesN_g1 g (X9_retiresN_n0 oth a b2) (nI (X9_retiresN_n1 hur)) i s) 1 0 i e s))]; exact k32), (fun a9 e9 h7 h8 => fr33 _ _ (fun q => h7 (by simp only [List.mem_cons, List.not_mem_nil, or_false] at q ⊢; first | exact q | (rcases q with q <;> simp [q]) | omega)) (fr27 _ _ (fun q => h7 (by simp only [List.mem_cons, List.not_mem_nil, or_false] at q ⊢; first | exact q | (rcases q with q <;> simp [q]) | omega)) (h8)))⟩)
    refine lv_if_eq (tgt := 37) hx hb dX9_retires_29 (by decide) (fun c19 => ?_) (fun c19 => ?_)
    · refine lv_bipush (v := 7) hx hb dX9_retires_37 (by decide) ?_
      exact J21 7 (by rw [X9_retiresN_n1, if_pos c19] <;> rfl) _ _ _ G (lv_sub hl [0, 1, 2, 3] rfl)
    · refine lv_bipush (v := 6) hx hb dX9_retires_32 (by decide) ?_
      refine lv_goto (tgt := 39) hx hb dX9_retires_34 (by decide) ?_
      exact J21 6 (by rw [X9_retiresN_n1, if_neg c19] <;> rfl) _ _ _ G (lv_sub hl [0, 1, 2, 3] rfl)
  refine lv_if_eq (tgt := 20) hx hb dX9_retires_7 (by decide) (fun c14 => ?_) (fun c14 => ?_)
  · refine lv_aload_n hx hb dX9_retires_20 rfl (lv_at hl 1 rfl) ?_
    refine g_get C0 G h_m rfl hiX9 2 (by decide) mf_X9_9 rfl dX9_retires_21 ?_
    refine lv_bipush (v := 6) hx hb dX9_retires_24 (by decide) ?_
    refine g_iald C0 G h_v 0 rfl (by unfold vp_in; decide) dX9_retires_26 ?_
    refine lv_topv (v := g 6) rfl ?_
    refine lv_topv (v := nI a) (h6) ?_
    exact J16 (nI a) (by rw [X9_retiresN_n0, if_pos c14] <;> rfl) _ _ _ G (lv_sub hl [0, 1, 2, 3] rfl)
  · refine lv_aload_n hx hb dX9_retires_10 rfl (lv_at hl 1 rfl) ?_
    refine g_get C0 G h_m rfl hiX9 2 (by decide) mf_X9_9 rfl dX9_retires_11 ?_
    refine lv_bipush (v := 7) hx hb dX9_retires_14 (by decide) ?_
    refine g_iald C0 G h_v 0 rfl (by unfold vp_in; decide) dX9_retires_16 ?_
    refine lv_topv (v := g 7) rfl ?_
    refine lv_topv (v := nI b2) (h7) ?_
    refine lv_goto (tgt := 27) hx hb dX9_retires_17 (by decide) ?_
    exact J16 (nI b2) (by rw [X9_retiresN_n0, if_neg c14] <;> rfl) _ _ _ G (lv_sub hl [0, 1, 2, 3] rfl)
def X9_fallsS_n0 (oth : Int32) (a : Nat) (b2 : Nat) : Nat := if oth = 0 then a else b2
def X9_fallsS_g1 (g : Nat → Int32) (kind : Nat) (runs : Int32) (i : Nat) (a : Nat) (bo : Nat) (s : Nat) : Nat → Int32 := if (runs - runs / 2 * 2) = 1 then (X9_changesEnds_g1 (X9_scores_g44 g kind runs 0 i a bo s)) else (X9_scores_g44 g kind runs 0 i a bo s)
def X9_fallsS_g2 (g : Nat → Int32) (kind : Nat) (runs : Int32) (cro : Int32) (i : Nat) (a : Nat) (bo : Nat) (s : Nat) : Nat → Int32 := if cro = 0 then (X9_fallsS_g1 g kind runs i a bo s) else (X9_changesEnds_g1 (X9_fallsS_g1 g kind runs i a bo s))
def X9_fallsS_g3 (g : Nat → Int32) (kind : Nat) (oth : Int32) (runs : Int32) (cro : Int32) (i : Nat) (a : Nat) (b2 : Nat) (bo : Nat) (s : Nat) (wk : Nat) : Nat → Int32 := upd (X9_fallsS_g2 g kind runs cro i a bo s) (641 + 30 * i + 3 * wk) (nI (X9_fallsS_n0 oth a b2))
def X9_fallsS_g4 (g : Nat → Int32) (kind : Nat) (oth : Int32) (runs : Int32) (cro : Int32) (i : Nat) (a : Nat) (b2 : Nat) (bo : Nat) (s : Nat) (wk : Nat) : Nat → Int32 := upd (X9_fallsS_g3 g kind oth runs cro i a b2 bo s wk) (641 + 30 * i + 3 * wk + 1) ((X9_fallsS_g3 g kind oth runs cro i a b2 bo s wk) (25 + 11 * i + 0))
def X9_fallsS_g5 (g : Nat → Int32) (kind : Nat) (oth : Int32) (runs : Int32) (cro : Int32) (i : Nat) (a : Nat) (b2 : Nat) (bo : Nat) (s : Nat) (wk : Nat) : Nat → Int32 := upd (X9_fallsS_g4 g kind oth runs cro i a b2 bo s wk) (641 + 30 * i + 3 * wk + 2) ((X9_fallsS_g4 g kind oth runs cro i a b2 bo s wk) (25 + 11 * i + 2))
def X9_fallsS_g6 (g : Nat → Int32) (kind : Nat) (oth : Int32) (runs : Int32) (cro : Int32) (i : Nat) (a : Nat) (b2 : Nat) (bo : Nat) (s : Nat) (wk : Nat) : Nat → Int32 := upd (X9_fallsS_g5 g kind oth runs cro i a b2 bo s wk) (25 + 11 * i + 1) (nI (wk + 1))
def X9_fallsS_g7 (g : Nat → Int32) (kind : Nat) (oth : Int32) (runs : Int32) (cro : Int32) (i : Nat) (a : Nat) (b2 : Nat) (bo : Nat) (s : Nat) (wk : Nat) : Nat → Int32 := upd (X9_fallsS_g6 g kind oth runs cro i a b2 bo s wk) (69 + 6 * (11 * i + (X9_fallsS_n0 oth a b2)) + 5) (nI bo)
def X9_fallsS_x8 (g : Nat → Int32) (kind : Nat) (oth : Int32) (runs : Int32) (cro : Int32) (i : Nat) (a : Nat) (b2 : Nat) (bo : Nat) (s : Nat) (wk : Nat) : Int32 := ((X9_fallsS_g7 g kind oth runs cro i a b2 bo s wk) (333 + 7 * (11 * i + bo) + 2)) + 1
def X9_fallsS_g9 (g : Nat → Int32) (kind : Nat) (oth : Int32) (runs : Int32) (cro : Int32) (i : Nat) (a : Nat) (b2 : Nat) (bo : Nat) (s : Nat) (wk : Nat) : Nat → Int32 := upd (X9_fallsS_g7 g kind oth runs cro i a b2 bo s wk) (333 + 7 * (11 * i + bo) + 2) (X9_fallsS_x8 g kind oth runs cro i a b2 bo s wk)
def X9_fallsS_g10 (g : Nat → Int32) (way : Int32) (kind : Nat) (oth : Int32) (runs : Int32) (cro : Int32) (i : Nat) (a : Nat) (b2 : Nat) (bo : Nat) (s : Nat) (wk : Nat) : Nat → Int32 := if way = 5 then (X9_fallsS_g6 g kind oth runs cro i a b2 bo s wk) else (X9_fallsS_g9 g kind oth runs cro i a b2 bo s wk)
def X9_fallsS_r11 (wk : Nat) : Int32 := nI (wk + 1)
def X9_fallsS_g12 (g : Nat → Int32) (way : Int32) (kind : Nat) (oth : Int32) (runs : Int32) (cro : Int32) (i : Nat) (a : Nat) (b2 : Nat) (bo : Nat) (s : Nat) (cm : Nat) (wk : Nat) (nx : Nat) (e : Nat) : Nat → Int32 := (X9_looks_g11 (X9_completes_g11 (X9_leavesS_g7 (X9_fallsS_g10 g way kind oth runs cro i a b2 bo s wk) (X9_fallsS_n0 oth a b2) nx way i s) i bo cm) 0 0 i e (s + 1))
set_option maxRecDepth 100000 in
theorem k_X9_fallsS {l : Launch} (hfl : l.stackTraces = false) {D : va_G} {cy : Nat → ClassId} {f : Hf} {sz : Nat} {m : Nat} {v : Nat} {im : Nat} {kp : Nat} {pa : Nat} {de : Nat} {ide : Nat} {tx : Nat} {pt : Nat} {so : Nat} {mo : Nat} {wh : Nat} {pf : Nat} {c_th : Int32} {c_re : Int32} {c_un : Int32} {c_hi : Int32} {c_tn : Int32} {c_fa : Int32} {c_rf : Int32} {c_ps : Int32} {c_pl : Int32} {c_to : Int32} {g : Nat → Int32} (way : Int32) {kind : Nat} (oth : Int32) (runs : Int32) (cro : Int32) {i : Nat} {a : Nat} {b2 : Nat} {bo : Nat} {s : Nat} {cm : Nat} {wk : Nat} {nx : Nat} {e : Nat} (h_m : f m = some (.inr (11, [.int c_th, .int c_re, .ref v, .ref im, .ref kp, .ref pa, .ref de, .ref ide, .int c_un, .int c_hi, .ref tx, .int c_tn, .int c_fa, .int c_rf, .ref pt, .int c_ps, .int c_pl, .int c_to, .ref so, .ref mo, .ref wh, .ref pf]))) (h_v : f v = some (.inl (cy 0, 6441, .inl g))) (h4 : g 4 = nI i) (hi : i < 4) (h6 : g 6 = nI a) (ha : a < 11) (h7 : g 7 = nI b2) (hb2 : b2 < 11) (h9 : g 9 = nI bo) (hbo : bo < 11) (h22 : g 22 = nI s) (hs1 : 1 ≤ s) (hs : s < 699) (hcm : g (25 + 11 * i + 8) = nI cm) (hc : cm < 20) (hwk : g (25 + 11 * i + 1) = nI wk) (hwk1 : wk < 11) (h1 : g 1 = nI e) (he : e = 1 ∨ e = 2) (hie : i + 1 ≤ 2 * e) (hrr : i + 1 = 2 * e → e = 2 ∨ ¬ (g 14).toInt64 = 0) (hn : X9_next_r1 g i = nI nx) (hnx : nx < 11) (hk : kind < 5) (hb_oth : oth = 0 ∨ oth = 1) (hb_cro : cro = 0 ∨ cro = 1) : hMet l yX9_falls cX9_falls 11 (some .int) { frames := 3, cells := 0, slots := 0, locals := 71 } D (hTy cy) f sz [.ref m, .int way, .int (nI kind), .int oth, .int runs, .int cro] (hQi (fun r u => r = (X9_fallsS_r11 wk) ∧ u v = some (.inl (cy 0, 6441, .inl (X9_fallsS_g12 g way kind oth runs cro i a b2 bo s cm wk nx e))) ∧ hFrL f u [v]) D f sz) hNo := by
  refine h_enter (by decide) hfl (Nat.le_of_ble_eq_true rfl) ?_
  intro p9 e9 s9 m9 b9 t9 c9 hsz C0 hr hnm G ls hl
  have hx := C0.1.1
  have hb := C0.1.2.1
  have hl : lv_has ls 11 [(0, .ref m), (1, .int way), (2, .int (nI kind)), (3, .int oth), (4, .int runs), (5, .int cro)] := hl
  refine lv_aload_n hx hb dX9_falls_0 rfl (lv_at hl 0 rfl) ?_
  refine g_get C0 G h_m rfl hiX9 2 (by decide) mf_X9_9 rfl dX9_falls_1 ?_
  refine lv_iconst (v := 4) hx hb dX9_falls_4 (by decide) ?_
  refine g_iald C0 G h_v 0 rfl (by unfold vp_in; decide) dX9_falls_5 ?_
  refine lv_topv (v := g 4) rfl ?_
  refine lv_topv (v := nI i) (h4) ?_
  refine lv_istore (lv' := [(6, .int (nI i)), (0, .ref m), (1, .int way), (2, .int (nI kind)), (3, .int oth), (4, .int runs), (5, .int cro)]) hx hb dX9_falls_6 hl (by decide) rfl (fun ls hl => ?_)
  refine lv_aload_n hx hb dX9_falls_8 rfl (lv_at hl 1 rfl) ?_
  refine g_cI C0 G (g_runV C0 G (rest := []) (k_X9_next hfl h_m h_v h4 hi) h_m rfl hY_X9_next mm_X9_136 mi_X9_next ml_X9_next ⟨(Nat.le_of_ble_eq_true rfl), (Nat.le_of_ble_eq_true rfl)⟩ rfl hl.1 rfl (Nat.le_of_ble_eq_true rfl) dX9_falls_9 ⟨(Nat.le_of_ble_eq_true rfl), (Nat.le_of_ble_eq_true rfl)⟩) (kx_no rfl) (fun r13 u12 H locs hp11 G => ?_)
  obtain ⟨zr, eu12⟩ := hp11
  replace zr := Eq.symm zr
  subst zr
  rw [eu12] at G
  refine lv_topv (v := nI nx) (hn) ?_
  refine lv_istore (lv' := [(7, .int (nI nx)), (6, .int (nI i)), (0, .ref m), (1, .int way), (2, .int (nI kind)), (3, .int oth), (4, .int runs), (5, .int cro)]) hx hb dX9_falls_12 hl (by decide) rfl (fun ls hl => ?_)
  refine lv_iload_n hx hb dX9_falls_14 rfl (lv_at hl 5 rfl) ?_
  have J16 : ∀ (y15 : Int32) (_ : y15 = nI (X9_fallsS_n0 oth a b2)) (H : Heap) (locs : List Loc) (ls : Array Slot), hG D (hA f sz) f s9 H locs → lv_has ls 11 [(7, .int (nI nx)), (6, .int (nI i)), (0, .ref m), (1, .int way), (2, .int (nI kind)), (3, .int oth), (4, .int runs), (5, .int cro)] → W p9 l e9 ({ frames := 3, cells := 0, slots := 0, locals := 71 } : Room) s9 m9 ([.ref m, .int way, .int (nI kind), .int oth, .int runs, .int cro] : List Value).toArray b9 t9 c9 H locs 0 0 (vx_MQ b9 (hQi (fun r u => r = (X9_fallsS_r11 wk) ∧ u v = some (.inl (cy 0, 6441, .inl (X9_fallsS_g12 g way kind oth runs cro i a b2 bo s cm wk nx e))) ∧ hFrL f u [v]) D f sz) (hPx hNo D f sz) ([.ref m, .int way, .int (nI kind), .int oth, .int runs, .int cro] : List Value).toArray s9 0 0 (hA f sz)) (F0 m9 35 ls [.int y15]) := by
    intro y15 ey15 H locs ls G hl
    replace ey15 := Eq.symm ey15
    subst ey15
    have bd18 : (X9_fallsS_n0 oth a b2) ≤ 10 := by unfold X9_fallsS_n0; repeat (first | omega | split)
    refine lv_istore (lv' := [(8, .int (nI (X9_fallsS_n0 oth a b2))), (7, .int (nI nx)), (6, .int (nI i)), (0, .ref m), (1, .int way), (2, .int (nI kind)), (3, .int oth), (4, .int runs), (5, .int cro)]) hx hb dX9_falls_35 hl (by decide) rfl (fun ls hl => ?_)
    refine lv_aload_n hx hb dX9_falls_37 rfl (lv_at hl 3 rfl) ?_
    refine lv_iload_n hx hb dX9_falls_38 rfl (lv_at hl 5 rfl) ?_
    refine lv_iload hx hb dX9_falls_39 (lv_at hl 7 rfl) ?_
    refine lv_iconst (v := 0) hx hb dX9_falls_41 (by decide) ?_
    refine g_cI C0 G (g_runV C0 G (rest := []) (k_X9_scores hfl runs 0 h_m h_v h4 hi h6 ha h9 hbo h22 hs1 (by omega) hk (Or.inl rfl)) h_m rfl hY_X9_scores mm_X9_152 mi_X9_scores ml_X9_scores ⟨(Nat.le_of_ble_eq_true rfl), (Nat.le_of_ble_eq_true rfl)⟩ rfl hl.1 rfl (Nat.le_of_ble_eq_true rfl) dX9_falls_42 ⟨(Nat.le_of_ble_eq_true rfl), (Nat.le_of_ble_eq_true rfl)⟩) (kx_no rfl) (fun r21 u20 H locs hp19 G => ?_)
    obtain ⟨zr, k22, fr23⟩ := hp19
    replace zr := Eq.symm zr
    subst zr
    refine lv_pop hx hb dX9_falls_45 rfl ?_
    refine lv_iload hx hb dX9_falls_46 (lv_at hl 7 rfl) ?_
    refine lv_iconst (v := 2) hx hb dX9_falls_48 (by decide) ?_
    refine lv_irem hx hb dX9_falls_49 (by decide) ?_
    refine lv_iconst (v := 1) hx hb dX9_falls_50 (by decide) ?_
    have J26 : ∀ (y25 : Nat → Int32) (_ : y25 = (X9_fallsS_g1 g kind runs i a bo s)) (f27 : Hf) (H : Heap) (locs : List Loc) (ls : Array Slot), f27 v = some (.inl (cy 0, 6441, .inl y25)) → hFrL u20 f27 [v] → hG D (hA f sz) f27 s9 H locs → lv_has ls 11 [(8, .int (nI (X9_fallsS_n0 oth a b2))), (7, .int (nI nx)), (6, .int (nI i)), (0, .ref m), (1, .int way), (2, .int (nI kind)), (3, .int oth), (4, .int runs), (5, .int cro)] → W p9 l e9 ({ frames := 3, cells := 0, slots := 0, locals := 71 } : Room) s9 m9 ([.ref m, .int way, .int (nI kind), .int oth, .int runs, .int cro] : List Value).toArray b9 t9 c9 H locs 0 0 (vx_MQ b9 (hQi (fun r u => r = (X9_fallsS_r11 wk) ∧ u v = some (.inl (cy 0, 6441, .inl (X9_fallsS_g12 g way kind oth runs cro i a b2 bo s cm wk nx e))) ∧ hFrL f u [v]) D f sz) (hPx hNo D f sz) ([.ref m, .int way, .int (nI kind), .int oth, .int runs, .int cro] : List Value).toArray s9 0 0 (hA f sz)) (F0 m9 58 ls []) := by
      intro y25 ey25 f27 H locs ls k28 fr29 G hl
      replace ey25 := Eq.symm ey25
      subst ey25
      refine lv_iload hx hb dX9_falls_58 (lv_at hl 8 rfl) ?_
      have J32 : ∀ (y31 : Nat → Int32) (_ : y31 = (X9_fallsS_g2 g kind runs cro i a bo s)) (f33 : Hf) (H : Heap) (locs : List Loc) (ls : Array Slot), f33 v = some (.inl (cy 0, 6441, .inl y31)) → hFrL f27 f33 [v] → hG D (hA f sz) f33 s9 H locs → lv_has ls 11 [(8, .int (nI (X9_fallsS_n0 oth a b2))), (7, .int (nI nx)), (6, .int (nI i)), (0, .ref m), (1, .int way), (2, .int (nI kind)), (3, .int oth), (4, .int runs), (5, .int cro)] → W p9 l e9 ({ frames := 3, cells := 0, slots := 0, locals := 71 } : Room) s9 m9 ([.ref m, .int way, .int (nI kind), .int oth, .int runs, .int cro] : List Value).toArray b9 t9 c9 H locs 0 0 (vx_MQ b9 (hQi (fun r u => r = (X9_fallsS_r11 wk) ∧ u v = some (.inl (cy 0, 6441, .inl (X9_fallsS_g12 g way kind oth runs cro i a b2 bo s cm wk nx e))) ∧ hFrL f u [v]) D f sz) (hPx hNo D f sz) ([.ref m, .int way, .int (nI kind), .int oth, .int runs, .int cro] : List Value).toArray s9 0 0 (hA f sz)) (F0 m9 67 ls []) := by
        intro y31 ey31 f33 H locs ls k34 fr35 G hl
        replace ey31 := Eq.symm ey31
        subst ey31
        refine lv_sipush (v := 641) hx hb dX9_falls_67 (by decide) ?_
        refine lv_bipush (v := 30) hx hb dX9_falls_70 (by decide) ?_
        refine lv_iload hx hb dX9_falls_72 (lv_at hl 2 rfl) ?_
        refine lv_imul hx hb dX9_falls_74 ?_
        refine lv_topv (v := nI (30 * i)) ((pk_mul _ _)) ?_
        refine lv_iadd hx hb dX9_falls_75 ?_
        refine lv_topv (v := nI (641 + 30 * i)) ((nI_add _ _)) ?_
        refine lv_iconst (v := 3) hx hb dX9_falls_76 (by decide) ?_
        refine lv_aload_n hx hb dX9_falls_77 rfl (lv_at hl 3 rfl) ?_
        have k36 : f33 m = some (.inr (11, [.int c_th, .int c_re, .ref v, .ref im, .ref kp, .ref pa, .ref de, .ref ide, .int c_un, .int c_hi, .ref tx, .int c_tn, .int c_fa, .int c_rf, .ref pt, .int c_ps, .int c_pl, .int c_to, .ref so, .ref mo, .ref wh, .ref pf])) := fr35 _ _ (by simp only [List.mem_cons, List.not_mem_nil, or_false]; intro q; exact (hne (fr29 _ _ (by simp only [List.mem_cons, List.not_mem_nil, or_false]; intro q; exact (hne (fr23 _ _ (by simp only [List.mem_cons, List.not_mem_nil, or_false]; intro q; exact (hne h_m h_v (by intro q; cases q)) q) h_m) k22 (by intro q; cases q)) q) (fr23 _ _ (by simp only [List.mem_cons, List.not_mem_nil, or_false]; intro q; exact (hne h_m h_v (by intro q; cases q)) q) h_m)) k28 (by intro q; cases q)) q) (fr29 _ _ (by simp only [List.mem_cons, List.not_mem_nil, or_false]; intro q; exact (hne (fr23 _ _ (by simp only [List.mem_cons, List.not_mem_nil, or_false]; intro q; exact (hne h_m h_v (by intro q; cases q)) q) h_m) k22 (by intro q; cases q)) q) (fr23 _ _ (by simp only [List.mem_cons, List.not_mem_nil, or_false]; intro q; exact (hne h_m h_v (by intro q; cases q)) q) h_m))
        refine g_get C0 G k36 rfl hiX9 2 (by decide) mf_X9_9 rfl dX9_falls_78 ?_
        refine lv_iload hx hb dX9_falls_81 (lv_at hl 2 rfl) ?_
        refine lv_iconst (v := 1) hx hb dX9_falls_83 (by decide) ?_
        refine g_cI C0 G (g_runS C0 G (rest := [.ref v, .int 3, .int (nI (641 + 30 * i))]) (k_X9_at hfl (nI i) 1 ) hY_X9_at mm_X9_62 ms_X9_at ⟨(Nat.le_of_ble_eq_true rfl), (Nat.le_of_ble_eq_true rfl)⟩ rfl hl.1 rfl (Nat.le_of_ble_eq_true rfl) dX9_falls_84 ⟨(Nat.le_of_ble_eq_true rfl), (Nat.le_of_ble_eq_true rfl)⟩) (kx_no rfl) (fun r39 u38 H locs hp37 G => ?_)
        obtain ⟨zr, eu38⟩ := hp37
        replace zr := Eq.symm zr
        subst zr
        rw [eu38] at G
        refine lv_topv (v := nI (25 + 11 * i + 1)) (at_n i 1) ?_
        refine g_iald C0 G k34 0 rfl (vp_in_nI (by omega) (by omega)) dX9_falls_87 ?_
        refine lv_topv (v := (X9_fallsS_g2 g kind runs cro i a bo s) (25 + 11 * i + 1)) (congrArg (X9_fallsS_g2 g kind runs cro i a bo s) (nI_c (by omega))) ?_
        refine lv_topv (v := nI wk) ((by rw [X9_fallsS_g2]; split; exact (by rw [X9_fallsS_g1]; split; exact (by rw [X9_changesEnds_g1, upd_off (by omega)]; exact (by rw [X9_changesEnds_g0, upd_off (by omega)]; exact ((rd_X9_scores_25_11_i_1 (by omega) (by omega) (by omega) (by omega) (by omega) (by omega)).trans hwk))); exact ((rd_X9_scores_25_11_i_1 (by omega) (by omega) (by omega) (by omega) (by omega) (by omega)).trans hwk)); exact (by rw [X9_changesEnds_g1, upd_off (by omega)]; exact (by rw [X9_changesEnds_g0, upd_off (by omega)]; exact (by rw [X9_fallsS_g1]; split; exact (by rw [X9_changesEnds_g1, upd_off (by omega)]; exact (by rw [X9_changesEnds_g0, upd_off (by omega)]; exact ((rd_X9_scores_25_11_i_1 (by omega) (by omega) (by omega) (by omega) (by omega) (by omega)).trans hwk))); exact ((rd_X9_scores_25_11_i_1 (by omega) (by omega) (by omega) (by omega) (by omega) (by omega)).trans hwk)))))) ?_
        refine lv_imul hx hb dX9_falls_88 ?_
        refine lv_topv (v := nI (3 * wk)) ((pk_mul _ _)) ?_
        refine lv_iadd hx hb dX9_falls_89 ?_
        refine lv_topv (v := nI (641 + 30 * i + 3 * wk)) ((nI_add _ _)) ?_
        refine lv_istore (lv' := [(9, .int (nI (641 + 30 * i + 3 * wk))), (8, .int (nI (X9_fallsS_n0 oth a b2))), (7, .int (nI nx)), (6, .int (nI i)), (0, .ref m), (1, .int way), (2, .int (nI kind)), (3, .int oth), (4, .int runs), (5, .int cro)]) hx hb dX9_falls_90 hl (by decide) rfl (fun ls hl => ?_)
        refine lv_aload_n hx hb dX9_falls_92 rfl (lv_at hl 4 rfl) ?_
        refine g_get C0 G k36 rfl hiX9 2 (by decide) mf_X9_9 rfl dX9_falls_93 ?_
        refine lv_iload hx hb dX9_falls_96 (lv_at hl 0 rfl) ?_
        refine lv_iload hx hb dX9_falls_98 (lv_at hl 1 rfl) ?_
        refine g_iast C0 G k34 0 rfl (vp_in_nI (by omega) (by omega)) dX9_falls_100 (fun H locs f40 hf40 G => ?_)
        have k41 : f40 v = some (.inl (cy 0, 6441, .inl (X9_fallsS_g3 g kind oth runs cro i a b2 bo s wk))) := (by have h9 := hus hf40; rw [nI_c (by omega)] at h9; exact h9)
        refine lv_aload_n hx hb dX9_falls_101 rfl (lv_at hl 4 rfl) ?_
        have k42 : f40 m = some (.inr (11, [.int c_th, .int c_re, .ref v, .ref im, .ref kp, .ref pa, .ref de, .ref ide, .int c_un, .int c_hi, .ref tx, .int c_tn, .int c_fa, .int c_rf, .ref pt, .int c_ps, .int c_pl, .int c_to, .ref so, .ref mo, .ref wh, .ref pf])) := hup hf40 (hne k36 k34 (by intro q; cases q)) k36
        refine g_get C0 G k42 rfl hiX9 2 (by decide) mf_X9_9 rfl dX9_falls_102 ?_
        refine lv_iload hx hb dX9_falls_105 (lv_at hl 0 rfl) ?_
        refine lv_iconst (v := 1) hx hb dX9_falls_107 (by decide) ?_
        refine lv_iadd hx hb dX9_falls_108 ?_
        refine lv_topv (v := nI (641 + 30 * i + 3 * wk + 1)) ((nI_add _ _)) ?_
        refine lv_aload_n hx hb dX9_falls_109 rfl (lv_at hl 4 rfl) ?_
        refine g_get C0 G k42 rfl hiX9 2 (by decide) mf_X9_9 rfl dX9_falls_110 ?_
        refine lv_iload hx hb dX9_falls_113 (lv_at hl 3 rfl) ?_
        refine lv_iconst (v := 0) hx hb dX9_falls_115 (by decide) ?_
        refine g_cI C0 G (g_runS C0 G (rest := [.ref v, .int (nI (641 + 30 * i + 3 * wk + 1)), .ref v]) (k_X9_at hfl (nI i) 0 ) hY_X9_at mm_X9_62 ms_X9_at ⟨(Nat.le_of_ble_eq_true rfl), (Nat.le_of_ble_eq_true rfl)⟩ rfl hl.1 rfl (Nat.le_of_ble_eq_true rfl) dX9_falls_116 ⟨(Nat.le_of_ble_eq_true rfl), (Nat.le_of_ble_eq_true rfl)⟩) (kx_no rfl) (fun r45 u44 H locs hp43 G => ?_)
        obtain ⟨zr, eu44⟩ := hp43
        replace zr := Eq.symm zr
        subst zr
        rw [eu44] at G
        refine lv_topv (v := nI (25 + 11 * i + 0)) (at_n i 0) ?_
        refine g_iald C0 G k41 0 rfl (vp_in_nI (by omega) (by omega)) dX9_falls_119 ?_
        refine lv_topv (v := (X9_fallsS_g3 g kind oth runs cro i a b2 bo s wk) (25 + 11 * i + 0)) (congrArg (X9_fallsS_g3 g kind oth runs cro i a b2 bo s wk) (nI_c (by omega))) ?_
        refine g_iast C0 G k41 0 rfl (vp_in_nI (by omega) (by omega)) dX9_falls_120 (fun H locs f46 hf46 G => ?_)
        have k47 : f46 v = some (.inl (cy 0, 6441, .inl (X9_fallsS_g4 g kind oth runs cro i a b2 bo s wk))) := (by have h9 := hus hf46; rw [nI_c (by omega)] at h9; exact h9)
        refine lv_aload_n hx hb dX9_falls_121 rfl (lv_at hl 4 rfl) ?_
        have k48 : f46 m = some (.inr (11, [.int c_th, .int c_re, .ref v, .ref im, .ref kp, .ref pa, .ref de, .ref ide, .int c_un, .int c_hi, .ref tx, .int c_tn, .int c_fa, .int c_rf, .ref pt, .int c_ps, .int c_pl, .int c_to, .ref so, .ref mo, .ref wh, .ref pf])) := hup hf46 (hne k42 k41 (by intro q; cases q)) k42
        refine g_get C0 G k48 rfl hiX9 2 (by decide) mf_X9_9 rfl dX9_falls_122 ?_
        refine lv_iload hx hb dX9_falls_125 (lv_at hl 0 rfl) ?_
        refine lv_iconst (v := 2) hx hb dX9_falls_127 (by decide) ?_
        refine lv_iadd hx hb dX9_falls_128 ?_
        refine lv_topv (v := nI (641 + 30 * i + 3 * wk + 2)) ((nI_add _ _)) ?_
        refine lv_aload_n hx hb dX9_falls_129 rfl (lv_at hl 4 rfl) ?_
        refine g_get C0 G k48 rfl hiX9 2 (by decide) mf_X9_9 rfl dX9_falls_130 ?_
        refine lv_iload hx hb dX9_falls_133 (lv_at hl 3 rfl) ?_
        refine lv_iconst (v := 2) hx hb dX9_falls_135 (by decide) ?_
        refine g_cI C0 G (g_runS C0 G (rest := [.ref v, .int (nI (641 + 30 * i + 3 * wk + 2)), .ref v]) (k_X9_at hfl (nI i) 2 ) hY_X9_at mm_X9_62 ms_X9_at ⟨(Nat.le_of_ble_eq_true rfl), (Nat.le_of_ble_eq_true rfl)⟩ rfl hl.1 rfl (Nat.le_of_ble_eq_true rfl) dX9_falls_136 ⟨(Nat.le_of_ble_eq_true rfl), (Nat.le_of_ble_eq_true rfl)⟩) (kx_no rfl) (fun r51 u50 H locs hp49 G => ?_)
        obtain ⟨zr, eu50⟩ := hp49
        replace zr := Eq.symm zr
        subst zr
        rw [eu50] at G
        refine lv_topv (v := nI (25 + 11 * i + 2)) (at_n i 2) ?_
        refine g_iald C0 G k47 0 rfl (vp_in_nI (by omega) (by omega)) dX9_falls_139 ?_
        refine lv_topv (v := (X9_fallsS_g4 g kind oth runs cro i a b2 bo s wk) (25 + 11 * i + 2)) (congrArg (X9_fallsS_g4 g kind oth runs cro i a b2 bo s wk) (nI_c (by omega))) ?_
        refine g_iast C0 G k47 0 rfl (vp_in_nI (by omega) (by omega)) dX9_falls_140 (fun H locs f52 hf52 G => ?_)
        have k53 : f52 v = some (.inl (cy 0, 6441, .inl (X9_fallsS_g5 g kind oth runs cro i a b2 bo s wk))) := (by have h9 := hus hf52; rw [nI_c (by omega)] at h9; exact h9)
        refine lv_aload_n hx hb dX9_falls_141 rfl (lv_at hl 4 rfl) ?_
        have k54 : f52 m = some (.inr (11, [.int c_th, .int c_re, .ref v, .ref im, .ref kp, .ref pa, .ref de, .ref ide, .int c_un, .int c_hi, .ref tx, .int c_tn, .int c_fa, .int c_rf, .ref pt, .int c_ps, .int c_pl, .int c_to, .ref so, .ref mo, .ref wh, .ref pf])) := hup hf52 (hne k48 k47 (by intro q; cases q)) k48
        refine g_get C0 G k54 rfl hiX9 2 (by decide) mf_X9_9 rfl dX9_falls_142 ?_
        refine lv_iload hx hb dX9_falls_145 (lv_at hl 3 rfl) ?_
        refine lv_iconst (v := 1) hx hb dX9_falls_147 (by decide) ?_
        refine g_cI C0 G (g_runS C0 G (rest := [.ref v]) (k_X9_at hfl (nI i) 1 ) hY_X9_at mm_X9_62 ms_X9_at ⟨(Nat.le_of_ble_eq_true rfl), (Nat.le_of_ble_eq_true rfl)⟩ rfl hl.1 rfl (Nat.le_of_ble_eq_true rfl) dX9_falls_148 ⟨(Nat.le_of_ble_eq_true rfl), (Nat.le_of_ble_eq_true rfl)⟩) (kx_no rfl) (fun r57 u56 H locs hp55 G => ?_)
        obtain ⟨zr, eu56⟩ := hp55
        replace zr := Eq.symm zr
        subst zr
        rw [eu56] at G
        refine lv_topv (v := nI (25 + 11 * i + 1)) (at_n i 1) ?_
        refine lv_dup2_11 hx hb dX9_falls_151 rfl rfl ?_
        refine g_iald C0 G k53 0 rfl (vp_in_nI (by omega) (by omega)) dX9_falls_152 ?_
        refine lv_topv (v := (X9_fallsS_g5 g kind oth runs cro i a b2 bo s wk) (25 + 11 * i + 1)) (congrArg (X9_fallsS_g5 g kind oth runs cro i a b2 bo s wk) (nI_c (by omega))) ?_
        refine lv_topv (v := nI wk) ((by rw [X9_fallsS_g5, upd_off (by omega)]; exact (by rw [X9_fallsS_g4, upd_off (by omega)]; exact (by rw [X9_fallsS_g3, upd_off (by omega)]; exact (by rw [X9_fallsS_g2]; split; exact (by rw [X9_fallsS_g1]; split; exact (by rw [X9_changesEnds_g1, upd_off (by omega)]; exact (by rw [X9_changesEnds_g0, upd_off (by omega)]; exact ((rd_X9_scores_25_11_i_1 (by omega) (by omega) (by omega) (by omega) (by omega) (by omega)).trans hwk))); exact ((rd_X9_scores_25_11_i_1 (by omega) (by omega) (by omega) (by omega) (by omega) (by omega)).trans hwk)); exact (by rw [X9_changesEnds_g1, upd_off (by omega)]; exact (by rw [X9_changesEnds_g0, upd_off (by omega)]; exact (by rw [X9_fallsS_g1]; split; exact (by rw [X9_changesEnds_g1, upd_off (by omega)]; exact (by rw [X9_changesEnds_g0, upd_off (by omega)]; exact ((rd_X9_scores_25_11_i_1 (by omega) (by omega) (by omega) (by omega) (by omega) (by omega)).trans hwk))); exact ((rd_X9_scores_25_11_i_1 (by omega) (by omega) (by omega) (by omega) (by omega) (by omega)).trans hwk))))))))) ?_
        refine lv_iconst (v := 1) hx hb dX9_falls_153 (by decide) ?_
        refine lv_iadd hx hb dX9_falls_154 ?_
        refine lv_topv (v := nI (wk + 1)) ((nI_add _ _)) ?_
        refine g_iast C0 G k53 0 rfl (vp_in_nI (by omega) (by omega)) dX9_falls_155 (fun H locs f58 hf58 G => ?_)
        have k59 : f58 v = some (.inl (cy 0, 6441, .inl (X9_fallsS_g6 g kind oth runs cro i a b2 bo s wk))) := (by have h9 := hus hf58; rw [nI_c (by omega)] at h9; exact h9)
        refine lv_aload_n hx hb dX9_falls_156 rfl (lv_at hl 4 rfl) ?_
        have k60 : f58 m = some (.inr (11, [.int c_th, .int c_re, .ref v, .ref im, .ref kp, .ref pa, .ref de, .ref ide, .int c_un, .int c_hi, .ref tx, .int c_tn, .int c_fa, .int c_rf, .ref pt, .int c_ps, .int c_pl, .int c_to, .ref so, .ref mo, .ref wh, .ref pf])) := hup hf58 (hne k54 k53 (by intro q; cases q)) k54
        refine g_get C0 G k60 rfl hiX9 2 (by decide) mf_X9_9 rfl dX9_falls_157 ?_
        refine lv_iload hx hb dX9_falls_160 (lv_at hl 3 rfl) ?_
        refine lv_iconst (v := 1) hx hb dX9_falls_162 (by decide) ?_
        refine g_cI C0 G (g_runS C0 G (rest := [.ref v]) (k_X9_at hfl (nI i) 1 ) hY_X9_at mm_X9_62 ms_X9_at ⟨(Nat.le_of_ble_eq_true rfl), (Nat.le_of_ble_eq_true rfl)⟩ rfl hl.1 rfl (Nat.le_of_ble_eq_true rfl) dX9_falls_163 ⟨(Nat.le_of_ble_eq_true rfl), (Nat.le_of_ble_eq_true rfl)⟩) (kx_no rfl) (fun r63 u62 H locs hp61 G => ?_)
        obtain ⟨zr, eu62⟩ := hp61
        replace zr := Eq.symm zr
        subst zr
        rw [eu62] at G
        refine lv_topv (v := nI (25 + 11 * i + 1)) (at_n i 1) ?_
        refine g_iald C0 G k59 0 rfl (vp_in_nI (by omega) (by omega)) dX9_falls_166 ?_
        refine lv_topv (v := (X9_fallsS_g6 g kind oth runs cro i a b2 bo s wk) (25 + 11 * i + 1)) (congrArg (X9_fallsS_g6 g kind oth runs cro i a b2 bo s wk) (nI_c (by omega))) ?_
        refine lv_topv (v := nI (wk + 1)) ((by rw [X9_fallsS_g6, upd_at])) ?_
        refine lv_istore (lv' := [(10, .int (nI (wk + 1))), (9, .int (nI (641 + 30 * i + 3 * wk))), (8, .int (nI (X9_fallsS_n0 oth a b2))), (7, .int (nI nx)), (6, .int (nI i)), (0, .ref m), (1, .int way), (2, .int (nI kind)), (3, .int oth), (4, .int runs), (5, .int cro)]) hx hb dX9_falls_167 hl (by decide) rfl (fun ls hl => ?_)
        refine lv_iload_n hx hb dX9_falls_169 rfl (lv_at hl 6 rfl) ?_
        refine lv_iconst (v := 5) hx hb dX9_falls_170 (by decide) ?_
        have J66 : ∀ (y65 : Nat → Int32) (_ : y65 = (X9_fallsS_g10 g way kind oth runs cro i a b2 bo s wk)) (f67 : Hf) (H : Heap) (locs : List Loc) (ls : Array Slot), f67 v = some (.inl (cy 0, 6441, .inl y65)) → hFrL f58 f67 [v] → hG D (hA f sz) f67 s9 H locs → lv_has ls 11 [(10, .int (nI (wk + 1))), (9, .int (nI (641 + 30 * i + 3 * wk))), (8, .int (nI (X9_fallsS_n0 oth a b2))), (7, .int (nI nx)), (6, .int (nI i)), (0, .ref m), (1, .int way), (2, .int (nI kind)), (3, .int oth), (4, .int runs), (5, .int cro)] → W p9 l e9 ({ frames := 3, cells := 0, slots := 0, locals := 71 } : Room) s9 m9 ([.ref m, .int way, .int (nI kind), .int oth, .int runs, .int cro] : List Value).toArray b9 t9 c9 H locs 0 0 (vx_MQ b9 (hQi (fun r u => r = (X9_fallsS_r11 wk) ∧ u v = some (.inl (cy 0, 6441, .inl (X9_fallsS_g12 g way kind oth runs cro i a b2 bo s cm wk nx e))) ∧ hFrL f u [v]) D f sz) (hPx hNo D f sz) ([.ref m, .int way, .int (nI kind), .int oth, .int runs, .int cro] : List Value).toArray s9 0 0 (hA f sz)) (F0 m9 216 ls []) := by
          intro y65 ey65 f67 H locs ls k68 fr69 G hl
          replace ey65 := Eq.symm ey65
          subst ey65
          refine lv_aload_n hx hb dX9_falls_216 rfl (lv_at hl 5 rfl) ?_
          refine lv_iload hx hb dX9_falls_217 (lv_at hl 2 rfl) ?_
          refine lv_iload hx hb dX9_falls_219 (lv_at hl 3 rfl) ?_
          refine lv_iload_n hx hb dX9_falls_221 rfl (lv_at hl 6 rfl) ?_
          have k70 : f67 m = some (.inr (11, [.int c_th, .int c_re, .ref v, .ref im, .ref kp, .ref pa, .ref de, .ref ide, .int c_un, .int c_hi, .ref tx, .int c_tn, .int c_fa, .int c_rf, .ref pt, .int c_ps, .int c_pl, .int c_to, .ref so, .ref mo, .ref wh, .ref pf])) := fr69 _ _ (by simp only [List.mem_cons, List.not_mem_nil, or_false]; intro q; exact (hne k60 k59 (by intro q; cases q)) q) k60
          refine g_cV C0 G (g_runV C0 G (rest := []) (k_X9_leavesS hfl way k70 k68 (by rw [X9_fallsS_g10]; split; exact (by rw [X9_fallsS_g6, upd_off (by omega)]; exact (by rw [X9_fallsS_g5, upd_off (by omega)]; exact (by rw [X9_fallsS_g4, upd_off (by omega)]; exact (by rw [X9_fallsS_g3, upd_off (by omega)]; exact (by rw [X9_fallsS_g2]; split; exact (by rw [X9_fallsS_g1]; split; exact ((rd_X9_changesEnds_4).trans ((rd_X9_scores_4 (by omega) (by omega) (by omega) (by omega) (by omega) (by omega)).trans h4)); exact ((rd_X9_scores_4 (by omega) (by omega) (by omega) (by omega) (by omega) (by omega)).trans h4)); exact ((rd_X9_changesEnds_4).trans (by rw [X9_fallsS_g1]; split; exact ((rd_X9_changesEnds_4).trans ((rd_X9_scores_4 (by omega) (by omega) (by omega) (by omega) (by omega) (by omega)).trans h4)); exact ((rd_X9_scores_4 (by omega) (by omega) (by omega) (by omega) (by omega) (by omega)).trans h4)))))))); exact (by rw [X9_fallsS_g9, upd_off (by omega)]; exact (by rw [X9_fallsS_g7, upd_off (by omega)]; exact (by rw [X9_fallsS_g6, upd_off (by omega)]; exact (by rw [X9_fallsS_g5, upd_off (by omega)]; exact (by rw [X9_fallsS_g4, upd_off (by omega)]; exact (by rw [X9_fallsS_g3, upd_off (by omega)]; exact (by rw [X9_fallsS_g2]; split; exact (by rw [X9_fallsS_g1]; split; exact ((rd_X9_changesEnds_4).trans ((rd_X9_scores_4 (by omega) (by omega) (by omega) (by omega) (by omega) (by omega)).trans h4)); exact ((rd_X9_scores_4 (by omega) (by omega) (by omega) (by omega) (by omega) (by omega)).trans h4)); exact ((rd_X9_changesEnds_4).trans (by rw [X9_fallsS_g1]; split; exact ((rd_X9_changesEnds_4).trans ((rd_X9_scores_4 (by omega) (by omega) (by omega) (by omega) (by omega) (by omega)).trans h4)); exact ((rd_X9_scores_4 (by omega) (by omega) (by omega) (by omega) (by omega) (by omega)).trans h4))))))))))) hi (by rw [X9_fallsS_g10]; split; exact (by rw [X9_fallsS_g6, upd_off (by omega)]; exact (by rw [X9_fallsS_g5, upd_off (by omega)]; exact (by rw [X9_fallsS_g4, upd_off (by omega)]; exact (by rw [X9_fallsS_g3, upd_off (by omega)]; exact (by rw [X9_fallsS_g2]; split; exact (by rw [X9_fallsS_g1]; split; exact ((rd_X9_changesEnds_22).trans ((rd_X9_scores_22 (by omega) (by omega) (by omega) (by omega) (by omega) (by omega)).trans h22)); exact ((rd_X9_scores_22 (by omega) (by omega) (by omega) (by omega) (by omega) (by omega)).trans h22)); exact ((rd_X9_changesEnds_22).trans (by rw [X9_fallsS_g1]; split; exact ((rd_X9_changesEnds_22).trans ((rd_X9_scores_22 (by omega) (by omega) (by omega) (by omega) (by omega) (by omega)).trans h22)); exact ((rd_X9_scores_22 (by omega) (by omega) (by omega) (by omega) (by omega) (by omega)).trans h22)))))))); exact (by rw [X9_fallsS_g9, upd_off (by omega)]; exact (by rw [X9_fallsS_g7, upd_off (by omega)]; exact (by rw [X9_fallsS_g6, upd_off (by omega)]; exact (by rw [X9_fallsS_g5, upd_off (by omega)]; exact (by rw [X9_fallsS_g4, upd_off (by omega)]; exact (by rw [X9_fallsS_g3, upd_off (by omega)]; exact (by rw [X9_fallsS_g2]; split; exact (by rw [X9_fallsS_g1]; split; exact ((rd_X9_changesEnds_22).trans ((rd_X9_scores_22 (by omega) (by omega) (by omega) (by omega) (by omega) (by omega)).trans h22)); exact ((rd_X9_scores_22 (by omega) (by omega) (by omega) (by omega) (by omega) (by omega)).trans h22)); exact ((rd_X9_changesEnds_22).trans (by rw [X9_fallsS_g1]; split; exact ((rd_X9_changesEnds_22).trans ((rd_X9_scores_22 (by omega) (by omega) (by omega) (by omega) (by omega) (by omega)).trans h22)); exact ((rd_X9_scores_22 (by omega) (by omega) (by omega) (by omega) (by omega) (by omega)).trans h22))))))))))) hs1 hs (by omega) hnx) k70 rfl hY_X9_leaves mm_X9_158 mi_X9_leaves ml_X9_leaves ⟨(Nat.le_of_ble_eq_true rfl), (Nat.le_of_ble_eq_true rfl)⟩ rfl hl.1 rfl (Nat.le_of_ble_eq_true rfl) dX9_falls_222 ⟨(Nat.le_of_ble_eq_true rfl), (Nat.le_of_ble_eq_true rfl)⟩) (kx_no rfl) (fun u72 H locs hp71 G => ?_)
          obtain ⟨k73, fr74⟩ := hp71
          refine lv_aload_n hx hb dX9_falls_225 rfl (lv_at hl 5 rfl) ?_
          have k75 : u72 m = some (.inr (11, [.int c_th, .int c_re, .ref v, .ref im, .ref kp, .ref pa, .ref de, .ref ide, .int c_un, .int c_hi, .ref tx, .int c_tn, .int c_fa, .int c_rf, .ref pt, .int c_ps, .int c_pl, .int c_to, .ref so, .ref mo, .ref wh, .ref pf])) := fr74 _ _ (by simp only [List.mem_cons, List.not_mem_nil, or_false]; intro q; exact (hne k70 k68 (by intro q; cases q)) q) k70
          refine g_cV C0 G (g_runV C0 G (rest := []) (k_X9_completes hfl k75 k73 ((rd_X9_leavesS_4 (by omega) (by omega) (by omega) (by omega) (by omega)).trans (by rw [X9_fallsS_g10]; split; exact (by rw [X9_fallsS_g6, upd_off (by omega)]; exact (by rw [X9_fallsS_g5, upd_off (by omega)]; exact (by rw [X9_fallsS_g4, upd_off (by omega)]; exact (by rw [X9_fallsS_g3, upd_off (by omega)]; exact (by rw [X9_fallsS_g2]; split; exact (by rw [X9_fallsS_g1]; split; exact ((rd_X9_changesEnds_4).trans ((rd_X9_scores_4 (by omega) (by omega) (by omega) (by omega) (by omega) (by omega)).trans h4)); exact ((rd_X9_scores_4 (by omega) (by omega) (by omega) (by omega) (by omega) (by omega)).trans h4)); exact ((rd_X9_changesEnds_4).trans (by rw [X9_fallsS_g1]; split; exact ((rd_X9_changesEnds_4).trans ((rd_X9_scores_4 (by omega) (by omega) (by omega) (by omega) (by omega) (by omega)).trans h4)); exact ((rd_X9_scores_4 (by omega) (by omega) (by omega) (by omega) (by omega) (by omega)).trans h4)))))))); exact (by rw [X9_fallsS_g9, upd_off (by omega)]; exact (by rw [X9_fallsS_g7, upd_off (by omega)]; exact (by rw [X9_fallsS_g6, upd_off (by omega)]; exact (by rw [X9_fallsS_g5, upd_off (by omega)]; exact (by rw [X9_fallsS_g4, upd_off (by omega)]; exact (by rw [X9_fallsS_g3, upd_off (by omega)]; exact (by rw [X9_fallsS_g2]; split; exact (by rw [X9_fallsS_g1]; split; exact ((rd_X9_changesEnds_4).trans ((rd_X9_scores_4 (by omega) (by omega) (by omega) (by omega) (by omega) (by omega)).trans h4)); exact ((rd_X9_scores_4 (by omega) (by omega) (by omega) (by omega) (by omega) (by omega)).trans h4)); exact ((rd_X9_changesEnds_4).trans (by rw [X9_fallsS_g1]; split; exact ((rd_X9_changesEnds_4).trans ((rd_X9_scores_4 (by omega) (by omega) (by omega) (by omega) (by omega) (by omega)).trans h4)); exact ((rd_X9_scores_4 (by omega) (by omega) (by omega) (by omega) (by omega) (by omega)).trans h4)))))))))))) hi ((rd_X9_leavesS_9 (by omega) (by omega) (by omega) (by omega) (by omega)).trans (by rw [X9_fallsS_g10]; split; exact (by rw [X9_fallsS_g6, upd_off (by omega)]; exact (by rw [X9_fallsS_g5, upd_off (by omega)]; exact (by rw [X9_fallsS_g4, upd_off (by omega)]; exact (by rw [X9_fallsS_g3, upd_off (by omega)]; exact (by rw [X9_fallsS_g2]; split; exact (by rw [X9_fallsS_g1]; split; exact ((rd_X9_changesEnds_9).trans ((rd_X9_scores_9 (by omega) (by omega) (by omega) (by omega) (by omega) (by omega)).trans h9)); exact ((rd_X9_scores_9 (by omega) (by omega) (by omega) (by omega) (by omega) (by omega)).trans h9)); exact ((rd_X9_changesEnds_9).trans (by rw [X9_fallsS_g1]; split; exact ((rd_X9_changesEnds_9).trans ((rd_X9_scores_9 (by omega) (by omega) (by omega) (by omega) (by omega) (by omega)).trans h9)); exact ((rd_X9_scores_9 (by omega) (by omega) (by omega) (by omega) (by omega) (by omega)).trans h9)))))))); exact (by rw [X9_fallsS_g9, upd_off (by omega)]; exact (by rw [X9_fallsS_g7, upd_off (by omega)]; exact (by rw [X9_fallsS_g6, upd_off (by omega)]; exact (by rw [X9_fallsS_g5, upd_off (by omega)]; exact (by rw [X9_fallsS_g4, upd_off (by omega)]; exact (by rw [X9_fallsS_g3, upd_off (by omega)]; exact (by rw [X9_fallsS_g2]; split; exact (by rw [X9_fallsS_g1]; split; exact ((rd_X9_changesEnds_9).trans ((rd_X9_scores_9 (by omega) (by omega) (by omega) (by omega) (by omega) (by omega)).trans h9)); exact ((rd_X9_scores_9 (by omega) (by omega) (by omega) (by omega) (by omega) (by omega)).trans h9)); exact ((rd_X9_changesEnds_9).trans (by rw [X9_fallsS_g1]; split; exact ((rd_X9_changesEnds_9).trans ((rd_X9_scores_9 (by omega) (by omega) (by omega) (by omega) (by omega) (by omega)).trans h9)); exact ((rd_X9_scores_9 (by omega) (by omega) (by omega) (by omega) (by omega) (by omega)).trans h9)))))))))))) hbo ((rd_X9_leavesS_25_11_i_8 (by omega) (by omega) (by omega) (by omega) (by omega)).trans (by rw [X9_fallsS_g10]; split; exact (by rw [X9_fallsS_g6, upd_off (by omega)]; exact (by rw [X9_fallsS_g5, upd_off (by omega)]; exact (by rw [X9_fallsS_g4, upd_off (by omega)]; exact (by rw [X9_fallsS_g3, upd_off (by omega)]; exact (by rw [X9_fallsS_g2]; split; exact (by rw [X9_fallsS_g1]; split; exact (by rw [X9_changesEnds_g1, upd_off (by omega)]; exact (by rw [X9_changesEnds_g0, upd_off (by omega)]; exact ((rd_X9_scores_25_11_i_8 (by omega) (by omega) (by omega) (by omega) (by omega) (by omega)).trans hcm))); exact ((rd_X9_scores_25_11_i_8 (by omega) (by omega) (by omega) (by omega) (by omega) (by omega)).trans hcm)); exact (by rw [X9_changesEnds_g1, upd_off (by omega)]; exact (by rw [X9_changesEnds_g0, upd_off (by omega)]; exact (by rw [X9_fallsS_g1]; split; exact (by rw [X9_changesEnds_g1, upd_off (by omega)]; exact (by rw [X9_changesEnds_g0, upd_off (by omega)]; exact ((rd_X9_scores_25_11_i_8 (by omega) (by omega) (by omega) (by omega) (by omega) (by omega)).trans hcm))); exact ((rd_X9_scores_25_11_i_8 (by omega) (by omega) (by omega) (by omega) (by omega) (by omega)).trans hcm))))))))); exact (by rw [X9_fallsS_g9, upd_off (by omega)]; exact (by rw [X9_fallsS_g7, upd_off (by omega)]; exact (by rw [X9_fallsS_g6, upd_off (by omega)]; exact (by rw [X9_fallsS_g5, upd_off (by omega)]; exact (by rw [X9_fallsS_g4, upd_off (by omega)]; exact (by rw [X9_fallsS_g3, upd_off (by omega)]; exact (by rw [X9_fallsS_g2]; split; exact (by rw [X9_fallsS_g1]; split; exact (by rw [X9_changesEnds_g1, upd_off (by omega)]; exact (by rw [X9_changesEnds_g0, upd_off (by omega)]; exact ((rd_X9_scores_25_11_i_8 (by omega) (by omega) (by omega) (by omega) (by omega) (by omega)).trans hcm))); exact ((rd_X9_scores_25_11_i_8 (by omega) (by omega) (by omega) (by omega) (by omega) (by omega)).trans hcm)); exact (by rw [X9_changesEnds_g1, upd_off (by omega)]; exact (by rw [X9_changesEnds_g0, upd_off (by omega)]; exact (by rw [X9_fallsS_g1]; split; exact (by rw [X9_changesEnds_g1, upd_off (by omega)]; exact (by rw [X9_changesEnds_g0, upd_off (by omega)]; exact ((rd_X9_scores_25_11_i_8 (by omega) (by omega) (by omega) (by omega) (by omega) (by omega)).trans hcm))); exact ((rd_X9_scores_25_11_i_8 (by omega) (by omega) (by omega) (by omega) (by omega) (by omega)).trans hcm))))))))))))) hc) k75 rfl hY_X9_completes mm_X9_155 mi_X9_completes ml_X9_completes ⟨(Nat.le_of_ble_eq_true rfl), (Nat.le_of_ble_eq_true rfl)⟩ rfl hl.1 rfl (Nat.le_of_ble_eq_true rfl) dX9_falls_226 ⟨(Nat.le_of_ble_eq_true rfl), (Nat.le_of_ble_eq_true rfl)⟩) (kx_no rfl) (fun u77 H locs hp76 G => ?_)
          obtain ⟨k78, fr79⟩ := hp76
          refine lv_aload_n hx hb dX9_falls_229 rfl (lv_at hl 5 rfl) ?_
          refine lv_iload hx hb dX9_falls_230 (lv_at hl 3 rfl) ?_
          refine lv_if_ge (tgt := 239) hx hb dX9_falls_232 (by decide) (fun _ => ?_) (fun c80 => absurd (nI_nn _ (by omega)) c80)
          refine lv_iconst (v := 0) hx hb dX9_falls_239 (by decide) ?_
          refine lv_iconst (v := 0) hx hb dX9_falls_240 (by decide) ?_
          have k81 : u77 m = some (.inr (11, [.int c_th, .int c_re, .ref v, .ref im, .ref kp, .ref pa, .ref de, .ref ide, .int c_un, .int c_hi, .ref tx, .int c_tn, .int c_fa, .int c_rf, .ref pt, .int c_ps, .int c_pl, .int c_to, .ref so, .ref mo, .ref wh, .ref pf])) := fr79 _ _ (by simp only [List.mem_cons, List.not_mem_nil, or_false]; intro q; exact (hne k75 k73 (by intro q; cases q)) q) k75
          refine g_cV C0 G (g_runV C0 G (rest := []) (k_X9_looks hfl 0 0 k81 k78 ((rd_X9_completes_4 (by omega) (by omega) (by omega)).trans ((rd_X9_leavesS_4 (by omega) (by omega) (by omega) (by omega) (by omega)).trans (by rw [X9_fallsS_g10]; split; exact (by rw [X9_fallsS_g6, upd_off (by omega)]; exact (by rw [X9_fallsS_g5, upd_off (by omega)]; exact (by rw [X9_fallsS_g4, upd_off (by omega)]; exact (by rw [X9_fallsS_g3, upd_off (by omega)]; exact (by rw [X9_fallsS_g2]; split; exact (by rw [X9_fallsS_g1]; split; exact ((rd_X9_changesEnds_4).trans ((rd_X9_scores_4 (by omega) (by omega) (by omega) (by omega) (by omega) (by omega)).trans h4)); exact ((rd_X9_scores_4 (by omega) (by omega) (by omega) (by omega) (by omega) (by omega)).trans h4)); exact ((rd_X9_changesEnds_4).trans (by rw [X9_fallsS_g1]; split; exact ((rd_X9_changesEnds_4).trans ((rd_X9_scores_4 (by omega) (by omega) (by omega) (by omega) (by omega) (by omega)).trans h4)); exact ((rd_X9_scores_4 (by omega) (by omega) (by omega) (by omega) (by omega) (by omega)).trans h4)))))))); exact (by rw [X9_fallsS_g9, upd_off (by omega)]; exact (by rw [X9_fallsS_g7, upd_off (by omega)]; exact (by rw [X9_fallsS_g6, upd_off (by omega)]; exact (by rw [X9_fallsS_g5, upd_off (by omega)]; exact (by rw [X9_fallsS_g4, upd_off (by omega)]; exact (by rw [X9_fallsS_g3, upd_off (by omega)]; exact (by rw [X9_fallsS_g2]; split; exact (by rw [X9_fallsS_g1]; split; exact ((rd_X9_changesEnds_4).trans ((rd_X9_scores_4 (by omega) (by omega) (by omega) (by omega) (by omega) (by omega)).trans h4)); exact ((rd_X9_scores_4 (by omega) (by omega) (by omega) (by omega) (by omega) (by omega)).trans h4)); exact ((rd_X9_changesEnds_4).trans (by rw [X9_fallsS_g1]; split; exact ((rd_X9_changesEnds_4).trans ((rd_X9_scores_4 (by omega) (by omega) (by omega) (by omega) (by omega) (by omega)).trans h4)); exact ((rd_X9_scores_4 (by omega) (by omega) (by omega) (by omega) (by omega) (by omega)).trans h4))))))))))))) hi ((rd_X9_completes_1 (by omega) (by omega) (by omega)).trans ((rd_X9_leavesS_1 (by omega) (by omega) (by omega) (by omega) (by omega)).trans (by rw [X9_fallsS_g10]; split; exact (by rw [X9_fallsS_g6, upd_off (by omega)]; exact (by rw [X9_fallsS_g5, upd_off (by omega)]; exact (by rw [X9_fallsS_g4, upd_off (by omega)]; exact (by rw [X9_fallsS_g3, upd_off (by omega)]; exact (by rw [X9_fallsS_g2]; split; exact (by rw [X9_fallsS_g1]; split; exact ((rd_X9_changesEnds_1).trans ((rd_X9_scores_1 (by omega) (by omega) (by omega) (by omega) (by omega) (by omega)).trans h1)); exact ((rd_X9_scores_1 (by omega) (by omega) (by omega) (by omega) (by omega) (by omega)).trans h1)); exact ((rd_X9_changesEnds_1).trans (by rw [X9_fallsS_g1]; split; exact ((rd_X9_changesEnds_1).trans ((rd_X9_scores_1 (by omega) (by omega) (by omega) (by omega) (by omega) (by omega)).trans h1)); exact ((rd_X9_scores_1 (by omega) (by omega) (by omega) (by omega) (by omega) (by omega)).trans h1)))))))); exact (by rw [X9_fallsS_g9, upd_off (by omega)]; exact (by rw [X9_fallsS_g7, upd_off (by omega)]; exact (by rw [X9_fallsS_g6, upd_off (by omega)]; exact (by rw [X9_fallsS_g5, upd_off (by omega)]; exact (by rw [X9_fallsS_g4, upd_off (by omega)]; exact (by rw [X9_fallsS_g3, upd_off (by omega)]; exact (by rw [X9_fallsS_g2]; split; exact (by rw [X9_fallsS_g1]; split; exact ((rd_X9_changesEnds_1).trans ((rd_X9_scores_1 (by omega) (by omega) (by omega) (by omega) (by omega) (by omega)).trans h1)); exact ((rd_X9_scores_1 (by omega) (by omega) (by omega) (by omega) (by omega) (by omega)).trans h1)); exact ((rd_X9_changesEnds_1).trans (by rw [X9_fallsS_g1]; split; exact ((rd_X9_changesEnds_1).trans ((rd_X9_scores_1 (by omega) (by omega) (by omega) (by omega) (by omega) (by omega)).trans h1)); exact ((rd_X9_scores_1 (by omega) (by omega) (by omega) (by omega) (by omega) (by omega)).trans h1))))))))))))) he hie (fun q => by have e9 : (X9_completes_g11 (X9_leavesS_g7 (X9_fallsS_g10 g way kind oth runs cro i a b2 bo s wk) (X9_fallsS_n0 oth a b2) nx way i s) i bo cm) 14 = g 14 := ((rd_X9_completes_14 (by omega) (by omega) (by omega)).trans ((rd_X9_leavesS_14 (by omega) (by omega) (by omega) (by omega) (by omega)).trans (by rw [X9_fallsS_g10]; split; exact (by rw [X9_fallsS_g6, upd_off (by omega)]; exact (by rw [X9_fallsS_g5, upd_off (by omega)]; exact (by rw [X9_fallsS_g4, upd_off (by omega)]; exact (by rw [X9_fallsS_g3, upd_off (by omega)]; exact (by rw [X9_fallsS_g2]; split; exact (by rw [X9_fallsS_g1]; split; exact ((rd_X9_changesEnds_14).trans (rd_X9_scores_14 (by omega) (by omega) (by omega) (by omega) (by omega) (by omega))); exact (rd_X9_scores_14 (by omega) (by omega) (by omega) (by omega) (by omega) (by omega))); exact ((rd_X9_changesEnds_14).trans (by rw [X9_fallsS_g1]; split; exact ((rd_X9_changesEnds_14).trans (rd_X9_scores_14 (by omega) (by omega) (by omega) (by omega) (by omega) (by omega))); exact (rd_X9_scores_14 (by omega) (by omega) (by omega) (by omega) (by omega) (by omega))))))))); exact (by rw [X9_fallsS_g9, upd_off (by omega)]; exact (by rw [X9_fallsS_g7, upd_off (by omega)]; exact (by rw [X9_fallsS_g6, upd_off (by omega)]; exact (by rw [X9_fallsS_g5, upd_off (by omega)]; exact (by rw [X9_fallsS_g4, upd_off (by omega)]; exact (by rw [X9_fallsS_g3, upd_off (by omega)]; exact (by rw [X9_fallsS_g2]; split; exact (by rw [X9_fallsS_g1]; split; exact ((rd_X9_changesEnds_14).trans (rd_X9_scores_14 (by omega) (by omega) (by omega) (by omega) (by omega) (by omega))); exact (rd_X9_scores_14 (by omega) (by omega) (by omega) (by omega) (by omega) (by omega))); exact ((rd_X9_changesEnds_14).trans (by rw [X9_fallsS_g1]; split; exact ((rd_X9_changesEnds_14).trans (rd_X9_scores_14 (by omega) (by omega) (by omega) (by omega) (by omega) (by omega))); exact (rd_X9_scores_14 (by omega) (by omega) (by omega) (by omega) (by omega) (by omega)))))))))))))); rw [e9]; exact hrr q) ((rd_X9_completes_22 (by omega) (by omega) (by omega)).trans (rd_X9_leavesS_22 (by omega) (by omega) (by omega) (by omega) (by omega))) (by omega) (Or.inl rfl) (Or.inl rfl)) k81 rfl hY_X9_looks mm_X9_139 mi_X9_looks ml_X9_looks ⟨(Nat.le_of_ble_eq_true rfl), (Nat.le_of_ble_eq_true rfl)⟩ rfl hl.1 rfl (Nat.le_of_ble_eq_true rfl) dX9_falls_241 ⟨(Nat.le_of_ble_eq_true rfl), (Nat.le_of_ble_eq_true rfl)⟩) (kx_no rfl) (fun u83 H locs hp82 G => ?_)
          obtain ⟨k84, fr85⟩ := hp82
          refine lv_iload hx hb dX9_falls_244 (lv_at hl 0 rfl) ?_
          exact g_iret C0 G hr dX9_falls_246 (Nat.le_of_ble_eq_true rfl) (Nat.le_of_ble_eq_true rfl) (by exact ⟨(by rw [X9_fallsS_r11]), (by rw [(by rw [X9_fallsS_g12] : (X9_fallsS_g12 g way kind oth runs cro i a b2 bo s cm wk nx e) = (X9_looks_g11 (X9_completes_g11 (X9_leavesS_g7 (X9_fallsS_g10 g way kind oth runs cro i a b2 bo s wk) (X9_fallsS_n0 oth a b2) nx way i s) i bo cm) 0 0 i e (s + 1)))]; exact k84), (fun a9 e9 h7 h8 => fr85 _ _ (fun q => h7 (by simp only [List.mem_cons, List.not_mem_nil, or_false] at q ⊢; first | exact q | (rcases q with q <;> simp [q]) | omega)) (fr79 _ _ (fun q => h7 (by simp only [List.mem_cons, List.not_mem_nil, or_false] at q ⊢; first | exact q | (rcases q with q <;> simp [q]) | omega)) (fr74 _ _ (fun q => h7 (by simp only [List.mem_cons, List.not_mem_nil, or_false] at q ⊢; first | exact q | (rcases q with q <;> simp [q]) | omega)) (fr69 _ _ (fun q => h7 (by simp only [List.mem_cons, List.not_mem_nil, or_false] at q ⊢; first | exact q | (rcases q with q <;> simp [q]) | omega)) (hup hf58 (fun q => h7 (by rw [q]; simp)) (hup hf52 (fun q => h7 (by rw [q]; simp)) (hup hf46 (fun q => h7 (by rw [q]; simp)) (hup hf40 (fun q => h7 (by rw [q]; simp)) (fr35 _ _ (fun q => h7 (by simp only [List.mem_cons, List.not_mem_nil, or_false] at q ⊢; first | exact q | (rcases q with q <;> simp [q]) | omega)) (fr29 _ _ (fun q => h7 (by simp only [List.mem_cons, List.not_mem_nil, or_false] at q ⊢; first | exact q | (rcases q with q <;> simp [q]) | omega)) (fr23 _ _ (fun q => h7 (by simp only [List.mem_cons, List.not_mem_nil, or_false] at q ⊢; first | exact q | (rcases q with q <;> simp [q]) | omega)) (h8))))))))))))⟩)
        refine lv_icmp_eq (tgt := 216) hx hb dX9_falls_171 (by decide) (fun c64 => ?_) (fun c64 => ?_)
        · exact J66 (X9_fallsS_g6 g kind oth runs cro i a b2 bo s wk) (by rw [X9_fallsS_g10, if_pos c64]) f58 _ _ _ k59 (fun a9 e9 h7 h8 => h8) G (lv_sub hl [0, 1, 2, 3, 4, 5, 6, 7, 8, 9, 10] rfl)
        · refine lv_aload_n hx hb dX9_falls_174 rfl (lv_at hl 5 rfl) ?_
          refine g_get C0 G k60 rfl hiX9 2 (by decide) mf_X9_9 rfl dX9_falls_175 ?_
          refine lv_iload hx hb dX9_falls_178 (lv_at hl 4 rfl) ?_
          refine lv_iload hx hb dX9_falls_180 (lv_at hl 2 rfl) ?_
          refine lv_iconst (v := 5) hx hb dX9_falls_182 (by decide) ?_
          refine g_cI C0 G (g_runS C0 G (rest := [.ref v]) (k_X9_batterAt hfl (nI i) (nI (X9_fallsS_n0 oth a b2)) 5 ) hY_X9_batterAt mm_X9_65 ms_X9_batterAt ⟨(Nat.le_of_ble_eq_true rfl), (Nat.le_of_ble_eq_true rfl)⟩ rfl hl.1 rfl (Nat.le_of_ble_eq_true rfl) dX9_falls_183 ⟨(Nat.le_of_ble_eq_true rfl), (Nat.le_of_ble_eq_true rfl)⟩) (kx_no rfl) (fun r88 u87 H locs hp86 G => ?_)
          obtain ⟨zr, eu87⟩ := hp86
          replace zr := Eq.symm zr
          subst zr
          rw [eu87] at G
          refine lv_topv (v := nI (69 + 6 * (11 * i + (X9_fallsS_n0 oth a b2)) + 5)) (bat_n i (X9_fallsS_n0 oth a b2) 5) ?_
          refine lv_aload_n hx hb dX9_falls_186 rfl (lv_at hl 5 rfl) ?_
          refine g_get C0 G k60 rfl hiX9 2 (by decide) mf_X9_9 rfl dX9_falls_187 ?_
          refine lv_bipush (v := 9) hx hb dX9_falls_190 (by decide) ?_
          refine g_iald C0 G k59 0 rfl (by unfold vp_in; decide) dX9_falls_192 ?_
          refine lv_topv (v := (X9_fallsS_g6 g kind oth runs cro i a b2 bo s wk) 9) rfl ?_
          refine lv_topv (v := nI bo) ((by rw [X9_fallsS_g6, upd_off (by omega)]; exact (by rw [X9_fallsS_g5, upd_off (by omega)]; exact (by rw [X9_fallsS_g4, upd_off (by omega)]; exact (by rw [X9_fallsS_g3, upd_off (by omega)]; exact (by rw [X9_fallsS_g2]; split; exact (by rw [X9_fallsS_g1]; split; exact ((rd_X9_changesEnds_9).trans ((rd_X9_scores_9 (by omega) (by omega) (by omega) (by omega) (by omega) (by omega)).trans h9)); exact ((rd_X9_scores_9 (by omega) (by omega) (by omega) (by omega) (by omega) (by omega)).trans h9)); exact ((rd_X9_changesEnds_9).trans (by rw [X9_fallsS_g1]; split; exact ((rd_X9_changesEnds_9).trans ((rd_X9_scores_9 (by omega) (by omega) (by omega) (by omega) (by omega) (by omega)).trans h9)); exact ((rd_X9_scores_9 (by omega) (by omega) (by omega) (by omega) (by omega) (by omega)).trans h9))))))))) ?_
          refine g_iast C0 G k59 0 rfl (vp_in_nI (by omega) (by omega)) dX9_falls_193 (fun H locs f89 hf89 G => ?_)
          have k90 : f89 v = some (.inl (cy 0, 6441, .inl (X9_fallsS_g7 g kind oth runs cro i a b2 bo s wk))) := (by have h9 := hus hf89; rw [nI_c (by omega)] at h9; exact h9)
          refine lv_aload_n hx hb dX9_falls_194 rfl (lv_at hl 5 rfl) ?_
          have k91 : f89 m = some (.inr (11, [.int c_th, .int c_re, .ref v, .ref im, .ref kp, .ref pa, .ref de, .ref ide, .int c_un, .int c_hi, .ref tx, .int c_tn, .int c_fa, .int c_rf, .ref pt, .int c_ps, .int c_pl, .int c_to, .ref so, .ref mo, .ref wh, .ref pf])) := hup hf89 (hne k60 k59 (by intro q; cases q)) k60
          refine g_get C0 G k91 rfl hiX9 2 (by decide) mf_X9_9 rfl dX9_falls_195 ?_
          refine lv_iload hx hb dX9_falls_198 (lv_at hl 4 rfl) ?_
          refine lv_aload_n hx hb dX9_falls_200 rfl (lv_at hl 5 rfl) ?_
          refine g_get C0 G k91 rfl hiX9 2 (by decide) mf_X9_9 rfl dX9_falls_201 ?_
          refine lv_bipush (v := 9) hx hb dX9_falls_204 (by decide) ?_
          refine g_iald C0 G k90 0 rfl (by unfold vp_in; decide) dX9_falls_206 ?_
          refine lv_topv (v := (X9_fallsS_g7 g kind oth runs cro i a b2 bo s wk) 9) rfl ?_
          refine lv_topv (v := nI bo) ((by rw [X9_fallsS_g7, upd_off (by omega)]; exact (by rw [X9_fallsS_g6, upd_off (by omega)]; exact (by rw [X9_fallsS_g5, upd_off (by omega)]; exact (by rw [X9_fallsS_g4, upd_off (by omega)]; exact (by rw [X9_fallsS_g3, upd_off (by omega)]; exact (by rw [X9_fallsS_g2]; split; exact (by rw [X9_fallsS_g1]; split; exact ((rd_X9_changesEnds_9).trans ((rd_X9_scores_9 (by omega) (by omega) (by omega) (by omega) (by omega) (by omega)).trans h9)); exact ((rd_X9_scores_9 (by omega) (by omega) (by omega) (by omega) (by omega) (by omega)).trans h9)); exact ((rd_X9_changesEnds_9).trans (by rw [X9_fallsS_g1]; split; exact ((rd_X9_changesEnds_9).trans ((rd_X9_scores_9 (by omega) (by omega) (by omega) (by omega) (by omega) (by omega)).trans h9)); exact ((rd_X9_scores_9 (by omega) (by omega) (by omega) (by omega) (by omega) (by omega)).trans h9)))))))))) ?_
          refine lv_iconst (v := 2) hx hb dX9_falls_207 (by decide) ?_
          refine g_cI C0 G (g_runS C0 G (rest := [.ref v]) (k_X9_bowlerAt hfl (nI i) (nI bo) 2 ) hY_X9_bowlerAt mm_X9_105 ms_X9_bowlerAt ⟨(Nat.le_of_ble_eq_true rfl), (Nat.le_of_ble_eq_true rfl)⟩ rfl hl.1 rfl (Nat.le_of_ble_eq_true rfl) dX9_falls_208 ⟨(Nat.le_of_ble_eq_true rfl), (Nat.le_of_ble_eq_true rfl)⟩) (kx_no rfl) (fun r94 u93 H locs hp92 G => ?_)
          obtain ⟨zr, eu93⟩ := hp92
          replace zr := Eq.symm zr
          subst zr
          rw [eu93] at G
          refine lv_topv (v := nI (333 + 7 * (11 * i + bo) + 2)) (bow_n i bo 2) ?_
          refine lv_dup2_11 hx hb dX9_falls_211 rfl rfl ?_
          refine g_iald C0 G k90 0 rfl (vp_in_nI (by omega) (by omega)) dX9_falls_212 ?_
          refine lv_topv (v := (X9_fallsS_g7 g kind oth runs cro i a b2 bo s wk) (333 + 7 * (11 * i + bo) + 2)) (congrArg (X9_fallsS_g7 g kind oth runs cro i a b2 bo s wk) (nI_c (by omega))) ?_
          refine lv_iconst (v := 1) hx hb dX9_falls_213 (by decide) ?_
          refine lv_iadd hx hb dX9_falls_214 ?_
          refine g_iast C0 G k90 0 rfl (vp_in_nI (by omega) (by omega)) dX9_falls_215 (fun H locs f95 hf95 G => ?_)
          have k96 : f95 v = some (.inl (cy 0, 6441, .inl (X9_fallsS_g9 g kind oth runs cro i a b2 bo s wk))) := (by have h9 := hus hf95; rw [nI_c (by omega)] at h9; exact h9)
          exact J66 (X9_fallsS_g9 g kind oth runs cro i a b2 bo s wk) (by rw [X9_fallsS_g10, if_neg c64]) f95 _ _ _ k96 (fun a9 e9 h7 h8 => hup hf95 (fun q => h7 (by rw [q]; simp)) (hup hf89 (fun q => h7 (by rw [q]; simp)) (h8))) G (lv_sub hl [0, 1, 2, 3, 4, 5, 6, 7, 8, 9, 10] rfl)
      refine lv_if_eq (tgt := 67) hx hb dX9_falls_60 (by decide) (fun c30 => ?_) (fun c30 => ?_)
      · exact J32 (X9_fallsS_g1 g kind runs i a bo s) (by rw [X9_fallsS_g2, if_pos c30]) f27 _ _ _ k28 (fun a9 e9 h7 h8 => h8) G (lv_sub hl [0, 1, 2, 3, 4, 5, 6, 7, 8] rfl)
      · refine lv_aload_n hx hb dX9_falls_63 rfl (lv_at hl 3 rfl) ?_
        have k97 : f27 m = some (.inr (11, [.int c_th, .int c_re, .ref v, .ref im, .ref kp, .ref pa, .ref de, .ref ide, .int c_un, .int c_hi, .ref tx, .int c_tn, .int c_fa, .int c_rf, .ref pt, .int c_ps, .int c_pl, .int c_to, .ref so, .ref mo, .ref wh, .ref pf])) := fr29 _ _ (by simp only [List.mem_cons, List.not_mem_nil, or_false]; intro q; exact (hne (fr23 _ _ (by simp only [List.mem_cons, List.not_mem_nil, or_false]; intro q; exact (hne h_m h_v (by intro q; cases q)) q) h_m) k22 (by intro q; cases q)) q) (fr23 _ _ (by simp only [List.mem_cons, List.not_mem_nil, or_false]; intro q; exact (hne h_m h_v (by intro q; cases q)) q) h_m)
        refine g_cV C0 G (g_runV C0 G (rest := []) (k_X9_changesEnds hfl k97 k28) k97 rfl hY_X9_changesEnds mm_X9_149 mi_X9_changesEnds ml_X9_changesEnds ⟨(Nat.le_of_ble_eq_true rfl), (Nat.le_of_ble_eq_true rfl)⟩ rfl hl.1 rfl (Nat.le_of_ble_eq_true rfl) dX9_falls_64 ⟨(Nat.le_of_ble_eq_true rfl), (Nat.le_of_ble_eq_true rfl)⟩) (kx_no rfl) (fun u99 H locs hp98 G => ?_)
        obtain ⟨k100, fr101⟩ := hp98
        exact J32 (X9_changesEnds_g1 (X9_fallsS_g1 g kind runs i a bo s)) (by rw [X9_fallsS_g2, if_neg c30]) u99 _ _ _ k100 (fun a9 e9 h7 h8 => fr101 _ _ (fun q => h7 (by simp only [List.mem_cons, List.not_mem_nil, or_false] at q ⊢; first | exact q | (rcases q with q <;> simp [q]) | omega)) (h8)) G (lv_sub hl [0, 1, 2, 3, 4, 5, 6, 7, 8] rfl)
    refine lv_icmp_ne (tgt := 58) hx hb dX9_falls_51 (by decide) (fun c24 => ?_) (fun c24 => ?_)
    · exact J26 (X9_scores_g44 g kind runs 0 i a bo s) (by rw [X9_fallsS_g1, if_neg c24]) u20 _ _ _ k22 (fun a9 e9 h7 h8 => h8) G (lv_sub hl [0, 1, 2, 3, 4, 5, 6, 7, 8] rfl)
    · refine lv_aload_n hx hb dX9_falls_54 rfl (lv_at hl 3 rfl) ?_
      have k102 : u20 m = some (.inr (11, [.int c_th, .int c_re, .ref v, .ref im, .ref kp, .ref pa, .ref de, .ref ide, .int c_un, .int c_hi, .ref tx, .int c_tn, .int c_fa, .int c_rf, .ref pt, .int c_ps, .int c_pl, .int c_to, .ref so, .ref mo, .ref wh, .ref pf])) := fr23 _ _ (by simp only [List.mem_cons, List.not_mem_nil, or_false]; intro q; exact (hne h_m h_v (by intro q; cases q)) q) h_m
      refine g_cV C0 G (g_runV C0 G (rest := []) (k_X9_changesEnds hfl k102 k22) k102 rfl hY_X9_changesEnds mm_X9_149 mi_X9_changesEnds ml_X9_changesEnds ⟨(Nat.le_of_ble_eq_true rfl), (Nat.le_of_ble_eq_true rfl)⟩ rfl hl.1 rfl (Nat.le_of_ble_eq_true rfl) dX9_falls_55 ⟨(Nat.le_of_ble_eq_true rfl), (Nat.le_of_ble_eq_true rfl)⟩) (kx_no rfl) (fun u104 H locs hp103 G => ?_)
      obtain ⟨k105, fr106⟩ := hp103
      exact J26 (X9_changesEnds_g1 (X9_scores_g44 g kind runs 0 i a bo s)) (by rw [X9_fallsS_g1, if_pos c24]) u104 _ _ _ k105 (fun a9 e9 h7 h8 => fr106 _ _ (fun q => h7 (by simp only [List.mem_cons, List.not_mem_nil, or_false] at q ⊢; first | exact q | (rcases q with q <;> simp [q]) | omega)) (h8)) G (lv_sub hl [0, 1, 2, 3, 4, 5, 6, 7, 8] rfl)
  refine lv_if_eq (tgt := 28) hx hb dX9_falls_15 (by decide) (fun c14 => ?_) (fun c14 => ?_)
  · refine lv_aload_n hx hb dX9_falls_28 rfl (lv_at hl 2 rfl) ?_
    refine g_get C0 G h_m rfl hiX9 2 (by decide) mf_X9_9 rfl dX9_falls_29 ?_
    refine lv_bipush (v := 6) hx hb dX9_falls_32 (by decide) ?_
    refine g_iald C0 G h_v 0 rfl (by unfold vp_in; decide) dX9_falls_34 ?_
    refine lv_topv (v := g 6) rfl ?_
    refine lv_topv (v := nI a) (h6) ?_
    exact J16 (nI a) (by rw [X9_fallsS_n0, if_pos c14] <;> rfl) _ _ _ G (lv_sub hl [0, 1, 2, 3, 4, 5, 6, 7] rfl)
  · refine lv_aload_n hx hb dX9_falls_18 rfl (lv_at hl 2 rfl) ?_
    refine g_get C0 G h_m rfl hiX9 2 (by decide) mf_X9_9 rfl dX9_falls_19 ?_
    refine lv_bipush (v := 7) hx hb dX9_falls_22 (by decide) ?_
    refine g_iald C0 G h_v 0 rfl (by unfold vp_in; decide) dX9_falls_24 ?_
    refine lv_topv (v := g 7) rfl ?_
    refine lv_topv (v := nI b2) (h7) ?_
    refine lv_goto (tgt := 35) hx hb dX9_falls_25 (by decide) ?_
    exact J16 (nI b2) (by rw [X9_fallsS_n0, if_neg c14] <;> rfl) _ _ _ G (lv_sub hl [0, 1, 2, 3, 4, 5, 6, 7] rfl)
def X9_retiresS_n0 (oth : Int32) (a : Nat) (b2 : Nat) : Nat := if oth = 0 then a else b2
def X9_retiresS_n1 (hur : Int32) : Nat := if hur = 0 then 7 else 6
def X9_retiresS_r2 (nx : Nat) : Int32 := nI nx
def X9_retiresS_g3 (g : Nat → Int32) (oth : Int32) (hur : Int32) (i : Nat) (a : Nat) (b2 : Nat) (s : Nat) (nx : Nat) (e : Nat) : Nat → Int32 := (X9_looks_g11 (X9_leavesS_g7 g (X9_retiresS_n0 oth a b2) nx (nI (X9_retiresS_n1 hur)) i s) 0 0 i e (s + 1))
set_option maxRecDepth 100000 in
theorem k_X9_retiresS {l : Launch} (hfl : l.stackTraces = false) {D : va_G} {cy : Nat → ClassId} {f : Hf} {sz : Nat} {m : Nat} {v : Nat} {im : Nat} {kp : Nat} {pa : Nat} {de : Nat} {ide : Nat} {tx : Nat} {pt : Nat} {so : Nat} {mo : Nat} {wh : Nat} {pf : Nat} {c_th : Int32} {c_re : Int32} {c_un : Int32} {c_hi : Int32} {c_tn : Int32} {c_fa : Int32} {c_rf : Int32} {c_ps : Int32} {c_pl : Int32} {c_to : Int32} {g : Nat → Int32} (oth : Int32) (hur : Int32) {i : Nat} {a : Nat} {b2 : Nat} {s : Nat} {nx : Nat} {e : Nat} (h_m : f m = some (.inr (11, [.int c_th, .int c_re, .ref v, .ref im, .ref kp, .ref pa, .ref de, .ref ide, .int c_un, .int c_hi, .ref tx, .int c_tn, .int c_fa, .int c_rf, .ref pt, .int c_ps, .int c_pl, .int c_to, .ref so, .ref mo, .ref wh, .ref pf]))) (h_v : f v = some (.inl (cy 0, 6441, .inl g))) (h4 : g 4 = nI i) (hi : i < 4) (h6 : g 6 = nI a) (ha : a < 11) (h7 : g 7 = nI b2) (hb2 : b2 < 11) (h22 : g 22 = nI s) (hs1 : 1 ≤ s) (hs : s < 699) (h1 : g 1 = nI e) (he : e = 1 ∨ e = 2) (hie : i + 1 ≤ 2 * e) (hrr : i + 1 = 2 * e → e = 2 ∨ ¬ (g 14).toInt64 = 0) (hn : X9_next_r1 g i = nI nx) (hnx : nx < 11) (hb_oth : oth = 0 ∨ oth = 1) (hb_hur : hur = 0 ∨ hur = 1) : hMet l yX9_retires cX9_retires 4 (some .int) { frames := 3, cells := 0, slots := 0, locals := 71 } D (hTy cy) f sz [.ref m, .int oth, .int hur] (hQi (fun r u => r = (X9_retiresS_r2 nx) ∧ u v = some (.inl (cy 0, 6441, .inl (X9_retiresS_g3 g oth hur i a b2 s nx e))) ∧ hFrL f u [v]) D f sz) hNo := by
  refine h_enter (by decide) hfl (Nat.le_of_ble_eq_true rfl) ?_
  intro p9 e9 s9 m9 b9 t9 c9 hsz C0 hr hnm G ls hl
  have hx := C0.1.1
  have hb := C0.1.2.1
  have hl : lv_has ls 4 [(0, .ref m), (1, .int oth), (2, .int hur)] := hl
  refine lv_aload_n hx hb dX9_retires_0 rfl (lv_at hl 0 rfl) ?_
  refine g_cI C0 G (g_runV C0 G (rest := []) (k_X9_next hfl h_m h_v h4 hi) h_m rfl hY_X9_next mm_X9_136 mi_X9_next ml_X9_next ⟨(Nat.le_of_ble_eq_true rfl), (Nat.le_of_ble_eq_true rfl)⟩ rfl hl.1 rfl (Nat.le_of_ble_eq_true rfl) dX9_retires_1 ⟨(Nat.le_of_ble_eq_true rfl), (Nat.le_of_ble_eq_true rfl)⟩) (kx_no rfl) (fun r13 u12 H locs hp11 G => ?_)
  obtain ⟨zr, eu12⟩ := hp11
  replace zr := Eq.symm zr
  subst zr
  rw [eu12] at G
  refine lv_topv (v := nI nx) (hn) ?_
  refine lv_istore_n (lv' := [(3, .int (nI nx)), (0, .ref m), (1, .int oth), (2, .int hur)]) hx hb dX9_retires_4 rfl hl (by decide) rfl (fun ls hl => ?_)
  refine lv_aload_n hx hb dX9_retires_5 rfl (lv_at hl 1 rfl) ?_
  refine lv_iload_n hx hb dX9_retires_6 rfl (lv_at hl 2 rfl) ?_
  have J16 : ∀ (y15 : Int32) (_ : y15 = nI (X9_retiresS_n0 oth a b2)) (H : Heap) (locs : List Loc) (ls : Array Slot), hG D (hA f sz) f s9 H locs → lv_has ls 4 [(3, .int (nI nx)), (0, .ref m), (1, .int oth), (2, .int hur)] → W p9 l e9 ({ frames := 3, cells := 0, slots := 0, locals := 71 } : Room) s9 m9 ([.ref m, .int oth, .int hur] : List Value).toArray b9 t9 c9 H locs 0 0 (vx_MQ b9 (hQi (fun r u => r = (X9_retiresS_r2 nx) ∧ u v = some (.inl (cy 0, 6441, .inl (X9_retiresS_g3 g oth hur i a b2 s nx e))) ∧ hFrL f u [v]) D f sz) (hPx hNo D f sz) ([.ref m, .int oth, .int hur] : List Value).toArray s9 0 0 (hA f sz)) (F0 m9 27 ls [.int y15, .ref m]) := by
    intro y15 ey15 H locs ls G hl
    replace ey15 := Eq.symm ey15
    subst ey15
    have bd18 : (X9_retiresS_n0 oth a b2) ≤ 10 := by unfold X9_retiresS_n0; repeat (first | omega | split)
    refine lv_iload_n hx hb dX9_retires_27 rfl (lv_at hl 0 rfl) ?_
    refine lv_iload_n hx hb dX9_retires_28 rfl (lv_at hl 3 rfl) ?_
    have J21 : ∀ (y20 : Int32) (_ : y20 = nI (X9_retiresS_n1 hur)) (H : Heap) (locs : List Loc) (ls : Array Slot), hG D (hA f sz) f s9 H locs → lv_has ls 4 [(3, .int (nI nx)), (0, .ref m), (1, .int oth), (2, .int hur)] → W p9 l e9 ({ frames := 3, cells := 0, slots := 0, locals := 71 } : Room) s9 m9 ([.ref m, .int oth, .int hur] : List Value).toArray b9 t9 c9 H locs 0 0 (vx_MQ b9 (hQi (fun r u => r = (X9_retiresS_r2 nx) ∧ u v = some (.inl (cy 0, 6441, .inl (X9_retiresS_g3 g oth hur i a b2 s nx e))) ∧ hFrL f u [v]) D f sz) (hPx hNo D f sz) ([.ref m, .int oth, .int hur] : List Value).toArray s9 0 0 (hA f sz)) (F0 m9 39 ls [.int y20, .int (nI nx), .int (nI (X9_retiresS_n0 oth a b2)), .ref m]) := by
      intro y20 ey20 H locs ls G hl
      replace ey20 := Eq.symm ey20
      subst ey20
      have bd23 : (X9_retiresS_n1 hur) ≤ 7 := by unfold X9_retiresS_n1; repeat (first | omega | split)
      refine g_cV C0 G (g_runV C0 G (rest := []) (k_X9_leavesS hfl (nI (X9_retiresS_n1 hur)) h_m h_v h4 hi h22 hs1 hs (by omega) hnx) h_m rfl hY_X9_leaves mm_X9_158 mi_X9_leaves ml_X9_leaves ⟨(Nat.le_of_ble_eq_true rfl), (Nat.le_of_ble_eq_true rfl)⟩ rfl hl.1 rfl (Nat.le_of_ble_eq_true rfl) dX9_retires_39 ⟨(Nat.le_of_ble_eq_true rfl), (Nat.le_of_ble_eq_true rfl)⟩) (kx_no rfl) (fun u25 H locs hp24 G => ?_)
      obtain ⟨k26, fr27⟩ := hp24
      refine lv_aload_n hx hb dX9_retires_42 rfl (lv_at hl 1 rfl) ?_
      refine lv_iload_n hx hb dX9_retires_43 rfl (lv_at hl 0 rfl) ?_
      refine lv_if_ge (tgt := 51) hx hb dX9_retires_44 (by decide) (fun _ => ?_) (fun c28 => absurd (nI_nn _ (by omega)) c28)
      refine lv_iconst (v := 0) hx hb dX9_retires_51 (by decide) ?_
      refine lv_iconst (v := 0) hx hb dX9_retires_52 (by decide) ?_
      have k29 : u25 m = some (.inr (11, [.int c_th, .int c_re, .ref v, .ref im, .ref kp, .ref pa, .ref de, .ref ide, .int c_un, .int c_hi, .ref tx, .int c_tn, .int c_fa, .int c_rf, .ref pt, .int c_ps, .int c_pl, .int c_to, .ref so, .ref mo, .ref wh, .ref pf])) := fr27 _ _ (by simp only [List.mem_cons, List.not_mem_nil, or_false]; intro q; exact (hne h_m h_v (by intro q; cases q)) q) h_m
      refine g_cV C0 G (g_runV C0 G (rest := []) (k_X9_looks hfl 0 0 k29 k26 ((rd_X9_leavesS_4 (by omega) (by omega) (by omega) (by omega) (by omega)).trans h4) hi ((rd_X9_leavesS_1 (by omega) (by omega) (by omega) (by omega) (by omega)).trans h1) he hie (fun q => by have e9 : (X9_leavesS_g7 g (X9_retiresS_n0 oth a b2) nx (nI (X9_retiresS_n1 hur)) i s) 14 = g 14 := (rd_X9_leavesS_14 (by omega) (by omega) (by omega) (by omega) (by omega)); rw [e9]; exact hrr q) (rd_X9_leavesS_22 (by omega) (by omega) (by omega) (by omega) (by omega)) (by omega) (Or.inl rfl) (Or.inl rfl)) k29 rfl hY_X9_looks mm_X9_139 mi_X9_looks ml_X9_looks ⟨(Nat.le_of_ble_eq_true rfl), (Nat.le_of_ble_eq_true rfl)⟩ rfl hl.1 rfl (Nat.le_of_ble_eq_true rfl) dX9_retires_53 ⟨(Nat.le_of_ble_eq_true rfl), (Nat.le_of_ble_eq_true rfl)⟩) (kx_no rfl) (fun u31 H locs hp30 G => ?_)
      obtain ⟨k32, fr33⟩ := hp30
      refine lv_iload_n hx hb dX9_retires_56 rfl (lv_at hl 0 rfl) ?_
      exact g_iret C0 G hr dX9_retires_57 (Nat.le_of_ble_eq_true rfl) (Nat.le_of_ble_eq_true rfl) (by exact ⟨(by rw [X9_retiresS_r2]), (by rw [(by rw [X9_retiresS_g3] : (X9_retiresS_g3 g oth hur i a b2 s nx e) = (X9_looks_g11 (X9_leavesS_g7 g (X9_retiresS_n0 oth a b2) nx (nI (X9_retiresS_n1 hur)) i s) 0 0 i e (s + 1)))]; exact k32), (fun a9 e9 h7 h8 => fr33 _ _ (fun q => h7 (by simp only [List.mem_cons, List.not_mem_nil, or_false] at q ⊢; first | exact q | (rcases q with q <;> simp [q]) | omega)) (fr27 _ _ (fun q => h7 (by simp only [List.mem_cons, List.not_mem_nil, or_false] at q ⊢; first | exact q | (rcases q with q <;> simp [q]) | omega)) (h8)))⟩)
    refine lv_if_eq (tgt := 37) hx hb dX9_retires_29 (by decide) (fun c19 => ?_) (fun c19 => ?_)
    · refine lv_bipush (v := 7) hx hb dX9_retires_37 (by decide) ?_
      exact J21 7 (by rw [X9_retiresS_n1, if_pos c19] <;> rfl) _ _ _ G (lv_sub hl [0, 1, 2, 3] rfl)
    · refine lv_bipush (v := 6) hx hb dX9_retires_32 (by decide) ?_
      refine lv_goto (tgt := 39) hx hb dX9_retires_34 (by decide) ?_
      exact J21 6 (by rw [X9_retiresS_n1, if_neg c19] <;> rfl) _ _ _ G (lv_sub hl [0, 1, 2, 3] rfl)
  refine lv_if_eq (tgt := 20) hx hb dX9_retires_7 (by decide) (fun c14 => ?_) (fun c14 => ?_)
  · refine lv_aload_n hx hb dX9_retires_20 rfl (lv_at hl 1 rfl) ?_
    refine g_get C0 G h_m rfl hiX9 2 (by decide) mf_X9_9 rfl dX9_retires_21 ?_
    refine lv_bipush (v := 6) hx hb dX9_retires_24 (by decide) ?_
    refine g_iald C0 G h_v 0 rfl (by unfold vp_in; decide) dX9_retires_26 ?_
    refine lv_topv (v := g 6) rfl ?_
    refine lv_topv (v := nI a) (h6) ?_
    exact J16 (nI a) (by rw [X9_retiresS_n0, if_pos c14] <;> rfl) _ _ _ G (lv_sub hl [0, 1, 2, 3] rfl)
  · refine lv_aload_n hx hb dX9_retires_10 rfl (lv_at hl 1 rfl) ?_
    refine g_get C0 G h_m rfl hiX9 2 (by decide) mf_X9_9 rfl dX9_retires_11 ?_
    refine lv_bipush (v := 7) hx hb dX9_retires_14 (by decide) ?_
    refine g_iald C0 G h_v 0 rfl (by unfold vp_in; decide) dX9_retires_16 ?_
    refine lv_topv (v := g 7) rfl ?_
    refine lv_topv (v := nI b2) (h7) ?_
    refine lv_goto (tgt := 27) hx hb dX9_retires_17 (by decide) ?_
    exact J16 (nI b2) (by rw [X9_retiresS_n0, if_neg c14] <;> rfl) _ _ _ G (lv_sub hl [0, 1, 2, 3] rfl)
def X9_loses_g0 (g : Nat → Int32) (ov : Int32) : Nat → Int32 := upd g 13 ((g 13) - ov)
def X9_loses_x1 (g : Nat → Int32) (ov : Int32) (i : Nat) : Int32 := ((X9_loses_g0 g ov) (14 + i)) - ((X9_worth_r0 ((6 * (g 13)) - (g (25 + 11 * i + 2))) (g (25 + 11 * i + 1))) - (X9_worth_r0 (((6 * (g 13)) - (g (25 + 11 * i + 2))) - (6 * ov)) ((X9_loses_g0 g ov) (25 + 11 * i + 1))))
def X9_loses_g2 (g : Nat → Int32) (ov : Int32) (i : Nat) : Nat → Int32 := upd (X9_loses_g0 g ov) (14 + i) (X9_loses_x1 g ov i)
def X9_loses_r3 (g : Nat → Int32) (ov : Int32) (i : Nat) : Int32 := (X9_loses_g2 g ov i) 13
def X9_loses_g4 (g : Nat → Int32) (ov : Int32) (i : Nat) (s : Nat) (e : Nat) : Nat → Int32 := (X9_looks_g11 (X9_loses_g2 g ov i) 0 0 i e s)
set_option maxRecDepth 100000 in
theorem k_X9_loses {l : Launch} (hfl : l.stackTraces = false) {D : va_G} {cy : Nat → ClassId} {f : Hf} {sz : Nat} {m : Nat} {v : Nat} {im : Nat} {kp : Nat} {pa : Nat} {de : Nat} {ide : Nat} {tx : Nat} {pt : Nat} {so : Nat} {mo : Nat} {wh : Nat} {pf : Nat} {c_th : Int32} {c_re : Int32} {c_un : Int32} {c_hi : Int32} {c_tn : Int32} {c_fa : Int32} {c_rf : Int32} {c_ps : Int32} {c_pl : Int32} {c_to : Int32} {g : Nat → Int32} (ov : Int32) {i : Nat} {s : Nat} {e : Nat} (h_m : f m = some (.inr (11, [.int c_th, .int c_re, .ref v, .ref im, .ref kp, .ref pa, .ref de, .ref ide, .int c_un, .int c_hi, .ref tx, .int c_tn, .int c_fa, .int c_rf, .ref pt, .int c_ps, .int c_pl, .int c_to, .ref so, .ref mo, .ref wh, .ref pf]))) (h_v : f v = some (.inl (cy 0, 6441, .inl g))) (h4 : g 4 = nI i) (hi : i < 4) (h22 : g 22 = nI s) (hs1 : 1 ≤ s) (hs : s < 699) (h1 : g 1 = nI e) (he : e = 1 ∨ e = 2) (he1 : e = 1) (hie : i + 1 ≤ 2 * e) (hrr : i + 1 = 2 * e → e = 2 ∨ ¬ (g 14).toInt64 = 0) : hMet l yX9_loses cX9_loses 6 (some .int) { frames := 3, cells := 0, slots := 0, locals := 71 } D (hTy cy) f sz [.ref m, .int ov] (hQi (fun r u => r = (X9_loses_r3 g ov i) ∧ u v = some (.inl (cy 0, 6441, .inl (X9_loses_g4 g ov i s e))) ∧ hFrL f u [v]) D f sz) hNo := by
  refine h_enter (by decide) hfl (Nat.le_of_ble_eq_true rfl) ?_
  intro p9 e9 s9 m9 b9 t9 c9 hsz C0 hr hnm G ls hl
  have hx := C0.1.1
  have hb := C0.1.2.1
  have hl : lv_has ls 6 [(0, .ref m), (1, .int ov)] := hl
  refine lv_aload_n hx hb dX9_loses_0 rfl (lv_at hl 0 rfl) ?_
  refine g_get C0 G h_m rfl hiX9 2 (by decide) mf_X9_9 rfl dX9_loses_1 ?_
  refine lv_iconst (v := 4) hx hb dX9_loses_4 (by decide) ?_
  refine g_iald C0 G h_v 0 rfl (by unfold vp_in; decide) dX9_loses_5 ?_
  refine lv_topv (v := g 4) rfl ?_
  refine lv_topv (v := nI i) (h4) ?_
  refine lv_istore_n (lv' := [(2, .int (nI i)), (0, .ref m), (1, .int ov)]) hx hb dX9_loses_6 rfl hl (by decide) rfl (fun ls hl => ?_)
  refine lv_bipush (v := 6) hx hb dX9_loses_7 (by decide) ?_
  refine lv_aload_n hx hb dX9_loses_9 rfl (lv_at hl 1 rfl) ?_
  refine g_get C0 G h_m rfl hiX9 2 (by decide) mf_X9_9 rfl dX9_loses_10 ?_
  refine lv_bipush (v := 13) hx hb dX9_loses_13 (by decide) ?_
  refine g_iald C0 G h_v 0 rfl (by unfold vp_in; decide) dX9_loses_15 ?_
  refine lv_topv (v := g 13) rfl ?_
  refine lv_imul hx hb dX9_loses_16 ?_
  refine lv_aload_n hx hb dX9_loses_17 rfl (lv_at hl 1 rfl) ?_
  refine g_get C0 G h_m rfl hiX9 2 (by decide) mf_X9_9 rfl dX9_loses_18 ?_
  refine lv_iload_n hx hb dX9_loses_21 rfl (lv_at hl 0 rfl) ?_
  refine lv_iconst (v := 2) hx hb dX9_loses_22 (by decide) ?_
  refine g_cI C0 G (g_runS C0 G (rest := [.ref v, .int (6 * (g 13))]) (k_X9_at hfl (nI i) 2 ) hY_X9_at mm_X9_62 ms_X9_at ⟨(Nat.le_of_ble_eq_true rfl), (Nat.le_of_ble_eq_true rfl)⟩ rfl hl.1 rfl (Nat.le_of_ble_eq_true rfl) dX9_loses_23 ⟨(Nat.le_of_ble_eq_true rfl), (Nat.le_of_ble_eq_true rfl)⟩) (kx_no rfl) (fun r13 u12 H locs hp11 G => ?_)
  obtain ⟨zr, eu12⟩ := hp11
  replace zr := Eq.symm zr
  subst zr
  rw [eu12] at G
  refine lv_topv (v := nI (25 + 11 * i + 2)) (at_n i 2) ?_
  refine g_iald C0 G h_v 0 rfl (vp_in_nI (by omega) (by omega)) dX9_loses_26 ?_
  refine lv_topv (v := g (25 + 11 * i + 2)) (congrArg g (nI_c (by omega))) ?_
  refine lv_isub hx hb dX9_loses_27 ?_
  refine lv_istore_n (lv' := [(3, .int ((6 * (g 13)) - (g (25 + 11 * i + 2)))), (2, .int (nI i)), (0, .ref m), (1, .int ov)]) hx hb dX9_loses_28 rfl hl (by decide) rfl (fun ls hl => ?_)
  refine lv_iload_n hx hb dX9_loses_29 rfl (lv_at hl 0 rfl) ?_
  refine lv_aload_n hx hb dX9_loses_30 rfl (lv_at hl 2 rfl) ?_
  refine g_get C0 G h_m rfl hiX9 2 (by decide) mf_X9_9 rfl dX9_loses_31 ?_
  refine lv_iload_n hx hb dX9_loses_34 rfl (lv_at hl 1 rfl) ?_
  refine lv_iconst (v := 1) hx hb dX9_loses_35 (by decide) ?_
  refine g_cI C0 G (g_runS C0 G (rest := [.ref v, .int ((6 * (g 13)) - (g (25 + 11 * i + 2)))]) (k_X9_at hfl (nI i) 1 ) hY_X9_at mm_X9_62 ms_X9_at ⟨(Nat.le_of_ble_eq_true rfl), (Nat.le_of_ble_eq_true rfl)⟩ rfl hl.1 rfl (Nat.le_of_ble_eq_true rfl) dX9_loses_36 ⟨(Nat.le_of_ble_eq_true rfl), (Nat.le_of_ble_eq_true rfl)⟩) (kx_no rfl) (fun r16 u15 H locs hp14 G => ?_)
  obtain ⟨zr, eu15⟩ := hp14
  replace zr := Eq.symm zr
  subst zr
  rw [eu15] at G
  refine lv_topv (v := nI (25 + 11 * i + 1)) (at_n i 1) ?_
  refine g_iald C0 G h_v 0 rfl (vp_in_nI (by omega) (by omega)) dX9_loses_39 ?_
  refine lv_topv (v := g (25 + 11 * i + 1)) (congrArg g (nI_c (by omega))) ?_
  refine g_cI C0 G (g_runS C0 G (rest := []) (k_X9_worth hfl ((6 * (g 13)) - (g (25 + 11 * i + 2))) (g (25 + 11 * i + 1)) ) hY_X9_worth mm_X9_58 ms_X9_worth ⟨(Nat.le_of_ble_eq_true rfl), (Nat.le_of_ble_eq_true rfl)⟩ rfl hl.1 rfl (Nat.le_of_ble_eq_true rfl) dX9_loses_40 ⟨(Nat.le_of_ble_eq_true rfl), (Nat.le_of_ble_eq_true rfl)⟩) (kx_no rfl) (fun r19 u18 H locs hp17 G => ?_)
  obtain ⟨zr, eu18⟩ := hp17
  replace zr := Eq.symm zr
  subst zr
  rw [eu18] at G
  refine lv_istore (lv' := [(4, .int (X9_worth_r0 ((6 * (g 13)) - (g (25 + 11 * i + 2))) (g (25 + 11 * i + 1)))), (3, .int ((6 * (g 13)) - (g (25 + 11 * i + 2)))), (2, .int (nI i)), (0, .ref m), (1, .int ov)]) hx hb dX9_loses_43 hl (by decide) rfl (fun ls hl => ?_)
  refine lv_aload_n hx hb dX9_loses_45 rfl (lv_at hl 3 rfl) ?_
  refine g_get C0 G h_m rfl hiX9 2 (by decide) mf_X9_9 rfl dX9_loses_46 ?_
  refine lv_bipush (v := 13) hx hb dX9_loses_49 (by decide) ?_
  refine lv_dup2_11 hx hb dX9_loses_51 rfl rfl ?_
  refine g_iald C0 G h_v 0 rfl (by unfold vp_in; decide) dX9_loses_52 ?_
  refine lv_topv (v := g 13) rfl ?_
  refine lv_iload_n hx hb dX9_loses_53 rfl (lv_at hl 4 rfl) ?_
  refine lv_isub hx hb dX9_loses_54 ?_
  refine g_iast C0 G h_v 0 rfl (by unfold vp_in; decide) dX9_loses_55 (fun H locs f20 hf20 G => ?_)
  have k21 : f20 v = some (.inl (cy 0, 6441, .inl (X9_loses_g0 g ov))) := hus hf20
  refine lv_aload_n hx hb dX9_loses_56 rfl (lv_at hl 3 rfl) ?_
  have k22 : f20 m = some (.inr (11, [.int c_th, .int c_re, .ref v, .ref im, .ref kp, .ref pa, .ref de, .ref ide, .int c_un, .int c_hi, .ref tx, .int c_tn, .int c_fa, .int c_rf, .ref pt, .int c_ps, .int c_pl, .int c_to, .ref so, .ref mo, .ref wh, .ref pf])) := hup hf20 (hne h_m h_v (by intro q; cases q)) h_m
  refine g_get C0 G k22 rfl hiX9 2 (by decide) mf_X9_9 rfl dX9_loses_57 ?_
  refine lv_bipush (v := 14) hx hb dX9_loses_60 (by decide) ?_
  refine lv_iload_n hx hb dX9_loses_62 rfl (lv_at hl 2 rfl) ?_
  refine lv_iadd hx hb dX9_loses_63 ?_
  refine lv_topv (v := nI (14 + i)) ((nI_add _ _)) ?_
  refine lv_dup2_11 hx hb dX9_loses_64 rfl rfl ?_
  refine g_iald C0 G k21 0 rfl (vp_in_nI (by omega) (by omega)) dX9_loses_65 ?_
  refine lv_topv (v := (X9_loses_g0 g ov) (14 + i)) (congrArg (X9_loses_g0 g ov) (nI_c (by omega))) ?_
  refine lv_iload hx hb dX9_loses_66 (lv_at hl 0 rfl) ?_
  refine lv_iload_n hx hb dX9_loses_68 rfl (lv_at hl 1 rfl) ?_
  refine lv_bipush (v := 6) hx hb dX9_loses_69 (by decide) ?_
  refine lv_iload_n hx hb dX9_loses_71 rfl (lv_at hl 4 rfl) ?_
  refine lv_imul hx hb dX9_loses_72 ?_
  refine lv_isub hx hb dX9_loses_73 ?_
  refine lv_aload_n hx hb dX9_loses_74 rfl (lv_at hl 3 rfl) ?_
  refine g_get C0 G k22 rfl hiX9 2 (by decide) mf_X9_9 rfl dX9_loses_75 ?_
  refine lv_iload_n hx hb dX9_loses_78 rfl (lv_at hl 2 rfl) ?_
  refine lv_iconst (v := 1) hx hb dX9_loses_79 (by decide) ?_
  refine g_cI C0 G (g_runS C0 G (rest := [.ref v, .int (((6 * (g 13)) - (g (25 + 11 * i + 2))) - (6 * ov)), .int (X9_worth_r0 ((6 * (g 13)) - (g (25 + 11 * i + 2))) (g (25 + 11 * i + 1))), .int ((X9_loses_g0 g ov) (14 + i)), .int (nI (14 + i)), .ref v]) (k_X9_at hfl (nI i) 1 ) hY_X9_at mm_X9_62 ms_X9_at ⟨(Nat.le_of_ble_eq_true rfl), (Nat.le_of_ble_eq_true rfl)⟩ rfl hl.1 rfl (Nat.le_of_ble_eq_true rfl) dX9_loses_80 ⟨(Nat.le_of_ble_eq_true rfl), (Nat.le_of_ble_eq_true rfl)⟩) (kx_no rfl) (fun r25 u24 H locs hp23 G => ?_)
  obtain ⟨zr, eu24⟩ := hp23
  replace zr := Eq.symm zr
  subst zr
  rw [eu24] at G
  refine lv_topv (v := nI (25 + 11 * i + 1)) (at_n i 1) ?_
  refine g_iald C0 G k21 0 rfl (vp_in_nI (by omega) (by omega)) dX9_loses_83 ?_
  refine lv_topv (v := (X9_loses_g0 g ov) (25 + 11 * i + 1)) (congrArg (X9_loses_g0 g ov) (nI_c (by omega))) ?_
  refine g_cI C0 G (g_runS C0 G (rest := [.int (X9_worth_r0 ((6 * (g 13)) - (g (25 + 11 * i + 2))) (g (25 + 11 * i + 1))), .int ((X9_loses_g0 g ov) (14 + i)), .int (nI (14 + i)), .ref v]) (k_X9_worth hfl (((6 * (g 13)) - (g (25 + 11 * i + 2))) - (6 * ov)) ((X9_loses_g0 g ov) (25 + 11 * i + 1)) ) hY_X9_worth mm_X9_58 ms_X9_worth ⟨(Nat.le_of_ble_eq_true rfl), (Nat.le_of_ble_eq_true rfl)⟩ rfl hl.1 rfl (Nat.le_of_ble_eq_true rfl) dX9_loses_84 ⟨(Nat.le_of_ble_eq_true rfl), (Nat.le_of_ble_eq_true rfl)⟩) (kx_no rfl) (fun r28 u27 H locs hp26 G => ?_)
  obtain ⟨zr, eu27⟩ := hp26
  replace zr := Eq.symm zr
  subst zr
  rw [eu27] at G
  refine lv_isub hx hb dX9_loses_87 ?_
  refine lv_isub hx hb dX9_loses_88 ?_
  refine g_iast C0 G k21 0 rfl (vp_in_nI (by omega) (by omega)) dX9_loses_89 (fun H locs f29 hf29 G => ?_)
  have k30 : f29 v = some (.inl (cy 0, 6441, .inl (X9_loses_g2 g ov i))) := (by have h9 := hus hf29; rw [nI_c (by omega)] at h9; exact h9)
  refine lv_aload_n hx hb dX9_loses_90 rfl (lv_at hl 3 rfl) ?_
  have k31 : f29 m = some (.inr (11, [.int c_th, .int c_re, .ref v, .ref im, .ref kp, .ref pa, .ref de, .ref ide, .int c_un, .int c_hi, .ref tx, .int c_tn, .int c_fa, .int c_rf, .ref pt, .int c_ps, .int c_pl, .int c_to, .ref so, .ref mo, .ref wh, .ref pf])) := hup hf29 (hne k22 k21 (by intro q; cases q)) k22
  refine g_get C0 G k31 rfl hiX9 2 (by decide) mf_X9_9 rfl dX9_loses_91 ?_
  refine lv_bipush (v := 13) hx hb dX9_loses_94 (by decide) ?_
  refine g_iald C0 G k30 0 rfl (by unfold vp_in; decide) dX9_loses_96 ?_
  refine lv_topv (v := (X9_loses_g2 g ov i) 13) rfl ?_
  refine lv_istore (lv' := [(5, .int ((X9_loses_g2 g ov i) 13)), (4, .int (X9_worth_r0 ((6 * (g 13)) - (g (25 + 11 * i + 2))) (g (25 + 11 * i + 1)))), (3, .int ((6 * (g 13)) - (g (25 + 11 * i + 2)))), (2, .int (nI i)), (0, .ref m), (1, .int ov)]) hx hb dX9_loses_97 hl (by decide) rfl (fun ls hl => ?_)
  refine lv_aload_n hx hb dX9_loses_99 rfl (lv_at hl 4 rfl) ?_
  refine lv_iconst (v := 0) hx hb dX9_loses_100 (by decide) ?_
  refine lv_iconst (v := 0) hx hb dX9_loses_101 (by decide) ?_
  refine g_cV C0 G (g_runV C0 G (rest := []) (k_X9_looks hfl 0 0 k31 k30 (by rw [X9_loses_g2, upd_off (by omega)]; exact (by rw [X9_loses_g0, upd_off (by omega)]; exact h4)) hi (by rw [X9_loses_g2, upd_off (by omega)]; exact (by rw [X9_loses_g0, upd_off (by omega)]; exact h1)) he hie (fun q => by have e9 : (X9_loses_g2 g ov i) 14 = g 14 := (by rw [X9_loses_g2, upd_off (by omega)]; exact (by rw [X9_loses_g0, upd_off (by omega)])); rw [e9]; exact hrr q) (by rw [X9_loses_g2, upd_off (by omega)]; exact (by rw [X9_loses_g0, upd_off (by omega)]; exact h22)) (by omega) (Or.inl rfl) (Or.inl rfl)) k31 rfl hY_X9_looks mm_X9_139 mi_X9_looks ml_X9_looks ⟨(Nat.le_of_ble_eq_true rfl), (Nat.le_of_ble_eq_true rfl)⟩ rfl hl.1 rfl (Nat.le_of_ble_eq_true rfl) dX9_loses_102 ⟨(Nat.le_of_ble_eq_true rfl), (Nat.le_of_ble_eq_true rfl)⟩) (kx_no rfl) (fun u33 H locs hp32 G => ?_)
  obtain ⟨k34, fr35⟩ := hp32
  refine lv_iload hx hb dX9_loses_105 (lv_at hl 0 rfl) ?_
  exact g_iret C0 G hr dX9_loses_107 (Nat.le_of_ble_eq_true rfl) (Nat.le_of_ble_eq_true rfl) (by exact ⟨(by rw [X9_loses_r3]), (by rw [(by rw [X9_loses_g4] : (X9_loses_g4 g ov i s e) = (X9_looks_g11 (X9_loses_g2 g ov i) 0 0 i e s))]; exact k34), (fun a9 e9 h7 h8 => fr35 _ _ (fun q => h7 (by simp only [List.mem_cons, List.not_mem_nil, or_false] at q ⊢; first | exact q | (rcases q with q <;> simp [q]) | omega)) (hup hf29 (fun q => h7 (by rw [q]; simp)) (hup hf20 (fun q => h7 (by rw [q]; simp)) (h8))))⟩)
