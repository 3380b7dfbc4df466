theorem nI_nn (n : Nat) (h : n < 2147483648) : 0 ≤ nI n := by
  have e := (nI_leI (a := 0) (b := n) (by omega) (by omega)).mpr (Nat.zero_le n)
  exact e
def X9_completes_g0 (g : Nat → Int32) (i : Nat) (cm : Nat) : Nat → Int32 := upd g (761 + 20 * i + cm) (g (25 + 11 * i + 0))
def X9_completes_g1 (g : Nat → Int32) (i : Nat) (cm : Nat) : Nat → Int32 := upd (X9_completes_g0 g i cm) (25 + 11 * i + 8) (nI (cm + 1))
def X9_completes_g2 (g : Nat → Int32) (i : Nat) (bo : Nat) (cm : Nat) : Nat → Int32 := upd (X9_completes_g1 g i cm) (333 + 7 * (11 * i + bo) + 6) (((X9_completes_g1 g i cm) (333 + 7 * (11 * i + bo) + 6)) + 1)
def X9_completes_x3 (g : Nat → Int32) (i : Nat) (bo : Nat) (cm : Nat) : Int32 := if ((X9_completes_g2 g i bo cm) 11) = 0 then 1 else 0
def X9_completes_x4 (g : Nat → Int32) (i : Nat) (bo : Nat) (cm : Nat) : Int32 := ((X9_completes_g2 g i bo cm) (333 + 7 * (11 * i + bo) + 3)) + (X9_completes_x3 g i bo cm)
def X9_completes_g5 (g : Nat → Int32) (i : Nat) (bo : Nat) (cm : Nat) : Nat → Int32 := upd (X9_completes_g2 g i bo cm) (333 + 7 * (11 * i + bo) + 3) (X9_completes_x4 g i bo cm)
def X9_completes_g6 (g : Nat → Int32) (i : Nat) (bo : Nat) (cm : Nat) : Nat → Int32 := upd (X9_completes_g5 g i bo cm) (25 + 11 * i + 10) 0
def X9_completes_g7 (g : Nat → Int32) (i : Nat) (bo : Nat) (cm : Nat) : Nat → Int32 := upd (X9_completes_g6 g i bo cm) 12 (nI bo)
def X9_completes_g8 (g : Nat → Int32) (i : Nat) (bo : Nat) (cm : Nat) : Nat → Int32 := upd (X9_completes_g7 g i bo cm) 9 (-1)
def X9_completes_g9 (g : Nat → Int32) (i : Nat) (bo : Nat) (cm : Nat) : Nat → Int32 := upd (X9_completes_g8 g i bo cm) 10 0
def X9_completes_g10 (g : Nat → Int32) (i : Nat) (bo : Nat) (cm : Nat) : Nat → Int32 := upd (X9_completes_g9 g i bo cm) 11 0
def X9_completes_g11 (g : Nat → Int32) (i : Nat) (bo : Nat) (cm : Nat) : Nat → Int32 := if 6 ≤ (g 10) then (X9_changesEnds_g1 (X9_completes_g10 g i bo cm)) else g
set_option maxRecDepth 100000 in
theorem k_X9_completes {l : Launch} (hfl : l.stackTraces = false) {D : va_G} {cy : Nat → ClassId} {f : Hf} {sz : Nat} {m : Nat} {v : Nat} {im : Nat} {kp : Nat} {pa : Nat} {de : Nat} {ide : Nat} {tx : Nat} {pt : Nat} {so : Nat} {mo : Nat} {wh : Nat} {pf : Nat} {c_th : Int32} {c_re : Int32} {c_un : Int32} {c_hi : Int32} {c_tn : Int32} {c_fa : Int32} {c_rf : Int32} {c_ps : Int32} {c_pl : Int32} {c_to : Int32} {g : Nat → Int32} {i : Nat} {bo : Nat} {cm : Nat} (h_m : f m = some (.inr (11, [.int c_th, .int c_re, .ref v, .ref im, .ref kp, .ref pa, .ref de, .ref ide, .int c_un, .int c_hi, .ref tx, .int c_tn, .int c_fa, .int c_rf, .ref pt, .int c_ps, .int c_pl, .int c_to, .ref so, .ref mo, .ref wh, .ref pf]))) (h_v : f v = some (.inl (cy 0, 6441, .inl g))) (h4 : g 4 = nI i) (hi : i < 4) (h9 : g 9 = nI bo) (hbo : bo < 11) (hcm : g (25 + 11 * i + 8) = nI cm) (hc : cm < 20) : hMet l yX9_completes cX9_completes 3 none { frames := 1, cells := 0, slots := 0, locals := 22 } D (hTy cy) f sz [.ref m] (hQv (fun u => u v = some (.inl (cy 0, 6441, .inl (X9_completes_g11 g i bo cm))) ∧ hFrL f u [v]) D f sz) hNo := by
  refine h_enter (by decide) hfl (Nat.le_of_ble_eq_true rfl) ?_
  intro p9 e9 s9 m9 b9 t9 c9 hsz C0 hr hnm G ls hl
  have hx := C0.1.1
  have hb := C0.1.2.1
  have hl : lv_has ls 3 [(0, .ref m)] := hl
  refine lv_aload_n hx hb dX9_completes_0 rfl (lv_at hl 0 rfl) ?_
  refine g_get C0 G h_m rfl hiX9 2 (by decide) mf_X9_9 rfl dX9_completes_1 ?_
  refine lv_bipush (v := 10) hx hb dX9_completes_4 (by decide) ?_
  refine g_iald C0 G h_v 0 rfl (by unfold vp_in; decide) dX9_completes_6 ?_
  refine lv_topv (v := g 10) rfl ?_
  refine lv_bipush (v := 6) hx hb dX9_completes_7 (by decide) ?_
  refine lv_icmp_ge (tgt := 13) hx hb dX9_completes_9 (by decide) (fun c11 => ?_) (fun c11 => ?_)
  · refine lv_aload_n hx hb dX9_completes_13 rfl (lv_at hl 0 rfl) ?_
    refine g_get C0 G h_m rfl hiX9 2 (by decide) mf_X9_9 rfl dX9_completes_14 ?_
    refine lv_iconst (v := 4) hx hb dX9_completes_17 (by decide) ?_
    refine g_iald C0 G h_v 0 rfl (by unfold vp_in; decide) dX9_completes_18 ?_
    refine lv_topv (v := g 4) rfl ?_
    refine lv_topv (v := nI i) (h4) ?_
    refine lv_istore_n (lv' := [(1, .int (nI i)), (0, .ref m)]) hx hb dX9_completes_19 rfl hl (by decide) rfl (fun ls hl => ?_)
    refine lv_aload_n hx hb dX9_completes_20 rfl (lv_at hl 1 rfl) ?_
    refine g_get C0 G h_m rfl hiX9 2 (by decide) mf_X9_9 rfl dX9_completes_21 ?_
    refine lv_bipush (v := 9) hx hb dX9_completes_24 (by decide) ?_
    refine g_iald C0 G h_v 0 rfl (by unfold vp_in; decide) dX9_completes_26 ?_
    refine lv_topv (v := g 9) rfl ?_
    refine lv_topv (v := nI bo) (h9) ?_
    refine lv_istore_n (lv' := [(2, .int (nI bo)), (1, .int (nI i)), (0, .ref m)]) hx hb dX9_completes_27 rfl hl (by decide) rfl (fun ls hl => ?_)
    refine lv_aload_n hx hb dX9_completes_28 rfl (lv_at hl 2 rfl) ?_
    refine g_get C0 G h_m rfl hiX9 2 (by decide) mf_X9_9 rfl dX9_completes_29 ?_
    refine lv_sipush (v := 761) hx hb dX9_completes_32 (by decide) ?_
    refine lv_bipush (v := 20) hx hb dX9_completes_35 (by decide) ?_
    refine lv_iload_n hx hb dX9_completes_37 rfl (lv_at hl 1 rfl) ?_
    refine lv_imul hx hb dX9_completes_38 ?_
    refine lv_topv (v := nI (20 * i)) ((pk_mul _ _)) ?_
    refine lv_iadd hx hb dX9_completes_39 ?_
    refine lv_topv (v := nI (761 + 20 * i)) ((nI_add _ _)) ?_
    refine lv_aload_n hx hb dX9_completes_40 rfl (lv_at hl 2 rfl) ?_
    refine g_get C0 G h_m rfl hiX9 2 (by decide) mf_X9_9 rfl dX9_completes_41 ?_
    refine lv_iload_n hx hb dX9_completes_44 rfl (lv_at hl 1 rfl) ?_
    refine lv_bipush (v := 8) hx hb dX9_completes_45 (by decide) ?_
    refine g_cI C0 G (g_runS C0 G (rest := [.ref v, .int (nI (761 + 20 * i)), .ref v]) (k_X9_at hfl (nI i) 8 ) hY_X9_at mm_X9_62 ms_X9_at ⟨(Nat.le_of_ble_eq_true rfl), (Nat.le_of_ble_eq_true rfl)⟩ rfl hl.1 rfl (Nat.le_of_ble_eq_true rfl) dX9_completes_47 ⟨(Nat.le_of_ble_eq_true rfl), (Nat.le_of_ble_eq_true rfl)⟩) (kx_no rfl) (fun r14 u13 H locs hp12 G => ?_)
    obtain ⟨zr, eu13⟩ := hp12
    replace zr := Eq.symm zr
    subst zr
    rw [eu13] at G
    refine lv_topv (v := nI (25 + 11 * i + 8)) (at_n i 8) ?_
    refine g_iald C0 G h_v 0 rfl (vp_in_nI (by omega) (by omega)) dX9_completes_50 ?_
    refine lv_topv (v := g (25 + 11 * i + 8)) (congrArg g (nI_c (by omega))) ?_
    refine lv_topv (v := nI cm) (hcm) ?_
    refine lv_iadd hx hb dX9_completes_51 ?_
    refine lv_topv (v := nI (761 + 20 * i + cm)) ((nI_add _ _)) ?_
    refine lv_aload_n hx hb dX9_completes_52 rfl (lv_at hl 2 rfl) ?_
    refine g_get C0 G h_m rfl hiX9 2 (by decide) mf_X9_9 rfl dX9_completes_53 ?_
    refine lv_iload_n hx hb dX9_completes_56 rfl (lv_at hl 1 rfl) ?_
    refine lv_iconst (v := 0) hx hb dX9_completes_57 (by decide) ?_
    refine g_cI C0 G (g_runS C0 G (rest := [.ref v, .int (nI (761 + 20 * i + cm)), .ref v]) (k_X9_at hfl (nI i) 0 ) hY_X9_at mm_X9_62 ms_X9_at ⟨(Nat.le_of_ble_eq_true rfl), (Nat.le_of_ble_eq_true rfl)⟩ rfl hl.1 rfl (Nat.le_of_ble_eq_true rfl) dX9_completes_58 ⟨(Nat.le_of_ble_eq_true rfl), (Nat.le_of_ble_eq_true rfl)⟩) (kx_no rfl) (fun r17 u16 H locs hp15 G => ?_)
    obtain ⟨zr, eu16⟩ := hp15
    replace zr := Eq.symm zr
    subst zr
    rw [eu16] at G
    refine lv_topv (v := nI (25 + 11 * i + 0)) (at_n i 0) ?_
    refine g_iald C0 G h_v 0 rfl (vp_in_nI (by omega) (by omega)) dX9_completes_61 ?_
    refine lv_topv (v := g (25 + 11 * i + 0)) (congrArg g (nI_c (by omega))) ?_
    refine g_iast C0 G h_v 0 rfl (vp_in_nI (by omega) (by omega)) dX9_completes_62 (fun H locs f18 hf18 G => ?_)
    have k19 : f18 v = some (.inl (cy 0, 6441, .inl (X9_completes_g0 g i cm))) := (by have h9 := hus hf18; rw [nI_c (by omega)] at h9; exact h9)
    refine lv_aload_n hx hb dX9_completes_63 rfl (lv_at hl 2 rfl) ?_
    have k20 : f18 m = some (.inr (11, [.int c_th, .int c_re, .ref v, .ref im, .ref kp, .ref pa, .ref de, .ref ide, .int c_un, .int c_hi, .ref tx, .int c_tn, .int c_fa, .int c_rf, .ref pt, .int c_ps, .int c_pl, .int c_to, .ref so, .ref mo, .ref wh, .ref pf])) := hup hf18 (hne h_m h_v (by intro q; cases q)) h_m
    refine g_get C0 G k20 rfl hiX9 2 (by decide) mf_X9_9 rfl dX9_completes_64 ?_
    refine lv_iload_n hx hb dX9_completes_67 rfl (lv_at hl 1 rfl) ?_
    refine lv_bipush (v := 8) hx hb dX9_completes_68 (by decide) ?_
    refine g_cI C0 G (g_runS C0 G (rest := [.ref v]) (k_X9_at hfl (nI i) 8 ) hY_X9_at mm_X9_62 ms_X9_at ⟨(Nat.le_of_ble_eq_true rfl), (Nat.le_of_ble_eq_true rfl)⟩ rfl hl.1 rfl (Nat.le_of_ble_eq_true rfl) dX9_completes_70 ⟨(Nat.le_of_ble_eq_true rfl), (Nat.le_of_ble_eq_true rfl)⟩) (kx_no rfl) (fun r23 u22 H locs hp21 G => ?_)
    obtain ⟨zr, eu22⟩ := hp21
    replace zr := Eq.symm zr
    subst zr
    rw [eu22] at G
    refine lv_topv (v := nI (25 + 11 * i + 8)) (at_n i 8) ?_
    refine lv_dup2_11 hx hb dX9_completes_73 rfl rfl ?_
    refine g_iald C0 G k19 0 rfl (vp_in_nI (by omega) (by omega)) dX9_completes_74 ?_
    refine lv_topv (v := (X9_completes_g0 g i cm) (25 + 11 * i + 8)) (congrArg (X9_completes_g0 g i cm) (nI_c (by omega))) ?_
    refine lv_topv (v := nI cm) ((by rw [X9_completes_g0, upd_off (by omega)]; exact hcm)) ?_
    refine lv_iconst (v := 1) hx hb dX9_completes_75 (by decide) ?_
    refine lv_iadd hx hb dX9_completes_76 ?_
    refine lv_topv (v := nI (cm + 1)) ((nI_add _ _)) ?_
    refine g_iast C0 G k19 0 rfl (vp_in_nI (by omega) (by omega)) dX9_completes_77 (fun H locs f24 hf24 G => ?_)
    have k25 : f24 v = some (.inl (cy 0, 6441, .inl (X9_completes_g1 g i cm))) := (by have h9 := hus hf24; rw [nI_c (by omega)] at h9; exact h9)
    refine lv_aload_n hx hb dX9_completes_78 rfl (lv_at hl 2 rfl) ?_
    have k26 : f24 m = some (.inr (11, [.int c_th, .int c_re, .ref v, .ref im, .ref kp, .ref pa, .ref de, .ref ide, .int c_un, .int c_hi, .ref tx, .int c_tn, .int c_fa, .int c_rf, .ref pt, .int c_ps, .int c_pl, .int c_to, .ref so, .ref mo, .ref wh, .ref pf])) := hup hf24 (hne k20 k19 (by intro q; cases q)) k20
    refine g_get C0 G k26 rfl hiX9 2 (by decide) mf_X9_9 rfl dX9_completes_79 ?_
    refine lv_iload_n hx hb dX9_completes_82 rfl (lv_at hl 1 rfl) ?_
    refine lv_iload_n hx hb dX9_completes_83 rfl (lv_at hl 0 rfl) ?_
    refine lv_bipush (v := 6) hx hb dX9_completes_84 (by decide) ?_
    refine g_cI C0 G (g_runS C0 G (rest := [.ref v]) (k_X9_bowlerAt hfl (nI i) (nI bo) 6 ) hY_X9_bowlerAt mm_X9_105 ms_X9_bowlerAt ⟨(Nat.le_of_ble_eq_true rfl), (Nat.le_of_ble_eq_true rfl)⟩ rfl hl.1 rfl (Nat.le_of_ble_eq_true rfl) dX9_completes_86 ⟨(Nat.le_of_ble_eq_true rfl), (Nat.le_of_ble_eq_true rfl)⟩) (kx_no rfl) (fun r29 u28 H locs hp27 G => ?_)
    obtain ⟨zr, eu28⟩ := hp27
    replace zr := Eq.symm zr
    subst zr
    rw [eu28] at G
    refine lv_topv (v := nI (333 + 7 * (11 * i + bo) + 6)) (bow_n i bo 6) ?_
    refine lv_dup2_11 hx hb dX9_completes_89 rfl rfl ?_
    refine g_iald C0 G k25 0 rfl (vp_in_nI (by omega) (by omega)) dX9_completes_90 ?_
    refine lv_topv (v := (X9_completes_g1 g i cm) (333 + 7 * (11 * i + bo) + 6)) (congrArg (X9_completes_g1 g i cm) (nI_c (by omega))) ?_
    refine lv_iconst (v := 1) hx hb dX9_completes_91 (by decide) ?_
    refine lv_iadd hx hb dX9_completes_92 ?_
    refine g_iast C0 G k25 0 rfl (vp_in_nI (by omega) (by omega)) dX9_completes_93 (fun H locs f30 hf30 G => ?_)
    have k31 : f30 v = some (.inl (cy 0, 6441, .inl (X9_completes_g2 g i bo cm))) := (by have h9 := hus hf30; rw [nI_c (by omega)] at h9; exact h9)
    refine lv_aload_n hx hb dX9_completes_94 rfl (lv_at hl 2 rfl) ?_
    have k32 : f30 m = some (.inr (11, [.int c_th, .int c_re, .ref v, .ref im, .ref kp, .ref pa, .ref de, .ref ide, .int c_un, .int c_hi, .ref tx, .int c_tn, .int c_fa, .int c_rf, .ref pt, .int c_ps, .int c_pl, .int c_to, .ref so, .ref mo, .ref wh, .ref pf])) := hup hf30 (hne k26 k25 (by intro q; cases q)) k26
    refine g_get C0 G k32 rfl hiX9 2 (by decide) mf_X9_9 rfl dX9_completes_95 ?_
    refine lv_iload_n hx hb dX9_completes_98 rfl (lv_at hl 1 rfl) ?_
    refine lv_iload_n hx hb dX9_completes_99 rfl (lv_at hl 0 rfl) ?_
    refine lv_iconst (v := 3) hx hb dX9_completes_100 (by decide) ?_
    refine g_cI C0 G (g_runS C0 G (rest := [.ref v]) (k_X9_bowlerAt hfl (nI i) (nI bo) 3 ) hY_X9_bowlerAt mm_X9_105 ms_X9_bowlerAt ⟨(Nat.le_of_ble_eq_true rfl), (Nat.le_of_ble_eq_true rfl)⟩ rfl hl.1 rfl (Nat.le_of_ble_eq_true rfl) dX9_completes_101 ⟨(Nat.le_of_ble_eq_true rfl), (Nat.le_of_ble_eq_true rfl)⟩) (kx_no rfl) (fun r35 u34 H locs hp33 G => ?_)
    obtain ⟨zr, eu34⟩ := hp33
    replace zr := Eq.symm zr
    subst zr
    rw [eu34] at G
    refine lv_topv (v := nI (333 + 7 * (11 * i + bo) + 3)) (bow_n i bo 3) ?_
    refine lv_dup2_11 hx hb dX9_completes_104 rfl rfl ?_
    refine g_iald C0 G k31 0 rfl (vp_in_nI (by omega) (by omega)) dX9_completes_105 ?_
    refine lv_topv (v := (X9_completes_g2 g i bo cm) (333 + 7 * (11 * i + bo) + 3)) (congrArg (X9_completes_g2 g i bo cm) (nI_c (by omega))) ?_
    refine lv_aload_n hx hb dX9_completes_106 rfl (lv_at hl 2 rfl) ?_
    refine g_get C0 G k32 rfl hiX9 2 (by decide) mf_X9_9 rfl dX9_completes_107 ?_
    refine lv_bipush (v := 11) hx hb dX9_completes_110 (by decide) ?_
    refine g_iald C0 G k31 0 rfl (by unfold vp_in; decide) dX9_completes_112 ?_
    refine lv_topv (v := (X9_completes_g2 g i bo cm) 11) rfl ?_
    have J38 : ∀ (y37 : Int32) (_ : y37 = (X9_completes_x3 g i bo cm)) (H : Heap) (locs : List Loc) (ls : Array Slot), hG D (hA f sz) f30 s9 H locs → lv_has ls 3 [(2, .int (nI bo)), (1, .int (nI i)), (0, .ref m)] → W p9 l e9 ({ frames := 1, cells := 0, slots := 0, locals := 22 } : Room) s9 m9 ([.ref m] : List Value).toArray b9 t9 c9 H locs 0 0 (vx_MQ b9 (hQv (fun u => u v = some (.inl (cy 0, 6441, .inl (X9_completes_g11 g i bo cm))) ∧ hFrL f u [v]) D f sz) (hPx hNo D f sz) ([.ref m] : List Value).toArray s9 0 0 (hA f sz)) (F0 m9 121 ls [.int y37, .int ((X9_completes_g2 g i bo cm) (333 + 7 * (11 * i + bo) + 3)), .int (nI (333 + 7 * (11 * i + bo) + 3)), .ref v]) := by
      intro y37 ey37 H locs ls G hl
      replace ey37 := Eq.symm ey37
      subst ey37
      refine lv_iadd hx hb dX9_completes_121 ?_
      refine g_iast C0 G k31 0 rfl (vp_in_nI (by omega) (by omega)) dX9_completes_122 (fun H locs f40 hf40 G => ?_)
      have k41 : f40 v = some (.inl (cy 0, 6441, .inl (X9_completes_g5 g i bo cm))) := (by have h9 := hus hf40; rw [nI_c (by omega)] at h9; exact h9)
      refine lv_aload_n hx hb dX9_completes_123 rfl (lv_at hl 2 rfl) ?_
      have k42 : f40 m = some (.inr (11, [.int c_th, .int c_re, .ref v, .ref im, .ref kp, .ref pa, .ref de, .ref ide, .int c_un, .int c_hi, .ref tx, .int c_tn, .int c_fa, .int c_rf, .ref pt, .int c_ps, .int c_pl, .int c_to, .ref so, .ref mo, .ref wh, .ref pf])) := hup hf40 (hne k32 k31 (by intro q; cases q)) k32
      refine g_get C0 G k42 rfl hiX9 2 (by decide) mf_X9_9 rfl dX9_completes_124 ?_
      refine lv_iload_n hx hb dX9_completes_127 rfl (lv_at hl 1 rfl) ?_
      refine lv_bipush (v := 10) hx hb dX9_completes_128 (by decide) ?_
      refine g_cI C0 G (g_runS C0 G (rest := [.ref v]) (k_X9_at hfl (nI i) 10 ) hY_X9_at mm_X9_62 ms_X9_at ⟨(Nat.le_of_ble_eq_true rfl), (Nat.le_of_ble_eq_true rfl)⟩ rfl hl.1 rfl (Nat.le_of_ble_eq_true rfl) dX9_completes_130 ⟨(Nat.le_of_ble_eq_true rfl), (Nat.le_of_ble_eq_true rfl)⟩) (kx_no rfl) (fun r45 u44 H locs hp43 G => ?_)
      obtain ⟨zr, eu44⟩ := hp43
      replace zr := Eq.symm zr
      subst zr
      rw [eu44] at G
      refine lv_topv (v := nI (25 + 11 * i + 10)) (at_n i 10) ?_
      refine lv_iconst (v := 0) hx hb dX9_completes_133 (by decide) ?_
      refine g_iast C0 G k41 0 rfl (vp_in_nI (by omega) (by omega)) dX9_completes_134 (fun H locs f46 hf46 G => ?_)
      have k47 : f46 v = some (.inl (cy 0, 6441, .inl (X9_completes_g6 g i bo cm))) := (by have h9 := hus hf46; rw [nI_c (by omega)] at h9; exact h9)
      refine lv_aload_n hx hb dX9_completes_135 rfl (lv_at hl 2 rfl) ?_
      have k48 : f46 m = some (.inr (11, [.int c_th, .int c_re, .ref v, .ref im, .ref kp, .ref pa, .ref de, .ref ide, .int c_un, .int c_hi, .ref tx, .int c_tn, .int c_fa, .int c_rf, .ref pt, .int c_ps, .int c_pl, .int c_to, .ref so, .ref mo, .ref wh, .ref pf])) := hup hf46 (hne k42 k41 (by intro q; cases q)) k42
      refine g_get C0 G k48 rfl hiX9 2 (by decide) mf_X9_9 rfl dX9_completes_136 ?_
      refine lv_bipush (v := 12) hx hb dX9_completes_139 (by decide) ?_
      refine lv_iload_n hx hb dX9_completes_141 rfl (lv_at hl 0 rfl) ?_
      refine g_iast C0 G k47 0 rfl (by unfold vp_in; decide) dX9_completes_142 (fun H locs f49 hf49 G => ?_)
      have k50 : f49 v = some (.inl (cy 0, 6441, .inl (X9_completes_g7 g i bo cm))) := hus hf49
      refine lv_aload_n hx hb dX9_completes_143 rfl (lv_at hl 2 rfl) ?_
      have k51 : f49 m = some (.inr (11, [.int c_th, .int c_re, .ref v, .ref im, .ref kp, .ref pa, .ref de, .ref ide, .int c_un, .int c_hi, .ref tx, .int c_tn, .int c_fa, .int c_rf, .ref pt, .int c_ps, .int c_pl, .int c_to, .ref so, .ref mo, .ref wh, .ref pf])) := hup hf49 (hne k48 k47 (by intro q; cases q)) k48
      refine g_get C0 G k51 rfl hiX9 2 (by decide) mf_X9_9 rfl dX9_completes_144 ?_
      refine lv_bipush (v := 9) hx hb dX9_completes_147 (by decide) ?_
      refine lv_iconst (v := (-1)) hx hb dX9_completes_149 (by decide) ?_
      refine g_iast C0 G k50 0 rfl (by unfold vp_in; decide) dX9_completes_150 (fun H locs f52 hf52 G => ?_)
      have k53 : f52 v = some (.inl (cy 0, 6441, .inl (X9_completes_g8 g i bo cm))) := hus hf52
      refine lv_aload_n hx hb dX9_completes_151 rfl (lv_at hl 2 rfl) ?_
      have k54 : f52 m = some (.inr (11, [.int c_th, .int c_re, .ref v, .ref im, .ref kp, .ref pa, .ref de, .ref ide, .int c_un, .int c_hi, .ref tx, .int c_tn, .int c_fa, .int c_rf, .ref pt, .int c_ps, .int c_pl, .int c_to, .ref so, .ref mo, .ref wh, .ref pf])) := hup hf52 (hne k51 k50 (by intro q; cases q)) k51
      refine g_get C0 G k54 rfl hiX9 2 (by decide) mf_X9_9 rfl dX9_completes_152 ?_
      refine lv_bipush (v := 10) hx hb dX9_completes_155 (by decide) ?_
      refine lv_iconst (v := 0) hx hb dX9_completes_157 (by decide) ?_
      refine g_iast C0 G k53 0 rfl (by unfold vp_in; decide) dX9_completes_158 (fun H locs f55 hf55 G => ?_)
      have k56 : f55 v = some (.inl (cy 0, 6441, .inl (X9_completes_g9 g i bo cm))) := hus hf55
      refine lv_aload_n hx hb dX9_completes_159 rfl (lv_at hl 2 rfl) ?_
      have k57 : f55 m = some (.inr (11, [.int c_th, .int c_re, .ref v, .ref im, .ref kp, .ref pa, .ref de, .ref ide, .int c_un, .int c_hi, .ref tx, .int c_tn, .int c_fa, .int c_rf, .ref pt, .int c_ps, .int c_pl, .int c_to, .ref so, .ref mo, .ref wh, .ref pf])) := hup hf55 (hne k54 k53 (by intro q; cases q)) k54
      refine g_get C0 G k57 rfl hiX9 2 (by decide) mf_X9_9 rfl dX9_completes_160 ?_
      refine lv_bipush (v := 11) hx hb dX9_completes_163 (by decide) ?_
      refine lv_iconst (v := 0) hx hb dX9_completes_165 (by decide) ?_
      refine g_iast C0 G k56 0 rfl (by unfold vp_in; decide) dX9_completes_166 (fun H locs f58 hf58 G => ?_)
      have k59 : f58 v = some (.inl (cy 0, 6441, .inl (X9_completes_g10 g i bo cm))) := hus hf58
      refine lv_aload_n hx hb dX9_completes_167 rfl (lv_at hl 2 rfl) ?_
      have k60 : f58 m = some (.inr (11, [.int c_th, .int c_re, .ref v, .ref im, .ref kp, .ref pa, .ref de, .ref ide, .int c_un, .int c_hi, .ref tx, .int c_tn, .int c_fa, .int c_rf, .ref pt, .int c_ps, .int c_pl, .int c_to, .ref so, .ref mo, .ref wh, .ref pf])) := hup hf58 (hne k57 k56 (by intro q; cases q)) k57
      refine g_cV C0 G (g_runV C0 G (rest := []) (k_X9_changesEnds hfl k60 k59) k60 rfl hY_X9_changesEnds mm_X9_149 mi_X9_changesEnds ml_X9_changesEnds ⟨(Nat.le_of_ble_eq_true rfl), (Nat.le_of_ble_eq_true rfl)⟩ rfl hl.1 rfl (Nat.le_of_ble_eq_true rfl) dX9_completes_168 ⟨(Nat.le_of_ble_eq_true rfl), (Nat.le_of_ble_eq_true rfl)⟩) (kx_no rfl) (fun u62 H locs hp61 G => ?_)
      obtain ⟨k63, fr64⟩ := hp61
      exact g_vret C0 G hr dX9_completes_171 (Nat.le_of_ble_eq_true rfl) (Nat.le_of_ble_eq_true rfl) (by exact ⟨(by rw [(by rw [X9_completes_g11, if_pos c11] : (X9_completes_g11 g i bo cm) = (X9_changesEnds_g1 (X9_completes_g10 g i bo cm)))]; exact k63), (fun a9 e9 h7 h8 => fr64 _ _ (fun q => h7 (by simp only [List.mem_cons, List.not_mem_nil, or_false] at q ⊢; first | exact q | (rcases q with q <;> simp [q]) | omega)) (hup hf58 (fun q => h7 (by rw [q]; simp)) (hup hf55 (fun q => h7 (by rw [q]; simp)) (hup hf52 (fun q => h7 (by rw [q]; simp)) (hup hf49 (fun q => h7 (by rw [q]; simp)) (hup hf46 (fun q => h7 (by rw [q]; simp)) (hup hf40 (fun q => h7 (by rw [q]; simp)) (hup hf30 (fun q => h7 (by rw [q]; simp)) (hup hf24 (fun q => h7 (by rw [q]; simp)) (hup hf18 (fun q => h7 (by rw [q]; simp)) (h8)))))))))))⟩)
    refine lv_if_ne (tgt := 120) hx hb dX9_completes_113 (by decide) (fun c36 => ?_) (fun c36 => ?_)
    · refine lv_iconst (v := 0) hx hb dX9_completes_120 (by decide) ?_
      exact J38 0 (by rw [X9_completes_x3, if_neg c36]) _ _ _ G (lv_sub hl [0, 1, 2] rfl)
    · refine lv_iconst (v := 1) hx hb dX9_completes_116 (by decide) ?_
      refine lv_goto (tgt := 121) hx hb dX9_completes_117 (by decide) ?_
      exact J38 1 (by rw [X9_completes_x3, if_pos c36]) _ _ _ G (lv_sub hl [0, 1, 2] rfl)
  · exact g_vret C0 G hr dX9_completes_12 (Nat.le_of_ble_eq_true rfl) (Nat.le_of_ble_eq_true rfl) (by exact ⟨(by rw [(by rw [X9_completes_g11, if_neg c11] : (X9_completes_g11 g i bo cm) = g)]; exact h_v), (fun a9 e9 h7 h8 => h8)⟩)
theorem rd_X9_completes_0 {g : Nat → Int32} {i : Nat} {bo : Nat} {cm : Nat} (hi : i < 4) (hbo : bo < 11) (hc : cm < 20) : (X9_completes_g11 g i bo cm) 0 = g 0 := (by rw [X9_completes_g11]; split; exact ((rd_X9_changesEnds_0).trans (by rw [X9_completes_g10, upd_off (by omega)]; exact (by rw [X9_completes_g9, upd_off (by omega)]; exact (by rw [X9_completes_g8, upd_off (by omega)]; exact (by rw [X9_completes_g7, upd_off (by omega)]; exact (by rw [X9_completes_g6, upd_off (by omega)]; exact (by rw [X9_completes_g5, upd_off (by omega)]; exact (by rw [X9_completes_g2, upd_off (by omega)]; exact (by rw [X9_completes_g1, upd_off (by omega)]; exact (by rw [X9_completes_g0, upd_off (by omega)])))))))))); exact rfl)
theorem rd_X9_completes_1 {g : Nat → Int32} {i : Nat} {bo : Nat} {cm : Nat} (hi : i < 4) (hbo : bo < 11) (hc : cm < 20) : (X9_completes_g11 g i bo cm) 1 = g 1 := (by rw [X9_completes_g11]; split; exact ((rd_X9_changesEnds_1).trans (by rw [X9_completes_g10, upd_off (by omega)]; exact (by rw [X9_completes_g9, upd_off (by omega)]; exact (by rw [X9_completes_g8, upd_off (by omega)]; exact (by rw [X9_completes_g7, upd_off (by omega)]; exact (by rw [X9_completes_g6, upd_off (by omega)]; exact (by rw [X9_completes_g5, upd_off (by omega)]; exact (by rw [X9_completes_g2, upd_off (by omega)]; exact (by rw [X9_completes_g1, upd_off (by omega)]; exact (by rw [X9_completes_g0, upd_off (by omega)])))))))))); exact rfl)
theorem rd_X9_completes_2 {g : Nat → Int32} {i : Nat} {bo : Nat} {cm : Nat} (hi : i < 4) (hbo : bo < 11) (hc : cm < 20) : (X9_completes_g11 g i bo cm) 2 = g 2 := (by rw [X9_completes_g11]; split; exact ((rd_X9_changesEnds_2).trans (by rw [X9_completes_g10, upd_off (by omega)]; exact (by rw [X9_completes_g9, upd_off (by omega)]; exact (by rw [X9_completes_g8, upd_off (by omega)]; exact (by rw [X9_completes_g7, upd_off (by omega)]; exact (by rw [X9_completes_g6, upd_off (by omega)]; exact (by rw [X9_completes_g5, upd_off (by omega)]; exact (by rw [X9_completes_g2, upd_off (by omega)]; exact (by rw [X9_completes_g1, upd_off (by omega)]; exact (by rw [X9_completes_g0, upd_off (by omega)])))))))))); exact rfl)
theorem rd_X9_completes_4 {g : Nat → Int32} {i : Nat} {bo : Nat} {cm : Nat} (hi : i < 4) (hbo : bo < 11) (hc : cm < 20) : (X9_completes_g11 g i bo cm) 4 = g 4 := (by rw [X9_completes_g11]; split; exact ((rd_X9_changesEnds_4).trans (by rw [X9_completes_g10, upd_off (by omega)]; exact (by rw [X9_completes_g9, upd_off (by omega)]; exact (by rw [X9_completes_g8, upd_off (by omega)]; exact (by rw [X9_completes_g7, upd_off (by omega)]; exact (by rw [X9_completes_g6, upd_off (by omega)]; exact (by rw [X9_completes_g5, upd_off (by omega)]; exact (by rw [X9_completes_g2, upd_off (by omega)]; exact (by rw [X9_completes_g1, upd_off (by omega)]; exact (by rw [X9_completes_g0, upd_off (by omega)])))))))))); exact rfl)
theorem rd_X9_completes_5 {g : Nat → Int32} {i : Nat} {bo : Nat} {cm : Nat} (hi : i < 4) (hbo : bo < 11) (hc : cm < 20) : (X9_completes_g11 g i bo cm) 5 = g 5 := (by rw [X9_completes_g11]; split; exact ((rd_X9_changesEnds_5).trans (by rw [X9_completes_g10, upd_off (by omega)]; exact (by rw [X9_completes_g9, upd_off (by omega)]; exact (by rw [X9_completes_g8, upd_off (by omega)]; exact (by rw [X9_completes_g7, upd_off (by omega)]; exact (by rw [X9_completes_g6, upd_off (by omega)]; exact (by rw [X9_completes_g5, upd_off (by omega)]; exact (by rw [X9_completes_g2, upd_off (by omega)]; exact (by rw [X9_completes_g1, upd_off (by omega)]; exact (by rw [X9_completes_g0, upd_off (by omega)])))))))))); exact rfl)
theorem rd_X9_completes_8 {g : Nat → Int32} {i : Nat} {bo : Nat} {cm : Nat} (hi : i < 4) (hbo : bo < 11) (hc : cm < 20) : (X9_completes_g11 g i bo cm) 8 = g 8 := (by rw [X9_completes_g11]; split; exact ((rd_X9_changesEnds_8).trans (by rw [X9_completes_g10, upd_off (by omega)]; exact (by rw [X9_completes_g9, upd_off (by omega)]; exact (by rw [X9_completes_g8, upd_off (by omega)]; exact (by rw [X9_completes_g7, upd_off (by omega)]; exact (by rw [X9_completes_g6, upd_off (by omega)]; exact (by rw [X9_completes_g5, upd_off (by omega)]; exact (by rw [X9_completes_g2, upd_off (by omega)]; exact (by rw [X9_completes_g1, upd_off (by omega)]; exact (by rw [X9_completes_g0, upd_off (by omega)])))))))))); exact rfl)
theorem rd_X9_completes_13 {g : Nat → Int32} {i : Nat} {bo : Nat} {cm : Nat} (hi : i < 4) (hbo : bo < 11) (hc : cm < 20) : (X9_completes_g11 g i bo cm) 13 = g 13 := (by rw [X9_completes_g11]; split; exact ((rd_X9_changesEnds_13).trans (by rw [X9_completes_g10, upd_off (by omega)]; exact (by rw [X9_completes_g9, upd_off (by omega)]; exact (by rw [X9_completes_g8, upd_off (by omega)]; exact (by rw [X9_completes_g7, upd_off (by omega)]; exact (by rw [X9_completes_g6, upd_off (by omega)]; exact (by rw [X9_completes_g5, upd_off (by omega)]; exact (by rw [X9_completes_g2, upd_off (by omega)]; exact (by rw [X9_completes_g1, upd_off (by omega)]; exact (by rw [X9_completes_g0, upd_off (by omega)])))))))))); exact rfl)
theorem rd_X9_completes_14 {g : Nat → Int32} {i : Nat} {bo : Nat} {cm : Nat} (hi : i < 4) (hbo : bo < 11) (hc : cm < 20) : (X9_completes_g11 g i bo cm) 14 = g 14 := (by rw [X9_completes_g11]; split; exact ((rd_X9_changesEnds_14).trans (by rw [X9_completes_g10, upd_off (by omega)]; exact (by rw [X9_completes_g9, upd_off (by omega)]; exact (by rw [X9_completes_g8, upd_off (by omega)]; exact (by rw [X9_completes_g7, upd_off (by omega)]; exact (by rw [X9_completes_g6, upd_off (by omega)]; exact (by rw [X9_completes_g5, upd_off (by omega)]; exact (by rw [X9_completes_g2, upd_off (by omega)]; exact (by rw [X9_completes_g1, upd_off (by omega)]; exact (by rw [X9_completes_g0, upd_off (by omega)])))))))))); exact rfl)
theorem rd_X9_completes_22 {g : Nat → Int32} {i : Nat} {bo : Nat} {cm : Nat} (hi : i < 4) (hbo : bo < 11) (hc : cm < 20) : (X9_completes_g11 g i bo cm) 22 = g 22 := (by rw [X9_completes_g11]; split; exact ((rd_X9_changesEnds_22).trans (by rw [X9_completes_g10, upd_off (by omega)]; exact (by rw [X9_completes_g9, upd_off (by omega)]; exact (by rw [X9_completes_g8, upd_off (by omega)]; exact (by rw [X9_completes_g7, upd_off (by omega)]; exact (by rw [X9_completes_g6, upd_off (by omega)]; exact (by rw [X9_completes_g5, upd_off (by omega)]; exact (by rw [X9_completes_g2, upd_off (by omega)]; exact (by rw [X9_completes_g1, upd_off (by omega)]; exact (by rw [X9_completes_g0, upd_off (by omega)])))))))))); exact rfl)
theorem rd_X9_completes_23 {g : Nat → Int32} {i : Nat} {bo : Nat} {cm : Nat} (hi : i < 4) (hbo : bo < 11) (hc : cm < 20) : (X9_completes_g11 g i bo cm) 23 = g 23 := (by rw [X9_completes_g11]; split; exact ((rd_X9_changesEnds_23).trans (by rw [X9_completes_g10, upd_off (by omega)]; exact (by rw [X9_completes_g9, upd_off (by omega)]; exact (by rw [X9_completes_g8, upd_off (by omega)]; exact (by rw [X9_completes_g7, upd_off (by omega)]; exact (by rw [X9_completes_g6, upd_off (by omega)]; exact (by rw [X9_completes_g5, upd_off (by omega)]; exact (by rw [X9_completes_g2, upd_off (by omega)]; exact (by rw [X9_completes_g1, upd_off (by omega)]; exact (by rw [X9_completes_g0, upd_off (by omega)])))))))))); exact rfl)
theorem rd_X9_completes_24 {g : Nat → Int32} {i : Nat} {bo : Nat} {cm : Nat} (hi : i < 4) (hbo : bo < 11) (hc : cm < 20) : (X9_completes_g11 g i bo cm) 24 = g 24 := (by rw [X9_completes_g11]; split; exact ((rd_X9_changesEnds_24).trans (by rw [X9_completes_g10, upd_off (by omega)]; exact (by rw [X9_completes_g9, upd_off (by omega)]; exact (by rw [X9_completes_g8, upd_off (by omega)]; exact (by rw [X9_completes_g7, upd_off (by omega)]; exact (by rw [X9_completes_g6, upd_off (by omega)]; exact (by rw [X9_completes_g5, upd_off (by omega)]; exact (by rw [X9_completes_g2, upd_off (by omega)]; exact (by rw [X9_completes_g1, upd_off (by omega)]; exact (by rw [X9_completes_g0, upd_off (by omega)])))))))))); exact rfl)
theorem rd_X9_completes_25_11_i_1 {g : Nat → Int32} {i : Nat} {bo : Nat} {cm : Nat} (hi : i < 4) (hbo : bo < 11) (hc : cm < 20) : (X9_completes_g11 g i bo cm) (25 + 11 * i + 1) = g (25 + 11 * i + 1) := (by rw [X9_completes_g11]; split; exact (by rw [X9_changesEnds_g1, upd_off (by omega)]; exact (by rw [X9_changesEnds_g0, upd_off (by omega)]; exact (by rw [X9_completes_g10, upd_off (by omega)]; exact (by rw [X9_completes_g9, upd_off (by omega)]; exact (by rw [X9_completes_g8, upd_off (by omega)]; exact (by rw [X9_completes_g7, upd_off (by omega)]; exact (by rw [X9_completes_g6, upd_off (by omega)]; exact (by rw [X9_completes_g5, upd_off (by omega)]; exact (by rw [X9_completes_g2, upd_off (by omega)]; exact (by rw [X9_completes_g1, upd_off (by omega)]; exact (by rw [X9_completes_g0, upd_off (by omega)]))))))))))); exact rfl)
def X9_bowled_g0 (g : Nat → Int32) (kind : Nat) (runs : Int32) (bnd : Int32) (i : Nat) (a : Nat) (bo : Nat) (s : Nat) : Nat → Int32 := if (runs - runs / 2 * 2) = 1 then (X9_changesEnds_g1 (X9_scores_g44 g kind runs bnd i a bo s)) else (X9_scores_g44 g kind runs bnd i a bo s)
def X9_bowled_g1 (g : Nat → Int32) (kind : Nat) (runs : Int32) (bnd : Int32) (i : Nat) (a : Nat) (bo : Nat) (s : Nat) : Nat → Int32 := if bnd = 0 then (X9_bowled_g0 g kind runs bnd i a bo s) else (X9_scores_g44 g kind runs bnd i a bo s)
def X9_bowled_g2 (g : Nat → Int32) (kind : Nat) (runs : Int32) (bnd : Int32) (i : Nat) (a : Nat) (bo : Nat) (s : Nat) (cm : Nat) (e : Nat) : Nat → Int32 := (X9_looks_g11 (X9_completes_g11 (X9_bowled_g1 g kind runs bnd i a bo s) i bo cm) 0 0 i e s)
set_option maxRecDepth 100000 in
theorem k_X9_bowled {l : Launch} (hfl : l.stackTraces = false) {D : va_G} {cy : Nat → ClassId} {f : Hf} {sz : Nat} {m : Nat} {v : Nat} {im : Nat} {kp : Nat} {pa : Nat} {de : Nat} {ide : Nat} {tx : Nat} {pt : Nat} {so : Nat} {mo : Nat} {wh : Nat} {pf : Nat} {c_th : Int32} {c_re : Int32} {c_un : Int32} {c_hi : Int32} {c_tn : Int32} {c_fa : Int32} {c_rf : Int32} {c_ps : Int32} {c_pl : Int32} {c_to : Int32} {g : Nat → Int32} {kind : Nat} (runs : Int32) (bnd : Int32) {i : Nat} {a : Nat} {bo : Nat} {s : Nat} {cm : Nat} {e : Nat} (h_m : f m = some (.inr (11, [.int c_th, .int c_re, .ref v, .ref im, .ref kp, .ref pa, .ref de, .ref ide, .int c_un, .int c_hi, .ref tx, .int c_tn, .int c_fa, .int c_rf, .ref pt, .int c_ps, .int c_pl, .int c_to, .ref so, .ref mo, .ref wh, .ref pf]))) (h_v : f v = some (.inl (cy 0, 6441, .inl g))) (h4 : g 4 = nI i) (hi : i < 4) (h6 : g 6 = nI a) (ha : a < 11) (h9 : g 9 = nI bo) (hbo : bo < 11) (h22 : g 22 = nI s) (hs1 : 1 ≤ s) (hs : s < 699) (hcm : g (25 + 11 * i + 8) = nI cm) (hc : cm < 20) (h1 : g 1 = nI e) (he : e = 1 ∨ e = 2) (hie : i + 1 ≤ 2 * e) (hrr : i + 1 = 2 * e → e = 2 ∨ ¬ (g 14).toInt64 = 0) (hk : kind < 5) (hb_bnd : bnd = 0 ∨ bnd = 1) : hMet l yX9_bowled cX9_bowled 5 (some .int) { frames := 3, cells := 0, slots := 0, locals := 71 } D (hTy cy) f sz [.ref m, .int (nI kind), .int runs, .int bnd] (hQi (fun r u => r = (X9_scores_x1 kind runs) ∧ u v = some (.inl (cy 0, 6441, .inl (X9_bowled_g2 g kind runs bnd i a bo s cm e))) ∧ hFrL f u [v]) D f sz) hNo := by
  refine h_enter (by decide) hfl (Nat.le_of_ble_eq_true rfl) ?_
  intro p9 e9 s9 m9 b9 t9 c9 hsz C0 hr hnm G ls hl
  have hx := C0.1.1
  have hb := C0.1.2.1
  have hl : lv_has ls 5 [(0, .ref m), (1, .int (nI kind)), (2, .int runs), (3, .int bnd)] := hl
  refine lv_aload_n hx hb dX9_bowled_0 rfl (lv_at hl 0 rfl) ?_
  refine lv_iload_n hx hb dX9_bowled_1 rfl (lv_at hl 1 rfl) ?_
  refine lv_iload_n hx hb dX9_bowled_2 rfl (lv_at hl 2 rfl) ?_
  refine lv_iload_n hx hb dX9_bowled_3 rfl (lv_at hl 3 rfl) ?_
  refine g_cI C0 G (g_runV C0 G (rest := []) (k_X9_scores hfl runs bnd h_m h_v h4 hi h6 ha h9 hbo h22 hs1 (by omega) hk hb_bnd) h_m rfl hY_X9_scores mm_X9_152 mi_X9_scores ml_X9_scores ⟨(Nat.le_of_ble_eq_true rfl), (Nat.le_of_ble_eq_true rfl)⟩ rfl hl.1 rfl (Nat.le_of_ble_eq_true rfl) dX9_bowled_4 ⟨(Nat.le_of_ble_eq_true rfl), (Nat.le_of_ble_eq_true rfl)⟩) (kx_no rfl) (fun r13 u12 H locs hp11 G => ?_)
  obtain ⟨zr, k14, fr15⟩ := hp11
  replace zr := Eq.symm zr
  subst zr
  refine lv_istore (lv' := [(4, .int (X9_scores_x1 kind runs)), (0, .ref m), (1, .int (nI kind)), (2, .int runs), (3, .int bnd)]) hx hb dX9_bowled_7 hl (by decide) rfl (fun ls hl => ?_)
  refine lv_iload_n hx hb dX9_bowled_9 rfl (lv_at hl 4 rfl) ?_
  have J18 : ∀ (y17 : Nat → Int32) (_ : y17 = (X9_bowled_g1 g kind runs bnd i a bo s)) (f19 : Hf) (H : Heap) (locs : List Loc) (ls : Array Slot), f19 v = some (.inl (cy 0, 6441, .inl y17)) → hFrL u12 f19 [v] → hG D (hA f sz) f19 s9 H locs → lv_has ls 5 [(4, .int (X9_scores_x1 kind runs)), (0, .ref m), (1, .int (nI kind)), (2, .int runs), (3, .int bnd)] → W p9 l e9 ({ frames := 3, cells := 0, slots := 0, locals := 71 } : Room) s9 m9 ([.ref m, .int (nI kind), .int runs, .int bnd] : List Value).toArray b9 t9 c9 H locs 0 0 (vx_MQ b9 (hQi (fun r u => r = (X9_scores_x1 kind runs) ∧ u v = some (.inl (cy 0, 6441, .inl (X9_bowled_g2 g kind runs bnd i a bo s cm e))) ∧ hFrL f u [v]) D f sz) (hPx hNo D f sz) ([.ref m, .int (nI kind), .int runs, .int bnd] : List Value).toArray s9 0 0 (hA f sz)) (F0 m9 24 ls []) := by
    intro y17 ey17 f19 H locs ls k20 fr21 G hl
    replace ey17 := Eq.symm ey17
    subst ey17
    refine lv_aload_n hx hb dX9_bowled_24 rfl (lv_at hl 1 rfl) ?_
    have k22 : f19 m = some (.inr (11, [.int c_th, .int c_re, .ref v, .ref im, .ref kp, .ref pa, .ref de, .ref ide, .int c_un, .int c_hi, .ref tx, .int c_tn, .int c_fa, .int c_rf, .ref pt, .int c_ps, .int c_pl, .int c_to, .ref so, .ref mo, .ref wh, .ref pf])) := fr21 _ _ (by simp only [List.mem_cons, List.not_mem_nil, or_false]; intro q; exact (hne (fr15 _ _ (by simp only [List.mem_cons, List.not_mem_nil, or_false]; intro q; exact (hne h_m h_v (by intro q; cases q)) q) h_m) k14 (by intro q; cases q)) q) (fr15 _ _ (by simp only [List.mem_cons, List.not_mem_nil, or_false]; intro q; exact (hne h_m h_v (by intro q; cases q)) q) h_m)
    refine g_cV C0 G (g_runV C0 G (rest := []) (k_X9_completes hfl k22 k20 (by rw [X9_bowled_g1]; split; exact (by rw [X9_bowled_g0]; split; exact ((rd_X9_changesEnds_4).trans ((rd_X9_scores_4 (by omega) (by omega) (by omega) (by omega) (by omega) (by omega)).trans h4)); exact ((rd_X9_scores_4 (by omega) (by omega) (by omega) (by omega) (by omega) (by omega)).trans h4)); exact ((rd_X9_scores_4 (by omega) (by omega) (by omega) (by omega) (by omega) (by omega)).trans h4)) hi (by rw [X9_bowled_g1]; split; exact (by rw [X9_bowled_g0]; split; exact ((rd_X9_changesEnds_9).trans ((rd_X9_scores_9 (by omega) (by omega) (by omega) (by omega) (by omega) (by omega)).trans h9)); exact ((rd_X9_scores_9 (by omega) (by omega) (by omega) (by omega) (by omega) (by omega)).trans h9)); exact ((rd_X9_scores_9 (by omega) (by omega) (by omega) (by omega) (by omega) (by omega)).trans h9)) hbo (by rw [X9_bowled_g1]; split; exact (by rw [X9_bowled_g0]; split; exact (by rw [X9_changesEnds_g1, upd_off (by omega)]; exact (by rw [X9_changesEnds_g0, upd_off (by omega)]; exact ((rd_X9_scores_25_11_i_8 (by omega) (by omega) (by omega) (by omega) (by omega) (by omega)).trans hcm))); exact ((rd_X9_scores_25_11_i_8 (by omega) (by omega) (by omega) (by omega) (by omega) (by omega)).trans hcm)); exact ((rd_X9_scores_25_11_i_8 (by omega) (by omega) (by omega) (by omega) (by omega) (by omega)).trans hcm)) hc) k22 rfl hY_X9_completes mm_X9_155 mi_X9_completes ml_X9_completes ⟨(Nat.le_of_ble_eq_true rfl), (Nat.le_of_ble_eq_true rfl)⟩ rfl hl.1 rfl (Nat.le_of_ble_eq_true rfl) dX9_bowled_25 ⟨(Nat.le_of_ble_eq_true rfl), (Nat.le_of_ble_eq_true rfl)⟩) (kx_no rfl) (fun u24 H locs hp23 G => ?_)
    obtain ⟨k25, fr26⟩ := hp23
    refine lv_aload_n hx hb dX9_bowled_28 rfl (lv_at hl 1 rfl) ?_
    refine lv_iconst (v := 0) hx hb dX9_bowled_29 (by decide) ?_
    refine lv_iconst (v := 0) hx hb dX9_bowled_30 (by decide) ?_
    have k27 : u24 m = some (.inr (11, [.int c_th, .int c_re, .ref v, .ref im, .ref kp, .ref pa, .ref de, .ref ide, .int c_un, .int c_hi, .ref tx, .int c_tn, .int c_fa, .int c_rf, .ref pt, .int c_ps, .int c_pl, .int c_to, .ref so, .ref mo, .ref wh, .ref pf])) := fr26 _ _ (by simp only [List.mem_cons, List.not_mem_nil, or_false]; intro q; exact (hne k22 k20 (by intro q; cases q)) q) k22
    refine g_cV C0 G (g_runV C0 G (rest := []) (k_X9_looks hfl 0 0 k27 k25 ((rd_X9_completes_4 (by omega) (by omega) (by omega)).trans (by rw [X9_bowled_g1]; split; exact (by rw [X9_bowled_g0]; split; exact ((rd_X9_changesEnds_4).trans ((rd_X9_scores_4 (by omega) (by omega) (by omega) (by omega) (by omega) (by omega)).trans h4)); exact ((rd_X9_scores_4 (by omega) (by omega) (by omega) (by omega) (by omega) (by omega)).trans h4)); exact ((rd_X9_scores_4 (by omega) (by omega) (by omega) (by omega) (by omega) (by omega)).trans h4))) hi ((rd_X9_completes_1 (by omega) (by omega) (by omega)).trans (by rw [X9_bowled_g1]; split; exact (by rw [X9_bowled_g0]; split; exact ((rd_X9_changesEnds_1).trans ((rd_X9_scores_1 (by omega) (by omega) (by omega) (by omega) (by omega) (by omega)).trans h1)); exact ((rd_X9_scores_1 (by omega) (by omega) (by omega) (by omega) (by omega) (by omega)).trans h1)); exact ((rd_X9_scores_1 (by omega) (by omega) (by omega) (by omega) (by omega) (by omega)).trans h1))) he hie (fun q => by have e9 : (X9_completes_g11 (X9_bowled_g1 g kind runs bnd i a bo s) i bo cm) 14 = g 14 := ((rd_X9_completes_14 (by omega) (by omega) (by omega)).trans (by rw [X9_bowled_g1]; split; exact (by rw [X9_bowled_g0]; split; exact ((rd_X9_changesEnds_14).trans (rd_X9_scores_14 (by omega) (by omega) (by omega) (by omega) (by omega) (by omega))); exact (rd_X9_scores_14 (by omega) (by omega) (by omega) (by omega) (by omega) (by omega))); exact (rd_X9_scores_14 (by omega) (by omega) (by omega) (by omega) (by omega) (by omega)))); rw [e9]; exact hrr q) ((rd_X9_completes_22 (by omega) (by omega) (by omega)).trans (by rw [X9_bowled_g1]; split; exact (by rw [X9_bowled_g0]; split; exact ((rd_X9_changesEnds_22).trans ((rd_X9_scores_22 (by omega) (by omega) (by omega) (by omega) (by omega) (by omega)).trans h22)); exact ((rd_X9_scores_22 (by omega) (by omega) (by omega) (by omega) (by omega) (by omega)).trans h22)); exact ((rd_X9_scores_22 (by omega) (by omega) (by omega) (by omega) (by omega) (by omega)).trans h22))) (by omega) (Or.inl rfl) (Or.inl rfl)) k27 rfl hY_X9_looks mm_X9_139 mi_X9_looks ml_X9_looks ⟨(Nat.le_of_ble_eq_true rfl), (Nat.le_of_ble_eq_true rfl)⟩ rfl hl.1 rfl (Nat.le_of_ble_eq_true rfl) dX9_bowled_31 ⟨(Nat.le_of_ble_eq_true rfl), (Nat.le_of_ble_eq_true rfl)⟩) (kx_no rfl) (fun u29 H locs hp28 G => ?_)
    obtain ⟨k30, fr31⟩ := hp28
    refine lv_iload hx hb dX9_bowled_34 (lv_at hl 0 rfl) ?_
    exact g_iret C0 G hr dX9_bowled_36 (Nat.le_of_ble_eq_true rfl) (Nat.le_of_ble_eq_true rfl) (by exact ⟨rfl, (by rw [(by rw [X9_bowled_g2] : (X9_bowled_g2 g kind runs bnd i a bo s cm e) = (X9_looks_g11 (X9_completes_g11 (X9_bowled_g1 g kind runs bnd i a bo s) i bo cm) 0 0 i e s))]; exact k30), (fun a9 e9 h7 h8 => fr31 _ _ (fun q => h7 (by simp only [List.mem_cons, List.not_mem_nil, or_false] at q ⊢; first | exact q | (rcases q with q <;> simp [q]) | omega)) (fr26 _ _ (fun q => h7 (by simp only [List.mem_cons, List.not_mem_nil, or_false] at q ⊢; first | exact q | (rcases q with q <;> simp [q]) | omega)) (fr21 _ _ (fun q => h7 (by simp only [List.mem_cons, List.not_mem_nil, or_false] at q ⊢; first | exact q | (rcases q with q <;> simp [q]) | omega)) (fr15 _ _ (fun q => h7 (by simp only [List.mem_cons, List.not_mem_nil, or_false] at q ⊢; first | exact q | (rcases q with q <;> simp [q]) | omega)) (h8)))))⟩)
  refine lv_if_ne (tgt := 24) hx hb dX9_bowled_10 (by decide) (fun c16 => ?_) (fun c16 => ?_)
  · exact J18 (X9_scores_g44 g kind runs bnd i a bo s) (by rw [X9_bowled_g1, if_neg c16]) u12 _ _ _ k14 (fun a9 e9 h7 h8 => h8) G (lv_sub hl [0, 1, 2, 3, 4] rfl)
  · refine lv_iload_n hx hb dX9_bowled_13 rfl (lv_at hl 3 rfl) ?_
    refine lv_iconst (v := 2) hx hb dX9_bowled_14 (by decide) ?_
    refine lv_irem hx hb dX9_bowled_15 (by decide) ?_
    refine lv_iconst (v := 1) hx hb dX9_bowled_16 (by decide) ?_
    have J34 : ∀ (y33 : Nat → Int32) (_ : y33 = (X9_bowled_g0 g kind runs bnd i a bo s)) (f35 : Hf) (H : Heap) (locs : List Loc) (ls : Array Slot), f35 v = some (.inl (cy 0, 6441, .inl y33)) → hFrL u12 f35 [v] → hG D (hA f sz) f35 s9 H locs → lv_has ls 5 [(4, .int (X9_scores_x1 kind runs)), (0, .ref m), (1, .int (nI kind)), (2, .int runs), (3, .int bnd)] → W p9 l e9 ({ frames := 3, cells := 0, slots := 0, locals := 71 } : Room) s9 m9 ([.ref m, .int (nI kind), .int runs, .int bnd] : List Value).toArray b9 t9 c9 H locs 0 0 (vx_MQ b9 (hQi (fun r u => r = (X9_scores_x1 kind runs) ∧ u v = some (.inl (cy 0, 6441, .inl (X9_bowled_g2 g kind runs bnd i a bo s cm e))) ∧ hFrL f u [v]) D f sz) (hPx hNo D f sz) ([.ref m, .int (nI kind), .int runs, .int bnd] : List Value).toArray s9 0 0 (hA f sz)) (F0 m9 24 ls []) := by
      intro y33 ey33 f35 H locs ls k36 fr37 G hl
      replace ey33 := Eq.symm ey33
      subst ey33
      exact J18 (X9_bowled_g0 g kind runs bnd i a bo s) (by rw [X9_bowled_g1, if_pos c16]) f35 _ _ _ k36 (fun a9 e9 h7 h8 => fr37 _ _ (fun q => h7 (by simp only [List.mem_cons, List.not_mem_nil, or_false] at q ⊢; first | exact q | (rcases q with q <;> simp [q]) | omega)) (h8)) G (lv_sub hl [0, 1, 2, 3, 4] rfl)
    refine lv_icmp_ne (tgt := 24) hx hb dX9_bowled_17 (by decide) (fun c32 => ?_) (fun c32 => ?_)
    · exact J34 (X9_scores_g44 g kind runs bnd i a bo s) (by rw [X9_bowled_g0, if_neg c32]) u12 _ _ _ k14 (fun a9 e9 h7 h8 => h8) G (lv_sub hl [0, 1, 2, 3, 4] rfl)
    · refine lv_aload_n hx hb dX9_bowled_20 rfl (lv_at hl 1 rfl) ?_
      have k38 : u12 m = some (.inr (11, [.int c_th, .int c_re, .ref v, .ref im, .ref kp, .ref pa, .ref de, .ref ide, .int c_un, .int c_hi, .ref tx, .int c_tn, .int c_fa, .int c_rf, .ref pt, .int c_ps, .int c_pl, .int c_to, .ref so, .ref mo, .ref wh, .ref pf])) := fr15 _ _ (by simp only [List.mem_cons, List.not_mem_nil, or_false]; intro q; exact (hne h_m h_v (by intro q; cases q)) q) h_m
      refine g_cV C0 G (g_runV C0 G (rest := []) (k_X9_changesEnds hfl k38 k14) k38 rfl hY_X9_changesEnds mm_X9_149 mi_X9_changesEnds ml_X9_changesEnds ⟨(Nat.le_of_ble_eq_true rfl), (Nat.le_of_ble_eq_true rfl)⟩ rfl hl.1 rfl (Nat.le_of_ble_eq_true rfl) dX9_bowled_21 ⟨(Nat.le_of_ble_eq_true rfl), (Nat.le_of_ble_eq_true rfl)⟩) (kx_no rfl) (fun u40 H locs hp39 G => ?_)
      obtain ⟨k41, fr42⟩ := hp39
      exact J34 (X9_changesEnds_g1 (X9_scores_g44 g kind runs bnd i a bo s)) (by rw [X9_bowled_g0, if_pos c32]) u40 _ _ _ k41 (fun a9 e9 h7 h8 => fr42 _ _ (fun q => h7 (by simp only [List.mem_cons, List.not_mem_nil, or_false] at q ⊢; first | exact q | (rcases q with q <;> simp [q]) | omega)) (h8)) G (lv_sub hl [0, 1, 2, 3, 4] rfl)
def X9_leavesN_g0 (g : Nat → Int32) (who : Nat) (how : Int32) (i : Nat) : Nat → Int32 := upd g (69 + 6 * (11 * i + who) + 4) how
def X9_leavesN_g1 (g : Nat → Int32) (who : Nat) (how : Int32) (i : Nat) (s : Nat) : Nat → Int32 := upd (X9_leavesN_g0 g who how i) (841 + 8 * (s - 1) + 7) 0
set_option maxRecDepth 100000 in
theorem k_X9_leavesN {l : Launch} (hfl : l.stackTraces = false) {D : va_G} {cy : Nat → ClassId} {f : Hf} {sz : Nat} {m : Nat} {v : Nat} {im : Nat} {kp : Nat} {pa : Nat} {de : Nat} {ide : Nat} {tx : Nat} {pt : Nat} {so : Nat} {mo : Nat} {wh : Nat} {pf : Nat} {c_th : Int32} {c_re : Int32} {c_un : Int32} {c_hi : Int32} {c_tn : Int32} {c_fa : Int32} {c_rf : Int32} {c_ps : Int32} {c_pl : Int32} {c_to : Int32} {g : Nat → Int32} {who : Nat} (how : Int32) {i : Nat} {s : Nat} (h_m : f m = some (.inr (11, [.int c_th, .int c_re, .ref v, .ref im, .ref kp, .ref pa, .ref de, .ref ide, .int c_un, .int c_hi, .ref tx, .int c_tn, .int c_fa, .int c_rf, .ref pt, .int c_ps, .int c_pl, .int c_to, .ref so, .ref mo, .ref wh, .ref pf]))) (h_v : f v = some (.inl (cy 0, 6441, .inl g))) (h4 : g 4 = nI i) (hi : i < 4) (h22 : g 22 = nI s) (hs1 : 1 ≤ s) (hs : s < 699) (hw : who < 11) : hMet l yX9_leaves cX9_leaves 5 none { frames := 1, cells := 0, slots := 0, locals := 22 } D (hTy cy) f sz [.ref m, .int (nI who), .int (-1), .int how] (hQv (fun u => u v = some (.inl (cy 0, 6441, .inl (X9_leavesN_g1 g who how i s))) ∧ hFrL f u [v]) D f sz) hNo := by
  refine h_enter (by decide) hfl (Nat.le_of_ble_eq_true rfl) ?_
  intro p9 e9 s9 m9 b9 t9 c9 hsz C0 hr hnm G ls hl
  have hx := C0.1.1
  have hb := C0.1.2.1
  have hl : lv_has ls 5 [(0, .ref m), (1, .int (nI who)), (2, .int (-1)), (3, .int how)] := hl
  refine lv_aload_n hx hb dX9_leaves_0 rfl (lv_at hl 0 rfl) ?_
  refine g_get C0 G h_m rfl hiX9 2 (by decide) mf_X9_9 rfl dX9_leaves_1 ?_
  refine lv_iconst (v := 4) hx hb dX9_leaves_4 (by decide) ?_
  refine g_iald C0 G h_v 0 rfl (by unfold vp_in; decide) dX9_leaves_5 ?_
  refine lv_topv (v := g 4) rfl ?_
  refine lv_topv (v := nI i) (h4) ?_
  refine lv_istore (lv' := [(4, .int (nI i)), (0, .ref m), (1, .int (nI who)), (2, .int (-1)), (3, .int how)]) hx hb dX9_leaves_6 hl (by decide) rfl (fun ls hl => ?_)
  refine lv_aload_n hx hb dX9_leaves_8 rfl (lv_at hl 1 rfl) ?_
  refine g_get C0 G h_m rfl hiX9 2 (by decide) mf_X9_9 rfl dX9_leaves_9 ?_
  refine lv_iload hx hb dX9_leaves_12 (lv_at hl 0 rfl) ?_
  refine lv_iload_n hx hb dX9_leaves_14 rfl (lv_at hl 2 rfl) ?_
  refine lv_iconst (v := 4) hx hb dX9_leaves_15 (by decide) ?_
  refine g_cI C0 G (g_runS C0 G (rest := [.ref v]) (k_X9_batterAt hfl (nI i) (nI who) 4 ) hY_X9_batterAt mm_X9_65 ms_X9_batterAt ⟨(Nat.le_of_ble_eq_true rfl), (Nat.le_of_ble_eq_true rfl)⟩ rfl hl.1 rfl (Nat.le_of_ble_eq_true rfl) dX9_leaves_16 ⟨(Nat.le_of_ble_eq_true rfl), (Nat.le_of_ble_eq_true rfl)⟩) (kx_no rfl) (fun r13 u12 H locs hp11 G => ?_)
  obtain ⟨zr, eu12⟩ := hp11
  replace zr := Eq.symm zr
  subst zr
  rw [eu12] at G
  refine lv_topv (v := nI (69 + 6 * (11 * i + who) + 4)) (bat_n i who 4) ?_
  refine lv_iload_n hx hb dX9_leaves_19 rfl (lv_at hl 4 rfl) ?_
  refine g_iast C0 G h_v 0 rfl (vp_in_nI (by omega) (by omega)) dX9_leaves_20 (fun H locs f14 hf14 G => ?_)
  have k15 : f14 v = some (.inl (cy 0, 6441, .inl (X9_leavesN_g0 g who how i))) := (by have h9 := hus hf14; rw [nI_c (by omega)] at h9; exact h9)
  refine lv_aload_n hx hb dX9_leaves_21 rfl (lv_at hl 1 rfl) ?_
  have k16 : f14 m = some (.inr (11, [.int c_th, .int c_re, .ref v, .ref im, .ref kp, .ref pa, .ref de, .ref ide, .int c_un, .int c_hi, .ref tx, .int c_tn, .int c_fa, .int c_rf, .ref pt, .int c_ps, .int c_pl, .int c_to, .ref so, .ref mo, .ref wh, .ref pf])) := hup hf14 (hne h_m h_v (by intro q; cases q)) h_m
  refine g_get C0 G k16 rfl hiX9 2 (by decide) mf_X9_9 rfl dX9_leaves_22 ?_
  refine lv_sipush (v := 841) hx hb dX9_leaves_25 (by decide) ?_
  refine lv_bipush (v := 8) hx hb dX9_leaves_28 (by decide) ?_
  refine lv_aload_n hx hb dX9_leaves_30 rfl (lv_at hl 1 rfl) ?_
  refine g_get C0 G k16 rfl hiX9 2 (by decide) mf_X9_9 rfl dX9_leaves_31 ?_
  refine lv_bipush (v := 22) hx hb dX9_leaves_34 (by decide) ?_
  refine g_iald C0 G k15 0 rfl (by unfold vp_in; decide) dX9_leaves_36 ?_
  refine lv_topv (v := (X9_leavesN_g0 g who how i) 22) rfl ?_
  refine lv_topv (v := nI s) ((by rw [X9_leavesN_g0, upd_off (by omega)]; exact h22)) ?_
  refine lv_iconst (v := 1) hx hb dX9_leaves_37 (by decide) ?_
  refine lv_isub hx hb dX9_leaves_38 ?_
  refine lv_topv (v := nI (s - 1)) ((nI_sb (by omega))) ?_
  refine lv_imul hx hb dX9_leaves_39 ?_
  refine lv_topv (v := nI (8 * (s - 1))) ((pk_mul _ _)) ?_
  refine lv_iadd hx hb dX9_leaves_40 ?_
  refine lv_topv (v := nI (841 + 8 * (s - 1))) ((nI_add _ _)) ?_
  refine lv_bipush (v := 7) hx hb dX9_leaves_41 (by decide) ?_
  refine lv_iadd hx hb dX9_leaves_43 ?_
  refine lv_topv (v := nI (841 + 8 * (s - 1) + 7)) ((nI_add _ _)) ?_
  refine lv_iconst (v := 0) hx hb dX9_leaves_44 (by decide) ?_
  refine g_iast C0 G k15 0 rfl (vp_in_nI (by omega) (by omega)) dX9_leaves_45 (fun H locs f17 hf17 G => ?_)
  have k18 : f17 v = some (.inl (cy 0, 6441, .inl (X9_leavesN_g1 g who how i s))) := (by have h9 := hus hf17; rw [nI_c (by omega)] at h9; exact h9)
  refine lv_iload_n hx hb dX9_leaves_46 rfl (lv_at hl 3 rfl) ?_
  refine lv_if_ge (tgt := 51) hx hb dX9_leaves_47 (by decide) (fun c19 => absurd c19 (by decide)) (fun _ => ?_)
  exact g_vret C0 G hr dX9_leaves_50 (Nat.le_of_ble_eq_true rfl) (Nat.le_of_ble_eq_true rfl) (by exact ⟨k18, (fun a9 e9 h7 h8 => hup hf17 (fun q => h7 (by rw [q]; simp)) (hup hf14 (fun q => h7 (by rw [q]; simp)) (h8)))⟩)
theorem rd_X9_leavesN_0 {g : Nat → Int32} {who : Nat} {how : Int32} {i : Nat} {s : Nat} (hi : i < 4) (hs1 : 1 ≤ s) (hs : s < 699) (hw : who < 11) : (X9_leavesN_g1 g who how i s) 0 = g 0 := (by rw [X9_leavesN_g1, upd_off (by omega)]; exact (by rw [X9_leavesN_g0, upd_off (by omega)]))
theorem rd_X9_leavesN_1 {g : Nat → Int32} {who : Nat} {how : Int32} {i : Nat} {s : Nat} (hi : i < 4) (hs1 : 1 ≤ s) (hs : s < 699) (hw : who < 11) : (X9_leavesN_g1 g who how i s) 1 = g 1 := (by rw [X9_leavesN_g1, upd_off (by omega)]; exact (by rw [X9_leavesN_g0, upd_off (by omega)]))
theorem rd_X9_leavesN_2 {g : Nat → Int32} {who : Nat} {how : Int32} {i : Nat} {s : Nat} (hi : i < 4) (hs1 : 1 ≤ s) (hs : s < 699) (hw : who < 11) : (X9_leavesN_g1 g who how i s) 2 = g 2 := (by rw [X9_leavesN_g1, upd_off (by omega)]; exact (by rw [X9_leavesN_g0, upd_off (by omega)]))
theorem rd_X9_leavesN_4 {g : Nat → Int32} {who : Nat} {how : Int32} {i : Nat} {s : Nat} (hi : i < 4) (hs1 : 1 ≤ s) (hs : s < 699) (hw : who < 11) : (X9_leavesN_g1 g who how i s) 4 = g 4 := (by rw [X9_leavesN_g1, upd_off (by omega)]; exact (by rw [X9_leavesN_g0, upd_off (by omega)]))
theorem rd_X9_leavesN_5 {g : Nat → Int32} {who : Nat} {how : Int32} {i : Nat} {s : Nat} (hi : i < 4) (hs1 : 1 ≤ s) (hs : s < 699) (hw : who < 11) : (X9_leavesN_g1 g who how i s) 5 = g 5 := (by rw [X9_leavesN_g1, upd_off (by omega)]; exact (by rw [X9_leavesN_g0, upd_off (by omega)]))
theorem rd_X9_leavesN_6 {g : Nat → Int32} {who : Nat} {how : Int32} {i : Nat} {s : Nat} (hi : i < 4) (hs1 : 1 ≤ s) (hs : s < 699) (hw : who < 11) : (X9_leavesN_g1 g who how i s) 6 = g 6 := (by rw [X9_leavesN_g1, upd_off (by omega)]; exact (by rw [X9_leavesN_g0, upd_off (by omega)]))
theorem rd_X9_leavesN_7 {g : Nat → Int32} {who : Nat} {how : Int32} {i : Nat} {s : Nat} (hi : i < 4) (hs1 : 1 ≤ s) (hs : s < 699) (hw : who < 11) : (X9_leavesN_g1 g who how i s) 7 = g 7 := (by rw [X9_leavesN_g1, upd_off (by omega)]; exact (by rw [X9_leavesN_g0, upd_off (by omega)]))
theorem rd_X9_leavesN_8 {g : Nat → Int32} {who : Nat} {how : Int32} {i : Nat} {s : Nat} (hi : i < 4) (hs1 : 1 ≤ s) (hs : s < 699) (hw : who < 11) : (X9_leavesN_g1 g who how i s) 8 = g 8 := (by rw [X9_leavesN_g1, upd_off (by omega)]; exact (by rw [X9_leavesN_g0, upd_off (by omega)]))
theorem rd_X9_leavesN_9 {g : Nat → Int32} {who : Nat} {how : Int32} {i : Nat} {s : Nat} (hi : i < 4) (hs1 : 1 ≤ s) (hs : s < 699) (hw : who < 11) : (X9_leavesN_g1 g who how i s) 9 = g 9 := (by rw [X9_leavesN_g1, upd_off (by omega)]; exact (by rw [X9_leavesN_g0, upd_off (by omega)]))
theorem rd_X9_leavesN_13 {g : Nat → Int32} {who : Nat} {how : Int32} {i : Nat} {s : Nat} (hi : i < 4) (hs1 : 1 ≤ s) (hs : s < 699) (hw : who < 11) : (X9_leavesN_g1 g who how i s) 13 = g 13 := (by rw [X9_leavesN_g1, upd_off (by omega)]; exact (by rw [X9_leavesN_g0, upd_off (by omega)]))
theorem rd_X9_leavesN_14 {g : Nat → Int32} {who : Nat} {how : Int32} {i : Nat} {s : Nat} (hi : i < 4) (hs1 : 1 ≤ s) (hs : s < 699) (hw : who < 11) : (X9_leavesN_g1 g who how i s) 14 = g 14 := (by rw [X9_leavesN_g1, upd_off (by omega)]; exact (by rw [X9_leavesN_g0, upd_off (by omega)]))
theorem rd_X9_leavesN_22 {g : Nat → Int32} {who : Nat} {how : Int32} {i : Nat} {s : Nat} (hi : i < 4) (hs1 : 1 ≤ s) (hs : s < 699) (hw : who < 11) : (X9_leavesN_g1 g who how i s) 22 = g 22 := (by rw [X9_leavesN_g1, upd_off (by omega)]; exact (by rw [X9_leavesN_g0, upd_off (by omega)]))
theorem rd_X9_leavesN_23 {g : Nat → Int32} {who : Nat} {how : Int32} {i : Nat} {s : Nat} (hi : i < 4) (hs1 : 1 ≤ s) (hs : s < 699) (hw : who < 11) : (X9_leavesN_g1 g who how i s) 23 = g 23 := (by rw [X9_leavesN_g1, upd_off (by omega)]; exact (by rw [X9_leavesN_g0, upd_off (by omega)]))
theorem rd_X9_leavesN_24 {g : Nat → Int32} {who : Nat} {how : Int32} {i : Nat} {s : Nat} (hi : i < 4) (hs1 : 1 ≤ s) (hs : s < 699) (hw : who < 11) : (X9_leavesN_g1 g who how i s) 24 = g 24 := (by rw [X9_leavesN_g1, upd_off (by omega)]; exact (by rw [X9_leavesN_g0, upd_off (by omega)]))
theorem rd_X9_leavesN_25_11_i_1 {g : Nat → Int32} {who : Nat} {how : Int32} {i : Nat} {s : Nat} (hi : i < 4) (hs1 : 1 ≤ s) (hs : s < 699) (hw : who < 11) : (X9_leavesN_g1 g who how i s) (25 + 11 * i + 1) = g (25 + 11 * i + 1) := (by rw [X9_leavesN_g1, upd_off (by omega)]; exact (by rw [X9_leavesN_g0, upd_off (by omega)]))
theorem rd_X9_leavesN_25_11_i_8 {g : Nat → Int32} {who : Nat} {how : Int32} {i : Nat} {s : Nat} (hi : i < 4) (hs1 : 1 ≤ s) (hs : s < 699) (hw : who < 11) : (X9_leavesN_g1 g who how i s) (25 + 11 * i + 8) = g (25 + 11 * i + 8) := (by rw [X9_leavesN_g1, upd_off (by omega)]; exact (by rw [X9_leavesN_g0, upd_off (by omega)]))
def X9_leavesS_g0 (g : Nat → Int32) (who : Nat) (how : Int32) (i : Nat) : Nat → Int32 := upd g (69 + 6 * (11 * i + who) + 4) how
def X9_leavesS_g1 (g : Nat → Int32) (who : Nat) (how : Int32) (i : Nat) (s : Nat) : Nat → Int32 := upd (X9_leavesS_g0 g who how i) (841 + 8 * (s - 1) + 7) 0
def X9_leavesS_g2 (g : Nat → Int32) (who : Nat) (comes : Nat) (how : Int32) (i : Nat) (s : Nat) : Nat → Int32 := upd (X9_leavesS_g1 g who how i s) 7 (nI comes)
def X9_leavesS_g3 (g : Nat → Int32) (who : Nat) (comes : Nat) (how : Int32) (i : Nat) (s : Nat) : Nat → Int32 := upd (X9_leavesS_g1 g who how i s) 6 (nI comes)
def X9_leavesS_g4 (g : Nat → Int32) (who : Nat) (comes : Nat) (how : Int32) (i : Nat) (s : Nat) : Nat → Int32 := if ((X9_leavesS_g1 g who how i s) 6) = (nI who) then (X9_leavesS_g3 g who comes how i s) else (X9_leavesS_g2 g who comes how i s)
def X9_leavesS_g5 (g : Nat → Int32) (who : Nat) (comes : Nat) (how : Int32) (i : Nat) (s : Nat) : Nat → Int32 := upd (X9_leavesS_g4 g who comes how i s) (69 + 6 * (11 * i + comes) + 4) (-1)
def X9_leavesS_g6 (g : Nat → Int32) (who : Nat) (comes : Nat) (how : Int32) (i : Nat) (s : Nat) : Nat → Int32 := upd (X9_leavesS_g5 g who comes how i s) 8 (-1)
def X9_leavesS_g7 (g : Nat → Int32) (who : Nat) (comes : Nat) (how : Int32) (i : Nat) (s : Nat) : Nat → Int32 := (X9_share_g13 (X9_leavesS_g6 g who comes how i s) s)
set_option maxRecDepth 100000 in
theorem k_X9_leavesS {l : Launch} (hfl : l.stackTraces = false) {D : va_G} {cy : Nat → ClassId} {f : Hf} {sz : Nat} {m : Nat} {v : Nat} {im : Nat} {kp : Nat} {pa : Nat} {de : Nat} {ide : Nat} {tx : Nat} {pt : Nat} {so : Nat} {mo : Nat} {wh : Nat} {pf : Nat} {c_th : Int32} {c_re : Int32} {c_un : Int32} {c_hi : Int32} {c_tn : Int32} {c_fa : Int32} {c_rf : Int32} {c_ps : Int32} {c_pl : Int32} {c_to : Int32} {g : Nat → Int32} {who : Nat} {comes : Nat} (how : Int32) {i : Nat} {s : Nat} (h_m : f m = some (.inr (11, [.int c_th, .int c_re, .ref v, .ref im, .ref kp, .ref pa, .ref de, .ref ide, .int c_un, .int c_hi, .ref tx, .int c_tn, .int c_fa, .int c_rf, .ref pt, .int c_ps, .int c_pl, .int c_to, .ref so, .ref mo, .ref wh, .ref pf]))) (h_v : f v = some (.inl (cy 0, 6441, .inl g))) (h4 : g 4 = nI i) (hi : i < 4) (h22 : g 22 = nI s) (hs1 : 1 ≤ s) (hs : s < 699) (hw : who < 11) (hcs : comes < 11) : hMet l yX9_leaves cX9_leaves 5 none { frames := 1, cells := 0, slots := 0, locals := 24 } D (hTy cy) f sz [.ref m, .int (nI who), .int (nI comes), .int how] (hQv (fun u => u v = some (.inl (cy 0, 6441, .inl (X9_leavesS_g7 g who comes how i s))) ∧ hFrL f u [v]) D f sz) hNo := by
  refine h_enter (by decide) hfl (Nat.le_of_ble_eq_true rfl) ?_
  intro p9 e9 s9 m9 b9 t9 c9 hsz C0 hr hnm G ls hl
  have hx := C0.1.1
  have hb := C0.1.2.1
  have hl : lv_has ls 5 [(0, .ref m), (1, .int (nI who)), (2, .int (nI comes)), (3, .int how)] := hl
  refine lv_aload_n hx hb dX9_leaves_0 rfl (lv_at hl 0 rfl) ?_
  refine g_get C0 G h_m rfl hiX9 2 (by decide) mf_X9_9 rfl dX9_leaves_1 ?_
  refine lv_iconst (v := 4) hx hb dX9_leaves_4 (by decide) ?_
  refine g_iald C0 G h_v 0 rfl (by unfold vp_in; decide) dX9_leaves_5 ?_
  refine lv_topv (v := g 4) rfl ?_
  refine lv_topv (v := nI i) (h4) ?_
  refine lv_istore (lv' := [(4, .int (nI i)), (0, .ref m), (1, .int (nI who)), (2, .int (nI comes)), (3, .int how)]) hx hb dX9_leaves_6 hl (by decide) rfl (fun ls hl => ?_)
  refine lv_aload_n hx hb dX9_leaves_8 rfl (lv_at hl 1 rfl) ?_
  refine g_get C0 G h_m rfl hiX9 2 (by decide) mf_X9_9 rfl dX9_leaves_9 ?_
  refine lv_iload hx hb dX9_leaves_12 (lv_at hl 0 rfl) ?_
  refine lv_iload_n hx hb dX9_leaves_14 rfl (lv_at hl 2 rfl) ?_
  refine lv_iconst (v := 4) hx hb dX9_leaves_15 (by decide) ?_
  refine g_cI C0 G (g_runS C0 G (rest := [.ref v]) (k_X9_batterAt hfl (nI i) (nI who) 4 ) hY_X9_batterAt mm_X9_65 ms_X9_batterAt ⟨(Nat.le_of_ble_eq_true rfl), (Nat.le_of_ble_eq_true rfl)⟩ rfl hl.1 rfl (Nat.le_of_ble_eq_true rfl) dX9_leaves_16 ⟨(Nat.le_of_ble_eq_true rfl), (Nat.le_of_ble_eq_true rfl)⟩) (kx_no rfl) (fun r13 u12 H locs hp11 G => ?_)
  obtain ⟨zr, eu12⟩ := hp11
  replace zr := Eq.symm zr
  subst zr
  rw [eu12] at G
  refine lv_topv (v := nI (69 + 6 * (11 * i + who) + 4)) (bat_n i who 4) ?_
  refine lv_iload_n hx hb dX9_leaves_19 rfl (lv_at hl 4 rfl) ?_
  refine g_iast C0 G h_v 0 rfl (vp_in_nI (by omega) (by omega)) dX9_leaves_20 (fun H locs f14 hf14 G => ?_)
  have k15 : f14 v = some (.inl (cy 0, 6441, .inl (X9_leavesS_g0 g who how i))) := (by have h9 := hus hf14; rw [nI_c (by omega)] at h9; exact h9)
  refine lv_aload_n hx hb dX9_leaves_21 rfl (lv_at hl 1 rfl) ?_
  have k16 : f14 m = some (.inr (11, [.int c_th, .int c_re, .ref v, .ref im, .ref kp, .ref pa, .ref de, .ref ide, .int c_un, .int c_hi, .ref tx, .int c_tn, .int c_fa, .int c_rf, .ref pt, .int c_ps, .int c_pl, .int c_to, .ref so, .ref mo, .ref wh, .ref pf])) := hup hf14 (hne h_m h_v (by intro q; cases q)) h_m
  refine g_get C0 G k16 rfl hiX9 2 (by decide) mf_X9_9 rfl dX9_leaves_22 ?_
  refine lv_sipush (v := 841) hx hb dX9_leaves_25 (by decide) ?_
  refine lv_bipush (v := 8) hx hb dX9_leaves_28 (by decide) ?_
  refine lv_aload_n hx hb dX9_leaves_30 rfl (lv_at hl 1 rfl) ?_
  refine g_get C0 G k16 rfl hiX9 2 (by decide) mf_X9_9 rfl dX9_leaves_31 ?_
  refine lv_bipush (v := 22) hx hb dX9_leaves_34 (by decide) ?_
  refine g_iald C0 G k15 0 rfl (by unfold vp_in; decide) dX9_leaves_36 ?_
  refine lv_topv (v := (X9_leavesS_g0 g who how i) 22) rfl ?_
  refine lv_topv (v := nI s) ((by rw [X9_leavesS_g0, upd_off (by omega)]; exact h22)) ?_
  refine lv_iconst (v := 1) hx hb dX9_leaves_37 (by decide) ?_
  refine lv_isub hx hb dX9_leaves_38 ?_
  refine lv_topv (v := nI (s - 1)) ((nI_sb (by omega))) ?_
  refine lv_imul hx hb dX9_leaves_39 ?_
  refine lv_topv (v := nI (8 * (s - 1))) ((pk_mul _ _)) ?_
  refine lv_iadd hx hb dX9_leaves_40 ?_
  refine lv_topv (v := nI (841 + 8 * (s - 1))) ((nI_add _ _)) ?_
  refine lv_bipush (v := 7) hx hb dX9_leaves_41 (by decide) ?_
  refine lv_iadd hx hb dX9_leaves_43 ?_
  refine lv_topv (v := nI (841 + 8 * (s - 1) + 7)) ((nI_add _ _)) ?_
  refine lv_iconst (v := 0) hx hb dX9_leaves_44 (by decide) ?_
  refine g_iast C0 G k15 0 rfl (vp_in_nI (by omega) (by omega)) dX9_leaves_45 (fun H locs f17 hf17 G => ?_)
  have k18 : f17 v = some (.inl (cy 0, 6441, .inl (X9_leavesS_g1 g who how i s))) := (by have h9 := hus hf17; rw [nI_c (by omega)] at h9; exact h9)
  refine lv_iload_n hx hb dX9_leaves_46 rfl (lv_at hl 3 rfl) ?_
  refine lv_if_ge (tgt := 51) hx hb dX9_leaves_47 (by decide) (fun _ => ?_) (fun c19 => absurd (nI_nn _ (by omega)) c19)
  refine lv_aload_n hx hb dX9_leaves_51 rfl (lv_at hl 1 rfl) ?_
  have k20 : f17 m = some (.inr (11, [.int c_th, .int c_re, .ref v, .ref im, .ref kp, .ref pa, .ref de, .ref ide, .int c_un, .int c_hi, .ref tx, .int c_tn, .int c_fa, .int c_rf, .ref pt, .int c_ps, .int c_pl, .int c_to, .ref so, .ref mo, .ref wh, .ref pf])) := hup hf17 (hne k16 k15 (by intro q; cases q)) k16
  refine g_get C0 G k20 rfl hiX9 2 (by decide) mf_X9_9 rfl dX9_leaves_52 ?_
  refine lv_bipush (v := 6) hx hb dX9_leaves_55 (by decide) ?_
  refine g_iald C0 G k18 0 rfl (by unfold vp_in; decide) dX9_leaves_57 ?_
  refine lv_topv (v := (X9_leavesS_g1 g who how i s) 6) rfl ?_
  refine lv_iload_n hx hb dX9_leaves_58 rfl (lv_at hl 2 rfl) ?_
  have J23 : ∀ (y22 : Nat → Int32) (_ : y22 = (X9_leavesS_g4 g who comes how i s)) (f24 : Hf) (H : Heap) (locs : List Loc) (ls : Array Slot), f24 v = some (.inl (cy 0, 6441, .inl y22)) → hFrL f17 f24 [v] → hG D (hA f sz) f24 s9 H locs → lv_has ls 5 [(4, .int (nI i)), (0, .ref m), (1, .int (nI who)), (2, .int (nI comes)), (3, .int how)] → W p9 l e9 ({ frames := 1, cells := 0, slots := 0, locals := 24 } : Room) s9 m9 ([.ref m, .int (nI who), .int (nI comes), .int how] : List Value).toArray b9 t9 c9 H locs 0 0 (vx_MQ b9 (hQv (fun u => u v = some (.inl (cy 0, 6441, .inl (X9_leavesS_g7 g who comes how i s))) ∧ hFrL f u [v]) D f sz) (hPx hNo D f sz) ([.ref m, .int (nI who), .int (nI comes), .int how] : List Value).toArray s9 0 0 (hA f sz)) (F0 m9 81 ls []) := by
    intro y22 ey22 f24 H locs ls k25 fr26 G hl
    replace ey22 := Eq.symm ey22
    subst ey22
    refine lv_aload_n hx hb dX9_leaves_81 rfl (lv_at hl 1 rfl) ?_
    have k27 : f24 m = some (.inr (11, [.int c_th, .int c_re, .ref v, .ref im, .ref kp, .ref pa, .ref de, .ref ide, .int c_un, .int c_hi, .ref tx, .int c_tn, .int c_fa, .int c_rf, .ref pt, .int c_ps, .int c_pl, .int c_to, .ref so, .ref mo, .ref wh, .ref pf])) := fr26 _ _ (by simp only [List.mem_cons, List.not_mem_nil, or_false]; intro q; exact (hne k20 k18 (by intro q; cases q)) q) k20
    refine g_get C0 G k27 rfl hiX9 2 (by decide) mf_X9_9 rfl dX9_leaves_82 ?_
    refine lv_iload hx hb dX9_leaves_85 (lv_at hl 0 rfl) ?_
    refine lv_iload_n hx hb dX9_leaves_87 rfl (lv_at hl 3 rfl) ?_
    refine lv_iconst (v := 4) hx hb dX9_leaves_88 (by decide) ?_
    refine g_cI C0 G (g_runS C0 G (rest := [.ref v]) (k_X9_batterAt hfl (nI i) (nI comes) 4 ) hY_X9_batterAt mm_X9_65 ms_X9_batterAt ⟨(Nat.le_of_ble_eq_true rfl), (Nat.le_of_ble_eq_true rfl)⟩ rfl hl.1 rfl (Nat.le_of_ble_eq_true rfl) dX9_leaves_89 ⟨(Nat.le_of_ble_eq_true rfl), (Nat.le_of_ble_eq_true rfl)⟩) (kx_no rfl) (fun r30 u29 H locs hp28 G => ?_)
    obtain ⟨zr, eu29⟩ := hp28
    replace zr := Eq.symm zr
    subst zr
    rw [eu29] at G
    refine lv_topv (v := nI (69 + 6 * (11 * i + comes) + 4)) (bat_n i comes 4) ?_
    refine lv_iconst (v := (-1)) hx hb dX9_leaves_92 (by decide) ?_
    refine g_iast C0 G k25 0 rfl (vp_in_nI (by omega) (by omega)) dX9_leaves_93 (fun H locs f31 hf31 G => ?_)
    have k32 : f31 v = some (.inl (cy 0, 6441, .inl (X9_leavesS_g5 g who comes how i s))) := (by have h9 := hus hf31; rw [nI_c (by omega)] at h9; exact h9)
    refine lv_aload_n hx hb dX9_leaves_94 rfl (lv_at hl 1 rfl) ?_
    have k33 : f31 m = some (.inr (11, [.int c_th, .int c_re, .ref v, .ref im, .ref kp, .ref pa, .ref de, .ref ide, .int c_un, .int c_hi, .ref tx, .int c_tn, .int c_fa, .int c_rf, .ref pt, .int c_ps, .int c_pl, .int c_to, .ref so, .ref mo, .ref wh, .ref pf])) := hup hf31 (hne k27 k25 (by intro q; cases q)) k27
    refine g_get C0 G k33 rfl hiX9 2 (by decide) mf_X9_9 rfl dX9_leaves_95 ?_
    refine lv_bipush (v := 8) hx hb dX9_leaves_98 (by decide) ?_
    refine lv_iconst (v := (-1)) hx hb dX9_leaves_100 (by decide) ?_
    refine g_iast C0 G k32 0 rfl (by unfold vp_in; decide) dX9_leaves_101 (fun H locs f34 hf34 G => ?_)
    have k35 : f34 v = some (.inl (cy 0, 6441, .inl (X9_leavesS_g6 g who comes how i s))) := hus hf34
    refine lv_aload_n hx hb dX9_leaves_102 rfl (lv_at hl 1 rfl) ?_
    have k36 : f34 m = some (.inr (11, [.int c_th, .int c_re, .ref v, .ref im, .ref kp, .ref pa, .ref de, .ref ide, .int c_un, .int c_hi, .ref tx, .int c_tn, .int c_fa, .int c_rf, .ref pt, .int c_ps, .int c_pl, .int c_to, .ref so, .ref mo, .ref wh, .ref pf])) := hup hf34 (hne k33 k32 (by intro q; cases q)) k33
    refine g_cV C0 G (g_runV C0 G (rest := []) (k_X9_share hfl k36 k35 (by rw [X9_leavesS_g6, upd_off (by omega)]; exact (by rw [X9_leavesS_g5, upd_off (by omega)]; exact (by rw [X9_leavesS_g4]; split; exact (by rw [X9_leavesS_g3, upd_off (by omega)]; exact (by rw [X9_leavesS_g1, upd_off (by omega)]; exact (by rw [X9_leavesS_g0, upd_off (by omega)]; exact h22))); exact (by rw [X9_leavesS_g2, upd_off (by omega)]; exact (by rw [X9_leavesS_g1, upd_off (by omega)]; exact (by rw [X9_leavesS_g0, upd_off (by omega)]; exact h22)))))) (by omega)) k36 rfl hY_X9_share mm_X9_69 mi_X9_share ml_X9_share ⟨(Nat.le_of_ble_eq_true rfl), (Nat.le_of_ble_eq_true rfl)⟩ rfl hl.1 rfl (Nat.le_of_ble_eq_true rfl) dX9_leaves_103 ⟨(Nat.le_of_ble_eq_true rfl), (Nat.le_of_ble_eq_true rfl)⟩) (kx_no rfl) (fun u38 H locs hp37 G => ?_)
    obtain ⟨k39, fr40⟩ := hp37
    exact g_vret C0 G hr dX9_leaves_106 (Nat.le_of_ble_eq_true rfl) (Nat.le_of_ble_eq_true rfl) (by exact ⟨(by rw [(by rw [X9_leavesS_g7] : (X9_leavesS_g7 g who comes how i s) = (X9_share_g13 (X9_leavesS_g6 g who comes how i s) s))]; exact k39), (fun a9 e9 h7 h8 => fr40 _ _ (fun q => h7 (by simp only [List.mem_cons, List.not_mem_nil, or_false] at q ⊢; first | exact q | (rcases q with q <;> simp [q]) | omega)) (hup hf34 (fun q => h7 (by rw [q]; simp)) (hup hf31 (fun q => h7 (by rw [q]; simp)) (fr26 _ _ (fun q => h7 (by simp only [List.mem_cons, List.not_mem_nil, or_false] at q ⊢; first | exact q | (rcases q with q <;> simp [q]) | omega)) (hup hf17 (fun q => h7 (by rw [q]; simp)) (hup hf14 (fun q => h7 (by rw [q]; simp)) (h8)))))))⟩)
  refine lv_icmp_ne (tgt := 73) hx hb dX9_leaves_59 (by decide) (fun c21 => ?_) (fun c21 => ?_)
  · refine lv_aload_n hx hb dX9_leaves_73 rfl (lv_at hl 1 rfl) ?_
    refine g_get C0 G k20 rfl hiX9 2 (by decide) mf_X9_9 rfl dX9_leaves_74 ?_
    refine lv_bipush (v := 7) hx hb dX9_leaves_77 (by decide) ?_
    refine lv_iload_n hx hb dX9_leaves_79 rfl (lv_at hl 3 rfl) ?_
    refine g_iast C0 G k18 0 rfl (by unfold vp_in; decide) dX9_leaves_80 (fun H locs f41 hf41 G => ?_)
    have k42 : f41 v = some (.inl (cy 0, 6441, .inl (X9_leavesS_g2 g who comes how i s))) := hus hf41
    exact J23 (X9_leavesS_g2 g who comes how i s) (by rw [X9_leavesS_g4, if_neg c21]) f41 _ _ _ k42 (fun a9 e9 h7 h8 => hup hf41 (fun q => h7 (by rw [q]; simp)) (h8)) G (lv_sub hl [0, 1, 2, 3, 4] rfl)
  · refine lv_aload_n hx hb dX9_leaves_62 rfl (lv_at hl 1 rfl) ?_
    refine g_get C0 G k20 rfl hiX9 2 (by decide) mf_X9_9 rfl dX9_leaves_63 ?_
    refine lv_bipush (v := 6) hx hb dX9_leaves_66 (by decide) ?_
    refine lv_iload_n hx hb dX9_leaves_68 rfl (lv_at hl 3 rfl) ?_
    refine g_iast C0 G k18 0 rfl (by unfold vp_in; decide) dX9_leaves_69 (fun H locs f43 hf43 G => ?_)
    have k44 : f43 v = some (.inl (cy 0, 6441, .inl (X9_leavesS_g3 g who comes how i s))) := hus hf43
    refine lv_goto (tgt := 81) hx hb dX9_leaves_70 (by decide) ?_
    exact J23 (X9_leavesS_g3 g who comes how i s) (by rw [X9_leavesS_g4, if_pos c21]) f43 _ _ _ k44 (fun a9 e9 h7 h8 => hup hf43 (fun q => h7 (by rw [q]; simp)) (h8)) G (lv_sub hl [0, 1, 2, 3, 4] rfl)
theorem rd_X9_leavesS_0 {g : Nat → Int32} {who : Nat} {comes : Nat} {how : Int32} {i : Nat} {s : Nat} (hi : i < 4) (hs1 : 1 ≤ s) (hs : s < 699) (hw : who < 11) (hcs : comes < 11) : (X9_leavesS_g7 g who comes how i s) 0 = g 0 := (by rw [X9_leavesS_g7]; exact ((rd_X9_share_0 (by omega)).trans (by rw [X9_leavesS_g6, upd_off (by omega)]; exact (by rw [X9_leavesS_g5, upd_off (by omega)]; exact (by rw [X9_leavesS_g4]; split; exact (by rw [X9_leavesS_g3, upd_off (by omega)]; exact (by rw [X9_leavesS_g1, upd_off (by omega)]; exact (by rw [X9_leavesS_g0, upd_off (by omega)]))); exact (by rw [X9_leavesS_g2, upd_off (by omega)]; exact (by rw [X9_leavesS_g1, upd_off (by omega)]; exact (by rw [X9_leavesS_g0, upd_off (by omega)]))))))))
theorem rd_X9_leavesS_1 {g : Nat → Int32} {who : Nat} {comes : Nat} {how : Int32} {i : Nat} {s : Nat} (hi : i < 4) (hs1 : 1 ≤ s) (hs : s < 699) (hw : who < 11) (hcs : comes < 11) : (X9_leavesS_g7 g who comes how i s) 1 = g 1 := (by rw [X9_leavesS_g7]; exact ((rd_X9_share_1 (by omega)).trans (by rw [X9_leavesS_g6, upd_off (by omega)]; exact (by rw [X9_leavesS_g5, upd_off (by omega)]; exact (by rw [X9_leavesS_g4]; split; exact (by rw [X9_leavesS_g3, upd_off (by omega)]; exact (by rw [X9_leavesS_g1, upd_off (by omega)]; exact (by rw [X9_leavesS_g0, upd_off (by omega)]))); exact (by rw [X9_leavesS_g2, upd_off (by omega)]; exact (by rw [X9_leavesS_g1, upd_off (by omega)]; exact (by rw [X9_leavesS_g0, upd_off (by omega)]))))))))
theorem rd_X9_leavesS_2 {g : Nat → Int32} {who : Nat} {comes : Nat} {how : Int32} {i : Nat} {s : Nat} (hi : i < 4) (hs1 : 1 ≤ s) (hs : s < 699) (hw : who < 11) (hcs : comes < 11) : (X9_leavesS_g7 g who comes how i s) 2 = g 2 := (by rw [X9_leavesS_g7]; exact ((rd_X9_share_2 (by omega)).trans (by rw [X9_leavesS_g6, upd_off (by omega)]; exact (by rw [X9_leavesS_g5, upd_off (by omega)]; exact (by rw [X9_leavesS_g4]; split; exact (by rw [X9_leavesS_g3, upd_off (by omega)]; exact (by rw [X9_leavesS_g1, upd_off (by omega)]; exact (by rw [X9_leavesS_g0, upd_off (by omega)]))); exact (by rw [X9_leavesS_g2, upd_off (by omega)]; exact (by rw [X9_leavesS_g1, upd_off (by omega)]; exact (by rw [X9_leavesS_g0, upd_off (by omega)]))))))))
theorem rd_X9_leavesS_4 {g : Nat → Int32} {who : Nat} {comes : Nat} {how : Int32} {i : Nat} {s : Nat} (hi : i < 4) (hs1 : 1 ≤ s) (hs : s < 699) (hw : who < 11) (hcs : comes < 11) : (X9_leavesS_g7 g who comes how i s) 4 = g 4 := (by rw [X9_leavesS_g7]; exact ((rd_X9_share_4 (by omega)).trans (by rw [X9_leavesS_g6, upd_off (by omega)]; exact (by rw [X9_leavesS_g5, upd_off (by omega)]; exact (by rw [X9_leavesS_g4]; split; exact (by rw [X9_leavesS_g3, upd_off (by omega)]; exact (by rw [X9_leavesS_g1, upd_off (by omega)]; exact (by rw [X9_leavesS_g0, upd_off (by omega)]))); exact (by rw [X9_leavesS_g2, upd_off (by omega)]; exact (by rw [X9_leavesS_g1, upd_off (by omega)]; exact (by rw [X9_leavesS_g0, upd_off (by omega)]))))))))
theorem rd_X9_leavesS_5 {g : Nat → Int32} {who : Nat} {comes : Nat} {how : Int32} {i : Nat} {s : Nat} (hi : i < 4) (hs1 : 1 ≤ s) (hs : s < 699) (hw : who < 11) (hcs : comes < 11) : (X9_leavesS_g7 g who comes how i s) 5 = g 5 := (by rw [X9_leavesS_g7]; exact ((rd_X9_share_5 (by omega)).trans (by rw [X9_leavesS_g6, upd_off (by omega)]; exact (by rw [X9_leavesS_g5, upd_off (by omega)]; exact (by rw [X9_leavesS_g4]; split; exact (by rw [X9_leavesS_g3, upd_off (by omega)]; exact (by rw [X9_leavesS_g1, upd_off (by omega)]; exact (by rw [X9_leavesS_g0, upd_off (by omega)]))); exact (by rw [X9_leavesS_g2, upd_off (by omega)]; exact (by rw [X9_leavesS_g1, upd_off (by omega)]; exact (by rw [X9_leavesS_g0, upd_off (by omega)]))))))))
theorem rd_X9_leavesS_8 {g : Nat → Int32} {who : Nat} {comes : Nat} {how : Int32} {i : Nat} {s : Nat} (hi : i < 4) (hs1 : 1 ≤ s) (hs : s < 699) (hw : who < 11) (hcs : comes < 11) : (X9_leavesS_g7 g who comes how i s) 8 = -1 := (by rw [X9_leavesS_g7]; exact ((rd_X9_share_8 (by omega)).trans (by rw [X9_leavesS_g6, upd_at])))
theorem rd_X9_leavesS_9 {g : Nat → Int32} {who : Nat} {comes : Nat} {how : Int32} {i : Nat} {s : Nat} (hi : i < 4) (hs1 : 1 ≤ s) (hs : s < 699) (hw : who < 11) (hcs : comes < 11) : (X9_leavesS_g7 g who comes how i s) 9 = g 9 := (by rw [X9_leavesS_g7]; exact ((rd_X9_share_9 (by omega)).trans (by rw [X9_leavesS_g6, upd_off (by omega)]; exact (by rw [X9_leavesS_g5, upd_off (by omega)]; exact (by rw [X9_leavesS_g4]; split; exact (by rw [X9_leavesS_g3, upd_off (by omega)]; exact (by rw [X9_leavesS_g1, upd_off (by omega)]; exact (by rw [X9_leavesS_g0, upd_off (by omega)]))); exact (by rw [X9_leavesS_g2, upd_off (by omega)]; exact (by rw [X9_leavesS_g1, upd_off (by omega)]; exact (by rw [X9_leavesS_g0, upd_off (by omega)]))))))))
theorem rd_X9_leavesS_13 {g : Nat → Int32} {who : Nat} {comes : Nat} {how : Int32} {i : Nat} {s : Nat} (hi : i < 4) (hs1 : 1 ≤ s) (hs : s < 699) (hw : who < 11) (hcs : comes < 11) : (X9_leavesS_g7 g who comes how i s) 13 = g 13 := (by rw [X9_leavesS_g7]; exact ((rd_X9_share_13 (by omega)).trans (by rw [X9_leavesS_g6, upd_off (by omega)]; exact (by rw [X9_leavesS_g5, upd_off (by omega)]; exact (by rw [X9_leavesS_g4]; split; exact (by rw [X9_leavesS_g3, upd_off (by omega)]; exact (by rw [X9_leavesS_g1, upd_off (by omega)]; exact (by rw [X9_leavesS_g0, upd_off (by omega)]))); exact (by rw [X9_leavesS_g2, upd_off (by omega)]; exact (by rw [X9_leavesS_g1, upd_off (by omega)]; exact (by rw [X9_leavesS_g0, upd_off (by omega)]))))))))
theorem rd_X9_leavesS_14 {g : Nat → Int32} {who : Nat} {comes : Nat} {how : Int32} {i : Nat} {s : Nat} (hi : i < 4) (hs1 : 1 ≤ s) (hs : s < 699) (hw : who < 11) (hcs : comes < 11) : (X9_leavesS_g7 g who comes how i s) 14 = g 14 := (by rw [X9_leavesS_g7]; exact ((rd_X9_share_14 (by omega)).trans (by rw [X9_leavesS_g6, upd_off (by omega)]; exact (by rw [X9_leavesS_g5, upd_off (by omega)]; exact (by rw [X9_leavesS_g4]; split; exact (by rw [X9_leavesS_g3, upd_off (by omega)]; exact (by rw [X9_leavesS_g1, upd_off (by omega)]; exact (by rw [X9_leavesS_g0, upd_off (by omega)]))); exact (by rw [X9_leavesS_g2, upd_off (by omega)]; exact (by rw [X9_leavesS_g1, upd_off (by omega)]; exact (by rw [X9_leavesS_g0, upd_off (by omega)]))))))))
theorem rd_X9_leavesS_22 {g : Nat → Int32} {who : Nat} {comes : Nat} {how : Int32} {i : Nat} {s : Nat} (hi : i < 4) (hs1 : 1 ≤ s) (hs : s < 699) (hw : who < 11) (hcs : comes < 11) : (X9_leavesS_g7 g who comes how i s) 22 = nI (s + 1) := (by rw [X9_leavesS_g7]; exact (rd_X9_share_22 (by omega)))
theorem rd_X9_leavesS_23 {g : Nat → Int32} {who : Nat} {comes : Nat} {how : Int32} {i : Nat} {s : Nat} (hi : i < 4) (hs1 : 1 ≤ s) (hs : s < 699) (hw : who < 11) (hcs : comes < 11) : (X9_leavesS_g7 g who comes how i s) 23 = g 23 := (by rw [X9_leavesS_g7]; exact ((rd_X9_share_23 (by omega)).trans (by rw [X9_leavesS_g6, upd_off (by omega)]; exact (by rw [X9_leavesS_g5, upd_off (by omega)]; exact (by rw [X9_leavesS_g4]; split; exact (by rw [X9_leavesS_g3, upd_off (by omega)]; exact (by rw [X9_leavesS_g1, upd_off (by omega)]; exact (by rw [X9_leavesS_g0, upd_off (by omega)]))); exact (by rw [X9_leavesS_g2, upd_off (by omega)]; exact (by rw [X9_leavesS_g1, upd_off (by omega)]; exact (by rw [X9_leavesS_g0, upd_off (by omega)]))))))))
theorem rd_X9_leavesS_24 {g : Nat → Int32} {who : Nat} {comes : Nat} {how : Int32} {i : Nat} {s : Nat} (hi : i < 4) (hs1 : 1 ≤ s) (hs : s < 699) (hw : who < 11) (hcs : comes < 11) : (X9_leavesS_g7 g who comes how i s) 24 = g 24 := (by rw [X9_leavesS_g7]; exact ((rd_X9_share_24 (by omega)).trans (by rw [X9_leavesS_g6, upd_off (by omega)]; exact (by rw [X9_leavesS_g5, upd_off (by omega)]; exact (by rw [X9_leavesS_g4]; split; exact (by rw [X9_leavesS_g3, upd_off (by omega)]; exact (by rw [X9_leavesS_g1, upd_off (by omega)]; exact (by rw [X9_leavesS_g0, upd_off (by omega)]))); exact (by rw [X9_leavesS_g2, upd_off (by omega)]; exact (by rw [X9_leavesS_g1, upd_off (by omega)]; exact (by rw [X9_leavesS_g0, upd_off (by omega)]))))))))
theorem rd_X9_leavesS_25_11_i_1 {g : Nat → Int32} {who : Nat} {comes : Nat} {how : Int32} {i : Nat} {s : Nat} (hi : i < 4) (hs1 : 1 ≤ s) (hs : s < 699) (hw : who < 11) (hcs : comes < 11) : (X9_leavesS_g7 g who comes how i s) (25 + 11 * i + 1) = g (25 + 11 * i + 1) := (by rw [X9_leavesS_g7]; exact (by rw [X9_share_g13, upd_off (by omega)]; exact (by rw [X9_share_g12, upd_off (by omega)]; exact (by rw [X9_share_g11, upd_off (by omega)]; exact (by rw [X9_share_g9, upd_off (by omega)]; exact (by rw [X9_share_g7, upd_off (by omega)]; exact (by rw [X9_share_g6, upd_off (by omega)]; exact (by rw [X9_share_g5, upd_off (by omega)]; exact (by rw [X9_share_g4, upd_off (by omega)]; exact (by rw [X9_share_g3, upd_off (by omega)]; exact (by rw [X9_share_g2, upd_off (by omega)]; exact (by rw [X9_share_g1, upd_off (by omega)]; exact (by rw [X9_share_g0, upd_off (by omega)]; exact (by rw [X9_leavesS_g6, upd_off (by omega)]; exact (by rw [X9_leavesS_g5, upd_off (by omega)]; exact (by rw [X9_leavesS_g4]; split; exact (by rw [X9_leavesS_g3, upd_off (by omega)]; exact (by rw [X9_leavesS_g1, upd_off (by omega)]; exact (by rw [X9_leavesS_g0, upd_off (by omega)]))); exact (by rw [X9_leavesS_g2, upd_off (by omega)]; exact (by rw [X9_leavesS_g1, upd_off (by omega)]; exact (by rw [X9_leavesS_g0, upd_off (by omega)])))))))))))))))))))
theorem rd_X9_leavesS_25_11_i_8 {g : Nat → Int32} {who : Nat} {comes : Nat} {how : Int32} {i : Nat} {s : Nat} (hi : i < 4) (hs1 : 1 ≤ s) (hs : s < 699) (hw : who < 11) (hcs : comes < 11) : (X9_leavesS_g7 g who comes how i s) (25 + 11 * i + 8) = g (25 + 11 * i + 8) := (by rw [X9_leavesS_g7]; exact (by rw [X9_share_g13, upd_off (by omega)]; exact (by rw [X9_share_g12, upd_off (by omega)]; exact (by rw [X9_share_g11, upd_off (by omega)]; exact (by rw [X9_share_g9, upd_off (by omega)]; exact (by rw [X9_share_g7, upd_off (by omega)]; exact (by rw [X9_share_g6, upd_off (by omega)]; exact (by rw [X9_share_g5, upd_off (by omega)]; exact (by rw [X9_share_g4, upd_off (by omega)]; exact (by rw [X9_share_g3, upd_off (by omega)]; exact (by rw [X9_share_g2, upd_off (by omega)]; exact (by rw [X9_share_g1, upd_off (by omega)]; exact (by rw [X9_share_g0, upd_off (by omega)]; exact (by rw [X9_leavesS_g6, upd_off (by omega)]; exact (by rw [X9_leavesS_g5, upd_off (by omega)]; exact (by rw [X9_leavesS_g4]; split; exact (by rw [X9_leavesS_g3, upd_off (by omega)]; exact (by rw [X9_leavesS_g1, upd_off (by omega)]; exact (by rw [X9_leavesS_g0, upd_off (by omega)]))); exact (by rw [X9_leavesS_g2, upd_off (by omega)]; exact (by rw [X9_leavesS_g1, upd_off (by omega)]; exact (by rw [X9_leavesS_g0, upd_off (by omega)])))))))))))))))))))
