theorem mcl_X9_91 : Cond.constantLong RX9 91 150 ∈ lw_tbl := hin6 (List.mem_of_getElem? (i := 193) rfl)
theorem mcl_X9_93 : Cond.constantLong RX9 93 144000 ∈ lw_tbl := hin6 (List.mem_of_getElem? (i := 194) rfl)
def X9_target_x0 (g : Nat → Int32) : Int64 := if 0 < (lg_cmp ((g 15).toInt64) ((g 14).toInt64)) then ((((g 25).toInt64) + ((150 * (((g 15).toInt64) - ((g 14).toInt64))) / 144000)) + 1) else (((((g 25).toInt64) * ((g 15).toInt64)) / ((g 14).toInt64)) + 1)
def X9_target_r1 (g : Nat → Int32) (e : Nat) : Int32 := if (nI e) = 2 then ((((g 25) + (g 47)) - (g 36)) + 1) else ((X9_target_x0 g).toInt32)
set_option maxRecDepth 100000 in
theorem k_X9_target {l : Launch} (hfl : l.stackTraces = false) {D : va_G} {cy : Nat → ClassId} {f : Hf} {sz : Nat} {m : Nat} {v : Nat} {im : Nat} {kp : Nat} {pa : Nat} {de : Nat} {ide : Nat} {tx : Nat} {pt : Nat} {so : Nat} {mo : Nat} {wh : Nat} {pf : Nat} {c_th : Int32} {c_re : Int32} {c_un : Int32} {c_hi : Int32} {c_tn : Int32} {c_fa : Int32} {c_rf : Int32} {c_ps : Int32} {c_pl : Int32} {c_to : Int32} {g : Nat → Int32} {e : Nat} (h_m : f m = some (.inr (11, [.int c_th, .int c_re, .ref v, .ref im, .ref kp, .ref pa, .ref de, .ref ide, .int c_un, .int c_hi, .ref tx, .int c_tn, .int c_fa, .int c_rf, .ref pt, .int c_ps, .int c_pl, .int c_to, .ref so, .ref mo, .ref wh, .ref pf]))) (h_v : f v = some (.inl (cy 0, 6441, .inl g))) (h1 : g 1 = nI e) (he : e = 1 ∨ e = 2) (hrr : e = 2 ∨ ¬ (g 14).toInt64 = 0) : hMet l yX9_target cX9_target 7 (some .int) { frames := 1, cells := 0, slots := 0, locals := 21 } D (hTy cy) f sz [.ref m] (hQi (fun r u => r = (X9_target_r1 g e) ∧ u = f) D f sz) hNo := by
  refine h_enter (by decide) hfl (Nat.le_of_ble_eq_true rfl) ?_
  intro p9 e9 s9 m9 b9 t9 c9 hsz C0 hr hnm G ls hl
  have hx := C0.1.1
  have hb := C0.1.2.1
  have hl : lv_has ls 7 [(0, .ref m)] := hl
  refine lv_aload_n hx hb dX9_target_0 rfl (lv_at hl 0 rfl) ?_
  refine g_get C0 G h_m rfl hiX9 2 (by decide) mf_X9_9 rfl dX9_target_1 ?_
  refine lv_iconst (v := 1) hx hb dX9_target_4 (by decide) ?_
  refine g_iald C0 G h_v 0 rfl (by unfold vp_in; decide) dX9_target_5 ?_
  refine lv_topv (v := g 1) rfl ?_
  refine lv_topv (v := nI e) (h1) ?_
  refine lv_iconst (v := 2) hx hb dX9_target_6 (by decide) ?_
  refine lv_icmp_ne (tgt := 45) hx hb dX9_target_7 (by decide) (fun c11 => ?_) (fun c11 => ?_)
  · have n12 : ¬ e = 2 := fun q => c11 ((nI_eq (a := e) (b := 2) (by omega) (by omega)).mpr q)
    refine lv_aload_n hx hb dX9_target_45 rfl (lv_at hl 0 rfl) ?_
    refine g_get C0 G h_m rfl hiX9 2 (by decide) mf_X9_9 rfl dX9_target_46 ?_
    refine lv_iconst (v := 0) hx hb dX9_target_49 (by decide) ?_
    refine lv_iconst (v := 0) hx hb dX9_target_50 (by decide) ?_
    refine g_cI C0 G (g_runS C0 G (rest := [.ref v]) (k_X9_at hfl 0 0 ) hY_X9_at mm_X9_62 ms_X9_at ⟨(Nat.le_of_ble_eq_true rfl), (Nat.le_of_ble_eq_true rfl)⟩ rfl hl.1 rfl (Nat.le_of_ble_eq_true rfl) dX9_target_51 ⟨(Nat.le_of_ble_eq_true rfl), (Nat.le_of_ble_eq_true rfl)⟩) (kx_no rfl) (fun r15 u14 H locs hp13 G => ?_)
    obtain ⟨zr, eu14⟩ := hp13
    replace zr := Eq.symm zr
    subst zr
    rw [eu14] at G
    refine lv_topv (v := 25) (by decide) ?_
    refine g_iald C0 G h_v 0 rfl (by unfold vp_in; decide) dX9_target_54 ?_
    refine lv_topv (v := g 25) rfl ?_
    refine lv_i2l (v := (g 25).toInt64) hx hb dX9_target_55 rfl ?_
    refine lv_lstore_n (lv' := [(1, .long ((g 25).toInt64)), (0, .ref m)]) hx hb dX9_target_56 rfl hl (by decide) rfl (fun ls hl => ?_)
    refine lv_aload_n hx hb dX9_target_57 rfl (lv_at hl 1 rfl) ?_
    refine g_get C0 G h_m rfl hiX9 2 (by decide) mf_X9_9 rfl dX9_target_58 ?_
    refine lv_bipush (v := 14) hx hb dX9_target_61 (by decide) ?_
    refine g_iald C0 G h_v 0 rfl (by unfold vp_in; decide) dX9_target_63 ?_
    refine lv_topv (v := g 14) rfl ?_
    refine lv_i2l (v := (g 14).toInt64) hx hb dX9_target_64 rfl ?_
    refine lv_lstore_n (lv' := [(3, .long ((g 14).toInt64)), (1, .long ((g 25).toInt64)), (0, .ref m)]) hx hb dX9_target_65 rfl hl (by decide) rfl (fun ls hl => ?_)
    refine lv_aload_n hx hb dX9_target_66 rfl (lv_at hl 2 rfl) ?_
    refine g_get C0 G h_m rfl hiX9 2 (by decide) mf_X9_9 rfl dX9_target_67 ?_
    refine lv_bipush (v := 15) hx hb dX9_target_70 (by decide) ?_
    refine g_iald C0 G h_v 0 rfl (by unfold vp_in; decide) dX9_target_72 ?_
    refine lv_topv (v := g 15) rfl ?_
    refine lv_i2l (v := (g 15).toInt64) hx hb dX9_target_73 rfl ?_
    refine lv_lstore (lv' := [(5, .long ((g 15).toInt64)), (3, .long ((g 14).toInt64)), (1, .long ((g 25).toInt64)), (0, .ref m)]) hx hb dX9_target_74 hl (by decide) rfl (fun ls hl => ?_)
    refine lv_lload hx hb dX9_target_76 (lv_at hl 0 rfl) ?_
    refine lv_lload_n hx hb dX9_target_78 rfl (lv_at hl 1 rfl) ?_
    refine W.lcmp hx hb dX9_target_79 ?_
    have J18 : ∀ (y17 : Int64) (_ : y17 = (X9_target_x0 g)) (H : Heap) (locs : List Loc) (ls : Array Slot), hG D (hA f sz) f s9 H locs → lv_has ls 7 [(5, .long ((g 15).toInt64)), (3, .long ((g 14).toInt64)), (1, .long ((g 25).toInt64)), (0, .ref m)] → W p9 l e9 ({ frames := 1, cells := 0, slots := 0, locals := 21 } : Room) s9 m9 ([.ref m] : List Value).toArray b9 t9 c9 H locs 0 0 (vx_MQ b9 (hQi (fun r u => r = (X9_target_r1 g e) ∧ u = f) D f sz) (hPx hNo D f sz) ([.ref m] : List Value).toArray s9 0 0 (hA f sz)) (F0 m9 110 ls [.long y17]) := by
      intro y17 ey17 H locs ls G hl
      replace ey17 := Eq.symm ey17
      subst ey17
      refine lv_l2i (v := (X9_target_x0 g).toInt32) hx hb dX9_target_110 rfl ?_
      exact g_iret C0 G hr dX9_target_111 (Nat.le_of_ble_eq_true rfl) (Nat.le_of_ble_eq_true rfl) (by exact ⟨(by rw [X9_target_r1, if_neg c11]), rfl⟩)
    refine lv_if_gt (tgt := 94) hx hb dX9_target_80 (by decide) (fun c16 => ?_) (fun c16 => ?_)
    · refine lv_lload_n hx hb dX9_target_94 rfl (lv_at hl 2 rfl) ?_
      refine lv_ldc2 (v := 150) hx hb C0.1.2.2.2.1 (C0.2.2.2.1.1 _ mcl_X9_91 rfl _) dX9_target_95 ?_
      refine lv_lload hx hb dX9_target_98 (lv_at hl 0 rfl) ?_
      refine lv_lload_n hx hb dX9_target_100 rfl (lv_at hl 1 rfl) ?_
      refine lv_lsub hx hb dX9_target_101 ?_
      refine lv_lmul hx hb dX9_target_102 ?_
      refine lv_ldc2 (v := 144000) hx hb C0.1.2.2.2.1 (C0.2.2.2.1.1 _ mcl_X9_93 rfl _) dX9_target_103 ?_
      refine lv_ldiv hx hb dX9_target_106 (by decide) ?_
      refine lv_ladd hx hb dX9_target_107 ?_
      refine lv_lconst (v := 1) hx hb dX9_target_108 (by decide) ?_
      refine lv_ladd hx hb dX9_target_109 ?_
      exact J18 ((((g 25).toInt64) + ((150 * (((g 15).toInt64) - ((g 14).toInt64))) / 144000)) + 1) (by rw [X9_target_x0, if_pos c16]) _ _ _ G (lv_sub hl [0, 1, 2, 3] rfl)
    · refine lv_lload_n hx hb dX9_target_83 rfl (lv_at hl 2 rfl) ?_
      refine lv_lload hx hb dX9_target_84 (lv_at hl 0 rfl) ?_
      refine lv_lmul hx hb dX9_target_86 ?_
      refine lv_lload_n hx hb dX9_target_87 rfl (lv_at hl 1 rfl) ?_
      refine lv_ldiv hx hb dX9_target_88 (hrr.resolve_left (by omega)) ?_
      refine lv_lconst (v := 1) hx hb dX9_target_89 (by decide) ?_
      refine lv_ladd hx hb dX9_target_90 ?_
      refine lv_goto (tgt := 110) hx hb dX9_target_91 (by decide) ?_
      exact J18 (((((g 25).toInt64) * ((g 15).toInt64)) / ((g 14).toInt64)) + 1) (by rw [X9_target_x0, if_neg c16]) _ _ _ G (lv_sub hl [0, 1, 2, 3] rfl)
  · have n20 : e = 2 := (nI_eq (a := e) (b := 2) (by omega) (by omega)).mp c11
    refine lv_aload_n hx hb dX9_target_10 rfl (lv_at hl 0 rfl) ?_
    refine g_get C0 G h_m rfl hiX9 2 (by decide) mf_X9_9 rfl dX9_target_11 ?_
    refine lv_iconst (v := 0) hx hb dX9_target_14 (by decide) ?_
    refine lv_iconst (v := 0) hx hb dX9_target_15 (by decide) ?_
    refine g_cI C0 G (g_runS C0 G (rest := [.ref v]) (k_X9_at hfl 0 0 ) hY_X9_at mm_X9_62 ms_X9_at ⟨(Nat.le_of_ble_eq_true rfl), (Nat.le_of_ble_eq_true rfl)⟩ rfl hl.1 rfl (Nat.le_of_ble_eq_true rfl) dX9_target_16 ⟨(Nat.le_of_ble_eq_true rfl), (Nat.le_of_ble_eq_true rfl)⟩) (kx_no rfl) (fun r23 u22 H locs hp21 G => ?_)
    obtain ⟨zr, eu22⟩ := hp21
    replace zr := Eq.symm zr
    subst zr
    rw [eu22] at G
    refine lv_topv (v := 25) (by decide) ?_
    refine g_iald C0 G h_v 0 rfl (by unfold vp_in; decide) dX9_target_19 ?_
    refine lv_topv (v := g 25) rfl ?_
    refine lv_aload_n hx hb dX9_target_20 rfl (lv_at hl 0 rfl) ?_
    refine g_get C0 G h_m rfl hiX9 2 (by decide) mf_X9_9 rfl dX9_target_21 ?_
    refine lv_iconst (v := 2) hx hb dX9_target_24 (by decide) ?_
    refine lv_iconst (v := 0) hx hb dX9_target_25 (by decide) ?_
    refine g_cI C0 G (g_runS C0 G (rest := [.ref v, .int (g 25)]) (k_X9_at hfl 2 0 ) hY_X9_at mm_X9_62 ms_X9_at ⟨(Nat.le_of_ble_eq_true rfl), (Nat.le_of_ble_eq_true rfl)⟩ rfl hl.1 rfl (Nat.le_of_ble_eq_true rfl) dX9_target_26 ⟨(Nat.le_of_ble_eq_true rfl), (Nat.le_of_ble_eq_true rfl)⟩) (kx_no rfl) (fun r26 u25 H locs hp24 G => ?_)
    obtain ⟨zr, eu25⟩ := hp24
    replace zr := Eq.symm zr
    subst zr
    rw [eu25] at G
    refine lv_topv (v := 47) (by decide) ?_
    refine g_iald C0 G h_v 0 rfl (by unfold vp_in; decide) dX9_target_29 ?_
    refine lv_topv (v := g 47) rfl ?_
    refine lv_iadd hx hb dX9_target_30 ?_
    refine lv_aload_n hx hb dX9_target_31 rfl (lv_at hl 0 rfl) ?_
    refine g_get C0 G h_m rfl hiX9 2 (by decide) mf_X9_9 rfl dX9_target_32 ?_
    refine lv_iconst (v := 1) hx hb dX9_target_35 (by decide) ?_
    refine lv_iconst (v := 0) hx hb dX9_target_36 (by decide) ?_
    refine g_cI C0 G (g_runS C0 G (rest := [.ref v, .int ((g 25) + (g 47))]) (k_X9_at hfl 1 0 ) hY_X9_at mm_X9_62 ms_X9_at ⟨(Nat.le_of_ble_eq_true rfl), (Nat.le_of_ble_eq_true rfl)⟩ rfl hl.1 rfl (Nat.le_of_ble_eq_true rfl) dX9_target_37 ⟨(Nat.le_of_ble_eq_true rfl), (Nat.le_of_ble_eq_true rfl)⟩) (kx_no rfl) (fun r29 u28 H locs hp27 G => ?_)
    obtain ⟨zr, eu28⟩ := hp27
    replace zr := Eq.symm zr
    subst zr
    rw [eu28] at G
    refine lv_topv (v := 36) (by decide) ?_
    refine g_iald C0 G h_v 0 rfl (by unfold vp_in; decide) dX9_target_40 ?_
    refine lv_topv (v := g 36) rfl ?_
    refine lv_isub hx hb dX9_target_41 ?_
    refine lv_iconst (v := 1) hx hb dX9_target_42 (by decide) ?_
    refine lv_iadd hx hb dX9_target_43 ?_
    exact g_iret C0 G hr dX9_target_44 (Nat.le_of_ble_eq_true rfl) (Nat.le_of_ble_eq_true rfl) (by exact ⟨(by rw [X9_target_r1, if_pos c11]), rfl⟩)
def X9_looks_x0 (g : Nat → Int32) (i : Nat) : Int32 := if (g (25 + 11 * i + 8)) = (g 13) then 1 else 0
def X9_looks_x1 (g : Nat → Int32) (al : Int32) (i : Nat) : Int32 := if al = 0 then (X9_looks_x0 g i) else 2
def X9_looks_x2 (g : Nat → Int32) (al : Int32) (dl : Int32) (i : Nat) : Int32 := if dl = 0 then (X9_looks_x1 g al i) else 3
def X9_looks_x3 (g : Nat → Int32) (al : Int32) (dl : Int32) (i : Nat) (e : Nat) : Int32 := if (g (25 + 11 * i + 0)) < (X9_target_r1 g e) then (X9_looks_x2 g al dl i) else 4
def X9_looks_x4 (g : Nat → Int32) (al : Int32) (dl : Int32) (i : Nat) (e : Nat) : Int32 := if (nI i) = (nI (2 * e - 1)) then (X9_looks_x3 g al dl i e) else (X9_looks_x2 g al dl i)
def X9_looks_g5 (g : Nat → Int32) (al : Int32) (dl : Int32) (i : Nat) (e : Nat) : Nat → Int32 := upd g (25 + 11 * i + 7) (X9_looks_x4 g al dl i e)
def X9_looks_g6 (g : Nat → Int32) (al : Int32) (dl : Int32) (i : Nat) (e : Nat) : Nat → Int32 := upd (X9_looks_g5 g al dl i e) 5 1
def X9_looks_g7 (g : Nat → Int32) (al : Int32) (dl : Int32) (i : Nat) (e : Nat) (s : Nat) : Nat → Int32 := if 0 < (X9_target_r1 (X9_looks_g5 g al dl i e) e) then (X9_opens_g37 (X9_looks_g5 g al dl i e) (i + 1) s) else (X9_looks_g6 g al dl i e)
def X9_looks_g8 (g : Nat → Int32) (al : Int32) (dl : Int32) (i : Nat) (e : Nat) (s : Nat) : Nat → Int32 := if (nI i) = 2 then (X9_looks_g7 g al dl i e s) else (X9_opens_g37 (X9_looks_g5 g al dl i e) (i + 1) s)
def X9_looks_g9 (g : Nat → Int32) (al : Int32) (dl : Int32) (i : Nat) (e : Nat) (s : Nat) : Nat → Int32 := if (nI e) = 2 then (X9_looks_g8 g al dl i e s) else (X9_opens_g37 (X9_looks_g5 g al dl i e) (i + 1) s)
def X9_looks_g10 (g : Nat → Int32) (al : Int32) (dl : Int32) (i : Nat) (e : Nat) (s : Nat) : Nat → Int32 := if (nI i) = (nI (2 * e - 1)) then (X9_looks_g6 g al dl i e) else (X9_looks_g9 g al dl i e s)
def X9_looks_g11 (g : Nat → Int32) (al : Int32) (dl : Int32) (i : Nat) (e : Nat) (s : Nat) : Nat → Int32 := if (X9_looks_x4 g al dl i e) = 0 then (X9_looks_g5 g al dl i e) else (X9_looks_g10 g al dl i e s)
set_option maxRecDepth 100000 in
theorem k_X9_looks {l : Launch} (hfl : l.stackTraces = false) {D : va_G} {cy : Nat → ClassId} {f : Hf} {sz : Nat} {m : Nat} {v : Nat} {im : Nat} {kp : Nat} {pa : Nat} {de : Nat} {ide : Nat} {tx : Nat} {pt : Nat} {so : Nat} {mo : Nat} {wh : Nat} {pf : Nat} {c_th : Int32} {c_re : Int32} {c_un : Int32} {c_hi : Int32} {c_tn : Int32} {c_fa : Int32} {c_rf : Int32} {c_ps : Int32} {c_pl : Int32} {c_to : Int32} {g : Nat → Int32} (al : Int32) (dl : Int32) {i : Nat} {e : Nat} {s : Nat} (h_m : f m = some (.inr (11, [.int c_th, .int c_re, .ref v, .ref im, .ref kp, .ref pa, .ref de, .ref ide, .int c_un, .int c_hi, .ref tx, .int c_tn, .int c_fa, .int c_rf, .ref pt, .int c_ps, .int c_pl, .int c_to, .ref so, .ref mo, .ref wh, .ref pf]))) (h_v : f v = some (.inl (cy 0, 6441, .inl g))) (h4 : g 4 = nI i) (hi : i < 4) (h1 : g 1 = nI e) (he : e = 1 ∨ e = 2) (hie : i + 1 ≤ 2 * e) (hrr : i + 1 = 2 * e → e = 2 ∨ ¬ (g 14).toInt64 = 0) (h22 : g 22 = nI s) (hs : s < 700) (hb_al : al = 0 ∨ al = 1) (hb_dl : dl = 0 ∨ dl = 1) : hMet l yX9_looks cX9_looks 5 none { frames := 2, cells := 0, slots := 0, locals := 47 } D (hTy cy) f sz [.ref m, .int al, .int dl] (hQv (fun u => u v = some (.inl (cy 0, 6441, .inl (X9_looks_g11 g al dl i e s))) ∧ hFrL f u [v]) D f sz) hNo := by
  refine h_enter (by decide) hfl (Nat.le_of_ble_eq_true rfl) ?_
  intro p9 e9 s9 m9 b9 t9 c9 hsz C0 hr hnm G ls hl
  have hx := C0.1.1
  have hb := C0.1.2.1
  have hl : lv_has ls 5 [(0, .ref m), (1, .int al), (2, .int dl)] := hl
  refine lv_aload_n hx hb dX9_looks_0 rfl (lv_at hl 0 rfl) ?_
  refine g_get C0 G h_m rfl hiX9 2 (by decide) mf_X9_9 rfl dX9_looks_1 ?_
  refine lv_iconst (v := 4) hx hb dX9_looks_4 (by decide) ?_
  refine g_iald C0 G h_v 0 rfl (by unfold vp_in; decide) dX9_looks_5 ?_
  refine lv_topv (v := g 4) rfl ?_
  refine lv_topv (v := nI i) (h4) ?_
  refine lv_istore_n (lv' := [(3, .int (nI i)), (0, .ref m), (1, .int al), (2, .int dl)]) hx hb dX9_looks_6 rfl hl (by decide) rfl (fun ls hl => ?_)
  refine lv_aload_n hx hb dX9_looks_7 rfl (lv_at hl 1 rfl) ?_
  refine g_get C0 G h_m rfl hiX9 2 (by decide) mf_X9_9 rfl dX9_looks_8 ?_
  refine lv_iload_n hx hb dX9_looks_11 rfl (lv_at hl 0 rfl) ?_
  refine lv_bipush (v := 8) hx hb dX9_looks_12 (by decide) ?_
  refine g_cI C0 G (g_runS C0 G (rest := [.ref v]) (k_X9_at hfl (nI i) 8 ) hY_X9_at mm_X9_62 ms_X9_at ⟨(Nat.le_of_ble_eq_true rfl), (Nat.le_of_ble_eq_true rfl)⟩ rfl hl.1 rfl (Nat.le_of_ble_eq_true rfl) dX9_looks_14 ⟨(Nat.le_of_ble_eq_true rfl), (Nat.le_of_ble_eq_true rfl)⟩) (kx_no rfl) (fun r13 u12 H locs hp11 G => ?_)
  obtain ⟨zr, eu12⟩ := hp11
  replace zr := Eq.symm zr
  subst zr
  rw [eu12] at G
  refine lv_topv (v := nI (25 + 11 * i + 8)) (at_n i 8) ?_
  refine g_iald C0 G h_v 0 rfl (vp_in_nI (by omega) (by omega)) dX9_looks_17 ?_
  refine lv_topv (v := g (25 + 11 * i + 8)) (congrArg g (nI_c (by omega))) ?_
  refine lv_aload_n hx hb dX9_looks_18 rfl (lv_at hl 1 rfl) ?_
  refine g_get C0 G h_m rfl hiX9 2 (by decide) mf_X9_9 rfl dX9_looks_19 ?_
  refine lv_bipush (v := 13) hx hb dX9_looks_22 (by decide) ?_
  refine g_iald C0 G h_v 0 rfl (by unfold vp_in; decide) dX9_looks_24 ?_
  refine lv_topv (v := g 13) rfl ?_
  have J16 : ∀ (y15 : Int32) (_ : y15 = (X9_looks_x0 g i)) (H : Heap) (locs : List Loc) (ls : Array Slot), hG D (hA f sz) f s9 H locs → lv_has ls 5 [(3, .int (nI i)), (0, .ref m), (1, .int al), (2, .int dl)] → W p9 l e9 ({ frames := 2, cells := 0, slots := 0, locals := 47 } : Room) s9 m9 ([.ref m, .int al, .int dl] : List Value).toArray b9 t9 c9 H locs 0 0 (vx_MQ b9 (hQv (fun u => u v = some (.inl (cy 0, 6441, .inl (X9_looks_g11 g al dl i e s))) ∧ hFrL f u [v]) D f sz) (hPx hNo D f sz) ([.ref m, .int al, .int dl] : List Value).toArray s9 0 0 (hA f sz)) (F0 m9 33 ls [.int y15]) := by
    intro y15 ey15 H locs ls G hl
    replace ey15 := Eq.symm ey15
    subst ey15
    refine lv_istore (lv' := [(4, .int (X9_looks_x0 g i)), (3, .int (nI i)), (0, .ref m), (1, .int al), (2, .int dl)]) hx hb dX9_looks_33 hl (by decide) rfl (fun ls hl => ?_)
    refine lv_iload_n hx hb dX9_looks_35 rfl (lv_at hl 3 rfl) ?_
    have J20 : ∀ (y19 : Int32) (_ : y19 = (X9_looks_x1 g al i)) (H : Heap) (locs : List Loc) (ls : Array Slot), hG D (hA f sz) f s9 H locs → lv_has ls 5 [(4, .int (X9_looks_x0 g i)), (3, .int (nI i)), (0, .ref m), (1, .int al), (2, .int dl)] → W p9 l e9 ({ frames := 2, cells := 0, slots := 0, locals := 47 } : Room) s9 m9 ([.ref m, .int al, .int dl] : List Value).toArray b9 t9 c9 H locs 0 0 (vx_MQ b9 (hQv (fun u => u v = some (.inl (cy 0, 6441, .inl (X9_looks_g11 g al dl i e s))) ∧ hFrL f u [v]) D f sz) (hPx hNo D f sz) ([.ref m, .int al, .int dl] : List Value).toArray s9 0 0 (hA f sz)) (F0 m9 45 ls [.int y19]) := by
      intro y19 ey19 H locs ls G hl
      replace ey19 := Eq.symm ey19
      subst ey19
      refine lv_istore (lv' := [(4, .int (X9_looks_x1 g al i)), (3, .int (nI i)), (0, .ref m), (1, .int al), (2, .int dl)]) hx hb dX9_looks_45 hl (by decide) rfl (fun ls hl => ?_)
      refine lv_iload_n hx hb dX9_looks_47 rfl (lv_at hl 4 rfl) ?_
      have J24 : ∀ (y23 : Int32) (_ : y23 = (X9_looks_x2 g al dl i)) (H : Heap) (locs : List Loc) (ls : Array Slot), hG D (hA f sz) f s9 H locs → lv_has ls 5 [(4, .int (X9_looks_x1 g al i)), (3, .int (nI i)), (0, .ref m), (1, .int al), (2, .int dl)] → W p9 l e9 ({ frames := 2, cells := 0, slots := 0, locals := 47 } : Room) s9 m9 ([.ref m, .int al, .int dl] : List Value).toArray b9 t9 c9 H locs 0 0 (vx_MQ b9 (hQv (fun u => u v = some (.inl (cy 0, 6441, .inl (X9_looks_g11 g al dl i e s))) ∧ hFrL f u [v]) D f sz) (hPx hNo D f sz) ([.ref m, .int al, .int dl] : List Value).toArray s9 0 0 (hA f sz)) (F0 m9 57 ls [.int y23]) := by
        intro y23 ey23 H locs ls G hl
        replace ey23 := Eq.symm ey23
        subst ey23
        refine lv_istore (lv' := [(4, .int (X9_looks_x2 g al dl i)), (3, .int (nI i)), (0, .ref m), (1, .int al), (2, .int dl)]) hx hb dX9_looks_57 hl (by decide) rfl (fun ls hl => ?_)
        refine lv_iload_n hx hb dX9_looks_59 rfl (lv_at hl 1 rfl) ?_
        refine lv_aload_n hx hb dX9_looks_60 rfl (lv_at hl 2 rfl) ?_
        refine g_cI C0 G (g_runV C0 G (rest := [.int (nI i)]) (k_X9_last hfl h_m h_v) h_m rfl hY_X9_last mm_X9_95 mi_X9_last ml_X9_last ⟨(Nat.le_of_ble_eq_true rfl), (Nat.le_of_ble_eq_true rfl)⟩ rfl hl.1 rfl (Nat.le_of_ble_eq_true rfl) dX9_looks_61 ⟨(Nat.le_of_ble_eq_true rfl), (Nat.le_of_ble_eq_true rfl)⟩) (kx_no rfl) (fun r28 u27 H locs hp26 G => ?_)
        obtain ⟨zr, eu27⟩ := hp26
        replace zr := Eq.symm zr
        subst zr
        rw [eu27] at G
        refine lv_topv (v := nI (2 * e - 1)) (last_n h1 (by omega)) ?_
        have J31 : ∀ (y30 : Int32) (_ : y30 = (X9_looks_x4 g al dl i e)) (H : Heap) (locs : List Loc) (ls : Array Slot), hG D (hA f sz) f s9 H locs → lv_has ls 5 [(4, .int (X9_looks_x2 g al dl i)), (3, .int (nI i)), (0, .ref m), (1, .int al), (2, .int dl)] → W p9 l e9 ({ frames := 2, cells := 0, slots := 0, locals := 47 } : Room) s9 m9 ([.ref m, .int al, .int dl] : List Value).toArray b9 t9 c9 H locs 0 0 (vx_MQ b9 (hQv (fun u => u v = some (.inl (cy 0, 6441, .inl (X9_looks_g11 g al dl i e s))) ∧ hFrL f u [v]) D f sz) (hPx hNo D f sz) ([.ref m, .int al, .int dl] : List Value).toArray s9 0 0 (hA f sz)) (F0 m9 90 ls [.int y30]) := by
          intro y30 ey30 H locs ls G hl
          replace ey30 := Eq.symm ey30
          subst ey30
          refine lv_istore (lv' := [(4, .int (X9_looks_x4 g al dl i e)), (3, .int (nI i)), (0, .ref m), (1, .int al), (2, .int dl)]) hx hb dX9_looks_90 hl (by decide) rfl (fun ls hl => ?_)
          refine lv_aload_n hx hb dX9_looks_92 rfl (lv_at hl 2 rfl) ?_
          refine g_get C0 G h_m rfl hiX9 2 (by decide) mf_X9_9 rfl dX9_looks_93 ?_
          refine lv_iload_n hx hb dX9_looks_96 rfl (lv_at hl 1 rfl) ?_
          refine lv_bipush (v := 7) hx hb dX9_looks_97 (by decide) ?_
          refine g_cI C0 G (g_runS C0 G (rest := [.ref v]) (k_X9_at hfl (nI i) 7 ) hY_X9_at mm_X9_62 ms_X9_at ⟨(Nat.le_of_ble_eq_true rfl), (Nat.le_of_ble_eq_true rfl)⟩ rfl hl.1 rfl (Nat.le_of_ble_eq_true rfl) dX9_looks_99 ⟨(Nat.le_of_ble_eq_true rfl), (Nat.le_of_ble_eq_true rfl)⟩) (kx_no rfl) (fun r35 u34 H locs hp33 G => ?_)
          obtain ⟨zr, eu34⟩ := hp33
          replace zr := Eq.symm zr
          subst zr
          rw [eu34] at G
          refine lv_topv (v := nI (25 + 11 * i + 7)) (at_n i 7) ?_
          refine lv_iload hx hb dX9_looks_102 (lv_at hl 0 rfl) ?_
          refine g_iast C0 G h_v 0 rfl (vp_in_nI (by omega) (by omega)) dX9_looks_104 (fun H locs f36 hf36 G => ?_)
          have k37 : f36 v = some (.inl (cy 0, 6441, .inl (X9_looks_g5 g al dl i e))) := (by have h9 := hus hf36; rw [nI_c (by omega)] at h9; exact h9)
          refine lv_iload hx hb dX9_looks_105 (lv_at hl 0 rfl) ?_
          refine lv_if_ne (tgt := 111) hx hb dX9_looks_107 (by decide) (fun c38 => ?_) (fun c38 => ?_)
          · refine lv_iload_n hx hb dX9_looks_111 rfl (lv_at hl 1 rfl) ?_
            refine lv_aload_n hx hb dX9_looks_112 rfl (lv_at hl 2 rfl) ?_
            have k39 : f36 m = some (.inr (11, [.int c_th, .int c_re, .ref v, .ref im, .ref kp, .ref pa, .ref de, .ref ide, .int c_un, .int c_hi, .ref tx, .int c_tn, .int c_fa, .int c_rf, .ref pt, .int c_ps, .int c_pl, .int c_to, .ref so, .ref mo, .ref wh, .ref pf])) := hup hf36 (hne h_m h_v (by intro q; cases q)) h_m
            refine g_cI C0 G (g_runV C0 G (rest := [.int (nI i)]) (k_X9_last hfl k39 k37) k39 rfl hY_X9_last mm_X9_95 mi_X9_last ml_X9_last ⟨(Nat.le_of_ble_eq_true rfl), (Nat.le_of_ble_eq_true rfl)⟩ rfl hl.1 rfl (Nat.le_of_ble_eq_true rfl) dX9_looks_113 ⟨(Nat.le_of_ble_eq_true rfl), (Nat.le_of_ble_eq_true rfl)⟩) (kx_no rfl) (fun r42 u41 H locs hp40 G => ?_)
            obtain ⟨zr, eu41⟩ := hp40
            replace zr := Eq.symm zr
            subst zr
            rw [eu41] at G
            refine lv_topv (v := nI (2 * e - 1)) (last_n (by rw [X9_looks_g5, upd_off (by omega)]; exact h1) (by omega)) ?_
            have J45 : ∀ (y44 : Nat → Int32) (_ : y44 = (X9_looks_g10 g al dl i e s)) (f46 : Hf) (H : Heap) (locs : List Loc) (ls : Array Slot), f46 v = some (.inl (cy 0, 6441, .inl y44)) → hFrL f36 f46 [v] → hG D (hA f sz) f46 s9 H locs → lv_has ls 5 [(4, .int (X9_looks_x4 g al dl i e)), (3, .int (nI i)), (0, .ref m), (1, .int al), (2, .int dl)] → W p9 l e9 ({ frames := 2, cells := 0, slots := 0, locals := 47 } : Room) s9 m9 ([.ref m, .int al, .int dl] : List Value).toArray b9 t9 c9 H locs 0 0 (vx_MQ b9 (hQv (fun u => u v = some (.inl (cy 0, 6441, .inl (X9_looks_g11 g al dl i e s))) ∧ hFrL f u [v]) D f sz) (hPx hNo D f sz) ([.ref m, .int al, .int dl] : List Value).toArray s9 0 0 (hA f sz)) (F0 m9 158 ls []) := by
              intro y44 ey44 f46 H locs ls k47 fr48 G hl
              replace ey44 := Eq.symm ey44
              subst ey44
              exact g_vret C0 G hr dX9_looks_158 (Nat.le_of_ble_eq_true rfl) (Nat.le_of_ble_eq_true rfl) (by exact ⟨(by rw [(by rw [X9_looks_g11, if_neg c38] : (X9_looks_g11 g al dl i e s) = (X9_looks_g10 g al dl i e s))]; exact k47), (fun a9 e9 h7 h8 => fr48 _ _ (fun q => h7 (by simp only [List.mem_cons, List.not_mem_nil, or_false] at q ⊢; first | exact q | (rcases q with q <;> simp [q]) | omega)) (hup hf36 (fun q => h7 (by rw [q]; simp)) (h8)))⟩)
            refine lv_icmp_eq (tgt := 141) hx hb dX9_looks_116 (by decide) (fun c43 => ?_) (fun c43 => ?_)
            · have n49 : i = (2 * e - 1) := (nI_eq (a := i) (b := (2 * e - 1)) (by omega) (by omega)).mp c43
              refine lv_aload_n hx hb dX9_looks_141 rfl (lv_at hl 2 rfl) ?_
              refine g_get C0 G k39 rfl hiX9 2 (by decide) mf_X9_9 rfl dX9_looks_142 ?_
              refine lv_iconst (v := 5) hx hb dX9_looks_145 (by decide) ?_
              refine lv_iconst (v := 1) hx hb dX9_looks_146 (by decide) ?_
              refine g_iast C0 G k37 0 rfl (by unfold vp_in; decide) dX9_looks_147 (fun H locs f50 hf50 G => ?_)
              have k51 : f50 v = some (.inl (cy 0, 6441, .inl (X9_looks_g6 g al dl i e))) := hus hf50
              refine lv_goto (tgt := 158) hx hb dX9_looks_148 (by decide) ?_
              exact J45 (X9_looks_g6 g al dl i e) (by rw [X9_looks_g10, if_pos c43]) f50 _ _ _ k51 (fun a9 e9 h7 h8 => hup hf50 (fun q => h7 (by rw [q]; simp)) (h8)) G (lv_sub hl [0, 1, 2, 3, 4] rfl)
            · have n52 : ¬ i = (2 * e - 1) := fun q => c43 ((nI_eq (a := i) (b := (2 * e - 1)) (by omega) (by omega)).mpr q)
              refine lv_aload_n hx hb dX9_looks_119 rfl (lv_at hl 2 rfl) ?_
              refine g_get C0 G k39 rfl hiX9 2 (by decide) mf_X9_9 rfl dX9_looks_120 ?_
              refine lv_iconst (v := 1) hx hb dX9_looks_123 (by decide) ?_
              refine g_iald C0 G k37 0 rfl (by unfold vp_in; decide) dX9_looks_124 ?_
              refine lv_topv (v := (X9_looks_g5 g al dl i e) 1) rfl ?_
              refine lv_topv (v := nI e) ((by rw [X9_looks_g5, upd_off (by omega)]; exact h1)) ?_
              refine lv_iconst (v := 2) hx hb dX9_looks_125 (by decide) ?_
              have J55 : ∀ (y54 : Nat → Int32) (_ : y54 = (X9_looks_g9 g al dl i e s)) (f56 : Hf) (H : Heap) (locs : List Loc) (ls : Array Slot), f56 v = some (.inl (cy 0, 6441, .inl y54)) → hFrL f36 f56 [v] → hG D (hA f sz) f56 s9 H locs → lv_has ls 5 [(4, .int (X9_looks_x4 g al dl i e)), (3, .int (nI i)), (0, .ref m), (1, .int al), (2, .int dl)] → W p9 l e9 ({ frames := 2, cells := 0, slots := 0, locals := 47 } : Room) s9 m9 ([.ref m, .int al, .int dl] : List Value).toArray b9 t9 c9 H locs 0 0 (vx_MQ b9 (hQv (fun u => u v = some (.inl (cy 0, 6441, .inl (X9_looks_g11 g al dl i e s))) ∧ hFrL f u [v]) D f sz) (hPx hNo D f sz) ([.ref m, .int al, .int dl] : List Value).toArray s9 0 0 (hA f sz)) (F0 m9 158 ls []) := by
                intro y54 ey54 f56 H locs ls k57 fr58 G hl
                replace ey54 := Eq.symm ey54
                subst ey54
                exact J45 (X9_looks_g9 g al dl i e s) (by rw [X9_looks_g10, if_neg c43]) f56 _ _ _ k57 (fun a9 e9 h7 h8 => fr58 _ _ (fun q => h7 (by simp only [List.mem_cons, List.not_mem_nil, or_false] at q ⊢; first | exact q | (rcases q with q <;> simp [q]) | omega)) (h8)) G (lv_sub hl [0, 1, 2, 3, 4] rfl)
              refine lv_icmp_ne (tgt := 151) hx hb dX9_looks_126 (by decide) (fun c53 => ?_) (fun c53 => ?_)
              · have n59 : ¬ e = 2 := fun q => c53 ((nI_eq (a := e) (b := 2) (by omega) (by omega)).mpr q)
                refine lv_aload_n hx hb dX9_looks_151 rfl (lv_at hl 2 rfl) ?_
                refine lv_iload_n hx hb dX9_looks_152 rfl (lv_at hl 1 rfl) ?_
                refine lv_iconst (v := 1) hx hb dX9_looks_153 (by decide) ?_
                refine lv_iadd hx hb dX9_looks_154 ?_
                refine lv_topv (v := nI (i + 1)) ((nI_add _ _)) ?_
                refine g_cV C0 G (g_runV C0 G (rest := []) (k_X9_opens hfl (c_th := c_th) (c_re := c_re) (c_un := c_un) (c_hi := c_hi) (c_tn := c_tn) (c_fa := c_fa) (c_rf := c_rf) (c_ps := c_ps) (c_pl := c_pl) (c_to := c_to) (g := (X9_looks_g5 g al dl i e)) (i := (i + 1)) (s := s) k39 k37 (by omega) (by rw [X9_looks_g5, upd_off (by omega)]; exact h22) hs) k39 rfl hY_X9_opens mm_X9_72 mi_X9_opens ml_X9_opens ⟨(Nat.le_of_ble_eq_true rfl), (Nat.le_of_ble_eq_true rfl)⟩ rfl hl.1 rfl (Nat.le_of_ble_eq_true rfl) dX9_looks_155 ⟨(Nat.le_of_ble_eq_true rfl), (Nat.le_of_ble_eq_true rfl)⟩) (kx_no rfl) (fun u61 H locs hp60 G => ?_)
                obtain ⟨k62, fr63⟩ := hp60
                exact J55 (X9_opens_g37 (X9_looks_g5 g al dl i e) (i + 1) s) (by rw [X9_looks_g9, if_neg c53]) u61 _ _ _ k62 (fun a9 e9 h7 h8 => fr63 _ _ (fun q => h7 (by simp only [List.mem_cons, List.not_mem_nil, or_false] at q ⊢; first | exact q | (rcases q with q <;> simp [q]) | omega)) (h8)) G (lv_sub hl [0, 1, 2, 3, 4] rfl)
              · have n64 : e = 2 := (nI_eq (a := e) (b := 2) (by omega) (by omega)).mp c53
                refine lv_iload_n hx hb dX9_looks_129 rfl (lv_at hl 1 rfl) ?_
                refine lv_iconst (v := 2) hx hb dX9_looks_130 (by decide) ?_
                have J67 : ∀ (y66 : Nat → Int32) (_ : y66 = (X9_looks_g8 g al dl i e s)) (f68 : Hf) (H : Heap) (locs : List Loc) (ls : Array Slot), f68 v = some (.inl (cy 0, 6441, .inl y66)) → hFrL f36 f68 [v] → hG D (hA f sz) f68 s9 H locs → lv_has ls 5 [(4, .int (X9_looks_x4 g al dl i e)), (3, .int (nI i)), (0, .ref m), (1, .int al), (2, .int dl)] → W p9 l e9 ({ frames := 2, cells := 0, slots := 0, locals := 47 } : Room) s9 m9 ([.ref m, .int al, .int dl] : List Value).toArray b9 t9 c9 H locs 0 0 (vx_MQ b9 (hQv (fun u => u v = some (.inl (cy 0, 6441, .inl (X9_looks_g11 g al dl i e s))) ∧ hFrL f u [v]) D f sz) (hPx hNo D f sz) ([.ref m, .int al, .int dl] : List Value).toArray s9 0 0 (hA f sz)) (F0 m9 158 ls []) := by
                  intro y66 ey66 f68 H locs ls k69 fr70 G hl
                  replace ey66 := Eq.symm ey66
                  subst ey66
                  exact J55 (X9_looks_g8 g al dl i e s) (by rw [X9_looks_g9, if_pos c53]) f68 _ _ _ k69 (fun a9 e9 h7 h8 => fr70 _ _ (fun q => h7 (by simp only [List.mem_cons, List.not_mem_nil, or_false] at q ⊢; first | exact q | (rcases q with q <;> simp [q]) | omega)) (h8)) G (lv_sub hl [0, 1, 2, 3, 4] rfl)
                refine lv_icmp_ne (tgt := 151) hx hb dX9_looks_131 (by decide) (fun c65 => ?_) (fun c65 => ?_)
                · have n71 : ¬ i = 2 := fun q => c65 ((nI_eq (a := i) (b := 2) (by omega) (by omega)).mpr q)
                  refine lv_aload_n hx hb dX9_looks_151 rfl (lv_at hl 2 rfl) ?_
                  refine lv_iload_n hx hb dX9_looks_152 rfl (lv_at hl 1 rfl) ?_
                  refine lv_iconst (v := 1) hx hb dX9_looks_153 (by decide) ?_
                  refine lv_iadd hx hb dX9_looks_154 ?_
                  refine lv_topv (v := nI (i + 1)) ((nI_add _ _)) ?_
                  refine g_cV C0 G (g_runV C0 G (rest := []) (k_X9_opens hfl (c_th := c_th) (c_re := c_re) (c_un := c_un) (c_hi := c_hi) (c_tn := c_tn) (c_fa := c_fa) (c_rf := c_rf) (c_ps := c_ps) (c_pl := c_pl) (c_to := c_to) (g := (X9_looks_g5 g al dl i e)) (i := (i + 1)) (s := s) k39 k37 (by omega) (by rw [X9_looks_g5, upd_off (by omega)]; exact h22) hs) k39 rfl hY_X9_opens mm_X9_72 mi_X9_opens ml_X9_opens ⟨(Nat.le_of_ble_eq_true rfl), (Nat.le_of_ble_eq_true rfl)⟩ rfl hl.1 rfl (Nat.le_of_ble_eq_true rfl) dX9_looks_155 ⟨(Nat.le_of_ble_eq_true rfl), (Nat.le_of_ble_eq_true rfl)⟩) (kx_no rfl) (fun u73 H locs hp72 G => ?_)
                  obtain ⟨k74, fr75⟩ := hp72
                  exact J67 (X9_opens_g37 (X9_looks_g5 g al dl i e) (i + 1) s) (by rw [X9_looks_g8, if_neg c65]) u73 _ _ _ k74 (fun a9 e9 h7 h8 => fr75 _ _ (fun q => h7 (by simp only [List.mem_cons, List.not_mem_nil, or_false] at q ⊢; first | exact q | (rcases q with q <;> simp [q]) | omega)) (h8)) G (lv_sub hl [0, 1, 2, 3, 4] rfl)
                · have n76 : i = 2 := (nI_eq (a := i) (b := 2) (by omega) (by omega)).mp c65
                  refine lv_aload_n hx hb dX9_looks_134 rfl (lv_at hl 2 rfl) ?_
                  refine g_cI C0 G (g_runV C0 G (rest := []) (k_X9_target hfl k39 k37 (by rw [X9_looks_g5, upd_off (by omega)]; exact h1) he (by rw [show (X9_looks_g5 g al dl i e) 14 = g 14 from (by rw [X9_looks_g5, upd_off (by omega)])]; exact (by first | exact hrr (by omega) | exact Or.inl (by omega)))) k39 rfl hY_X9_target mm_X9_99 mi_X9_target ml_X9_target ⟨(Nat.le_of_ble_eq_true rfl), (Nat.le_of_ble_eq_true rfl)⟩ rfl hl.1 rfl (Nat.le_of_ble_eq_true rfl) dX9_looks_135 ⟨(Nat.le_of_ble_eq_true rfl), (Nat.le_of_ble_eq_true rfl)⟩) (kx_no rfl) (fun r79 u78 H locs hp77 G => ?_)
                  obtain ⟨zr, eu78⟩ := hp77
                  replace zr := Eq.symm zr
                  subst zr
                  rw [eu78] at G
                  have J82 : ∀ (y81 : Nat → Int32) (_ : y81 = (X9_looks_g7 g al dl i e s)) (f83 : Hf) (H : Heap) (locs : List Loc) (ls : Array Slot), f83 v = some (.inl (cy 0, 6441, .inl y81)) → hFrL f36 f83 [v] → hG D (hA f sz) f83 s9 H locs → lv_has ls 5 [(4, .int (X9_looks_x4 g al dl i e)), (3, .int (nI i)), (0, .ref m), (1, .int al), (2, .int dl)] → W p9 l e9 ({ frames := 2, cells := 0, slots := 0, locals := 47 } : Room) s9 m9 ([.ref m, .int al, .int dl] : List Value).toArray b9 t9 c9 H locs 0 0 (vx_MQ b9 (hQv (fun u => u v = some (.inl (cy 0, 6441, .inl (X9_looks_g11 g al dl i e s))) ∧ hFrL f u [v]) D f sz) (hPx hNo D f sz) ([.ref m, .int al, .int dl] : List Value).toArray s9 0 0 (hA f sz)) (F0 m9 158 ls []) := by
                    intro y81 ey81 f83 H locs ls k84 fr85 G hl
                    replace ey81 := Eq.symm ey81
                    subst ey81
                    exact J67 (X9_looks_g7 g al dl i e s) (by rw [X9_looks_g8, if_pos c65]) f83 _ _ _ k84 (fun a9 e9 h7 h8 => fr85 _ _ (fun q => h7 (by simp only [List.mem_cons, List.not_mem_nil, or_false] at q ⊢; first | exact q | (rcases q with q <;> simp [q]) | omega)) (h8)) G (lv_sub hl [0, 1, 2, 3, 4] rfl)
                  refine lv_if_gt (tgt := 151) hx hb dX9_looks_138 (by decide) (fun c80 => ?_) (fun c80 => ?_)
                  · refine lv_aload_n hx hb dX9_looks_151 rfl (lv_at hl 2 rfl) ?_
                    refine lv_iload_n hx hb dX9_looks_152 rfl (lv_at hl 1 rfl) ?_
                    refine lv_iconst (v := 1) hx hb dX9_looks_153 (by decide) ?_
                    refine lv_iadd hx hb dX9_looks_154 ?_
                    refine lv_topv (v := nI (i + 1)) ((nI_add _ _)) ?_
                    refine g_cV C0 G (g_runV C0 G (rest := []) (k_X9_opens hfl (c_th := c_th) (c_re := c_re) (c_un := c_un) (c_hi := c_hi) (c_tn := c_tn) (c_fa := c_fa) (c_rf := c_rf) (c_ps := c_ps) (c_pl := c_pl) (c_to := c_to) (g := (X9_looks_g5 g al dl i e)) (i := (i + 1)) (s := s) k39 k37 (by omega) (by rw [X9_looks_g5, upd_off (by omega)]; exact h22) hs) k39 rfl hY_X9_opens mm_X9_72 mi_X9_opens ml_X9_opens ⟨(Nat.le_of_ble_eq_true rfl), (Nat.le_of_ble_eq_true rfl)⟩ rfl hl.1 rfl (Nat.le_of_ble_eq_true rfl) dX9_looks_155 ⟨(Nat.le_of_ble_eq_true rfl), (Nat.le_of_ble_eq_true rfl)⟩) (kx_no rfl) (fun u87 H locs hp86 G => ?_)
                    obtain ⟨k88, fr89⟩ := hp86
                    exact J82 (X9_opens_g37 (X9_looks_g5 g al dl i e) (i + 1) s) (by rw [X9_looks_g7, if_pos c80]) u87 _ _ _ k88 (fun a9 e9 h7 h8 => fr89 _ _ (fun q => h7 (by simp only [List.mem_cons, List.not_mem_nil, or_false] at q ⊢; first | exact q | (rcases q with q <;> simp [q]) | omega)) (h8)) G (lv_sub hl [0, 1, 2, 3, 4] rfl)
                  · refine lv_aload_n hx hb dX9_looks_141 rfl (lv_at hl 2 rfl) ?_
                    refine g_get C0 G k39 rfl hiX9 2 (by decide) mf_X9_9 rfl dX9_looks_142 ?_
                    refine lv_iconst (v := 5) hx hb dX9_looks_145 (by decide) ?_
                    refine lv_iconst (v := 1) hx hb dX9_looks_146 (by decide) ?_
                    refine g_iast C0 G k37 0 rfl (by unfold vp_in; decide) dX9_looks_147 (fun H locs f90 hf90 G => ?_)
                    have k91 : f90 v = some (.inl (cy 0, 6441, .inl (X9_looks_g6 g al dl i e))) := hus hf90
                    refine lv_goto (tgt := 158) hx hb dX9_looks_148 (by decide) ?_
                    exact J82 (X9_looks_g6 g al dl i e) (by rw [X9_looks_g7, if_neg c80]) f90 _ _ _ k91 (fun a9 e9 h7 h8 => hup hf90 (fun q => h7 (by rw [q]; simp)) (h8)) G (lv_sub hl [0, 1, 2, 3, 4] rfl)
          · exact g_vret C0 G hr dX9_looks_110 (Nat.le_of_ble_eq_true rfl) (Nat.le_of_ble_eq_true rfl) (by exact ⟨(by rw [(by rw [X9_looks_g11, if_pos c38] : (X9_looks_g11 g al dl i e s) = (X9_looks_g5 g al dl i e))]; exact k37), (fun a9 e9 h7 h8 => hup hf36 (fun q => h7 (by rw [q]; simp)) (h8))⟩)
        refine lv_icmp_ne (tgt := 88) hx hb dX9_looks_64 (by decide) (fun c29 => ?_) (fun c29 => ?_)
        · have n92 : ¬ i = (2 * e - 1) := fun q => c29 ((nI_eq (a := i) (b := (2 * e - 1)) (by omega) (by omega)).mpr q)
          refine lv_iload hx hb dX9_looks_88 (lv_at hl 0 rfl) ?_
          exact J31 (X9_looks_x2 g al dl i) (by rw [X9_looks_x4, if_neg c29]) _ _ _ G (lv_sub hl [0, 1, 2, 3, 4] rfl)
        · have n93 : i = (2 * e - 1) := (nI_eq (a := i) (b := (2 * e - 1)) (by omega) (by omega)).mp c29
          refine lv_aload_n hx hb dX9_looks_67 rfl (lv_at hl 2 rfl) ?_
          refine g_get C0 G h_m rfl hiX9 2 (by decide) mf_X9_9 rfl dX9_looks_68 ?_
          refine lv_iload_n hx hb dX9_looks_71 rfl (lv_at hl 1 rfl) ?_
          refine lv_iconst (v := 0) hx hb dX9_looks_72 (by decide) ?_
          refine g_cI C0 G (g_runS C0 G (rest := [.ref v]) (k_X9_at hfl (nI i) 0 ) hY_X9_at mm_X9_62 ms_X9_at ⟨(Nat.le_of_ble_eq_true rfl), (Nat.le_of_ble_eq_true rfl)⟩ rfl hl.1 rfl (Nat.le_of_ble_eq_true rfl) dX9_looks_73 ⟨(Nat.le_of_ble_eq_true rfl), (Nat.le_of_ble_eq_true rfl)⟩) (kx_no rfl) (fun r96 u95 H locs hp94 G => ?_)
          obtain ⟨zr, eu95⟩ := hp94
          replace zr := Eq.symm zr
          subst zr
          rw [eu95] at G
          refine lv_topv (v := nI (25 + 11 * i + 0)) (at_n i 0) ?_
          refine g_iald C0 G h_v 0 rfl (vp_in_nI (by omega) (by omega)) dX9_looks_76 ?_
          refine lv_topv (v := g (25 + 11 * i + 0)) (congrArg g (nI_c (by omega))) ?_
          refine lv_aload_n hx hb dX9_looks_77 rfl (lv_at hl 2 rfl) ?_
          refine g_cI C0 G (g_runV C0 G (rest := [.int (g (25 + 11 * i + 0))]) (k_X9_target hfl h_m h_v h1 he (by first | exact hrr (by omega) | exact Or.inl (by omega))) h_m rfl hY_X9_target mm_X9_99 mi_X9_target ml_X9_target ⟨(Nat.le_of_ble_eq_true rfl), (Nat.le_of_ble_eq_true rfl)⟩ rfl hl.1 rfl (Nat.le_of_ble_eq_true rfl) dX9_looks_78 ⟨(Nat.le_of_ble_eq_true rfl), (Nat.le_of_ble_eq_true rfl)⟩) (kx_no rfl) (fun r99 u98 H locs hp97 G => ?_)
          obtain ⟨zr, eu98⟩ := hp97
          replace zr := Eq.symm zr
          subst zr
          rw [eu98] at G
          have J102 : ∀ (y101 : Int32) (_ : y101 = (X9_looks_x3 g al dl i e)) (H : Heap) (locs : List Loc) (ls : Array Slot), hG D (hA f sz) f s9 H locs → lv_has ls 5 [(4, .int (X9_looks_x2 g al dl i)), (3, .int (nI i)), (0, .ref m), (1, .int al), (2, .int dl)] → W p9 l e9 ({ frames := 2, cells := 0, slots := 0, locals := 47 } : Room) s9 m9 ([.ref m, .int al, .int dl] : List Value).toArray b9 t9 c9 H locs 0 0 (vx_MQ b9 (hQv (fun u => u v = some (.inl (cy 0, 6441, .inl (X9_looks_g11 g al dl i e s))) ∧ hFrL f u [v]) D f sz) (hPx hNo D f sz) ([.ref m, .int al, .int dl] : List Value).toArray s9 0 0 (hA f sz)) (F0 m9 90 ls [.int y101]) := by
            intro y101 ey101 H locs ls G hl
            replace ey101 := Eq.symm ey101
            subst ey101
            exact J31 (X9_looks_x3 g al dl i e) (by rw [X9_looks_x4, if_pos c29]) _ _ _ G (lv_sub hl [0, 1, 2, 3, 4] rfl)
          refine lv_icmp_lt (tgt := 88) hx hb dX9_looks_81 (by decide) (fun c100 => ?_) (fun c100 => ?_)
          · refine lv_iload hx hb dX9_looks_88 (lv_at hl 0 rfl) ?_
            exact J102 (X9_looks_x2 g al dl i) (by rw [X9_looks_x3, if_pos c100]) _ _ _ G (lv_sub hl [0, 1, 2, 3, 4] rfl)
          · refine lv_iconst (v := 4) hx hb dX9_looks_84 (by decide) ?_
            refine lv_goto (tgt := 90) hx hb dX9_looks_85 (by decide) ?_
            exact J102 4 (by rw [X9_looks_x3, if_neg c100]) _ _ _ G (lv_sub hl [0, 1, 2, 3, 4] rfl)
      refine lv_if_eq (tgt := 55) hx hb dX9_looks_48 (by decide) (fun c22 => ?_) (fun c22 => ?_)
      · refine lv_iload hx hb dX9_looks_55 (lv_at hl 0 rfl) ?_
        exact J24 (X9_looks_x1 g al i) (by rw [X9_looks_x2, if_pos c22]) _ _ _ G (lv_sub hl [0, 1, 2, 3, 4] rfl)
      · refine lv_iconst (v := 3) hx hb dX9_looks_51 (by decide) ?_
        refine lv_goto (tgt := 57) hx hb dX9_looks_52 (by decide) ?_
        exact J24 3 (by rw [X9_looks_x2, if_neg c22]) _ _ _ G (lv_sub hl [0, 1, 2, 3, 4] rfl)
    refine lv_if_eq (tgt := 43) hx hb dX9_looks_36 (by decide) (fun c18 => ?_) (fun c18 => ?_)
    · refine lv_iload hx hb dX9_looks_43 (lv_at hl 0 rfl) ?_
      exact J20 (X9_looks_x0 g i) (by rw [X9_looks_x1, if_pos c18]) _ _ _ G (lv_sub hl [0, 1, 2, 3, 4] rfl)
    · refine lv_iconst (v := 2) hx hb dX9_looks_39 (by decide) ?_
      refine lv_goto (tgt := 45) hx hb dX9_looks_40 (by decide) ?_
      exact J20 2 (by rw [X9_looks_x1, if_neg c18]) _ _ _ G (lv_sub hl [0, 1, 2, 3, 4] rfl)
  refine lv_icmp_ne (tgt := 32) hx hb dX9_looks_25 (by decide) (fun c14 => ?_) (fun c14 => ?_)
  · refine lv_iconst (v := 0) hx hb dX9_looks_32 (by decide) ?_
    exact J16 0 (by rw [X9_looks_x0, if_neg c14]) _ _ _ G (lv_sub hl [0, 1, 2, 3] rfl)
  · refine lv_iconst (v := 1) hx hb dX9_looks_28 (by decide) ?_
    refine lv_goto (tgt := 33) hx hb dX9_looks_29 (by decide) ?_
    exact J16 1 (by rw [X9_looks_x0, if_pos c14]) _ _ _ G (lv_sub hl [0, 1, 2, 3] rfl)
