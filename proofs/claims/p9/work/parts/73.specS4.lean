def X9_append_n0 (tn : Nat) : Nat := if (nI tn) = 60 then 2 else 0
def X9_append_n1 (ch : Int32) (tn : Nat) : Nat := if (X9_isIn_x1 ch 32 126) = 0 then 1 else (X9_append_n0 tn)
def X9_append_g2 (gx : Nat → Int32) (ch : Int32) (tn : Nat) : Nat → Int32 := upd gx tn ch
def X9_append_r3 (ch : Int32) (tn : Nat) : Int32 := if (nI (X9_append_n1 ch tn)) ≤ 0 then (nI (tn + 1)) else 0
def X9_append_x4 (ch : Int32) (tn : Nat) : Int32 := if (nI (X9_append_n1 ch tn)) ≤ 0 then (nI (tn + 1)) else (nI tn)
def X9_append_g5 (gx : Nat → Int32) (ch : Int32) (tn : Nat) : Nat → Int32 := if (nI (X9_append_n1 ch tn)) ≤ 0 then (X9_append_g2 gx ch tn) else gx
set_option maxRecDepth 100000 in
theorem k_X9_append {l : Launch} (hfl : l.stackTraces = false) {D : va_G} {cy : Nat → ClassId} {f : Hf} {sz : Nat} {m : Nat} {v : Nat} {im : Nat} {kp : Nat} {pa : Nat} {de : Nat} {ide : Nat} {tx : Nat} {pt : Nat} {so : Nat} {mo : Nat} {wh : Nat} {pf : Nat} {c_th : Int32} {c_re : Int32} {c_un : Int32} {c_hi : Int32} {c_fa : Int32} {c_rf : Int32} {c_ps : Int32} {c_pl : Int32} {c_to : Int32} {gx : Nat → Int32} (ch : Int32) {tn : Nat} (h_m : f m = some (.inr (11, [.int c_th, .int c_re, .ref v, .ref im, .ref kp, .ref pa, .ref de, .ref ide, .int c_un, .int c_hi, .ref tx, .int (nI tn), .int c_fa, .int c_rf, .ref pt, .int c_ps, .int c_pl, .int c_to, .ref so, .ref mo, .ref wh, .ref pf]))) (h_tx : f tx = some (.inl (cy 0, 60, .inl gx))) (htn : tn ≤ 60) : hMet l yX9_append cX9_append 2 (some .int) { frames := 1, cells := 0, slots := 0, locals := 22 } D (hTy cy) f sz [.ref m, .int ch] (hQi (fun r u => r = (X9_append_r3 ch tn) ∧ u m = some (.inr (11, [.int (nI (X9_append_n1 ch tn)), .int c_re, .ref v, .ref im, .ref kp, .ref pa, .ref de, .ref ide, .int c_un, .int c_hi, .ref tx, .int (X9_append_x4 ch tn), .int c_fa, .int c_rf, .ref pt, .int c_ps, .int c_pl, .int c_to, .ref so, .ref mo, .ref wh, .ref pf])) ∧ u tx = some (.inl (cy 0, 60, .inl (X9_append_g5 gx ch tn))) ∧ hFrL f u [m, tx]) D f sz) hNo := by
  refine h_enter (by decide) hfl (Nat.le_of_ble_eq_true rfl) ?_
  intro p9 e9 s9 m9 b9 t9 c9 hsz C0 hr hnm G ls hl
  have hx := C0.1.1
  have hb := C0.1.2.1
  have hl : lv_has ls 2 [(0, .ref m), (1, .int ch)] := hl
  refine lv_aload_n hx hb dX9_append_0 rfl (lv_at hl 0 rfl) ?_
  refine lv_iload_n hx hb dX9_append_1 rfl (lv_at hl 1 rfl) ?_
  refine lv_bipush (v := 32) hx hb dX9_append_2 (by decide) ?_
  refine lv_bipush (v := 126) hx hb dX9_append_4 (by decide) ?_
  refine g_cI C0 G (g_runS C0 G (rest := [.ref m]) (k_X9_isIn hfl ch 32 126 ) hY_X9_isIn mm_X9_76 ms_X9_isIn ⟨(Nat.le_of_ble_eq_true rfl), (Nat.le_of_ble_eq_true rfl)⟩ rfl hl.1 rfl (Nat.le_of_ble_eq_true rfl) dX9_append_6 ⟨(Nat.le_of_ble_eq_true rfl), (Nat.le_of_ble_eq_true rfl)⟩) (kx_no rfl) (fun r13 u12 H locs hp11 G => ?_)
  obtain ⟨zr, eu12⟩ := hp11
  replace zr := Eq.symm zr
  subst zr
  rw [eu12] at G
  have J16 : ∀ (y15 : Int32) (_ : y15 = nI (X9_append_n1 ch tn)) (H : Heap) (locs : List Loc) (ls : Array Slot), hG D (hA f sz) f s9 H locs → lv_has ls 2 [(0, .ref m), (1, .int ch)] → W p9 l e9 ({ frames := 1, cells := 0, slots := 0, locals := 22 } : Room) s9 m9 ([.ref m, .int ch] : List Value).toArray b9 t9 c9 H locs 0 0 (vx_MQ b9 (hQi (fun r u => r = (X9_append_r3 ch tn) ∧ u m = some (.inr (11, [.int (nI (X9_append_n1 ch tn)), .int c_re, .ref v, .ref im, .ref kp, .ref pa, .ref de, .ref ide, .int c_un, .int c_hi, .ref tx, .int (X9_append_x4 ch tn), .int c_fa, .int c_rf, .ref pt, .int c_ps, .int c_pl, .int c_to, .ref so, .ref mo, .ref wh, .ref pf])) ∧ u tx = some (.inl (cy 0, 60, .inl (X9_append_g5 gx ch tn))) ∧ hFrL f u [m, tx]) D f sz) (hPx hNo D f sz) ([.ref m, .int ch] : List Value).toArray s9 0 0 (hA f sz)) (F0 m9 30 ls [.int y15, .ref m]) := by
    intro y15 ey15 H locs ls G hl
    replace ey15 := Eq.symm ey15
    subst ey15
    have bd18 : (X9_append_n1 ch tn) ≤ 2 := by unfold X9_append_n1 X9_append_n0; repeat (first | omega | split)
    refine g_put C0 G h_m rfl hiX9 tyX9 tyX9_ok nmX9 0 (by decide) mf_X9_55 rfl rfl rfl rfl (Nat.le_of_ble_eq_true rfl) dX9_append_30 (fun H locs f19 hf19 G => ?_)
    have k20 : f19 m = some (.inr (11, [.int (nI (X9_append_n1 ch tn)), .int c_re, .ref v, .ref im, .ref kp, .ref pa, .ref de, .ref ide, .int c_un, .int c_hi, .ref tx, .int (nI tn), .int c_fa, .int c_rf, .ref pt, .int c_ps, .int c_pl, .int c_to, .ref so, .ref mo, .ref wh, .ref pf])) := hus hf19
    refine lv_aload_n hx hb dX9_append_33 rfl (lv_at hl 0 rfl) ?_
    refine g_get C0 G k20 rfl hiX9 0 (by decide) mf_X9_55 rfl dX9_append_34 ?_
    refine lv_if_le (tgt := 42) hx hb dX9_append_37 (by decide) (fun c21 => ?_) (fun c21 => ?_)
    · have n22 : (X9_append_n1 ch tn) ≤ 0 := (nI_leI (a := (X9_append_n1 ch tn)) (b := 0) (by omega) (by omega)).mp c21
      refine lv_aload_n hx hb dX9_append_42 rfl (lv_at hl 0 rfl) ?_
      refine g_get C0 G k20 rfl hiX9 10 (by decide) mf_X9_29 rfl dX9_append_43 ?_
      refine lv_aload_n hx hb dX9_append_46 rfl (lv_at hl 0 rfl) ?_
      refine g_get C0 G k20 rfl hiX9 11 (by decide) mf_X9_191 rfl dX9_append_47 ?_
      refine lv_iload_n hx hb dX9_append_50 rfl (lv_at hl 1 rfl) ?_
      have k23 : f19 tx = some (.inl (cy 0, 60, .inl gx)) := hup hf19 (hne h_tx h_m (by intro q; cases q)) h_tx
      refine g_iast C0 G k23 0 rfl (vp_in_nI (by have h9 : X9_append_n1 ch tn ≤ 0 := (by assumption); unfold X9_append_n1 X9_append_n0 at h9; split at h9; omega; split at h9; omega; rename_i h8 h7; have : ¬ tn = 60 := fun q => h7 ((nI_eq (a := tn) (b := 60) (by omega) (by omega)).mpr q); omega) (by omega)) dX9_append_51 (fun H locs f24 hf24 G => ?_)
      have k25 : f24 tx = some (.inl (cy 0, 60, .inl (X9_append_g2 gx ch tn))) := (by have h9 := hus hf24; rw [nI_c (by omega)] at h9; exact h9)
      refine lv_aload_n hx hb dX9_append_52 rfl (lv_at hl 0 rfl) ?_
      refine lv_dup hx hb dX9_append_53 rfl ?_
      have k26 : f24 m = some (.inr (11, [.int (nI (X9_append_n1 ch tn)), .int c_re, .ref v, .ref im, .ref kp, .ref pa, .ref de, .ref ide, .int c_un, .int c_hi, .ref tx, .int (nI tn), .int c_fa, .int c_rf, .ref pt, .int c_ps, .int c_pl, .int c_to, .ref so, .ref mo, .ref wh, .ref pf])) := hup hf24 (hne k20 k23 (by intro q; cases q)) k20
      refine g_get C0 G k26 rfl hiX9 11 (by decide) mf_X9_191 rfl dX9_append_54 ?_
      refine lv_iconst (v := 1) hx hb dX9_append_57 (by decide) ?_
      refine lv_iadd hx hb dX9_append_58 ?_
      refine lv_topv (v := nI (tn + 1)) ((nI_add _ _)) ?_
      refine g_put C0 G k26 rfl hiX9 tyX9 tyX9_ok nmX9 11 (by decide) mf_X9_191 rfl rfl rfl rfl (Nat.le_of_ble_eq_true rfl) dX9_append_59 (fun H locs f27 hf27 G => ?_)
      have k28 : f27 m = some (.inr (11, [.int (nI (X9_append_n1 ch tn)), .int c_re, .ref v, .ref im, .ref kp, .ref pa, .ref de, .ref ide, .int c_un, .int c_hi, .ref tx, .int (nI (tn + 1)), .int c_fa, .int c_rf, .ref pt, .int c_ps, .int c_pl, .int c_to, .ref so, .ref mo, .ref wh, .ref pf])) := hus hf27
      refine lv_aload_n hx hb dX9_append_62 rfl (lv_at hl 0 rfl) ?_
      refine g_get C0 G k28 rfl hiX9 11 (by decide) mf_X9_191 rfl dX9_append_63 ?_
      have k29 : f27 tx = some (.inl (cy 0, 60, .inl (X9_append_g2 gx ch tn))) := hup hf27 (hne k25 k26 (by intro q; cases q)) k25
      exact g_iret C0 G hr dX9_append_66 (Nat.le_of_ble_eq_true rfl) (Nat.le_of_ble_eq_true rfl) (by exact ⟨(by rw [X9_append_r3, if_pos c21]), (by rw [(by rw [X9_append_x4, if_pos c21] : (X9_append_x4 ch tn) = (nI (tn + 1)))]; exact k28), (by rw [(by rw [X9_append_g5, if_pos c21] : (X9_append_g5 gx ch tn) = (X9_append_g2 gx ch tn))]; exact k29), (fun a9 e9 h7 h8 => hup hf27 (fun q => h7 (by rw [q]; simp)) (hup hf24 (fun q => h7 (by rw [q]; simp)) (hup hf19 (fun q => h7 (by rw [q]; simp)) (h8))))⟩)
    · have n30 : ¬ (X9_append_n1 ch tn) ≤ 0 := fun q => c21 ((nI_leI (a := (X9_append_n1 ch tn)) (b := 0) (by omega) (by omega)).mpr q)
      refine lv_iconst (v := 0) hx hb dX9_append_40 (by decide) ?_
      have k31 : f19 tx = some (.inl (cy 0, 60, .inl gx)) := hup hf19 (hne h_tx h_m (by intro q; cases q)) h_tx
      exact g_iret C0 G hr dX9_append_41 (Nat.le_of_ble_eq_true rfl) (Nat.le_of_ble_eq_true rfl) (by exact ⟨(by rw [X9_append_r3, if_neg c21]), (by rw [(by rw [X9_append_x4, if_neg c21] : (X9_append_x4 ch tn) = (nI tn))]; exact k20), (by rw [(by rw [X9_append_g5, if_neg c21] : (X9_append_g5 gx ch tn) = gx)]; exact k31), (fun a9 e9 h7 h8 => hup hf19 (fun q => h7 (by rw [q]; simp)) (h8))⟩)
  refine lv_if_ne (tgt := 16) hx hb dX9_append_9 (by decide) (fun c14 => ?_) (fun c14 => ?_)
  · refine lv_aload_n hx hb dX9_append_16 rfl (lv_at hl 0 rfl) ?_
    refine g_get C0 G h_m rfl hiX9 11 (by decide) mf_X9_191 rfl dX9_append_17 ?_
    refine lv_bipush (v := 60) hx hb dX9_append_20 (by decide) ?_
    have J34 : ∀ (y33 : Int32) (_ : y33 = nI (X9_append_n0 tn)) (H : Heap) (locs : List Loc) (ls : Array Slot), hG D (hA f sz) f s9 H locs → lv_has ls 2 [(0, .ref m), (1, .int ch)] → W p9 l e9 ({ frames := 1, cells := 0, slots := 0, locals := 22 } : Room) s9 m9 ([.ref m, .int ch] : List Value).toArray b9 t9 c9 H locs 0 0 (vx_MQ b9 (hQi (fun r u => r = (X9_append_r3 ch tn) ∧ u m = some (.inr (11, [.int (nI (X9_append_n1 ch tn)), .int c_re, .ref v, .ref im, .ref kp, .ref pa, .ref de, .ref ide, .int c_un, .int c_hi, .ref tx, .int (X9_append_x4 ch tn), .int c_fa, .int c_rf, .ref pt, .int c_ps, .int c_pl, .int c_to, .ref so, .ref mo, .ref wh, .ref pf])) ∧ u tx = some (.inl (cy 0, 60, .inl (X9_append_g5 gx ch tn))) ∧ hFrL f u [m, tx]) D f sz) (hPx hNo D f sz) ([.ref m, .int ch] : List Value).toArray s9 0 0 (hA f sz)) (F0 m9 30 ls [.int y33, .ref m]) := by
      intro y33 ey33 H locs ls G hl
      replace ey33 := Eq.symm ey33
      subst ey33
      have bd36 : (X9_append_n0 tn) ≤ 2 := by unfold X9_append_n0; repeat (first | omega | split)
      exact J16 (nI (X9_append_n0 tn)) (by rw [X9_append_n1, if_neg c14] <;> rfl) _ _ _ G (lv_sub hl [0, 1] rfl)
    refine lv_icmp_ne (tgt := 29) hx hb dX9_append_22 (by decide) (fun c32 => ?_) (fun c32 => ?_)
    · have n37 : ¬ tn = 60 := fun q => c32 ((nI_eq (a := tn) (b := 60) (by omega) (by omega)).mpr q)
      refine lv_iconst (v := 0) hx hb dX9_append_29 (by decide) ?_
      exact J34 0 (by rw [X9_append_n0, if_neg c32] <;> rfl) _ _ _ G (lv_sub hl [0, 1] rfl)
    · have n38 : tn = 60 := (nI_eq (a := tn) (b := 60) (by omega) (by omega)).mp c32
      refine lv_iconst (v := 2) hx hb dX9_append_25 (by decide) ?_
      refine lv_goto (tgt := 30) hx hb dX9_append_26 (by decide) ?_
      exact J34 2 (by rw [X9_append_n0, if_pos c32] <;> rfl) _ _ _ G (lv_sub hl [0, 1] rfl)
  · refine lv_iconst (v := 1) hx hb dX9_append_12 (by decide) ?_
    refine lv_goto (tgt := 30) hx hb dX9_append_13 (by decide) ?_
    exact J16 1 (by rw [X9_append_n1, if_pos c14] <;> rfl) _ _ _ G (lv_sub hl [0, 1] rfl)
def X9_here_x0 (gx : Nat → Int32) (tn : Nat) (pl : Nat) : Int32 := if (nI tn) ≤ (nI pl) then (-1) else (gx pl)
set_option maxRecDepth 100000 in
theorem k_X9_here {l : Launch} (hfl : l.stackTraces = false) {D : va_G} {cy : Nat → ClassId} {f : Hf} {sz : Nat} {m : Nat} {v : Nat} {im : Nat} {kp : Nat} {pa : Nat} {de : Nat} {ide : Nat} {tx : Nat} {pt : Nat} {so : Nat} {mo : Nat} {wh : Nat} {pf : Nat} {c_th : Int32} {c_re : Int32} {c_un : Int32} {c_hi : Int32} {c_fa : Int32} {c_rf : Int32} {c_ps : Int32} {c_to : Int32} {gx : Nat → Int32} {tn : Nat} {pl : Nat} (h_m : f m = some (.inr (11, [.int c_th, .int c_re, .ref v, .ref im, .ref kp, .ref pa, .ref de, .ref ide, .int c_un, .int c_hi, .ref tx, .int (nI tn), .int c_fa, .int c_rf, .ref pt, .int c_ps, .int (nI pl), .int c_to, .ref so, .ref mo, .ref wh, .ref pf]))) (h_tx : f tx = some (.inl (cy 0, 60, .inl gx))) (htn : tn ≤ 60) (hpl : pl ≤ 60) : hMet l yX9_here cX9_here 1 (some .int) { frames := 0, cells := 0, slots := 0, locals := 0 } D (hTy cy) f sz [.ref m] (hQi (fun r u => r = (X9_here_x0 gx tn pl) ∧ u = f) D f sz) hNo := by
  refine h_enter (by decide) hfl (Nat.le_of_ble_eq_true rfl) ?_
  intro p9 e9 s9 m9 b9 t9 c9 hsz C0 hr hnm G ls hl
  have hx := C0.1.1
  have hb := C0.1.2.1
  have hl : lv_has ls 1 [(0, .ref m)] := hl
  refine lv_aload_n hx hb dX9_here_0 rfl (lv_at hl 0 rfl) ?_
  refine g_get C0 G h_m rfl hiX9 16 (by decide) mf_X9_194 rfl dX9_here_1 ?_
  refine lv_aload_n hx hb dX9_here_4 rfl (lv_at hl 0 rfl) ?_
  refine g_get C0 G h_m rfl hiX9 11 (by decide) mf_X9_191 rfl dX9_here_5 ?_
  have J13 : ∀ (y12 : Int32) (_ : y12 = (X9_here_x0 gx tn pl)) (H : Heap) (locs : List Loc) (ls : Array Slot), hG D (hA f sz) f s9 H locs → lv_has ls 1 [(0, .ref m)] → W p9 l e9 ({ frames := 0, cells := 0, slots := 0, locals := 0 } : Room) s9 m9 ([.ref m] : List Value).toArray b9 t9 c9 H locs 0 0 (vx_MQ b9 (hQi (fun r u => r = (X9_here_x0 gx tn pl) ∧ u = f) D f sz) (hPx hNo D f sz) ([.ref m] : List Value).toArray s9 0 0 (hA f sz)) (F0 m9 24 ls [.int y12]) := by
    intro y12 ey12 H locs ls G hl
    replace ey12 := Eq.symm ey12
    subst ey12
    exact g_iret C0 G hr dX9_here_24 (Nat.le_of_ble_eq_true rfl) (Nat.le_of_ble_eq_true rfl) (by exact ⟨rfl, rfl⟩)
  refine lv_icmp_ge (tgt := 23) hx hb dX9_here_8 (by decide) (fun c11 => ?_) (fun c11 => ?_)
  · have n15 : tn ≤ pl := (nI_leI (a := tn) (b := pl) (by omega) (by omega)).mp c11
    refine lv_iconst (v := (-1)) hx hb dX9_here_23 (by decide) ?_
    exact J13 (-1) (by rw [X9_here_x0, if_pos c11]) _ _ _ G (lv_sub hl [0] rfl)
  · have n16 : ¬ tn ≤ pl := fun q => c11 ((nI_leI (a := tn) (b := pl) (by omega) (by omega)).mpr q)
    refine lv_aload_n hx hb dX9_here_11 rfl (lv_at hl 0 rfl) ?_
    refine g_get C0 G h_m rfl hiX9 10 (by decide) mf_X9_29 rfl dX9_here_12 ?_
    refine lv_aload_n hx hb dX9_here_15 rfl (lv_at hl 0 rfl) ?_
    refine g_get C0 G h_m rfl hiX9 16 (by decide) mf_X9_194 rfl dX9_here_16 ?_
    refine g_iald C0 G h_tx 0 rfl (vp_in_nI (by omega) (by omega)) dX9_here_19 ?_
    refine lv_topv (v := gx pl) (congrArg gx (nI_c (by omega))) ?_
    refine lv_goto (tgt := 24) hx hb dX9_here_20 (by decide) ?_
    exact J13 (gx pl) (by rw [X9_here_x0, if_neg c11]) _ _ _ G (lv_sub hl [0] rfl)
def X9_element_g0 (gq : Nat → Int32) (what : Int32) (ps : Nat) : Nat → Int32 := upd gq (4 * ps) what
def X9_element_g1 (gq : Nat → Int32) (what : Int32) (p1 : Int32) (ps : Nat) : Nat → Int32 := upd (X9_element_g0 gq what ps) (4 * ps + 1) p1
def X9_element_g2 (gq : Nat → Int32) (what : Int32) (p1 : Int32) (p2 : Int32) (ps : Nat) : Nat → Int32 := upd (X9_element_g1 gq what p1 ps) (4 * ps + 2) p2
def X9_element_g3 (gq : Nat → Int32) (what : Int32) (p1 : Int32) (p2 : Int32) (p3 : Int32) (ps : Nat) : Nat → Int32 := upd (X9_element_g2 gq what p1 p2 ps) (4 * ps + 3) p3
set_option maxRecDepth 100000 in
theorem k_X9_element {l : Launch} (hfl : l.stackTraces = false) {D : va_G} {cy : Nat → ClassId} {f : Hf} {sz : Nat} {m : Nat} {v : Nat} {im : Nat} {kp : Nat} {pa : Nat} {de : Nat} {ide : Nat} {tx : Nat} {pt : Nat} {so : Nat} {mo : Nat} {wh : Nat} {pf : Nat} {c_th : Int32} {c_re : Int32} {c_un : Int32} {c_hi : Int32} {c_tn : Int32} {c_fa : Int32} {c_rf : Int32} {c_pl : Int32} {c_to : Int32} {gq : Nat → Int32} (what : Int32) (p1 : Int32) (p2 : Int32) (p3 : Int32) {ps : Nat} (h_m : f m = some (.inr (11, [.int c_th, .int c_re, .ref v, .ref im, .ref kp, .ref pa, .ref de, .ref ide, .int c_un, .int c_hi, .ref tx, .int c_tn, .int c_fa, .int c_rf, .ref pt, .int (nI ps), .int c_pl, .int c_to, .ref so, .ref mo, .ref wh, .ref pf]))) (h_pt : f pt = some (.inl (cy 0, 240, .inl gq))) (hps : ps < 60) : hMet l yX9_element cX9_element 5 none { frames := 0, cells := 0, slots := 0, locals := 0 } D (hTy cy) f sz [.ref m, .int what, .int p1, .int p2, .int p3] (hQv (fun u => u pt = some (.inl (cy 0, 240, .inl (X9_element_g3 gq what p1 p2 p3 ps))) ∧ u m = some (.inr (11, [.int c_th, .int c_re, .ref v, .ref im, .ref kp, .ref pa, .ref de, .ref ide, .int c_un, .int c_hi, .ref tx, .int c_tn, .int c_fa, .int c_rf, .ref pt, .int (nI (ps + 1)), .int c_pl, .int c_to, .ref so, .ref mo, .ref wh, .ref pf])) ∧ hFrL f u [pt, m]) D f sz) hNo := by
  refine h_enter (by decide) hfl (Nat.le_of_ble_eq_true rfl) ?_
  intro p9 e9 s9 m9 b9 t9 c9 hsz C0 hr hnm G ls hl
  have hx := C0.1.1
  have hb := C0.1.2.1
  have hl : lv_has ls 5 [(0, .ref m), (1, .int what), (2, .int p1), (3, .int p2), (4, .int p3)] := hl
  refine lv_aload_n hx hb dX9_element_0 rfl (lv_at hl 0 rfl) ?_
  refine g_get C0 G h_m rfl hiX9 14 (by decide) mf_X9_39 rfl dX9_element_1 ?_
  refine lv_iconst (v := 4) hx hb dX9_element_4 (by decide) ?_
  refine lv_aload_n hx hb dX9_element_5 rfl (lv_at hl 0 rfl) ?_
  refine g_get C0 G h_m rfl hiX9 15 (by decide) mf_X9_197 rfl dX9_element_6 ?_
  refine lv_imul hx hb dX9_element_9 ?_
  refine lv_topv (v := nI (4 * ps)) ((pk_mul _ _)) ?_
  refine lv_iload_n hx hb dX9_element_10 rfl (lv_at hl 1 rfl) ?_
  refine g_iast C0 G h_pt 0 rfl (vp_in_nI (by omega) (by omega)) dX9_element_11 (fun H locs f11 hf11 G => ?_)
  have k12 : f11 pt = some (.inl (cy 0, 240, .inl (X9_element_g0 gq what ps))) := (by have h9 := hus hf11; rw [nI_c (by omega)] at h9; exact h9)
  refine lv_aload_n hx hb dX9_element_12 rfl (lv_at hl 0 rfl) ?_
  have k13 : f11 m = some (.inr (11, [.int c_th, .int c_re, .ref v, .ref im, .ref kp, .ref pa, .ref de, .ref ide, .int c_un, .int c_hi, .ref tx, .int c_tn, .int c_fa, .int c_rf, .ref pt, .int (nI ps), .int c_pl, .int c_to, .ref so, .ref mo, .ref wh, .ref pf])) := hup hf11 (hne h_m h_pt (by intro q; cases q)) h_m
  refine g_get C0 G k13 rfl hiX9 14 (by decide) mf_X9_39 rfl dX9_element_13 ?_
  refine lv_iconst (v := 4) hx hb dX9_element_16 (by decide) ?_
  refine lv_aload_n hx hb dX9_element_17 rfl (lv_at hl 0 rfl) ?_
  refine g_get C0 G k13 rfl hiX9 15 (by decide) mf_X9_197 rfl dX9_element_18 ?_
  refine lv_imul hx hb dX9_element_21 ?_
  refine lv_topv (v := nI (4 * ps)) ((pk_mul _ _)) ?_
  refine lv_iconst (v := 1) hx hb dX9_element_22 (by decide) ?_
  refine lv_iadd hx hb dX9_element_23 ?_
  refine lv_topv (v := nI (4 * ps + 1)) ((nI_add _ _)) ?_
  refine lv_iload_n hx hb dX9_element_24 rfl (lv_at hl 2 rfl) ?_
  refine g_iast C0 G k12 0 rfl (vp_in_nI (by omega) (by omega)) dX9_element_25 (fun H locs f14 hf14 G => ?_)
  have k15 : f14 pt = some (.inl (cy 0, 240, .inl (X9_element_g1 gq what p1 ps))) := (by have h9 := hus hf14; rw [nI_c (by omega)] at h9; exact h9)
  refine lv_aload_n hx hb dX9_element_26 rfl (lv_at hl 0 rfl) ?_
  have k16 : f14 m = some (.inr (11, [.int c_th, .int c_re, .ref v, .ref im, .ref kp, .ref pa, .ref de, .ref ide, .int c_un, .int c_hi, .ref tx, .int c_tn, .int c_fa, .int c_rf, .ref pt, .int (nI ps), .int c_pl, .int c_to, .ref so, .ref mo, .ref wh, .ref pf])) := hup hf14 (hne k13 k12 (by intro q; cases q)) k13
  refine g_get C0 G k16 rfl hiX9 14 (by decide) mf_X9_39 rfl dX9_element_27 ?_
  refine lv_iconst (v := 4) hx hb dX9_element_30 (by decide) ?_
  refine lv_aload_n hx hb dX9_element_31 rfl (lv_at hl 0 rfl) ?_
  refine g_get C0 G k16 rfl hiX9 15 (by decide) mf_X9_197 rfl dX9_element_32 ?_
  refine lv_imul hx hb dX9_element_35 ?_
  refine lv_topv (v := nI (4 * ps)) ((pk_mul _ _)) ?_
  refine lv_iconst (v := 2) hx hb dX9_element_36 (by decide) ?_
  refine lv_iadd hx hb dX9_element_37 ?_
  refine lv_topv (v := nI (4 * ps + 2)) ((nI_add _ _)) ?_
  refine lv_iload_n hx hb dX9_element_38 rfl (lv_at hl 3 rfl) ?_
  refine g_iast C0 G k15 0 rfl (vp_in_nI (by omega) (by omega)) dX9_element_39 (fun H locs f17 hf17 G => ?_)
  have k18 : f17 pt = some (.inl (cy 0, 240, .inl (X9_element_g2 gq what p1 p2 ps))) := (by have h9 := hus hf17; rw [nI_c (by omega)] at h9; exact h9)
  refine lv_aload_n hx hb dX9_element_40 rfl (lv_at hl 0 rfl) ?_
  have k19 : f17 m = some (.inr (11, [.int c_th, .int c_re, .ref v, .ref im, .ref kp, .ref pa, .ref de, .ref ide, .int c_un, .int c_hi, .ref tx, .int c_tn, .int c_fa, .int c_rf, .ref pt, .int (nI ps), .int c_pl, .int c_to, .ref so, .ref mo, .ref wh, .ref pf])) := hup hf17 (hne k16 k15 (by intro q; cases q)) k16
  refine g_get C0 G k19 rfl hiX9 14 (by decide) mf_X9_39 rfl dX9_element_41 ?_
  refine lv_iconst (v := 4) hx hb dX9_element_44 (by decide) ?_
  refine lv_aload_n hx hb dX9_element_45 rfl (lv_at hl 0 rfl) ?_
  refine g_get C0 G k19 rfl hiX9 15 (by decide) mf_X9_197 rfl dX9_element_46 ?_
  refine lv_imul hx hb dX9_element_49 ?_
  refine lv_topv (v := nI (4 * ps)) ((pk_mul _ _)) ?_
  refine lv_iconst (v := 3) hx hb dX9_element_50 (by decide) ?_
  refine lv_iadd hx hb dX9_element_51 ?_
  refine lv_topv (v := nI (4 * ps + 3)) ((nI_add _ _)) ?_
  refine lv_iload hx hb dX9_element_52 (lv_at hl 4 rfl) ?_
  refine g_iast C0 G k18 0 rfl (vp_in_nI (by omega) (by omega)) dX9_element_54 (fun H locs f20 hf20 G => ?_)
  have k21 : f20 pt = some (.inl (cy 0, 240, .inl (X9_element_g3 gq what p1 p2 p3 ps))) := (by have h9 := hus hf20; rw [nI_c (by omega)] at h9; exact h9)
  refine lv_aload_n hx hb dX9_element_55 rfl (lv_at hl 0 rfl) ?_
  refine lv_dup hx hb dX9_element_56 rfl ?_
  have k22 : f20 m = some (.inr (11, [.int c_th, .int c_re, .ref v, .ref im, .ref kp, .ref pa, .ref de, .ref ide, .int c_un, .int c_hi, .ref tx, .int c_tn, .int c_fa, .int c_rf, .ref pt, .int (nI ps), .int c_pl, .int c_to, .ref so, .ref mo, .ref wh, .ref pf])) := hup hf20 (hne k19 k18 (by intro q; cases q)) k19
  refine g_get C0 G k22 rfl hiX9 15 (by decide) mf_X9_197 rfl dX9_element_57 ?_
  refine lv_iconst (v := 1) hx hb dX9_element_60 (by decide) ?_
  refine lv_iadd hx hb dX9_element_61 ?_
  refine lv_topv (v := nI (ps + 1)) ((nI_add _ _)) ?_
  refine g_put C0 G k22 rfl hiX9 tyX9 tyX9_ok nmX9 15 (by decide) mf_X9_197 rfl rfl rfl rfl (Nat.le_of_ble_eq_true rfl) dX9_element_62 (fun H locs f23 hf23 G => ?_)
  have k24 : f23 m = some (.inr (11, [.int c_th, .int c_re, .ref v, .ref im, .ref kp, .ref pa, .ref de, .ref ide, .int c_un, .int c_hi, .ref tx, .int c_tn, .int c_fa, .int c_rf, .ref pt, .int (nI (ps + 1)), .int c_pl, .int c_to, .ref so, .ref mo, .ref wh, .ref pf])) := hus hf23
  have k25 : f23 pt = some (.inl (cy 0, 240, .inl (X9_element_g3 gq what p1 p2 p3 ps))) := hup hf23 (hne k21 k22 (by intro q; cases q)) k21
  exact g_vret C0 G hr dX9_element_65 (Nat.le_of_ble_eq_true rfl) (Nat.le_of_ble_eq_true rfl) (by exact ⟨k25, k24, (fun a9 e9 h7 h8 => hup hf23 (fun q => h7 (by rw [q]; simp)) (hup hf20 (fun q => h7 (by rw [q]; simp)) (hup hf17 (fun q => h7 (by rw [q]; simp)) (hup hf14 (fun q => h7 (by rw [q]; simp)) (hup hf11 (fun q => h7 (by rw [q]; simp)) (h8))))))⟩)
def X9_follows_r0 (gx : Nat → Int32) (most : Int32) (tn : Nat) (pl : Nat) : Int32 := if (X9_isIn_x1 ((X9_here_x0 gx tn pl) - 48) 1 most) = 0 then 0 else ((X9_here_x0 gx tn pl) - 48)
def X9_follows_x1 (gx : Nat → Int32) (most : Int32) (tn : Nat) (pl : Nat) : Int32 := if (X9_isIn_x1 ((X9_here_x0 gx tn pl) - 48) 1 most) = 0 then (nI pl) else (nI (pl + 1))
set_option maxRecDepth 100000 in
theorem k_X9_follows {l : Launch} (hfl : l.stackTraces = false) {D : va_G} {cy : Nat → ClassId} {f : Hf} {sz : Nat} {m : Nat} {v : Nat} {im : Nat} {kp : Nat} {pa : Nat} {de : Nat} {ide : Nat} {tx : Nat} {pt : Nat} {so : Nat} {mo : Nat} {wh : Nat} {pf : Nat} {c_th : Int32} {c_re : Int32} {c_un : Int32} {c_hi : Int32} {c_fa : Int32} {c_rf : Int32} {c_ps : Int32} {c_to : Int32} {gx : Nat → Int32} (most : Int32) {tn : Nat} {pl : Nat} (h_m : f m = some (.inr (11, [.int c_th, .int c_re, .ref v, .ref im, .ref kp, .ref pa, .ref de, .ref ide, .int c_un, .int c_hi, .ref tx, .int (nI tn), .int c_fa, .int c_rf, .ref pt, .int c_ps, .int (nI pl), .int c_to, .ref so, .ref mo, .ref wh, .ref pf]))) (h_tx : f tx = some (.inl (cy 0, 60, .inl gx))) (htn : tn ≤ 60) (hpl : pl ≤ 60) : hMet l yX9_follows cX9_follows 3 (some .int) { frames := 1, cells := 0, slots := 0, locals := 22 } D (hTy cy) f sz [.ref m, .int most] (hQi (fun r u => r = (X9_follows_r0 gx most tn pl) ∧ u m = some (.inr (11, [.int c_th, .int c_re, .ref v, .ref im, .ref kp, .ref pa, .ref de, .ref ide, .int c_un, .int c_hi, .ref tx, .int (nI tn), .int c_fa, .int c_rf, .ref pt, .int c_ps, .int (X9_follows_x1 gx most tn pl), .int c_to, .ref so, .ref mo, .ref wh, .ref pf])) ∧ hFrL f u [m]) D f sz) hNo := by
  refine h_enter (by decide) hfl (Nat.le_of_ble_eq_true rfl) ?_
  intro p9 e9 s9 m9 b9 t9 c9 hsz C0 hr hnm G ls hl
  have hx := C0.1.1
  have hb := C0.1.2.1
  have hl : lv_has ls 3 [(0, .ref m), (1, .int most)] := hl
  refine lv_aload_n hx hb dX9_follows_0 rfl (lv_at hl 0 rfl) ?_
  refine g_cI C0 G (g_runV C0 G (rest := []) (k_X9_here hfl h_m h_tx htn hpl) h_m rfl hY_X9_here mm_X9_200 mi_X9_here ml_X9_here ⟨(Nat.le_of_ble_eq_true rfl), (Nat.le_of_ble_eq_true rfl)⟩ rfl hl.1 rfl (Nat.le_of_ble_eq_true rfl) dX9_follows_1 ⟨(Nat.le_of_ble_eq_true rfl), (Nat.le_of_ble_eq_true rfl)⟩) (kx_no rfl) (fun r13 u12 H locs hp11 G => ?_)
  obtain ⟨zr, eu12⟩ := hp11
  replace zr := Eq.symm zr
  subst zr
  rw [eu12] at G
  refine lv_bipush (v := 48) hx hb dX9_follows_4 (by decide) ?_
  refine lv_isub hx hb dX9_follows_6 ?_
  refine lv_istore_n (lv' := [(2, .int ((X9_here_x0 gx tn pl) - 48)), (0, .ref m), (1, .int most)]) hx hb dX9_follows_7 rfl hl (by decide) rfl (fun ls hl => ?_)
  refine lv_iload_n hx hb dX9_follows_8 rfl (lv_at hl 0 rfl) ?_
  refine lv_iconst (v := 1) hx hb dX9_follows_9 (by decide) ?_
  refine lv_iload_n hx hb dX9_follows_10 rfl (lv_at hl 2 rfl) ?_
  refine g_cI C0 G (g_runS C0 G (rest := []) (k_X9_isIn hfl ((X9_here_x0 gx tn pl) - 48) 1 most ) hY_X9_isIn mm_X9_76 ms_X9_isIn ⟨(Nat.le_of_ble_eq_true rfl), (Nat.le_of_ble_eq_true rfl)⟩ rfl hl.1 rfl (Nat.le_of_ble_eq_true rfl) dX9_follows_11 ⟨(Nat.le_of_ble_eq_true rfl), (Nat.le_of_ble_eq_true rfl)⟩) (kx_no rfl) (fun r16 u15 H locs hp14 G => ?_)
  obtain ⟨zr, eu15⟩ := hp14
  replace zr := Eq.symm zr
  subst zr
  rw [eu15] at G
  refine lv_if_ne (tgt := 19) hx hb dX9_follows_14 (by decide) (fun c17 => ?_) (fun c17 => ?_)
  · refine lv_aload_n hx hb dX9_follows_19 rfl (lv_at hl 1 rfl) ?_
    refine lv_dup hx hb dX9_follows_20 rfl ?_
    refine g_get C0 G h_m rfl hiX9 16 (by decide) mf_X9_194 rfl dX9_follows_21 ?_
    refine lv_iconst (v := 1) hx hb dX9_follows_24 (by decide) ?_
    refine lv_iadd hx hb dX9_follows_25 ?_
    refine lv_topv (v := nI (pl + 1)) ((nI_add _ _)) ?_
    refine g_put C0 G h_m rfl hiX9 tyX9 tyX9_ok nmX9 16 (by decide) mf_X9_194 rfl rfl rfl rfl (Nat.le_of_ble_eq_true rfl) dX9_follows_26 (fun H locs f18 hf18 G => ?_)
    have k19 : f18 m = some (.inr (11, [.int c_th, .int c_re, .ref v, .ref im, .ref kp, .ref pa, .ref de, .ref ide, .int c_un, .int c_hi, .ref tx, .int (nI tn), .int c_fa, .int c_rf, .ref pt, .int c_ps, .int (nI (pl + 1)), .int c_to, .ref so, .ref mo, .ref wh, .ref pf])) := hus hf18
    refine lv_iload_n hx hb dX9_follows_29 rfl (lv_at hl 0 rfl) ?_
    exact g_iret C0 G hr dX9_follows_30 (Nat.le_of_ble_eq_true rfl) (Nat.le_of_ble_eq_true rfl) (by exact ⟨(by rw [X9_follows_r0, if_neg c17]), (by rw [(by rw [X9_follows_x1, if_neg c17] : (X9_follows_x1 gx most tn pl) = (nI (pl + 1)))]; exact k19), (fun a9 e9 h7 h8 => hup hf18 (fun q => h7 (by rw [q]; simp)) (h8))⟩)
  · refine lv_iconst (v := 0) hx hb dX9_follows_17 (by decide) ?_
    exact g_iret C0 G hr dX9_follows_18 (Nat.le_of_ble_eq_true rfl) (Nat.le_of_ble_eq_true rfl) (by exact ⟨(by rw [X9_follows_r0, if_pos c17]), (by rw [(by rw [X9_follows_x1, if_pos c17] : (X9_follows_x1 gx most tn pl) = (nI pl))]; exact h_m), (fun a9 e9 h7 h8 => h8)⟩)
def X9_isElement_x0 (gx : Nat → Int32) (tn : Nat) (pl : Nat) : Int32 := if (X9_isIn_x1 ((X9_here_x0 gx tn (pl + 1)) - 97) 0 10) = 0 then 0 else 1
def X9_isElement_n1 (gx : Nat → Int32) (tn : Nat) (pl : Nat) : Nat := if (X9_here_x0 gx tn pl) = 76 then 2 else 5
def X9_isElement_n2 (gx : Nat → Int32) (tn : Nat) (pl : Nat) : Nat := if (X9_here_x0 gx tn pl) = 67 then 1 else (X9_isElement_n1 gx tn pl)
def X9_isElement_n3 (gx : Nat → Int32) (tn : Nat) (pl : Nat) : Nat := if (X9_here_x0 gx tn pl) = 87 then 0 else (X9_isElement_n2 gx tn pl)
def X9_isElement_n4 (gx : Nat → Int32) (tn : Nat) (pl : Nat) : Nat := if (X9_here_x0 gx tn pl) = 98 then 3 else 4
def X9_isElement_x5 (gx : Nat → Int32) (tn : Nat) (pl : Nat) : Int32 := if (X9_follows_r0 gx 4 tn (pl + 1)) ≤ 0 then 0 else 1
def X9_isElement_x6 (gx : Nat → Int32) (tn : Nat) (pl : Nat) : Int32 := if (X9_follows_r0 gx 6 tn (pl + 1)) = 6 then 1 else 0
def X9_isElement_x7 (gx : Nat → Int32) (tn : Nat) (pl : Nat) : Int32 := if (X9_follows_r0 gx 6 tn (pl + 1)) = 4 then 1 else (X9_isElement_x6 gx tn pl)
def X9_isElement_x8 (gx : Nat → Int32) (tn : Nat) (pl : Nat) : Int32 := if ((X9_here_x0 gx tn pl) - 48) = 6 then 1 else 0
def X9_isElement_x9 (gx : Nat → Int32) (tn : Nat) (pl : Nat) : Int32 := if ((X9_here_x0 gx tn pl) - 48) = 4 then 1 else (X9_isElement_x8 gx tn pl)
def X9_isElement_x10 (gx : Nat → Int32) (tn : Nat) (pl : Nat) : Int32 := if (X9_isIn_x1 ((X9_here_x0 gx tn pl) - 48) 1 6) = 0 then 1 else 0
def X9_isElement_r11 (gx : Nat → Int32) (tn : Nat) (pl : Nat) : Int32 := if (X9_here_x0 gx tn pl) = 46 then 1 else (if (X9_here_x0 gx tn pl) = 64 then (X9_isIn_x1 ((X9_here_x0 gx tn (pl + 1)) - 97) 0 10) else (if (X9_here_x0 gx tn pl) = 67 then 1 else (if (X9_here_x0 gx tn pl) = 76 then 1 else (if (X9_here_x0 gx tn pl) = 82 then 1 else (if (X9_here_x0 gx tn pl) = 87 then 1 else (if (X9_here_x0 gx tn pl) = 98 then (X9_isElement_x5 gx tn pl) else (if (X9_here_x0 gx tn pl) = 108 then (X9_isElement_x5 gx tn pl) else (if (X9_here_x0 gx tn pl) = 110 then 1 else (if (X9_here_x0 gx tn pl) = 119 then 1 else (X9_isIn_x1 ((X9_here_x0 gx tn pl) - 48) 1 6))))))))))
def X9_isElement_x12 (gx : Nat → Int32) (tn : Nat) (pl : Nat) : Int32 := if (X9_here_x0 gx tn pl) = 46 then (nI (pl + 1)) else (if (X9_here_x0 gx tn pl) = 64 then ((nI (pl + 1)) + (X9_isElement_x0 gx tn pl)) else (if (X9_here_x0 gx tn pl) = 67 then (nI (pl + 1)) else (if (X9_here_x0 gx tn pl) = 76 then (nI (pl + 1)) else (if (X9_here_x0 gx tn pl) = 82 then (nI (pl + 1)) else (if (X9_here_x0 gx tn pl) = 87 then (nI (pl + 1)) else (if (X9_here_x0 gx tn pl) = 98 then (X9_follows_x1 gx 4 tn (pl + 1)) else (if (X9_here_x0 gx tn pl) = 108 then (X9_follows_x1 gx 4 tn (pl + 1)) else (if (X9_here_x0 gx tn pl) = 110 then (X9_follows_x1 gx 6 tn (pl + 1)) else (if (X9_here_x0 gx tn pl) = 119 then (X9_follows_x1 gx 4 tn (pl + 1)) else ((nI (pl + 1)) - (X9_isElement_x10 gx tn pl)))))))))))
def X9_isElement_g13 (gx : Nat → Int32) (gq : Nat → Int32) (tn : Nat) (pl : Nat) (ps : Nat) : Nat → Int32 := if (X9_here_x0 gx tn pl) = 46 then (X9_element_g3 gq 1 0 0 0 ps) else (if (X9_here_x0 gx tn pl) = 64 then (X9_element_g3 gq 0 ((X9_here_x0 gx tn (pl + 1)) - 97) 0 0 ps) else (if (X9_here_x0 gx tn pl) = 67 then (X9_element_g3 gq 2 (nI (X9_isElement_n3 gx tn pl)) 0 0 ps) else (if (X9_here_x0 gx tn pl) = 76 then (X9_element_g3 gq 2 (nI (X9_isElement_n3 gx tn pl)) 0 0 ps) else (if (X9_here_x0 gx tn pl) = 82 then (X9_element_g3 gq 2 (nI (X9_isElement_n3 gx tn pl)) 0 0 ps) else (if (X9_here_x0 gx tn pl) = 87 then (X9_element_g3 gq 2 (nI (X9_isElement_n3 gx tn pl)) 0 0 ps) else (if (X9_here_x0 gx tn pl) = 98 then (X9_element_g3 gq 1 (nI (X9_isElement_n4 gx tn pl)) (X9_follows_r0 gx 4 tn (pl + 1)) 0 ps) else (if (X9_here_x0 gx tn pl) = 108 then (X9_element_g3 gq 1 (nI (X9_isElement_n4 gx tn pl)) (X9_follows_r0 gx 4 tn (pl + 1)) 0 ps) else (if (X9_here_x0 gx tn pl) = 110 then (X9_element_g3 gq 1 2 (X9_follows_r0 gx 6 tn (pl + 1)) (X9_bit_x0 (X9_isElement_x7 gx tn pl)) ps) else (if (X9_here_x0 gx tn pl) = 119 then (X9_element_g3 gq 1 1 (X9_follows_r0 gx 4 tn (pl + 1)) 0 ps) else (X9_element_g3 gq 1 0 ((X9_here_x0 gx tn pl) - 48) (X9_bit_x0 (X9_isElement_x9 gx tn pl)) ps))))))))))
set_option maxHeartbeats 8000000 in
set_option maxRecDepth 100000 in
theorem k_X9_isElement {l : Launch} (hfl : l.stackTraces = false) {D : va_G} {cy : Nat → ClassId} {f : Hf} {sz : Nat} {m : Nat} {v : Nat} {im : Nat} {kp : Nat} {pa : Nat} {de : Nat} {ide : Nat} {tx : Nat} {pt : Nat} {so : Nat} {mo : Nat} {wh : Nat} {pf : Nat} {c_th : Int32} {c_re : Int32} {c_un : Int32} {c_hi : Int32} {c_fa : Int32} {c_rf : Int32} {c_to : Int32} {gx : Nat → Int32} {gq : Nat → Int32} {tn : Nat} {pl : Nat} {ps : Nat} (h_m : f m = some (.inr (11, [.int c_th, .int c_re, .ref v, .ref im, .ref kp, .ref pa, .ref de, .ref ide, .int c_un, .int c_hi, .ref tx, .int (nI tn), .int c_fa, .int c_rf, .ref pt, .int (nI ps), .int (nI pl), .int c_to, .ref so, .ref mo, .ref wh, .ref pf]))) (h_tx : f tx = some (.inl (cy 0, 60, .inl gx))) (h_pt : f pt = some (.inl (cy 0, 240, .inl gq))) (htn : tn ≤ 60) (hpl : pl < 60) (hps : ps < 60) : hMet l yX9_isElement cX9_isElement 3 (some .boolean) { frames := 2, cells := 0, slots := 0, locals := 44 } D (hTy cy) f sz [.ref m] (hQi (fun r u => r = (X9_isElement_r11 gx tn pl) ∧ u m = some (.inr (11, [.int c_th, .int c_re, .ref v, .ref im, .ref kp, .ref pa, .ref de, .ref ide, .int c_un, .int c_hi, .ref tx, .int (nI tn), .int c_fa, .int c_rf, .ref pt, .int (nI (ps + 1)), .int (X9_isElement_x12 gx tn pl), .int c_to, .ref so, .ref mo, .ref wh, .ref pf])) ∧ u pt = some (.inl (cy 0, 240, .inl (X9_isElement_g13 gx gq tn pl ps))) ∧ hFrL f u [m, pt]) D f sz) hNo := by
  refine h_enter (by decide) hfl (Nat.le_of_ble_eq_true rfl) ?_
  intro p9 e9 s9 m9 b9 t9 c9 hsz C0 hr hnm G ls hl
  have hx := C0.1.1
  have hb := C0.1.2.1
  have hl : lv_has ls 3 [(0, .ref m)] := hl
  refine lv_aload_n hx hb dX9_isElement_0 rfl (lv_at hl 0 rfl) ?_
  refine g_cI C0 G (g_runV C0 G (rest := []) (k_X9_here hfl h_m h_tx htn (by omega)) h_m rfl hY_X9_here mm_X9_200 mi_X9_here ml_X9_here ⟨(Nat.le_of_ble_eq_true rfl), (Nat.le_of_ble_eq_true rfl)⟩ rfl hl.1 rfl (Nat.le_of_ble_eq_true rfl) dX9_isElement_1 ⟨(Nat.le_of_ble_eq_true rfl), (Nat.le_of_ble_eq_true rfl)⟩) (kx_no rfl) (fun r13 u12 H locs hp11 G => ?_)
  obtain ⟨zr, eu12⟩ := hp11
  replace zr := Eq.symm zr
  subst zr
  rw [eu12] at G
  refine lv_istore_n (lv' := [(1, .int (X9_here_x0 gx tn pl)), (0, .ref m)]) hx hb dX9_isElement_4 rfl hl (by decide) rfl (fun ls hl => ?_)
  refine lv_aload_n hx hb dX9_isElement_5 rfl (lv_at hl 1 rfl) ?_
  refine lv_dup hx hb dX9_isElement_6 rfl ?_
  refine g_get C0 G h_m rfl hiX9 16 (by decide) mf_X9_194 rfl dX9_isElement_7 ?_
  refine lv_iconst (v := 1) hx hb dX9_isElement_10 (by decide) ?_
  refine lv_iadd hx hb dX9_isElement_11 ?_
  refine lv_topv (v := nI (pl + 1)) ((nI_add _ _)) ?_
  refine g_put C0 G h_m rfl hiX9 tyX9 tyX9_ok nmX9 16 (by decide) mf_X9_194 rfl rfl rfl rfl (Nat.le_of_ble_eq_true rfl) dX9_isElement_12 (fun H locs f14 hf14 G => ?_)
  have k15 : f14 m = some (.inr (11, [.int c_th, .int c_re, .ref v, .ref im, .ref kp, .ref pa, .ref de, .ref ide, .int c_un, .int c_hi, .ref tx, .int (nI tn), .int c_fa, .int c_rf, .ref pt, .int (nI ps), .int (nI (pl + 1)), .int c_to, .ref so, .ref mo, .ref wh, .ref pf])) := hus hf14
  refine lv_iload_n hx hb dX9_isElement_15 rfl (lv_at hl 0 rfl) ?_
  by_cases w16 : (X9_here_x0 gx tn pl) = 46
  · refine lv_lookup (off := 92) (tgt := 108) hx hb dX9_isElement_16 rfl (by show Op.lookupswitch.offset [(46, 92), (64, 225), (67, 185), (76, 185), (82, 185), (87, 185), (98, 151), (108, 151), (110, 116), (119, 102)] 273 ((X9_here_x0 gx tn pl)).toInt = 92; rw [w16]; decide) (by decide) ?_
    refine lv_aload_n hx hb dX9_isElement_108 rfl (lv_at hl 1 rfl) ?_
    refine lv_iconst (v := 1) hx hb dX9_isElement_109 (by decide) ?_
    refine lv_iconst (v := 0) hx hb dX9_isElement_110 (by decide) ?_
    refine lv_iconst (v := 0) hx hb dX9_isElement_111 (by decide) ?_
    refine lv_iconst (v := 0) hx hb dX9_isElement_112 (by decide) ?_
    have k26 : f14 pt = some (.inl (cy 0, 240, .inl gq)) := hup hf14 (hne h_pt h_m (by intro q; cases q)) h_pt
    refine g_cV C0 G (g_runV C0 G (rest := []) (k_X9_element hfl 1 0 0 0 k15 k26 hps) k15 rfl hY_X9_element mm_X9_203 mi_X9_element ml_X9_element ⟨(Nat.le_of_ble_eq_true rfl), (Nat.le_of_ble_eq_true rfl)⟩ rfl hl.1 rfl (Nat.le_of_ble_eq_true rfl) dX9_isElement_113 ⟨(Nat.le_of_ble_eq_true rfl), (Nat.le_of_ble_eq_true rfl)⟩) (kx_no rfl) (fun u28 H locs hp27 G => ?_)
    obtain ⟨k29, k30, fr31⟩ := hp27
    refine lv_iconst (v := 1) hx hb dX9_isElement_116 (by decide) ?_
    exact g_zret C0 G hr dX9_isElement_117 rfl (Nat.le_of_ble_eq_true rfl) (Nat.le_of_ble_eq_true rfl) (by exact ⟨(by rw [X9_isElement_r11, if_pos w16]), (by rw [(by rw [X9_isElement_x12, if_pos w16] : (X9_isElement_x12 gx tn pl) = (nI (pl + 1)))]; exact k30), (by rw [(by rw [X9_isElement_g13, if_pos w16] : (X9_isElement_g13 gx gq tn pl ps) = (X9_element_g3 gq 1 0 0 0 ps))]; exact k29), (fun a9 e9 h7 h8 => fr31 _ _ (fun q => h7 (by simp only [List.mem_cons, List.not_mem_nil, or_false] at q ⊢; first | exact q | (rcases q with q | q <;> simp [q]) | omega)) (hup hf14 (fun q => h7 (by rw [q]; simp)) (h8)))⟩)
  rename ¬ (X9_here_x0 gx tn pl) = 46 => nw16
  by_cases w17 : (X9_here_x0 gx tn pl) = 64
  · refine lv_lookup (off := 225) (tgt := 241) hx hb dX9_isElement_16 rfl (by show Op.lookupswitch.offset [(46, 92), (64, 225), (67, 185), (76, 185), (82, 185), (87, 185), (98, 151), (108, 151), (110, 116), (119, 102)] 273 ((X9_here_x0 gx tn pl)).toInt = 225; rw [lv_osw nw16 (by decide)]; rw [w17]; decide) (by decide) ?_
    refine lv_aload_n hx hb dX9_isElement_241 rfl (lv_at hl 1 rfl) ?_
    have k32 : f14 tx = some (.inl (cy 0, 60, .inl gx)) := hup hf14 (hne h_tx h_m (by intro q; cases q)) h_tx
    refine g_cI C0 G (g_runV C0 G (rest := []) (k_X9_here hfl k15 k32 htn (by omega)) k15 rfl hY_X9_here mm_X9_200 mi_X9_here ml_X9_here ⟨(Nat.le_of_ble_eq_true rfl), (Nat.le_of_ble_eq_true rfl)⟩ rfl hl.1 rfl (Nat.le_of_ble_eq_true rfl) dX9_isElement_242 ⟨(Nat.le_of_ble_eq_true rfl), (Nat.le_of_ble_eq_true rfl)⟩) (kx_no rfl) (fun r35 u34 H locs hp33 G => ?_)
    obtain ⟨zr, eu34⟩ := hp33
    replace zr := Eq.symm zr
    subst zr
    rw [eu34] at G
    refine lv_bipush (v := 97) hx hb dX9_isElement_245 (by decide) ?_
    refine lv_isub hx hb dX9_isElement_247 ?_
    refine lv_istore_n (lv' := [(2, .int ((X9_here_x0 gx tn (pl + 1)) - 97)), (1, .int (X9_here_x0 gx tn pl)), (0, .ref m)]) hx hb dX9_isElement_248 rfl hl (by decide) rfl (fun ls hl => ?_)
    refine lv_aload_n hx hb dX9_isElement_249 rfl (lv_at hl 2 rfl) ?_
    refine lv_iconst (v := 0) hx hb dX9_isElement_250 (by decide) ?_
    refine lv_iload_n hx hb dX9_isElement_251 rfl (lv_at hl 0 rfl) ?_
    refine lv_iconst (v := 0) hx hb dX9_isElement_252 (by decide) ?_
    refine lv_iconst (v := 0) hx hb dX9_isElement_253 (by decide) ?_
    have k36 : f14 pt = some (.inl (cy 0, 240, .inl gq)) := hup hf14 (hne h_pt h_m (by intro q; cases q)) h_pt
    refine g_cV C0 G (g_runV C0 G (rest := []) (k_X9_element hfl 0 ((X9_here_x0 gx tn (pl + 1)) - 97) 0 0 k15 k36 hps) k15 rfl hY_X9_element mm_X9_203 mi_X9_element ml_X9_element ⟨(Nat.le_of_ble_eq_true rfl), (Nat.le_of_ble_eq_true rfl)⟩ rfl hl.1 rfl (Nat.le_of_ble_eq_true rfl) dX9_isElement_254 ⟨(Nat.le_of_ble_eq_true rfl), (Nat.le_of_ble_eq_true rfl)⟩) (kx_no rfl) (fun u38 H locs hp37 G => ?_)
    obtain ⟨k39, k40, fr41⟩ := hp37
    refine lv_aload_n hx hb dX9_isElement_257 rfl (lv_at hl 2 rfl) ?_
    refine lv_dup hx hb dX9_isElement_258 rfl ?_
    refine g_get C0 G k40 rfl hiX9 16 (by decide) mf_X9_194 rfl dX9_isElement_259 ?_
    refine lv_iload_n hx hb dX9_isElement_262 rfl (lv_at hl 0 rfl) ?_
    refine lv_iconst (v := 0) hx hb dX9_isElement_263 (by decide) ?_
    refine lv_bipush (v := 10) hx hb dX9_isElement_264 (by decide) ?_
    refine g_cI C0 G (g_runS C0 G (rest := [.int (nI (pl + 1)), .ref m]) (k_X9_isIn hfl ((X9_here_x0 gx tn (pl + 1)) - 97) 0 10 ) hY_X9_isIn mm_X9_76 ms_X9_isIn ⟨(Nat.le_of_ble_eq_true rfl), (Nat.le_of_ble_eq_true rfl)⟩ rfl hl.1 rfl (Nat.le_of_ble_eq_true rfl) dX9_isElement_266 ⟨(Nat.le_of_ble_eq_true rfl), (Nat.le_of_ble_eq_true rfl)⟩) (kx_no rfl) (fun r44 u43 H locs hp42 G => ?_)
    obtain ⟨zr, eu43⟩ := hp42
    replace zr := Eq.symm zr
    subst zr
    rw [eu43] at G
    have J47 : ∀ (y46 : Int32) (_ : y46 = (X9_isElement_x0 gx tn pl)) (H : Heap) (locs : List Loc) (ls : Array Slot), hG D (hA f sz) u38 s9 H locs → lv_has ls 3 [(2, .int ((X9_here_x0 gx tn (pl + 1)) - 97)), (1, .int (X9_here_x0 gx tn pl)), (0, .ref m)] → W p9 l e9 ({ frames := 2, cells := 0, slots := 0, locals := 44 } : Room) s9 m9 ([.ref m] : List Value).toArray b9 t9 c9 H locs 0 0 (vx_MQ b9 (hQi (fun r u => r = (X9_isElement_r11 gx tn pl) ∧ u m = some (.inr (11, [.int c_th, .int c_re, .ref v, .ref im, .ref kp, .ref pa, .ref de, .ref ide, .int c_un, .int c_hi, .ref tx, .int (nI tn), .int c_fa, .int c_rf, .ref pt, .int (nI (ps + 1)), .int (X9_isElement_x12 gx tn pl), .int c_to, .ref so, .ref mo, .ref wh, .ref pf])) ∧ u pt = some (.inl (cy 0, 240, .inl (X9_isElement_g13 gx gq tn pl ps))) ∧ hFrL f u [m, pt]) D f sz) (hPx hNo D f sz) ([.ref m] : List Value).toArray s9 0 0 (hA f sz)) (F0 m9 277 ls [.int y46, .int (nI (pl + 1)), .ref m]) := by
      intro y46 ey46 H locs ls G hl
      replace ey46 := Eq.symm ey46
      subst ey46
      refine lv_iadd hx hb dX9_isElement_277 ?_
      refine g_put C0 G k40 rfl hiX9 tyX9 tyX9_ok nmX9 16 (by decide) mf_X9_194 rfl rfl rfl rfl (Nat.le_of_ble_eq_true rfl) dX9_isElement_278 (fun H locs f49 hf49 G => ?_)
      have k50 : f49 m = some (.inr (11, [.int c_th, .int c_re, .ref v, .ref im, .ref kp, .ref pa, .ref de, .ref ide, .int c_un, .int c_hi, .ref tx, .int (nI tn), .int c_fa, .int c_rf, .ref pt, .int (nI (ps + 1)), .int ((nI (pl + 1)) + (X9_isElement_x0 gx tn pl)), .int c_to, .ref so, .ref mo, .ref wh, .ref pf])) := hus hf49
      refine lv_iload_n hx hb dX9_isElement_281 rfl (lv_at hl 0 rfl) ?_
      refine lv_iconst (v := 0) hx hb dX9_isElement_282 (by decide) ?_
      refine lv_bipush (v := 10) hx hb dX9_isElement_283 (by decide) ?_
      refine g_cI C0 G (g_runS C0 G (rest := []) (k_X9_isIn hfl ((X9_here_x0 gx tn (pl + 1)) - 97) 0 10 ) hY_X9_isIn mm_X9_76 ms_X9_isIn ⟨(Nat.le_of_ble_eq_true rfl), (Nat.le_of_ble_eq_true rfl)⟩ rfl hl.1 rfl (Nat.le_of_ble_eq_true rfl) dX9_isElement_285 ⟨(Nat.le_of_ble_eq_true rfl), (Nat.le_of_ble_eq_true rfl)⟩) (kx_no rfl) (fun r53 u52 H locs hp51 G => ?_)
      obtain ⟨zr, eu52⟩ := hp51
      replace zr := Eq.symm zr
      subst zr
      rw [eu52] at G
      have k54 : f49 pt = some (.inl (cy 0, 240, .inl (X9_element_g3 gq 0 ((X9_here_x0 gx tn (pl + 1)) - 97) 0 0 ps))) := hup hf49 (hne k39 k40 (by intro q; cases q)) k39
      exact g_zret C0 G hr dX9_isElement_288 (hZb (b_k_X9_isIn ((X9_here_x0 gx tn (pl + 1)) - 97) 0 10)) (Nat.le_of_ble_eq_true rfl) (Nat.le_of_ble_eq_true rfl) (by exact ⟨(by rw [X9_isElement_r11, if_neg nw16, if_pos w17]), (by rw [(by rw [X9_isElement_x12, if_neg nw16, if_pos w17] : (X9_isElement_x12 gx tn pl) = ((nI (pl + 1)) + (X9_isElement_x0 gx tn pl)))]; exact k50), (by rw [(by rw [X9_isElement_g13, if_neg nw16, if_pos w17] : (X9_isElement_g13 gx gq tn pl ps) = (X9_element_g3 gq 0 ((X9_here_x0 gx tn (pl + 1)) - 97) 0 0 ps))]; exact k54), (fun a9 e9 h7 h8 => hup hf49 (fun q => h7 (by rw [q]; simp)) (fr41 _ _ (fun q => h7 (by simp only [List.mem_cons, List.not_mem_nil, or_false] at q ⊢; first | exact q | (rcases q with q | q <;> simp [q]) | omega)) (hup hf14 (fun q => h7 (by rw [q]; simp)) (h8))))⟩)
    refine lv_if_eq (tgt := 276) hx hb dX9_isElement_269 (by decide) (fun c45 => ?_) (fun c45 => ?_)
    · refine lv_iconst (v := 0) hx hb dX9_isElement_276 (by decide) ?_
      exact J47 0 (by rw [X9_isElement_x0, if_pos c45]) _ _ _ G (lv_sub hl [0, 1, 2] rfl)
    · refine lv_iconst (v := 1) hx hb dX9_isElement_272 (by decide) ?_
      refine lv_goto (tgt := 277) hx hb dX9_isElement_273 (by decide) ?_
      exact J47 1 (by rw [X9_isElement_x0, if_neg c45]) _ _ _ G (lv_sub hl [0, 1, 2] rfl)
  rename ¬ (X9_here_x0 gx tn pl) = 64 => nw17
  by_cases w18 : (X9_here_x0 gx tn pl) = 67
  · refine lv_lookup (off := 185) (tgt := 201) hx hb dX9_isElement_16 rfl (by show Op.lookupswitch.offset [(46, 92), (64, 225), (67, 185), (76, 185), (82, 185), (87, 185), (98, 151), (108, 151), (110, 116), (119, 102)] 273 ((X9_here_x0 gx tn pl)).toInt = 185; rw [lv_osw nw16 (by decide), lv_osw nw17 (by decide)]; rw [w18]; decide) (by decide) ?_
    refine lv_aload_n hx hb dX9_isElement_201 rfl (lv_at hl 1 rfl) ?_
    refine lv_iconst (v := 2) hx hb dX9_isElement_202 (by decide) ?_
    refine lv_iload_n hx hb dX9_isElement_203 rfl (lv_at hl 0 rfl) ?_
    refine lv_bipush (v := 87) hx hb dX9_isElement_204 (by decide) ?_
    have J57 : ∀ (y56 : Int32) (_ : y56 = nI (X9_isElement_n3 gx tn pl)) (H : Heap) (locs : List Loc) (ls : Array Slot), hG D (hA f sz) f14 s9 H locs → lv_has ls 3 [(1, .int (X9_here_x0 gx tn pl)), (0, .ref m)] → W p9 l e9 ({ frames := 2, cells := 0, slots := 0, locals := 44 } : Room) s9 m9 ([.ref m] : List Value).toArray b9 t9 c9 H locs 0 0 (vx_MQ b9 (hQi (fun r u => r = (X9_isElement_r11 gx tn pl) ∧ u m = some (.inr (11, [.int c_th, .int c_re, .ref v, .ref im, .ref kp, .ref pa, .ref de, .ref ide, .int c_un, .int c_hi, .ref tx, .int (nI tn), .int c_fa, .int c_rf, .ref pt, .int (nI (ps + 1)), .int (X9_isElement_x12 gx tn pl), .int c_to, .ref so, .ref mo, .ref wh, .ref pf])) ∧ u pt = some (.inl (cy 0, 240, .inl (X9_isElement_g13 gx gq tn pl ps))) ∧ hFrL f u [m, pt]) D f sz) (hPx hNo D f sz) ([.ref m] : List Value).toArray s9 0 0 (hA f sz)) (F0 m9 234 ls [.int y56, .int 2, .ref m]) := by
      intro y56 ey56 H locs ls G hl
      replace ey56 := Eq.symm ey56
      subst ey56
      have bd59 : (X9_isElement_n3 gx tn pl) ≤ 5 := by unfold X9_isElement_n3 X9_isElement_n2 X9_isElement_n1; repeat (first | omega | split)
      refine lv_iconst (v := 0) hx hb dX9_isElement_234 (by decide) ?_
      refine lv_iconst (v := 0) hx hb dX9_isElement_235 (by decide) ?_
      have k60 : f14 pt = some (.inl (cy 0, 240, .inl gq)) := hup hf14 (hne h_pt h_m (by intro q; cases q)) h_pt
      refine g_cV C0 G (g_runV C0 G (rest := []) (k_X9_element hfl 2 (nI (X9_isElement_n3 gx tn pl)) 0 0 k15 k60 hps) k15 rfl hY_X9_element mm_X9_203 mi_X9_element ml_X9_element ⟨(Nat.le_of_ble_eq_true rfl), (Nat.le_of_ble_eq_true rfl)⟩ rfl hl.1 rfl (Nat.le_of_ble_eq_true rfl) dX9_isElement_236 ⟨(Nat.le_of_ble_eq_true rfl), (Nat.le_of_ble_eq_true rfl)⟩) (kx_no rfl) (fun u62 H locs hp61 G => ?_)
      obtain ⟨k63, k64, fr65⟩ := hp61
      refine lv_iconst (v := 1) hx hb dX9_isElement_239 (by decide) ?_
      exact g_zret C0 G hr dX9_isElement_240 rfl (Nat.le_of_ble_eq_true rfl) (Nat.le_of_ble_eq_true rfl) (by exact ⟨(by rw [X9_isElement_r11, if_neg nw16, if_neg nw17, if_pos w18]), (by rw [(by rw [X9_isElement_x12, if_neg nw16, if_neg nw17, if_pos w18] : (X9_isElement_x12 gx tn pl) = (nI (pl + 1)))]; exact k64), (by rw [(by rw [X9_isElement_g13, if_neg nw16, if_neg nw17, if_pos w18] : (X9_isElement_g13 gx gq tn pl ps) = (X9_element_g3 gq 2 (nI (X9_isElement_n3 gx tn pl)) 0 0 ps))]; exact k63), (fun a9 e9 h7 h8 => fr65 _ _ (fun q => h7 (by simp only [List.mem_cons, List.not_mem_nil, or_false] at q ⊢; first | exact q | (rcases q with q | q <;> simp [q]) | omega)) (hup hf14 (fun q => h7 (by rw [q]; simp)) (h8)))⟩)
    refine lv_icmp_ne (tgt := 213) hx hb dX9_isElement_206 (by decide) (fun c55 => ?_) (fun c55 => ?_)
    · refine lv_iload_n hx hb dX9_isElement_213 rfl (lv_at hl 0 rfl) ?_
      refine lv_bipush (v := 67) hx hb dX9_isElement_214 (by decide) ?_
      have J68 : ∀ (y67 : Int32) (_ : y67 = nI (X9_isElement_n2 gx tn pl)) (H : Heap) (locs : List Loc) (ls : Array Slot), hG D (hA f sz) f14 s9 H locs → lv_has ls 3 [(1, .int (X9_here_x0 gx tn pl)), (0, .ref m)] → W p9 l e9 ({ frames := 2, cells := 0, slots := 0, locals := 44 } : Room) s9 m9 ([.ref m] : List Value).toArray b9 t9 c9 H locs 0 0 (vx_MQ b9 (hQi (fun r u => r = (X9_isElement_r11 gx tn pl) ∧ u m = some (.inr (11, [.int c_th, .int c_re, .ref v, .ref im, .ref kp, .ref pa, .ref de, .ref ide, .int c_un, .int c_hi, .ref tx, .int (nI tn), .int c_fa, .int c_rf, .ref pt, .int (nI (ps + 1)), .int (X9_isElement_x12 gx tn pl), .int c_to, .ref so, .ref mo, .ref wh, .ref pf])) ∧ u pt = some (.inl (cy 0, 240, .inl (X9_isElement_g13 gx gq tn pl ps))) ∧ hFrL f u [m, pt]) D f sz) (hPx hNo D f sz) ([.ref m] : List Value).toArray s9 0 0 (hA f sz)) (F0 m9 234 ls [.int y67, .int 2, .ref m]) := by
        intro y67 ey67 H locs ls G hl
        replace ey67 := Eq.symm ey67
        subst ey67
        have bd70 : (X9_isElement_n2 gx tn pl) ≤ 5 := by unfold X9_isElement_n2 X9_isElement_n1; repeat (first | omega | split)
        exact J57 (nI (X9_isElement_n2 gx tn pl)) (by rw [X9_isElement_n3, if_neg c55] <;> rfl) _ _ _ G (lv_sub hl [0, 1] rfl)
      refine lv_icmp_ne (tgt := 223) hx hb dX9_isElement_216 (by decide) (fun c66 => ?_) (fun c66 => ?_)
      · refine lv_iload_n hx hb dX9_isElement_223 rfl (lv_at hl 0 rfl) ?_
        refine lv_bipush (v := 76) hx hb dX9_isElement_224 (by decide) ?_
        have J73 : ∀ (y72 : Int32) (_ : y72 = nI (X9_isElement_n1 gx tn pl)) (H : Heap) (locs : List Loc) (ls : Array Slot), hG D (hA f sz) f14 s9 H locs → lv_has ls 3 [(1, .int (X9_here_x0 gx tn pl)), (0, .ref m)] → W p9 l e9 ({ frames := 2, cells := 0, slots := 0, locals := 44 } : Room) s9 m9 ([.ref m] : List Value).toArray b9 t9 c9 H locs 0 0 (vx_MQ b9 (hQi (fun r u => r = (X9_isElement_r11 gx tn pl) ∧ u m = some (.inr (11, [.int c_th, .int c_re, .ref v, .ref im, .ref kp, .ref pa, .ref de, .ref ide, .int c_un, .int c_hi, .ref tx, .int (nI tn), .int c_fa, .int c_rf, .ref pt, .int (nI (ps + 1)), .int (X9_isElement_x12 gx tn pl), .int c_to, .ref so, .ref mo, .ref wh, .ref pf])) ∧ u pt = some (.inl (cy 0, 240, .inl (X9_isElement_g13 gx gq tn pl ps))) ∧ hFrL f u [m, pt]) D f sz) (hPx hNo D f sz) ([.ref m] : List Value).toArray s9 0 0 (hA f sz)) (F0 m9 234 ls [.int y72, .int 2, .ref m]) := by
          intro y72 ey72 H locs ls G hl
          replace ey72 := Eq.symm ey72
          subst ey72
          have bd75 : (X9_isElement_n1 gx tn pl) ≤ 5 := by unfold X9_isElement_n1; repeat (first | omega | split)
          exact J68 (nI (X9_isElement_n1 gx tn pl)) (by rw [X9_isElement_n2, if_neg c66] <;> rfl) _ _ _ G (lv_sub hl [0, 1] rfl)
        refine lv_icmp_ne (tgt := 233) hx hb dX9_isElement_226 (by decide) (fun c71 => ?_) (fun c71 => ?_)
        · refine lv_iconst (v := 5) hx hb dX9_isElement_233 (by decide) ?_
          exact J73 5 (by rw [X9_isElement_n1, if_neg c71] <;> rfl) _ _ _ G (lv_sub hl [0, 1] rfl)
        · refine lv_iconst (v := 2) hx hb dX9_isElement_229 (by decide) ?_
          refine lv_goto (tgt := 234) hx hb dX9_isElement_230 (by decide) ?_
          exact J73 2 (by rw [X9_isElement_n1, if_pos c71] <;> rfl) _ _ _ G (lv_sub hl [0, 1] rfl)
      · refine lv_iconst (v := 1) hx hb dX9_isElement_219 (by decide) ?_
        refine lv_goto (tgt := 234) hx hb dX9_isElement_220 (by decide) ?_
        exact J68 1 (by rw [X9_isElement_n2, if_pos c66] <;> rfl) _ _ _ G (lv_sub hl [0, 1] rfl)
    · refine lv_iconst (v := 0) hx hb dX9_isElement_209 (by decide) ?_
      refine lv_goto (tgt := 234) hx hb dX9_isElement_210 (by decide) ?_
      exact J57 0 (by rw [X9_isElement_n3, if_pos c55] <;> rfl) _ _ _ G (lv_sub hl [0, 1] rfl)
  rename ¬ (X9_here_x0 gx tn pl) = 67 => nw18
  by_cases w19 : (X9_here_x0 gx tn pl) = 76
  · refine lv_lookup (off := 185) (tgt := 201) hx hb dX9_isElement_16 rfl (by show Op.lookupswitch.offset [(46, 92), (64, 225), (67, 185), (76, 185), (82, 185), (87, 185), (98, 151), (108, 151), (110, 116), (119, 102)] 273 ((X9_here_x0 gx tn pl)).toInt = 185; rw [lv_osw nw16 (by decide), lv_osw nw17 (by decide), lv_osw nw18 (by decide)]; rw [w19]; decide) (by decide) ?_
    refine lv_aload_n hx hb dX9_isElement_201 rfl (lv_at hl 1 rfl) ?_
    refine lv_iconst (v := 2) hx hb dX9_isElement_202 (by decide) ?_
    refine lv_iload_n hx hb dX9_isElement_203 rfl (lv_at hl 0 rfl) ?_
    refine lv_bipush (v := 87) hx hb dX9_isElement_204 (by decide) ?_
    have J78 : ∀ (y77 : Int32) (_ : y77 = nI (X9_isElement_n3 gx tn pl)) (H : Heap) (locs : List Loc) (ls : Array Slot), hG D (hA f sz) f14 s9 H locs → lv_has ls 3 [(1, .int (X9_here_x0 gx tn pl)), (0, .ref m)] → W p9 l e9 ({ frames := 2, cells := 0, slots := 0, locals := 44 } : Room) s9 m9 ([.ref m] : List Value).toArray b9 t9 c9 H locs 0 0 (vx_MQ b9 (hQi (fun r u => r = (X9_isElement_r11 gx tn pl) ∧ u m = some (.inr (11, [.int c_th, .int c_re, .ref v, .ref im, .ref kp, .ref pa, .ref de, .ref ide, .int c_un, .int c_hi, .ref tx, .int (nI tn), .int c_fa, .int c_rf, .ref pt, .int (nI (ps + 1)), .int (X9_isElement_x12 gx tn pl), .int c_to, .ref so, .ref mo, .ref wh, .ref pf])) ∧ u pt = some (.inl (cy 0, 240, .inl (X9_isElement_g13 gx gq tn pl ps))) ∧ hFrL f u [m, pt]) D f sz) (hPx hNo D f sz) ([.ref m] : List Value).toArray s9 0 0 (hA f sz)) (F0 m9 234 ls [.int y77, .int 2, .ref m]) := by
      intro y77 ey77 H locs ls G hl
      replace ey77 := Eq.symm ey77
      subst ey77
      have bd80 : (X9_isElement_n3 gx tn pl) ≤ 5 := by unfold X9_isElement_n3 X9_isElement_n2 X9_isElement_n1; repeat (first | omega | split)
      refine lv_iconst (v := 0) hx hb dX9_isElement_234 (by decide) ?_
      refine lv_iconst (v := 0) hx hb dX9_isElement_235 (by decide) ?_
      have k81 : f14 pt = some (.inl (cy 0, 240, .inl gq)) := hup hf14 (hne h_pt h_m (by intro q; cases q)) h_pt
      refine g_cV C0 G (g_runV C0 G (rest := []) (k_X9_element hfl 2 (nI (X9_isElement_n3 gx tn pl)) 0 0 k15 k81 hps) k15 rfl hY_X9_element mm_X9_203 mi_X9_element ml_X9_element ⟨(Nat.le_of_ble_eq_true rfl), (Nat.le_of_ble_eq_true rfl)⟩ rfl hl.1 rfl (Nat.le_of_ble_eq_true rfl) dX9_isElement_236 ⟨(Nat.le_of_ble_eq_true rfl), (Nat.le_of_ble_eq_true rfl)⟩) (kx_no rfl) (fun u83 H locs hp82 G => ?_)
      obtain ⟨k84, k85, fr86⟩ := hp82
      refine lv_iconst (v := 1) hx hb dX9_isElement_239 (by decide) ?_
      exact g_zret C0 G hr dX9_isElement_240 rfl (Nat.le_of_ble_eq_true rfl) (Nat.le_of_ble_eq_true rfl) (by exact ⟨(by rw [X9_isElement_r11, if_neg nw16, if_neg nw17, if_neg nw18, if_pos w19]), (by rw [(by rw [X9_isElement_x12, if_neg nw16, if_neg nw17, if_neg nw18, if_pos w19] : (X9_isElement_x12 gx tn pl) = (nI (pl + 1)))]; exact k85), (by rw [(by rw [X9_isElement_g13, if_neg nw16, if_neg nw17, if_neg nw18, if_pos w19] : (X9_isElement_g13 gx gq tn pl ps) = (X9_element_g3 gq 2 (nI (X9_isElement_n3 gx tn pl)) 0 0 ps))]; exact k84), (fun a9 e9 h7 h8 => fr86 _ _ (fun q => h7 (by simp only [List.mem_cons, List.not_mem_nil, or_false] at q ⊢; first | exact q | (rcases q with q | q <;> simp [q]) | omega)) (hup hf14 (fun q => h7 (by rw [q]; simp)) (h8)))⟩)
    refine lv_icmp_ne (tgt := 213) hx hb dX9_isElement_206 (by decide) (fun c76 => ?_) (fun c76 => ?_)
    · refine lv_iload_n hx hb dX9_isElement_213 rfl (lv_at hl 0 rfl) ?_
      refine lv_bipush (v := 67) hx hb dX9_isElement_214 (by decide) ?_
      have J89 : ∀ (y88 : Int32) (_ : y88 = nI (X9_isElement_n2 gx tn pl)) (H : Heap) (locs : List Loc) (ls : Array Slot), hG D (hA f sz) f14 s9 H locs → lv_has ls 3 [(1, .int (X9_here_x0 gx tn pl)), (0, .ref m)] → W p9 l e9 ({ frames := 2, cells := 0, slots := 0, locals := 44 } : Room) s9 m9 ([.ref m] : List Value).toArray b9 t9 c9 H locs 0 0 (vx_MQ b9 (hQi (fun r u => r = (X9_isElement_r11 gx tn pl) ∧ u m = some (.inr (11, [.int c_th, .int c_re, .ref v, .ref im, .ref kp, .ref pa, .ref de, .ref ide, .int c_un, .int c_hi, .ref tx, .int (nI tn), .int c_fa, .int c_rf, .ref pt, .int (nI (ps + 1)), .int (X9_isElement_x12 gx tn pl), .int c_to, .ref so, .ref mo, .ref wh, .ref pf])) ∧ u pt = some (.inl (cy 0, 240, .inl (X9_isElement_g13 gx gq tn pl ps))) ∧ hFrL f u [m, pt]) D f sz) (hPx hNo D f sz) ([.ref m] : List Value).toArray s9 0 0 (hA f sz)) (F0 m9 234 ls [.int y88, .int 2, .ref m]) := by
        intro y88 ey88 H locs ls G hl
        replace ey88 := Eq.symm ey88
        subst ey88
        have bd91 : (X9_isElement_n2 gx tn pl) ≤ 5 := by unfold X9_isElement_n2 X9_isElement_n1; repeat (first | omega | split)
        exact J78 (nI (X9_isElement_n2 gx tn pl)) (by rw [X9_isElement_n3, if_neg c76] <;> rfl) _ _ _ G (lv_sub hl [0, 1] rfl)
      refine lv_icmp_ne (tgt := 223) hx hb dX9_isElement_216 (by decide) (fun c87 => ?_) (fun c87 => ?_)
      · refine lv_iload_n hx hb dX9_isElement_223 rfl (lv_at hl 0 rfl) ?_
        refine lv_bipush (v := 76) hx hb dX9_isElement_224 (by decide) ?_
        have J94 : ∀ (y93 : Int32) (_ : y93 = nI (X9_isElement_n1 gx tn pl)) (H : Heap) (locs : List Loc) (ls : Array Slot), hG D (hA f sz) f14 s9 H locs → lv_has ls 3 [(1, .int (X9_here_x0 gx tn pl)), (0, .ref m)] → W p9 l e9 ({ frames := 2, cells := 0, slots := 0, locals := 44 } : Room) s9 m9 ([.ref m] : List Value).toArray b9 t9 c9 H locs 0 0 (vx_MQ b9 (hQi (fun r u => r = (X9_isElement_r11 gx tn pl) ∧ u m = some (.inr (11, [.int c_th, .int c_re, .ref v, .ref im, .ref kp, .ref pa, .ref de, .ref ide, .int c_un, .int c_hi, .ref tx, .int (nI tn), .int c_fa, .int c_rf, .ref pt, .int (nI (ps + 1)), .int (X9_isElement_x12 gx tn pl), .int c_to, .ref so, .ref mo, .ref wh, .ref pf])) ∧ u pt = some (.inl (cy 0, 240, .inl (X9_isElement_g13 gx gq tn pl ps))) ∧ hFrL f u [m, pt]) D f sz) (hPx hNo D f sz) ([.ref m] : List Value).toArray s9 0 0 (hA f sz)) (F0 m9 234 ls [.int y93, .int 2, .ref m]) := by
          intro y93 ey93 H locs ls G hl
          replace ey93 := Eq.symm ey93
          subst ey93
          have bd96 : (X9_isElement_n1 gx tn pl) ≤ 5 := by unfold X9_isElement_n1; repeat (first | omega | split)
          exact J89 (nI (X9_isElement_n1 gx tn pl)) (by rw [X9_isElement_n2, if_neg c87] <;> rfl) _ _ _ G (lv_sub hl [0, 1] rfl)
        refine lv_icmp_ne (tgt := 233) hx hb dX9_isElement_226 (by decide) (fun c92 => ?_) (fun c92 => ?_)
        · refine lv_iconst (v := 5) hx hb dX9_isElement_233 (by decide) ?_
          exact J94 5 (by rw [X9_isElement_n1, if_neg c92] <;> rfl) _ _ _ G (lv_sub hl [0, 1] rfl)
        · refine lv_iconst (v := 2) hx hb dX9_isElement_229 (by decide) ?_
          refine lv_goto (tgt := 234) hx hb dX9_isElement_230 (by decide) ?_
          exact J94 2 (by rw [X9_isElement_n1, if_pos c92] <;> rfl) _ _ _ G (lv_sub hl [0, 1] rfl)
      · refine lv_iconst (v := 1) hx hb dX9_isElement_219 (by decide) ?_
        refine lv_goto (tgt := 234) hx hb dX9_isElement_220 (by decide) ?_
        exact J89 1 (by rw [X9_isElement_n2, if_pos c87] <;> rfl) _ _ _ G (lv_sub hl [0, 1] rfl)
    · refine lv_iconst (v := 0) hx hb dX9_isElement_209 (by decide) ?_
      refine lv_goto (tgt := 234) hx hb dX9_isElement_210 (by decide) ?_
      exact J78 0 (by rw [X9_isElement_n3, if_pos c76] <;> rfl) _ _ _ G (lv_sub hl [0, 1] rfl)
  rename ¬ (X9_here_x0 gx tn pl) = 76 => nw19
  by_cases w20 : (X9_here_x0 gx tn pl) = 82
  · refine lv_lookup (off := 185) (tgt := 201) hx hb dX9_isElement_16 rfl (by show Op.lookupswitch.offset [(46, 92), (64, 225), (67, 185), (76, 185), (82, 185), (87, 185), (98, 151), (108, 151), (110, 116), (119, 102)] 273 ((X9_here_x0 gx tn pl)).toInt = 185; rw [lv_osw nw16 (by decide), lv_osw nw17 (by decide), lv_osw nw18 (by decide), lv_osw nw19 (by decide)]; rw [w20]; decide) (by decide) ?_
    refine lv_aload_n hx hb dX9_isElement_201 rfl (lv_at hl 1 rfl) ?_
    refine lv_iconst (v := 2) hx hb dX9_isElement_202 (by decide) ?_
    refine lv_iload_n hx hb dX9_isElement_203 rfl (lv_at hl 0 rfl) ?_
    refine lv_bipush (v := 87) hx hb dX9_isElement_204 (by decide) ?_
    have J99 : ∀ (y98 : Int32) (_ : y98 = nI (X9_isElement_n3 gx tn pl)) (H : Heap) (locs : List Loc) (ls : Array Slot), hG D (hA f sz) f14 s9 H locs → lv_has ls 3 [(1, .int (X9_here_x0 gx tn pl)), (0, .ref m)] → W p9 l e9 ({ frames := 2, cells := 0, slots := 0, locals := 44 } : Room) s9 m9 ([.ref m] : List Value).toArray b9 t9 c9 H locs 0 0 (vx_MQ b9 (hQi (fun r u => r = (X9_isElement_r11 gx tn pl) ∧ u m = some (.inr (11, [.int c_th, .int c_re, .ref v, .ref im, .ref kp, .ref pa, .ref de, .ref ide, .int c_un, .int c_hi, .ref tx, .int (nI tn), .int c_fa, .int c_rf, .ref pt, .int (nI (ps + 1)), .int (X9_isElement_x12 gx tn pl), .int c_to, .ref so, .ref mo, .ref wh, .ref pf])) ∧ u pt = some (.inl (cy 0, 240, .inl (X9_isElement_g13 gx gq tn pl ps))) ∧ hFrL f u [m, pt]) D f sz) (hPx hNo D f sz) ([.ref m] : List Value).toArray s9 0 0 (hA f sz)) (F0 m9 234 ls [.int y98, .int 2, .ref m]) := by
      intro y98 ey98 H locs ls G hl
      replace ey98 := Eq.symm ey98
      subst ey98
      have bd101 : (X9_isElement_n3 gx tn pl) ≤ 5 := by unfold X9_isElement_n3 X9_isElement_n2 X9_isElement_n1; repeat (first | omega | split)
      refine lv_iconst (v := 0) hx hb dX9_isElement_234 (by decide) ?_
      refine lv_iconst (v := 0) hx hb dX9_isElement_235 (by decide) ?_
      have k102 : f14 pt = some (.inl (cy 0, 240, .inl gq)) := hup hf14 (hne h_pt h_m (by intro q; cases q)) h_pt
      refine g_cV C0 G (g_runV C0 G (rest := []) (k_X9_element hfl 2 (nI (X9_isElement_n3 gx tn pl)) 0 0 k15 k102 hps) k15 rfl hY_X9_element mm_X9_203 mi_X9_element ml_X9_element ⟨(Nat.le_of_ble_eq_true rfl), (Nat.le_of_ble_eq_true rfl)⟩ rfl hl.1 rfl (Nat.le_of_ble_eq_true rfl) dX9_isElement_236 ⟨(Nat.le_of_ble_eq_true rfl), (Nat.le_of_ble_eq_true rfl)⟩) (kx_no rfl) (fun u104 H locs hp103 G => ?_)
      obtain ⟨k105, k106, fr107⟩ := hp103
      refine lv_iconst (v := 1) hx hb dX9_isElement_239 (by decide) ?_
      exact g_zret C0 G hr dX9_isElement_240 rfl (Nat.le_of_ble_eq_true rfl) (Nat.le_of_ble_eq_true rfl) (by exact ⟨(by rw [X9_isElement_r11, if_neg nw16, if_neg nw17, if_neg nw18, if_neg nw19, if_pos w20]), (by rw [(by rw [X9_isElement_x12, if_neg nw16, if_neg nw17, if_neg nw18, if_neg nw19, if_pos w20] : (X9_isElement_x12 gx tn pl) = (nI (pl + 1)))]; exact k106), (by rw [(by rw [X9_isElement_g13, if_neg nw16, if_neg nw17, if_neg nw18, if_neg nw19, if_pos w20] : (X9_isElement_g13 gx gq tn pl ps) = (X9_element_g3 gq 2 (nI (X9_isElement_n3 gx tn pl)) 0 0 ps))]; exact k105), (fun a9 e9 h7 h8 => fr107 _ _ (fun q => h7 (by simp only [List.mem_cons, List.not_mem_nil, or_false] at q ⊢; first | exact q | (rcases q with q | q <;> simp [q]) | omega)) (hup hf14 (fun q => h7 (by rw [q]; simp)) (h8)))⟩)
    refine lv_icmp_ne (tgt := 213) hx hb dX9_isElement_206 (by decide) (fun c97 => ?_) (fun c97 => ?_)
    · refine lv_iload_n hx hb dX9_isElement_213 rfl (lv_at hl 0 rfl) ?_
      refine lv_bipush (v := 67) hx hb dX9_isElement_214 (by decide) ?_
      have J110 : ∀ (y109 : Int32) (_ : y109 = nI (X9_isElement_n2 gx tn pl)) (H : Heap) (locs : List Loc) (ls : Array Slot), hG D (hA f sz) f14 s9 H locs → lv_has ls 3 [(1, .int (X9_here_x0 gx tn pl)), (0, .ref m)] → W p9 l e9 ({ frames := 2, cells := 0, slots := 0, locals := 44 } : Room) s9 m9 ([.ref m] : List Value).toArray b9 t9 c9 H locs 0 0 (vx_MQ b9 (hQi (fun r u => r = (X9_isElement_r11 gx tn pl) ∧ u m = some (.inr (11, [.int c_th, .int c_re, .ref v, .ref im, .ref kp, .ref pa, .ref de, .ref ide, .int c_un, .int c_hi, .ref tx, .int (nI tn), .int c_fa, .int c_rf, .ref pt, .int (nI (ps + 1)), .int (X9_isElement_x12 gx tn pl), .int c_to, .ref so, .ref mo, .ref wh, .ref pf])) ∧ u pt = some (.inl (cy 0, 240, .inl (X9_isElement_g13 gx gq tn pl ps))) ∧ hFrL f u [m, pt]) D f sz) (hPx hNo D f sz) ([.ref m] : List Value).toArray s9 0 0 (hA f sz)) (F0 m9 234 ls [.int y109, .int 2, .ref m]) := by
        intro y109 ey109 H locs ls G hl
        replace ey109 := Eq.symm ey109
        subst ey109
        have bd112 : (X9_isElement_n2 gx tn pl) ≤ 5 := by unfold X9_isElement_n2 X9_isElement_n1; repeat (first | omega | split)
        exact J99 (nI (X9_isElement_n2 gx tn pl)) (by rw [X9_isElement_n3, if_neg c97] <;> rfl) _ _ _ G (lv_sub hl [0, 1] rfl)
      refine lv_icmp_ne (tgt := 223) hx hb dX9_isElement_216 (by decide) (fun c108 => ?_) (fun c108 => ?_)
      · refine lv_iload_n hx hb dX9_isElement_223 rfl (lv_at hl 0 rfl) ?_
        refine lv_bipush (v := 76) hx hb dX9_isElement_224 (by decide) ?_
        have J115 : ∀ (y114 : Int32) (_ : y114 = nI (X9_isElement_n1 gx tn pl)) (H : Heap) (locs : List Loc) (ls : Array Slot), hG D (hA f sz) f14 s9 H locs → lv_has ls 3 [(1, .int (X9_here_x0 gx tn pl)), (0, .ref m)] → W p9 l e9 ({ frames := 2, cells := 0, slots := 0, locals := 44 } : Room) s9 m9 ([.ref m] : List Value).toArray b9 t9 c9 H locs 0 0 (vx_MQ b9 (hQi (fun r u => r = (X9_isElement_r11 gx tn pl) ∧ u m = some (.inr (11, [.int c_th, .int c_re, .ref v, .ref im, .ref kp, .ref pa, .ref de, .ref ide, .int c_un, .int c_hi, .ref tx, .int (nI tn), .int c_fa, .int c_rf, .ref pt, .int (nI (ps + 1)), .int (X9_isElement_x12 gx tn pl), .int c_to, .ref so, .ref mo, .ref wh, .ref pf])) ∧ u pt = some (.inl (cy 0, 240, .inl (X9_isElement_g13 gx gq tn pl ps))) ∧ hFrL f u [m, pt]) D f sz) (hPx hNo D f sz) ([.ref m] : List Value).toArray s9 0 0 (hA f sz)) (F0 m9 234 ls [.int y114, .int 2, .ref m]) := by
          intro y114 ey114 H locs ls G hl
          replace ey114 := Eq.symm ey114
          subst ey114
          have bd117 : (X9_isElement_n1 gx tn pl) ≤ 5 := by unfold X9_isElement_n1; repeat (first | omega | split)
          exact J110 (nI (X9_isElement_n1 gx tn pl)) (by rw [X9_isElement_n2, if_neg c108] <;> rfl) _ _ _ G (lv_sub hl [0, 1] rfl)
        refine lv_icmp_ne (tgt := 233) hx hb dX9_isElement_226 (by decide) (fun c113 => ?_) (fun c113 => ?_)
        · refine lv_iconst (v := 5) hx hb dX9_isElement_233 (by decide) ?_
          exact J115 5 (by rw [X9_isElement_n1, if_neg c113] <;> rfl) _ _ _ G (lv_sub hl [0, 1] rfl)
        · refine lv_iconst (v := 2) hx hb dX9_isElement_229 (by decide) ?_
          refine lv_goto (tgt := 234) hx hb dX9_isElement_230 (by decide) ?_
          exact J115 2 (by rw [X9_isElement_n1, if_pos c113] <;> rfl) _ _ _ G (lv_sub hl [0, 1] rfl)
      · refine lv_iconst (v := 1) hx hb dX9_isElement_219 (by decide) ?_
        refine lv_goto (tgt := 234) hx hb dX9_isElement_220 (by decide) ?_
        exact J110 1 (by rw [X9_isElement_n2, if_pos c108] <;> rfl) _ _ _ G (lv_sub hl [0, 1] rfl)
    · refine lv_iconst (v := 0) hx hb dX9_isElement_209 (by decide) ?_
      refine lv_goto (tgt := 234) hx hb dX9_isElement_210 (by decide) ?_
      exact J99 0 (by rw [X9_isElement_n3, if_pos c97] <;> rfl) _ _ _ G (lv_sub hl [0, 1] rfl)
  rename ¬ (X9_here_x0 gx tn pl) = 82 => nw20
  by_cases w21 : (X9_here_x0 gx tn pl) = 87
  · refine lv_lookup (off := 185) (tgt := 201) hx hb dX9_isElement_16 rfl (by show Op.lookupswitch.offset [(46, 92), (64, 225), (67, 185), (76, 185), (82, 185), (87, 185), (98, 151), (108, 151), (110, 116), (119, 102)] 273 ((X9_here_x0 gx tn pl)).toInt = 185; rw [lv_osw nw16 (by decide), lv_osw nw17 (by decide), lv_osw nw18 (by decide), lv_osw nw19 (by decide), lv_osw nw20 (by decide)]; rw [w21]; decide) (by decide) ?_
    refine lv_aload_n hx hb dX9_isElement_201 rfl (lv_at hl 1 rfl) ?_
    refine lv_iconst (v := 2) hx hb dX9_isElement_202 (by decide) ?_
    refine lv_iload_n hx hb dX9_isElement_203 rfl (lv_at hl 0 rfl) ?_
    refine lv_bipush (v := 87) hx hb dX9_isElement_204 (by decide) ?_
    have J120 : ∀ (y119 : Int32) (_ : y119 = nI (X9_isElement_n3 gx tn pl)) (H : Heap) (locs : List Loc) (ls : Array Slot), hG D (hA f sz) f14 s9 H locs → lv_has ls 3 [(1, .int (X9_here_x0 gx tn pl)), (0, .ref m)] → W p9 l e9 ({ frames := 2, cells := 0, slots := 0, locals := 44 } : Room) s9 m9 ([.ref m] : List Value).toArray b9 t9 c9 H locs 0 0 (vx_MQ b9 (hQi (fun r u => r = (X9_isElement_r11 gx tn pl) ∧ u m = some (.inr (11, [.int c_th, .int c_re, .ref v, .ref im, .ref kp, .ref pa, .ref de, .ref ide, .int c_un, .int c_hi, .ref tx, .int (nI tn), .int c_fa, .int c_rf, .ref pt, .int (nI (ps + 1)), .int (X9_isElement_x12 gx tn pl), .int c_to, .ref so, .ref mo, .ref wh, .ref pf])) ∧ u pt = some (.inl (cy 0, 240, .inl (X9_isElement_g13 gx gq tn pl ps))) ∧ hFrL f u [m, pt]) D f sz) (hPx hNo D f sz) ([.ref m] : List Value).toArray s9 0 0 (hA f sz)) (F0 m9 234 ls [.int y119, .int 2, .ref m]) := by
      intro y119 ey119 H locs ls G hl
      replace ey119 := Eq.symm ey119
      subst ey119
      have bd122 : (X9_isElement_n3 gx tn pl) ≤ 5 := by unfold X9_isElement_n3 X9_isElement_n2 X9_isElement_n1; repeat (first | omega | split)
      refine lv_iconst (v := 0) hx hb dX9_isElement_234 (by decide) ?_
      refine lv_iconst (v := 0) hx hb dX9_isElement_235 (by decide) ?_
      have k123 : f14 pt = some (.inl (cy 0, 240, .inl gq)) := hup hf14 (hne h_pt h_m (by intro q; cases q)) h_pt
      refine g_cV C0 G (g_runV C0 G (rest := []) (k_X9_element hfl 2 (nI (X9_isElement_n3 gx tn pl)) 0 0 k15 k123 hps) k15 rfl hY_X9_element mm_X9_203 mi_X9_element ml_X9_element ⟨(Nat.le_of_ble_eq_true rfl), (Nat.le_of_ble_eq_true rfl)⟩ rfl hl.1 rfl (Nat.le_of_ble_eq_true rfl) dX9_isElement_236 ⟨(Nat.le_of_ble_eq_true rfl), (Nat.le_of_ble_eq_true rfl)⟩) (kx_no rfl) (fun u125 H locs hp124 G => ?_)
      obtain ⟨k126, k127, fr128⟩ := hp124
      refine lv_iconst (v := 1) hx hb dX9_isElement_239 (by decide) ?_
      exact g_zret C0 G hr dX9_isElement_240 rfl (Nat.le_of_ble_eq_true rfl) (Nat.le_of_ble_eq_true rfl) (by exact ⟨(by rw [X9_isElement_r11, if_neg nw16, if_neg nw17, if_neg nw18, if_neg nw19, if_neg nw20, if_pos w21]), (by rw [(by rw [X9_isElement_x12, if_neg nw16, if_neg nw17, if_neg nw18, if_neg nw19, if_neg nw20, if_pos w21] : (X9_isElement_x12 gx tn pl) = (nI (pl + 1)))]; exact k127), (by rw [(by rw [X9_isElement_g13, if_neg nw16, if_neg nw17, if_neg nw18, if_neg nw19, if_neg nw20, if_pos w21] : (X9_isElement_g13 gx gq tn pl ps) = (X9_element_g3 gq 2 (nI (X9_isElement_n3 gx tn pl)) 0 0 ps))]; exact k126), (fun a9 e9 h7 h8 => fr128 _ _ (fun q => h7 (by simp only [List.mem_cons, List.not_mem_nil, or_false] at q ⊢; first | exact q | (rcases q with q | q <;> simp [q]) | omega)) (hup hf14 (fun q => h7 (by rw [q]; simp)) (h8)))⟩)
    refine lv_icmp_ne (tgt := 213) hx hb dX9_isElement_206 (by decide) (fun c118 => ?_) (fun c118 => ?_)
    · refine lv_iload_n hx hb dX9_isElement_213 rfl (lv_at hl 0 rfl) ?_
      refine lv_bipush (v := 67) hx hb dX9_isElement_214 (by decide) ?_
      have J131 : ∀ (y130 : Int32) (_ : y130 = nI (X9_isElement_n2 gx tn pl)) (H : Heap) (locs : List Loc) (ls : Array Slot), hG D (hA f sz) f14 s9 H locs → lv_has ls 3 [(1, .int (X9_here_x0 gx tn pl)), (0, .ref m)] → W p9 l e9 ({ frames := 2, cells := 0, slots := 0, locals := 44 } : Room) s9 m9 ([.ref m] : List Value).toArray b9 t9 c9 H locs 0 0 (vx_MQ b9 (hQi (fun r u => r = (X9_isElement_r11 gx tn pl) ∧ u m = some (.inr (11, [.int c_th, .int c_re, .ref v, .ref im, .ref kp, .ref pa, .ref de, .ref ide, .int c_un, .int c_hi, .ref tx, .int (nI tn), .int c_fa, .int c_rf, .ref pt, .int (nI (ps + 1)), .int (X9_isElement_x12 gx tn pl), .int c_to, .ref so, .ref mo, .ref wh, .ref pf])) ∧ u pt = some (.inl (cy 0, 240, .inl (X9_isElement_g13 gx gq tn pl ps))) ∧ hFrL f u [m, pt]) D f sz) (hPx hNo D f sz) ([.ref m] : List Value).toArray s9 0 0 (hA f sz)) (F0 m9 234 ls [.int y130, .int 2, .ref m]) := by
        intro y130 ey130 H locs ls G hl
        replace ey130 := Eq.symm ey130
        subst ey130
        have bd133 : (X9_isElement_n2 gx tn pl) ≤ 5 := by unfold X9_isElement_n2 X9_isElement_n1; repeat (first | omega | split)
        exact J120 (nI (X9_isElement_n2 gx tn pl)) (by rw [X9_isElement_n3, if_neg c118] <;> rfl) _ _ _ G (lv_sub hl [0, 1] rfl)
      refine lv_icmp_ne (tgt := 223) hx hb dX9_isElement_216 (by decide) (fun c129 => ?_) (fun c129 => ?_)
      · refine lv_iload_n hx hb dX9_isElement_223 rfl (lv_at hl 0 rfl) ?_
        refine lv_bipush (v := 76) hx hb dX9_isElement_224 (by decide) ?_
        have J136 : ∀ (y135 : Int32) (_ : y135 = nI (X9_isElement_n1 gx tn pl)) (H : Heap) (locs : List Loc) (ls : Array Slot), hG D (hA f sz) f14 s9 H locs → lv_has ls 3 [(1, .int (X9_here_x0 gx tn pl)), (0, .ref m)] → W p9 l e9 ({ frames := 2, cells := 0, slots := 0, locals := 44 } : Room) s9 m9 ([.ref m] : List Value).toArray b9 t9 c9 H locs 0 0 (vx_MQ b9 (hQi (fun r u => r = (X9_isElement_r11 gx tn pl) ∧ u m = some (.inr (11, [.int c_th, .int c_re, .ref v, .ref im, .ref kp, .ref pa, .ref de, .ref ide, .int c_un, .int c_hi, .ref tx, .int (nI tn), .int c_fa, .int c_rf, .ref pt, .int (nI (ps + 1)), .int (X9_isElement_x12 gx tn pl), .int c_to, .ref so, .ref mo, .ref wh, .ref pf])) ∧ u pt = some (.inl (cy 0, 240, .inl (X9_isElement_g13 gx gq tn pl ps))) ∧ hFrL f u [m, pt]) D f sz) (hPx hNo D f sz) ([.ref m] : List Value).toArray s9 0 0 (hA f sz)) (F0 m9 234 ls [.int y135, .int 2, .ref m]) := by
          intro y135 ey135 H locs ls G hl
          replace ey135 := Eq.symm ey135
          subst ey135
          have bd138 : (X9_isElement_n1 gx tn pl) ≤ 5 := by unfold X9_isElement_n1; repeat (first | omega | split)
          exact J131 (nI (X9_isElement_n1 gx tn pl)) (by rw [X9_isElement_n2, if_neg c129] <;> rfl) _ _ _ G (lv_sub hl [0, 1] rfl)
        refine lv_icmp_ne (tgt := 233) hx hb dX9_isElement_226 (by decide) (fun c134 => ?_) (fun c134 => ?_)
        · refine lv_iconst (v := 5) hx hb dX9_isElement_233 (by decide) ?_
          exact J136 5 (by rw [X9_isElement_n1, if_neg c134] <;> rfl) _ _ _ G (lv_sub hl [0, 1] rfl)
        · refine lv_iconst (v := 2) hx hb dX9_isElement_229 (by decide) ?_
          refine lv_goto (tgt := 234) hx hb dX9_isElement_230 (by decide) ?_
          exact J136 2 (by rw [X9_isElement_n1, if_pos c134] <;> rfl) _ _ _ G (lv_sub hl [0, 1] rfl)
      · refine lv_iconst (v := 1) hx hb dX9_isElement_219 (by decide) ?_
        refine lv_goto (tgt := 234) hx hb dX9_isElement_220 (by decide) ?_
        exact J131 1 (by rw [X9_isElement_n2, if_pos c129] <;> rfl) _ _ _ G (lv_sub hl [0, 1] rfl)
    · refine lv_iconst (v := 0) hx hb dX9_isElement_209 (by decide) ?_
      refine lv_goto (tgt := 234) hx hb dX9_isElement_210 (by decide) ?_
      exact J120 0 (by rw [X9_isElement_n3, if_pos c118] <;> rfl) _ _ _ G (lv_sub hl [0, 1] rfl)
  rename ¬ (X9_here_x0 gx tn pl) = 87 => nw21
  by_cases w22 : (X9_here_x0 gx tn pl) = 98
  · refine lv_lookup (off := 151) (tgt := 167) hx hb dX9_isElement_16 rfl (by show Op.lookupswitch.offset [(46, 92), (64, 225), (67, 185), (76, 185), (82, 185), (87, 185), (98, 151), (108, 151), (110, 116), (119, 102)] 273 ((X9_here_x0 gx tn pl)).toInt = 151; rw [lv_osw nw16 (by decide), lv_osw nw17 (by decide), lv_osw nw18 (by decide), lv_osw nw19 (by decide), lv_osw nw20 (by decide), lv_osw nw21 (by decide)]; rw [w22]; decide) (by decide) ?_
    refine lv_aload_n hx hb dX9_isElement_167 rfl (lv_at hl 1 rfl) ?_
    refine lv_iconst (v := 4) hx hb dX9_isElement_168 (by decide) ?_
    have k139 : f14 tx = some (.inl (cy 0, 60, .inl gx)) := hup hf14 (hne h_tx h_m (by intro q; cases q)) h_tx
    refine g_cI C0 G (g_runV C0 G (rest := []) (k_X9_follows hfl 4 k15 k139 htn (by omega)) k15 rfl hY_X9_follows mm_X9_207 mi_X9_follows ml_X9_follows ⟨(Nat.le_of_ble_eq_true rfl), (Nat.le_of_ble_eq_true rfl)⟩ rfl hl.1 rfl (Nat.le_of_ble_eq_true rfl) dX9_isElement_169 ⟨(Nat.le_of_ble_eq_true rfl), (Nat.le_of_ble_eq_true rfl)⟩) (kx_no rfl) (fun r142 u141 H locs hp140 G => ?_)
    obtain ⟨zr, k143, fr144⟩ := hp140
    replace zr := Eq.symm zr
    subst zr
    refine lv_istore_n (lv' := [(2, .int (X9_follows_r0 gx 4 tn (pl + 1))), (1, .int (X9_here_x0 gx tn pl)), (0, .ref m)]) hx hb dX9_isElement_172 rfl hl (by decide) rfl (fun ls hl => ?_)
    refine lv_aload_n hx hb dX9_isElement_173 rfl (lv_at hl 2 rfl) ?_
    refine lv_iconst (v := 1) hx hb dX9_isElement_174 (by decide) ?_
    refine lv_iload_n hx hb dX9_isElement_175 rfl (lv_at hl 1 rfl) ?_
    refine lv_bipush (v := 98) hx hb dX9_isElement_176 (by decide) ?_
    have J147 : ∀ (y146 : Int32) (_ : y146 = nI (X9_isElement_n4 gx tn pl)) (H : Heap) (locs : List Loc) (ls : Array Slot), hG D (hA f sz) u141 s9 H locs → lv_has ls 3 [(2, .int (X9_follows_r0 gx 4 tn (pl + 1))), (1, .int (X9_here_x0 gx tn pl)), (0, .ref m)] → W p9 l e9 ({ frames := 2, cells := 0, slots := 0, locals := 44 } : Room) s9 m9 ([.ref m] : List Value).toArray b9 t9 c9 H locs 0 0 (vx_MQ b9 (hQi (fun r u => r = (X9_isElement_r11 gx tn pl) ∧ u m = some (.inr (11, [.int c_th, .int c_re, .ref v, .ref im, .ref kp, .ref pa, .ref de, .ref ide, .int c_un, .int c_hi, .ref tx, .int (nI tn), .int c_fa, .int c_rf, .ref pt, .int (nI (ps + 1)), .int (X9_isElement_x12 gx tn pl), .int c_to, .ref so, .ref mo, .ref wh, .ref pf])) ∧ u pt = some (.inl (cy 0, 240, .inl (X9_isElement_g13 gx gq tn pl ps))) ∧ hFrL f u [m, pt]) D f sz) (hPx hNo D f sz) ([.ref m] : List Value).toArray s9 0 0 (hA f sz)) (F0 m9 186 ls [.int y146, .int 1, .ref m]) := by
      intro y146 ey146 H locs ls G hl
      replace ey146 := Eq.symm ey146
      subst ey146
      have bd149 : (X9_isElement_n4 gx tn pl) ≤ 4 := by unfold X9_isElement_n4; repeat (first | omega | split)
      refine lv_iload_n hx hb dX9_isElement_186 rfl (lv_at hl 0 rfl) ?_
      refine lv_iconst (v := 0) hx hb dX9_isElement_187 (by decide) ?_
      have k150 : u141 pt = some (.inl (cy 0, 240, .inl gq)) := fr144 _ _ (by simp only [List.mem_cons, List.not_mem_nil, or_false]; intro q; exact (hne (hup hf14 (hne h_pt h_m (by intro q; cases q)) h_pt) k15 (by intro q; cases q)) q) (hup hf14 (hne h_pt h_m (by intro q; cases q)) h_pt)
      refine g_cV C0 G (g_runV C0 G (rest := []) (k_X9_element hfl 1 (nI (X9_isElement_n4 gx tn pl)) (X9_follows_r0 gx 4 tn (pl + 1)) 0 k143 k150 hps) k143 rfl hY_X9_element mm_X9_203 mi_X9_element ml_X9_element ⟨(Nat.le_of_ble_eq_true rfl), (Nat.le_of_ble_eq_true rfl)⟩ rfl hl.1 rfl (Nat.le_of_ble_eq_true rfl) dX9_isElement_188 ⟨(Nat.le_of_ble_eq_true rfl), (Nat.le_of_ble_eq_true rfl)⟩) (kx_no rfl) (fun u152 H locs hp151 G => ?_)
      obtain ⟨k153, k154, fr155⟩ := hp151
      refine lv_iload_n hx hb dX9_isElement_191 rfl (lv_at hl 0 rfl) ?_
      have J158 : ∀ (y157 : Int32) (_ : y157 = (X9_isElement_x5 gx tn pl)) (H : Heap) (locs : List Loc) (ls : Array Slot), hG D (hA f sz) u152 s9 H locs → lv_has ls 3 [(2, .int (X9_follows_r0 gx 4 tn (pl + 1))), (1, .int (X9_here_x0 gx tn pl)), (0, .ref m)] → W p9 l e9 ({ frames := 2, cells := 0, slots := 0, locals := 44 } : Room) s9 m9 ([.ref m] : List Value).toArray b9 t9 c9 H locs 0 0 (vx_MQ b9 (hQi (fun r u => r = (X9_isElement_r11 gx tn pl) ∧ u m = some (.inr (11, [.int c_th, .int c_re, .ref v, .ref im, .ref kp, .ref pa, .ref de, .ref ide, .int c_un, .int c_hi, .ref tx, .int (nI tn), .int c_fa, .int c_rf, .ref pt, .int (nI (ps + 1)), .int (X9_isElement_x12 gx tn pl), .int c_to, .ref so, .ref mo, .ref wh, .ref pf])) ∧ u pt = some (.inl (cy 0, 240, .inl (X9_isElement_g13 gx gq tn pl ps))) ∧ hFrL f u [m, pt]) D f sz) (hPx hNo D f sz) ([.ref m] : List Value).toArray s9 0 0 (hA f sz)) (F0 m9 200 ls [.int y157]) := by
        intro y157 ey157 H locs ls G hl
        replace ey157 := Eq.symm ey157
        subst ey157
        exact g_zret C0 G hr dX9_isElement_200 (hZb (by unfold X9_isElement_x5; split; exact (Or.inl rfl); exact (Or.inr rfl))) (Nat.le_of_ble_eq_true rfl) (Nat.le_of_ble_eq_true rfl) (by exact ⟨(by rw [X9_isElement_r11, if_neg nw16, if_neg nw17, if_neg nw18, if_neg nw19, if_neg nw20, if_neg nw21, if_pos w22]), (by rw [(by rw [X9_isElement_x12, if_neg nw16, if_neg nw17, if_neg nw18, if_neg nw19, if_neg nw20, if_neg nw21, if_pos w22] : (X9_isElement_x12 gx tn pl) = (X9_follows_x1 gx 4 tn (pl + 1)))]; exact k154), (by rw [(by rw [X9_isElement_g13, if_neg nw16, if_neg nw17, if_neg nw18, if_neg nw19, if_neg nw20, if_neg nw21, if_pos w22] : (X9_isElement_g13 gx gq tn pl ps) = (X9_element_g3 gq 1 (nI (X9_isElement_n4 gx tn pl)) (X9_follows_r0 gx 4 tn (pl + 1)) 0 ps))]; exact k153), (fun a9 e9 h7 h8 => fr155 _ _ (fun q => h7 (by simp only [List.mem_cons, List.not_mem_nil, or_false] at q ⊢; first | exact q | (rcases q with q | q <;> simp [q]) | omega)) (fr144 _ _ (fun q => h7 (by simp only [List.mem_cons, List.not_mem_nil, or_false] at q ⊢; first | exact q | (rcases q with q <;> simp [q]) | omega)) (hup hf14 (fun q => h7 (by rw [q]; simp)) (h8))))⟩)
      refine lv_if_le (tgt := 199) hx hb dX9_isElement_192 (by decide) (fun c156 => ?_) (fun c156 => ?_)
      · refine lv_iconst (v := 0) hx hb dX9_isElement_199 (by decide) ?_
        exact J158 0 (by rw [X9_isElement_x5, if_pos c156]) _ _ _ G (lv_sub hl [0, 1, 2] rfl)
      · refine lv_iconst (v := 1) hx hb dX9_isElement_195 (by decide) ?_
        refine lv_goto (tgt := 200) hx hb dX9_isElement_196 (by decide) ?_
        exact J158 1 (by rw [X9_isElement_x5, if_neg c156]) _ _ _ G (lv_sub hl [0, 1, 2] rfl)
    refine lv_icmp_ne (tgt := 185) hx hb dX9_isElement_178 (by decide) (fun c145 => ?_) (fun c145 => ?_)
    · refine lv_iconst (v := 4) hx hb dX9_isElement_185 (by decide) ?_
      exact J147 4 (by rw [X9_isElement_n4, if_neg c145] <;> rfl) _ _ _ G (lv_sub hl [0, 1, 2] rfl)
    · refine lv_iconst (v := 3) hx hb dX9_isElement_181 (by decide) ?_
      refine lv_goto (tgt := 186) hx hb dX9_isElement_182 (by decide) ?_
      exact J147 3 (by rw [X9_isElement_n4, if_pos c145] <;> rfl) _ _ _ G (lv_sub hl [0, 1, 2] rfl)
  rename ¬ (X9_here_x0 gx tn pl) = 98 => nw22
  by_cases w23 : (X9_here_x0 gx tn pl) = 108
  · refine lv_lookup (off := 151) (tgt := 167) hx hb dX9_isElement_16 rfl (by show Op.lookupswitch.offset [(46, 92), (64, 225), (67, 185), (76, 185), (82, 185), (87, 185), (98, 151), (108, 151), (110, 116), (119, 102)] 273 ((X9_here_x0 gx tn pl)).toInt = 151; rw [lv_osw nw16 (by decide), lv_osw nw17 (by decide), lv_osw nw18 (by decide), lv_osw nw19 (by decide), lv_osw nw20 (by decide), lv_osw nw21 (by decide), lv_osw nw22 (by decide)]; rw [w23]; decide) (by decide) ?_
    refine lv_aload_n hx hb dX9_isElement_167 rfl (lv_at hl 1 rfl) ?_
    refine lv_iconst (v := 4) hx hb dX9_isElement_168 (by decide) ?_
    have k160 : f14 tx = some (.inl (cy 0, 60, .inl gx)) := hup hf14 (hne h_tx h_m (by intro q; cases q)) h_tx
    refine g_cI C0 G (g_runV C0 G (rest := []) (k_X9_follows hfl 4 k15 k160 htn (by omega)) k15 rfl hY_X9_follows mm_X9_207 mi_X9_follows ml_X9_follows ⟨(Nat.le_of_ble_eq_true rfl), (Nat.le_of_ble_eq_true rfl)⟩ rfl hl.1 rfl (Nat.le_of_ble_eq_true rfl) dX9_isElement_169 ⟨(Nat.le_of_ble_eq_true rfl), (Nat.le_of_ble_eq_true rfl)⟩) (kx_no rfl) (fun r163 u162 H locs hp161 G => ?_)
    obtain ⟨zr, k164, fr165⟩ := hp161
    replace zr := Eq.symm zr
    subst zr
    refine lv_istore_n (lv' := [(2, .int (X9_follows_r0 gx 4 tn (pl + 1))), (1, .int (X9_here_x0 gx tn pl)), (0, .ref m)]) hx hb dX9_isElement_172 rfl hl (by decide) rfl (fun ls hl => ?_)
    refine lv_aload_n hx hb dX9_isElement_173 rfl (lv_at hl 2 rfl) ?_
    refine lv_iconst (v := 1) hx hb dX9_isElement_174 (by decide) ?_
    refine lv_iload_n hx hb dX9_isElement_175 rfl (lv_at hl 1 rfl) ?_
    refine lv_bipush (v := 98) hx hb dX9_isElement_176 (by decide) ?_
    have J168 : ∀ (y167 : Int32) (_ : y167 = nI (X9_isElement_n4 gx tn pl)) (H : Heap) (locs : List Loc) (ls : Array Slot), hG D (hA f sz) u162 s9 H locs → lv_has ls 3 [(2, .int (X9_follows_r0 gx 4 tn (pl + 1))), (1, .int (X9_here_x0 gx tn pl)), (0, .ref m)] → W p9 l e9 ({ frames := 2, cells := 0, slots := 0, locals := 44 } : Room) s9 m9 ([.ref m] : List Value).toArray b9 t9 c9 H locs 0 0 (vx_MQ b9 (hQi (fun r u => r = (X9_isElement_r11 gx tn pl) ∧ u m = some (.inr (11, [.int c_th, .int c_re, .ref v, .ref im, .ref kp, .ref pa, .ref de, .ref ide, .int c_un, .int c_hi, .ref tx, .int (nI tn), .int c_fa, .int c_rf, .ref pt, .int (nI (ps + 1)), .int (X9_isElement_x12 gx tn pl), .int c_to, .ref so, .ref mo, .ref wh, .ref pf])) ∧ u pt = some (.inl (cy 0, 240, .inl (X9_isElement_g13 gx gq tn pl ps))) ∧ hFrL f u [m, pt]) D f sz) (hPx hNo D f sz) ([.ref m] : List Value).toArray s9 0 0 (hA f sz)) (F0 m9 186 ls [.int y167, .int 1, .ref m]) := by
      intro y167 ey167 H locs ls G hl
      replace ey167 := Eq.symm ey167
      subst ey167
      have bd170 : (X9_isElement_n4 gx tn pl) ≤ 4 := by unfold X9_isElement_n4; repeat (first | omega | split)
      refine lv_iload_n hx hb dX9_isElement_186 rfl (lv_at hl 0 rfl) ?_
      refine lv_iconst (v := 0) hx hb dX9_isElement_187 (by decide) ?_
      have k171 : u162 pt = some (.inl (cy 0, 240, .inl gq)) := fr165 _ _ (by simp only [List.mem_cons, List.not_mem_nil, or_false]; intro q; exact (hne (hup hf14 (hne h_pt h_m (by intro q; cases q)) h_pt) k15 (by intro q; cases q)) q) (hup hf14 (hne h_pt h_m (by intro q; cases q)) h_pt)
      refine g_cV C0 G (g_runV C0 G (rest := []) (k_X9_element hfl 1 (nI (X9_isElement_n4 gx tn pl)) (X9_follows_r0 gx 4 tn (pl + 1)) 0 k164 k171 hps) k164 rfl hY_X9_element mm_X9_203 mi_X9_element ml_X9_element ⟨(Nat.le_of_ble_eq_true rfl), (Nat.le_of_ble_eq_true rfl)⟩ rfl hl.1 rfl (Nat.le_of_ble_eq_true rfl) dX9_isElement_188 ⟨(Nat.le_of_ble_eq_true rfl), (Nat.le_of_ble_eq_true rfl)⟩) (kx_no rfl) (fun u173 H locs hp172 G => ?_)
      obtain ⟨k174, k175, fr176⟩ := hp172
      refine lv_iload_n hx hb dX9_isElement_191 rfl (lv_at hl 0 rfl) ?_
      have J179 : ∀ (y178 : Int32) (_ : y178 = (X9_isElement_x5 gx tn pl)) (H : Heap) (locs : List Loc) (ls : Array Slot), hG D (hA f sz) u173 s9 H locs → lv_has ls 3 [(2, .int (X9_follows_r0 gx 4 tn (pl + 1))), (1, .int (X9_here_x0 gx tn pl)), (0, .ref m)] → W p9 l e9 ({ frames := 2, cells := 0, slots := 0, locals := 44 } : Room) s9 m9 ([.ref m] : List Value).toArray b9 t9 c9 H locs 0 0 (vx_MQ b9 (hQi (fun r u => r = (X9_isElement_r11 gx tn pl) ∧ u m = some (.inr (11, [.int c_th, .int c_re, .ref v, .ref im, .ref kp, .ref pa, .ref de, .ref ide, .int c_un, .int c_hi, .ref tx, .int (nI tn), .int c_fa, .int c_rf, .ref pt, .int (nI (ps + 1)), .int (X9_isElement_x12 gx tn pl), .int c_to, .ref so, .ref mo, .ref wh, .ref pf])) ∧ u pt = some (.inl (cy 0, 240, .inl (X9_isElement_g13 gx gq tn pl ps))) ∧ hFrL f u [m, pt]) D f sz) (hPx hNo D f sz) ([.ref m] : List Value).toArray s9 0 0 (hA f sz)) (F0 m9 200 ls [.int y178]) := by
        intro y178 ey178 H locs ls G hl
        replace ey178 := Eq.symm ey178
        subst ey178
        exact g_zret C0 G hr dX9_isElement_200 (hZb (by unfold X9_isElement_x5; split; exact (Or.inl rfl); exact (Or.inr rfl))) (Nat.le_of_ble_eq_true rfl) (Nat.le_of_ble_eq_true rfl) (by exact ⟨(by rw [X9_isElement_r11, if_neg nw16, if_neg nw17, if_neg nw18, if_neg nw19, if_neg nw20, if_neg nw21, if_neg nw22, if_pos w23]), (by rw [(by rw [X9_isElement_x12, if_neg nw16, if_neg nw17, if_neg nw18, if_neg nw19, if_neg nw20, if_neg nw21, if_neg nw22, if_pos w23] : (X9_isElement_x12 gx tn pl) = (X9_follows_x1 gx 4 tn (pl + 1)))]; exact k175), (by rw [(by rw [X9_isElement_g13, if_neg nw16, if_neg nw17, if_neg nw18, if_neg nw19, if_neg nw20, if_neg nw21, if_neg nw22, if_pos w23] : (X9_isElement_g13 gx gq tn pl ps) = (X9_element_g3 gq 1 (nI (X9_isElement_n4 gx tn pl)) (X9_follows_r0 gx 4 tn (pl + 1)) 0 ps))]; exact k174), (fun a9 e9 h7 h8 => fr176 _ _ (fun q => h7 (by simp only [List.mem_cons, List.not_mem_nil, or_false] at q ⊢; first | exact q | (rcases q with q | q <;> simp [q]) | omega)) (fr165 _ _ (fun q => h7 (by simp only [List.mem_cons, List.not_mem_nil, or_false] at q ⊢; first | exact q | (rcases q with q <;> simp [q]) | omega)) (hup hf14 (fun q => h7 (by rw [q]; simp)) (h8))))⟩)
      refine lv_if_le (tgt := 199) hx hb dX9_isElement_192 (by decide) (fun c177 => ?_) (fun c177 => ?_)
      · refine lv_iconst (v := 0) hx hb dX9_isElement_199 (by decide) ?_
        exact J179 0 (by rw [X9_isElement_x5, if_pos c177]) _ _ _ G (lv_sub hl [0, 1, 2] rfl)
      · refine lv_iconst (v := 1) hx hb dX9_isElement_195 (by decide) ?_
        refine lv_goto (tgt := 200) hx hb dX9_isElement_196 (by decide) ?_
        exact J179 1 (by rw [X9_isElement_x5, if_neg c177]) _ _ _ G (lv_sub hl [0, 1, 2] rfl)
    refine lv_icmp_ne (tgt := 185) hx hb dX9_isElement_178 (by decide) (fun c166 => ?_) (fun c166 => ?_)
    · refine lv_iconst (v := 4) hx hb dX9_isElement_185 (by decide) ?_
      exact J168 4 (by rw [X9_isElement_n4, if_neg c166] <;> rfl) _ _ _ G (lv_sub hl [0, 1, 2] rfl)
    · refine lv_iconst (v := 3) hx hb dX9_isElement_181 (by decide) ?_
      refine lv_goto (tgt := 186) hx hb dX9_isElement_182 (by decide) ?_
      exact J168 3 (by rw [X9_isElement_n4, if_pos c166] <;> rfl) _ _ _ G (lv_sub hl [0, 1, 2] rfl)
  rename ¬ (X9_here_x0 gx tn pl) = 108 => nw23
  by_cases w24 : (X9_here_x0 gx tn pl) = 110
  · refine lv_lookup (off := 116) (tgt := 132) hx hb dX9_isElement_16 rfl (by show Op.lookupswitch.offset [(46, 92), (64, 225), (67, 185), (76, 185), (82, 185), (87, 185), (98, 151), (108, 151), (110, 116), (119, 102)] 273 ((X9_here_x0 gx tn pl)).toInt = 116; rw [lv_osw nw16 (by decide), lv_osw nw17 (by decide), lv_osw nw18 (by decide), lv_osw nw19 (by decide), lv_osw nw20 (by decide), lv_osw nw21 (by decide), lv_osw nw22 (by decide), lv_osw nw23 (by decide)]; rw [w24]; decide) (by decide) ?_
    refine lv_aload_n hx hb dX9_isElement_132 rfl (lv_at hl 1 rfl) ?_
    refine lv_bipush (v := 6) hx hb dX9_isElement_133 (by decide) ?_
    have k181 : f14 tx = some (.inl (cy 0, 60, .inl gx)) := hup hf14 (hne h_tx h_m (by intro q; cases q)) h_tx
    refine g_cI C0 G (g_runV C0 G (rest := []) (k_X9_follows hfl 6 k15 k181 htn (by omega)) k15 rfl hY_X9_follows mm_X9_207 mi_X9_follows ml_X9_follows ⟨(Nat.le_of_ble_eq_true rfl), (Nat.le_of_ble_eq_true rfl)⟩ rfl hl.1 rfl (Nat.le_of_ble_eq_true rfl) dX9_isElement_135 ⟨(Nat.le_of_ble_eq_true rfl), (Nat.le_of_ble_eq_true rfl)⟩) (kx_no rfl) (fun r184 u183 H locs hp182 G => ?_)
    obtain ⟨zr, k185, fr186⟩ := hp182
    replace zr := Eq.symm zr
    subst zr
    refine lv_istore_n (lv' := [(2, .int (X9_follows_r0 gx 6 tn (pl + 1))), (1, .int (X9_here_x0 gx tn pl)), (0, .ref m)]) hx hb dX9_isElement_138 rfl hl (by decide) rfl (fun ls hl => ?_)
    refine lv_aload_n hx hb dX9_isElement_139 rfl (lv_at hl 2 rfl) ?_
    refine lv_iconst (v := 1) hx hb dX9_isElement_140 (by decide) ?_
    refine lv_iconst (v := 2) hx hb dX9_isElement_141 (by decide) ?_
    refine lv_iload_n hx hb dX9_isElement_142 rfl (lv_at hl 0 rfl) ?_
    refine lv_iload_n hx hb dX9_isElement_143 rfl (lv_at hl 0 rfl) ?_
    refine lv_iconst (v := 4) hx hb dX9_isElement_144 (by decide) ?_
    have J189 : ∀ (y188 : Int32) (_ : y188 = (X9_isElement_x7 gx tn pl)) (H : Heap) (locs : List Loc) (ls : Array Slot), hG D (hA f sz) u183 s9 H locs → lv_has ls 3 [(2, .int (X9_follows_r0 gx 6 tn (pl + 1))), (1, .int (X9_here_x0 gx tn pl)), (0, .ref m)] → W p9 l e9 ({ frames := 2, cells := 0, slots := 0, locals := 44 } : Room) s9 m9 ([.ref m] : List Value).toArray b9 t9 c9 H locs 0 0 (vx_MQ b9 (hQi (fun r u => r = (X9_isElement_r11 gx tn pl) ∧ u m = some (.inr (11, [.int c_th, .int c_re, .ref v, .ref im, .ref kp, .ref pa, .ref de, .ref ide, .int c_un, .int c_hi, .ref tx, .int (nI tn), .int c_fa, .int c_rf, .ref pt, .int (nI (ps + 1)), .int (X9_isElement_x12 gx tn pl), .int c_to, .ref so, .ref mo, .ref wh, .ref pf])) ∧ u pt = some (.inl (cy 0, 240, .inl (X9_isElement_g13 gx gq tn pl ps))) ∧ hFrL f u [m, pt]) D f sz) (hPx hNo D f sz) ([.ref m] : List Value).toArray s9 0 0 (hA f sz)) (F0 m9 159 ls [.int y188, .int (X9_follows_r0 gx 6 tn (pl + 1)), .int 2, .int 1, .ref m]) := by
      intro y188 ey188 H locs ls G hl
      replace ey188 := Eq.symm ey188
      subst ey188
      refine g_cI C0 G (g_runS C0 G (rest := [.int (X9_follows_r0 gx 6 tn (pl + 1)), .int 2, .int 1, .ref m]) (k_X9_bit hfl (X9_isElement_x7 gx tn pl)  (by unfold X9_isElement_x7; split; exact (Or.inr rfl); exact (by unfold X9_isElement_x6; split; exact (Or.inr rfl); exact (Or.inl rfl)))) hY_X9_bit mm_X9_187 ms_X9_bit ⟨(Nat.le_of_ble_eq_true rfl), (Nat.le_of_ble_eq_true rfl)⟩ rfl hl.1 rfl (Nat.le_of_ble_eq_true rfl) dX9_isElement_159 ⟨(Nat.le_of_ble_eq_true rfl), (Nat.le_of_ble_eq_true rfl)⟩) (kx_no rfl) (fun r193 u192 H locs hp191 G => ?_)
      obtain ⟨zr, eu192⟩ := hp191
      replace zr := Eq.symm zr
      subst zr
      rw [eu192] at G
      have k194 : u183 pt = some (.inl (cy 0, 240, .inl gq)) := fr186 _ _ (by simp only [List.mem_cons, List.not_mem_nil, or_false]; intro q; exact (hne (hup hf14 (hne h_pt h_m (by intro q; cases q)) h_pt) k15 (by intro q; cases q)) q) (hup hf14 (hne h_pt h_m (by intro q; cases q)) h_pt)
      refine g_cV C0 G (g_runV C0 G (rest := []) (k_X9_element hfl 1 2 (X9_follows_r0 gx 6 tn (pl + 1)) (X9_bit_x0 (X9_isElement_x7 gx tn pl)) k185 k194 hps) k185 rfl hY_X9_element mm_X9_203 mi_X9_element ml_X9_element ⟨(Nat.le_of_ble_eq_true rfl), (Nat.le_of_ble_eq_true rfl)⟩ rfl hl.1 rfl (Nat.le_of_ble_eq_true rfl) dX9_isElement_162 ⟨(Nat.le_of_ble_eq_true rfl), (Nat.le_of_ble_eq_true rfl)⟩) (kx_no rfl) (fun u196 H locs hp195 G => ?_)
      obtain ⟨k197, k198, fr199⟩ := hp195
      refine lv_iconst (v := 1) hx hb dX9_isElement_165 (by decide) ?_
      exact g_zret C0 G hr dX9_isElement_166 rfl (Nat.le_of_ble_eq_true rfl) (Nat.le_of_ble_eq_true rfl) (by exact ⟨(by rw [X9_isElement_r11, if_neg nw16, if_neg nw17, if_neg nw18, if_neg nw19, if_neg nw20, if_neg nw21, if_neg nw22, if_neg nw23, if_pos w24]), (by rw [(by rw [X9_isElement_x12, if_neg nw16, if_neg nw17, if_neg nw18, if_neg nw19, if_neg nw20, if_neg nw21, if_neg nw22, if_neg nw23, if_pos w24] : (X9_isElement_x12 gx tn pl) = (X9_follows_x1 gx 6 tn (pl + 1)))]; exact k198), (by rw [(by rw [X9_isElement_g13, if_neg nw16, if_neg nw17, if_neg nw18, if_neg nw19, if_neg nw20, if_neg nw21, if_neg nw22, if_neg nw23, if_pos w24] : (X9_isElement_g13 gx gq tn pl ps) = (X9_element_g3 gq 1 2 (X9_follows_r0 gx 6 tn (pl + 1)) (X9_bit_x0 (X9_isElement_x7 gx tn pl)) ps))]; exact k197), (fun a9 e9 h7 h8 => fr199 _ _ (fun q => h7 (by simp only [List.mem_cons, List.not_mem_nil, or_false] at q ⊢; first | exact q | (rcases q with q | q <;> simp [q]) | omega)) (fr186 _ _ (fun q => h7 (by simp only [List.mem_cons, List.not_mem_nil, or_false] at q ⊢; first | exact q | (rcases q with q <;> simp [q]) | omega)) (hup hf14 (fun q => h7 (by rw [q]; simp)) (h8))))⟩)
    refine lv_icmp_eq (tgt := 154) hx hb dX9_isElement_145 (by decide) (fun c187 => ?_) (fun c187 => ?_)
    · refine lv_iconst (v := 1) hx hb dX9_isElement_154 (by decide) ?_
      refine lv_goto (tgt := 159) hx hb dX9_isElement_155 (by decide) ?_
      exact J189 1 (by rw [X9_isElement_x7, if_pos c187]) _ _ _ G (lv_sub hl [0, 1, 2] rfl)
    · refine lv_iload_n hx hb dX9_isElement_148 rfl (lv_at hl 0 rfl) ?_
      refine lv_bipush (v := 6) hx hb dX9_isElement_149 (by decide) ?_
      have J202 : ∀ (y201 : Int32) (_ : y201 = (X9_isElement_x6 gx tn pl)) (H : Heap) (locs : List Loc) (ls : Array Slot), hG D (hA f sz) u183 s9 H locs → lv_has ls 3 [(2, .int (X9_follows_r0 gx 6 tn (pl + 1))), (1, .int (X9_here_x0 gx tn pl)), (0, .ref m)] → W p9 l e9 ({ frames := 2, cells := 0, slots := 0, locals := 44 } : Room) s9 m9 ([.ref m] : List Value).toArray b9 t9 c9 H locs 0 0 (vx_MQ b9 (hQi (fun r u => r = (X9_isElement_r11 gx tn pl) ∧ u m = some (.inr (11, [.int c_th, .int c_re, .ref v, .ref im, .ref kp, .ref pa, .ref de, .ref ide, .int c_un, .int c_hi, .ref tx, .int (nI tn), .int c_fa, .int c_rf, .ref pt, .int (nI (ps + 1)), .int (X9_isElement_x12 gx tn pl), .int c_to, .ref so, .ref mo, .ref wh, .ref pf])) ∧ u pt = some (.inl (cy 0, 240, .inl (X9_isElement_g13 gx gq tn pl ps))) ∧ hFrL f u [m, pt]) D f sz) (hPx hNo D f sz) ([.ref m] : List Value).toArray s9 0 0 (hA f sz)) (F0 m9 159 ls [.int y201, .int (X9_follows_r0 gx 6 tn (pl + 1)), .int 2, .int 1, .ref m]) := by
        intro y201 ey201 H locs ls G hl
        replace ey201 := Eq.symm ey201
        subst ey201
        exact J189 (X9_isElement_x6 gx tn pl) (by rw [X9_isElement_x7, if_neg c187]) _ _ _ G (lv_sub hl [0, 1, 2] rfl)
      refine lv_icmp_ne (tgt := 158) hx hb dX9_isElement_151 (by decide) (fun c200 => ?_) (fun c200 => ?_)
      · refine lv_iconst (v := 0) hx hb dX9_isElement_158 (by decide) ?_
        exact J202 0 (by rw [X9_isElement_x6, if_neg c200]) _ _ _ G (lv_sub hl [0, 1, 2] rfl)
      · refine lv_iconst (v := 1) hx hb dX9_isElement_154 (by decide) ?_
        refine lv_goto (tgt := 159) hx hb dX9_isElement_155 (by decide) ?_
        exact J202 1 (by rw [X9_isElement_x6, if_pos c200]) _ _ _ G (lv_sub hl [0, 1, 2] rfl)
  rename ¬ (X9_here_x0 gx tn pl) = 110 => nw24
  by_cases w25 : (X9_here_x0 gx tn pl) = 119
  · refine lv_lookup (off := 102) (tgt := 118) hx hb dX9_isElement_16 rfl (by show Op.lookupswitch.offset [(46, 92), (64, 225), (67, 185), (76, 185), (82, 185), (87, 185), (98, 151), (108, 151), (110, 116), (119, 102)] 273 ((X9_here_x0 gx tn pl)).toInt = 102; rw [lv_osw nw16 (by decide), lv_osw nw17 (by decide), lv_osw nw18 (by decide), lv_osw nw19 (by decide), lv_osw nw20 (by decide), lv_osw nw21 (by decide), lv_osw nw22 (by decide), lv_osw nw23 (by decide), lv_osw nw24 (by decide)]; rw [w25]; decide) (by decide) ?_
    refine lv_aload_n hx hb dX9_isElement_118 rfl (lv_at hl 1 rfl) ?_
    refine lv_iconst (v := 1) hx hb dX9_isElement_119 (by decide) ?_
    refine lv_iconst (v := 1) hx hb dX9_isElement_120 (by decide) ?_
    refine lv_aload_n hx hb dX9_isElement_121 rfl (lv_at hl 1 rfl) ?_
    refine lv_iconst (v := 4) hx hb dX9_isElement_122 (by decide) ?_
    have k204 : f14 tx = some (.inl (cy 0, 60, .inl gx)) := hup hf14 (hne h_tx h_m (by intro q; cases q)) h_tx
    refine g_cI C0 G (g_runV C0 G (rest := [.int 1, .int 1, .ref m]) (k_X9_follows hfl 4 k15 k204 htn (by omega)) k15 rfl hY_X9_follows mm_X9_207 mi_X9_follows ml_X9_follows ⟨(Nat.le_of_ble_eq_true rfl), (Nat.le_of_ble_eq_true rfl)⟩ rfl hl.1 rfl (Nat.le_of_ble_eq_true rfl) dX9_isElement_123 ⟨(Nat.le_of_ble_eq_true rfl), (Nat.le_of_ble_eq_true rfl)⟩) (kx_no rfl) (fun r207 u206 H locs hp205 G => ?_)
    obtain ⟨zr, k208, fr209⟩ := hp205
    replace zr := Eq.symm zr
    subst zr
    refine lv_iconst (v := 0) hx hb dX9_isElement_126 (by decide) ?_
    have k210 : u206 pt = some (.inl (cy 0, 240, .inl gq)) := fr209 _ _ (by simp only [List.mem_cons, List.not_mem_nil, or_false]; intro q; exact (hne (hup hf14 (hne h_pt h_m (by intro q; cases q)) h_pt) k15 (by intro q; cases q)) q) (hup hf14 (hne h_pt h_m (by intro q; cases q)) h_pt)
    refine g_cV C0 G (g_runV C0 G (rest := []) (k_X9_element hfl 1 1 (X9_follows_r0 gx 4 tn (pl + 1)) 0 k208 k210 hps) k208 rfl hY_X9_element mm_X9_203 mi_X9_element ml_X9_element ⟨(Nat.le_of_ble_eq_true rfl), (Nat.le_of_ble_eq_true rfl)⟩ rfl hl.1 rfl (Nat.le_of_ble_eq_true rfl) dX9_isElement_127 ⟨(Nat.le_of_ble_eq_true rfl), (Nat.le_of_ble_eq_true rfl)⟩) (kx_no rfl) (fun u212 H locs hp211 G => ?_)
    obtain ⟨k213, k214, fr215⟩ := hp211
    refine lv_iconst (v := 1) hx hb dX9_isElement_130 (by decide) ?_
    exact g_zret C0 G hr dX9_isElement_131 rfl (Nat.le_of_ble_eq_true rfl) (Nat.le_of_ble_eq_true rfl) (by exact ⟨(by rw [X9_isElement_r11, if_neg nw16, if_neg nw17, if_neg nw18, if_neg nw19, if_neg nw20, if_neg nw21, if_neg nw22, if_neg nw23, if_neg nw24, if_pos w25]), (by rw [(by rw [X9_isElement_x12, if_neg nw16, if_neg nw17, if_neg nw18, if_neg nw19, if_neg nw20, if_neg nw21, if_neg nw22, if_neg nw23, if_neg nw24, if_pos w25] : (X9_isElement_x12 gx tn pl) = (X9_follows_x1 gx 4 tn (pl + 1)))]; exact k214), (by rw [(by rw [X9_isElement_g13, if_neg nw16, if_neg nw17, if_neg nw18, if_neg nw19, if_neg nw20, if_neg nw21, if_neg nw22, if_neg nw23, if_neg nw24, if_pos w25] : (X9_isElement_g13 gx gq tn pl ps) = (X9_element_g3 gq 1 1 (X9_follows_r0 gx 4 tn (pl + 1)) 0 ps))]; exact k213), (fun a9 e9 h7 h8 => fr215 _ _ (fun q => h7 (by simp only [List.mem_cons, List.not_mem_nil, or_false] at q ⊢; first | exact q | (rcases q with q | q <;> simp [q]) | omega)) (fr209 _ _ (fun q => h7 (by simp only [List.mem_cons, List.not_mem_nil, or_false] at q ⊢; first | exact q | (rcases q with q <;> simp [q]) | omega)) (hup hf14 (fun q => h7 (by rw [q]; simp)) (h8))))⟩)
  rename ¬ (X9_here_x0 gx tn pl) = 119 => nw25
  refine lv_lookup (off := 273) (tgt := 289) hx hb dX9_isElement_16 rfl (by show Op.lookupswitch.offset [(46, 92), (64, 225), (67, 185), (76, 185), (82, 185), (87, 185), (98, 151), (108, 151), (110, 116), (119, 102)] 273 ((X9_here_x0 gx tn pl)).toInt = 273; rw [lv_osw nw16 (by decide), lv_osw nw17 (by decide), lv_osw nw18 (by decide), lv_osw nw19 (by decide), lv_osw nw20 (by decide), lv_osw nw21 (by decide), lv_osw nw22 (by decide), lv_osw nw23 (by decide), lv_osw nw24 (by decide), lv_osw nw25 (by decide)]; rfl) (by decide) ?_
  refine lv_iload_n hx hb dX9_isElement_289 rfl (lv_at hl 0 rfl) ?_
  refine lv_bipush (v := 48) hx hb dX9_isElement_290 (by decide) ?_
  refine lv_isub hx hb dX9_isElement_292 ?_
  refine lv_istore_n (lv' := [(2, .int ((X9_here_x0 gx tn pl) - 48)), (1, .int (X9_here_x0 gx tn pl)), (0, .ref m)]) hx hb dX9_isElement_293 rfl hl (by decide) rfl (fun ls hl => ?_)
  refine lv_aload_n hx hb dX9_isElement_294 rfl (lv_at hl 2 rfl) ?_
  refine lv_iconst (v := 1) hx hb dX9_isElement_295 (by decide) ?_
  refine lv_iconst (v := 0) hx hb dX9_isElement_296 (by decide) ?_
  refine lv_iload_n hx hb dX9_isElement_297 rfl (lv_at hl 0 rfl) ?_
  refine lv_iload_n hx hb dX9_isElement_298 rfl (lv_at hl 0 rfl) ?_
  refine lv_iconst (v := 4) hx hb dX9_isElement_299 (by decide) ?_
  have J218 : ∀ (y217 : Int32) (_ : y217 = (X9_isElement_x9 gx tn pl)) (H : Heap) (locs : List Loc) (ls : Array Slot), hG D (hA f sz) f14 s9 H locs → lv_has ls 3 [(2, .int ((X9_here_x0 gx tn pl) - 48)), (1, .int (X9_here_x0 gx tn pl)), (0, .ref m)] → W p9 l e9 ({ frames := 2, cells := 0, slots := 0, locals := 44 } : Room) s9 m9 ([.ref m] : List Value).toArray b9 t9 c9 H locs 0 0 (vx_MQ b9 (hQi (fun r u => r = (X9_isElement_r11 gx tn pl) ∧ u m = some (.inr (11, [.int c_th, .int c_re, .ref v, .ref im, .ref kp, .ref pa, .ref de, .ref ide, .int c_un, .int c_hi, .ref tx, .int (nI tn), .int c_fa, .int c_rf, .ref pt, .int (nI (ps + 1)), .int (X9_isElement_x12 gx tn pl), .int c_to, .ref so, .ref mo, .ref wh, .ref pf])) ∧ u pt = some (.inl (cy 0, 240, .inl (X9_isElement_g13 gx gq tn pl ps))) ∧ hFrL f u [m, pt]) D f sz) (hPx hNo D f sz) ([.ref m] : List Value).toArray s9 0 0 (hA f sz)) (F0 m9 314 ls [.int y217, .int ((X9_here_x0 gx tn pl) - 48), .int 0, .int 1, .ref m]) := by
    intro y217 ey217 H locs ls G hl
    replace ey217 := Eq.symm ey217
    subst ey217
    refine g_cI C0 G (g_runS C0 G (rest := [.int ((X9_here_x0 gx tn pl) - 48), .int 0, .int 1, .ref m]) (k_X9_bit hfl (X9_isElement_x9 gx tn pl)  (by unfold X9_isElement_x9; split; exact (Or.inr rfl); exact (by unfold X9_isElement_x8; split; exact (Or.inr rfl); exact (Or.inl rfl)))) hY_X9_bit mm_X9_187 ms_X9_bit ⟨(Nat.le_of_ble_eq_true rfl), (Nat.le_of_ble_eq_true rfl)⟩ rfl hl.1 rfl (Nat.le_of_ble_eq_true rfl) dX9_isElement_314 ⟨(Nat.le_of_ble_eq_true rfl), (Nat.le_of_ble_eq_true rfl)⟩) (kx_no rfl) (fun r222 u221 H locs hp220 G => ?_)
    obtain ⟨zr, eu221⟩ := hp220
    replace zr := Eq.symm zr
    subst zr
    rw [eu221] at G
    have k223 : f14 pt = some (.inl (cy 0, 240, .inl gq)) := hup hf14 (hne h_pt h_m (by intro q; cases q)) h_pt
    refine g_cV C0 G (g_runV C0 G (rest := []) (k_X9_element hfl 1 0 ((X9_here_x0 gx tn pl) - 48) (X9_bit_x0 (X9_isElement_x9 gx tn pl)) k15 k223 hps) k15 rfl hY_X9_element mm_X9_203 mi_X9_element ml_X9_element ⟨(Nat.le_of_ble_eq_true rfl), (Nat.le_of_ble_eq_true rfl)⟩ rfl hl.1 rfl (Nat.le_of_ble_eq_true rfl) dX9_isElement_317 ⟨(Nat.le_of_ble_eq_true rfl), (Nat.le_of_ble_eq_true rfl)⟩) (kx_no rfl) (fun u225 H locs hp224 G => ?_)
    obtain ⟨k226, k227, fr228⟩ := hp224
    refine lv_aload_n hx hb dX9_isElement_320 rfl (lv_at hl 2 rfl) ?_
    refine lv_dup hx hb dX9_isElement_321 rfl ?_
    refine g_get C0 G k227 rfl hiX9 16 (by decide) mf_X9_194 rfl dX9_isElement_322 ?_
    refine lv_iload_n hx hb dX9_isElement_325 rfl (lv_at hl 0 rfl) ?_
    refine lv_iconst (v := 1) hx hb dX9_isElement_326 (by decide) ?_
    refine lv_bipush (v := 6) hx hb dX9_isElement_327 (by decide) ?_
    refine g_cI C0 G (g_runS C0 G (rest := [.int (nI (pl + 1)), .ref m]) (k_X9_isIn hfl ((X9_here_x0 gx tn pl) - 48) 1 6 ) hY_X9_isIn mm_X9_76 ms_X9_isIn ⟨(Nat.le_of_ble_eq_true rfl), (Nat.le_of_ble_eq_true rfl)⟩ rfl hl.1 rfl (Nat.le_of_ble_eq_true rfl) dX9_isElement_329 ⟨(Nat.le_of_ble_eq_true rfl), (Nat.le_of_ble_eq_true rfl)⟩) (kx_no rfl) (fun r231 u230 H locs hp229 G => ?_)
    obtain ⟨zr, eu230⟩ := hp229
    replace zr := Eq.symm zr
    subst zr
    rw [eu230] at G
    have J234 : ∀ (y233 : Int32) (_ : y233 = (X9_isElement_x10 gx tn pl)) (H : Heap) (locs : List Loc) (ls : Array Slot), hG D (hA f sz) u225 s9 H locs → lv_has ls 3 [(2, .int ((X9_here_x0 gx tn pl) - 48)), (1, .int (X9_here_x0 gx tn pl)), (0, .ref m)] → W p9 l e9 ({ frames := 2, cells := 0, slots := 0, locals := 44 } : Room) s9 m9 ([.ref m] : List Value).toArray b9 t9 c9 H locs 0 0 (vx_MQ b9 (hQi (fun r u => r = (X9_isElement_r11 gx tn pl) ∧ u m = some (.inr (11, [.int c_th, .int c_re, .ref v, .ref im, .ref kp, .ref pa, .ref de, .ref ide, .int c_un, .int c_hi, .ref tx, .int (nI tn), .int c_fa, .int c_rf, .ref pt, .int (nI (ps + 1)), .int (X9_isElement_x12 gx tn pl), .int c_to, .ref so, .ref mo, .ref wh, .ref pf])) ∧ u pt = some (.inl (cy 0, 240, .inl (X9_isElement_g13 gx gq tn pl ps))) ∧ hFrL f u [m, pt]) D f sz) (hPx hNo D f sz) ([.ref m] : List Value).toArray s9 0 0 (hA f sz)) (F0 m9 340 ls [.int y233, .int (nI (pl + 1)), .ref m]) := by
      intro y233 ey233 H locs ls G hl
      replace ey233 := Eq.symm ey233
      subst ey233
      refine lv_isub hx hb dX9_isElement_340 ?_
      refine g_put C0 G k227 rfl hiX9 tyX9 tyX9_ok nmX9 16 (by decide) mf_X9_194 rfl rfl rfl rfl (Nat.le_of_ble_eq_true rfl) dX9_isElement_341 (fun H locs f236 hf236 G => ?_)
      have k237 : f236 m = some (.inr (11, [.int c_th, .int c_re, .ref v, .ref im, .ref kp, .ref pa, .ref de, .ref ide, .int c_un, .int c_hi, .ref tx, .int (nI tn), .int c_fa, .int c_rf, .ref pt, .int (nI (ps + 1)), .int ((nI (pl + 1)) - (X9_isElement_x10 gx tn pl)), .int c_to, .ref so, .ref mo, .ref wh, .ref pf])) := hus hf236
      refine lv_iload_n hx hb dX9_isElement_344 rfl (lv_at hl 0 rfl) ?_
      refine lv_iconst (v := 1) hx hb dX9_isElement_345 (by decide) ?_
      refine lv_bipush (v := 6) hx hb dX9_isElement_346 (by decide) ?_
      refine g_cI C0 G (g_runS C0 G (rest := []) (k_X9_isIn hfl ((X9_here_x0 gx tn pl) - 48) 1 6 ) hY_X9_isIn mm_X9_76 ms_X9_isIn ⟨(Nat.le_of_ble_eq_true rfl), (Nat.le_of_ble_eq_true rfl)⟩ rfl hl.1 rfl (Nat.le_of_ble_eq_true rfl) dX9_isElement_348 ⟨(Nat.le_of_ble_eq_true rfl), (Nat.le_of_ble_eq_true rfl)⟩) (kx_no rfl) (fun r240 u239 H locs hp238 G => ?_)
      obtain ⟨zr, eu239⟩ := hp238
      replace zr := Eq.symm zr
      subst zr
      rw [eu239] at G
      have k241 : f236 pt = some (.inl (cy 0, 240, .inl (X9_element_g3 gq 1 0 ((X9_here_x0 gx tn pl) - 48) (X9_bit_x0 (X9_isElement_x9 gx tn pl)) ps))) := hup hf236 (hne k226 k227 (by intro q; cases q)) k226
      exact g_zret C0 G hr dX9_isElement_351 (hZb (b_k_X9_isIn ((X9_here_x0 gx tn pl) - 48) 1 6)) (Nat.le_of_ble_eq_true rfl) (Nat.le_of_ble_eq_true rfl) (by exact ⟨(by rw [X9_isElement_r11, if_neg nw16, if_neg nw17, if_neg nw18, if_neg nw19, if_neg nw20, if_neg nw21, if_neg nw22, if_neg nw23, if_neg nw24, if_neg nw25]), (by rw [(by rw [X9_isElement_x12, if_neg nw16, if_neg nw17, if_neg nw18, if_neg nw19, if_neg nw20, if_neg nw21, if_neg nw22, if_neg nw23, if_neg nw24, if_neg nw25] : (X9_isElement_x12 gx tn pl) = ((nI (pl + 1)) - (X9_isElement_x10 gx tn pl)))]; exact k237), (by rw [(by rw [X9_isElement_g13, if_neg nw16, if_neg nw17, if_neg nw18, if_neg nw19, if_neg nw20, if_neg nw21, if_neg nw22, if_neg nw23, if_neg nw24, if_neg nw25] : (X9_isElement_g13 gx gq tn pl ps) = (X9_element_g3 gq 1 0 ((X9_here_x0 gx tn pl) - 48) (X9_bit_x0 (X9_isElement_x9 gx tn pl)) ps))]; exact k241), (fun a9 e9 h7 h8 => hup hf236 (fun q => h7 (by rw [q]; simp)) (fr228 _ _ (fun q => h7 (by simp only [List.mem_cons, List.not_mem_nil, or_false] at q ⊢; first | exact q | (rcases q with q | q <;> simp [q]) | omega)) (hup hf14 (fun q => h7 (by rw [q]; simp)) (h8))))⟩)
    refine lv_if_eq (tgt := 339) hx hb dX9_isElement_332 (by decide) (fun c232 => ?_) (fun c232 => ?_)
    · refine lv_iconst (v := 1) hx hb dX9_isElement_339 (by decide) ?_
      exact J234 1 (by rw [X9_isElement_x10, if_pos c232]) _ _ _ G (lv_sub hl [0, 1, 2] rfl)
    · refine lv_iconst (v := 0) hx hb dX9_isElement_335 (by decide) ?_
      refine lv_goto (tgt := 340) hx hb dX9_isElement_336 (by decide) ?_
      exact J234 0 (by rw [X9_isElement_x10, if_neg c232]) _ _ _ G (lv_sub hl [0, 1, 2] rfl)
  refine lv_icmp_eq (tgt := 309) hx hb dX9_isElement_300 (by decide) (fun c216 => ?_) (fun c216 => ?_)
  · refine lv_iconst (v := 1) hx hb dX9_isElement_309 (by decide) ?_
    refine lv_goto (tgt := 314) hx hb dX9_isElement_310 (by decide) ?_
    exact J218 1 (by rw [X9_isElement_x9, if_pos c216]) _ _ _ G (lv_sub hl [0, 1, 2] rfl)
  · refine lv_iload_n hx hb dX9_isElement_303 rfl (lv_at hl 0 rfl) ?_
    refine lv_bipush (v := 6) hx hb dX9_isElement_304 (by decide) ?_
    have J244 : ∀ (y243 : Int32) (_ : y243 = (X9_isElement_x8 gx tn pl)) (H : Heap) (locs : List Loc) (ls : Array Slot), hG D (hA f sz) f14 s9 H locs → lv_has ls 3 [(2, .int ((X9_here_x0 gx tn pl) - 48)), (1, .int (X9_here_x0 gx tn pl)), (0, .ref m)] → W p9 l e9 ({ frames := 2, cells := 0, slots := 0, locals := 44 } : Room) s9 m9 ([.ref m] : List Value).toArray b9 t9 c9 H locs 0 0 (vx_MQ b9 (hQi (fun r u => r = (X9_isElement_r11 gx tn pl) ∧ u m = some (.inr (11, [.int c_th, .int c_re, .ref v, .ref im, .ref kp, .ref pa, .ref de, .ref ide, .int c_un, .int c_hi, .ref tx, .int (nI tn), .int c_fa, .int c_rf, .ref pt, .int (nI (ps + 1)), .int (X9_isElement_x12 gx tn pl), .int c_to, .ref so, .ref mo, .ref wh, .ref pf])) ∧ u pt = some (.inl (cy 0, 240, .inl (X9_isElement_g13 gx gq tn pl ps))) ∧ hFrL f u [m, pt]) D f sz) (hPx hNo D f sz) ([.ref m] : List Value).toArray s9 0 0 (hA f sz)) (F0 m9 314 ls [.int y243, .int ((X9_here_x0 gx tn pl) - 48), .int 0, .int 1, .ref m]) := by
      intro y243 ey243 H locs ls G hl
      replace ey243 := Eq.symm ey243
      subst ey243
      exact J218 (X9_isElement_x8 gx tn pl) (by rw [X9_isElement_x9, if_neg c216]) _ _ _ G (lv_sub hl [0, 1, 2] rfl)
    refine lv_icmp_ne (tgt := 313) hx hb dX9_isElement_306 (by decide) (fun c242 => ?_) (fun c242 => ?_)
    · refine lv_iconst (v := 0) hx hb dX9_isElement_313 (by decide) ?_
      exact J244 0 (by rw [X9_isElement_x8, if_neg c242]) _ _ _ G (lv_sub hl [0, 1, 2] rfl)
    · refine lv_iconst (v := 1) hx hb dX9_isElement_309 (by decide) ?_
      refine lv_goto (tgt := 314) hx hb dX9_isElement_310 (by decide) ?_
      exact J244 1 (by rw [X9_isElement_x8, if_pos c242]) _ _ _ G (lv_sub hl [0, 1, 2] rfl)
theorem b_k_X9_isElement (gx : Nat → Int32) (tn : Nat) (pl : Nat) : (X9_isElement_r11 gx tn pl) = 0 ∨ (X9_isElement_r11 gx tn pl) = 1 := (by unfold X9_isElement_r11; split; exact (Or.inr rfl); exact (by split; exact (b_k_X9_isIn ((X9_here_x0 gx tn (pl + 1)) - 97) 0 10); exact (by split; exact (Or.inr rfl); exact (by split; exact (Or.inr rfl); exact (by split; exact (Or.inr rfl); exact (by split; exact (Or.inr rfl); exact (by split; exact (by unfold X9_isElement_x5; split; exact (Or.inl rfl); exact (Or.inr rfl)); exact (by split; exact (by unfold X9_isElement_x5; split; exact (Or.inl rfl); exact (Or.inr rfl)); exact (by split; exact (Or.inr rfl); exact (by split; exact (Or.inr rfl); exact (b_k_X9_isIn ((X9_here_x0 gx tn pl) - 48) 1 6)))))))))))
