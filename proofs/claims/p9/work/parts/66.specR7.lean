set_option maxRecDepth 100000 in
theorem k_X9_thrown {l : Launch} (hfl : l.stackTraces = false) {D : va_G} {cy : Nat → ClassId} {f : Hf} {sz : Nat} {m : Nat} {v : Nat} {im : Nat} {kp : Nat} {pa : Nat} {de : Nat} {ide : Nat} {tx : Nat} {pt : Nat} {so : Nat} {mo : Nat} {wh : Nat} {pf : Nat} {c_th : Int32} {c_re : Int32} {c_un : Int32} {c_hi : Int32} {c_tn : Int32} {c_fa : Int32} {c_rf : Int32} {c_ps : Int32} {c_pl : Int32} {c_to : Int32} (h_m : f m = some (.inr (11, [.int c_th, .int c_re, .ref v, .ref im, .ref kp, .ref pa, .ref de, .ref ide, .int c_un, .int c_hi, .ref tx, .int c_tn, .int c_fa, .int c_rf, .ref pt, .int c_ps, .int c_pl, .int c_to, .ref so, .ref mo, .ref wh, .ref pf])))  : hMet l yX9_thrown cX9_thrown 1 (some .int) { frames := 0, cells := 0, slots := 0, locals := 0 } D (hTy cy) f sz [.ref m] (hQi (fun r u => r = c_th ∧ u = f) D f sz) hNo := by
  refine h_enter (by decide) hfl (Nat.le_of_ble_eq_true rfl) ?_
  intro p9 e9 s9 m9 b9 t9 c9 hsz C0 hr hnm G ls hl
  have hx := C0.1.1
  have hb := C0.1.2.1
  have hl : lv_has ls 1 [(0, .ref m)] := hl
  refine lv_aload_n hx hb dX9_thrown_0 rfl (lv_at hl 0 rfl) ?_
  refine g_get C0 G h_m rfl hiX9 0 (by decide) mf_X9_55 rfl dX9_thrown_1 ?_
  exact g_iret C0 G hr dX9_thrown_4 (Nat.le_of_ble_eq_true rfl) (Nat.le_of_ble_eq_true rfl) (by exact ⟨rfl, rfl⟩)
set_option maxRecDepth 100000 in
theorem k_X9_no {l : Launch} (hfl : l.stackTraces = false) {D : va_G} {cy : Nat → ClassId} {f : Hf} {sz : Nat} {m : Nat} {v : Nat} {im : Nat} {kp : Nat} {pa : Nat} {de : Nat} {ide : Nat} {tx : Nat} {pt : Nat} {so : Nat} {mo : Nat} {wh : Nat} {pf : Nat} {c_th : Int32} {c_re : Int32} {c_un : Int32} {c_hi : Int32} {c_tn : Int32} {c_fa : Int32} {c_rf : Int32} {c_ps : Int32} {c_pl : Int32} {c_to : Int32} (code : Int32) (h_m : f m = some (.inr (11, [.int c_th, .int c_re, .ref v, .ref im, .ref kp, .ref pa, .ref de, .ref ide, .int c_un, .int c_hi, .ref tx, .int c_tn, .int c_fa, .int c_rf, .ref pt, .int c_ps, .int c_pl, .int c_to, .ref so, .ref mo, .ref wh, .ref pf])))  : hMet l yX9_no cX9_no 2 (some .int) { frames := 0, cells := 0, slots := 0, locals := 0 } D (hTy cy) f sz [.ref m, .int code] (hQi (fun r u => r = 0 ∧ u m = some (.inr (11, [.int code, .int c_re, .ref v, .ref im, .ref kp, .ref pa, .ref de, .ref ide, .int c_un, .int c_hi, .ref tx, .int c_tn, .int c_fa, .int c_rf, .ref pt, .int c_ps, .int c_pl, .int c_to, .ref so, .ref mo, .ref wh, .ref pf])) ∧ hFrL f u [m]) D f sz) hNo := by
  refine h_enter (by decide) hfl (Nat.le_of_ble_eq_true rfl) ?_
  intro p9 e9 s9 m9 b9 t9 c9 hsz C0 hr hnm G ls hl
  have hx := C0.1.1
  have hb := C0.1.2.1
  have hl : lv_has ls 2 [(0, .ref m), (1, .int code)] := hl
  refine lv_aload_n hx hb dX9_no_0 rfl (lv_at hl 0 rfl) ?_
  refine lv_iload_n hx hb dX9_no_1 rfl (lv_at hl 1 rfl) ?_
  refine g_put C0 G h_m rfl hiX9 tyX9 tyX9_ok nmX9 0 (by decide) mf_X9_55 rfl rfl rfl rfl (Nat.le_of_ble_eq_true rfl) dX9_no_2 (fun H locs f11 hf11 G => ?_)
  have k12 : f11 m = some (.inr (11, [.int code, .int c_re, .ref v, .ref im, .ref kp, .ref pa, .ref de, .ref ide, .int c_un, .int c_hi, .ref tx, .int c_tn, .int c_fa, .int c_rf, .ref pt, .int c_ps, .int c_pl, .int c_to, .ref so, .ref mo, .ref wh, .ref pf])) := hus hf11
  refine lv_iconst (v := 0) hx hb dX9_no_5 (by decide) ?_
  exact g_iret C0 G hr dX9_no_6 (Nat.le_of_ble_eq_true rfl) (Nat.le_of_ble_eq_true rfl) (by exact ⟨rfl, k12, (fun a9 e9 h7 h8 => hup hf11 (fun q => h7 (by rw [q]; simp)) (h8))⟩)
def X9_hasMatch_r0 (g : Nat → Int32) : Int32 := if (g 0) = 1 then 1 else 0
def X9_hasMatch_x1 (c_th : Int32) (g : Nat → Int32) (code : Int32) : Int32 := if (g 0) = 1 then c_th else code
def X9_hasMatch_x2 (c_re : Int32) (g : Nat → Int32) : Int32 := if (g 0) = 1 then c_re else 1
set_option maxRecDepth 100000 in
theorem k_X9_hasMatch {l : Launch} (hfl : l.stackTraces = false) {D : va_G} {cy : Nat → ClassId} {f : Hf} {sz : Nat} {m : Nat} {v : Nat} {im : Nat} {kp : Nat} {pa : Nat} {de : Nat} {ide : Nat} {tx : Nat} {pt : Nat} {so : Nat} {mo : Nat} {wh : Nat} {pf : Nat} {c_th : Int32} {c_re : Int32} {c_un : Int32} {c_hi : Int32} {c_tn : Int32} {c_fa : Int32} {c_rf : Int32} {c_ps : Int32} {c_pl : Int32} {c_to : Int32} {g : Nat → Int32} (code : Int32) (h_m : f m = some (.inr (11, [.int c_th, .int c_re, .ref v, .ref im, .ref kp, .ref pa, .ref de, .ref ide, .int c_un, .int c_hi, .ref tx, .int c_tn, .int c_fa, .int c_rf, .ref pt, .int c_ps, .int c_pl, .int c_to, .ref so, .ref mo, .ref wh, .ref pf]))) (h_v : f v = some (.inl (cy 0, 6441, .inl g)))  : hMet l yX9_hasMatch cX9_hasMatch 2 (some .boolean) { frames := 0, cells := 0, slots := 0, locals := 0 } D (hTy cy) f sz [.ref m, .int code] (hQi (fun r u => r = (X9_hasMatch_r0 g) ∧ u m = some (.inr (11, [.int (X9_hasMatch_x1 c_th g code), .int (X9_hasMatch_x2 c_re g), .ref v, .ref im, .ref kp, .ref pa, .ref de, .ref ide, .int c_un, .int c_hi, .ref tx, .int c_tn, .int c_fa, .int c_rf, .ref pt, .int c_ps, .int c_pl, .int c_to, .ref so, .ref mo, .ref wh, .ref pf])) ∧ hFrL f u [m]) D f sz) hNo := by
  refine h_enter (by decide) hfl (Nat.le_of_ble_eq_true rfl) ?_
  intro p9 e9 s9 m9 b9 t9 c9 hsz C0 hr hnm G ls hl
  have hx := C0.1.1
  have hb := C0.1.2.1
  have hl : lv_has ls 2 [(0, .ref m), (1, .int code)] := hl
  refine lv_aload_n hx hb dX9_hasMatch_0 rfl (lv_at hl 0 rfl) ?_
  refine g_get C0 G h_m rfl hiX9 2 (by decide) mf_X9_9 rfl dX9_hasMatch_1 ?_
  refine lv_iconst (v := 0) hx hb dX9_hasMatch_4 (by decide) ?_
  refine g_iald C0 G h_v 0 rfl (by unfold vp_in; decide) dX9_hasMatch_5 ?_
  refine lv_topv (v := g 0) rfl ?_
  refine lv_iconst (v := 1) hx hb dX9_hasMatch_6 (by decide) ?_
  refine lv_icmp_ne (tgt := 12) hx hb dX9_hasMatch_7 (by decide) (fun c11 => ?_) (fun c11 => ?_)
  · refine lv_aload_n hx hb dX9_hasMatch_12 rfl (lv_at hl 0 rfl) ?_
    refine lv_iconst (v := 1) hx hb dX9_hasMatch_13 (by decide) ?_
    refine g_put C0 G h_m rfl hiX9 tyX9 tyX9_ok nmX9 1 (by decide) mf_X9_166 rfl rfl rfl rfl (Nat.le_of_ble_eq_true rfl) dX9_hasMatch_14 (fun H locs f12 hf12 G => ?_)
    have k13 : f12 m = some (.inr (11, [.int c_th, .int 1, .ref v, .ref im, .ref kp, .ref pa, .ref de, .ref ide, .int c_un, .int c_hi, .ref tx, .int c_tn, .int c_fa, .int c_rf, .ref pt, .int c_ps, .int c_pl, .int c_to, .ref so, .ref mo, .ref wh, .ref pf])) := hus hf12
    refine lv_aload_n hx hb dX9_hasMatch_17 rfl (lv_at hl 0 rfl) ?_
    refine lv_iload_n hx hb dX9_hasMatch_18 rfl (lv_at hl 1 rfl) ?_
    refine g_put C0 G k13 rfl hiX9 tyX9 tyX9_ok nmX9 0 (by decide) mf_X9_55 rfl rfl rfl rfl (Nat.le_of_ble_eq_true rfl) dX9_hasMatch_19 (fun H locs f14 hf14 G => ?_)
    have k15 : f14 m = some (.inr (11, [.int code, .int 1, .ref v, .ref im, .ref kp, .ref pa, .ref de, .ref ide, .int c_un, .int c_hi, .ref tx, .int c_tn, .int c_fa, .int c_rf, .ref pt, .int c_ps, .int c_pl, .int c_to, .ref so, .ref mo, .ref wh, .ref pf])) := hus hf14
    refine lv_iconst (v := 0) hx hb dX9_hasMatch_22 (by decide) ?_
    exact g_zret C0 G hr dX9_hasMatch_23 rfl (Nat.le_of_ble_eq_true rfl) (Nat.le_of_ble_eq_true rfl) (by exact ⟨(by rw [X9_hasMatch_r0, if_neg c11]), (by rw [(by rw [X9_hasMatch_x1, if_neg c11] : (X9_hasMatch_x1 c_th g code) = code), (by rw [X9_hasMatch_x2, if_neg c11] : (X9_hasMatch_x2 c_re g) = 1)]; exact k15), (fun a9 e9 h7 h8 => hup hf14 (fun q => h7 (by rw [q]; simp)) (hup hf12 (fun q => h7 (by rw [q]; simp)) (h8)))⟩)
  · refine lv_iconst (v := 1) hx hb dX9_hasMatch_10 (by decide) ?_
    exact g_zret C0 G hr dX9_hasMatch_11 rfl (Nat.le_of_ble_eq_true rfl) (Nat.le_of_ble_eq_true rfl) (by exact ⟨(by rw [X9_hasMatch_r0, if_pos c11]), (by rw [(by rw [X9_hasMatch_x1, if_pos c11] : (X9_hasMatch_x1 c_th g code) = c_th), (by rw [X9_hasMatch_x2, if_pos c11] : (X9_hasMatch_x2 c_re g) = c_re)]; exact h_m), (fun a9 e9 h7 h8 => h8)⟩)
theorem b_k_X9_hasMatch (g : Nat → Int32) : (X9_hasMatch_r0 g) = 0 ∨ (X9_hasMatch_r0 g) = 1 := by
  repeat (first | exact Or.inl rfl | exact Or.inr rfl | assumption | split | unfold X9_hasMatch_r0 | unfold X9_hasMatch_x1 | unfold X9_hasMatch_x2)
def X9_errorPosition_x0 (c_fa : Int32) : Int32 := if 0 ≤ c_fa then 0 else 1
def X9_errorPosition_x1 (c_fa : Int32) : Int32 := if 0 ≤ c_fa then c_fa else 0
set_option maxRecDepth 100000 in
theorem k_X9_errorPosition {l : Launch} (hfl : l.stackTraces = false) {D : va_G} {cy : Nat → ClassId} {f : Hf} {sz : Nat} {m : Nat} {v : Nat} {im : Nat} {kp : Nat} {pa : Nat} {de : Nat} {ide : Nat} {tx : Nat} {pt : Nat} {so : Nat} {mo : Nat} {wh : Nat} {pf : Nat} {c_th : Int32} {c_re : Int32} {c_un : Int32} {c_hi : Int32} {c_tn : Int32} {c_fa : Int32} {c_rf : Int32} {c_ps : Int32} {c_pl : Int32} {c_to : Int32} (h_m : f m = some (.inr (11, [.int c_th, .int c_re, .ref v, .ref im, .ref kp, .ref pa, .ref de, .ref ide, .int c_un, .int c_hi, .ref tx, .int c_tn, .int c_fa, .int c_rf, .ref pt, .int c_ps, .int c_pl, .int c_to, .ref so, .ref mo, .ref wh, .ref pf])))  : hMet l yX9_errorPosition cX9_errorPosition 1 (some .int) { frames := 0, cells := 0, slots := 0, locals := 0 } D (hTy cy) f sz [.ref m] (hQi (fun r u => r = (X9_errorPosition_x1 c_fa) ∧ u m = some (.inr (11, [.int (X9_errorPosition_x0 c_fa), .int c_re, .ref v, .ref im, .ref kp, .ref pa, .ref de, .ref ide, .int c_un, .int c_hi, .ref tx, .int c_tn, .int c_fa, .int c_rf, .ref pt, .int c_ps, .int c_pl, .int c_to, .ref so, .ref mo, .ref wh, .ref pf])) ∧ hFrL f u [m]) D f sz) hNo := by
  refine h_enter (by decide) hfl (Nat.le_of_ble_eq_true rfl) ?_
  intro p9 e9 s9 m9 b9 t9 c9 hsz C0 hr hnm G ls hl
  have hx := C0.1.1
  have hb := C0.1.2.1
  have hl : lv_has ls 1 [(0, .ref m)] := hl
  refine lv_aload_n hx hb dX9_errorPosition_0 rfl (lv_at hl 0 rfl) ?_
  refine lv_aload_n hx hb dX9_errorPosition_1 rfl (lv_at hl 0 rfl) ?_
  refine g_get C0 G h_m rfl hiX9 12 (by decide) mf_X9_32 rfl dX9_errorPosition_2 ?_
  have J13 : ∀ (y12 : Int32) (_ : y12 = (X9_errorPosition_x0 c_fa)) (H : Heap) (locs : List Loc) (ls : Array Slot), hG D (hA f sz) f s9 H locs → lv_has ls 1 [(0, .ref m)] → W p9 l e9 ({ frames := 0, cells := 0, slots := 0, locals := 0 } : Room) s9 m9 ([.ref m] : List Value).toArray b9 t9 c9 H locs 0 0 (vx_MQ b9 (hQi (fun r u => r = (X9_errorPosition_x1 c_fa) ∧ u m = some (.inr (11, [.int (X9_errorPosition_x0 c_fa), .int c_re, .ref v, .ref im, .ref kp, .ref pa, .ref de, .ref ide, .int c_un, .int c_hi, .ref tx, .int c_tn, .int c_fa, .int c_rf, .ref pt, .int c_ps, .int c_pl, .int c_to, .ref so, .ref mo, .ref wh, .ref pf])) ∧ hFrL f u [m]) D f sz) (hPx hNo D f sz) ([.ref m] : List Value).toArray s9 0 0 (hA f sz)) (F0 m9 13 ls [.int y12, .ref m]) := by
    intro y12 ey12 H locs ls G hl
    replace ey12 := Eq.symm ey12
    subst ey12
    refine g_put C0 G h_m rfl hiX9 tyX9 tyX9_ok nmX9 0 (by decide) mf_X9_55 rfl rfl rfl rfl (Nat.le_of_ble_eq_true rfl) dX9_errorPosition_13 (fun H locs f15 hf15 G => ?_)
    have k16 : f15 m = some (.inr (11, [.int (X9_errorPosition_x0 c_fa), .int c_re, .ref v, .ref im, .ref kp, .ref pa, .ref de, .ref ide, .int c_un, .int c_hi, .ref tx, .int c_tn, .int c_fa, .int c_rf, .ref pt, .int c_ps, .int c_pl, .int c_to, .ref so, .ref mo, .ref wh, .ref pf])) := hus hf15
    refine lv_aload_n hx hb dX9_errorPosition_16 rfl (lv_at hl 0 rfl) ?_
    refine g_get C0 G k16 rfl hiX9 12 (by decide) mf_X9_32 rfl dX9_errorPosition_17 ?_
    have J19 : ∀ (y18 : Int32) (_ : y18 = (X9_errorPosition_x1 c_fa)) (H : Heap) (locs : List Loc) (ls : Array Slot), hG D (hA f sz) f15 s9 H locs → lv_has ls 1 [(0, .ref m)] → W p9 l e9 ({ frames := 0, cells := 0, slots := 0, locals := 0 } : Room) s9 m9 ([.ref m] : List Value).toArray b9 t9 c9 H locs 0 0 (vx_MQ b9 (hQi (fun r u => r = (X9_errorPosition_x1 c_fa) ∧ u m = some (.inr (11, [.int (X9_errorPosition_x0 c_fa), .int c_re, .ref v, .ref im, .ref kp, .ref pa, .ref de, .ref ide, .int c_un, .int c_hi, .ref tx, .int c_tn, .int c_fa, .int c_rf, .ref pt, .int c_ps, .int c_pl, .int c_to, .ref so, .ref mo, .ref wh, .ref pf])) ∧ hFrL f u [m]) D f sz) (hPx hNo D f sz) ([.ref m] : List Value).toArray s9 0 0 (hA f sz)) (F0 m9 31 ls [.int y18]) := by
      intro y18 ey18 H locs ls G hl
      replace ey18 := Eq.symm ey18
      subst ey18
      exact g_iret C0 G hr dX9_errorPosition_31 (Nat.le_of_ble_eq_true rfl) (Nat.le_of_ble_eq_true rfl) (by exact ⟨rfl, k16, (fun a9 e9 h7 h8 => hup hf15 (fun q => h7 (by rw [q]; simp)) (h8))⟩)
    refine lv_if_ge (tgt := 27) hx hb dX9_errorPosition_20 (by decide) (fun c17 => ?_) (fun c17 => ?_)
    · refine lv_aload_n hx hb dX9_errorPosition_27 rfl (lv_at hl 0 rfl) ?_
      refine g_get C0 G k16 rfl hiX9 12 (by decide) mf_X9_32 rfl dX9_errorPosition_28 ?_
      exact J19 c_fa (by rw [X9_errorPosition_x1, if_pos c17]) _ _ _ G (lv_sub hl [0] rfl)
    · refine lv_iconst (v := 0) hx hb dX9_errorPosition_23 (by decide) ?_
      refine lv_goto (tgt := 31) hx hb dX9_errorPosition_24 (by decide) ?_
      exact J19 0 (by rw [X9_errorPosition_x1, if_neg c17]) _ _ _ G (lv_sub hl [0] rfl)
  refine lv_if_ge (tgt := 12) hx hb dX9_errorPosition_5 (by decide) (fun c11 => ?_) (fun c11 => ?_)
  · refine lv_iconst (v := 0) hx hb dX9_errorPosition_12 (by decide) ?_
    exact J13 0 (by rw [X9_errorPosition_x0, if_pos c11]) _ _ _ G (lv_sub hl [0] rfl)
  · refine lv_iconst (v := 1) hx hb dX9_errorPosition_8 (by decide) ?_
    refine lv_goto (tgt := 13) hx hb dX9_errorPosition_9 (by decide) ?_
    exact J13 1 (by rw [X9_errorPosition_x0, if_neg c11]) _ _ _ G (lv_sub hl [0] rfl)
def X9_refused_x0 (c_rf : Int32) : Int32 := if 0 ≤ c_rf then 0 else 1
def X9_refused_x1 (c_rf : Int32) : Int32 := if 0 ≤ c_rf then c_rf else 0
set_option maxRecDepth 100000 in
theorem k_X9_refused {l : Launch} (hfl : l.stackTraces = false) {D : va_G} {cy : Nat → ClassId} {f : Hf} {sz : Nat} {m : Nat} {v : Nat} {im : Nat} {kp : Nat} {pa : Nat} {de : Nat} {ide : Nat} {tx : Nat} {pt : Nat} {so : Nat} {mo : Nat} {wh : Nat} {pf : Nat} {c_th : Int32} {c_re : Int32} {c_un : Int32} {c_hi : Int32} {c_tn : Int32} {c_fa : Int32} {c_rf : Int32} {c_ps : Int32} {c_pl : Int32} {c_to : Int32} (h_m : f m = some (.inr (11, [.int c_th, .int c_re, .ref v, .ref im, .ref kp, .ref pa, .ref de, .ref ide, .int c_un, .int c_hi, .ref tx, .int c_tn, .int c_fa, .int c_rf, .ref pt, .int c_ps, .int c_pl, .int c_to, .ref so, .ref mo, .ref wh, .ref pf])))  : hMet l yX9_refused cX9_refused 1 (some .int) { frames := 0, cells := 0, slots := 0, locals := 0 } D (hTy cy) f sz [.ref m] (hQi (fun r u => r = (X9_refused_x1 c_rf) ∧ u m = some (.inr (11, [.int (X9_refused_x0 c_rf), .int c_re, .ref v, .ref im, .ref kp, .ref pa, .ref de, .ref ide, .int c_un, .int c_hi, .ref tx, .int c_tn, .int c_fa, .int c_rf, .ref pt, .int c_ps, .int c_pl, .int c_to, .ref so, .ref mo, .ref wh, .ref pf])) ∧ hFrL f u [m]) D f sz) hNo := by
  refine h_enter (by decide) hfl (Nat.le_of_ble_eq_true rfl) ?_
  intro p9 e9 s9 m9 b9 t9 c9 hsz C0 hr hnm G ls hl
  have hx := C0.1.1
  have hb := C0.1.2.1
  have hl : lv_has ls 1 [(0, .ref m)] := hl
  refine lv_aload_n hx hb dX9_refused_0 rfl (lv_at hl 0 rfl) ?_
  refine lv_aload_n hx hb dX9_refused_1 rfl (lv_at hl 0 rfl) ?_
  refine g_get C0 G h_m rfl hiX9 13 (by decide) mf_X9_36 rfl dX9_refused_2 ?_
  have J13 : ∀ (y12 : Int32) (_ : y12 = (X9_refused_x0 c_rf)) (H : Heap) (locs : List Loc) (ls : Array Slot), hG D (hA f sz) f s9 H locs → lv_has ls 1 [(0, .ref m)] → W p9 l e9 ({ frames := 0, cells := 0, slots := 0, locals := 0 } : Room) s9 m9 ([.ref m] : List Value).toArray b9 t9 c9 H locs 0 0 (vx_MQ b9 (hQi (fun r u => r = (X9_refused_x1 c_rf) ∧ u m = some (.inr (11, [.int (X9_refused_x0 c_rf), .int c_re, .ref v, .ref im, .ref kp, .ref pa, .ref de, .ref ide, .int c_un, .int c_hi, .ref tx, .int c_tn, .int c_fa, .int c_rf, .ref pt, .int c_ps, .int c_pl, .int c_to, .ref so, .ref mo, .ref wh, .ref pf])) ∧ hFrL f u [m]) D f sz) (hPx hNo D f sz) ([.ref m] : List Value).toArray s9 0 0 (hA f sz)) (F0 m9 13 ls [.int y12, .ref m]) := by
    intro y12 ey12 H locs ls G hl
    replace ey12 := Eq.symm ey12
    subst ey12
    refine g_put C0 G h_m rfl hiX9 tyX9 tyX9_ok nmX9 0 (by decide) mf_X9_55 rfl rfl rfl rfl (Nat.le_of_ble_eq_true rfl) dX9_refused_13 (fun H locs f15 hf15 G => ?_)
    have k16 : f15 m = some (.inr (11, [.int (X9_refused_x0 c_rf), .int c_re, .ref v, .ref im, .ref kp, .ref pa, .ref de, .ref ide, .int c_un, .int c_hi, .ref tx, .int c_tn, .int c_fa, .int c_rf, .ref pt, .int c_ps, .int c_pl, .int c_to, .ref so, .ref mo, .ref wh, .ref pf])) := hus hf15
    refine lv_aload_n hx hb dX9_refused_16 rfl (lv_at hl 0 rfl) ?_
    refine g_get C0 G k16 rfl hiX9 13 (by decide) mf_X9_36 rfl dX9_refused_17 ?_
    have J19 : ∀ (y18 : Int32) (_ : y18 = (X9_refused_x1 c_rf)) (H : Heap) (locs : List Loc) (ls : Array Slot), hG D (hA f sz) f15 s9 H locs → lv_has ls 1 [(0, .ref m)] → W p9 l e9 ({ frames := 0, cells := 0, slots := 0, locals := 0 } : Room) s9 m9 ([.ref m] : List Value).toArray b9 t9 c9 H locs 0 0 (vx_MQ b9 (hQi (fun r u => r = (X9_refused_x1 c_rf) ∧ u m = some (.inr (11, [.int (X9_refused_x0 c_rf), .int c_re, .ref v, .ref im, .ref kp, .ref pa, .ref de, .ref ide, .int c_un, .int c_hi, .ref tx, .int c_tn, .int c_fa, .int c_rf, .ref pt, .int c_ps, .int c_pl, .int c_to, .ref so, .ref mo, .ref wh, .ref pf])) ∧ hFrL f u [m]) D f sz) (hPx hNo D f sz) ([.ref m] : List Value).toArray s9 0 0 (hA f sz)) (F0 m9 31 ls [.int y18]) := by
      intro y18 ey18 H locs ls G hl
      replace ey18 := Eq.symm ey18
      subst ey18
      exact g_iret C0 G hr dX9_refused_31 (Nat.le_of_ble_eq_true rfl) (Nat.le_of_ble_eq_true rfl) (by exact ⟨rfl, k16, (fun a9 e9 h7 h8 => hup hf15 (fun q => h7 (by rw [q]; simp)) (h8))⟩)
    refine lv_if_ge (tgt := 27) hx hb dX9_refused_20 (by decide) (fun c17 => ?_) (fun c17 => ?_)
    · refine lv_aload_n hx hb dX9_refused_27 rfl (lv_at hl 0 rfl) ?_
      refine g_get C0 G k16 rfl hiX9 13 (by decide) mf_X9_36 rfl dX9_refused_28 ?_
      exact J19 c_rf (by rw [X9_refused_x1, if_pos c17]) _ _ _ G (lv_sub hl [0] rfl)
    · refine lv_iconst (v := 0) hx hb dX9_refused_23 (by decide) ?_
      refine lv_goto (tgt := 31) hx hb dX9_refused_24 (by decide) ?_
      exact J19 0 (by rw [X9_refused_x1, if_neg c17]) _ _ _ G (lv_sub hl [0] rfl)
  refine lv_if_ge (tgt := 12) hx hb dX9_refused_5 (by decide) (fun c11 => ?_) (fun c11 => ?_)
  · refine lv_iconst (v := 0) hx hb dX9_refused_12 (by decide) ?_
    exact J13 0 (by rw [X9_refused_x0, if_pos c11]) _ _ _ G (lv_sub hl [0] rfl)
  · refine lv_iconst (v := 1) hx hb dX9_refused_8 (by decide) ?_
    refine lv_goto (tgt := 13) hx hb dX9_refused_9 (by decide) ?_
    exact J13 1 (by rw [X9_refused_x0, if_neg c11]) _ _ _ G (lv_sub hl [0] rfl)
set_option maxRecDepth 100000 in
theorem k_X9_reason {l : Launch} (hfl : l.stackTraces = false) {D : va_G} {cy : Nat → ClassId} {f : Hf} {sz : Nat} {m : Nat} {v : Nat} {im : Nat} {kp : Nat} {pa : Nat} {de : Nat} {ide : Nat} {tx : Nat} {pt : Nat} {so : Nat} {mo : Nat} {wh : Nat} {pf : Nat} {c_th : Int32} {c_re : Int32} {c_un : Int32} {c_hi : Int32} {c_tn : Int32} {c_fa : Int32} {c_rf : Int32} {c_ps : Int32} {c_pl : Int32} {c_to : Int32} (h_m : f m = some (.inr (11, [.int c_th, .int c_re, .ref v, .ref im, .ref kp, .ref pa, .ref de, .ref ide, .int c_un, .int c_hi, .ref tx, .int c_tn, .int c_fa, .int c_rf, .ref pt, .int c_ps, .int c_pl, .int c_to, .ref so, .ref mo, .ref wh, .ref pf])))  : hMet l yX9_reason cX9_reason 1 (some .int) { frames := 0, cells := 0, slots := 0, locals := 0 } D (hTy cy) f sz [.ref m] (hQi (fun r u => r = c_re ∧ u m = some (.inr (11, [.int 0, .int c_re, .ref v, .ref im, .ref kp, .ref pa, .ref de, .ref ide, .int c_un, .int c_hi, .ref tx, .int c_tn, .int c_fa, .int c_rf, .ref pt, .int c_ps, .int c_pl, .int c_to, .ref so, .ref mo, .ref wh, .ref pf])) ∧ hFrL f u [m]) D f sz) hNo := by
  refine h_enter (by decide) hfl (Nat.le_of_ble_eq_true rfl) ?_
  intro p9 e9 s9 m9 b9 t9 c9 hsz C0 hr hnm G ls hl
  have hx := C0.1.1
  have hb := C0.1.2.1
  have hl : lv_has ls 1 [(0, .ref m)] := hl
  refine lv_aload_n hx hb dX9_reason_0 rfl (lv_at hl 0 rfl) ?_
  refine lv_iconst (v := 0) hx hb dX9_reason_1 (by decide) ?_
  refine g_put C0 G h_m rfl hiX9 tyX9 tyX9_ok nmX9 0 (by decide) mf_X9_55 rfl rfl rfl rfl (Nat.le_of_ble_eq_true rfl) dX9_reason_2 (fun H locs f11 hf11 G => ?_)
  have k12 : f11 m = some (.inr (11, [.int 0, .int c_re, .ref v, .ref im, .ref kp, .ref pa, .ref de, .ref ide, .int c_un, .int c_hi, .ref tx, .int c_tn, .int c_fa, .int c_rf, .ref pt, .int c_ps, .int c_pl, .int c_to, .ref so, .ref mo, .ref wh, .ref pf])) := hus hf11
  refine lv_aload_n hx hb dX9_reason_5 rfl (lv_at hl 0 rfl) ?_
  refine g_get C0 G k12 rfl hiX9 1 (by decide) mf_X9_166 rfl dX9_reason_6 ?_
  exact g_iret C0 G hr dX9_reason_9 (Nat.le_of_ble_eq_true rfl) (Nat.le_of_ble_eq_true rfl) (by exact ⟨rfl, k12, (fun a9 e9 h7 h8 => hup hf11 (fun q => h7 (by rw [q]; simp)) (h8))⟩)
def X9_commandCount_r0 (g : Nat → Int32) : Int32 := g 24
set_option maxRecDepth 100000 in
theorem k_X9_commandCount {l : Launch} (hfl : l.stackTraces = false) {D : va_G} {cy : Nat → ClassId} {f : Hf} {sz : Nat} {m : Nat} {v : Nat} {im : Nat} {kp : Nat} {pa : Nat} {de : Nat} {ide : Nat} {tx : Nat} {pt : Nat} {so : Nat} {mo : Nat} {wh : Nat} {pf : Nat} {c_th : Int32} {c_re : Int32} {c_un : Int32} {c_hi : Int32} {c_tn : Int32} {c_fa : Int32} {c_rf : Int32} {c_ps : Int32} {c_pl : Int32} {c_to : Int32} {g : Nat → Int32} (h_m : f m = some (.inr (11, [.int c_th, .int c_re, .ref v, .ref im, .ref kp, .ref pa, .ref de, .ref ide, .int c_un, .int c_hi, .ref tx, .int c_tn, .int c_fa, .int c_rf, .ref pt, .int c_ps, .int c_pl, .int c_to, .ref so, .ref mo, .ref wh, .ref pf]))) (h_v : f v = some (.inl (cy 0, 6441, .inl g)))  : hMet l yX9_commandCount cX9_commandCount 1 (some .int) { frames := 0, cells := 0, slots := 0, locals := 0 } D (hTy cy) f sz [.ref m] (hQi (fun r u => r = (X9_commandCount_r0 g) ∧ u m = some (.inr (11, [.int 0, .int c_re, .ref v, .ref im, .ref kp, .ref pa, .ref de, .ref ide, .int c_un, .int c_hi, .ref tx, .int c_tn, .int c_fa, .int c_rf, .ref pt, .int c_ps, .int c_pl, .int c_to, .ref so, .ref mo, .ref wh, .ref pf])) ∧ hFrL f u [m]) D f sz) hNo := by
  refine h_enter (by decide) hfl (Nat.le_of_ble_eq_true rfl) ?_
  intro p9 e9 s9 m9 b9 t9 c9 hsz C0 hr hnm G ls hl
  have hx := C0.1.1
  have hb := C0.1.2.1
  have hl : lv_has ls 1 [(0, .ref m)] := hl
  refine lv_aload_n hx hb dX9_commandCount_0 rfl (lv_at hl 0 rfl) ?_
  refine lv_iconst (v := 0) hx hb dX9_commandCount_1 (by decide) ?_
  refine g_put C0 G h_m rfl hiX9 tyX9 tyX9_ok nmX9 0 (by decide) mf_X9_55 rfl rfl rfl rfl (Nat.le_of_ble_eq_true rfl) dX9_commandCount_2 (fun H locs f11 hf11 G => ?_)
  have k12 : f11 m = some (.inr (11, [.int 0, .int c_re, .ref v, .ref im, .ref kp, .ref pa, .ref de, .ref ide, .int c_un, .int c_hi, .ref tx, .int c_tn, .int c_fa, .int c_rf, .ref pt, .int c_ps, .int c_pl, .int c_to, .ref so, .ref mo, .ref wh, .ref pf])) := hus hf11
  refine lv_aload_n hx hb dX9_commandCount_5 rfl (lv_at hl 0 rfl) ?_
  refine g_get C0 G k12 rfl hiX9 2 (by decide) mf_X9_9 rfl dX9_commandCount_6 ?_
  refine lv_bipush (v := 24) hx hb dX9_commandCount_9 (by decide) ?_
  have k13 : f11 v = some (.inl (cy 0, 6441, .inl g)) := hup hf11 (hne h_v h_m (by intro q; cases q)) h_v
  refine g_iald C0 G k13 0 rfl (by unfold vp_in; decide) dX9_commandCount_11 ?_
  refine lv_topv (v := g 24) rfl ?_
  exact g_iret C0 G hr dX9_commandCount_12 (Nat.le_of_ble_eq_true rfl) (Nat.le_of_ble_eq_true rfl) (by exact ⟨(by rw [X9_commandCount_r0]), k12, (fun a9 e9 h7 h8 => hup hf11 (fun q => h7 (by rw [q]; simp)) (h8))⟩)
def X9_isInnings_x0 (g : Nat → Int32) (i9 : Int32) : Int32 := if (X9_isIn_x1 i9 0 (g 4)) = 0 then 0 else 1
def X9_isInnings_x1 (g : Nat → Int32) (i9 : Int32) : Int32 := if (g 0) = 1 then (X9_isInnings_x0 g i9) else 0
set_option maxRecDepth 100000 in
theorem k_X9_isInnings {l : Launch} (hfl : l.stackTraces = false) {D : va_G} {cy : Nat → ClassId} {f : Hf} {sz : Nat} {m : Nat} {v : Nat} {im : Nat} {kp : Nat} {pa : Nat} {de : Nat} {ide : Nat} {tx : Nat} {pt : Nat} {so : Nat} {mo : Nat} {wh : Nat} {pf : Nat} {c_th : Int32} {c_re : Int32} {c_un : Int32} {c_hi : Int32} {c_tn : Int32} {c_fa : Int32} {c_rf : Int32} {c_ps : Int32} {c_pl : Int32} {c_to : Int32} {g : Nat → Int32} (i9 : Int32) (h_m : f m = some (.inr (11, [.int c_th, .int c_re, .ref v, .ref im, .ref kp, .ref pa, .ref de, .ref ide, .int c_un, .int c_hi, .ref tx, .int c_tn, .int c_fa, .int c_rf, .ref pt, .int c_ps, .int c_pl, .int c_to, .ref so, .ref mo, .ref wh, .ref pf]))) (h_v : f v = some (.inl (cy 0, 6441, .inl g)))  : hMet l yX9_isInnings cX9_isInnings 2 (some .boolean) { frames := 1, cells := 0, slots := 0, locals := 22 } D (hTy cy) f sz [.ref m, .int i9] (hQi (fun r u => r = (X9_isInnings_x1 g i9) ∧ u = f) D f sz) hNo := by
  refine h_enter (by decide) hfl (Nat.le_of_ble_eq_true rfl) ?_
  intro p9 e9 s9 m9 b9 t9 c9 hsz C0 hr hnm G ls hl
  have hx := C0.1.1
  have hb := C0.1.2.1
  have hl : lv_has ls 2 [(0, .ref m), (1, .int i9)] := hl
  refine lv_aload_n hx hb dX9_isInnings_0 rfl (lv_at hl 0 rfl) ?_
  refine g_get C0 G h_m rfl hiX9 2 (by decide) mf_X9_9 rfl dX9_isInnings_1 ?_
  refine lv_iconst (v := 0) hx hb dX9_isInnings_4 (by decide) ?_
  refine g_iald C0 G h_v 0 rfl (by unfold vp_in; decide) dX9_isInnings_5 ?_
  refine lv_topv (v := g 0) rfl ?_
  refine lv_iconst (v := 1) hx hb dX9_isInnings_6 (by decide) ?_
  have J13 : ∀ (y12 : Int32) (_ : y12 = (X9_isInnings_x1 g i9)) (H : Heap) (locs : List Loc) (ls : Array Slot), hG D (hA f sz) f s9 H locs → lv_has ls 2 [(0, .ref m), (1, .int i9)] → W p9 l e9 ({ frames := 1, cells := 0, slots := 0, locals := 22 } : Room) s9 m9 ([.ref m, .int i9] : List Value).toArray b9 t9 c9 H locs 0 0 (vx_MQ b9 (hQi (fun r u => r = (X9_isInnings_x1 g i9) ∧ u = f) D f sz) (hPx hNo D f sz) ([.ref m, .int i9] : List Value).toArray s9 0 0 (hA f sz)) (F0 m9 29 ls [.int y12]) := by
    intro y12 ey12 H locs ls G hl
    replace ey12 := Eq.symm ey12
    subst ey12
    exact g_zret C0 G hr dX9_isInnings_29 (hZb (by repeat (first | exact Or.inl rfl | exact Or.inr rfl | assumption | exact (b_k_X9_isIn i9 0 (g 4)) | split | unfold X9_isInnings_x0 | unfold X9_isInnings_x1))) (Nat.le_of_ble_eq_true rfl) (Nat.le_of_ble_eq_true rfl) (by exact ⟨rfl, rfl⟩)
  refine lv_icmp_ne (tgt := 28) hx hb dX9_isInnings_7 (by decide) (fun c11 => ?_) (fun c11 => ?_)
  · refine lv_iconst (v := 0) hx hb dX9_isInnings_28 (by decide) ?_
    exact J13 0 (by rw [X9_isInnings_x1, if_neg c11]) _ _ _ G (lv_sub hl [0, 1] rfl)
  · refine lv_iload_n hx hb dX9_isInnings_10 rfl (lv_at hl 1 rfl) ?_
    refine lv_iconst (v := 0) hx hb dX9_isInnings_11 (by decide) ?_
    refine lv_aload_n hx hb dX9_isInnings_12 rfl (lv_at hl 0 rfl) ?_
    refine g_get C0 G h_m rfl hiX9 2 (by decide) mf_X9_9 rfl dX9_isInnings_13 ?_
    refine lv_iconst (v := 4) hx hb dX9_isInnings_16 (by decide) ?_
    refine g_iald C0 G h_v 0 rfl (by unfold vp_in; decide) dX9_isInnings_17 ?_
    refine lv_topv (v := g 4) rfl ?_
    refine g_cI C0 G (g_runS C0 G (rest := []) (k_X9_isIn hfl i9 0 (g 4) ) hY_X9_isIn mm_X9_76 ms_X9_isIn ⟨(Nat.le_of_ble_eq_true rfl), (Nat.le_of_ble_eq_true rfl)⟩ rfl hl.1 rfl (Nat.le_of_ble_eq_true rfl) dX9_isInnings_18 ⟨(Nat.le_of_ble_eq_true rfl), (Nat.le_of_ble_eq_true rfl)⟩) (kx_no rfl) (fun r17 u16 H locs hp15 G => ?_)
    obtain ⟨zr, eu16⟩ := hp15
    replace zr := Eq.symm zr
    subst zr
    rw [eu16] at G
    have J20 : ∀ (y19 : Int32) (_ : y19 = (X9_isInnings_x0 g i9)) (H : Heap) (locs : List Loc) (ls : Array Slot), hG D (hA f sz) f s9 H locs → lv_has ls 2 [(0, .ref m), (1, .int i9)] → W p9 l e9 ({ frames := 1, cells := 0, slots := 0, locals := 22 } : Room) s9 m9 ([.ref m, .int i9] : List Value).toArray b9 t9 c9 H locs 0 0 (vx_MQ b9 (hQi (fun r u => r = (X9_isInnings_x1 g i9) ∧ u = f) D f sz) (hPx hNo D f sz) ([.ref m, .int i9] : List Value).toArray s9 0 0 (hA f sz)) (F0 m9 29 ls [.int y19]) := by
      intro y19 ey19 H locs ls G hl
      replace ey19 := Eq.symm ey19
      subst ey19
      exact J13 (X9_isInnings_x0 g i9) (by rw [X9_isInnings_x1, if_pos c11]) _ _ _ G (lv_sub hl [0, 1] rfl)
    refine lv_if_eq (tgt := 28) hx hb dX9_isInnings_21 (by decide) (fun c18 => ?_) (fun c18 => ?_)
    · refine lv_iconst (v := 0) hx hb dX9_isInnings_28 (by decide) ?_
      exact J20 0 (by rw [X9_isInnings_x0, if_pos c18]) _ _ _ G (lv_sub hl [0, 1] rfl)
    · refine lv_iconst (v := 1) hx hb dX9_isInnings_24 (by decide) ?_
      refine lv_goto (tgt := 29) hx hb dX9_isInnings_25 (by decide) ?_
      exact J20 1 (by rw [X9_isInnings_x0, if_neg c18]) _ _ _ G (lv_sub hl [0, 1] rfl)
theorem b_k_X9_isInnings (g : Nat → Int32) (i9 : Int32) : (X9_isInnings_x1 g i9) = 0 ∨ (X9_isInnings_x1 g i9) = 1 := by
  repeat (first | exact Or.inl rfl | exact Or.inr rfl | assumption | exact (b_k_X9_isIn i9 0 (g 4)) | split | unfold X9_isInnings_x0 | unfold X9_isInnings_x1)
def X9_now_x0 (what : Int32) : Int32 := if (X9_isIn_x1 what 0 8) = 0 then 1 else 0
def X9_now_r1 (g : Nat → Int32) (what : Int32) (i : Nat) : Int32 := if (X9_now_x0 what) = 1 then 0 else (if (X9_hasMatch_r0 g) = 0 then 0 else (if what = 0 then (nI i) else (if what = 1 then (X9_team_r0 g (nI i)) else (if what = 2 then (g 6) else (if what = 3 then (g 7) else (if what = 4 then (g 9) else (if what = 5 then (g 10) else (if what = 6 then (X9_next_r1 g i) else (if what = 7 then (g 13) else (g (14 + i)))))))))))
def X9_now_x2 (g : Nat → Int32) (what : Int32) : Int32 := if (X9_now_x0 what) = 1 then (X9_now_x0 what) else (X9_hasMatch_x1 (X9_now_x0 what) g 2)
def X9_now_x3 (c_re : Int32) (g : Nat → Int32) (what : Int32) : Int32 := if (X9_now_x0 what) = 1 then c_re else (X9_hasMatch_x2 c_re g)
set_option maxRecDepth 100000 in
theorem k_X9_now {l : Launch} (hfl : l.stackTraces = false) {D : va_G} {cy : Nat → ClassId} {f : Hf} {sz : Nat} {m : Nat} {v : Nat} {im : Nat} {kp : Nat} {pa : Nat} {de : Nat} {ide : Nat} {tx : Nat} {pt : Nat} {so : Nat} {mo : Nat} {wh : Nat} {pf : Nat} {c_th : Int32} {c_re : Int32} {c_un : Int32} {c_hi : Int32} {c_tn : Int32} {c_fa : Int32} {c_rf : Int32} {c_ps : Int32} {c_pl : Int32} {c_to : Int32} {g : Nat → Int32} (what : Int32) {i : Nat} (h_m : f m = some (.inr (11, [.int c_th, .int c_re, .ref v, .ref im, .ref kp, .ref pa, .ref de, .ref ide, .int c_un, .int c_hi, .ref tx, .int c_tn, .int c_fa, .int c_rf, .ref pt, .int c_ps, .int c_pl, .int c_to, .ref so, .ref mo, .ref wh, .ref pf]))) (h_v : f v = some (.inl (cy 0, 6441, .inl g))) (h4 : g 4 = nI i) (hi : i < 4) : hMet l yX9_now cX9_now 3 (some .int) { frames := 3, cells := 0, slots := 0, locals := 65 } D (hTy cy) f sz [.ref m, .int what] (hQi (fun r u => r = (X9_now_r1 g what i) ∧ u m = some (.inr (11, [.int (X9_now_x2 g what), .int (X9_now_x3 c_re g what), .ref v, .ref im, .ref kp, .ref pa, .ref de, .ref ide, .int c_un, .int c_hi, .ref tx, .int c_tn, .int c_fa, .int c_rf, .ref pt, .int c_ps, .int c_pl, .int c_to, .ref so, .ref mo, .ref wh, .ref pf])) ∧ hFrL f u [m]) D f sz) hNo := by
  refine h_enter (by decide) hfl (Nat.le_of_ble_eq_true rfl) ?_
  intro p9 e9 s9 m9 b9 t9 c9 hsz C0 hr hnm G ls hl
  have hx := C0.1.1
  have hb := C0.1.2.1
  have hl : lv_has ls 3 [(0, .ref m), (1, .int what)] := hl
  refine lv_aload_n hx hb dX9_now_0 rfl (lv_at hl 0 rfl) ?_
  refine lv_iload_n hx hb dX9_now_1 rfl (lv_at hl 1 rfl) ?_
  refine lv_iconst (v := 0) hx hb dX9_now_2 (by decide) ?_
  refine lv_bipush (v := 8) hx hb dX9_now_3 (by decide) ?_
  refine g_cI C0 G (g_runS C0 G (rest := [.ref m]) (k_X9_isIn hfl what 0 8 ) hY_X9_isIn mm_X9_76 ms_X9_isIn ⟨(Nat.le_of_ble_eq_true rfl), (Nat.le_of_ble_eq_true rfl)⟩ rfl hl.1 rfl (Nat.le_of_ble_eq_true rfl) dX9_now_5 ⟨(Nat.le_of_ble_eq_true rfl), (Nat.le_of_ble_eq_true rfl)⟩) (kx_no rfl) (fun r13 u12 H locs hp11 G => ?_)
  obtain ⟨zr, eu12⟩ := hp11
  replace zr := Eq.symm zr
  subst zr
  rw [eu12] at G
  have J16 : ∀ (y15 : Int32) (_ : y15 = (X9_now_x0 what)) (H : Heap) (locs : List Loc) (ls : Array Slot), hG D (hA f sz) f s9 H locs → lv_has ls 3 [(0, .ref m), (1, .int what)] → W p9 l e9 ({ frames := 3, cells := 0, slots := 0, locals := 65 } : Room) s9 m9 ([.ref m, .int what] : List Value).toArray b9 t9 c9 H locs 0 0 (vx_MQ b9 (hQi (fun r u => r = (X9_now_r1 g what i) ∧ u m = some (.inr (11, [.int (X9_now_x2 g what), .int (X9_now_x3 c_re g what), .ref v, .ref im, .ref kp, .ref pa, .ref de, .ref ide, .int c_un, .int c_hi, .ref tx, .int c_tn, .int c_fa, .int c_rf, .ref pt, .int c_ps, .int c_pl, .int c_to, .ref so, .ref mo, .ref wh, .ref pf])) ∧ hFrL f u [m]) D f sz) (hPx hNo D f sz) ([.ref m, .int what] : List Value).toArray s9 0 0 (hA f sz)) (F0 m9 16 ls [.int y15, .ref m]) := by
    intro y15 ey15 H locs ls G hl
    replace ey15 := Eq.symm ey15
    subst ey15
    refine g_put C0 G h_m rfl hiX9 tyX9 tyX9_ok nmX9 0 (by decide) mf_X9_55 rfl rfl rfl rfl (Nat.le_of_ble_eq_true rfl) dX9_now_16 (fun H locs f18 hf18 G => ?_)
    have k19 : f18 m = some (.inr (11, [.int (X9_now_x0 what), .int c_re, .ref v, .ref im, .ref kp, .ref pa, .ref de, .ref ide, .int c_un, .int c_hi, .ref tx, .int c_tn, .int c_fa, .int c_rf, .ref pt, .int c_ps, .int c_pl, .int c_to, .ref so, .ref mo, .ref wh, .ref pf])) := hus hf18
    refine lv_aload_n hx hb dX9_now_19 rfl (lv_at hl 0 rfl) ?_
    refine g_get C0 G k19 rfl hiX9 0 (by decide) mf_X9_55 rfl dX9_now_20 ?_
    refine lv_iconst (v := 1) hx hb dX9_now_23 (by decide) ?_
    refine lv_icmp_eq (tgt := 35) hx hb dX9_now_24 (by decide) (fun c20 => ?_) (fun c20 => ?_)
    · refine lv_iconst (v := 0) hx hb dX9_now_35 (by decide) ?_
      exact g_iret C0 G hr dX9_now_36 (Nat.le_of_ble_eq_true rfl) (Nat.le_of_ble_eq_true rfl) (by exact ⟨(by rw [X9_now_r1, if_pos c20]), (by rw [(by rw [X9_now_x2, if_pos c20] : (X9_now_x2 g what) = (X9_now_x0 what)), (by rw [X9_now_x3, if_pos c20] : (X9_now_x3 c_re g what) = c_re)]; exact k19), (fun a9 e9 h7 h8 => hup hf18 (fun q => h7 (by rw [q]; simp)) (h8))⟩)
    · refine lv_aload_n hx hb dX9_now_27 rfl (lv_at hl 0 rfl) ?_
      refine lv_iconst (v := 2) hx hb dX9_now_28 (by decide) ?_
      have k21 : f18 v = some (.inl (cy 0, 6441, .inl g)) := hup hf18 (hne h_v h_m (by intro q; cases q)) h_v
      refine g_cI C0 G (g_runV C0 G (rest := []) (k_X9_hasMatch hfl 2 k19 k21) k19 rfl hY_X9_hasMatch mm_X9_221 mi_X9_hasMatch ml_X9_hasMatch ⟨(Nat.le_of_ble_eq_true rfl), (Nat.le_of_ble_eq_true rfl)⟩ rfl hl.1 rfl (Nat.le_of_ble_eq_true rfl) dX9_now_29 ⟨(Nat.le_of_ble_eq_true rfl), (Nat.le_of_ble_eq_true rfl)⟩) (kx_no rfl) (fun r24 u23 H locs hp22 G => ?_)
      obtain ⟨zr, k25, fr26⟩ := hp22
      replace zr := Eq.symm zr
      subst zr
      refine lv_if_ne (tgt := 37) hx hb dX9_now_32 (by decide) (fun c27 => ?_) (fun c27 => ?_)
      · refine lv_aload_n hx hb dX9_now_37 rfl (lv_at hl 0 rfl) ?_
        refine g_get C0 G k25 rfl hiX9 2 (by decide) mf_X9_9 rfl dX9_now_38 ?_
        refine lv_iconst (v := 4) hx hb dX9_now_41 (by decide) ?_
        have k28 : u23 v = some (.inl (cy 0, 6441, .inl g)) := fr26 _ _ (by simp only [List.mem_cons, List.not_mem_nil, or_false]; intro q; exact (hne k21 k19 (by intro q; cases q)) q) k21
        refine g_iald C0 G k28 0 rfl (by unfold vp_in; decide) dX9_now_42 ?_
        refine lv_topv (v := g 4) rfl ?_
        refine lv_topv (v := nI i) (h4) ?_
        refine lv_istore_n (lv' := [(2, .int (nI i)), (0, .ref m), (1, .int what)]) hx hb dX9_now_43 rfl hl (by decide) rfl (fun ls hl => ?_)
        refine lv_iload_n hx hb dX9_now_44 rfl (lv_at hl 2 rfl) ?_
        have sw37 : (what = 0) ∨ (¬ what = 0 ∧ what = 1) ∨ (¬ what = 0 ∧ ¬ what = 1 ∧ what = 2) ∨ (¬ what = 0 ∧ ¬ what = 1 ∧ ¬ what = 2 ∧ what = 3) ∨ (¬ what = 0 ∧ ¬ what = 1 ∧ ¬ what = 2 ∧ ¬ what = 3 ∧ what = 4) ∨ (¬ what = 0 ∧ ¬ what = 1 ∧ ¬ what = 2 ∧ ¬ what = 3 ∧ ¬ what = 4 ∧ what = 5) ∨ (¬ what = 0 ∧ ¬ what = 1 ∧ ¬ what = 2 ∧ ¬ what = 3 ∧ ¬ what = 4 ∧ ¬ what = 5 ∧ what = 6) ∨ (¬ what = 0 ∧ ¬ what = 1 ∧ ¬ what = 2 ∧ ¬ what = 3 ∧ ¬ what = 4 ∧ ¬ what = 5 ∧ ¬ what = 6 ∧ what = 7) ∨ (¬ what = 0 ∧ ¬ what = 1 ∧ ¬ what = 2 ∧ ¬ what = 3 ∧ ¬ what = 4 ∧ ¬ what = 5 ∧ ¬ what = 6 ∧ ¬ what = 7) := by
          by_cases w29 : what = 0
          · exact Or.inl w29
          rename ¬ what = 0 => nw29
          by_cases w30 : what = 1
          · exact Or.inr (Or.inl ⟨nw29, w30⟩)
          rename ¬ what = 1 => nw30
          by_cases w31 : what = 2
          · exact Or.inr (Or.inr (Or.inl ⟨nw29, nw30, w31⟩))
          rename ¬ what = 2 => nw31
          by_cases w32 : what = 3
          · exact Or.inr (Or.inr (Or.inr (Or.inl ⟨nw29, nw30, nw31, w32⟩)))
          rename ¬ what = 3 => nw32
          by_cases w33 : what = 4
          · exact Or.inr (Or.inr (Or.inr (Or.inr (Or.inl ⟨nw29, nw30, nw31, nw32, w33⟩))))
          rename ¬ what = 4 => nw33
          by_cases w34 : what = 5
          · exact Or.inr (Or.inr (Or.inr (Or.inr (Or.inr (Or.inl ⟨nw29, nw30, nw31, nw32, nw33, w34⟩)))))
          rename ¬ what = 5 => nw34
          by_cases w35 : what = 6
          · exact Or.inr (Or.inr (Or.inr (Or.inr (Or.inr (Or.inr (Or.inl ⟨nw29, nw30, nw31, nw32, nw33, nw34, w35⟩))))))
          rename ¬ what = 6 => nw35
          by_cases w36 : what = 7
          · exact Or.inr (Or.inr (Or.inr (Or.inr (Or.inr (Or.inr (Or.inr (Or.inl ⟨nw29, nw30, nw31, nw32, nw33, nw34, nw35, w36⟩)))))))
          rename ¬ what = 7 => nw36
          exact Or.inr (Or.inr (Or.inr (Or.inr (Or.inr (Or.inr (Or.inr (Or.inr (⟨nw29, nw30, nw31, nw32, nw33, nw34, nw35, nw36⟩))))))))
        rcases sw37 with w29 | ⟨nw29, w30⟩ | ⟨nw29, nw30, w31⟩ | ⟨nw29, nw30, nw31, w32⟩ | ⟨nw29, nw30, nw31, nw32, w33⟩ | ⟨nw29, nw30, nw31, nw32, nw33, w34⟩ | ⟨nw29, nw30, nw31, nw32, nw33, nw34, w35⟩ | ⟨nw29, nw30, nw31, nw32, nw33, nw34, nw35, w36⟩ | ⟨nw29, nw30, nw31, nw32, nw33, nw34, nw35, nw36⟩
        · refine lv_tableIn (off := 47) (tgt := 92) hx hb dX9_now_45 (by rw [w29]; decide) (by rw [w29]; decide) (by rw [w29]; rfl) (by decide) ?_
          refine lv_iload_n hx hb dX9_now_92 rfl (lv_at hl 0 rfl) ?_
          exact g_iret C0 G hr dX9_now_93 (Nat.le_of_ble_eq_true rfl) (Nat.le_of_ble_eq_true rfl) (by exact ⟨(by rw [X9_now_r1, if_neg c20, if_neg c27, if_pos w29]), (by rw [(by rw [X9_now_x2, if_neg c20] : (X9_now_x2 g what) = (X9_hasMatch_x1 (X9_now_x0 what) g 2)), (by rw [X9_now_x3, if_neg c20] : (X9_now_x3 c_re g what) = (X9_hasMatch_x2 c_re g))]; exact k25), (fun a9 e9 h7 h8 => fr26 _ _ (fun q => h7 (by simp only [List.mem_cons, List.not_mem_nil, or_false] at q ⊢; first | exact q | (rcases q with q <;> simp [q]) | omega)) (hup hf18 (fun q => h7 (by rw [q]; simp)) (h8)))⟩)
        · refine lv_tableIn (off := 49) (tgt := 94) hx hb dX9_now_45 (by rw [w30]; decide) (by rw [w30]; decide) (by rw [w30]; rfl) (by decide) ?_
          refine lv_aload_n hx hb dX9_now_94 rfl (lv_at hl 1 rfl) ?_
          refine lv_iload_n hx hb dX9_now_95 rfl (lv_at hl 0 rfl) ?_
          refine g_cI C0 G (g_runV C0 G (rest := []) (k_X9_team hfl (nI i) k25 k28) k25 rfl hY_X9_team mm_X9_224 mi_X9_team ml_X9_team ⟨(Nat.le_of_ble_eq_true rfl), (Nat.le_of_ble_eq_true rfl)⟩ rfl hl.1 rfl (Nat.le_of_ble_eq_true rfl) dX9_now_96 ⟨(Nat.le_of_ble_eq_true rfl), (Nat.le_of_ble_eq_true rfl)⟩) (kx_no rfl) (fun r40 u39 H locs hp38 G => ?_)
          obtain ⟨zr, eu39⟩ := hp38
          replace zr := Eq.symm zr
          subst zr
          rw [eu39] at G
          exact g_iret C0 G hr dX9_now_99 (Nat.le_of_ble_eq_true rfl) (Nat.le_of_ble_eq_true rfl) (by exact ⟨(by rw [X9_now_r1, if_neg c20, if_neg c27, if_neg nw29, if_pos w30]), (by rw [(by rw [X9_now_x2, if_neg c20] : (X9_now_x2 g what) = (X9_hasMatch_x1 (X9_now_x0 what) g 2)), (by rw [X9_now_x3, if_neg c20] : (X9_now_x3 c_re g what) = (X9_hasMatch_x2 c_re g))]; exact k25), (fun a9 e9 h7 h8 => fr26 _ _ (fun q => h7 (by simp only [List.mem_cons, List.not_mem_nil, or_false] at q ⊢; first | exact q | (rcases q with q <;> simp [q]) | omega)) (hup hf18 (fun q => h7 (by rw [q]; simp)) (h8)))⟩)
        · refine lv_tableIn (off := 55) (tgt := 100) hx hb dX9_now_45 (by rw [w31]; decide) (by rw [w31]; decide) (by rw [w31]; rfl) (by decide) ?_
          refine lv_aload_n hx hb dX9_now_100 rfl (lv_at hl 1 rfl) ?_
          refine g_get C0 G k25 rfl hiX9 2 (by decide) mf_X9_9 rfl dX9_now_101 ?_
          refine lv_bipush (v := 6) hx hb dX9_now_104 (by decide) ?_
          refine g_iald C0 G k28 0 rfl (by unfold vp_in; decide) dX9_now_106 ?_
          refine lv_topv (v := g 6) rfl ?_
          exact g_iret C0 G hr dX9_now_107 (Nat.le_of_ble_eq_true rfl) (Nat.le_of_ble_eq_true rfl) (by exact ⟨(by rw [X9_now_r1, if_neg c20, if_neg c27, if_neg nw29, if_neg nw30, if_pos w31]), (by rw [(by rw [X9_now_x2, if_neg c20] : (X9_now_x2 g what) = (X9_hasMatch_x1 (X9_now_x0 what) g 2)), (by rw [X9_now_x3, if_neg c20] : (X9_now_x3 c_re g what) = (X9_hasMatch_x2 c_re g))]; exact k25), (fun a9 e9 h7 h8 => fr26 _ _ (fun q => h7 (by simp only [List.mem_cons, List.not_mem_nil, or_false] at q ⊢; first | exact q | (rcases q with q <;> simp [q]) | omega)) (hup hf18 (fun q => h7 (by rw [q]; simp)) (h8)))⟩)
        · refine lv_tableIn (off := 63) (tgt := 108) hx hb dX9_now_45 (by rw [w32]; decide) (by rw [w32]; decide) (by rw [w32]; rfl) (by decide) ?_
          refine lv_aload_n hx hb dX9_now_108 rfl (lv_at hl 1 rfl) ?_
          refine g_get C0 G k25 rfl hiX9 2 (by decide) mf_X9_9 rfl dX9_now_109 ?_
          refine lv_bipush (v := 7) hx hb dX9_now_112 (by decide) ?_
          refine g_iald C0 G k28 0 rfl (by unfold vp_in; decide) dX9_now_114 ?_
          refine lv_topv (v := g 7) rfl ?_
          exact g_iret C0 G hr dX9_now_115 (Nat.le_of_ble_eq_true rfl) (Nat.le_of_ble_eq_true rfl) (by exact ⟨(by rw [X9_now_r1, if_neg c20, if_neg c27, if_neg nw29, if_neg nw30, if_neg nw31, if_pos w32]), (by rw [(by rw [X9_now_x2, if_neg c20] : (X9_now_x2 g what) = (X9_hasMatch_x1 (X9_now_x0 what) g 2)), (by rw [X9_now_x3, if_neg c20] : (X9_now_x3 c_re g what) = (X9_hasMatch_x2 c_re g))]; exact k25), (fun a9 e9 h7 h8 => fr26 _ _ (fun q => h7 (by simp only [List.mem_cons, List.not_mem_nil, or_false] at q ⊢; first | exact q | (rcases q with q <;> simp [q]) | omega)) (hup hf18 (fun q => h7 (by rw [q]; simp)) (h8)))⟩)
        · refine lv_tableIn (off := 71) (tgt := 116) hx hb dX9_now_45 (by rw [w33]; decide) (by rw [w33]; decide) (by rw [w33]; rfl) (by decide) ?_
          refine lv_aload_n hx hb dX9_now_116 rfl (lv_at hl 1 rfl) ?_
          refine g_get C0 G k25 rfl hiX9 2 (by decide) mf_X9_9 rfl dX9_now_117 ?_
          refine lv_bipush (v := 9) hx hb dX9_now_120 (by decide) ?_
          refine g_iald C0 G k28 0 rfl (by unfold vp_in; decide) dX9_now_122 ?_
          refine lv_topv (v := g 9) rfl ?_
          exact g_iret C0 G hr dX9_now_123 (Nat.le_of_ble_eq_true rfl) (Nat.le_of_ble_eq_true rfl) (by exact ⟨(by rw [X9_now_r1, if_neg c20, if_neg c27, if_neg nw29, if_neg nw30, if_neg nw31, if_neg nw32, if_pos w33]), (by rw [(by rw [X9_now_x2, if_neg c20] : (X9_now_x2 g what) = (X9_hasMatch_x1 (X9_now_x0 what) g 2)), (by rw [X9_now_x3, if_neg c20] : (X9_now_x3 c_re g what) = (X9_hasMatch_x2 c_re g))]; exact k25), (fun a9 e9 h7 h8 => fr26 _ _ (fun q => h7 (by simp only [List.mem_cons, List.not_mem_nil, or_false] at q ⊢; first | exact q | (rcases q with q <;> simp [q]) | omega)) (hup hf18 (fun q => h7 (by rw [q]; simp)) (h8)))⟩)
        · refine lv_tableIn (off := 79) (tgt := 124) hx hb dX9_now_45 (by rw [w34]; decide) (by rw [w34]; decide) (by rw [w34]; rfl) (by decide) ?_
          refine lv_aload_n hx hb dX9_now_124 rfl (lv_at hl 1 rfl) ?_
          refine g_get C0 G k25 rfl hiX9 2 (by decide) mf_X9_9 rfl dX9_now_125 ?_
          refine lv_bipush (v := 10) hx hb dX9_now_128 (by decide) ?_
          refine g_iald C0 G k28 0 rfl (by unfold vp_in; decide) dX9_now_130 ?_
          refine lv_topv (v := g 10) rfl ?_
          exact g_iret C0 G hr dX9_now_131 (Nat.le_of_ble_eq_true rfl) (Nat.le_of_ble_eq_true rfl) (by exact ⟨(by rw [X9_now_r1, if_neg c20, if_neg c27, if_neg nw29, if_neg nw30, if_neg nw31, if_neg nw32, if_neg nw33, if_pos w34]), (by rw [(by rw [X9_now_x2, if_neg c20] : (X9_now_x2 g what) = (X9_hasMatch_x1 (X9_now_x0 what) g 2)), (by rw [X9_now_x3, if_neg c20] : (X9_now_x3 c_re g what) = (X9_hasMatch_x2 c_re g))]; exact k25), (fun a9 e9 h7 h8 => fr26 _ _ (fun q => h7 (by simp only [List.mem_cons, List.not_mem_nil, or_false] at q ⊢; first | exact q | (rcases q with q <;> simp [q]) | omega)) (hup hf18 (fun q => h7 (by rw [q]; simp)) (h8)))⟩)
        · refine lv_tableIn (off := 87) (tgt := 132) hx hb dX9_now_45 (by rw [w35]; decide) (by rw [w35]; decide) (by rw [w35]; rfl) (by decide) ?_
          refine lv_aload_n hx hb dX9_now_132 rfl (lv_at hl 1 rfl) ?_
          refine g_cI C0 G (g_runV C0 G (rest := []) (k_X9_next hfl k25 k28 h4 hi) k25 rfl hY_X9_next mm_X9_136 mi_X9_next ml_X9_next ⟨(Nat.le_of_ble_eq_true rfl), (Nat.le_of_ble_eq_true rfl)⟩ rfl hl.1 rfl (Nat.le_of_ble_eq_true rfl) dX9_now_133 ⟨(Nat.le_of_ble_eq_true rfl), (Nat.le_of_ble_eq_true rfl)⟩) (kx_no rfl) (fun r43 u42 H locs hp41 G => ?_)
          obtain ⟨zr, eu42⟩ := hp41
          replace zr := Eq.symm zr
          subst zr
          rw [eu42] at G
          exact g_iret C0 G hr dX9_now_136 (Nat.le_of_ble_eq_true rfl) (Nat.le_of_ble_eq_true rfl) (by exact ⟨(by rw [X9_now_r1, if_neg c20, if_neg c27, if_neg nw29, if_neg nw30, if_neg nw31, if_neg nw32, if_neg nw33, if_neg nw34, if_pos w35]), (by rw [(by rw [X9_now_x2, if_neg c20] : (X9_now_x2 g what) = (X9_hasMatch_x1 (X9_now_x0 what) g 2)), (by rw [X9_now_x3, if_neg c20] : (X9_now_x3 c_re g what) = (X9_hasMatch_x2 c_re g))]; exact k25), (fun a9 e9 h7 h8 => fr26 _ _ (fun q => h7 (by simp only [List.mem_cons, List.not_mem_nil, or_false] at q ⊢; first | exact q | (rcases q with q <;> simp [q]) | omega)) (hup hf18 (fun q => h7 (by rw [q]; simp)) (h8)))⟩)
        · refine lv_tableIn (off := 92) (tgt := 137) hx hb dX9_now_45 (by rw [w36]; decide) (by rw [w36]; decide) (by rw [w36]; rfl) (by decide) ?_
          refine lv_aload_n hx hb dX9_now_137 rfl (lv_at hl 1 rfl) ?_
          refine g_get C0 G k25 rfl hiX9 2 (by decide) mf_X9_9 rfl dX9_now_138 ?_
          refine lv_bipush (v := 13) hx hb dX9_now_141 (by decide) ?_
          refine g_iald C0 G k28 0 rfl (by unfold vp_in; decide) dX9_now_143 ?_
          refine lv_topv (v := g 13) rfl ?_
          exact g_iret C0 G hr dX9_now_144 (Nat.le_of_ble_eq_true rfl) (Nat.le_of_ble_eq_true rfl) (by exact ⟨(by rw [X9_now_r1, if_neg c20, if_neg c27, if_neg nw29, if_neg nw30, if_neg nw31, if_neg nw32, if_neg nw33, if_neg nw34, if_neg nw35, if_pos w36]), (by rw [(by rw [X9_now_x2, if_neg c20] : (X9_now_x2 g what) = (X9_hasMatch_x1 (X9_now_x0 what) g 2)), (by rw [X9_now_x3, if_neg c20] : (X9_now_x3 c_re g what) = (X9_hasMatch_x2 c_re g))]; exact k25), (fun a9 e9 h7 h8 => fr26 _ _ (fun q => h7 (by simp only [List.mem_cons, List.not_mem_nil, or_false] at q ⊢; first | exact q | (rcases q with q <;> simp [q]) | omega)) (hup hf18 (fun q => h7 (by rw [q]; simp)) (h8)))⟩)
        · have q44 : what.toInt < 0 ∨ 7 < what.toInt := by
            have tw29 : what.toInt ≠ 0 := fun z => nw29 (Int32.toInt_inj.mp z)
            have tw30 : what.toInt ≠ 1 := fun z => nw30 (Int32.toInt_inj.mp z)
            have tw31 : what.toInt ≠ 2 := fun z => nw31 (Int32.toInt_inj.mp z)
            have tw32 : what.toInt ≠ 3 := fun z => nw32 (Int32.toInt_inj.mp z)
            have tw33 : what.toInt ≠ 4 := fun z => nw33 (Int32.toInt_inj.mp z)
            have tw34 : what.toInt ≠ 5 := fun z => nw34 (Int32.toInt_inj.mp z)
            have tw35 : what.toInt ≠ 6 := fun z => nw35 (Int32.toInt_inj.mp z)
            have tw36 : what.toInt ≠ 7 := fun z => nw36 (Int32.toInt_inj.mp z)
            omega
          refine lv_tableOut (tgt := 145) hx hb dX9_now_45 q44 (by decide) ?_
          refine lv_aload_n hx hb dX9_now_145 rfl (lv_at hl 1 rfl) ?_
          refine g_get C0 G k25 rfl hiX9 2 (by decide) mf_X9_9 rfl dX9_now_146 ?_
          refine lv_bipush (v := 14) hx hb dX9_now_149 (by decide) ?_
          refine lv_iload_n hx hb dX9_now_151 rfl (lv_at hl 0 rfl) ?_
          refine lv_iadd hx hb dX9_now_152 ?_
          refine lv_topv (v := nI (14 + i)) ((nI_add _ _)) ?_
          refine g_iald C0 G k28 0 rfl (vp_in_nI (by omega) (by omega)) dX9_now_153 ?_
          refine lv_topv (v := g (14 + i)) (congrArg g (nI_c (by omega))) ?_
          exact g_iret C0 G hr dX9_now_154 (Nat.le_of_ble_eq_true rfl) (Nat.le_of_ble_eq_true rfl) (by exact ⟨(by rw [X9_now_r1, if_neg c20, if_neg c27, if_neg nw29, if_neg nw30, if_neg nw31, if_neg nw32, if_neg nw33, if_neg nw34, if_neg nw35, if_neg nw36]), (by rw [(by rw [X9_now_x2, if_neg c20] : (X9_now_x2 g what) = (X9_hasMatch_x1 (X9_now_x0 what) g 2)), (by rw [X9_now_x3, if_neg c20] : (X9_now_x3 c_re g what) = (X9_hasMatch_x2 c_re g))]; exact k25), (fun a9 e9 h7 h8 => fr26 _ _ (fun q => h7 (by simp only [List.mem_cons, List.not_mem_nil, or_false] at q ⊢; first | exact q | (rcases q with q <;> simp [q]) | omega)) (hup hf18 (fun q => h7 (by rw [q]; simp)) (h8)))⟩)
      · refine lv_iconst (v := 0) hx hb dX9_now_35 (by decide) ?_
        exact g_iret C0 G hr dX9_now_36 (Nat.le_of_ble_eq_true rfl) (Nat.le_of_ble_eq_true rfl) (by exact ⟨(by rw [X9_now_r1, if_neg c20, if_pos c27]), (by rw [(by rw [X9_now_x2, if_neg c20] : (X9_now_x2 g what) = (X9_hasMatch_x1 (X9_now_x0 what) g 2)), (by rw [X9_now_x3, if_neg c20] : (X9_now_x3 c_re g what) = (X9_hasMatch_x2 c_re g))]; exact k25), (fun a9 e9 h7 h8 => fr26 _ _ (fun q => h7 (by simp only [List.mem_cons, List.not_mem_nil, or_false] at q ⊢; first | exact q | (rcases q with q <;> simp [q]) | omega)) (hup hf18 (fun q => h7 (by rw [q]; simp)) (h8)))⟩)
  refine lv_if_eq (tgt := 15) hx hb dX9_now_8 (by decide) (fun c14 => ?_) (fun c14 => ?_)
  · refine lv_iconst (v := 1) hx hb dX9_now_15 (by decide) ?_
    exact J16 1 (by rw [X9_now_x0, if_pos c14]) _ _ _ G (lv_sub hl [0, 1] rfl)
  · refine lv_iconst (v := 0) hx hb dX9_now_11 (by decide) ?_
    refine lv_goto (tgt := 16) hx hb dX9_now_12 (by decide) ?_
    exact J16 0 (by rw [X9_now_x0, if_neg c14]) _ _ _ G (lv_sub hl [0, 1] rfl)
def X9_needed_x0 (g : Nat → Int32) (i : Nat) (e : Nat) : Int32 := if 0 ≤ ((X9_target_r1 g e) - (g (25 + 11 * i + 0))) then ((X9_target_r1 g e) - (g (25 + 11 * i + 0))) else 0
def X9_needed_x1 (g : Nat → Int32) (tg : Int32) (i : Nat) (e : Nat) : Int32 := if tg = 0 then (X9_needed_x0 g i e) else (X9_target_r1 g e)
def X9_needed_r2 (g : Nat → Int32) (tg : Int32) (i : Nat) (e : Nat) : Int32 := if (X9_hasMatch_r0 g) = 0 then 0 else (if (nI (2 * e - 1)) ≤ (nI i) then (X9_needed_x1 g tg i e) else 0)
def X9_needed_x3 (g : Nat → Int32) (i : Nat) (e : Nat) : Int32 := if (X9_hasMatch_r0 g) = 0 then (X9_hasMatch_x1 0 g 1) else (if (nI (2 * e - 1)) ≤ (nI i) then (X9_hasMatch_x1 0 g 1) else 2)
set_option maxRecDepth 100000 in
theorem k_X9_needed {l : Launch} (hfl : l.stackTraces = false) {D : va_G} {cy : Nat → ClassId} {f : Hf} {sz : Nat} {m : Nat} {v : Nat} {im : Nat} {kp : Nat} {pa : Nat} {de : Nat} {ide : Nat} {tx : Nat} {pt : Nat} {so : Nat} {mo : Nat} {wh : Nat} {pf : Nat} {c_th : Int32} {c_re : Int32} {c_un : Int32} {c_hi : Int32} {c_tn : Int32} {c_fa : Int32} {c_rf : Int32} {c_ps : Int32} {c_pl : Int32} {c_to : Int32} {g : Nat → Int32} (tg : Int32) {i : Nat} {e : Nat} (h_m : f m = some (.inr (11, [.int c_th, .int c_re, .ref v, .ref im, .ref kp, .ref pa, .ref de, .ref ide, .int c_un, .int c_hi, .ref tx, .int c_tn, .int c_fa, .int c_rf, .ref pt, .int c_ps, .int c_pl, .int c_to, .ref so, .ref mo, .ref wh, .ref pf]))) (h_v : f v = some (.inl (cy 0, 6441, .inl g))) (h4 : g 4 = nI i) (hi : i < 4) (h1 : g 1 = nI e) (he : e = 1 ∨ e = 2) (hie : i + 1 ≤ 2 * e) (hrr : i + 1 = 2 * e → e = 2 ∨ ¬ (g 14).toInt64 = 0) (hb_tg : tg = 0 ∨ tg = 1) : hMet l yX9_needed cX9_needed 3 (some .int) { frames := 2, cells := 0, slots := 0, locals := 47 } D (hTy cy) f sz [.ref m, .int tg] (hQi (fun r u => r = (X9_needed_r2 g tg i e) ∧ u m = some (.inr (11, [.int (X9_needed_x3 g i e), .int (X9_hasMatch_x2 c_re g), .ref v, .ref im, .ref kp, .ref pa, .ref de, .ref ide, .int c_un, .int c_hi, .ref tx, .int c_tn, .int c_fa, .int c_rf, .ref pt, .int c_ps, .int c_pl, .int c_to, .ref so, .ref mo, .ref wh, .ref pf])) ∧ hFrL f u [m]) D f sz) hNo := by
  refine h_enter (by decide) hfl (Nat.le_of_ble_eq_true rfl) ?_
  intro p9 e9 s9 m9 b9 t9 c9 hsz C0 hr hnm G ls hl
  have hx := C0.1.1
  have hb := C0.1.2.1
  have hl : lv_has ls 3 [(0, .ref m), (1, .int tg)] := hl
  refine lv_aload_n hx hb dX9_needed_0 rfl (lv_at hl 0 rfl) ?_
  refine lv_iconst (v := 0) hx hb dX9_needed_1 (by decide) ?_
  refine g_put C0 G h_m rfl hiX9 tyX9 tyX9_ok nmX9 0 (by decide) mf_X9_55 rfl rfl rfl rfl (Nat.le_of_ble_eq_true rfl) dX9_needed_2 (fun H locs f11 hf11 G => ?_)
  have k12 : f11 m = some (.inr (11, [.int 0, .int c_re, .ref v, .ref im, .ref kp, .ref pa, .ref de, .ref ide, .int c_un, .int c_hi, .ref tx, .int c_tn, .int c_fa, .int c_rf, .ref pt, .int c_ps, .int c_pl, .int c_to, .ref so, .ref mo, .ref wh, .ref pf])) := hus hf11
  refine lv_aload_n hx hb dX9_needed_5 rfl (lv_at hl 0 rfl) ?_
  refine lv_iconst (v := 1) hx hb dX9_needed_6 (by decide) ?_
  have k13 : f11 v = some (.inl (cy 0, 6441, .inl g)) := hup hf11 (hne h_v h_m (by intro q; cases q)) h_v
  refine g_cI C0 G (g_runV C0 G (rest := []) (k_X9_hasMatch hfl 1 k12 k13) k12 rfl hY_X9_hasMatch mm_X9_221 mi_X9_hasMatch ml_X9_hasMatch ⟨(Nat.le_of_ble_eq_true rfl), (Nat.le_of_ble_eq_true rfl)⟩ rfl hl.1 rfl (Nat.le_of_ble_eq_true rfl) dX9_needed_7 ⟨(Nat.le_of_ble_eq_true rfl), (Nat.le_of_ble_eq_true rfl)⟩) (kx_no rfl) (fun r16 u15 H locs hp14 G => ?_)
  obtain ⟨zr, k17, fr18⟩ := hp14
  replace zr := Eq.symm zr
  subst zr
  refine lv_if_ne (tgt := 15) hx hb dX9_needed_10 (by decide) (fun c19 => ?_) (fun c19 => ?_)
  · refine lv_aload_n hx hb dX9_needed_15 rfl (lv_at hl 0 rfl) ?_
    refine g_get C0 G k17 rfl hiX9 2 (by decide) mf_X9_9 rfl dX9_needed_16 ?_
    refine lv_iconst (v := 4) hx hb dX9_needed_19 (by decide) ?_
    have k20 : u15 v = some (.inl (cy 0, 6441, .inl g)) := fr18 _ _ (by simp only [List.mem_cons, List.not_mem_nil, or_false]; intro q; exact (hne k13 k12 (by intro q; cases q)) q) k13
    refine g_iald C0 G k20 0 rfl (by unfold vp_in; decide) dX9_needed_20 ?_
    refine lv_topv (v := g 4) rfl ?_
    refine lv_topv (v := nI i) (h4) ?_
    refine lv_aload_n hx hb dX9_needed_21 rfl (lv_at hl 0 rfl) ?_
    refine g_cI C0 G (g_runV C0 G (rest := [.int (nI i)]) (k_X9_last hfl k17 k20) k17 rfl hY_X9_last mm_X9_95 mi_X9_last ml_X9_last ⟨(Nat.le_of_ble_eq_true rfl), (Nat.le_of_ble_eq_true rfl)⟩ rfl hl.1 rfl (Nat.le_of_ble_eq_true rfl) dX9_needed_22 ⟨(Nat.le_of_ble_eq_true rfl), (Nat.le_of_ble_eq_true rfl)⟩) (kx_no rfl) (fun r23 u22 H locs hp21 G => ?_)
    obtain ⟨zr, eu22⟩ := hp21
    replace zr := Eq.symm zr
    subst zr
    rw [eu22] at G
    refine lv_topv (v := nI (2 * e - 1)) (last_n h1 (by omega)) ?_
    refine lv_icmp_ge (tgt := 34) hx hb dX9_needed_25 (by decide) (fun c24 => ?_) (fun c24 => ?_)
    · have n25 : (2 * e - 1) ≤ i := (nI_leI (a := (2 * e - 1)) (b := i) (by omega) (by omega)).mp c24
      refine lv_aload_n hx hb dX9_needed_34 rfl (lv_at hl 0 rfl) ?_
      refine g_cI C0 G (g_runV C0 G (rest := []) (k_X9_target hfl k17 k20 h1 he (by first | exact hrr (by omega) | exact Or.inl (by omega))) k17 rfl hY_X9_target mm_X9_99 mi_X9_target ml_X9_target ⟨(Nat.le_of_ble_eq_true rfl), (Nat.le_of_ble_eq_true rfl)⟩ rfl hl.1 rfl (Nat.le_of_ble_eq_true rfl) dX9_needed_35 ⟨(Nat.le_of_ble_eq_true rfl), (Nat.le_of_ble_eq_true rfl)⟩) (kx_no rfl) (fun r28 u27 H locs hp26 G => ?_)
      obtain ⟨zr, eu27⟩ := hp26
      replace zr := Eq.symm zr
      subst zr
      rw [eu27] at G
      refine lv_aload_n hx hb dX9_needed_38 rfl (lv_at hl 0 rfl) ?_
      refine g_get C0 G k17 rfl hiX9 2 (by decide) mf_X9_9 rfl dX9_needed_39 ?_
      refine lv_aload_n hx hb dX9_needed_42 rfl (lv_at hl 0 rfl) ?_
      refine g_get C0 G k17 rfl hiX9 2 (by decide) mf_X9_9 rfl dX9_needed_43 ?_
      refine lv_iconst (v := 4) hx hb dX9_needed_46 (by decide) ?_
      refine g_iald C0 G k20 0 rfl (by unfold vp_in; decide) dX9_needed_47 ?_
      refine lv_topv (v := g 4) rfl ?_
      refine lv_topv (v := nI i) (h4) ?_
      refine lv_iconst (v := 0) hx hb dX9_needed_48 (by decide) ?_
      refine g_cI C0 G (g_runS C0 G (rest := [.ref v, .int (X9_target_r1 g e)]) (k_X9_at hfl (nI i) 0 ) hY_X9_at mm_X9_62 ms_X9_at ⟨(Nat.le_of_ble_eq_true rfl), (Nat.le_of_ble_eq_true rfl)⟩ rfl hl.1 rfl (Nat.le_of_ble_eq_true rfl) dX9_needed_49 ⟨(Nat.le_of_ble_eq_true rfl), (Nat.le_of_ble_eq_true rfl)⟩) (kx_no rfl) (fun r31 u30 H locs hp29 G => ?_)
      obtain ⟨zr, eu30⟩ := hp29
      replace zr := Eq.symm zr
      subst zr
      rw [eu30] at G
      refine lv_topv (v := nI (25 + 11 * i + 0)) (at_n i 0) ?_
      refine g_iald C0 G k20 0 rfl (vp_in_nI (by omega) (by omega)) dX9_needed_52 ?_
      refine lv_topv (v := g (25 + 11 * i + 0)) (congrArg g (nI_c (by omega))) ?_
      refine lv_isub hx hb dX9_needed_53 ?_
      refine lv_istore_n (lv' := [(2, .int ((X9_target_r1 g e) - (g (25 + 11 * i + 0)))), (0, .ref m), (1, .int tg)]) hx hb dX9_needed_54 rfl hl (by decide) rfl (fun ls hl => ?_)
      refine lv_iload_n hx hb dX9_needed_55 rfl (lv_at hl 2 rfl) ?_
      have J34 : ∀ (y33 : Int32) (_ : y33 = (X9_needed_x1 g tg i e)) (H : Heap) (locs : List Loc) (ls : Array Slot), hG D (hA f sz) u15 s9 H locs → lv_has ls 3 [(2, .int ((X9_target_r1 g e) - (g (25 + 11 * i + 0)))), (0, .ref m), (1, .int tg)] → W p9 l e9 ({ frames := 2, cells := 0, slots := 0, locals := 47 } : Room) s9 m9 ([.ref m, .int tg] : List Value).toArray b9 t9 c9 H locs 0 0 (vx_MQ b9 (hQi (fun r u => r = (X9_needed_r2 g tg i e) ∧ u m = some (.inr (11, [.int (X9_needed_x3 g i e), .int (X9_hasMatch_x2 c_re g), .ref v, .ref im, .ref kp, .ref pa, .ref de, .ref ide, .int c_un, .int c_hi, .ref tx, .int c_tn, .int c_fa, .int c_rf, .ref pt, .int c_ps, .int c_pl, .int c_to, .ref so, .ref mo, .ref wh, .ref pf])) ∧ hFrL f u [m]) D f sz) (hPx hNo D f sz) ([.ref m, .int tg] : List Value).toArray s9 0 0 (hA f sz)) (F0 m9 75 ls [.int y33]) := by
        intro y33 ey33 H locs ls G hl
        replace ey33 := Eq.symm ey33
        subst ey33
        exact g_iret C0 G hr dX9_needed_75 (Nat.le_of_ble_eq_true rfl) (Nat.le_of_ble_eq_true rfl) (by exact ⟨(by rw [X9_needed_r2, if_neg c19, if_pos c24]), (by rw [(by rw [X9_needed_x3, if_neg c19, if_pos c24] : (X9_needed_x3 g i e) = (X9_hasMatch_x1 0 g 1))]; exact k17), (fun a9 e9 h7 h8 => fr18 _ _ (fun q => h7 (by simp only [List.mem_cons, List.not_mem_nil, or_false] at q ⊢; first | exact q | (rcases q with q <;> simp [q]) | omega)) (hup hf11 (fun q => h7 (by rw [q]; simp)) (h8)))⟩)
      refine lv_if_eq (tgt := 66) hx hb dX9_needed_56 (by decide) (fun c32 => ?_) (fun c32 => ?_)
      · refine lv_iload_n hx hb dX9_needed_66 rfl (lv_at hl 0 rfl) ?_
        have J38 : ∀ (y37 : Int32) (_ : y37 = (X9_needed_x0 g i e)) (H : Heap) (locs : List Loc) (ls : Array Slot), hG D (hA f sz) u15 s9 H locs → lv_has ls 3 [(2, .int ((X9_target_r1 g e) - (g (25 + 11 * i + 0)))), (0, .ref m), (1, .int tg)] → W p9 l e9 ({ frames := 2, cells := 0, slots := 0, locals := 47 } : Room) s9 m9 ([.ref m, .int tg] : List Value).toArray b9 t9 c9 H locs 0 0 (vx_MQ b9 (hQi (fun r u => r = (X9_needed_r2 g tg i e) ∧ u m = some (.inr (11, [.int (X9_needed_x3 g i e), .int (X9_hasMatch_x2 c_re g), .ref v, .ref im, .ref kp, .ref pa, .ref de, .ref ide, .int c_un, .int c_hi, .ref tx, .int c_tn, .int c_fa, .int c_rf, .ref pt, .int c_ps, .int c_pl, .int c_to, .ref so, .ref mo, .ref wh, .ref pf])) ∧ hFrL f u [m]) D f sz) (hPx hNo D f sz) ([.ref m, .int tg] : List Value).toArray s9 0 0 (hA f sz)) (F0 m9 75 ls [.int y37]) := by
          intro y37 ey37 H locs ls G hl
          replace ey37 := Eq.symm ey37
          subst ey37
          exact J34 (X9_needed_x0 g i e) (by rw [X9_needed_x1, if_pos c32]) _ _ _ G (lv_sub hl [0, 1, 2] rfl)
        refine lv_if_ge (tgt := 74) hx hb dX9_needed_67 (by decide) (fun c36 => ?_) (fun c36 => ?_)
        · refine lv_iload_n hx hb dX9_needed_74 rfl (lv_at hl 0 rfl) ?_
          exact J38 ((X9_target_r1 g e) - (g (25 + 11 * i + 0))) (by rw [X9_needed_x0, if_pos c36]) _ _ _ G (lv_sub hl [0, 1, 2] rfl)
        · refine lv_iconst (v := 0) hx hb dX9_needed_70 (by decide) ?_
          refine lv_goto (tgt := 75) hx hb dX9_needed_71 (by decide) ?_
          exact J38 0 (by rw [X9_needed_x0, if_neg c36]) _ _ _ G (lv_sub hl [0, 1, 2] rfl)
      · refine lv_aload_n hx hb dX9_needed_59 rfl (lv_at hl 1 rfl) ?_
        refine g_cI C0 G (g_runV C0 G (rest := []) (k_X9_target hfl k17 k20 h1 he (by first | exact hrr (by omega) | exact Or.inl (by omega))) k17 rfl hY_X9_target mm_X9_99 mi_X9_target ml_X9_target ⟨(Nat.le_of_ble_eq_true rfl), (Nat.le_of_ble_eq_true rfl)⟩ rfl hl.1 rfl (Nat.le_of_ble_eq_true rfl) dX9_needed_60 ⟨(Nat.le_of_ble_eq_true rfl), (Nat.le_of_ble_eq_true rfl)⟩) (kx_no rfl) (fun r42 u41 H locs hp40 G => ?_)
        obtain ⟨zr, eu41⟩ := hp40
        replace zr := Eq.symm zr
        subst zr
        rw [eu41] at G
        refine lv_goto (tgt := 75) hx hb dX9_needed_63 (by decide) ?_
        exact J34 (X9_target_r1 g e) (by rw [X9_needed_x1, if_neg c32]) _ _ _ G (lv_sub hl [0, 1, 2] rfl)
    · have n43 : ¬ (2 * e - 1) ≤ i := fun q => c24 ((nI_leI (a := (2 * e - 1)) (b := i) (by omega) (by omega)).mpr q)
      refine lv_aload_n hx hb dX9_needed_28 rfl (lv_at hl 0 rfl) ?_
      refine lv_iconst (v := 2) hx hb dX9_needed_29 (by decide) ?_
      refine g_cI C0 G (g_runV C0 G (rest := []) (k_X9_no hfl 2 k17) k17 rfl hY_X9_no mm_X9_169 mi_X9_no ml_X9_no ⟨(Nat.le_of_ble_eq_true rfl), (Nat.le_of_ble_eq_true rfl)⟩ rfl hl.1 rfl (Nat.le_of_ble_eq_true rfl) dX9_needed_30 ⟨(Nat.le_of_ble_eq_true rfl), (Nat.le_of_ble_eq_true rfl)⟩) (kx_no rfl) (fun r46 u45 H locs hp44 G => ?_)
      obtain ⟨zr, k47, fr48⟩ := hp44
      replace zr := Eq.symm zr
      subst zr
      exact g_iret C0 G hr dX9_needed_33 (Nat.le_of_ble_eq_true rfl) (Nat.le_of_ble_eq_true rfl) (by exact ⟨(by rw [X9_needed_r2, if_neg c19, if_neg c24]), (by rw [(by rw [X9_needed_x3, if_neg c19, if_neg c24] : (X9_needed_x3 g i e) = 2)]; exact k47), (fun a9 e9 h7 h8 => fr48 _ _ (fun q => h7 (by simp only [List.mem_cons, List.not_mem_nil, or_false] at q ⊢; first | exact q | (rcases q with q <;> simp [q]) | omega)) (fr18 _ _ (fun q => h7 (by simp only [List.mem_cons, List.not_mem_nil, or_false] at q ⊢; first | exact q | (rcases q with q <;> simp [q]) | omega)) (hup hf11 (fun q => h7 (by rw [q]; simp)) (h8))))⟩)
  · refine lv_iconst (v := 0) hx hb dX9_needed_13 (by decide) ?_
    exact g_iret C0 G hr dX9_needed_14 (Nat.le_of_ble_eq_true rfl) (Nat.le_of_ble_eq_true rfl) (by exact ⟨(by rw [X9_needed_r2, if_pos c19]), (by rw [(by rw [X9_needed_x3, if_pos c19] : (X9_needed_x3 g i e) = (X9_hasMatch_x1 0 g 1))]; exact k17), (fun a9 e9 h7 h8 => fr18 _ _ (fun q => h7 (by simp only [List.mem_cons, List.not_mem_nil, or_false] at q ⊢; first | exact q | (rcases q with q <;> simp [q]) | omega)) (hup hf11 (fun q => h7 (by rw [q]; simp)) (h8)))⟩)
def X9_result_x0 (g : Nat → Int32) (i : Nat) (e : Nat) : Int32 := if (g (25 + 11 * i + 0)) = ((X9_target_r1 g e) - 1) then 3 else (2 - (X9_team_r0 g (nI (2 * e - 1))))
def X9_result_x1 (g : Nat → Int32) (i : Nat) (e : Nat) : Int32 := if (g (25 + 11 * i + 0)) < (X9_target_r1 g e) then (X9_result_x0 g i e) else (1 + (X9_team_r0 g (nI (2 * e - 1))))
def X9_result_r2 (g : Nat → Int32) (i : Nat) (e : Nat) : Int32 := if (g 0) = 0 then 0 else (if (g 5) = 0 then 0 else (if (nI (2 * e - 1)) ≤ (nI i) then (X9_result_x1 g i e) else (1 + (X9_team_r0 g (nI (2 * e - 1))))))
set_option maxRecDepth 100000 in
theorem k_X9_result {l : Launch} (hfl : l.stackTraces = false) {D : va_G} {cy : Nat → ClassId} {f : Hf} {sz : Nat} {m : Nat} {v : Nat} {im : Nat} {kp : Nat} {pa : Nat} {de : Nat} {ide : Nat} {tx : Nat} {pt : Nat} {so : Nat} {mo : Nat} {wh : Nat} {pf : Nat} {c_th : Int32} {c_re : Int32} {c_un : Int32} {c_hi : Int32} {c_tn : Int32} {c_fa : Int32} {c_rf : Int32} {c_ps : Int32} {c_pl : Int32} {c_to : Int32} {g : Nat → Int32} {i : Nat} {e : Nat} (h_m : f m = some (.inr (11, [.int c_th, .int c_re, .ref v, .ref im, .ref kp, .ref pa, .ref de, .ref ide, .int c_un, .int c_hi, .ref tx, .int c_tn, .int c_fa, .int c_rf, .ref pt, .int c_ps, .int c_pl, .int c_to, .ref so, .ref mo, .ref wh, .ref pf]))) (h_v : f v = some (.inl (cy 0, 6441, .inl g))) (h4 : g 4 = nI i) (hi : i < 4) (h1 : g 1 = nI e) (he : e = 1 ∨ e = 2) (hie : i + 1 ≤ 2 * e) (hrr : i + 1 = 2 * e → e = 2 ∨ ¬ (g 14).toInt64 = 0) : hMet l yX9_result cX9_result 3 (some .int) { frames := 2, cells := 0, slots := 0, locals := 47 } D (hTy cy) f sz [.ref m] (hQi (fun r u => r = (X9_result_r2 g i e) ∧ u m = some (.inr (11, [.int 0, .int c_re, .ref v, .ref im, .ref kp, .ref pa, .ref de, .ref ide, .int c_un, .int c_hi, .ref tx, .int c_tn, .int c_fa, .int c_rf, .ref pt, .int c_ps, .int c_pl, .int c_to, .ref so, .ref mo, .ref wh, .ref pf])) ∧ hFrL f u [m]) D f sz) hNo := by
  refine h_enter (by decide) hfl (Nat.le_of_ble_eq_true rfl) ?_
  intro p9 e9 s9 m9 b9 t9 c9 hsz C0 hr hnm G ls hl
  have hx := C0.1.1
  have hb := C0.1.2.1
  have hl : lv_has ls 3 [(0, .ref m)] := hl
  refine lv_aload_n hx hb dX9_result_0 rfl (lv_at hl 0 rfl) ?_
  refine lv_iconst (v := 0) hx hb dX9_result_1 (by decide) ?_
  refine g_put C0 G h_m rfl hiX9 tyX9 tyX9_ok nmX9 0 (by decide) mf_X9_55 rfl rfl rfl rfl (Nat.le_of_ble_eq_true rfl) dX9_result_2 (fun H locs f11 hf11 G => ?_)
  have k12 : f11 m = some (.inr (11, [.int 0, .int c_re, .ref v, .ref im, .ref kp, .ref pa, .ref de, .ref ide, .int c_un, .int c_hi, .ref tx, .int c_tn, .int c_fa, .int c_rf, .ref pt, .int c_ps, .int c_pl, .int c_to, .ref so, .ref mo, .ref wh, .ref pf])) := hus hf11
  refine lv_aload_n hx hb dX9_result_5 rfl (lv_at hl 0 rfl) ?_
  refine g_get C0 G k12 rfl hiX9 2 (by decide) mf_X9_9 rfl dX9_result_6 ?_
  refine lv_iconst (v := 0) hx hb dX9_result_9 (by decide) ?_
  have k13 : f11 v = some (.inl (cy 0, 6441, .inl g)) := hup hf11 (hne h_v h_m (by intro q; cases q)) h_v
  refine g_iald C0 G k13 0 rfl (by unfold vp_in; decide) dX9_result_10 ?_
  refine lv_topv (v := g 0) rfl ?_
  refine lv_if_eq (tgt := 23) hx hb dX9_result_11 (by decide) (fun c14 => ?_) (fun c14 => ?_)
  · refine lv_iconst (v := 0) hx hb dX9_result_23 (by decide) ?_
    exact g_iret C0 G hr dX9_result_24 (Nat.le_of_ble_eq_true rfl) (Nat.le_of_ble_eq_true rfl) (by exact ⟨(by rw [X9_result_r2, if_pos c14]), k12, (fun a9 e9 h7 h8 => hup hf11 (fun q => h7 (by rw [q]; simp)) (h8))⟩)
  · refine lv_aload_n hx hb dX9_result_14 rfl (lv_at hl 0 rfl) ?_
    refine g_get C0 G k12 rfl hiX9 2 (by decide) mf_X9_9 rfl dX9_result_15 ?_
    refine lv_iconst (v := 5) hx hb dX9_result_18 (by decide) ?_
    refine g_iald C0 G k13 0 rfl (by unfold vp_in; decide) dX9_result_19 ?_
    refine lv_topv (v := g 5) rfl ?_
    refine lv_if_ne (tgt := 25) hx hb dX9_result_20 (by decide) (fun c15 => ?_) (fun c15 => ?_)
    · refine lv_aload_n hx hb dX9_result_25 rfl (lv_at hl 0 rfl) ?_
      refine lv_aload_n hx hb dX9_result_26 rfl (lv_at hl 0 rfl) ?_
      refine g_cI C0 G (g_runV C0 G (rest := [.ref m]) (k_X9_last hfl k12 k13) k12 rfl hY_X9_last mm_X9_95 mi_X9_last ml_X9_last ⟨(Nat.le_of_ble_eq_true rfl), (Nat.le_of_ble_eq_true rfl)⟩ rfl hl.1 rfl (Nat.le_of_ble_eq_true rfl) dX9_result_27 ⟨(Nat.le_of_ble_eq_true rfl), (Nat.le_of_ble_eq_true rfl)⟩) (kx_no rfl) (fun r18 u17 H locs hp16 G => ?_)
      obtain ⟨zr, eu17⟩ := hp16
      replace zr := Eq.symm zr
      subst zr
      rw [eu17] at G
      refine lv_topv (v := nI (2 * e - 1)) (last_n h1 (by omega)) ?_
      refine g_cI C0 G (g_runV C0 G (rest := []) (k_X9_team hfl (nI (2 * e - 1)) k12 k13) k12 rfl hY_X9_team mm_X9_224 mi_X9_team ml_X9_team ⟨(Nat.le_of_ble_eq_true rfl), (Nat.le_of_ble_eq_true rfl)⟩ rfl hl.1 rfl (Nat.le_of_ble_eq_true rfl) dX9_result_30 ⟨(Nat.le_of_ble_eq_true rfl), (Nat.le_of_ble_eq_true rfl)⟩) (kx_no rfl) (fun r21 u20 H locs hp19 G => ?_)
      obtain ⟨zr, eu20⟩ := hp19
      replace zr := Eq.symm zr
      subst zr
      rw [eu20] at G
      refine lv_istore_n (lv' := [(1, .int (X9_team_r0 g (nI (2 * e - 1)))), (0, .ref m)]) hx hb dX9_result_33 rfl hl (by decide) rfl (fun ls hl => ?_)
      refine lv_aload_n hx hb dX9_result_34 rfl (lv_at hl 1 rfl) ?_
      refine g_get C0 G k12 rfl hiX9 2 (by decide) mf_X9_9 rfl dX9_result_35 ?_
      refine lv_iconst (v := 4) hx hb dX9_result_38 (by decide) ?_
      refine g_iald C0 G k13 0 rfl (by unfold vp_in; decide) dX9_result_39 ?_
      refine lv_topv (v := g 4) rfl ?_
      refine lv_topv (v := nI i) (h4) ?_
      refine lv_aload_n hx hb dX9_result_40 rfl (lv_at hl 1 rfl) ?_
      refine g_cI C0 G (g_runV C0 G (rest := [.int (nI i)]) (k_X9_last hfl k12 k13) k12 rfl hY_X9_last mm_X9_95 mi_X9_last ml_X9_last ⟨(Nat.le_of_ble_eq_true rfl), (Nat.le_of_ble_eq_true rfl)⟩ rfl hl.1 rfl (Nat.le_of_ble_eq_true rfl) dX9_result_41 ⟨(Nat.le_of_ble_eq_true rfl), (Nat.le_of_ble_eq_true rfl)⟩) (kx_no rfl) (fun r24 u23 H locs hp22 G => ?_)
      obtain ⟨zr, eu23⟩ := hp22
      replace zr := Eq.symm zr
      subst zr
      rw [eu23] at G
      refine lv_topv (v := nI (2 * e - 1)) (last_n h1 (by omega)) ?_
      refine lv_icmp_ge (tgt := 51) hx hb dX9_result_44 (by decide) (fun c25 => ?_) (fun c25 => ?_)
      · have n26 : (2 * e - 1) ≤ i := (nI_leI (a := (2 * e - 1)) (b := i) (by omega) (by omega)).mp c25
        refine lv_aload_n hx hb dX9_result_51 rfl (lv_at hl 1 rfl) ?_
        refine g_get C0 G k12 rfl hiX9 2 (by decide) mf_X9_9 rfl dX9_result_52 ?_
        refine lv_aload_n hx hb dX9_result_55 rfl (lv_at hl 1 rfl) ?_
        refine g_get C0 G k12 rfl hiX9 2 (by decide) mf_X9_9 rfl dX9_result_56 ?_
        refine lv_iconst (v := 4) hx hb dX9_result_59 (by decide) ?_
        refine g_iald C0 G k13 0 rfl (by unfold vp_in; decide) dX9_result_60 ?_
        refine lv_topv (v := g 4) rfl ?_
        refine lv_topv (v := nI i) (h4) ?_
        refine lv_iconst (v := 0) hx hb dX9_result_61 (by decide) ?_
        refine g_cI C0 G (g_runS C0 G (rest := [.ref v]) (k_X9_at hfl (nI i) 0 ) hY_X9_at mm_X9_62 ms_X9_at ⟨(Nat.le_of_ble_eq_true rfl), (Nat.le_of_ble_eq_true rfl)⟩ rfl hl.1 rfl (Nat.le_of_ble_eq_true rfl) dX9_result_62 ⟨(Nat.le_of_ble_eq_true rfl), (Nat.le_of_ble_eq_true rfl)⟩) (kx_no rfl) (fun r29 u28 H locs hp27 G => ?_)
        obtain ⟨zr, eu28⟩ := hp27
        replace zr := Eq.symm zr
        subst zr
        rw [eu28] at G
        refine lv_topv (v := nI (25 + 11 * i + 0)) (at_n i 0) ?_
        refine g_iald C0 G k13 0 rfl (vp_in_nI (by omega) (by omega)) dX9_result_65 ?_
        refine lv_topv (v := g (25 + 11 * i + 0)) (congrArg g (nI_c (by omega))) ?_
        refine lv_istore_n (lv' := [(2, .int (g (25 + 11 * i + 0))), (1, .int (X9_team_r0 g (nI (2 * e - 1)))), (0, .ref m)]) hx hb dX9_result_66 rfl hl (by decide) rfl (fun ls hl => ?_)
        refine lv_iload_n hx hb dX9_result_67 rfl (lv_at hl 0 rfl) ?_
        refine lv_aload_n hx hb dX9_result_68 rfl (lv_at hl 2 rfl) ?_
        refine g_cI C0 G (g_runV C0 G (rest := [.int (g (25 + 11 * i + 0))]) (k_X9_target hfl k12 k13 h1 he (by first | exact hrr (by omega) | exact Or.inl (by omega))) k12 rfl hY_X9_target mm_X9_99 mi_X9_target ml_X9_target ⟨(Nat.le_of_ble_eq_true rfl), (Nat.le_of_ble_eq_true rfl)⟩ rfl hl.1 rfl (Nat.le_of_ble_eq_true rfl) dX9_result_69 ⟨(Nat.le_of_ble_eq_true rfl), (Nat.le_of_ble_eq_true rfl)⟩) (kx_no rfl) (fun r32 u31 H locs hp30 G => ?_)
        obtain ⟨zr, eu31⟩ := hp30
        replace zr := Eq.symm zr
        subst zr
        rw [eu31] at G
        have J35 : ∀ (y34 : Int32) (_ : y34 = (X9_result_x1 g i e)) (H : Heap) (locs : List Loc) (ls : Array Slot), hG D (hA f sz) f11 s9 H locs → lv_has ls 3 [(2, .int (g (25 + 11 * i + 0))), (1, .int (X9_team_r0 g (nI (2 * e - 1)))), (0, .ref m)] → W p9 l e9 ({ frames := 2, cells := 0, slots := 0, locals := 47 } : Room) s9 m9 ([.ref m] : List Value).toArray b9 t9 c9 H locs 0 0 (vx_MQ b9 (hQi (fun r u => r = (X9_result_r2 g i e) ∧ u m = some (.inr (11, [.int 0, .int c_re, .ref v, .ref im, .ref kp, .ref pa, .ref de, .ref ide, .int c_un, .int c_hi, .ref tx, .int c_tn, .int c_fa, .int c_rf, .ref pt, .int c_ps, .int c_pl, .int c_to, .ref so, .ref mo, .ref wh, .ref pf])) ∧ hFrL f u [m]) D f sz) (hPx hNo D f sz) ([.ref m] : List Value).toArray s9 0 0 (hA f sz)) (F0 m9 98 ls [.int y34]) := by
          intro y34 ey34 H locs ls G hl
          replace ey34 := Eq.symm ey34
          subst ey34
          exact g_iret C0 G hr dX9_result_98 (Nat.le_of_ble_eq_true rfl) (Nat.le_of_ble_eq_true rfl) (by exact ⟨(by rw [X9_result_r2, if_neg c14, if_neg c15, if_pos c25]), k12, (fun a9 e9 h7 h8 => hup hf11 (fun q => h7 (by rw [q]; simp)) (h8))⟩)
        refine lv_icmp_lt (tgt := 81) hx hb dX9_result_72 (by decide) (fun c33 => ?_) (fun c33 => ?_)
        · refine lv_iload_n hx hb dX9_result_81 rfl (lv_at hl 0 rfl) ?_
          refine lv_aload_n hx hb dX9_result_82 rfl (lv_at hl 2 rfl) ?_
          refine g_cI C0 G (g_runV C0 G (rest := [.int (g (25 + 11 * i + 0))]) (k_X9_target hfl k12 k13 h1 he (by first | exact hrr (by omega) | exact Or.inl (by omega))) k12 rfl hY_X9_target mm_X9_99 mi_X9_target ml_X9_target ⟨(Nat.le_of_ble_eq_true rfl), (Nat.le_of_ble_eq_true rfl)⟩ rfl hl.1 rfl (Nat.le_of_ble_eq_true rfl) dX9_result_83 ⟨(Nat.le_of_ble_eq_true rfl), (Nat.le_of_ble_eq_true rfl)⟩) (kx_no rfl) (fun r39 u38 H locs hp37 G => ?_)
          obtain ⟨zr, eu38⟩ := hp37
          replace zr := Eq.symm zr
          subst zr
          rw [eu38] at G
          refine lv_iconst (v := 1) hx hb dX9_result_86 (by decide) ?_
          refine lv_isub hx hb dX9_result_87 ?_
          have J42 : ∀ (y41 : Int32) (_ : y41 = (X9_result_x0 g i e)) (H : Heap) (locs : List Loc) (ls : Array Slot), hG D (hA f sz) f11 s9 H locs → lv_has ls 3 [(2, .int (g (25 + 11 * i + 0))), (1, .int (X9_team_r0 g (nI (2 * e - 1)))), (0, .ref m)] → W p9 l e9 ({ frames := 2, cells := 0, slots := 0, locals := 47 } : Room) s9 m9 ([.ref m] : List Value).toArray b9 t9 c9 H locs 0 0 (vx_MQ b9 (hQi (fun r u => r = (X9_result_r2 g i e) ∧ u m = some (.inr (11, [.int 0, .int c_re, .ref v, .ref im, .ref kp, .ref pa, .ref de, .ref ide, .int c_un, .int c_hi, .ref tx, .int c_tn, .int c_fa, .int c_rf, .ref pt, .int c_ps, .int c_pl, .int c_to, .ref so, .ref mo, .ref wh, .ref pf])) ∧ hFrL f u [m]) D f sz) (hPx hNo D f sz) ([.ref m] : List Value).toArray s9 0 0 (hA f sz)) (F0 m9 98 ls [.int y41]) := by
            intro y41 ey41 H locs ls G hl
            replace ey41 := Eq.symm ey41
            subst ey41
            exact J35 (X9_result_x0 g i e) (by rw [X9_result_x1, if_pos c33]) _ _ _ G (lv_sub hl [0, 1, 2] rfl)
          refine lv_icmp_ne (tgt := 95) hx hb dX9_result_88 (by decide) (fun c40 => ?_) (fun c40 => ?_)
          · refine lv_iconst (v := 2) hx hb dX9_result_95 (by decide) ?_
            refine lv_iload_n hx hb dX9_result_96 rfl (lv_at hl 1 rfl) ?_
            refine lv_isub hx hb dX9_result_97 ?_
            exact J42 (2 - (X9_team_r0 g (nI (2 * e - 1)))) (by rw [X9_result_x0, if_neg c40]) _ _ _ G (lv_sub hl [0, 1, 2] rfl)
          · refine lv_iconst (v := 3) hx hb dX9_result_91 (by decide) ?_
            refine lv_goto (tgt := 98) hx hb dX9_result_92 (by decide) ?_
            exact J42 3 (by rw [X9_result_x0, if_pos c40]) _ _ _ G (lv_sub hl [0, 1, 2] rfl)
        · refine lv_iconst (v := 1) hx hb dX9_result_75 (by decide) ?_
          refine lv_iload_n hx hb dX9_result_76 rfl (lv_at hl 1 rfl) ?_
          refine lv_iadd hx hb dX9_result_77 ?_
          refine lv_goto (tgt := 98) hx hb dX9_result_78 (by decide) ?_
          exact J35 (1 + (X9_team_r0 g (nI (2 * e - 1)))) (by rw [X9_result_x1, if_neg c33]) _ _ _ G (lv_sub hl [0, 1, 2] rfl)
      · have n44 : ¬ (2 * e - 1) ≤ i := fun q => c25 ((nI_leI (a := (2 * e - 1)) (b := i) (by omega) (by omega)).mpr q)
        refine lv_iconst (v := 1) hx hb dX9_result_47 (by decide) ?_
        refine lv_iload_n hx hb dX9_result_48 rfl (lv_at hl 0 rfl) ?_
        refine lv_iadd hx hb dX9_result_49 ?_
        exact g_iret C0 G hr dX9_result_50 (Nat.le_of_ble_eq_true rfl) (Nat.le_of_ble_eq_true rfl) (by exact ⟨(by rw [X9_result_r2, if_neg c14, if_neg c15, if_neg c25]), k12, (fun a9 e9 h7 h8 => hup hf11 (fun q => h7 (by rw [q]; simp)) (h8))⟩)
    · refine lv_iconst (v := 0) hx hb dX9_result_23 (by decide) ?_
      exact g_iret C0 G hr dX9_result_24 (Nat.le_of_ble_eq_true rfl) (Nat.le_of_ble_eq_true rfl) (by exact ⟨(by rw [X9_result_r2, if_neg c14, if_pos c15]), k12, (fun a9 e9 h7 h8 => hup hf11 (fun q => h7 (by rw [q]; simp)) (h8))⟩)
