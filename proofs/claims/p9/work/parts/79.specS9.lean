def cpoF (g : Nat → UInt32) (o : Nat) (s : Nat → UInt32) (n : Nat) : Nat → UInt32 := fun j => if o ≤ j ∧ j < o + n then s (j - o) else g j
theorem cpoF_0 (g : Nat → UInt32) (o : Nat) (s : Nat → UInt32) : cpoF g o s 0 = g := by funext j; simp only [cpoF]; rw [if_neg (by omega)]
theorem cpoF_s (g : Nat → UInt32) (o : Nat) (s : Nat → UInt32) (n : Nat) : vf_upd (cpoF g o s n) (o + n) (s n) = cpoF g o s (n + 1) := by
  funext j
  by_cases h : j = o + n
  · subst h; simp only [vf_upd, cpoF, if_true]; rw [if_pos (by omega), show o + n - o = n by omega]
  · simp only [vf_upd, cpoF, if_neg h]
    by_cases h2 : o ≤ j ∧ j < o + n
    · rw [if_pos h2, if_pos (by omega)]
    · rw [if_neg h2, if_neg (by omega)]
set_option maxRecDepth 100000 in
theorem k_X9_storeOversB {l : Launch} (hfl : l.stackTraces = false) {D : va_G} {cy : Nat → ClassId} {f : Hf} {sz : Nat} {m : Nat} {v : Nat} {im : Nat} {kp : Nat} {pa : Nat} {de : Nat} {ide : Nat} {tx : Nat} {pt : Nat} {so : Nat} {mo : Nat} {wh : Nat} {pf : Nat} {c_th : Int32} {c_re : Int32} {c_un : Int32} {c_hi : Int32} {c_tn : Int32} {c_fa : Int32} {c_rf : Int32} {c_ps : Int32} {c_pl : Int32} {c_to : Int32} {g : Nat → Int32} (row : Int32) (i9 : Int32) (ex : Int32) (h_m : f m = some (.inr (11, [.int c_th, .int c_re, .ref v, .ref im, .ref kp, .ref pa, .ref de, .ref ide, .int c_un, .int c_hi, .ref tx, .int c_tn, .int c_fa, .int c_rf, .ref pt, .int c_ps, .int c_pl, .int c_to, .ref so, .ref mo, .ref wh, .ref pf]))) (h_v : f v = some (.inl (cy 0, 6441, .inl g))) (hrb : X9_isIn_x1 row 0 1 = 0) (hb_ex : ex = 0 ∨ ex = 1) : hMet l yX9_storeOvers cX9_storeOvers 7 (some .int) { frames := 1, cells := 0, slots := 0, locals := 22 } D (hTy cy) f sz [.ref m, .int row, .int i9, .int ex] (hQi (fun r u => r = 0 ∧ u m = some (.inr (11, [.int 1, .int c_re, .ref v, .ref im, .ref kp, .ref pa, .ref de, .ref ide, .int c_un, .int c_hi, .ref tx, .int c_tn, .int c_fa, .int c_rf, .ref pt, .int c_ps, .int c_pl, .int c_to, .ref so, .ref mo, .ref wh, .ref pf])) ∧ hFrL f u [m]) D f sz) hNo := by
  refine h_enter (by decide) hfl (Nat.le_of_ble_eq_true rfl) ?_
  intro p9 e9 s9 m9 b9 t9 c9 hsz C0 hr hnm G ls hl
  have hx := C0.1.1
  have hb := C0.1.2.1
  have hl : lv_has ls 7 [(0, .ref m), (1, .int row), (2, .int i9), (3, .int ex)] := hl
  refine lv_aload_n hx hb dX9_storeOvers_0 rfl (lv_at hl 0 rfl) ?_
  refine lv_iload_n hx hb dX9_storeOvers_1 rfl (lv_at hl 1 rfl) ?_
  refine lv_iconst (v := 0) hx hb dX9_storeOvers_2 (by decide) ?_
  refine lv_iconst (v := 1) hx hb dX9_storeOvers_3 (by decide) ?_
  refine g_cI C0 G (g_runS C0 G (rest := [.ref m]) (k_X9_isIn hfl row 0 1 ) hY_X9_isIn mm_X9_76 ms_X9_isIn ⟨(Nat.le_of_ble_eq_true rfl), (Nat.le_of_ble_eq_true rfl)⟩ rfl hl.1 rfl (Nat.le_of_ble_eq_true rfl) dX9_storeOvers_4 ⟨(Nat.le_of_ble_eq_true rfl), (Nat.le_of_ble_eq_true rfl)⟩) (kx_no rfl) (fun r13 u12 H locs hp11 G => ?_)
  obtain ⟨zr, eu12⟩ := hp11
  replace zr := Eq.symm zr
  subst zr
  rw [eu12] at G
  refine lv_topv (v := 0) (hrb) ?_
  refine lv_if_eq (tgt := 22) hx hb dX9_storeOvers_7 (by decide) (fun _ => ?_) (fun c14 => absurd (by decide) c14)
  refine lv_iconst (v := 1) hx hb dX9_storeOvers_22 (by decide) ?_
  refine g_put C0 G h_m rfl hiX9 tyX9 tyX9_ok nmX9 0 (by decide) mf_X9_55 rfl rfl rfl rfl (Nat.le_of_ble_eq_true rfl) dX9_storeOvers_23 (fun H locs f15 hf15 G => ?_)
  have k16 : f15 m = some (.inr (11, [.int 1, .int c_re, .ref v, .ref im, .ref kp, .ref pa, .ref de, .ref ide, .int c_un, .int c_hi, .ref tx, .int c_tn, .int c_fa, .int c_rf, .ref pt, .int c_ps, .int c_pl, .int c_to, .ref so, .ref mo, .ref wh, .ref pf])) := hus hf15
  refine lv_aload_n hx hb dX9_storeOvers_26 rfl (lv_at hl 0 rfl) ?_
  refine g_get C0 G k16 rfl hiX9 0 (by decide) mf_X9_55 rfl dX9_storeOvers_27 ?_
  refine lv_iconst (v := 1) hx hb dX9_storeOvers_30 (by decide) ?_
  refine lv_icmp_ne (tgt := 36) hx hb dX9_storeOvers_31 (by decide) (fun c17 => absurd (by decide) c17) (fun _ => ?_)
  refine lv_iconst (v := 0) hx hb dX9_storeOvers_34 (by decide) ?_
  exact g_iret C0 G hr dX9_storeOvers_35 (Nat.le_of_ble_eq_true rfl) (Nat.le_of_ble_eq_true rfl) (by exact ⟨rfl, k16, (fun a9 e9 h7 h8 => hup hf15 (fun q => h7 (by rw [q]; simp)) (h8))⟩)
set_option maxRecDepth 100000 in
theorem k_X9_storeOversN {l : Launch} (hfl : l.stackTraces = false) {D : va_G} {cy : Nat → ClassId} {f : Hf} {sz : Nat} {m : Nat} {v : Nat} {im : Nat} {kp : Nat} {pa : Nat} {de : Nat} {ide : Nat} {tx : Nat} {pt : Nat} {so : Nat} {mo : Nat} {wh : Nat} {pf : Nat} {c_th : Int32} {c_re : Int32} {c_un : Int32} {c_hi : Int32} {c_tn : Int32} {c_fa : Int32} {c_rf : Int32} {c_ps : Int32} {c_pl : Int32} {c_to : Int32} {g : Nat → Int32} (row : Int32) (i9 : Int32) (ex : Int32) (h_m : f m = some (.inr (11, [.int c_th, .int c_re, .ref v, .ref im, .ref kp, .ref pa, .ref de, .ref ide, .int c_un, .int c_hi, .ref tx, .int c_tn, .int c_fa, .int c_rf, .ref pt, .int c_ps, .int c_pl, .int c_to, .ref so, .ref mo, .ref wh, .ref pf]))) (h_v : f v = some (.inl (cy 0, 6441, .inl g))) (hry : X9_isIn_x1 row 0 1 = 1) (hno : X9_isInnings_x1 g i9 = 0) (hb_ex : ex = 0 ∨ ex = 1) : hMet l yX9_storeOvers cX9_storeOvers 7 (some .int) { frames := 2, cells := 0, slots := 0, locals := 43 } D (hTy cy) f sz [.ref m, .int row, .int i9, .int ex] (hQi (fun r u => r = 0 ∧ u m = some (.inr (11, [.int 1, .int c_re, .ref v, .ref im, .ref kp, .ref pa, .ref de, .ref ide, .int c_un, .int c_hi, .ref tx, .int c_tn, .int c_fa, .int c_rf, .ref pt, .int c_ps, .int c_pl, .int c_to, .ref so, .ref mo, .ref wh, .ref pf])) ∧ hFrL f u [m]) D f sz) hNo := by
  refine h_enter (by decide) hfl (Nat.le_of_ble_eq_true rfl) ?_
  intro p9 e9 s9 m9 b9 t9 c9 hsz C0 hr hnm G ls hl
  have hx := C0.1.1
  have hb := C0.1.2.1
  have hl : lv_has ls 7 [(0, .ref m), (1, .int row), (2, .int i9), (3, .int ex)] := hl
  refine lv_aload_n hx hb dX9_storeOvers_0 rfl (lv_at hl 0 rfl) ?_
  refine lv_iload_n hx hb dX9_storeOvers_1 rfl (lv_at hl 1 rfl) ?_
  refine lv_iconst (v := 0) hx hb dX9_storeOvers_2 (by decide) ?_
  refine lv_iconst (v := 1) hx hb dX9_storeOvers_3 (by decide) ?_
  refine g_cI C0 G (g_runS C0 G (rest := [.ref m]) (k_X9_isIn hfl row 0 1 ) hY_X9_isIn mm_X9_76 ms_X9_isIn ⟨(Nat.le_of_ble_eq_true rfl), (Nat.le_of_ble_eq_true rfl)⟩ rfl hl.1 rfl (Nat.le_of_ble_eq_true rfl) dX9_storeOvers_4 ⟨(Nat.le_of_ble_eq_true rfl), (Nat.le_of_ble_eq_true rfl)⟩) (kx_no rfl) (fun r13 u12 H locs hp11 G => ?_)
  obtain ⟨zr, eu12⟩ := hp11
  replace zr := Eq.symm zr
  subst zr
  rw [eu12] at G
  refine lv_topv (v := 1) (hry) ?_
  refine lv_if_eq (tgt := 22) hx hb dX9_storeOvers_7 (by decide) (fun c14 => absurd c14 (by decide)) (fun _ => ?_)
  refine lv_aload_n hx hb dX9_storeOvers_10 rfl (lv_at hl 0 rfl) ?_
  refine lv_iload_n hx hb dX9_storeOvers_11 rfl (lv_at hl 2 rfl) ?_
  refine g_cI C0 G (g_runV C0 G (rest := [.ref m]) (k_X9_isInnings hfl i9 h_m h_v) h_m rfl hY_X9_isInnings mm_X9_227 mi_X9_isInnings ml_X9_isInnings ⟨(Nat.le_of_ble_eq_true rfl), (Nat.le_of_ble_eq_true rfl)⟩ rfl hl.1 rfl (Nat.le_of_ble_eq_true rfl) dX9_storeOvers_12 ⟨(Nat.le_of_ble_eq_true rfl), (Nat.le_of_ble_eq_true rfl)⟩) (kx_no rfl) (fun r17 u16 H locs hp15 G => ?_)
  obtain ⟨zr, eu16⟩ := hp15
  replace zr := Eq.symm zr
  subst zr
  rw [eu16] at G
  refine lv_topv (v := 0) (hno) ?_
  refine lv_if_eq (tgt := 22) hx hb dX9_storeOvers_15 (by decide) (fun _ => ?_) (fun c18 => absurd (by decide) c18)
  refine lv_iconst (v := 1) hx hb dX9_storeOvers_22 (by decide) ?_
  refine g_put C0 G h_m rfl hiX9 tyX9 tyX9_ok nmX9 0 (by decide) mf_X9_55 rfl rfl rfl rfl (Nat.le_of_ble_eq_true rfl) dX9_storeOvers_23 (fun H locs f19 hf19 G => ?_)
  have k20 : f19 m = some (.inr (11, [.int 1, .int c_re, .ref v, .ref im, .ref kp, .ref pa, .ref de, .ref ide, .int c_un, .int c_hi, .ref tx, .int c_tn, .int c_fa, .int c_rf, .ref pt, .int c_ps, .int c_pl, .int c_to, .ref so, .ref mo, .ref wh, .ref pf])) := hus hf19
  refine lv_aload_n hx hb dX9_storeOvers_26 rfl (lv_at hl 0 rfl) ?_
  refine g_get C0 G k20 rfl hiX9 0 (by decide) mf_X9_55 rfl dX9_storeOvers_27 ?_
  refine lv_iconst (v := 1) hx hb dX9_storeOvers_30 (by decide) ?_
  refine lv_icmp_ne (tgt := 36) hx hb dX9_storeOvers_31 (by decide) (fun c21 => absurd (by decide) c21) (fun _ => ?_)
  refine lv_iconst (v := 0) hx hb dX9_storeOvers_34 (by decide) ?_
  exact g_iret C0 G hr dX9_storeOvers_35 (Nat.le_of_ble_eq_true rfl) (Nat.le_of_ble_eq_true rfl) (by exact ⟨rfl, k20, (fun a9 e9 h7 h8 => hup hf19 (fun q => h7 (by rw [q]; simp)) (h8))⟩)
def X9_storeOvers0_n0 (ex : Int32) : Nat := if ex = 0 then 2 else 1
def X9_storeOvers0_g1 (gs : Nat → Int32) (ex : Int32) : Nat → Int32 := upd gs 0 (nI (X9_storeOvers0_n0 ex))
def X9_storeOvers0_g2 (gm : Nat → Int32) (cm : Nat) (bg : Nat) : Nat → Int32 := upd gm 0 (nI (cm + bg))
def X9_storeOvers0_x3 (g : Nat → Int32) (ii : Nat) (cm : Nat) (jj : Nat) : Int32 := if (nI cm) ≤ (nI jj) then (g (25 + 11 * ii + 0)) else (g (761 + 20 * ii + jj))
def X9_storeOvers0_r4 (cm : Nat) (bg : Nat) : Int32 := nI (cm + bg)
def X9_storeOvers0_g5 (g : Nat → Int32) (gw : Nat → Int32) (ii : Nat) (cm : Nat) (bg : Nat) : Nat → Int32 := cpo gw 0 (X9_storeOvers0_x3 g ii cm) (cm + bg)
def X9_storeOvers0_g6 (g : Nat → Int32) (gf : Nat → UInt32) (ii : Nat) (cm : Nat) (bg : Nat) : Nat → UInt32 := cpoF gf 0 (fun k => FP.fdiv (FP.i2f ((X9_storeOvers0_x3 g ii cm) k)) (FP.i2f (nI (k + 1)))) (cm + bg)
set_option maxRecDepth 100000 in
theorem k_X9_storeOvers0 {l : Launch} (hfl : l.stackTraces = false) {D : va_G} {cy : Nat → ClassId} {f : Hf} {sz : Nat} {m : Nat} {v : Nat} {im : Nat} {kp : Nat} {pa : Nat} {de : Nat} {ide : Nat} {tx : Nat} {pt : Nat} {so : Nat} {mo : Nat} {wh : Nat} {pf : Nat} {c_th : Int32} {c_re : Int32} {c_un : Int32} {c_hi : Int32} {c_tn : Int32} {c_fa : Int32} {c_rf : Int32} {c_ps : Int32} {c_pl : Int32} {c_to : Int32} {g : Nat → Int32} {gs : Nat → Int32} {gm : Nat → Int32} {gw : Nat → Int32} {gf : Nat → UInt32} {i9 : Int32} (ex : Int32) {ii : Nat} {cm : Nat} {bg : Nat} (h_m : f m = some (.inr (11, [.int c_th, .int c_re, .ref v, .ref im, .ref kp, .ref pa, .ref de, .ref ide, .int c_un, .int c_hi, .ref tx, .int c_tn, .int c_fa, .int c_rf, .ref pt, .int c_ps, .int c_pl, .int c_to, .ref so, .ref mo, .ref wh, .ref pf]))) (h_v : f v = some (.inl (cy 0, 6441, .inl g))) (h_so : f so = some (.inl (cy 0, 2, .inl gs))) (h_mo : f mo = some (.inl (cy 0, 2, .inl gm))) (h_wh : f wh = some (.inl (cy 0, 42, .inl gw))) (h_pf : f pf = some (.inl (cy 2, 42, .inr (.inr (.inl gf))))) (hii : ii < 4) (hyes : X9_isInnings_x1 g (nI ii) = 1) (hcm : g (25 + 11 * ii + 8) = nI cm) (hbg : g (25 + 11 * ii + 10) = nI bg) (hcb : cm + bg ≤ 20) (hb_ex : ex = 0 ∨ ex = 1) (hsm : so ≠ mo) : hMet l yX9_storeOvers cX9_storeOvers 7 (some .int) { frames := 2, cells := 0, slots := 0, locals := 43 } D (hTy cy) f sz [.ref m, .int 0, .int (nI ii), .int ex] (hQi (fun r u => r = (X9_storeOvers0_r4 cm bg) ∧ u m = some (.inr (11, [.int 0, .int c_re, .ref v, .ref im, .ref kp, .ref pa, .ref de, .ref ide, .int c_un, .int c_hi, .ref tx, .int c_tn, .int c_fa, .int c_rf, .ref pt, .int c_ps, .int c_pl, .int c_to, .ref so, .ref mo, .ref wh, .ref pf])) ∧ u so = some (.inl (cy 0, 2, .inl (X9_storeOvers0_g1 gs ex))) ∧ u mo = some (.inl (cy 0, 2, .inl (X9_storeOvers0_g2 gm cm bg))) ∧ u wh = some (.inl (cy 0, 42, .inl (X9_storeOvers0_g5 g gw ii cm bg))) ∧ u pf = some (.inl (cy 2, 42, .inr (.inr (.inl (X9_storeOvers0_g6 g gf ii cm bg))))) ∧ hFrL f u [m, so, mo, wh, pf]) D f sz) hNo := by
  refine h_enter (by decide) hfl (Nat.le_of_ble_eq_true rfl) ?_
  intro p9 e9 s9 m9 b9 t9 c9 hsz C0 hr hnm G ls hl
  have hx := C0.1.1
  have hb := C0.1.2.1
  have hl : lv_has ls 7 [(0, .ref m), (1, .int 0), (2, .int (nI ii)), (3, .int ex)] := hl
  refine lv_aload_n hx hb dX9_storeOvers_0 rfl (lv_at hl 0 rfl) ?_
  refine lv_iload_n hx hb dX9_storeOvers_1 rfl (lv_at hl 1 rfl) ?_
  refine lv_iconst (v := 0) hx hb dX9_storeOvers_2 (by decide) ?_
  refine lv_iconst (v := 1) hx hb dX9_storeOvers_3 (by decide) ?_
  refine g_cI C0 G (g_runS C0 G (rest := [.ref m]) (k_X9_isIn hfl 0 0 1 ) hY_X9_isIn mm_X9_76 ms_X9_isIn ⟨(Nat.le_of_ble_eq_true rfl), (Nat.le_of_ble_eq_true rfl)⟩ rfl hl.1 rfl (Nat.le_of_ble_eq_true rfl) dX9_storeOvers_4 ⟨(Nat.le_of_ble_eq_true rfl), (Nat.le_of_ble_eq_true rfl)⟩) (kx_no rfl) (fun r13 u12 H locs hp11 G => ?_)
  obtain ⟨zr, eu12⟩ := hp11
  replace zr := Eq.symm zr
  subst zr
  rw [eu12] at G
  refine lv_topv (v := 1) (by decide) ?_
  refine lv_if_eq (tgt := 22) hx hb dX9_storeOvers_7 (by decide) (fun c14 => absurd c14 (by decide)) (fun _ => ?_)
  refine lv_aload_n hx hb dX9_storeOvers_10 rfl (lv_at hl 0 rfl) ?_
  refine lv_iload_n hx hb dX9_storeOvers_11 rfl (lv_at hl 2 rfl) ?_
  refine g_cI C0 G (g_runV C0 G (rest := [.ref m]) (k_X9_isInnings hfl (nI ii) h_m h_v) h_m rfl hY_X9_isInnings mm_X9_227 mi_X9_isInnings ml_X9_isInnings ⟨(Nat.le_of_ble_eq_true rfl), (Nat.le_of_ble_eq_true rfl)⟩ rfl hl.1 rfl (Nat.le_of_ble_eq_true rfl) dX9_storeOvers_12 ⟨(Nat.le_of_ble_eq_true rfl), (Nat.le_of_ble_eq_true rfl)⟩) (kx_no rfl) (fun r17 u16 H locs hp15 G => ?_)
  obtain ⟨zr, eu16⟩ := hp15
  replace zr := Eq.symm zr
  subst zr
  rw [eu16] at G
  refine lv_topv (v := 1) (hyes) ?_
  refine lv_if_eq (tgt := 22) hx hb dX9_storeOvers_15 (by decide) (fun c18 => absurd c18 (by decide)) (fun _ => ?_)
  refine lv_iconst (v := 0) hx hb dX9_storeOvers_18 (by decide) ?_
  refine lv_goto (tgt := 23) hx hb dX9_storeOvers_19 (by decide) ?_
  refine g_put C0 G h_m rfl hiX9 tyX9 tyX9_ok nmX9 0 (by decide) mf_X9_55 rfl rfl rfl rfl (Nat.le_of_ble_eq_true rfl) dX9_storeOvers_23 (fun H locs f19 hf19 G => ?_)
  have k20 : f19 m = some (.inr (11, [.int 0, .int c_re, .ref v, .ref im, .ref kp, .ref pa, .ref de, .ref ide, .int c_un, .int c_hi, .ref tx, .int c_tn, .int c_fa, .int c_rf, .ref pt, .int c_ps, .int c_pl, .int c_to, .ref so, .ref mo, .ref wh, .ref pf])) := hus hf19
  refine lv_aload_n hx hb dX9_storeOvers_26 rfl (lv_at hl 0 rfl) ?_
  refine g_get C0 G k20 rfl hiX9 0 (by decide) mf_X9_55 rfl dX9_storeOvers_27 ?_
  refine lv_iconst (v := 1) hx hb dX9_storeOvers_30 (by decide) ?_
  refine lv_icmp_ne (tgt := 36) hx hb dX9_storeOvers_31 (by decide) (fun _ => ?_) (fun c21 => absurd c21 (by decide))
  refine lv_aload_n hx hb dX9_storeOvers_36 rfl (lv_at hl 0 rfl) ?_
  refine g_get C0 G k20 rfl hiX9 2 (by decide) mf_X9_9 rfl dX9_storeOvers_37 ?_
  refine lv_iload_n hx hb dX9_storeOvers_40 rfl (lv_at hl 2 rfl) ?_
  refine lv_bipush (v := 8) hx hb dX9_storeOvers_41 (by decide) ?_
  refine g_cI C0 G (g_runS C0 G (rest := [.ref v]) (k_X9_at hfl (nI ii) 8 ) hY_X9_at mm_X9_62 ms_X9_at ⟨(Nat.le_of_ble_eq_true rfl), (Nat.le_of_ble_eq_true rfl)⟩ rfl hl.1 rfl (Nat.le_of_ble_eq_true rfl) dX9_storeOvers_43 ⟨(Nat.le_of_ble_eq_true rfl), (Nat.le_of_ble_eq_true rfl)⟩) (kx_no rfl) (fun r24 u23 H locs hp22 G => ?_)
  obtain ⟨zr, eu23⟩ := hp22
  replace zr := Eq.symm zr
  subst zr
  rw [eu23] at G
  refine lv_topv (v := nI (25 + 11 * ii + 8)) (at_n ii 8) ?_
  have k25 : f19 v = some (.inl (cy 0, 6441, .inl g)) := hup hf19 (hne h_v h_m (by intro q; cases q)) h_v
  refine g_iald C0 G k25 0 rfl (vp_in_nI (by omega) (by omega)) dX9_storeOvers_46 ?_
  refine lv_topv (v := g (25 + 11 * ii + 8)) (congrArg g (nI_c (by omega))) ?_
  refine lv_topv (v := nI cm) (hcm) ?_
  refine lv_istore (lv' := [(4, .int (nI cm)), (0, .ref m), (1, .int 0), (2, .int (nI ii)), (3, .int ex)]) hx hb dX9_storeOvers_47 hl (by decide) rfl (fun ls hl => ?_)
  refine lv_aload_n hx hb dX9_storeOvers_49 rfl (lv_at hl 1 rfl) ?_
  refine g_get C0 G k20 rfl hiX9 18 (by decide) mf_X9_42 rfl dX9_storeOvers_50 ?_
  refine lv_iload_n hx hb dX9_storeOvers_53 rfl (lv_at hl 2 rfl) ?_
  refine lv_iload_n hx hb dX9_storeOvers_54 rfl (lv_at hl 4 rfl) ?_
  have J28 : ∀ (y27 : Int32) (_ : y27 = nI (X9_storeOvers0_n0 ex)) (H : Heap) (locs : List Loc) (ls : Array Slot), hG D (hA f sz) f19 s9 H locs → lv_has ls 7 [(4, .int (nI cm)), (0, .ref m), (1, .int 0), (2, .int (nI ii)), (3, .int ex)] → W p9 l e9 ({ frames := 2, cells := 0, slots := 0, locals := 43 } : Room) s9 m9 ([.ref m, .int 0, .int (nI ii), .int ex] : List Value).toArray b9 t9 c9 H locs 0 0 (vx_MQ b9 (hQi (fun r u => r = (X9_storeOvers0_r4 cm bg) ∧ u m = some (.inr (11, [.int 0, .int c_re, .ref v, .ref im, .ref kp, .ref pa, .ref de, .ref ide, .int c_un, .int c_hi, .ref tx, .int c_tn, .int c_fa, .int c_rf, .ref pt, .int c_ps, .int c_pl, .int c_to, .ref so, .ref mo, .ref wh, .ref pf])) ∧ u so = some (.inl (cy 0, 2, .inl (X9_storeOvers0_g1 gs ex))) ∧ u mo = some (.inl (cy 0, 2, .inl (X9_storeOvers0_g2 gm cm bg))) ∧ u wh = some (.inl (cy 0, 42, .inl (X9_storeOvers0_g5 g gw ii cm bg))) ∧ u pf = some (.inl (cy 2, 42, .inr (.inr (.inl (X9_storeOvers0_g6 g gf ii cm bg))))) ∧ hFrL f u [m, so, mo, wh, pf]) D f sz) (hPx hNo D f sz) ([.ref m, .int 0, .int (nI ii), .int ex] : List Value).toArray s9 0 0 (hA f sz)) (F0 m9 63 ls [.int y27, .int 0, .ref so]) := by
    intro y27 ey27 H locs ls G hl
    replace ey27 := Eq.symm ey27
    subst ey27
    have bd30 : (X9_storeOvers0_n0 ex) ≤ 2 := by unfold X9_storeOvers0_n0; repeat (first | omega | split)
    have k31 : f19 so = some (.inl (cy 0, 2, .inl gs)) := hup hf19 (hne h_so h_m (by intro q; cases q)) h_so
    refine g_iast C0 G k31 0 rfl (by unfold vp_in; decide) dX9_storeOvers_63 (fun H locs f32 hf32 G => ?_)
    have k33 : f32 so = some (.inl (cy 0, 2, .inl (X9_storeOvers0_g1 gs ex))) := hus hf32
    refine lv_aload_n hx hb dX9_storeOvers_64 rfl (lv_at hl 1 rfl) ?_
    have k34 : f32 m = some (.inr (11, [.int 0, .int c_re, .ref v, .ref im, .ref kp, .ref pa, .ref de, .ref ide, .int c_un, .int c_hi, .ref tx, .int c_tn, .int c_fa, .int c_rf, .ref pt, .int c_ps, .int c_pl, .int c_to, .ref so, .ref mo, .ref wh, .ref pf])) := hup hf32 (hne k20 k31 (by intro q; cases q)) k20
    refine g_get C0 G k34 rfl hiX9 19 (by decide) mf_X9_45 rfl dX9_storeOvers_65 ?_
    refine lv_iload_n hx hb dX9_storeOvers_68 rfl (lv_at hl 2 rfl) ?_
    refine lv_iload hx hb dX9_storeOvers_69 (lv_at hl 0 rfl) ?_
    refine lv_aload_n hx hb dX9_storeOvers_71 rfl (lv_at hl 1 rfl) ?_
    refine g_get C0 G k34 rfl hiX9 2 (by decide) mf_X9_9 rfl dX9_storeOvers_72 ?_
    refine lv_iload_n hx hb dX9_storeOvers_75 rfl (lv_at hl 3 rfl) ?_
    refine lv_bipush (v := 10) hx hb dX9_storeOvers_76 (by decide) ?_
    refine g_cI C0 G (g_runS C0 G (rest := [.ref v, .int (nI cm), .int 0, .ref mo]) (k_X9_at hfl (nI ii) 10 ) hY_X9_at mm_X9_62 ms_X9_at ⟨(Nat.le_of_ble_eq_true rfl), (Nat.le_of_ble_eq_true rfl)⟩ rfl hl.1 rfl (Nat.le_of_ble_eq_true rfl) dX9_storeOvers_78 ⟨(Nat.le_of_ble_eq_true rfl), (Nat.le_of_ble_eq_true rfl)⟩) (kx_no rfl) (fun r37 u36 H locs hp35 G => ?_)
    obtain ⟨zr, eu36⟩ := hp35
    replace zr := Eq.symm zr
    subst zr
    rw [eu36] at G
    refine lv_topv (v := nI (25 + 11 * ii + 10)) (at_n ii 10) ?_
    have k38 : f32 v = some (.inl (cy 0, 6441, .inl g)) := hup hf32 (hne k25 k31 (by intro q; cases q)) k25
    refine g_iald C0 G k38 0 rfl (vp_in_nI (by omega) (by omega)) dX9_storeOvers_81 ?_
    refine lv_topv (v := g (25 + 11 * ii + 10)) (congrArg g (nI_c (by omega))) ?_
    refine lv_topv (v := nI bg) (hbg) ?_
    refine lv_iadd hx hb dX9_storeOvers_82 ?_
    refine lv_topv (v := nI (cm + bg)) ((nI_add _ _)) ?_
    have k39 : f32 mo = some (.inl (cy 0, 2, .inl gm)) := hup hf32 (Ne.symm hsm) (hup hf19 (hne h_mo h_m (by intro q; cases q)) h_mo)
    refine g_iast C0 G k39 0 rfl (by unfold vp_in; decide) dX9_storeOvers_83 (fun H locs f40 hf40 G => ?_)
    have k41 : f40 mo = some (.inl (cy 0, 2, .inl (X9_storeOvers0_g2 gm cm bg))) := hus hf40
    refine lv_iconst (v := 0) hx hb dX9_storeOvers_84 (by decide) ?_
    refine lv_istore (lv' := [(5, .int 0), (4, .int (nI cm)), (0, .ref m), (1, .int 0), (2, .int (nI ii)), (3, .int ex)]) hx hb dX9_storeOvers_85 hl (by decide) rfl (fun ls hl => ?_)
    have k42 : f40 wh = some (.inl (cy 0, 42, .inl gw)) := hup hf40 (hne (hup hf32 (hne (hup hf19 (hne h_wh h_m (by intro q; cases q)) h_wh) k31 (by intro q; cases q)) (hup hf19 (hne h_wh h_m (by intro q; cases q)) h_wh)) k39 (by intro q; cases q)) (hup hf32 (hne (hup hf19 (hne h_wh h_m (by intro q; cases q)) h_wh) k31 (by intro q; cases q)) (hup hf19 (hne h_wh h_m (by intro q; cases q)) h_wh))
    have k43 : f40 pf = some (.inl (cy 2, 42, .inr (.inr (.inl gf)))) := hup hf40 (hne (hup hf32 (hne (hup hf19 (hne h_pf h_m (by intro q; first | (cases q; done) | (simp at q; done))) h_pf) k31 (by intro q; first | (cases q; done) | (simp at q; done))) (hup hf19 (hne h_pf h_m (by intro q; first | (cases q; done) | (simp at q; done))) h_pf)) k39 (by intro q; first | (cases q; done) | (simp at q; done))) (hup hf32 (hne (hup hf19 (hne h_pf h_m (by intro q; first | (cases q; done) | (simp at q; done))) h_pf) k31 (by intro q; first | (cases q; done) | (simp at q; done))) (hup hf19 (hne h_pf h_m (by intro q; first | (cases q; done) | (simp at q; done))) h_pf))
    refine W.widen (k := 0) (n := 0) (Nat.le_of_ble_eq_true rfl) (Nat.le_of_ble_eq_true rfl) ?_
    have LOOP87 : ∀ (k : Nat) (jj : Nat) (f1 : Hf) (H : Heap) (locs : List Loc) (ls : Array Slot), (jj ≤ (cm + bg)) → ((cm + bg) - jj < k) → f1 wh = some (.inl (cy 0, 42, .inl (cpo gw 0 (X9_storeOvers0_x3 g ii cm) jj))) → f1 pf = some (.inl (cy 2, 42, .inr (.inr (.inl (cpoF gf 0 (fun k => FP.fdiv (FP.i2f ((X9_storeOvers0_x3 g ii cm) k)) (FP.i2f (nI (k + 1)))) jj))))) → hFrL f40 f1 [wh, pf] → hG D (hA f sz) f1 s9 H locs → lv_has ls 7 [(5, .int (nI jj)), (4, .int (nI cm)), (0, .ref m), (1, .int 0), (2, .int (nI ii)), (3, .int ex)] → W p9 l e9 ({ frames := 2, cells := 0, slots := 0, locals := 43 } : Room) s9 m9 ([.ref m, .int 0, .int (nI ii), .int ex] : List Value).toArray b9 t9 c9 H locs 0 0 (vx_MQ b9 (hQi (fun r u => r = (X9_storeOvers0_r4 cm bg) ∧ u m = some (.inr (11, [.int 0, .int c_re, .ref v, .ref im, .ref kp, .ref pa, .ref de, .ref ide, .int c_un, .int c_hi, .ref tx, .int c_tn, .int c_fa, .int c_rf, .ref pt, .int c_ps, .int c_pl, .int c_to, .ref so, .ref mo, .ref wh, .ref pf])) ∧ u so = some (.inl (cy 0, 2, .inl (X9_storeOvers0_g1 gs ex))) ∧ u mo = some (.inl (cy 0, 2, .inl (X9_storeOvers0_g2 gm cm bg))) ∧ u wh = some (.inl (cy 0, 42, .inl (X9_storeOvers0_g5 g gw ii cm bg))) ∧ u pf = some (.inl (cy 2, 42, .inr (.inr (.inl (X9_storeOvers0_g6 g gf ii cm bg))))) ∧ hFrL f u [m, so, mo, wh, pf]) D f sz) (hPx hNo D f sz) ([.ref m, .int 0, .int (nI ii), .int ex] : List Value).toArray s9 0 0 (hA f sz)) (F0 m9 87 ls []) := by
      intro k
      induction k with
      | zero =>
        intro jj f1 H locs ls hi2 hk h_wh1 h_pf1 hfr G hl
        exact absurd hk (by omega)
      | succ k ih =>
        intro jj f1 H locs ls hi2 hk h_wh1 h_pf1 hfr G hl
        refine lv_iload hx hb dX9_storeOvers_87 (lv_at hl 0 rfl) ?_
        refine lv_aload_n hx hb dX9_storeOvers_89 rfl (lv_at hl 2 rfl) ?_
        have k44 : f1 m = some (.inr (11, [.int 0, .int c_re, .ref v, .ref im, .ref kp, .ref pa, .ref de, .ref ide, .int c_un, .int c_hi, .ref tx, .int c_tn, .int c_fa, .int c_rf, .ref pt, .int c_ps, .int c_pl, .int c_to, .ref so, .ref mo, .ref wh, .ref pf])) := hfr _ _ (by simp only [List.mem_cons, List.not_mem_nil, or_false]; intro q; rcases q with q | q; exact (hne (hup hf40 (hne k34 k39 (by intro q; cases q)) k34) k42 (by intro q; cases q)) q; exact (hne (hup hf40 (hne k34 k39 (by intro q; cases q)) k34) k43 (by intro q; first | (cases q; done) | (simp at q; done))) q) (hup hf40 (hne k34 k39 (by intro q; cases q)) k34)
        refine g_get C0 G k44 rfl hiX9 19 (by decide) mf_X9_45 rfl dX9_storeOvers_90 ?_
        refine lv_iload_n hx hb dX9_storeOvers_93 rfl (lv_at hl 3 rfl) ?_
        have k45 : f1 mo = some (.inl (cy 0, 2, .inl (X9_storeOvers0_g2 gm cm bg))) := hfr _ _ (by simp only [List.mem_cons, List.not_mem_nil, or_false]; intro q; rcases q with q | q; exact (hne k41 k42 (by intro q; cases q)) q; exact (hne k41 k43 (by intro q; first | (cases q; done) | (simp at q; done))) q) k41
        refine g_iald C0 G k45 0 rfl (by unfold vp_in; decide) dX9_storeOvers_94 ?_
        refine lv_topv (v := (X9_storeOvers0_g2 gm cm bg) 0) rfl ?_
        refine lv_topv (v := nI (cm + bg)) ((by rw [X9_storeOvers0_g2, upd_at])) ?_
        refine lv_icmp_ge (tgt := 177) hx hb dX9_storeOvers_95 (by decide) (fun c46 => ?_) (fun c46 => ?_)
        · have n47 : (cm + bg) ≤ jj := (nI_leI (a := (cm + bg)) (b := jj) (by omega) (by omega)).mp c46
          have hi9 : (cm + bg) = jj := by omega
          subst hi9
          refine lv_aload_n hx hb dX9_storeOvers_177 rfl (lv_at hl 2 rfl) ?_
          refine g_get C0 G k44 rfl hiX9 19 (by decide) mf_X9_45 rfl dX9_storeOvers_178 ?_
          refine lv_iload_n hx hb dX9_storeOvers_181 rfl (lv_at hl 3 rfl) ?_
          refine g_iald C0 G k45 0 rfl (by unfold vp_in; decide) dX9_storeOvers_182 ?_
          refine lv_topv (v := (X9_storeOvers0_g2 gm cm bg) 0) rfl ?_
          refine lv_topv (v := nI (cm + bg)) ((by rw [X9_storeOvers0_g2, upd_at])) ?_
          have k48 : f1 so = some (.inl (cy 0, 2, .inl (X9_storeOvers0_g1 gs ex))) := hfr _ _ (by simp only [List.mem_cons, List.not_mem_nil, or_false]; intro q; rcases q with q | q; exact (hne (hup hf40 hsm k33) k42 (by intro q; cases q)) q; exact (hne (hup hf40 hsm k33) k43 (by intro q; first | (cases q; done) | (simp at q; done))) q) (hup hf40 hsm k33)
          exact g_iret C0 G hr dX9_storeOvers_183 (Nat.le_of_ble_eq_true rfl) (Nat.le_of_ble_eq_true rfl) (by exact ⟨(by rw [X9_storeOvers0_r4]), k44, k48, k45, (by rw [(by rw [X9_storeOvers0_g5] : (X9_storeOvers0_g5 g gw ii cm bg) = (cpo gw 0 (X9_storeOvers0_x3 g ii cm) (cm + bg)))]; exact h_wh1), (by rw [(by rw [X9_storeOvers0_g6] : (X9_storeOvers0_g6 g gf ii cm bg) = (cpoF gf 0 (fun k => FP.fdiv (FP.i2f ((X9_storeOvers0_x3 g ii cm) k)) (FP.i2f (nI (k + 1)))) (cm + bg)))]; exact h_pf1), (fun a9 e9 h7 h8 => hfr _ _ (fun q => h7 (by simp only [List.mem_cons, List.not_mem_nil, or_false] at q ⊢; first | exact q | (rcases q with q | q <;> simp [q]) | omega)) (hup hf40 (fun q => h7 (by rw [q]; simp)) (hup hf32 (fun q => h7 (by rw [q]; simp)) (hup hf19 (fun q => h7 (by rw [q]; simp)) (h8)))))⟩)
        · have n49 : ¬ (cm + bg) ≤ jj := fun q => c46 ((nI_leI (a := (cm + bg)) (b := jj) (by omega) (by omega)).mpr q)
          refine lv_iload hx hb dX9_storeOvers_98 (lv_at hl 0 rfl) ?_
          refine lv_iload hx hb dX9_storeOvers_100 (lv_at hl 1 rfl) ?_
          have J52 : ∀ (y51 : Int32) (_ : y51 = (X9_storeOvers0_x3 g ii cm jj)) (H : Heap) (locs : List Loc) (ls : Array Slot), hG D (hA f sz) f1 s9 H locs → lv_has ls 7 [(5, .int (nI jj)), (4, .int (nI cm)), (0, .ref m), (1, .int 0), (2, .int (nI ii)), (3, .int ex)] → W p9 l e9 ({ frames := 2, cells := 0, slots := 0, locals := 43 } : Room) s9 m9 ([.ref m, .int 0, .int (nI ii), .int ex] : List Value).toArray b9 t9 c9 H locs 0 0 (vx_MQ b9 (hQi (fun r u => r = (X9_storeOvers0_r4 cm bg) ∧ u m = some (.inr (11, [.int 0, .int c_re, .ref v, .ref im, .ref kp, .ref pa, .ref de, .ref ide, .int c_un, .int c_hi, .ref tx, .int c_tn, .int c_fa, .int c_rf, .ref pt, .int c_ps, .int c_pl, .int c_to, .ref so, .ref mo, .ref wh, .ref pf])) ∧ u so = some (.inl (cy 0, 2, .inl (X9_storeOvers0_g1 gs ex))) ∧ u mo = some (.inl (cy 0, 2, .inl (X9_storeOvers0_g2 gm cm bg))) ∧ u wh = some (.inl (cy 0, 42, .inl (X9_storeOvers0_g5 g gw ii cm bg))) ∧ u pf = some (.inl (cy 2, 42, .inr (.inr (.inl (X9_storeOvers0_g6 g gf ii cm bg))))) ∧ hFrL f u [m, so, mo, wh, pf]) D f sz) (hPx hNo D f sz) ([.ref m, .int 0, .int (nI ii), .int ex] : List Value).toArray s9 0 0 (hA f sz)) (F0 m9 134 ls [.int y51]) := by
            intro y51 ey51 H locs ls G hl
            replace ey51 := Eq.symm ey51
            subst ey51
            refine lv_istore (lv' := [(6, .int (X9_storeOvers0_x3 g ii cm jj)), (5, .int (nI jj)), (4, .int (nI cm)), (0, .ref m), (1, .int 0), (2, .int (nI ii)), (3, .int ex)]) hx hb dX9_storeOvers_134 hl (by decide) rfl (fun ls hl => ?_)
            refine lv_aload_n hx hb dX9_storeOvers_136 rfl (lv_at hl 3 rfl) ?_
            refine g_get C0 G k44 rfl hiX9 20 (by decide) mf_X9_48 rfl dX9_storeOvers_137 ?_
            refine lv_bipush (v := 21) hx hb dX9_storeOvers_140 (by decide) ?_
            refine lv_iload_n hx hb dX9_storeOvers_142 rfl (lv_at hl 4 rfl) ?_
            refine lv_imul hx hb dX9_storeOvers_143 ?_
            refine lv_topv (v := 0) (by decide) ?_
            refine lv_iload hx hb dX9_storeOvers_144 (lv_at hl 1 rfl) ?_
            refine lv_iadd hx hb dX9_storeOvers_146 ?_
            refine lv_topv (v := nI (0 + jj)) ((nI_add _ _)) ?_
            refine lv_iload hx hb dX9_storeOvers_147 (lv_at hl 0 rfl) ?_
            refine g_iast C0 G h_wh1 0 rfl (vp_in_nI (by omega) (by omega)) dX9_storeOvers_149 (fun H locs f54 hf54 G => ?_)
            have k55 : f54 wh = some (.inl (cy 0, 42, .inl (upd (cpo gw 0 (X9_storeOvers0_x3 g ii cm) jj) (nI (0 + jj)).toNatClampNeg (X9_storeOvers0_x3 g ii cm jj)))) := hus hf54
            refine lv_aload_n hx hb dX9_storeOvers_150 rfl (lv_at hl 3 rfl) ?_
            have k56 : f54 m = some (.inr (11, [.int 0, .int c_re, .ref v, .ref im, .ref kp, .ref pa, .ref de, .ref ide, .int c_un, .int c_hi, .ref tx, .int c_tn, .int c_fa, .int c_rf, .ref pt, .int c_ps, .int c_pl, .int c_to, .ref so, .ref mo, .ref wh, .ref pf])) := hup hf54 (hne k44 h_wh1 (by intro q; cases q)) k44
            refine g_get C0 G k56 rfl hiX9 21 (by decide) mf_X9_51 rfl dX9_storeOvers_151 ?_
            refine lv_bipush (v := 21) hx hb dX9_storeOvers_154 (by decide) ?_
            refine lv_iload_n hx hb dX9_storeOvers_156 rfl (lv_at hl 4 rfl) ?_
            refine lv_imul hx hb dX9_storeOvers_157 ?_
            refine lv_topv (v := 0) (by decide) ?_
            refine lv_iload hx hb dX9_storeOvers_158 (lv_at hl 1 rfl) ?_
            refine lv_iadd hx hb dX9_storeOvers_160 ?_
            refine lv_topv (v := nI (0 + jj)) ((nI_add _ _)) ?_
            refine lv_iload hx hb dX9_storeOvers_161 (lv_at hl 0 rfl) ?_
            refine lv_i2f hx hb dX9_storeOvers_163 ?_
            refine lv_iload hx hb dX9_storeOvers_164 (lv_at hl 1 rfl) ?_
            refine lv_iconst (v := 1) hx hb dX9_storeOvers_166 (by decide) ?_
            refine lv_iadd hx hb dX9_storeOvers_167 ?_
            refine lv_topv (v := nI (jj + 1)) ((nI_add _ _)) ?_
            refine lv_i2f hx hb dX9_storeOvers_168 ?_
            refine lv_fdiv hx hb dX9_storeOvers_169 (fdiv_n _ _ (nI_ne0 (by omega) (by omega))) ?_
            have k57 : f54 pf = some (.inl (cy 2, 42, .inr (.inr (.inl (cpoF gf 0 (fun k => FP.fdiv (FP.i2f ((X9_storeOvers0_x3 g ii cm) k)) (FP.i2f (nI (k + 1)))) jj))))) := hup hf54 (hne h_pf1 h_wh1 (by intro q; first | (cases q; done) | (simp at q; done))) h_pf1
            refine g_fast C0 G k57 2 rfl (vp_in_nI (by omega) (by omega)) dX9_storeOvers_170 (fun H locs f58 hf58 G => ?_)
            have k59 : f58 pf = some (.inl (cy 2, 42, .inr (.inr (.inl (vf_upd (cpoF gf 0 (fun k => FP.fdiv (FP.i2f ((X9_storeOvers0_x3 g ii cm) k)) (FP.i2f (nI (k + 1)))) jj) (nI (0 + jj)).toNatClampNeg (FP.fdiv (FP.i2f (X9_storeOvers0_x3 g ii cm jj)) (FP.i2f (nI (jj + 1))))))))) := hus hf58
            refine lv_iinc (v := nI (jj + 1)) (lv' := [(5, .int (nI (jj + 1))), (6, .int (X9_storeOvers0_x3 g ii cm jj)), (4, .int (nI cm)), (0, .ref m), (1, .int 0), (2, .int (nI ii)), (3, .int ex)]) hx hb dX9_storeOvers_171 hl (k := 1) rfl (by exact (nI_add _ _)) (by decide) rfl (fun ls hl => ?_)
            refine lv_goto (tgt := 87) hx hb dX9_storeOvers_174 (by decide) ?_
            have k61 : f58 wh = some (.inl (cy 0, 42, .inl (upd (cpo gw 0 (X9_storeOvers0_x3 g ii cm) jj) (nI (0 + jj)).toNatClampNeg (X9_storeOvers0_x3 g ii cm jj)))) := hup hf58 (hne k55 k57 (by intro q; first | (cases q; done) | (simp at q; done))) k55
            exact ih (jj + 1) f58 _ _ _ (by omega) (by omega) (by have h9 := k61; rw [nI_c (by omega), cpo_s] at h9; exact h9) (by have h9 := k59; rw [nI_c (by omega), cpoF_s _ _ (fun k => FP.fdiv (FP.i2f ((X9_storeOvers0_x3 g ii cm) k)) (FP.i2f (nI (k + 1))))] at h9; exact h9) (fun a9 e9 h7 h8 => hup hf58 (fun q => h7 (by rw [q]; simp)) (hup hf54 (fun q => h7 (by rw [q]; simp)) (hfr _ _ (fun q => h7 (by simp only [List.mem_cons, List.not_mem_nil, or_false] at q ⊢; first | exact q | (rcases q with q | q <;> simp [q]) | omega)) (h8)))) G (lv_sub hl [0, 2, 3, 4, 5, 6] rfl)
          refine lv_icmp_ge (tgt := 124) hx hb dX9_storeOvers_102 (by decide) (fun c50 => ?_) (fun c50 => ?_)
          · have n62 : cm ≤ jj := (nI_leI (a := cm) (b := jj) (by omega) (by omega)).mp c50
            refine lv_aload_n hx hb dX9_storeOvers_124 rfl (lv_at hl 2 rfl) ?_
            refine g_get C0 G k44 rfl hiX9 2 (by decide) mf_X9_9 rfl dX9_storeOvers_125 ?_
            refine lv_iload_n hx hb dX9_storeOvers_128 rfl (lv_at hl 4 rfl) ?_
            refine lv_iconst (v := 0) hx hb dX9_storeOvers_129 (by decide) ?_
            refine g_cI C0 G (g_runS C0 G (rest := [.ref v]) (k_X9_at hfl (nI ii) 0 ) hY_X9_at mm_X9_62 ms_X9_at ⟨(Nat.le_of_ble_eq_true rfl), (Nat.le_of_ble_eq_true rfl)⟩ rfl hl.1 rfl (Nat.le_of_ble_eq_true rfl) dX9_storeOvers_130 ⟨(Nat.le_of_ble_eq_true rfl), (Nat.le_of_ble_eq_true rfl)⟩) (kx_no rfl) (fun r65 u64 H locs hp63 G => ?_)
            obtain ⟨zr, eu64⟩ := hp63
            replace zr := Eq.symm zr
            subst zr
            rw [eu64] at G
            refine lv_topv (v := nI (25 + 11 * ii + 0)) (at_n ii 0) ?_
            have k66 : f1 v = some (.inl (cy 0, 6441, .inl g)) := hfr _ _ (by simp only [List.mem_cons, List.not_mem_nil, or_false]; intro q; rcases q with q | q; exact (hne (hup hf40 (hne k38 k39 (by intro q; cases q)) k38) k42 (by intro q; cases q)) q; exact (hne (hup hf40 (hne k38 k39 (by intro q; cases q)) k38) k43 (by intro q; first | (cases q; done) | (simp at q; done))) q) (hup hf40 (hne k38 k39 (by intro q; cases q)) k38)
            refine g_iald C0 G k66 0 rfl (vp_in_nI (by omega) (by omega)) dX9_storeOvers_133 ?_
            refine lv_topv (v := g (25 + 11 * ii + 0)) (congrArg g (nI_c (by omega))) ?_
            exact J52 (g (25 + 11 * ii + 0)) (by rw [X9_storeOvers0_x3, if_pos c50]) _ _ _ G (lv_sub hl [0, 1, 2, 3, 4, 5] rfl)
          · have n67 : ¬ cm ≤ jj := fun q => c50 ((nI_leI (a := cm) (b := jj) (by omega) (by omega)).mpr q)
            refine lv_aload_n hx hb dX9_storeOvers_105 rfl (lv_at hl 2 rfl) ?_
            refine g_get C0 G k44 rfl hiX9 2 (by decide) mf_X9_9 rfl dX9_storeOvers_106 ?_
            refine lv_sipush (v := 761) hx hb dX9_storeOvers_109 (by decide) ?_
            refine lv_bipush (v := 20) hx hb dX9_storeOvers_112 (by decide) ?_
            refine lv_iload_n hx hb dX9_storeOvers_114 rfl (lv_at hl 4 rfl) ?_
            refine lv_imul hx hb dX9_storeOvers_115 ?_
            refine lv_topv (v := nI (20 * ii)) ((pk_mul _ _)) ?_
            refine lv_iadd hx hb dX9_storeOvers_116 ?_
            refine lv_topv (v := nI (761 + 20 * ii)) ((nI_add _ _)) ?_
            refine lv_iload hx hb dX9_storeOvers_117 (lv_at hl 0 rfl) ?_
            refine lv_iadd hx hb dX9_storeOvers_119 ?_
            refine lv_topv (v := nI (761 + 20 * ii + jj)) ((nI_add _ _)) ?_
            have k68 : f1 v = some (.inl (cy 0, 6441, .inl g)) := hfr _ _ (by simp only [List.mem_cons, List.not_mem_nil, or_false]; intro q; rcases q with q | q; exact (hne (hup hf40 (hne k38 k39 (by intro q; cases q)) k38) k42 (by intro q; cases q)) q; exact (hne (hup hf40 (hne k38 k39 (by intro q; cases q)) k38) k43 (by intro q; first | (cases q; done) | (simp at q; done))) q) (hup hf40 (hne k38 k39 (by intro q; cases q)) k38)
            refine g_iald C0 G k68 0 rfl (vp_in_nI (by omega) (by omega)) dX9_storeOvers_120 ?_
            refine lv_topv (v := g (761 + 20 * ii + jj)) (congrArg g (nI_c (by omega))) ?_
            refine lv_goto (tgt := 134) hx hb dX9_storeOvers_121 (by decide) ?_
            exact J52 (g (761 + 20 * ii + jj)) (by rw [X9_storeOvers0_x3, if_neg c50]) _ _ _ G (lv_sub hl [0, 1, 2, 3, 4, 5] rfl)
    exact LOOP87 ((cm + bg) + 1) 0 f40 _ _ _ (by omega) (by omega)  (by rw [cpo_0]; exact k42) (by rw [cpoF_0]; exact k43) (fun a9 e9 h7 h8 => h8) G (lv_sub hl [0, 1, 2, 3, 4, 5] rfl)
  refine lv_if_eq (tgt := 62) hx hb dX9_storeOvers_55 (by decide) (fun c26 => ?_) (fun c26 => ?_)
  · refine lv_iconst (v := 2) hx hb dX9_storeOvers_62 (by decide) ?_
    exact J28 2 (by rw [X9_storeOvers0_n0, if_pos c26] <;> rfl) _ _ _ G (lv_sub hl [0, 1, 2, 3, 4] rfl)
  · refine lv_iconst (v := 1) hx hb dX9_storeOvers_58 (by decide) ?_
    refine lv_goto (tgt := 63) hx hb dX9_storeOvers_59 (by decide) ?_
    exact J28 1 (by rw [X9_storeOvers0_n0, if_neg c26] <;> rfl) _ _ _ G (lv_sub hl [0, 1, 2, 3, 4] rfl)
def X9_storeOvers1_n0 (ex : Int32) : Nat := if ex = 0 then 2 else 1
def X9_storeOvers1_g1 (gs : Nat → Int32) (ex : Int32) : Nat → Int32 := upd gs 1 (nI (X9_storeOvers1_n0 ex))
def X9_storeOvers1_g2 (gm : Nat → Int32) (cm : Nat) (bg : Nat) : Nat → Int32 := upd gm 1 (nI (cm + bg))
def X9_storeOvers1_x3 (g : Nat → Int32) (ii : Nat) (cm : Nat) (jj : Nat) : Int32 := if (nI cm) ≤ (nI jj) then (g (25 + 11 * ii + 0)) else (g (761 + 20 * ii + jj))
def X9_storeOvers1_r4 (cm : Nat) (bg : Nat) : Int32 := nI (cm + bg)
def X9_storeOvers1_g5 (g : Nat → Int32) (gw : Nat → Int32) (ii : Nat) (cm : Nat) (bg : Nat) : Nat → Int32 := cpo gw 21 (X9_storeOvers1_x3 g ii cm) (cm + bg)
def X9_storeOvers1_g6 (g : Nat → Int32) (gf : Nat → UInt32) (ii : Nat) (cm : Nat) (bg : Nat) : Nat → UInt32 := cpoF gf 21 (fun k => FP.fdiv (FP.i2f ((X9_storeOvers1_x3 g ii cm) k)) (FP.i2f (nI (k + 1)))) (cm + bg)
set_option maxRecDepth 100000 in
theorem k_X9_storeOvers1 {l : Launch} (hfl : l.stackTraces = false) {D : va_G} {cy : Nat → ClassId} {f : Hf} {sz : Nat} {m : Nat} {v : Nat} {im : Nat} {kp : Nat} {pa : Nat} {de : Nat} {ide : Nat} {tx : Nat} {pt : Nat} {so : Nat} {mo : Nat} {wh : Nat} {pf : Nat} {c_th : Int32} {c_re : Int32} {c_un : Int32} {c_hi : Int32} {c_tn : Int32} {c_fa : Int32} {c_rf : Int32} {c_ps : Int32} {c_pl : Int32} {c_to : Int32} {g : Nat → Int32} {gs : Nat → Int32} {gm : Nat → Int32} {gw : Nat → Int32} {gf : Nat → UInt32} {i9 : Int32} (ex : Int32) {ii : Nat} {cm : Nat} {bg : Nat} (h_m : f m = some (.inr (11, [.int c_th, .int c_re, .ref v, .ref im, .ref kp, .ref pa, .ref de, .ref ide, .int c_un, .int c_hi, .ref tx, .int c_tn, .int c_fa, .int c_rf, .ref pt, .int c_ps, .int c_pl, .int c_to, .ref so, .ref mo, .ref wh, .ref pf]))) (h_v : f v = some (.inl (cy 0, 6441, .inl g))) (h_so : f so = some (.inl (cy 0, 2, .inl gs))) (h_mo : f mo = some (.inl (cy 0, 2, .inl gm))) (h_wh : f wh = some (.inl (cy 0, 42, .inl gw))) (h_pf : f pf = some (.inl (cy 2, 42, .inr (.inr (.inl gf))))) (hii : ii < 4) (hyes : X9_isInnings_x1 g (nI ii) = 1) (hcm : g (25 + 11 * ii + 8) = nI cm) (hbg : g (25 + 11 * ii + 10) = nI bg) (hcb : cm + bg ≤ 20) (hb_ex : ex = 0 ∨ ex = 1) (hsm : so ≠ mo) : hMet l yX9_storeOvers cX9_storeOvers 7 (some .int) { frames := 2, cells := 0, slots := 0, locals := 43 } D (hTy cy) f sz [.ref m, .int 1, .int (nI ii), .int ex] (hQi (fun r u => r = (X9_storeOvers1_r4 cm bg) ∧ u m = some (.inr (11, [.int 0, .int c_re, .ref v, .ref im, .ref kp, .ref pa, .ref de, .ref ide, .int c_un, .int c_hi, .ref tx, .int c_tn, .int c_fa, .int c_rf, .ref pt, .int c_ps, .int c_pl, .int c_to, .ref so, .ref mo, .ref wh, .ref pf])) ∧ u so = some (.inl (cy 0, 2, .inl (X9_storeOvers1_g1 gs ex))) ∧ u mo = some (.inl (cy 0, 2, .inl (X9_storeOvers1_g2 gm cm bg))) ∧ u wh = some (.inl (cy 0, 42, .inl (X9_storeOvers1_g5 g gw ii cm bg))) ∧ u pf = some (.inl (cy 2, 42, .inr (.inr (.inl (X9_storeOvers1_g6 g gf ii cm bg))))) ∧ hFrL f u [m, so, mo, wh, pf]) D f sz) hNo := by
  refine h_enter (by decide) hfl (Nat.le_of_ble_eq_true rfl) ?_
  intro p9 e9 s9 m9 b9 t9 c9 hsz C0 hr hnm G ls hl
  have hx := C0.1.1
  have hb := C0.1.2.1
  have hl : lv_has ls 7 [(0, .ref m), (1, .int 1), (2, .int (nI ii)), (3, .int ex)] := hl
  refine lv_aload_n hx hb dX9_storeOvers_0 rfl (lv_at hl 0 rfl) ?_
  refine lv_iload_n hx hb dX9_storeOvers_1 rfl (lv_at hl 1 rfl) ?_
  refine lv_iconst (v := 0) hx hb dX9_storeOvers_2 (by decide) ?_
  refine lv_iconst (v := 1) hx hb dX9_storeOvers_3 (by decide) ?_
  refine g_cI C0 G (g_runS C0 G (rest := [.ref m]) (k_X9_isIn hfl 1 0 1 ) hY_X9_isIn mm_X9_76 ms_X9_isIn ⟨(Nat.le_of_ble_eq_true rfl), (Nat.le_of_ble_eq_true rfl)⟩ rfl hl.1 rfl (Nat.le_of_ble_eq_true rfl) dX9_storeOvers_4 ⟨(Nat.le_of_ble_eq_true rfl), (Nat.le_of_ble_eq_true rfl)⟩) (kx_no rfl) (fun r13 u12 H locs hp11 G => ?_)
  obtain ⟨zr, eu12⟩ := hp11
  replace zr := Eq.symm zr
  subst zr
  rw [eu12] at G
  refine lv_topv (v := 1) (by decide) ?_
  refine lv_if_eq (tgt := 22) hx hb dX9_storeOvers_7 (by decide) (fun c14 => absurd c14 (by decide)) (fun _ => ?_)
  refine lv_aload_n hx hb dX9_storeOvers_10 rfl (lv_at hl 0 rfl) ?_
  refine lv_iload_n hx hb dX9_storeOvers_11 rfl (lv_at hl 2 rfl) ?_
  refine g_cI C0 G (g_runV C0 G (rest := [.ref m]) (k_X9_isInnings hfl (nI ii) h_m h_v) h_m rfl hY_X9_isInnings mm_X9_227 mi_X9_isInnings ml_X9_isInnings ⟨(Nat.le_of_ble_eq_true rfl), (Nat.le_of_ble_eq_true rfl)⟩ rfl hl.1 rfl (Nat.le_of_ble_eq_true rfl) dX9_storeOvers_12 ⟨(Nat.le_of_ble_eq_true rfl), (Nat.le_of_ble_eq_true rfl)⟩) (kx_no rfl) (fun r17 u16 H locs hp15 G => ?_)
  obtain ⟨zr, eu16⟩ := hp15
  replace zr := Eq.symm zr
  subst zr
  rw [eu16] at G
  refine lv_topv (v := 1) (hyes) ?_
  refine lv_if_eq (tgt := 22) hx hb dX9_storeOvers_15 (by decide) (fun c18 => absurd c18 (by decide)) (fun _ => ?_)
  refine lv_iconst (v := 0) hx hb dX9_storeOvers_18 (by decide) ?_
  refine lv_goto (tgt := 23) hx hb dX9_storeOvers_19 (by decide) ?_
  refine g_put C0 G h_m rfl hiX9 tyX9 tyX9_ok nmX9 0 (by decide) mf_X9_55 rfl rfl rfl rfl (Nat.le_of_ble_eq_true rfl) dX9_storeOvers_23 (fun H locs f19 hf19 G => ?_)
  have k20 : f19 m = some (.inr (11, [.int 0, .int c_re, .ref v, .ref im, .ref kp, .ref pa, .ref de, .ref ide, .int c_un, .int c_hi, .ref tx, .int c_tn, .int c_fa, .int c_rf, .ref pt, .int c_ps, .int c_pl, .int c_to, .ref so, .ref mo, .ref wh, .ref pf])) := hus hf19
  refine lv_aload_n hx hb dX9_storeOvers_26 rfl (lv_at hl 0 rfl) ?_
  refine g_get C0 G k20 rfl hiX9 0 (by decide) mf_X9_55 rfl dX9_storeOvers_27 ?_
  refine lv_iconst (v := 1) hx hb dX9_storeOvers_30 (by decide) ?_
  refine lv_icmp_ne (tgt := 36) hx hb dX9_storeOvers_31 (by decide) (fun _ => ?_) (fun c21 => absurd c21 (by decide))
  refine lv_aload_n hx hb dX9_storeOvers_36 rfl (lv_at hl 0 rfl) ?_
  refine g_get C0 G k20 rfl hiX9 2 (by decide) mf_X9_9 rfl dX9_storeOvers_37 ?_
  refine lv_iload_n hx hb dX9_storeOvers_40 rfl (lv_at hl 2 rfl) ?_
  refine lv_bipush (v := 8) hx hb dX9_storeOvers_41 (by decide) ?_
  refine g_cI C0 G (g_runS C0 G (rest := [.ref v]) (k_X9_at hfl (nI ii) 8 ) hY_X9_at mm_X9_62 ms_X9_at ⟨(Nat.le_of_ble_eq_true rfl), (Nat.le_of_ble_eq_true rfl)⟩ rfl hl.1 rfl (Nat.le_of_ble_eq_true rfl) dX9_storeOvers_43 ⟨(Nat.le_of_ble_eq_true rfl), (Nat.le_of_ble_eq_true rfl)⟩) (kx_no rfl) (fun r24 u23 H locs hp22 G => ?_)
  obtain ⟨zr, eu23⟩ := hp22
  replace zr := Eq.symm zr
  subst zr
  rw [eu23] at G
  refine lv_topv (v := nI (25 + 11 * ii + 8)) (at_n ii 8) ?_
  have k25 : f19 v = some (.inl (cy 0, 6441, .inl g)) := hup hf19 (hne h_v h_m (by intro q; cases q)) h_v
  refine g_iald C0 G k25 0 rfl (vp_in_nI (by omega) (by omega)) dX9_storeOvers_46 ?_
  refine lv_topv (v := g (25 + 11 * ii + 8)) (congrArg g (nI_c (by omega))) ?_
  refine lv_topv (v := nI cm) (hcm) ?_
  refine lv_istore (lv' := [(4, .int (nI cm)), (0, .ref m), (1, .int 1), (2, .int (nI ii)), (3, .int ex)]) hx hb dX9_storeOvers_47 hl (by decide) rfl (fun ls hl => ?_)
  refine lv_aload_n hx hb dX9_storeOvers_49 rfl (lv_at hl 1 rfl) ?_
  refine g_get C0 G k20 rfl hiX9 18 (by decide) mf_X9_42 rfl dX9_storeOvers_50 ?_
  refine lv_iload_n hx hb dX9_storeOvers_53 rfl (lv_at hl 2 rfl) ?_
  refine lv_iload_n hx hb dX9_storeOvers_54 rfl (lv_at hl 4 rfl) ?_
  have J28 : ∀ (y27 : Int32) (_ : y27 = nI (X9_storeOvers1_n0 ex)) (H : Heap) (locs : List Loc) (ls : Array Slot), hG D (hA f sz) f19 s9 H locs → lv_has ls 7 [(4, .int (nI cm)), (0, .ref m), (1, .int 1), (2, .int (nI ii)), (3, .int ex)] → W p9 l e9 ({ frames := 2, cells := 0, slots := 0, locals := 43 } : Room) s9 m9 ([.ref m, .int 1, .int (nI ii), .int ex] : List Value).toArray b9 t9 c9 H locs 0 0 (vx_MQ b9 (hQi (fun r u => r = (X9_storeOvers1_r4 cm bg) ∧ u m = some (.inr (11, [.int 0, .int c_re, .ref v, .ref im, .ref kp, .ref pa, .ref de, .ref ide, .int c_un, .int c_hi, .ref tx, .int c_tn, .int c_fa, .int c_rf, .ref pt, .int c_ps, .int c_pl, .int c_to, .ref so, .ref mo, .ref wh, .ref pf])) ∧ u so = some (.inl (cy 0, 2, .inl (X9_storeOvers1_g1 gs ex))) ∧ u mo = some (.inl (cy 0, 2, .inl (X9_storeOvers1_g2 gm cm bg))) ∧ u wh = some (.inl (cy 0, 42, .inl (X9_storeOvers1_g5 g gw ii cm bg))) ∧ u pf = some (.inl (cy 2, 42, .inr (.inr (.inl (X9_storeOvers1_g6 g gf ii cm bg))))) ∧ hFrL f u [m, so, mo, wh, pf]) D f sz) (hPx hNo D f sz) ([.ref m, .int 1, .int (nI ii), .int ex] : List Value).toArray s9 0 0 (hA f sz)) (F0 m9 63 ls [.int y27, .int 1, .ref so]) := by
    intro y27 ey27 H locs ls G hl
    replace ey27 := Eq.symm ey27
    subst ey27
    have bd30 : (X9_storeOvers1_n0 ex) ≤ 2 := by unfold X9_storeOvers1_n0; repeat (first | omega | split)
    have k31 : f19 so = some (.inl (cy 0, 2, .inl gs)) := hup hf19 (hne h_so h_m (by intro q; cases q)) h_so
    refine g_iast C0 G k31 0 rfl (by unfold vp_in; decide) dX9_storeOvers_63 (fun H locs f32 hf32 G => ?_)
    have k33 : f32 so = some (.inl (cy 0, 2, .inl (X9_storeOvers1_g1 gs ex))) := hus hf32
    refine lv_aload_n hx hb dX9_storeOvers_64 rfl (lv_at hl 1 rfl) ?_
    have k34 : f32 m = some (.inr (11, [.int 0, .int c_re, .ref v, .ref im, .ref kp, .ref pa, .ref de, .ref ide, .int c_un, .int c_hi, .ref tx, .int c_tn, .int c_fa, .int c_rf, .ref pt, .int c_ps, .int c_pl, .int c_to, .ref so, .ref mo, .ref wh, .ref pf])) := hup hf32 (hne k20 k31 (by intro q; cases q)) k20
    refine g_get C0 G k34 rfl hiX9 19 (by decide) mf_X9_45 rfl dX9_storeOvers_65 ?_
    refine lv_iload_n hx hb dX9_storeOvers_68 rfl (lv_at hl 2 rfl) ?_
    refine lv_iload hx hb dX9_storeOvers_69 (lv_at hl 0 rfl) ?_
    refine lv_aload_n hx hb dX9_storeOvers_71 rfl (lv_at hl 1 rfl) ?_
    refine g_get C0 G k34 rfl hiX9 2 (by decide) mf_X9_9 rfl dX9_storeOvers_72 ?_
    refine lv_iload_n hx hb dX9_storeOvers_75 rfl (lv_at hl 3 rfl) ?_
    refine lv_bipush (v := 10) hx hb dX9_storeOvers_76 (by decide) ?_
    refine g_cI C0 G (g_runS C0 G (rest := [.ref v, .int (nI cm), .int 1, .ref mo]) (k_X9_at hfl (nI ii) 10 ) hY_X9_at mm_X9_62 ms_X9_at ⟨(Nat.le_of_ble_eq_true rfl), (Nat.le_of_ble_eq_true rfl)⟩ rfl hl.1 rfl (Nat.le_of_ble_eq_true rfl) dX9_storeOvers_78 ⟨(Nat.le_of_ble_eq_true rfl), (Nat.le_of_ble_eq_true rfl)⟩) (kx_no rfl) (fun r37 u36 H locs hp35 G => ?_)
    obtain ⟨zr, eu36⟩ := hp35
    replace zr := Eq.symm zr
    subst zr
    rw [eu36] at G
    refine lv_topv (v := nI (25 + 11 * ii + 10)) (at_n ii 10) ?_
    have k38 : f32 v = some (.inl (cy 0, 6441, .inl g)) := hup hf32 (hne k25 k31 (by intro q; cases q)) k25
    refine g_iald C0 G k38 0 rfl (vp_in_nI (by omega) (by omega)) dX9_storeOvers_81 ?_
    refine lv_topv (v := g (25 + 11 * ii + 10)) (congrArg g (nI_c (by omega))) ?_
    refine lv_topv (v := nI bg) (hbg) ?_
    refine lv_iadd hx hb dX9_storeOvers_82 ?_
    refine lv_topv (v := nI (cm + bg)) ((nI_add _ _)) ?_
    have k39 : f32 mo = some (.inl (cy 0, 2, .inl gm)) := hup hf32 (Ne.symm hsm) (hup hf19 (hne h_mo h_m (by intro q; cases q)) h_mo)
    refine g_iast C0 G k39 0 rfl (by unfold vp_in; decide) dX9_storeOvers_83 (fun H locs f40 hf40 G => ?_)
    have k41 : f40 mo = some (.inl (cy 0, 2, .inl (X9_storeOvers1_g2 gm cm bg))) := hus hf40
    refine lv_iconst (v := 0) hx hb dX9_storeOvers_84 (by decide) ?_
    refine lv_istore (lv' := [(5, .int 0), (4, .int (nI cm)), (0, .ref m), (1, .int 1), (2, .int (nI ii)), (3, .int ex)]) hx hb dX9_storeOvers_85 hl (by decide) rfl (fun ls hl => ?_)
    have k42 : f40 wh = some (.inl (cy 0, 42, .inl gw)) := hup hf40 (hne (hup hf32 (hne (hup hf19 (hne h_wh h_m (by intro q; cases q)) h_wh) k31 (by intro q; cases q)) (hup hf19 (hne h_wh h_m (by intro q; cases q)) h_wh)) k39 (by intro q; cases q)) (hup hf32 (hne (hup hf19 (hne h_wh h_m (by intro q; cases q)) h_wh) k31 (by intro q; cases q)) (hup hf19 (hne h_wh h_m (by intro q; cases q)) h_wh))
    have k43 : f40 pf = some (.inl (cy 2, 42, .inr (.inr (.inl gf)))) := hup hf40 (hne (hup hf32 (hne (hup hf19 (hne h_pf h_m (by intro q; first | (cases q; done) | (simp at q; done))) h_pf) k31 (by intro q; first | (cases q; done) | (simp at q; done))) (hup hf19 (hne h_pf h_m (by intro q; first | (cases q; done) | (simp at q; done))) h_pf)) k39 (by intro q; first | (cases q; done) | (simp at q; done))) (hup hf32 (hne (hup hf19 (hne h_pf h_m (by intro q; first | (cases q; done) | (simp at q; done))) h_pf) k31 (by intro q; first | (cases q; done) | (simp at q; done))) (hup hf19 (hne h_pf h_m (by intro q; first | (cases q; done) | (simp at q; done))) h_pf))
    refine W.widen (k := 0) (n := 0) (Nat.le_of_ble_eq_true rfl) (Nat.le_of_ble_eq_true rfl) ?_
    have LOOP87 : ∀ (k : Nat) (jj : Nat) (f1 : Hf) (H : Heap) (locs : List Loc) (ls : Array Slot), (jj ≤ (cm + bg)) → ((cm + bg) - jj < k) → f1 wh = some (.inl (cy 0, 42, .inl (cpo gw 21 (X9_storeOvers1_x3 g ii cm) jj))) → f1 pf = some (.inl (cy 2, 42, .inr (.inr (.inl (cpoF gf 21 (fun k => FP.fdiv (FP.i2f ((X9_storeOvers1_x3 g ii cm) k)) (FP.i2f (nI (k + 1)))) jj))))) → hFrL f40 f1 [wh, pf] → hG D (hA f sz) f1 s9 H locs → lv_has ls 7 [(5, .int (nI jj)), (4, .int (nI cm)), (0, .ref m), (1, .int 1), (2, .int (nI ii)), (3, .int ex)] → W p9 l e9 ({ frames := 2, cells := 0, slots := 0, locals := 43 } : Room) s9 m9 ([.ref m, .int 1, .int (nI ii), .int ex] : List Value).toArray b9 t9 c9 H locs 0 0 (vx_MQ b9 (hQi (fun r u => r = (X9_storeOvers1_r4 cm bg) ∧ u m = some (.inr (11, [.int 0, .int c_re, .ref v, .ref im, .ref kp, .ref pa, .ref de, .ref ide, .int c_un, .int c_hi, .ref tx, .int c_tn, .int c_fa, .int c_rf, .ref pt, .int c_ps, .int c_pl, .int c_to, .ref so, .ref mo, .ref wh, .ref pf])) ∧ u so = some (.inl (cy 0, 2, .inl (X9_storeOvers1_g1 gs ex))) ∧ u mo = some (.inl (cy 0, 2, .inl (X9_storeOvers1_g2 gm cm bg))) ∧ u wh = some (.inl (cy 0, 42, .inl (X9_storeOvers1_g5 g gw ii cm bg))) ∧ u pf = some (.inl (cy 2, 42, .inr (.inr (.inl (X9_storeOvers1_g6 g gf ii cm bg))))) ∧ hFrL f u [m, so, mo, wh, pf]) D f sz) (hPx hNo D f sz) ([.ref m, .int 1, .int (nI ii), .int ex] : List Value).toArray s9 0 0 (hA f sz)) (F0 m9 87 ls []) := by
      intro k
      induction k with
      | zero =>
        intro jj f1 H locs ls hi2 hk h_wh1 h_pf1 hfr G hl
        exact absurd hk (by omega)
      | succ k ih =>
        intro jj f1 H locs ls hi2 hk h_wh1 h_pf1 hfr G hl
        refine lv_iload hx hb dX9_storeOvers_87 (lv_at hl 0 rfl) ?_
        refine lv_aload_n hx hb dX9_storeOvers_89 rfl (lv_at hl 2 rfl) ?_
        have k44 : f1 m = some (.inr (11, [.int 0, .int c_re, .ref v, .ref im, .ref kp, .ref pa, .ref de, .ref ide, .int c_un, .int c_hi, .ref tx, .int c_tn, .int c_fa, .int c_rf, .ref pt, .int c_ps, .int c_pl, .int c_to, .ref so, .ref mo, .ref wh, .ref pf])) := hfr _ _ (by simp only [List.mem_cons, List.not_mem_nil, or_false]; intro q; rcases q with q | q; exact (hne (hup hf40 (hne k34 k39 (by intro q; cases q)) k34) k42 (by intro q; cases q)) q; exact (hne (hup hf40 (hne k34 k39 (by intro q; cases q)) k34) k43 (by intro q; first | (cases q; done) | (simp at q; done))) q) (hup hf40 (hne k34 k39 (by intro q; cases q)) k34)
        refine g_get C0 G k44 rfl hiX9 19 (by decide) mf_X9_45 rfl dX9_storeOvers_90 ?_
        refine lv_iload_n hx hb dX9_storeOvers_93 rfl (lv_at hl 3 rfl) ?_
        have k45 : f1 mo = some (.inl (cy 0, 2, .inl (X9_storeOvers1_g2 gm cm bg))) := hfr _ _ (by simp only [List.mem_cons, List.not_mem_nil, or_false]; intro q; rcases q with q | q; exact (hne k41 k42 (by intro q; cases q)) q; exact (hne k41 k43 (by intro q; first | (cases q; done) | (simp at q; done))) q) k41
        refine g_iald C0 G k45 0 rfl (by unfold vp_in; decide) dX9_storeOvers_94 ?_
        refine lv_topv (v := (X9_storeOvers1_g2 gm cm bg) 1) rfl ?_
        refine lv_topv (v := nI (cm + bg)) ((by rw [X9_storeOvers1_g2, upd_at])) ?_
        refine lv_icmp_ge (tgt := 177) hx hb dX9_storeOvers_95 (by decide) (fun c46 => ?_) (fun c46 => ?_)
        · have n47 : (cm + bg) ≤ jj := (nI_leI (a := (cm + bg)) (b := jj) (by omega) (by omega)).mp c46
          have hi9 : (cm + bg) = jj := by omega
          subst hi9
          refine lv_aload_n hx hb dX9_storeOvers_177 rfl (lv_at hl 2 rfl) ?_
          refine g_get C0 G k44 rfl hiX9 19 (by decide) mf_X9_45 rfl dX9_storeOvers_178 ?_
          refine lv_iload_n hx hb dX9_storeOvers_181 rfl (lv_at hl 3 rfl) ?_
          refine g_iald C0 G k45 0 rfl (by unfold vp_in; decide) dX9_storeOvers_182 ?_
          refine lv_topv (v := (X9_storeOvers1_g2 gm cm bg) 1) rfl ?_
          refine lv_topv (v := nI (cm + bg)) ((by rw [X9_storeOvers1_g2, upd_at])) ?_
          have k48 : f1 so = some (.inl (cy 0, 2, .inl (X9_storeOvers1_g1 gs ex))) := hfr _ _ (by simp only [List.mem_cons, List.not_mem_nil, or_false]; intro q; rcases q with q | q; exact (hne (hup hf40 hsm k33) k42 (by intro q; cases q)) q; exact (hne (hup hf40 hsm k33) k43 (by intro q; first | (cases q; done) | (simp at q; done))) q) (hup hf40 hsm k33)
          exact g_iret C0 G hr dX9_storeOvers_183 (Nat.le_of_ble_eq_true rfl) (Nat.le_of_ble_eq_true rfl) (by exact ⟨(by rw [X9_storeOvers1_r4]), k44, k48, k45, (by rw [(by rw [X9_storeOvers1_g5] : (X9_storeOvers1_g5 g gw ii cm bg) = (cpo gw 21 (X9_storeOvers1_x3 g ii cm) (cm + bg)))]; exact h_wh1), (by rw [(by rw [X9_storeOvers1_g6] : (X9_storeOvers1_g6 g gf ii cm bg) = (cpoF gf 21 (fun k => FP.fdiv (FP.i2f ((X9_storeOvers1_x3 g ii cm) k)) (FP.i2f (nI (k + 1)))) (cm + bg)))]; exact h_pf1), (fun a9 e9 h7 h8 => hfr _ _ (fun q => h7 (by simp only [List.mem_cons, List.not_mem_nil, or_false] at q ⊢; first | exact q | (rcases q with q | q <;> simp [q]) | omega)) (hup hf40 (fun q => h7 (by rw [q]; simp)) (hup hf32 (fun q => h7 (by rw [q]; simp)) (hup hf19 (fun q => h7 (by rw [q]; simp)) (h8)))))⟩)
        · have n49 : ¬ (cm + bg) ≤ jj := fun q => c46 ((nI_leI (a := (cm + bg)) (b := jj) (by omega) (by omega)).mpr q)
          refine lv_iload hx hb dX9_storeOvers_98 (lv_at hl 0 rfl) ?_
          refine lv_iload hx hb dX9_storeOvers_100 (lv_at hl 1 rfl) ?_
          have J52 : ∀ (y51 : Int32) (_ : y51 = (X9_storeOvers1_x3 g ii cm jj)) (H : Heap) (locs : List Loc) (ls : Array Slot), hG D (hA f sz) f1 s9 H locs → lv_has ls 7 [(5, .int (nI jj)), (4, .int (nI cm)), (0, .ref m), (1, .int 1), (2, .int (nI ii)), (3, .int ex)] → W p9 l e9 ({ frames := 2, cells := 0, slots := 0, locals := 43 } : Room) s9 m9 ([.ref m, .int 1, .int (nI ii), .int ex] : List Value).toArray b9 t9 c9 H locs 0 0 (vx_MQ b9 (hQi (fun r u => r = (X9_storeOvers1_r4 cm bg) ∧ u m = some (.inr (11, [.int 0, .int c_re, .ref v, .ref im, .ref kp, .ref pa, .ref de, .ref ide, .int c_un, .int c_hi, .ref tx, .int c_tn, .int c_fa, .int c_rf, .ref pt, .int c_ps, .int c_pl, .int c_to, .ref so, .ref mo, .ref wh, .ref pf])) ∧ u so = some (.inl (cy 0, 2, .inl (X9_storeOvers1_g1 gs ex))) ∧ u mo = some (.inl (cy 0, 2, .inl (X9_storeOvers1_g2 gm cm bg))) ∧ u wh = some (.inl (cy 0, 42, .inl (X9_storeOvers1_g5 g gw ii cm bg))) ∧ u pf = some (.inl (cy 2, 42, .inr (.inr (.inl (X9_storeOvers1_g6 g gf ii cm bg))))) ∧ hFrL f u [m, so, mo, wh, pf]) D f sz) (hPx hNo D f sz) ([.ref m, .int 1, .int (nI ii), .int ex] : List Value).toArray s9 0 0 (hA f sz)) (F0 m9 134 ls [.int y51]) := by
            intro y51 ey51 H locs ls G hl
            replace ey51 := Eq.symm ey51
            subst ey51
            refine lv_istore (lv' := [(6, .int (X9_storeOvers1_x3 g ii cm jj)), (5, .int (nI jj)), (4, .int (nI cm)), (0, .ref m), (1, .int 1), (2, .int (nI ii)), (3, .int ex)]) hx hb dX9_storeOvers_134 hl (by decide) rfl (fun ls hl => ?_)
            refine lv_aload_n hx hb dX9_storeOvers_136 rfl (lv_at hl 3 rfl) ?_
            refine g_get C0 G k44 rfl hiX9 20 (by decide) mf_X9_48 rfl dX9_storeOvers_137 ?_
            refine lv_bipush (v := 21) hx hb dX9_storeOvers_140 (by decide) ?_
            refine lv_iload_n hx hb dX9_storeOvers_142 rfl (lv_at hl 4 rfl) ?_
            refine lv_imul hx hb dX9_storeOvers_143 ?_
            refine lv_topv (v := 21) (by decide) ?_
            refine lv_iload hx hb dX9_storeOvers_144 (lv_at hl 1 rfl) ?_
            refine lv_iadd hx hb dX9_storeOvers_146 ?_
            refine lv_topv (v := nI (21 + jj)) ((nI_add _ _)) ?_
            refine lv_iload hx hb dX9_storeOvers_147 (lv_at hl 0 rfl) ?_
            refine g_iast C0 G h_wh1 0 rfl (vp_in_nI (by omega) (by omega)) dX9_storeOvers_149 (fun H locs f54 hf54 G => ?_)
            have k55 : f54 wh = some (.inl (cy 0, 42, .inl (upd (cpo gw 21 (X9_storeOvers1_x3 g ii cm) jj) (nI (21 + jj)).toNatClampNeg (X9_storeOvers1_x3 g ii cm jj)))) := hus hf54
            refine lv_aload_n hx hb dX9_storeOvers_150 rfl (lv_at hl 3 rfl) ?_
            have k56 : f54 m = some (.inr (11, [.int 0, .int c_re, .ref v, .ref im, .ref kp, .ref pa, .ref de, .ref ide, .int c_un, .int c_hi, .ref tx, .int c_tn, .int c_fa, .int c_rf, .ref pt, .int c_ps, .int c_pl, .int c_to, .ref so, .ref mo, .ref wh, .ref pf])) := hup hf54 (hne k44 h_wh1 (by intro q; cases q)) k44
            refine g_get C0 G k56 rfl hiX9 21 (by decide) mf_X9_51 rfl dX9_storeOvers_151 ?_
            refine lv_bipush (v := 21) hx hb dX9_storeOvers_154 (by decide) ?_
            refine lv_iload_n hx hb dX9_storeOvers_156 rfl (lv_at hl 4 rfl) ?_
            refine lv_imul hx hb dX9_storeOvers_157 ?_
            refine lv_topv (v := 21) (by decide) ?_
            refine lv_iload hx hb dX9_storeOvers_158 (lv_at hl 1 rfl) ?_
            refine lv_iadd hx hb dX9_storeOvers_160 ?_
            refine lv_topv (v := nI (21 + jj)) ((nI_add _ _)) ?_
            refine lv_iload hx hb dX9_storeOvers_161 (lv_at hl 0 rfl) ?_
            refine lv_i2f hx hb dX9_storeOvers_163 ?_
            refine lv_iload hx hb dX9_storeOvers_164 (lv_at hl 1 rfl) ?_
            refine lv_iconst (v := 1) hx hb dX9_storeOvers_166 (by decide) ?_
            refine lv_iadd hx hb dX9_storeOvers_167 ?_
            refine lv_topv (v := nI (jj + 1)) ((nI_add _ _)) ?_
            refine lv_i2f hx hb dX9_storeOvers_168 ?_
            refine lv_fdiv hx hb dX9_storeOvers_169 (fdiv_n _ _ (nI_ne0 (by omega) (by omega))) ?_
            have k57 : f54 pf = some (.inl (cy 2, 42, .inr (.inr (.inl (cpoF gf 21 (fun k => FP.fdiv (FP.i2f ((X9_storeOvers1_x3 g ii cm) k)) (FP.i2f (nI (k + 1)))) jj))))) := hup hf54 (hne h_pf1 h_wh1 (by intro q; first | (cases q; done) | (simp at q; done))) h_pf1
            refine g_fast C0 G k57 2 rfl (vp_in_nI (by omega) (by omega)) dX9_storeOvers_170 (fun H locs f58 hf58 G => ?_)
            have k59 : f58 pf = some (.inl (cy 2, 42, .inr (.inr (.inl (vf_upd (cpoF gf 21 (fun k => FP.fdiv (FP.i2f ((X9_storeOvers1_x3 g ii cm) k)) (FP.i2f (nI (k + 1)))) jj) (nI (21 + jj)).toNatClampNeg (FP.fdiv (FP.i2f (X9_storeOvers1_x3 g ii cm jj)) (FP.i2f (nI (jj + 1))))))))) := hus hf58
            refine lv_iinc (v := nI (jj + 1)) (lv' := [(5, .int (nI (jj + 1))), (6, .int (X9_storeOvers1_x3 g ii cm jj)), (4, .int (nI cm)), (0, .ref m), (1, .int 1), (2, .int (nI ii)), (3, .int ex)]) hx hb dX9_storeOvers_171 hl (k := 1) rfl (by exact (nI_add _ _)) (by decide) rfl (fun ls hl => ?_)
            refine lv_goto (tgt := 87) hx hb dX9_storeOvers_174 (by decide) ?_
            have k61 : f58 wh = some (.inl (cy 0, 42, .inl (upd (cpo gw 21 (X9_storeOvers1_x3 g ii cm) jj) (nI (21 + jj)).toNatClampNeg (X9_storeOvers1_x3 g ii cm jj)))) := hup hf58 (hne k55 k57 (by intro q; first | (cases q; done) | (simp at q; done))) k55
            exact ih (jj + 1) f58 _ _ _ (by omega) (by omega) (by have h9 := k61; rw [nI_c (by omega), cpo_s] at h9; exact h9) (by have h9 := k59; rw [nI_c (by omega), cpoF_s _ _ (fun k => FP.fdiv (FP.i2f ((X9_storeOvers1_x3 g ii cm) k)) (FP.i2f (nI (k + 1))))] at h9; exact h9) (fun a9 e9 h7 h8 => hup hf58 (fun q => h7 (by rw [q]; simp)) (hup hf54 (fun q => h7 (by rw [q]; simp)) (hfr _ _ (fun q => h7 (by simp only [List.mem_cons, List.not_mem_nil, or_false] at q ⊢; first | exact q | (rcases q with q | q <;> simp [q]) | omega)) (h8)))) G (lv_sub hl [0, 2, 3, 4, 5, 6] rfl)
          refine lv_icmp_ge (tgt := 124) hx hb dX9_storeOvers_102 (by decide) (fun c50 => ?_) (fun c50 => ?_)
          · have n62 : cm ≤ jj := (nI_leI (a := cm) (b := jj) (by omega) (by omega)).mp c50
            refine lv_aload_n hx hb dX9_storeOvers_124 rfl (lv_at hl 2 rfl) ?_
            refine g_get C0 G k44 rfl hiX9 2 (by decide) mf_X9_9 rfl dX9_storeOvers_125 ?_
            refine lv_iload_n hx hb dX9_storeOvers_128 rfl (lv_at hl 4 rfl) ?_
            refine lv_iconst (v := 0) hx hb dX9_storeOvers_129 (by decide) ?_
            refine g_cI C0 G (g_runS C0 G (rest := [.ref v]) (k_X9_at hfl (nI ii) 0 ) hY_X9_at mm_X9_62 ms_X9_at ⟨(Nat.le_of_ble_eq_true rfl), (Nat.le_of_ble_eq_true rfl)⟩ rfl hl.1 rfl (Nat.le_of_ble_eq_true rfl) dX9_storeOvers_130 ⟨(Nat.le_of_ble_eq_true rfl), (Nat.le_of_ble_eq_true rfl)⟩) (kx_no rfl) (fun r65 u64 H locs hp63 G => ?_)
            obtain ⟨zr, eu64⟩ := hp63
            replace zr := Eq.symm zr
            subst zr
            rw [eu64] at G
            refine lv_topv (v := nI (25 + 11 * ii + 0)) (at_n ii 0) ?_
            have k66 : f1 v = some (.inl (cy 0, 6441, .inl g)) := hfr _ _ (by simp only [List.mem_cons, List.not_mem_nil, or_false]; intro q; rcases q with q | q; exact (hne (hup hf40 (hne k38 k39 (by intro q; cases q)) k38) k42 (by intro q; cases q)) q; exact (hne (hup hf40 (hne k38 k39 (by intro q; cases q)) k38) k43 (by intro q; first | (cases q; done) | (simp at q; done))) q) (hup hf40 (hne k38 k39 (by intro q; cases q)) k38)
            refine g_iald C0 G k66 0 rfl (vp_in_nI (by omega) (by omega)) dX9_storeOvers_133 ?_
            refine lv_topv (v := g (25 + 11 * ii + 0)) (congrArg g (nI_c (by omega))) ?_
            exact J52 (g (25 + 11 * ii + 0)) (by rw [X9_storeOvers1_x3, if_pos c50]) _ _ _ G (lv_sub hl [0, 1, 2, 3, 4, 5] rfl)
          · have n67 : ¬ cm ≤ jj := fun q => c50 ((nI_leI (a := cm) (b := jj) (by omega) (by omega)).mpr q)
            refine lv_aload_n hx hb dX9_storeOvers_105 rfl (lv_at hl 2 rfl) ?_
            refine g_get C0 G k44 rfl hiX9 2 (by decide) mf_X9_9 rfl dX9_storeOvers_106 ?_
            refine lv_sipush (v := 761) hx hb dX9_storeOvers_109 (by decide) ?_
            refine lv_bipush (v := 20) hx hb dX9_storeOvers_112 (by decide) ?_
            refine lv_iload_n hx hb dX9_storeOvers_114 rfl (lv_at hl 4 rfl) ?_
            refine lv_imul hx hb dX9_storeOvers_115 ?_
            refine lv_topv (v := nI (20 * ii)) ((pk_mul _ _)) ?_
            refine lv_iadd hx hb dX9_storeOvers_116 ?_
            refine lv_topv (v := nI (761 + 20 * ii)) ((nI_add _ _)) ?_
            refine lv_iload hx hb dX9_storeOvers_117 (lv_at hl 0 rfl) ?_
            refine lv_iadd hx hb dX9_storeOvers_119 ?_
            refine lv_topv (v := nI (761 + 20 * ii + jj)) ((nI_add _ _)) ?_
            have k68 : f1 v = some (.inl (cy 0, 6441, .inl g)) := hfr _ _ (by simp only [List.mem_cons, List.not_mem_nil, or_false]; intro q; rcases q with q | q; exact (hne (hup hf40 (hne k38 k39 (by intro q; cases q)) k38) k42 (by intro q; cases q)) q; exact (hne (hup hf40 (hne k38 k39 (by intro q; cases q)) k38) k43 (by intro q; first | (cases q; done) | (simp at q; done))) q) (hup hf40 (hne k38 k39 (by intro q; cases q)) k38)
            refine g_iald C0 G k68 0 rfl (vp_in_nI (by omega) (by omega)) dX9_storeOvers_120 ?_
            refine lv_topv (v := g (761 + 20 * ii + jj)) (congrArg g (nI_c (by omega))) ?_
            refine lv_goto (tgt := 134) hx hb dX9_storeOvers_121 (by decide) ?_
            exact J52 (g (761 + 20 * ii + jj)) (by rw [X9_storeOvers1_x3, if_neg c50]) _ _ _ G (lv_sub hl [0, 1, 2, 3, 4, 5] rfl)
    exact LOOP87 ((cm + bg) + 1) 0 f40 _ _ _ (by omega) (by omega)  (by rw [cpo_0]; exact k42) (by rw [cpoF_0]; exact k43) (fun a9 e9 h7 h8 => h8) G (lv_sub hl [0, 1, 2, 3, 4, 5] rfl)
  refine lv_if_eq (tgt := 62) hx hb dX9_storeOvers_55 (by decide) (fun c26 => ?_) (fun c26 => ?_)
  · refine lv_iconst (v := 2) hx hb dX9_storeOvers_62 (by decide) ?_
    exact J28 2 (by rw [X9_storeOvers1_n0, if_pos c26] <;> rfl) _ _ _ G (lv_sub hl [0, 1, 2, 3, 4] rfl)
  · refine lv_iconst (v := 1) hx hb dX9_storeOvers_58 (by decide) ?_
    refine lv_goto (tgt := 63) hx hb dX9_storeOvers_59 (by decide) ?_
    exact J28 1 (by rw [X9_storeOvers1_n0, if_neg c26] <;> rfl) _ _ _ G (lv_sub hl [0, 1, 2, 3, 4] rfl)
