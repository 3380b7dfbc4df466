section TPF
variable {p : Program} {l : Launch} {e : Env} {R : Room} {s : State} {m : MethodId} {args : Array Value} {below : List Frame} {meth : Method} {c : Code} {H : Heap} {locs : List Loc} {cells slots : Nat} {Q : State → Prop}
variable {pc : Nat} {ls : Array Slot} {rest : List Value}
theorem lv_topF {x v : UInt32} (h : x = v) (k : W p l e R s m args below meth c H locs cells slots Q (F0 m pc ls (.float v :: rest))) : W p l e R s m args below meth c H locs cells slots Q (F0 m pc ls (.float x :: rest)) := h ▸ k
end TPF
set_option maxRecDepth 100000 in
theorem k_X9_runRateN {l : Launch} (hfl : l.stackTraces = false) {D : va_G} {cy : Nat → ClassId} {f : Hf} {sz : Nat} {m : Nat} {v : Nat} {im : Nat} {kp : Nat} {pa : Nat} {de : Nat} {ide : Nat} {tx : Nat} {pt : Nat} {so : Nat} {mo : Nat} {wh : Nat} {pf : Nat} {c_th : Int32} {c_re : Int32} {c_un : Int32} {c_hi : Int32} {c_tn : Int32} {c_fa : Int32} {c_rf : Int32} {c_ps : Int32} {c_pl : Int32} {c_to : Int32} {g : Nat → Int32} (i9 : Int32) (h_m : f m = some (.inr (11, [.int c_th, .int c_re, .ref v, .ref im, .ref kp, .ref pa, .ref de, .ref ide, .int c_un, .int c_hi, .ref tx, .int c_tn, .int c_fa, .int c_rf, .ref pt, .int c_ps, .int c_pl, .int c_to, .ref so, .ref mo, .ref wh, .ref pf]))) (h_v : f v = some (.inl (cy 0, 6441, .inl g))) (hno : X9_isInnings_x1 g i9 = 0) : hMet l yX9_runRate cX9_runRate 2 (some .double) { frames := 2, cells := 0, slots := 0, locals := 43 } D (hTy cy) f sz [.ref m, .int i9] (hQd (fun r u => r = 0 ∧ u m = some (.inr (11, [.int 1, .int c_re, .ref v, .ref im, .ref kp, .ref pa, .ref de, .ref ide, .int c_un, .int c_hi, .ref tx, .int c_tn, .int c_fa, .int c_rf, .ref pt, .int c_ps, .int c_pl, .int c_to, .ref so, .ref mo, .ref wh, .ref pf])) ∧ hFrL f u [m]) D f sz) hNo := by
  refine h_enter (by decide) hfl (Nat.le_of_ble_eq_true rfl) ?_
  intro p9 e9 s9 m9 b9 t9 c9 hsz C0 hr hnm G ls hl
  have hx := C0.1.1
  have hb := C0.1.2.1
  have hl : lv_has ls 2 [(0, .ref m), (1, .int i9)] := hl
  refine lv_aload_n hx hb dX9_runRate_0 rfl (lv_at hl 0 rfl) ?_
  refine lv_aload_n hx hb dX9_runRate_1 rfl (lv_at hl 0 rfl) ?_
  refine lv_iload_n hx hb dX9_runRate_2 rfl (lv_at hl 1 rfl) ?_
  refine g_cI C0 G (g_runV C0 G (rest := [.ref m]) (k_X9_isInnings hfl i9 h_m h_v) h_m rfl hY_X9_isInnings mm_X9_227 mi_X9_isInnings ml_X9_isInnings ⟨(Nat.le_of_ble_eq_true rfl), (Nat.le_of_ble_eq_true rfl)⟩ rfl hl.1 rfl (Nat.le_of_ble_eq_true rfl) dX9_runRate_3 ⟨(Nat.le_of_ble_eq_true rfl), (Nat.le_of_ble_eq_true rfl)⟩) (kx_no rfl) (fun r13 u12 H locs hp11 G => ?_)
  obtain ⟨zr, eu12⟩ := hp11
  replace zr := Eq.symm zr
  subst zr
  rw [eu12] at G
  refine lv_topv (v := 0) (hno) ?_
  refine lv_if_ne (tgt := 13) hx hb dX9_runRate_6 (by decide) (fun c14 => absurd (by decide) c14) (fun _ => ?_)
  refine lv_iconst (v := 1) hx hb dX9_runRate_9 (by decide) ?_
  refine lv_goto (tgt := 31) hx hb dX9_runRate_10 (by decide) ?_
  refine g_put C0 G h_m rfl hiX9 tyX9 tyX9_ok nmX9 0 (by decide) mf_X9_55 rfl rfl rfl rfl (Nat.le_of_ble_eq_true rfl) dX9_runRate_31 (fun H locs f15 hf15 G => ?_)
  have k16 : f15 m = some (.inr (11, [.int 1, .int c_re, .ref v, .ref im, .ref kp, .ref pa, .ref de, .ref ide, .int c_un, .int c_hi, .ref tx, .int c_tn, .int c_fa, .int c_rf, .ref pt, .int c_ps, .int c_pl, .int c_to, .ref so, .ref mo, .ref wh, .ref pf])) := hus hf15
  refine lv_aload_n hx hb dX9_runRate_34 rfl (lv_at hl 0 rfl) ?_
  refine g_get C0 G k16 rfl hiX9 0 (by decide) mf_X9_55 rfl dX9_runRate_35 ?_
  refine lv_if_le (tgt := 45) hx hb dX9_runRate_38 (by decide) (fun c17 => absurd c17 (by decide)) (fun _ => ?_)
  refine lv_dconst0 hx hb dX9_runRate_41 ?_
  refine lv_goto (tgt := 71) hx hb dX9_runRate_42 (by decide) ?_
  exact g_dret C0 G hr dX9_runRate_71 (Nat.le_of_ble_eq_true rfl) (Nat.le_of_ble_eq_true rfl) (by exact ⟨rfl, k16, (fun a9 e9 h7 h8 => hup hf15 (fun q => h7 (by rw [q]; simp)) (h8))⟩)
def X9_runRateY_n0 (g : Nat → Int32) (ii : Nat) : Nat := if (g (25 + 11 * ii + 2)) = 0 then 2 else 0
def X9_runRateY_x1 (g : Nat → Int32) (ii : Nat) : UInt64 := if (nI (X9_runRateY_n0 g ii)) ≤ 0 then (FP.ddiv (FP.i2d ((g (25 + 11 * ii + 0)) * 6)) (FP.i2d (g (25 + 11 * ii + 2)))) else 0
set_option maxRecDepth 100000 in
theorem k_X9_runRateY {l : Launch} (hfl : l.stackTraces = false) {D : va_G} {cy : Nat → ClassId} {f : Hf} {sz : Nat} {m : Nat} {v : Nat} {im : Nat} {kp : Nat} {pa : Nat} {de : Nat} {ide : Nat} {tx : Nat} {pt : Nat} {so : Nat} {mo : Nat} {wh : Nat} {pf : Nat} {c_th : Int32} {c_re : Int32} {c_un : Int32} {c_hi : Int32} {c_tn : Int32} {c_fa : Int32} {c_rf : Int32} {c_ps : Int32} {c_pl : Int32} {c_to : Int32} {g : Nat → Int32} {i9 : Int32} {ii : Nat} (h_m : f m = some (.inr (11, [.int c_th, .int c_re, .ref v, .ref im, .ref kp, .ref pa, .ref de, .ref ide, .int c_un, .int c_hi, .ref tx, .int c_tn, .int c_fa, .int c_rf, .ref pt, .int c_ps, .int c_pl, .int c_to, .ref so, .ref mo, .ref wh, .ref pf]))) (h_v : f v = some (.inl (cy 0, 6441, .inl g))) (hii : ii < 4) (hyes : X9_isInnings_x1 g (nI ii) = 1) : hMet l yX9_runRate cX9_runRate 2 (some .double) { frames := 2, cells := 0, slots := 0, locals := 43 } D (hTy cy) f sz [.ref m, .int (nI ii)] (hQd (fun r u => r = (X9_runRateY_x1 g ii) ∧ u m = some (.inr (11, [.int (nI (X9_runRateY_n0 g ii)), .int c_re, .ref v, .ref im, .ref kp, .ref pa, .ref de, .ref ide, .int c_un, .int c_hi, .ref tx, .int c_tn, .int c_fa, .int c_rf, .ref pt, .int c_ps, .int c_pl, .int c_to, .ref so, .ref mo, .ref wh, .ref pf])) ∧ hFrL f u [m]) D f sz) hNo := by
  refine h_enter (by decide) hfl (Nat.le_of_ble_eq_true rfl) ?_
  intro p9 e9 s9 m9 b9 t9 c9 hsz C0 hr hnm G ls hl
  have hx := C0.1.1
  have hb := C0.1.2.1
  have hl : lv_has ls 2 [(0, .ref m), (1, .int (nI ii))] := hl
  refine lv_aload_n hx hb dX9_runRate_0 rfl (lv_at hl 0 rfl) ?_
  refine lv_aload_n hx hb dX9_runRate_1 rfl (lv_at hl 0 rfl) ?_
  refine lv_iload_n hx hb dX9_runRate_2 rfl (lv_at hl 1 rfl) ?_
  refine g_cI C0 G (g_runV C0 G (rest := [.ref m]) (k_X9_isInnings hfl (nI ii) h_m h_v) h_m rfl hY_X9_isInnings mm_X9_227 mi_X9_isInnings ml_X9_isInnings ⟨(Nat.le_of_ble_eq_true rfl), (Nat.le_of_ble_eq_true rfl)⟩ rfl hl.1 rfl (Nat.le_of_ble_eq_true rfl) dX9_runRate_3 ⟨(Nat.le_of_ble_eq_true rfl), (Nat.le_of_ble_eq_true rfl)⟩) (kx_no rfl) (fun r13 u12 H locs hp11 G => ?_)
  obtain ⟨zr, eu12⟩ := hp11
  replace zr := Eq.symm zr
  subst zr
  rw [eu12] at G
  refine lv_topv (v := 1) (hyes) ?_
  refine lv_if_ne (tgt := 13) hx hb dX9_runRate_6 (by decide) (fun _ => ?_) (fun c14 => absurd c14 (by decide))
  refine lv_aload_n hx hb dX9_runRate_13 rfl (lv_at hl 0 rfl) ?_
  refine g_get C0 G h_m rfl hiX9 2 (by decide) mf_X9_9 rfl dX9_runRate_14 ?_
  refine lv_iload_n hx hb dX9_runRate_17 rfl (lv_at hl 1 rfl) ?_
  refine lv_iconst (v := 2) hx hb dX9_runRate_18 (by decide) ?_
  refine g_cI C0 G (g_runS C0 G (rest := [.ref v, .ref m]) (k_X9_at hfl (nI ii) 2 ) hY_X9_at mm_X9_62 ms_X9_at ⟨(Nat.le_of_ble_eq_true rfl), (Nat.le_of_ble_eq_true rfl)⟩ rfl hl.1 rfl (Nat.le_of_ble_eq_true rfl) dX9_runRate_19 ⟨(Nat.le_of_ble_eq_true rfl), (Nat.le_of_ble_eq_true rfl)⟩) (kx_no rfl) (fun r17 u16 H locs hp15 G => ?_)
  obtain ⟨zr, eu16⟩ := hp15
  replace zr := Eq.symm zr
  subst zr
  rw [eu16] at G
  refine lv_topv (v := nI (25 + 11 * ii + 2)) (at_n ii 2) ?_
  refine g_iald C0 G h_v 0 rfl (vp_in_nI (by omega) (by omega)) dX9_runRate_22 ?_
  refine lv_topv (v := g (25 + 11 * ii + 2)) (congrArg g (nI_c (by omega))) ?_
  have J20 : ∀ (y19 : Int32) (_ : y19 = nI (X9_runRateY_n0 g ii)) (H : Heap) (locs : List Loc) (ls : Array Slot), hG D (hA f sz) f s9 H locs → lv_has ls 2 [(0, .ref m), (1, .int (nI ii))] → W p9 l e9 ({ frames := 2, cells := 0, slots := 0, locals := 43 } : Room) s9 m9 ([.ref m, .int (nI ii)] : List Value).toArray b9 t9 c9 H locs 0 0 (vx_MQ b9 (hQd (fun r u => r = (X9_runRateY_x1 g ii) ∧ u m = some (.inr (11, [.int (nI (X9_runRateY_n0 g ii)), .int c_re, .ref v, .ref im, .ref kp, .ref pa, .ref de, .ref ide, .int c_un, .int c_hi, .ref tx, .int c_tn, .int c_fa, .int c_rf, .ref pt, .int c_ps, .int c_pl, .int c_to, .ref so, .ref mo, .ref wh, .ref pf])) ∧ hFrL f u [m]) D f sz) (hPx hNo D f sz) ([.ref m, .int (nI ii)] : List Value).toArray s9 0 0 (hA f sz)) (F0 m9 31 ls [.int y19, .ref m]) := by
    intro y19 ey19 H locs ls G hl
    replace ey19 := Eq.symm ey19
    subst ey19
    have bd22 : (X9_runRateY_n0 g ii) ≤ 2 := by unfold X9_runRateY_n0; repeat (first | omega | split)
    refine g_put C0 G h_m rfl hiX9 tyX9 tyX9_ok nmX9 0 (by decide) mf_X9_55 rfl rfl rfl rfl (Nat.le_of_ble_eq_true rfl) dX9_runRate_31 (fun H locs f23 hf23 G => ?_)
    have k24 : f23 m = some (.inr (11, [.int (nI (X9_runRateY_n0 g ii)), .int c_re, .ref v, .ref im, .ref kp, .ref pa, .ref de, .ref ide, .int c_un, .int c_hi, .ref tx, .int c_tn, .int c_fa, .int c_rf, .ref pt, .int c_ps, .int c_pl, .int c_to, .ref so, .ref mo, .ref wh, .ref pf])) := hus hf23
    refine lv_aload_n hx hb dX9_runRate_34 rfl (lv_at hl 0 rfl) ?_
    refine g_get C0 G k24 rfl hiX9 0 (by decide) mf_X9_55 rfl dX9_runRate_35 ?_
    have J27 : ∀ (y26 : UInt64) (_ : y26 = (X9_runRateY_x1 g ii)) (H : Heap) (locs : List Loc) (ls : Array Slot), hG D (hA f sz) f23 s9 H locs → lv_has ls 2 [(0, .ref m), (1, .int (nI ii))] → W p9 l e9 ({ frames := 2, cells := 0, slots := 0, locals := 43 } : Room) s9 m9 ([.ref m, .int (nI ii)] : List Value).toArray b9 t9 c9 H locs 0 0 (vx_MQ b9 (hQd (fun r u => r = (X9_runRateY_x1 g ii) ∧ u m = some (.inr (11, [.int (nI (X9_runRateY_n0 g ii)), .int c_re, .ref v, .ref im, .ref kp, .ref pa, .ref de, .ref ide, .int c_un, .int c_hi, .ref tx, .int c_tn, .int c_fa, .int c_rf, .ref pt, .int c_ps, .int c_pl, .int c_to, .ref so, .ref mo, .ref wh, .ref pf])) ∧ hFrL f u [m]) D f sz) (hPx hNo D f sz) ([.ref m, .int (nI ii)] : List Value).toArray s9 0 0 (hA f sz)) (F0 m9 71 ls [.double y26]) := by
      intro y26 ey26 H locs ls G hl
      replace ey26 := Eq.symm ey26
      subst ey26
      exact g_dret C0 G hr dX9_runRate_71 (Nat.le_of_ble_eq_true rfl) (Nat.le_of_ble_eq_true rfl) (by exact ⟨rfl, k24, (fun a9 e9 h7 h8 => hup hf23 (fun q => h7 (by rw [q]; simp)) (h8))⟩)
    refine lv_if_le (tgt := 45) hx hb dX9_runRate_38 (by decide) (fun c25 => ?_) (fun c25 => ?_)
    · have n29 : (X9_runRateY_n0 g ii) ≤ 0 := (nI_leI (a := (X9_runRateY_n0 g ii)) (b := 0) (by omega) (by omega)).mp c25
      refine lv_aload_n hx hb dX9_runRate_45 rfl (lv_at hl 0 rfl) ?_
      refine g_get C0 G k24 rfl hiX9 2 (by decide) mf_X9_9 rfl dX9_runRate_46 ?_
      refine lv_iload_n hx hb dX9_runRate_49 rfl (lv_at hl 1 rfl) ?_
      refine lv_iconst (v := 0) hx hb dX9_runRate_50 (by decide) ?_
      refine g_cI C0 G (g_runS C0 G (rest := [.ref v]) (k_X9_at hfl (nI ii) 0 ) hY_X9_at mm_X9_62 ms_X9_at ⟨(Nat.le_of_ble_eq_true rfl), (Nat.le_of_ble_eq_true rfl)⟩ rfl hl.1 rfl (Nat.le_of_ble_eq_true rfl) dX9_runRate_51 ⟨(Nat.le_of_ble_eq_true rfl), (Nat.le_of_ble_eq_true rfl)⟩) (kx_no rfl) (fun r32 u31 H locs hp30 G => ?_)
      obtain ⟨zr, eu31⟩ := hp30
      replace zr := Eq.symm zr
      subst zr
      rw [eu31] at G
      refine lv_topv (v := nI (25 + 11 * ii + 0)) (at_n ii 0) ?_
      have k33 : f23 v = some (.inl (cy 0, 6441, .inl g)) := hup hf23 (hne h_v h_m (by intro q; cases q)) h_v
      refine g_iald C0 G k33 0 rfl (vp_in_nI (by omega) (by omega)) dX9_runRate_54 ?_
      refine lv_topv (v := g (25 + 11 * ii + 0)) (congrArg g (nI_c (by omega))) ?_
      refine lv_bipush (v := 6) hx hb dX9_runRate_55 (by decide) ?_
      refine lv_imul hx hb dX9_runRate_57 ?_
      refine lv_i2d hx hb dX9_runRate_58 ?_
      refine lv_aload_n hx hb dX9_runRate_59 rfl (lv_at hl 0 rfl) ?_
      refine g_get C0 G k24 rfl hiX9 2 (by decide) mf_X9_9 rfl dX9_runRate_60 ?_
      refine lv_iload_n hx hb dX9_runRate_63 rfl (lv_at hl 1 rfl) ?_
      refine lv_iconst (v := 2) hx hb dX9_runRate_64 (by decide) ?_
      refine g_cI C0 G (g_runS C0 G (rest := [.ref v, .double (FP.i2d ((g (25 + 11 * ii + 0)) * 6))]) (k_X9_at hfl (nI ii) 2 ) hY_X9_at mm_X9_62 ms_X9_at ⟨(Nat.le_of_ble_eq_true rfl), (Nat.le_of_ble_eq_true rfl)⟩ rfl hl.1 rfl (Nat.le_of_ble_eq_true rfl) dX9_runRate_65 ⟨(Nat.le_of_ble_eq_true rfl), (Nat.le_of_ble_eq_true rfl)⟩) (kx_no rfl) (fun r36 u35 H locs hp34 G => ?_)
      obtain ⟨zr, eu35⟩ := hp34
      replace zr := Eq.symm zr
      subst zr
      rw [eu35] at G
      refine lv_topv (v := nI (25 + 11 * ii + 2)) (at_n ii 2) ?_
      refine g_iald C0 G k33 0 rfl (vp_in_nI (by omega) (by omega)) dX9_runRate_68 ?_
      refine lv_topv (v := g (25 + 11 * ii + 2)) (congrArg g (nI_c (by omega))) ?_
      refine lv_i2d hx hb dX9_runRate_69 ?_
      refine lv_ddiv hx hb dX9_runRate_70 (ddiv_n _ _ (by intro q; have h9 : X9_runRateY_n0 g ii ≤ 0 := (by assumption); unfold X9_runRateY_n0 at h9; rw [if_pos q] at h9; omega)) ?_
      exact J27 (FP.ddiv (FP.i2d ((g (25 + 11 * ii + 0)) * 6)) (FP.i2d (g (25 + 11 * ii + 2)))) (by rw [X9_runRateY_x1, if_pos c25]) _ _ _ G (lv_sub hl [0, 1] rfl)
    · have n37 : ¬ (X9_runRateY_n0 g ii) ≤ 0 := fun q => c25 ((nI_leI (a := (X9_runRateY_n0 g ii)) (b := 0) (by omega) (by omega)).mpr q)
      refine lv_dconst0 hx hb dX9_runRate_41 ?_
      refine lv_goto (tgt := 71) hx hb dX9_runRate_42 (by decide) ?_
      exact J27 0 (by rw [X9_runRateY_x1, if_neg c25]) _ _ _ G (lv_sub hl [0, 1] rfl)
  refine lv_if_ne (tgt := 30) hx hb dX9_runRate_23 (by decide) (fun c18 => ?_) (fun c18 => ?_)
  · refine lv_iconst (v := 0) hx hb dX9_runRate_30 (by decide) ?_
    exact J20 0 (by rw [X9_runRateY_n0, if_neg c18] <;> rfl) _ _ _ G (lv_sub hl [0, 1] rfl)
  · refine lv_iconst (v := 2) hx hb dX9_runRate_26 (by decide) ?_
    refine lv_goto (tgt := 31) hx hb dX9_runRate_27 (by decide) ?_
    exact J20 2 (by rw [X9_runRateY_n0, if_pos c18] <;> rfl) _ _ _ G (lv_sub hl [0, 1] rfl)
set_option maxRecDepth 100000 in
theorem k_X9_strikeRateN {l : Launch} (hfl : l.stackTraces = false) {D : va_G} {cy : Nat → ClassId} {f : Hf} {sz : Nat} {m : Nat} {v : Nat} {im : Nat} {kp : Nat} {pa : Nat} {de : Nat} {ide : Nat} {tx : Nat} {pt : Nat} {so : Nat} {mo : Nat} {wh : Nat} {pf : Nat} {c_th : Int32} {c_re : Int32} {c_un : Int32} {c_hi : Int32} {c_tn : Int32} {c_fa : Int32} {c_rf : Int32} {c_ps : Int32} {c_pl : Int32} {c_to : Int32} {g : Nat → Int32} (i9 : Int32) (p : Int32) (h_m : f m = some (.inr (11, [.int c_th, .int c_re, .ref v, .ref im, .ref kp, .ref pa, .ref de, .ref ide, .int c_un, .int c_hi, .ref tx, .int c_tn, .int c_fa, .int c_rf, .ref pt, .int c_ps, .int c_pl, .int c_to, .ref so, .ref mo, .ref wh, .ref pf]))) (h_v : f v = some (.inl (cy 0, 6441, .inl g))) (hno : X9_isInnings_x1 g i9 = 0) : hMet l yX9_strikeRate cX9_strikeRate 3 (some .float) { frames := 2, cells := 0, slots := 0, locals := 43 } D (hTy cy) f sz [.ref m, .int i9, .int p] (hQf (fun r u => r = 0 ∧ u m = some (.inr (11, [.int 1, .int c_re, .ref v, .ref im, .ref kp, .ref pa, .ref de, .ref ide, .int c_un, .int c_hi, .ref tx, .int c_tn, .int c_fa, .int c_rf, .ref pt, .int c_ps, .int c_pl, .int c_to, .ref so, .ref mo, .ref wh, .ref pf])) ∧ hFrL f u [m]) D f sz) hNo := by
  refine h_enter (by decide) hfl (Nat.le_of_ble_eq_true rfl) ?_
  intro p9 e9 s9 m9 b9 t9 c9 hsz C0 hr hnm G ls hl
  have hx := C0.1.1
  have hb := C0.1.2.1
  have hl : lv_has ls 3 [(0, .ref m), (1, .int i9), (2, .int p)] := hl
  refine lv_aload_n hx hb dX9_strikeRate_0 rfl (lv_at hl 0 rfl) ?_
  refine lv_aload_n hx hb dX9_strikeRate_1 rfl (lv_at hl 0 rfl) ?_
  refine lv_iload_n hx hb dX9_strikeRate_2 rfl (lv_at hl 1 rfl) ?_
  refine g_cI C0 G (g_runV C0 G (rest := [.ref m]) (k_X9_isInnings hfl i9 h_m h_v) h_m rfl hY_X9_isInnings mm_X9_227 mi_X9_isInnings ml_X9_isInnings ⟨(Nat.le_of_ble_eq_true rfl), (Nat.le_of_ble_eq_true rfl)⟩ rfl hl.1 rfl (Nat.le_of_ble_eq_true rfl) dX9_strikeRate_3 ⟨(Nat.le_of_ble_eq_true rfl), (Nat.le_of_ble_eq_true rfl)⟩) (kx_no rfl) (fun r13 u12 H locs hp11 G => ?_)
  obtain ⟨zr, eu12⟩ := hp11
  replace zr := Eq.symm zr
  subst zr
  rw [eu12] at G
  refine lv_topv (v := 0) (hno) ?_
  refine lv_if_eq (tgt := 19) hx hb dX9_strikeRate_6 (by decide) (fun _ => ?_) (fun c14 => absurd (by decide) c14)
  refine lv_iconst (v := 1) hx hb dX9_strikeRate_19 (by decide) ?_
  refine lv_goto (tgt := 42) hx hb dX9_strikeRate_20 (by decide) ?_
  refine g_put C0 G h_m rfl hiX9 tyX9 tyX9_ok nmX9 0 (by decide) mf_X9_55 rfl rfl rfl rfl (Nat.le_of_ble_eq_true rfl) dX9_strikeRate_42 (fun H locs f15 hf15 G => ?_)
  have k16 : f15 m = some (.inr (11, [.int 1, .int c_re, .ref v, .ref im, .ref kp, .ref pa, .ref de, .ref ide, .int c_un, .int c_hi, .ref tx, .int c_tn, .int c_fa, .int c_rf, .ref pt, .int c_ps, .int c_pl, .int c_to, .ref so, .ref mo, .ref wh, .ref pf])) := hus hf15
  refine lv_aload_n hx hb dX9_strikeRate_45 rfl (lv_at hl 0 rfl) ?_
  refine g_get C0 G k16 rfl hiX9 0 (by decide) mf_X9_55 rfl dX9_strikeRate_46 ?_
  refine lv_if_le (tgt := 56) hx hb dX9_strikeRate_49 (by decide) (fun c17 => absurd c17 (by decide)) (fun _ => ?_)
  refine lv_fconst0 hx hb dX9_strikeRate_52 ?_
  refine lv_goto (tgt := 84) hx hb dX9_strikeRate_53 (by decide) ?_
  exact g_fret C0 G hr dX9_strikeRate_84 (Nat.le_of_ble_eq_true rfl) (Nat.le_of_ble_eq_true rfl) (by exact ⟨rfl, k16, (fun a9 e9 h7 h8 => hup hf15 (fun q => h7 (by rw [q]; simp)) (h8))⟩)
set_option maxRecDepth 100000 in
theorem k_X9_strikeRateP {l : Launch} (hfl : l.stackTraces = false) {D : va_G} {cy : Nat → ClassId} {f : Hf} {sz : Nat} {m : Nat} {v : Nat} {im : Nat} {kp : Nat} {pa : Nat} {de : Nat} {ide : Nat} {tx : Nat} {pt : Nat} {so : Nat} {mo : Nat} {wh : Nat} {pf : Nat} {c_th : Int32} {c_re : Int32} {c_un : Int32} {c_hi : Int32} {c_tn : Int32} {c_fa : Int32} {c_rf : Int32} {c_ps : Int32} {c_pl : Int32} {c_to : Int32} {g : Nat → Int32} (i9 : Int32) (p : Int32) (h_m : f m = some (.inr (11, [.int c_th, .int c_re, .ref v, .ref im, .ref kp, .ref pa, .ref de, .ref ide, .int c_un, .int c_hi, .ref tx, .int c_tn, .int c_fa, .int c_rf, .ref pt, .int c_ps, .int c_pl, .int c_to, .ref so, .ref mo, .ref wh, .ref pf]))) (h_v : f v = some (.inl (cy 0, 6441, .inl g))) (hyes : X9_isInnings_x1 g i9 = 1) (hpn : X9_isIn_x1 p 0 10 = 0) : hMet l yX9_strikeRate cX9_strikeRate 3 (some .float) { frames := 2, cells := 0, slots := 0, locals := 43 } D (hTy cy) f sz [.ref m, .int i9, .int p] (hQf (fun r u => r = 0 ∧ u m = some (.inr (11, [.int 1, .int c_re, .ref v, .ref im, .ref kp, .ref pa, .ref de, .ref ide, .int c_un, .int c_hi, .ref tx, .int c_tn, .int c_fa, .int c_rf, .ref pt, .int c_ps, .int c_pl, .int c_to, .ref so, .ref mo, .ref wh, .ref pf])) ∧ hFrL f u [m]) D f sz) hNo := by
  refine h_enter (by decide) hfl (Nat.le_of_ble_eq_true rfl) ?_
  intro p9 e9 s9 m9 b9 t9 c9 hsz C0 hr hnm G ls hl
  have hx := C0.1.1
  have hb := C0.1.2.1
  have hl : lv_has ls 3 [(0, .ref m), (1, .int i9), (2, .int p)] := hl
  refine lv_aload_n hx hb dX9_strikeRate_0 rfl (lv_at hl 0 rfl) ?_
  refine lv_aload_n hx hb dX9_strikeRate_1 rfl (lv_at hl 0 rfl) ?_
  refine lv_iload_n hx hb dX9_strikeRate_2 rfl (lv_at hl 1 rfl) ?_
  refine g_cI C0 G (g_runV C0 G (rest := [.ref m]) (k_X9_isInnings hfl i9 h_m h_v) h_m rfl hY_X9_isInnings mm_X9_227 mi_X9_isInnings ml_X9_isInnings ⟨(Nat.le_of_ble_eq_true rfl), (Nat.le_of_ble_eq_true rfl)⟩ rfl hl.1 rfl (Nat.le_of_ble_eq_true rfl) dX9_strikeRate_3 ⟨(Nat.le_of_ble_eq_true rfl), (Nat.le_of_ble_eq_true rfl)⟩) (kx_no rfl) (fun r13 u12 H locs hp11 G => ?_)
  obtain ⟨zr, eu12⟩ := hp11
  replace zr := Eq.symm zr
  subst zr
  rw [eu12] at G
  refine lv_topv (v := 1) (hyes) ?_
  refine lv_if_eq (tgt := 19) hx hb dX9_strikeRate_6 (by decide) (fun c14 => absurd c14 (by decide)) (fun _ => ?_)
  refine lv_iload_n hx hb dX9_strikeRate_9 rfl (lv_at hl 2 rfl) ?_
  refine lv_iconst (v := 0) hx hb dX9_strikeRate_10 (by decide) ?_
  refine lv_bipush (v := 10) hx hb dX9_strikeRate_11 (by decide) ?_
  refine g_cI C0 G (g_runS C0 G (rest := [.ref m]) (k_X9_isIn hfl p 0 10 ) hY_X9_isIn mm_X9_76 ms_X9_isIn ⟨(Nat.le_of_ble_eq_true rfl), (Nat.le_of_ble_eq_true rfl)⟩ rfl hl.1 rfl (Nat.le_of_ble_eq_true rfl) dX9_strikeRate_13 ⟨(Nat.le_of_ble_eq_true rfl), (Nat.le_of_ble_eq_true rfl)⟩) (kx_no rfl) (fun r17 u16 H locs hp15 G => ?_)
  obtain ⟨zr, eu16⟩ := hp15
  replace zr := Eq.symm zr
  subst zr
  rw [eu16] at G
  refine lv_topv (v := 0) (hpn) ?_
  refine lv_if_ne (tgt := 23) hx hb dX9_strikeRate_16 (by decide) (fun c18 => absurd (by decide) c18) (fun _ => ?_)
  refine lv_iconst (v := 1) hx hb dX9_strikeRate_19 (by decide) ?_
  refine lv_goto (tgt := 42) hx hb dX9_strikeRate_20 (by decide) ?_
  refine g_put C0 G h_m rfl hiX9 tyX9 tyX9_ok nmX9 0 (by decide) mf_X9_55 rfl rfl rfl rfl (Nat.le_of_ble_eq_true rfl) dX9_strikeRate_42 (fun H locs f19 hf19 G => ?_)
  have k20 : f19 m = some (.inr (11, [.int 1, .int c_re, .ref v, .ref im, .ref kp, .ref pa, .ref de, .ref ide, .int c_un, .int c_hi, .ref tx, .int c_tn, .int c_fa, .int c_rf, .ref pt, .int c_ps, .int c_pl, .int c_to, .ref so, .ref mo, .ref wh, .ref pf])) := hus hf19
  refine lv_aload_n hx hb dX9_strikeRate_45 rfl (lv_at hl 0 rfl) ?_
  refine g_get C0 G k20 rfl hiX9 0 (by decide) mf_X9_55 rfl dX9_strikeRate_46 ?_
  refine lv_if_le (tgt := 56) hx hb dX9_strikeRate_49 (by decide) (fun c21 => absurd c21 (by decide)) (fun _ => ?_)
  refine lv_fconst0 hx hb dX9_strikeRate_52 ?_
  refine lv_goto (tgt := 84) hx hb dX9_strikeRate_53 (by decide) ?_
  exact g_fret C0 G hr dX9_strikeRate_84 (Nat.le_of_ble_eq_true rfl) (Nat.le_of_ble_eq_true rfl) (by exact ⟨rfl, k20, (fun a9 e9 h7 h8 => hup hf19 (fun q => h7 (by rw [q]; simp)) (h8))⟩)
def X9_strikeRateY_n0 (g : Nat → Int32) (ii : Nat) (pp : Nat) : Nat := if (g (69 + 6 * (11 * ii + pp) + 1)) = 0 then 2 else 0
def X9_strikeRateY_x1 (g : Nat → Int32) (ii : Nat) (pp : Nat) : UInt32 := if (nI (X9_strikeRateY_n0 g ii pp)) ≤ 0 then (FP.fdiv (FP.i2f ((g (69 + 6 * (11 * ii + pp) + 0)) * 100)) (FP.i2f (g (69 + 6 * (11 * ii + pp) + 1)))) else 0
set_option maxRecDepth 100000 in
theorem k_X9_strikeRateY {l : Launch} (hfl : l.stackTraces = false) {D : va_G} {cy : Nat → ClassId} {f : Hf} {sz : Nat} {m : Nat} {v : Nat} {im : Nat} {kp : Nat} {pa : Nat} {de : Nat} {ide : Nat} {tx : Nat} {pt : Nat} {so : Nat} {mo : Nat} {wh : Nat} {pf : Nat} {c_th : Int32} {c_re : Int32} {c_un : Int32} {c_hi : Int32} {c_tn : Int32} {c_fa : Int32} {c_rf : Int32} {c_ps : Int32} {c_pl : Int32} {c_to : Int32} {g : Nat → Int32} {i9 : Int32} {p : Int32} {ii : Nat} {pp : Nat} (h_m : f m = some (.inr (11, [.int c_th, .int c_re, .ref v, .ref im, .ref kp, .ref pa, .ref de, .ref ide, .int c_un, .int c_hi, .ref tx, .int c_tn, .int c_fa, .int c_rf, .ref pt, .int c_ps, .int c_pl, .int c_to, .ref so, .ref mo, .ref wh, .ref pf]))) (h_v : f v = some (.inl (cy 0, 6441, .inl g))) (hii : ii < 4) (hpp : pp < 11) (hyes : X9_isInnings_x1 g (nI ii) = 1) (hpy : X9_isIn_x1 (nI pp) 0 10 = 1) : hMet l yX9_strikeRate cX9_strikeRate 3 (some .float) { frames := 2, cells := 0, slots := 0, locals := 43 } D (hTy cy) f sz [.ref m, .int (nI ii), .int (nI pp)] (hQf (fun r u => r = (X9_strikeRateY_x1 g ii pp) ∧ u m = some (.inr (11, [.int (nI (X9_strikeRateY_n0 g ii pp)), .int c_re, .ref v, .ref im, .ref kp, .ref pa, .ref de, .ref ide, .int c_un, .int c_hi, .ref tx, .int c_tn, .int c_fa, .int c_rf, .ref pt, .int c_ps, .int c_pl, .int c_to, .ref so, .ref mo, .ref wh, .ref pf])) ∧ hFrL f u [m]) D f sz) hNo := by
  refine h_enter (by decide) hfl (Nat.le_of_ble_eq_true rfl) ?_
  intro p9 e9 s9 m9 b9 t9 c9 hsz C0 hr hnm G ls hl
  have hx := C0.1.1
  have hb := C0.1.2.1
  have hl : lv_has ls 3 [(0, .ref m), (1, .int (nI ii)), (2, .int (nI pp))] := hl
  refine lv_aload_n hx hb dX9_strikeRate_0 rfl (lv_at hl 0 rfl) ?_
  refine lv_aload_n hx hb dX9_strikeRate_1 rfl (lv_at hl 0 rfl) ?_
  refine lv_iload_n hx hb dX9_strikeRate_2 rfl (lv_at hl 1 rfl) ?_
  refine g_cI C0 G (g_runV C0 G (rest := [.ref m]) (k_X9_isInnings hfl (nI ii) h_m h_v) h_m rfl hY_X9_isInnings mm_X9_227 mi_X9_isInnings ml_X9_isInnings ⟨(Nat.le_of_ble_eq_true rfl), (Nat.le_of_ble_eq_true rfl)⟩ rfl hl.1 rfl (Nat.le_of_ble_eq_true rfl) dX9_strikeRate_3 ⟨(Nat.le_of_ble_eq_true rfl), (Nat.le_of_ble_eq_true rfl)⟩) (kx_no rfl) (fun r13 u12 H locs hp11 G => ?_)
  obtain ⟨zr, eu12⟩ := hp11
  replace zr := Eq.symm zr
  subst zr
  rw [eu12] at G
  refine lv_topv (v := 1) (hyes) ?_
  refine lv_if_eq (tgt := 19) hx hb dX9_strikeRate_6 (by decide) (fun c14 => absurd c14 (by decide)) (fun _ => ?_)
  refine lv_iload_n hx hb dX9_strikeRate_9 rfl (lv_at hl 2 rfl) ?_
  refine lv_iconst (v := 0) hx hb dX9_strikeRate_10 (by decide) ?_
  refine lv_bipush (v := 10) hx hb dX9_strikeRate_11 (by decide) ?_
  refine g_cI C0 G (g_runS C0 G (rest := [.ref m]) (k_X9_isIn hfl (nI pp) 0 10 ) hY_X9_isIn mm_X9_76 ms_X9_isIn ⟨(Nat.le_of_ble_eq_true rfl), (Nat.le_of_ble_eq_true rfl)⟩ rfl hl.1 rfl (Nat.le_of_ble_eq_true rfl) dX9_strikeRate_13 ⟨(Nat.le_of_ble_eq_true rfl), (Nat.le_of_ble_eq_true rfl)⟩) (kx_no rfl) (fun r17 u16 H locs hp15 G => ?_)
  obtain ⟨zr, eu16⟩ := hp15
  replace zr := Eq.symm zr
  subst zr
  rw [eu16] at G
  refine lv_topv (v := 1) (hpy) ?_
  refine lv_if_ne (tgt := 23) hx hb dX9_strikeRate_16 (by decide) (fun _ => ?_) (fun c18 => absurd c18 (by decide))
  refine lv_aload_n hx hb dX9_strikeRate_23 rfl (lv_at hl 0 rfl) ?_
  refine g_get C0 G h_m rfl hiX9 2 (by decide) mf_X9_9 rfl dX9_strikeRate_24 ?_
  refine lv_iload_n hx hb dX9_strikeRate_27 rfl (lv_at hl 1 rfl) ?_
  refine lv_iload_n hx hb dX9_strikeRate_28 rfl (lv_at hl 2 rfl) ?_
  refine lv_iconst (v := 1) hx hb dX9_strikeRate_29 (by decide) ?_
  refine g_cI C0 G (g_runS C0 G (rest := [.ref v, .ref m]) (k_X9_batterAt hfl (nI ii) (nI pp) 1 ) hY_X9_batterAt mm_X9_65 ms_X9_batterAt ⟨(Nat.le_of_ble_eq_true rfl), (Nat.le_of_ble_eq_true rfl)⟩ rfl hl.1 rfl (Nat.le_of_ble_eq_true rfl) dX9_strikeRate_30 ⟨(Nat.le_of_ble_eq_true rfl), (Nat.le_of_ble_eq_true rfl)⟩) (kx_no rfl) (fun r21 u20 H locs hp19 G => ?_)
  obtain ⟨zr, eu20⟩ := hp19
  replace zr := Eq.symm zr
  subst zr
  rw [eu20] at G
  refine lv_topv (v := nI (69 + 6 * (11 * ii + pp) + 1)) (bat_n ii pp 1) ?_
  refine g_iald C0 G h_v 0 rfl (vp_in_nI (by omega) (by omega)) dX9_strikeRate_33 ?_
  refine lv_topv (v := g (69 + 6 * (11 * ii + pp) + 1)) (congrArg g (nI_c (by omega))) ?_
  have J24 : ∀ (y23 : Int32) (_ : y23 = nI (X9_strikeRateY_n0 g ii pp)) (H : Heap) (locs : List Loc) (ls : Array Slot), hG D (hA f sz) f s9 H locs → lv_has ls 3 [(0, .ref m), (1, .int (nI ii)), (2, .int (nI pp))] → W p9 l e9 ({ frames := 2, cells := 0, slots := 0, locals := 43 } : Room) s9 m9 ([.ref m, .int (nI ii), .int (nI pp)] : List Value).toArray b9 t9 c9 H locs 0 0 (vx_MQ b9 (hQf (fun r u => r = (X9_strikeRateY_x1 g ii pp) ∧ u m = some (.inr (11, [.int (nI (X9_strikeRateY_n0 g ii pp)), .int c_re, .ref v, .ref im, .ref kp, .ref pa, .ref de, .ref ide, .int c_un, .int c_hi, .ref tx, .int c_tn, .int c_fa, .int c_rf, .ref pt, .int c_ps, .int c_pl, .int c_to, .ref so, .ref mo, .ref wh, .ref pf])) ∧ hFrL f u [m]) D f sz) (hPx hNo D f sz) ([.ref m, .int (nI ii), .int (nI pp)] : List Value).toArray s9 0 0 (hA f sz)) (F0 m9 42 ls [.int y23, .ref m]) := by
    intro y23 ey23 H locs ls G hl
    replace ey23 := Eq.symm ey23
    subst ey23
    have bd26 : (X9_strikeRateY_n0 g ii pp) ≤ 2 := by unfold X9_strikeRateY_n0; repeat (first | omega | split)
    refine g_put C0 G h_m rfl hiX9 tyX9 tyX9_ok nmX9 0 (by decide) mf_X9_55 rfl rfl rfl rfl (Nat.le_of_ble_eq_true rfl) dX9_strikeRate_42 (fun H locs f27 hf27 G => ?_)
    have k28 : f27 m = some (.inr (11, [.int (nI (X9_strikeRateY_n0 g ii pp)), .int c_re, .ref v, .ref im, .ref kp, .ref pa, .ref de, .ref ide, .int c_un, .int c_hi, .ref tx, .int c_tn, .int c_fa, .int c_rf, .ref pt, .int c_ps, .int c_pl, .int c_to, .ref so, .ref mo, .ref wh, .ref pf])) := hus hf27
    refine lv_aload_n hx hb dX9_strikeRate_45 rfl (lv_at hl 0 rfl) ?_
    refine g_get C0 G k28 rfl hiX9 0 (by decide) mf_X9_55 rfl dX9_strikeRate_46 ?_
    have J31 : ∀ (y30 : UInt32) (_ : y30 = (X9_strikeRateY_x1 g ii pp)) (H : Heap) (locs : List Loc) (ls : Array Slot), hG D (hA f sz) f27 s9 H locs → lv_has ls 3 [(0, .ref m), (1, .int (nI ii)), (2, .int (nI pp))] → W p9 l e9 ({ frames := 2, cells := 0, slots := 0, locals := 43 } : Room) s9 m9 ([.ref m, .int (nI ii), .int (nI pp)] : List Value).toArray b9 t9 c9 H locs 0 0 (vx_MQ b9 (hQf (fun r u => r = (X9_strikeRateY_x1 g ii pp) ∧ u m = some (.inr (11, [.int (nI (X9_strikeRateY_n0 g ii pp)), .int c_re, .ref v, .ref im, .ref kp, .ref pa, .ref de, .ref ide, .int c_un, .int c_hi, .ref tx, .int c_tn, .int c_fa, .int c_rf, .ref pt, .int c_ps, .int c_pl, .int c_to, .ref so, .ref mo, .ref wh, .ref pf])) ∧ hFrL f u [m]) D f sz) (hPx hNo D f sz) ([.ref m, .int (nI ii), .int (nI pp)] : List Value).toArray s9 0 0 (hA f sz)) (F0 m9 84 ls [.float y30]) := by
      intro y30 ey30 H locs ls G hl
      replace ey30 := Eq.symm ey30
      subst ey30
      exact g_fret C0 G hr dX9_strikeRate_84 (Nat.le_of_ble_eq_true rfl) (Nat.le_of_ble_eq_true rfl) (by exact ⟨rfl, k28, (fun a9 e9 h7 h8 => hup hf27 (fun q => h7 (by rw [q]; simp)) (h8))⟩)
    refine lv_if_le (tgt := 56) hx hb dX9_strikeRate_49 (by decide) (fun c29 => ?_) (fun c29 => ?_)
    · have n33 : (X9_strikeRateY_n0 g ii pp) ≤ 0 := (nI_leI (a := (X9_strikeRateY_n0 g ii pp)) (b := 0) (by omega) (by omega)).mp c29
      refine lv_aload_n hx hb dX9_strikeRate_56 rfl (lv_at hl 0 rfl) ?_
      refine g_get C0 G k28 rfl hiX9 2 (by decide) mf_X9_9 rfl dX9_strikeRate_57 ?_
      refine lv_iload_n hx hb dX9_strikeRate_60 rfl (lv_at hl 1 rfl) ?_
      refine lv_iload_n hx hb dX9_strikeRate_61 rfl (lv_at hl 2 rfl) ?_
      refine lv_iconst (v := 0) hx hb dX9_strikeRate_62 (by decide) ?_
      refine g_cI C0 G (g_runS C0 G (rest := [.ref v]) (k_X9_batterAt hfl (nI ii) (nI pp) 0 ) hY_X9_batterAt mm_X9_65 ms_X9_batterAt ⟨(Nat.le_of_ble_eq_true rfl), (Nat.le_of_ble_eq_true rfl)⟩ rfl hl.1 rfl (Nat.le_of_ble_eq_true rfl) dX9_strikeRate_63 ⟨(Nat.le_of_ble_eq_true rfl), (Nat.le_of_ble_eq_true rfl)⟩) (kx_no rfl) (fun r36 u35 H locs hp34 G => ?_)
      obtain ⟨zr, eu35⟩ := hp34
      replace zr := Eq.symm zr
      subst zr
      rw [eu35] at G
      refine lv_topv (v := nI (69 + 6 * (11 * ii + pp) + 0)) (bat_n ii pp 0) ?_
      have k37 : f27 v = some (.inl (cy 0, 6441, .inl g)) := hup hf27 (hne h_v h_m (by intro q; cases q)) h_v
      refine g_iald C0 G k37 0 rfl (vp_in_nI (by omega) (by omega)) dX9_strikeRate_66 ?_
      refine lv_topv (v := g (69 + 6 * (11 * ii + pp) + 0)) (congrArg g (nI_c (by omega))) ?_
      refine lv_bipush (v := 100) hx hb dX9_strikeRate_67 (by decide) ?_
      refine lv_imul hx hb dX9_strikeRate_69 ?_
      refine lv_i2f hx hb dX9_strikeRate_70 ?_
      refine lv_aload_n hx hb dX9_strikeRate_71 rfl (lv_at hl 0 rfl) ?_
      refine g_get C0 G k28 rfl hiX9 2 (by decide) mf_X9_9 rfl dX9_strikeRate_72 ?_
      refine lv_iload_n hx hb dX9_strikeRate_75 rfl (lv_at hl 1 rfl) ?_
      refine lv_iload_n hx hb dX9_strikeRate_76 rfl (lv_at hl 2 rfl) ?_
      refine lv_iconst (v := 1) hx hb dX9_strikeRate_77 (by decide) ?_
      refine g_cI C0 G (g_runS C0 G (rest := [.ref v, .float (FP.i2f ((g (69 + 6 * (11 * ii + pp) + 0)) * 100))]) (k_X9_batterAt hfl (nI ii) (nI pp) 1 ) hY_X9_batterAt mm_X9_65 ms_X9_batterAt ⟨(Nat.le_of_ble_eq_true rfl), (Nat.le_of_ble_eq_true rfl)⟩ rfl hl.1 rfl (Nat.le_of_ble_eq_true rfl) dX9_strikeRate_78 ⟨(Nat.le_of_ble_eq_true rfl), (Nat.le_of_ble_eq_true rfl)⟩) (kx_no rfl) (fun r40 u39 H locs hp38 G => ?_)
      obtain ⟨zr, eu39⟩ := hp38
      replace zr := Eq.symm zr
      subst zr
      rw [eu39] at G
      refine lv_topv (v := nI (69 + 6 * (11 * ii + pp) + 1)) (bat_n ii pp 1) ?_
      refine g_iald C0 G k37 0 rfl (vp_in_nI (by omega) (by omega)) dX9_strikeRate_81 ?_
      refine lv_topv (v := g (69 + 6 * (11 * ii + pp) + 1)) (congrArg g (nI_c (by omega))) ?_
      refine lv_i2f hx hb dX9_strikeRate_82 ?_
      refine lv_fdiv hx hb dX9_strikeRate_83 (fdiv_n _ _ (by intro q; have h9 : X9_strikeRateY_n0 g ii pp ≤ 0 := (by assumption); unfold X9_strikeRateY_n0 at h9; rw [if_pos q] at h9; omega)) ?_
      exact J31 (FP.fdiv (FP.i2f ((g (69 + 6 * (11 * ii + pp) + 0)) * 100)) (FP.i2f (g (69 + 6 * (11 * ii + pp) + 1)))) (by rw [X9_strikeRateY_x1, if_pos c29]) _ _ _ G (lv_sub hl [0, 1, 2] rfl)
    · have n41 : ¬ (X9_strikeRateY_n0 g ii pp) ≤ 0 := fun q => c29 ((nI_leI (a := (X9_strikeRateY_n0 g ii pp)) (b := 0) (by omega) (by omega)).mpr q)
      refine lv_fconst0 hx hb dX9_strikeRate_52 ?_
      refine lv_goto (tgt := 84) hx hb dX9_strikeRate_53 (by decide) ?_
      exact J31 0 (by rw [X9_strikeRateY_x1, if_neg c29]) _ _ _ G (lv_sub hl [0, 1, 2] rfl)
  refine lv_if_ne (tgt := 41) hx hb dX9_strikeRate_34 (by decide) (fun c22 => ?_) (fun c22 => ?_)
  · refine lv_iconst (v := 0) hx hb dX9_strikeRate_41 (by decide) ?_
    exact J24 0 (by rw [X9_strikeRateY_n0, if_neg c22] <;> rfl) _ _ _ G (lv_sub hl [0, 1, 2] rfl)
  · refine lv_iconst (v := 2) hx hb dX9_strikeRate_37 (by decide) ?_
    refine lv_goto (tgt := 42) hx hb dX9_strikeRate_38 (by decide) ?_
    exact J24 2 (by rw [X9_strikeRateY_n0, if_pos c22] <;> rfl) _ _ _ G (lv_sub hl [0, 1, 2] rfl)
