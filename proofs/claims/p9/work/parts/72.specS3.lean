def X9_bowl_x0 (p : Int32) : Int32 := if (X9_isIn_x1 p 0 10) = 0 then 1 else 0
def X9_bowl_x1 (g : Nat → Int32) (p : Int32) : Int32 := if (X9_bowl_x0 p) = 1 then 0 else (X9_commands_r1 g 0 p 0 0 0 0)
def X9_bowl_g2 (g : Nat → Int32) (gp : Nat → Int32) (p : Int32) (un : Nat) : Nat → Int32 := if (X9_bowl_x0 p) = 1 then gp else (X9_commands_g2 g gp 0 p 0 0 0 0 un)
def X9_bowl_x3 (g : Nat → Int32) (p : Int32) : Int32 := if (X9_bowl_x0 p) = 1 then (X9_bowl_x0 p) else (X9_commands_x3 (X9_bowl_x0 p) g 2 0 p 0 0 0 0)
def X9_bowl_x4 (c_re : Int32) (g : Nat → Int32) (p : Int32) : Int32 := if (X9_bowl_x0 p) = 1 then c_re else (X9_commands_x4 c_re g 0 p 0 0 0 0)
def X9_bowl_x5 (g : Nat → Int32) (p : Int32) (un : Nat) : Int32 := if (X9_bowl_x0 p) = 1 then (nI un) else (X9_commands_x5 g 0 p 0 0 0 0 un)
def X9_bowl_g6 (g : Nat → Int32) (gd : Nat → Int32) (p : Int32) : Nat → Int32 := if (X9_bowl_x0 p) = 1 then gd else (X9_commands_g6 g gd 0 p 0 0 0 0)
def X9_bowl_g7 (g : Nat → Int32) (p : Int32) : Nat → Int32 := if (X9_bowl_x0 p) = 1 then g else (X9_commands_g7 g 0 p 0 0 0 0)
set_option maxRecDepth 100000 in
theorem k_X9_bowl {l : Launch} (hfl : l.stackTraces = false) {D : va_G} {cy : Nat → ClassId} {f : Hf} {sz : Nat} {m : Nat} {v : Nat} {im : Nat} {kp : Nat} {pa : Nat} {de : Nat} {ide : Nat} {tx : Nat} {pt : Nat} {so : Nat} {mo : Nat} {wh : Nat} {pf : Nat} {c_th : Int32} {c_re : Int32} {c_hi : Int32} {c_tn : Int32} {c_fa : Int32} {c_rf : Int32} {c_ps : Int32} {c_pl : Int32} {c_to : Int32} {g : Nat → Int32} {gp : Nat → Int32} {gd : Nat → Int32} (p : Int32) {un : Nat} (h_m : f m = some (.inr (11, [.int c_th, .int c_re, .ref v, .ref im, .ref kp, .ref pa, .ref de, .ref ide, .int (nI un), .int c_hi, .ref tx, .int c_tn, .int c_fa, .int c_rf, .ref pt, .int c_ps, .int c_pl, .int c_to, .ref so, .ref mo, .ref wh, .ref pf]))) (h_v : f v = some (.inl (cy 0, 6441, .inl g))) (h_pa : f pa = some (.inl (cy 0, 51528, .inl gp))) (h_de : f de = some (.inl (cy 0, 24000, .inl gd))) (hun : un < 9) (h49 : ¬ (X9_bowl_x0 p) = 1 → dN (g 4) 4) (hpar : ¬ (X9_bowl_x0 p) = 1 → PAR 0 p 0) (hok : ¬ (X9_bowl_x0 p) = 1 → (refusesR 0 p 0 0 0 0 g) ≤ 0 → DOK g 0 p 0) : hMet l yX9_bowl cX9_bowl 2 (some .int) { frames := 6, cells := 0, slots := 0, locals := 158 } D (hTy cy) f sz [.ref m, .int p] (hQi (fun r u => r = (X9_bowl_x1 g p) ∧ u m = some (.inr (11, [.int (X9_bowl_x3 g p), .int (X9_bowl_x4 c_re g p), .ref v, .ref im, .ref kp, .ref pa, .ref de, .ref ide, .int (X9_bowl_x5 g p un), .int c_hi, .ref tx, .int c_tn, .int c_fa, .int c_rf, .ref pt, .int c_ps, .int c_pl, .int c_to, .ref so, .ref mo, .ref wh, .ref pf])) ∧ u pa = some (.inl (cy 0, 51528, .inl (X9_bowl_g2 g gp p un))) ∧ u de = some (.inl (cy 0, 24000, .inl (X9_bowl_g6 g gd p))) ∧ u v = some (.inl (cy 0, 6441, .inl (X9_bowl_g7 g p))) ∧ hFrL f u [m, pa, de, v]) D f sz) hNo := by
  refine h_enter (by decide) hfl (Nat.le_of_ble_eq_true rfl) ?_
  intro p9 e9 s9 m9 b9 t9 c9 hsz C0 hr hnm G ls hl
  have hx := C0.1.1
  have hb := C0.1.2.1
  have hl : lv_has ls 2 [(0, .ref m), (1, .int p)] := hl
  refine lv_aload_n hx hb dX9_bowl_0 rfl (lv_at hl 0 rfl) ?_
  refine lv_iload_n hx hb dX9_bowl_1 rfl (lv_at hl 1 rfl) ?_
  refine lv_iconst (v := 0) hx hb dX9_bowl_2 (by decide) ?_
  refine lv_bipush (v := 10) hx hb dX9_bowl_3 (by decide) ?_
  refine g_cI C0 G (g_runS C0 G (rest := [.ref m]) (k_X9_isIn hfl p 0 10 ) hY_X9_isIn mm_X9_76 ms_X9_isIn ⟨(Nat.le_of_ble_eq_true rfl), (Nat.le_of_ble_eq_true rfl)⟩ rfl hl.1 rfl (Nat.le_of_ble_eq_true rfl) dX9_bowl_5 ⟨(Nat.le_of_ble_eq_true rfl), (Nat.le_of_ble_eq_true rfl)⟩) (kx_no rfl) (fun r13 u12 H locs hp11 G => ?_)
  obtain ⟨zr, eu12⟩ := hp11
  replace zr := Eq.symm zr
  subst zr
  rw [eu12] at G
  have J16 : ∀ (y15 : Int32) (_ : y15 = (X9_bowl_x0 p)) (H : Heap) (locs : List Loc) (ls : Array Slot), hG D (hA f sz) f s9 H locs → lv_has ls 2 [(0, .ref m), (1, .int p)] → W p9 l e9 ({ frames := 6, cells := 0, slots := 0, locals := 158 } : Room) s9 m9 ([.ref m, .int p] : List Value).toArray b9 t9 c9 H locs 0 0 (vx_MQ b9 (hQi (fun r u => r = (X9_bowl_x1 g p) ∧ u m = some (.inr (11, [.int (X9_bowl_x3 g p), .int (X9_bowl_x4 c_re g p), .ref v, .ref im, .ref kp, .ref pa, .ref de, .ref ide, .int (X9_bowl_x5 g p un), .int c_hi, .ref tx, .int c_tn, .int c_fa, .int c_rf, .ref pt, .int c_ps, .int c_pl, .int c_to, .ref so, .ref mo, .ref wh, .ref pf])) ∧ u pa = some (.inl (cy 0, 51528, .inl (X9_bowl_g2 g gp p un))) ∧ u de = some (.inl (cy 0, 24000, .inl (X9_bowl_g6 g gd p))) ∧ u v = some (.inl (cy 0, 6441, .inl (X9_bowl_g7 g p))) ∧ hFrL f u [m, pa, de, v]) D f sz) (hPx hNo D f sz) ([.ref m, .int p] : List Value).toArray s9 0 0 (hA f sz)) (F0 m9 16 ls [.int y15, .ref m]) := by
    intro y15 ey15 H locs ls G hl
    replace ey15 := Eq.symm ey15
    subst ey15
    refine g_put C0 G h_m rfl hiX9 tyX9 tyX9_ok nmX9 0 (by decide) mf_X9_55 rfl rfl rfl rfl (Nat.le_of_ble_eq_true rfl) dX9_bowl_16 (fun H locs f18 hf18 G => ?_)
    have k19 : f18 m = some (.inr (11, [.int (X9_bowl_x0 p), .int c_re, .ref v, .ref im, .ref kp, .ref pa, .ref de, .ref ide, .int (nI un), .int c_hi, .ref tx, .int c_tn, .int c_fa, .int c_rf, .ref pt, .int c_ps, .int c_pl, .int c_to, .ref so, .ref mo, .ref wh, .ref pf])) := hus hf18
    refine lv_aload_n hx hb dX9_bowl_19 rfl (lv_at hl 0 rfl) ?_
    refine g_get C0 G k19 rfl hiX9 0 (by decide) mf_X9_55 rfl dX9_bowl_20 ?_
    refine lv_iconst (v := 1) hx hb dX9_bowl_23 (by decide) ?_
    have k21 : f18 pa = some (.inl (cy 0, 51528, .inl gp)) := hup hf18 (hne h_pa h_m (by intro q; cases q)) h_pa
    have k22 : f18 de = some (.inl (cy 0, 24000, .inl gd)) := hup hf18 (hne h_de h_m (by intro q; cases q)) h_de
    have k23 : f18 v = some (.inl (cy 0, 6441, .inl g)) := hup hf18 (hne h_v h_m (by intro q; cases q)) h_v
    have J31 : ∀ (y24 : Int32) (_ : y24 = (X9_bowl_x1 g p)) (y25 : Nat → Int32) (_ : y25 = (X9_bowl_g2 g gp p un)) (y26 : Int32) (_ : y26 = (X9_bowl_x3 g p)) (y27 : Int32) (_ : y27 = (X9_bowl_x4 c_re g p)) (y28 : Int32) (_ : y28 = (X9_bowl_x5 g p un)) (y29 : Nat → Int32) (_ : y29 = (X9_bowl_g6 g gd p)) (y30 : Nat → Int32) (_ : y30 = (X9_bowl_g7 g p)) (f32 : Hf) (H : Heap) (locs : List Loc) (ls : Array Slot), f32 pa = some (.inl (cy 0, 51528, .inl y25)) → f32 m = some (.inr (11, [.int y26, .int y27, .ref v, .ref im, .ref kp, .ref pa, .ref de, .ref ide, .int y28, .int c_hi, .ref tx, .int c_tn, .int c_fa, .int c_rf, .ref pt, .int c_ps, .int c_pl, .int c_to, .ref so, .ref mo, .ref wh, .ref pf])) → f32 de = some (.inl (cy 0, 24000, .inl y29)) → f32 v = some (.inl (cy 0, 6441, .inl y30)) → hFrL f18 f32 [pa, m, de, v] → hG D (hA f sz) f32 s9 H locs → lv_has ls 2 [(0, .ref m), (1, .int p)] → W p9 l e9 ({ frames := 6, cells := 0, slots := 0, locals := 158 } : Room) s9 m9 ([.ref m, .int p] : List Value).toArray b9 t9 c9 H locs 0 0 (vx_MQ b9 (hQi (fun r u => r = (X9_bowl_x1 g p) ∧ u m = some (.inr (11, [.int (X9_bowl_x3 g p), .int (X9_bowl_x4 c_re g p), .ref v, .ref im, .ref kp, .ref pa, .ref de, .ref ide, .int (X9_bowl_x5 g p un), .int c_hi, .ref tx, .int c_tn, .int c_fa, .int c_rf, .ref pt, .int c_ps, .int c_pl, .int c_to, .ref so, .ref mo, .ref wh, .ref pf])) ∧ u pa = some (.inl (cy 0, 51528, .inl (X9_bowl_g2 g gp p un))) ∧ u de = some (.inl (cy 0, 24000, .inl (X9_bowl_g6 g gd p))) ∧ u v = some (.inl (cy 0, 6441, .inl (X9_bowl_g7 g p))) ∧ hFrL f u [m, pa, de, v]) D f sz) (hPx hNo D f sz) ([.ref m, .int p] : List Value).toArray s9 0 0 (hA f sz)) (F0 m9 42 ls [.int y24]) := by
      intro y24 ey24 y25 ey25 y26 ey26 y27 ey27 y28 ey28 y29 ey29 y30 ey30 f32 H locs ls k33 k34 k35 k36 fr37 G hl
      replace ey24 := Eq.symm ey24
      subst ey24
      replace ey25 := Eq.symm ey25
      subst ey25
      replace ey26 := Eq.symm ey26
      subst ey26
      replace ey27 := Eq.symm ey27
      subst ey27
      replace ey28 := Eq.symm ey28
      subst ey28
      replace ey29 := Eq.symm ey29
      subst ey29
      replace ey30 := Eq.symm ey30
      subst ey30
      exact g_iret C0 G hr dX9_bowl_42 (Nat.le_of_ble_eq_true rfl) (Nat.le_of_ble_eq_true rfl) (by exact ⟨rfl, k34, k33, k35, k36, (fun a9 e9 h7 h8 => fr37 _ _ (fun q => h7 (by simp only [List.mem_cons, List.not_mem_nil, or_false] at q ⊢; first | exact q | (rcases q with q | q | q | q <;> simp [q]) | omega)) (hup hf18 (fun q => h7 (by rw [q]; simp)) (h8)))⟩)
    refine lv_icmp_ne (tgt := 31) hx hb dX9_bowl_24 (by decide) (fun c20 => ?_) (fun c20 => ?_)
    · refine lv_aload_n hx hb dX9_bowl_31 rfl (lv_at hl 0 rfl) ?_
      refine lv_iconst (v := 2) hx hb dX9_bowl_32 (by decide) ?_
      refine lv_iconst (v := 0) hx hb dX9_bowl_33 (by decide) ?_
      refine lv_iload_n hx hb dX9_bowl_34 rfl (lv_at hl 1 rfl) ?_
      refine lv_iconst (v := 0) hx hb dX9_bowl_35 (by decide) ?_
      refine lv_iconst (v := 0) hx hb dX9_bowl_36 (by decide) ?_
      refine lv_iconst (v := 0) hx hb dX9_bowl_37 (by decide) ?_
      refine lv_iconst (v := 0) hx hb dX9_bowl_38 (by decide) ?_
      refine g_cI C0 G (g_runV C0 G (rest := []) (k_X9_commands hfl 2 0 p 0 0 0 0 k19 k23 k21 k22 hun (h49 c20) (hpar c20) (hok c20)) k19 rfl hY_X9_commands mm_X9_179 mi_X9_commands ml_X9_commands ⟨(Nat.le_of_ble_eq_true rfl), (Nat.le_of_ble_eq_true rfl)⟩ rfl hl.1 rfl (Nat.le_of_ble_eq_true rfl) dX9_bowl_39 ⟨(Nat.le_of_ble_eq_true rfl), (Nat.le_of_ble_eq_true rfl)⟩) (kx_no rfl) (fun r40 u39 H locs hp38 G => ?_)
      obtain ⟨zr, k41, k42, k43, k44, fr45⟩ := hp38
      replace zr := Eq.symm zr
      subst zr
      exact J31 (X9_commands_r1 g 0 p 0 0 0 0) (by rw [X9_bowl_x1, if_neg c20]) (X9_commands_g2 g gp 0 p 0 0 0 0 un) (by rw [X9_bowl_g2, if_neg c20]) (X9_commands_x3 (X9_bowl_x0 p) g 2 0 p 0 0 0 0) (by rw [X9_bowl_x3, if_neg c20]) (X9_commands_x4 c_re g 0 p 0 0 0 0) (by rw [X9_bowl_x4, if_neg c20]) (X9_commands_x5 g 0 p 0 0 0 0 un) (by rw [X9_bowl_x5, if_neg c20]) (X9_commands_g6 g gd 0 p 0 0 0 0) (by rw [X9_bowl_g6, if_neg c20]) (X9_commands_g7 g 0 p 0 0 0 0) (by rw [X9_bowl_g7, if_neg c20]) u39 _ _ _ k41 k42 k43 k44 (fun a9 e9 h7 h8 => fr45 _ _ (fun q => h7 (by simp only [List.mem_cons, List.not_mem_nil, or_false] at q ⊢; first | exact q | (rcases q with q | q | q | q <;> simp [q]) | omega)) (h8)) G (lv_sub hl [0, 1] rfl)
    · refine lv_iconst (v := 0) hx hb dX9_bowl_27 (by decide) ?_
      refine lv_goto (tgt := 42) hx hb dX9_bowl_28 (by decide) ?_
      exact J31 0 (by rw [X9_bowl_x1, if_pos c20]) gp (by rw [X9_bowl_g2, if_pos c20]) (X9_bowl_x0 p) (by rw [X9_bowl_x3, if_pos c20]) c_re (by rw [X9_bowl_x4, if_pos c20]) (nI un) (by rw [X9_bowl_x5, if_pos c20]) gd (by rw [X9_bowl_g6, if_pos c20]) g (by rw [X9_bowl_g7, if_pos c20]) f18 _ _ _ k21 k19 k22 k23 (fun a9 e9 h7 h8 => h8) G (lv_sub hl [0, 1] rfl)
  refine lv_if_eq (tgt := 15) hx hb dX9_bowl_8 (by decide) (fun c14 => ?_) (fun c14 => ?_)
  · refine lv_iconst (v := 1) hx hb dX9_bowl_15 (by decide) ?_
    exact J16 1 (by rw [X9_bowl_x0, if_pos c14]) _ _ _ G (lv_sub hl [0, 1] rfl)
  · refine lv_iconst (v := 0) hx hb dX9_bowl_11 (by decide) ?_
    refine lv_goto (tgt := 16) hx hb dX9_bowl_12 (by decide) ?_
    exact J16 0 (by rw [X9_bowl_x0, if_neg c14]) _ _ _ G (lv_sub hl [0, 1] rfl)
def X9_ball_x0 (kind : Int32) (runs : Int32) (bnd : Int32) : Int32 := if (X9_isBall_x10 kind runs bnd) = 0 then 1 else 0
def X9_ball_x1 (g : Nat → Int32) (kind : Int32) (runs : Int32) (bnd : Int32) : Int32 := if (X9_ball_x0 kind runs bnd) = 1 then 0 else (X9_commands_r1 g 1 kind runs (X9_bit_x0 bnd) 0 0)
def X9_ball_g2 (g : Nat → Int32) (gp : Nat → Int32) (kind : Int32) (runs : Int32) (bnd : Int32) (un : Nat) : Nat → Int32 := if (X9_ball_x0 kind runs bnd) = 1 then gp else (X9_commands_g2 g gp 1 kind runs (X9_bit_x0 bnd) 0 0 un)
def X9_ball_x3 (g : Nat → Int32) (kind : Int32) (runs : Int32) (bnd : Int32) : Int32 := if (X9_ball_x0 kind runs bnd) = 1 then (X9_ball_x0 kind runs bnd) else (X9_commands_x3 (X9_ball_x0 kind runs bnd) g 2 1 kind runs (X9_bit_x0 bnd) 0 0)
def X9_ball_x4 (c_re : Int32) (g : Nat → Int32) (kind : Int32) (runs : Int32) (bnd : Int32) : Int32 := if (X9_ball_x0 kind runs bnd) = 1 then c_re else (X9_commands_x4 c_re g 1 kind runs (X9_bit_x0 bnd) 0 0)
def X9_ball_x5 (g : Nat → Int32) (kind : Int32) (runs : Int32) (bnd : Int32) (un : Nat) : Int32 := if (X9_ball_x0 kind runs bnd) = 1 then (nI un) else (X9_commands_x5 g 1 kind runs (X9_bit_x0 bnd) 0 0 un)
def X9_ball_g6 (g : Nat → Int32) (gd : Nat → Int32) (kind : Int32) (runs : Int32) (bnd : Int32) : Nat → Int32 := if (X9_ball_x0 kind runs bnd) = 1 then gd else (X9_commands_g6 g gd 1 kind runs (X9_bit_x0 bnd) 0 0)
def X9_ball_g7 (g : Nat → Int32) (kind : Int32) (runs : Int32) (bnd : Int32) : Nat → Int32 := if (X9_ball_x0 kind runs bnd) = 1 then g else (X9_commands_g7 g 1 kind runs (X9_bit_x0 bnd) 0 0)
set_option maxRecDepth 100000 in
theorem k_X9_ball {l : Launch} (hfl : l.stackTraces = false) {D : va_G} {cy : Nat → ClassId} {f : Hf} {sz : Nat} {m : Nat} {v : Nat} {im : Nat} {kp : Nat} {pa : Nat} {de : Nat} {ide : Nat} {tx : Nat} {pt : Nat} {so : Nat} {mo : Nat} {wh : Nat} {pf : Nat} {c_th : Int32} {c_re : Int32} {c_hi : Int32} {c_tn : Int32} {c_fa : Int32} {c_rf : Int32} {c_ps : Int32} {c_pl : Int32} {c_to : Int32} {g : Nat → Int32} {gp : Nat → Int32} {gd : Nat → Int32} (kind : Int32) (runs : Int32) (bnd : Int32) {un : Nat} (h_m : f m = some (.inr (11, [.int c_th, .int c_re, .ref v, .ref im, .ref kp, .ref pa, .ref de, .ref ide, .int (nI un), .int c_hi, .ref tx, .int c_tn, .int c_fa, .int c_rf, .ref pt, .int c_ps, .int c_pl, .int c_to, .ref so, .ref mo, .ref wh, .ref pf]))) (h_v : f v = some (.inl (cy 0, 6441, .inl g))) (h_pa : f pa = some (.inl (cy 0, 51528, .inl gp))) (h_de : f de = some (.inl (cy 0, 24000, .inl gd))) (hun : un < 9) (h49 : ¬ (X9_ball_x0 kind runs bnd) = 1 → dN (g 4) 4) (hpar : ¬ (X9_ball_x0 kind runs bnd) = 1 → PAR 1 kind runs) (hok : ¬ (X9_ball_x0 kind runs bnd) = 1 → (refusesR 1 kind runs (X9_bit_x0 bnd) 0 0 g) ≤ 0 → DOK g 1 kind runs) (hb_bnd : bnd = 0 ∨ bnd = 1) : hMet l yX9_ball cX9_ball 4 (some .int) { frames := 6, cells := 0, slots := 0, locals := 158 } D (hTy cy) f sz [.ref m, .int kind, .int runs, .int bnd] (hQi (fun r u => r = (X9_ball_x1 g kind runs bnd) ∧ u m = some (.inr (11, [.int (X9_ball_x3 g kind runs bnd), .int (X9_ball_x4 c_re g kind runs bnd), .ref v, .ref im, .ref kp, .ref pa, .ref de, .ref ide, .int (X9_ball_x5 g kind runs bnd un), .int c_hi, .ref tx, .int c_tn, .int c_fa, .int c_rf, .ref pt, .int c_ps, .int c_pl, .int c_to, .ref so, .ref mo, .ref wh, .ref pf])) ∧ u pa = some (.inl (cy 0, 51528, .inl (X9_ball_g2 g gp kind runs bnd un))) ∧ u de = some (.inl (cy 0, 24000, .inl (X9_ball_g6 g gd kind runs bnd))) ∧ u v = some (.inl (cy 0, 6441, .inl (X9_ball_g7 g kind runs bnd))) ∧ hFrL f u [m, pa, de, v]) D f sz) hNo := by
  refine h_enter (by decide) hfl (Nat.le_of_ble_eq_true rfl) ?_
  intro p9 e9 s9 m9 b9 t9 c9 hsz C0 hr hnm G ls hl
  have hx := C0.1.1
  have hb := C0.1.2.1
  have hl : lv_has ls 4 [(0, .ref m), (1, .int kind), (2, .int runs), (3, .int bnd)] := hl
  refine lv_aload_n hx hb dX9_ball_0 rfl (lv_at hl 0 rfl) ?_
  refine lv_iload_n hx hb dX9_ball_1 rfl (lv_at hl 1 rfl) ?_
  refine lv_iload_n hx hb dX9_ball_2 rfl (lv_at hl 2 rfl) ?_
  refine lv_iload_n hx hb dX9_ball_3 rfl (lv_at hl 3 rfl) ?_
  refine g_cI C0 G (g_runS C0 G (rest := [.ref m]) (k_X9_isBall hfl kind runs bnd  hb_bnd) hY_X9_isBall mm_X9_183 ms_X9_isBall ⟨(Nat.le_of_ble_eq_true rfl), (Nat.le_of_ble_eq_true rfl)⟩ rfl hl.1 rfl (Nat.le_of_ble_eq_true rfl) dX9_ball_4 ⟨(Nat.le_of_ble_eq_true rfl), (Nat.le_of_ble_eq_true rfl)⟩) (kx_no rfl) (fun r13 u12 H locs hp11 G => ?_)
  obtain ⟨zr, eu12⟩ := hp11
  replace zr := Eq.symm zr
  subst zr
  rw [eu12] at G
  have J16 : ∀ (y15 : Int32) (_ : y15 = (X9_ball_x0 kind runs bnd)) (H : Heap) (locs : List Loc) (ls : Array Slot), hG D (hA f sz) f s9 H locs → lv_has ls 4 [(0, .ref m), (1, .int kind), (2, .int runs), (3, .int bnd)] → W p9 l e9 ({ frames := 6, cells := 0, slots := 0, locals := 158 } : Room) s9 m9 ([.ref m, .int kind, .int runs, .int bnd] : List Value).toArray b9 t9 c9 H locs 0 0 (vx_MQ b9 (hQi (fun r u => r = (X9_ball_x1 g kind runs bnd) ∧ u m = some (.inr (11, [.int (X9_ball_x3 g kind runs bnd), .int (X9_ball_x4 c_re g kind runs bnd), .ref v, .ref im, .ref kp, .ref pa, .ref de, .ref ide, .int (X9_ball_x5 g kind runs bnd un), .int c_hi, .ref tx, .int c_tn, .int c_fa, .int c_rf, .ref pt, .int c_ps, .int c_pl, .int c_to, .ref so, .ref mo, .ref wh, .ref pf])) ∧ u pa = some (.inl (cy 0, 51528, .inl (X9_ball_g2 g gp kind runs bnd un))) ∧ u de = some (.inl (cy 0, 24000, .inl (X9_ball_g6 g gd kind runs bnd))) ∧ u v = some (.inl (cy 0, 6441, .inl (X9_ball_g7 g kind runs bnd))) ∧ hFrL f u [m, pa, de, v]) D f sz) (hPx hNo D f sz) ([.ref m, .int kind, .int runs, .int bnd] : List Value).toArray s9 0 0 (hA f sz)) (F0 m9 15 ls [.int y15, .ref m]) := by
    intro y15 ey15 H locs ls G hl
    replace ey15 := Eq.symm ey15
    subst ey15
    refine g_put C0 G h_m rfl hiX9 tyX9 tyX9_ok nmX9 0 (by decide) mf_X9_55 rfl rfl rfl rfl (Nat.le_of_ble_eq_true rfl) dX9_ball_15 (fun H locs f18 hf18 G => ?_)
    have k19 : f18 m = some (.inr (11, [.int (X9_ball_x0 kind runs bnd), .int c_re, .ref v, .ref im, .ref kp, .ref pa, .ref de, .ref ide, .int (nI un), .int c_hi, .ref tx, .int c_tn, .int c_fa, .int c_rf, .ref pt, .int c_ps, .int c_pl, .int c_to, .ref so, .ref mo, .ref wh, .ref pf])) := hus hf18
    refine lv_aload_n hx hb dX9_ball_18 rfl (lv_at hl 0 rfl) ?_
    refine g_get C0 G k19 rfl hiX9 0 (by decide) mf_X9_55 rfl dX9_ball_19 ?_
    refine lv_iconst (v := 1) hx hb dX9_ball_22 (by decide) ?_
    have k21 : f18 pa = some (.inl (cy 0, 51528, .inl gp)) := hup hf18 (hne h_pa h_m (by intro q; cases q)) h_pa
    have k22 : f18 de = some (.inl (cy 0, 24000, .inl gd)) := hup hf18 (hne h_de h_m (by intro q; cases q)) h_de
    have k23 : f18 v = some (.inl (cy 0, 6441, .inl g)) := hup hf18 (hne h_v h_m (by intro q; cases q)) h_v
    have J31 : ∀ (y24 : Int32) (_ : y24 = (X9_ball_x1 g kind runs bnd)) (y25 : Nat → Int32) (_ : y25 = (X9_ball_g2 g gp kind runs bnd un)) (y26 : Int32) (_ : y26 = (X9_ball_x3 g kind runs bnd)) (y27 : Int32) (_ : y27 = (X9_ball_x4 c_re g kind runs bnd)) (y28 : Int32) (_ : y28 = (X9_ball_x5 g kind runs bnd un)) (y29 : Nat → Int32) (_ : y29 = (X9_ball_g6 g gd kind runs bnd)) (y30 : Nat → Int32) (_ : y30 = (X9_ball_g7 g kind runs bnd)) (f32 : Hf) (H : Heap) (locs : List Loc) (ls : Array Slot), f32 pa = some (.inl (cy 0, 51528, .inl y25)) → f32 m = some (.inr (11, [.int y26, .int y27, .ref v, .ref im, .ref kp, .ref pa, .ref de, .ref ide, .int y28, .int c_hi, .ref tx, .int c_tn, .int c_fa, .int c_rf, .ref pt, .int c_ps, .int c_pl, .int c_to, .ref so, .ref mo, .ref wh, .ref pf])) → f32 de = some (.inl (cy 0, 24000, .inl y29)) → f32 v = some (.inl (cy 0, 6441, .inl y30)) → hFrL f18 f32 [pa, m, de, v] → hG D (hA f sz) f32 s9 H locs → lv_has ls 4 [(0, .ref m), (1, .int kind), (2, .int runs), (3, .int bnd)] → W p9 l e9 ({ frames := 6, cells := 0, slots := 0, locals := 158 } : Room) s9 m9 ([.ref m, .int kind, .int runs, .int bnd] : List Value).toArray b9 t9 c9 H locs 0 0 (vx_MQ b9 (hQi (fun r u => r = (X9_ball_x1 g kind runs bnd) ∧ u m = some (.inr (11, [.int (X9_ball_x3 g kind runs bnd), .int (X9_ball_x4 c_re g kind runs bnd), .ref v, .ref im, .ref kp, .ref pa, .ref de, .ref ide, .int (X9_ball_x5 g kind runs bnd un), .int c_hi, .ref tx, .int c_tn, .int c_fa, .int c_rf, .ref pt, .int c_ps, .int c_pl, .int c_to, .ref so, .ref mo, .ref wh, .ref pf])) ∧ u pa = some (.inl (cy 0, 51528, .inl (X9_ball_g2 g gp kind runs bnd un))) ∧ u de = some (.inl (cy 0, 24000, .inl (X9_ball_g6 g gd kind runs bnd))) ∧ u v = some (.inl (cy 0, 6441, .inl (X9_ball_g7 g kind runs bnd))) ∧ hFrL f u [m, pa, de, v]) D f sz) (hPx hNo D f sz) ([.ref m, .int kind, .int runs, .int bnd] : List Value).toArray s9 0 0 (hA f sz)) (F0 m9 44 ls [.int y24]) := by
      intro y24 ey24 y25 ey25 y26 ey26 y27 ey27 y28 ey28 y29 ey29 y30 ey30 f32 H locs ls k33 k34 k35 k36 fr37 G hl
      replace ey24 := Eq.symm ey24
      subst ey24
      replace ey25 := Eq.symm ey25
      subst ey25
      replace ey26 := Eq.symm ey26
      subst ey26
      replace ey27 := Eq.symm ey27
      subst ey27
      replace ey28 := Eq.symm ey28
      subst ey28
      replace ey29 := Eq.symm ey29
      subst ey29
      replace ey30 := Eq.symm ey30
      subst ey30
      exact g_iret C0 G hr dX9_ball_44 (Nat.le_of_ble_eq_true rfl) (Nat.le_of_ble_eq_true rfl) (by exact ⟨rfl, k34, k33, k35, k36, (fun a9 e9 h7 h8 => fr37 _ _ (fun q => h7 (by simp only [List.mem_cons, List.not_mem_nil, or_false] at q ⊢; first | exact q | (rcases q with q | q | q | q <;> simp [q]) | omega)) (hup hf18 (fun q => h7 (by rw [q]; simp)) (h8)))⟩)
    refine lv_icmp_ne (tgt := 30) hx hb dX9_ball_23 (by decide) (fun c20 => ?_) (fun c20 => ?_)
    · refine lv_aload_n hx hb dX9_ball_30 rfl (lv_at hl 0 rfl) ?_
      refine lv_iconst (v := 2) hx hb dX9_ball_31 (by decide) ?_
      refine lv_iconst (v := 1) hx hb dX9_ball_32 (by decide) ?_
      refine lv_iload_n hx hb dX9_ball_33 rfl (lv_at hl 1 rfl) ?_
      refine lv_iload_n hx hb dX9_ball_34 rfl (lv_at hl 2 rfl) ?_
      refine lv_iload_n hx hb dX9_ball_35 rfl (lv_at hl 3 rfl) ?_
      refine g_cI C0 G (g_runS C0 G (rest := [.int runs, .int kind, .int 1, .int 2, .ref m]) (k_X9_bit hfl bnd  hb_bnd) hY_X9_bit mm_X9_187 ms_X9_bit ⟨(Nat.le_of_ble_eq_true rfl), (Nat.le_of_ble_eq_true rfl)⟩ rfl hl.1 rfl (Nat.le_of_ble_eq_true rfl) dX9_ball_36 ⟨(Nat.le_of_ble_eq_true rfl), (Nat.le_of_ble_eq_true rfl)⟩) (kx_no rfl) (fun r40 u39 H locs hp38 G => ?_)
      obtain ⟨zr, eu39⟩ := hp38
      replace zr := Eq.symm zr
      subst zr
      rw [eu39] at G
      refine lv_iconst (v := 0) hx hb dX9_ball_39 (by decide) ?_
      refine lv_iconst (v := 0) hx hb dX9_ball_40 (by decide) ?_
      refine g_cI C0 G (g_runV C0 G (rest := []) (k_X9_commands hfl 2 1 kind runs (X9_bit_x0 bnd) 0 0 k19 k23 k21 k22 hun (h49 c20) (hpar c20) (hok c20)) k19 rfl hY_X9_commands mm_X9_179 mi_X9_commands ml_X9_commands ⟨(Nat.le_of_ble_eq_true rfl), (Nat.le_of_ble_eq_true rfl)⟩ rfl hl.1 rfl (Nat.le_of_ble_eq_true rfl) dX9_ball_41 ⟨(Nat.le_of_ble_eq_true rfl), (Nat.le_of_ble_eq_true rfl)⟩) (kx_no rfl) (fun r43 u42 H locs hp41 G => ?_)
      obtain ⟨zr, k44, k45, k46, k47, fr48⟩ := hp41
      replace zr := Eq.symm zr
      subst zr
      exact J31 (X9_commands_r1 g 1 kind runs (X9_bit_x0 bnd) 0 0) (by rw [X9_ball_x1, if_neg c20]) (X9_commands_g2 g gp 1 kind runs (X9_bit_x0 bnd) 0 0 un) (by rw [X9_ball_g2, if_neg c20]) (X9_commands_x3 (X9_ball_x0 kind runs bnd) g 2 1 kind runs (X9_bit_x0 bnd) 0 0) (by rw [X9_ball_x3, if_neg c20]) (X9_commands_x4 c_re g 1 kind runs (X9_bit_x0 bnd) 0 0) (by rw [X9_ball_x4, if_neg c20]) (X9_commands_x5 g 1 kind runs (X9_bit_x0 bnd) 0 0 un) (by rw [X9_ball_x5, if_neg c20]) (X9_commands_g6 g gd 1 kind runs (X9_bit_x0 bnd) 0 0) (by rw [X9_ball_g6, if_neg c20]) (X9_commands_g7 g 1 kind runs (X9_bit_x0 bnd) 0 0) (by rw [X9_ball_g7, if_neg c20]) u42 _ _ _ k44 k45 k46 k47 (fun a9 e9 h7 h8 => fr48 _ _ (fun q => h7 (by simp only [List.mem_cons, List.not_mem_nil, or_false] at q ⊢; first | exact q | (rcases q with q | q | q | q <;> simp [q]) | omega)) (h8)) G (lv_sub hl [0, 1, 2, 3] rfl)
    · refine lv_iconst (v := 0) hx hb dX9_ball_26 (by decide) ?_
      refine lv_goto (tgt := 44) hx hb dX9_ball_27 (by decide) ?_
      exact J31 0 (by rw [X9_ball_x1, if_pos c20]) gp (by rw [X9_ball_g2, if_pos c20]) (X9_ball_x0 kind runs bnd) (by rw [X9_ball_x3, if_pos c20]) c_re (by rw [X9_ball_x4, if_pos c20]) (nI un) (by rw [X9_ball_x5, if_pos c20]) gd (by rw [X9_ball_g6, if_pos c20]) g (by rw [X9_ball_g7, if_pos c20]) f18 _ _ _ k21 k19 k22 k23 (fun a9 e9 h7 h8 => h8) G (lv_sub hl [0, 1, 2, 3] rfl)
  refine lv_if_eq (tgt := 14) hx hb dX9_ball_7 (by decide) (fun c14 => ?_) (fun c14 => ?_)
  · refine lv_iconst (v := 1) hx hb dX9_ball_14 (by decide) ?_
    exact J16 1 (by rw [X9_ball_x0, if_pos c14]) _ _ _ G (lv_sub hl [0, 1, 2, 3] rfl)
  · refine lv_iconst (v := 0) hx hb dX9_ball_10 (by decide) ?_
    refine lv_goto (tgt := 15) hx hb dX9_ball_11 (by decide) ?_
    exact J16 0 (by rw [X9_ball_x0, if_neg c14]) _ _ _ G (lv_sub hl [0, 1, 2, 3] rfl)
def X9_wicket_x0 (runs : Int32) : Int32 := if (X9_isIn_x1 runs 0 3) = 0 then 1 else 0
def X9_wicket_x1 (kind : Int32) (runs : Int32) : Int32 := if (X9_isIn_x1 kind 0 2) = 0 then 1 else (X9_wicket_x0 runs)
def X9_wicket_x2 (way : Int32) (kind : Int32) (runs : Int32) : Int32 := if (X9_isIn_x1 way 0 5) = 0 then 1 else (X9_wicket_x1 kind runs)
def X9_wicket_x3 (g : Nat → Int32) (way : Int32) (kind : Int32) (oth : Int32) (runs : Int32) (cro : Int32) : Int32 := if (X9_wicket_x2 way kind runs) = 1 then 0 else (X9_commands_r1 g 2 way kind (X9_bit_x0 oth) runs (X9_bit_x0 cro))
def X9_wicket_g4 (g : Nat → Int32) (gp : Nat → Int32) (way : Int32) (kind : Int32) (oth : Int32) (runs : Int32) (cro : Int32) (un : Nat) : Nat → Int32 := if (X9_wicket_x2 way kind runs) = 1 then gp else (X9_commands_g2 g gp 2 way kind (X9_bit_x0 oth) runs (X9_bit_x0 cro) un)
def X9_wicket_x5 (g : Nat → Int32) (way : Int32) (kind : Int32) (oth : Int32) (runs : Int32) (cro : Int32) : Int32 := if (X9_wicket_x2 way kind runs) = 1 then (X9_wicket_x2 way kind runs) else (X9_commands_x3 (X9_wicket_x2 way kind runs) g 2 2 way kind (X9_bit_x0 oth) runs (X9_bit_x0 cro))
def X9_wicket_x6 (c_re : Int32) (g : Nat → Int32) (way : Int32) (kind : Int32) (oth : Int32) (runs : Int32) (cro : Int32) : Int32 := if (X9_wicket_x2 way kind runs) = 1 then c_re else (X9_commands_x4 c_re g 2 way kind (X9_bit_x0 oth) runs (X9_bit_x0 cro))
def X9_wicket_x7 (g : Nat → Int32) (way : Int32) (kind : Int32) (oth : Int32) (runs : Int32) (cro : Int32) (un : Nat) : Int32 := if (X9_wicket_x2 way kind runs) = 1 then (nI un) else (X9_commands_x5 g 2 way kind (X9_bit_x0 oth) runs (X9_bit_x0 cro) un)
def X9_wicket_g8 (g : Nat → Int32) (gd : Nat → Int32) (way : Int32) (kind : Int32) (oth : Int32) (runs : Int32) (cro : Int32) : Nat → Int32 := if (X9_wicket_x2 way kind runs) = 1 then gd else (X9_commands_g6 g gd 2 way kind (X9_bit_x0 oth) runs (X9_bit_x0 cro))
def X9_wicket_g9 (g : Nat → Int32) (way : Int32) (kind : Int32) (oth : Int32) (runs : Int32) (cro : Int32) : Nat → Int32 := if (X9_wicket_x2 way kind runs) = 1 then g else (X9_commands_g7 g 2 way kind (X9_bit_x0 oth) runs (X9_bit_x0 cro))
set_option maxRecDepth 100000 in
theorem k_X9_wicket {l : Launch} (hfl : l.stackTraces = false) {D : va_G} {cy : Nat → ClassId} {f : Hf} {sz : Nat} {m : Nat} {v : Nat} {im : Nat} {kp : Nat} {pa : Nat} {de : Nat} {ide : Nat} {tx : Nat} {pt : Nat} {so : Nat} {mo : Nat} {wh : Nat} {pf : Nat} {c_th : Int32} {c_re : Int32} {c_hi : Int32} {c_tn : Int32} {c_fa : Int32} {c_rf : Int32} {c_ps : Int32} {c_pl : Int32} {c_to : Int32} {g : Nat → Int32} {gp : Nat → Int32} {gd : Nat → Int32} (way : Int32) (kind : Int32) (oth : Int32) (runs : Int32) (cro : Int32) {un : Nat} (h_m : f m = some (.inr (11, [.int c_th, .int c_re, .ref v, .ref im, .ref kp, .ref pa, .ref de, .ref ide, .int (nI un), .int c_hi, .ref tx, .int c_tn, .int c_fa, .int c_rf, .ref pt, .int c_ps, .int c_pl, .int c_to, .ref so, .ref mo, .ref wh, .ref pf]))) (h_v : f v = some (.inl (cy 0, 6441, .inl g))) (h_pa : f pa = some (.inl (cy 0, 51528, .inl gp))) (h_de : f de = some (.inl (cy 0, 24000, .inl gd))) (hun : un < 9) (h49 : ¬ (X9_wicket_x2 way kind runs) = 1 → dN (g 4) 4) (hpar : ¬ (X9_wicket_x2 way kind runs) = 1 → PAR 2 way kind) (hok : ¬ (X9_wicket_x2 way kind runs) = 1 → (refusesR 2 way kind (X9_bit_x0 oth) runs (X9_bit_x0 cro) g) ≤ 0 → DOK g 2 way kind) (hb_oth : oth = 0 ∨ oth = 1) (hb_cro : cro = 0 ∨ cro = 1) : hMet l yX9_wicket cX9_wicket 6 (some .int) { frames := 6, cells := 0, slots := 0, locals := 158 } D (hTy cy) f sz [.ref m, .int way, .int kind, .int oth, .int runs, .int cro] (hQi (fun r u => r = (X9_wicket_x3 g way kind oth runs cro) ∧ u m = some (.inr (11, [.int (X9_wicket_x5 g way kind oth runs cro), .int (X9_wicket_x6 c_re g way kind oth runs cro), .ref v, .ref im, .ref kp, .ref pa, .ref de, .ref ide, .int (X9_wicket_x7 g way kind oth runs cro un), .int c_hi, .ref tx, .int c_tn, .int c_fa, .int c_rf, .ref pt, .int c_ps, .int c_pl, .int c_to, .ref so, .ref mo, .ref wh, .ref pf])) ∧ u pa = some (.inl (cy 0, 51528, .inl (X9_wicket_g4 g gp way kind oth runs cro un))) ∧ u de = some (.inl (cy 0, 24000, .inl (X9_wicket_g8 g gd way kind oth runs cro))) ∧ u v = some (.inl (cy 0, 6441, .inl (X9_wicket_g9 g way kind oth runs cro))) ∧ hFrL f u [m, pa, de, v]) D f sz) hNo := by
  refine h_enter (by decide) hfl (Nat.le_of_ble_eq_true rfl) ?_
  intro p9 e9 s9 m9 b9 t9 c9 hsz C0 hr hnm G ls hl
  have hx := C0.1.1
  have hb := C0.1.2.1
  have hl : lv_has ls 6 [(0, .ref m), (1, .int way), (2, .int kind), (3, .int oth), (4, .int runs), (5, .int cro)] := hl
  refine lv_aload_n hx hb dX9_wicket_0 rfl (lv_at hl 0 rfl) ?_
  refine lv_iload_n hx hb dX9_wicket_1 rfl (lv_at hl 1 rfl) ?_
  refine lv_iconst (v := 0) hx hb dX9_wicket_2 (by decide) ?_
  refine lv_iconst (v := 5) hx hb dX9_wicket_3 (by decide) ?_
  refine g_cI C0 G (g_runS C0 G (rest := [.ref m]) (k_X9_isIn hfl way 0 5 ) hY_X9_isIn mm_X9_76 ms_X9_isIn ⟨(Nat.le_of_ble_eq_true rfl), (Nat.le_of_ble_eq_true rfl)⟩ rfl hl.1 rfl (Nat.le_of_ble_eq_true rfl) dX9_wicket_4 ⟨(Nat.le_of_ble_eq_true rfl), (Nat.le_of_ble_eq_true rfl)⟩) (kx_no rfl) (fun r13 u12 H locs hp11 G => ?_)
  obtain ⟨zr, eu12⟩ := hp11
  replace zr := Eq.symm zr
  subst zr
  rw [eu12] at G
  have J16 : ∀ (y15 : Int32) (_ : y15 = (X9_wicket_x2 way kind runs)) (H : Heap) (locs : List Loc) (ls : Array Slot), hG D (hA f sz) f s9 H locs → lv_has ls 6 [(0, .ref m), (1, .int way), (2, .int kind), (3, .int oth), (4, .int runs), (5, .int cro)] → W p9 l e9 ({ frames := 6, cells := 0, slots := 0, locals := 158 } : Room) s9 m9 ([.ref m, .int way, .int kind, .int oth, .int runs, .int cro] : List Value).toArray b9 t9 c9 H locs 0 0 (vx_MQ b9 (hQi (fun r u => r = (X9_wicket_x3 g way kind oth runs cro) ∧ u m = some (.inr (11, [.int (X9_wicket_x5 g way kind oth runs cro), .int (X9_wicket_x6 c_re g way kind oth runs cro), .ref v, .ref im, .ref kp, .ref pa, .ref de, .ref ide, .int (X9_wicket_x7 g way kind oth runs cro un), .int c_hi, .ref tx, .int c_tn, .int c_fa, .int c_rf, .ref pt, .int c_ps, .int c_pl, .int c_to, .ref so, .ref mo, .ref wh, .ref pf])) ∧ u pa = some (.inl (cy 0, 51528, .inl (X9_wicket_g4 g gp way kind oth runs cro un))) ∧ u de = some (.inl (cy 0, 24000, .inl (X9_wicket_g8 g gd way kind oth runs cro))) ∧ u v = some (.inl (cy 0, 6441, .inl (X9_wicket_g9 g way kind oth runs cro))) ∧ hFrL f u [m, pa, de, v]) D f sz) (hPx hNo D f sz) ([.ref m, .int way, .int kind, .int oth, .int runs, .int cro] : List Value).toArray s9 0 0 (hA f sz)) (F0 m9 34 ls [.int y15, .ref m]) := by
    intro y15 ey15 H locs ls G hl
    replace ey15 := Eq.symm ey15
    subst ey15
    refine g_put C0 G h_m rfl hiX9 tyX9 tyX9_ok nmX9 0 (by decide) mf_X9_55 rfl rfl rfl rfl (Nat.le_of_ble_eq_true rfl) dX9_wicket_34 (fun H locs f18 hf18 G => ?_)
    have k19 : f18 m = some (.inr (11, [.int (X9_wicket_x2 way kind runs), .int c_re, .ref v, .ref im, .ref kp, .ref pa, .ref de, .ref ide, .int (nI un), .int c_hi, .ref tx, .int c_tn, .int c_fa, .int c_rf, .ref pt, .int c_ps, .int c_pl, .int c_to, .ref so, .ref mo, .ref wh, .ref pf])) := hus hf18
    refine lv_aload_n hx hb dX9_wicket_37 rfl (lv_at hl 0 rfl) ?_
    refine g_get C0 G k19 rfl hiX9 0 (by decide) mf_X9_55 rfl dX9_wicket_38 ?_
    refine lv_iconst (v := 1) hx hb dX9_wicket_41 (by decide) ?_
    have k21 : f18 pa = some (.inl (cy 0, 51528, .inl gp)) := hup hf18 (hne h_pa h_m (by intro q; cases q)) h_pa
    have k22 : f18 de = some (.inl (cy 0, 24000, .inl gd)) := hup hf18 (hne h_de h_m (by intro q; cases q)) h_de
    have k23 : f18 v = some (.inl (cy 0, 6441, .inl g)) := hup hf18 (hne h_v h_m (by intro q; cases q)) h_v
    have J31 : ∀ (y24 : Int32) (_ : y24 = (X9_wicket_x3 g way kind oth runs cro)) (y25 : Nat → Int32) (_ : y25 = (X9_wicket_g4 g gp way kind oth runs cro un)) (y26 : Int32) (_ : y26 = (X9_wicket_x5 g way kind oth runs cro)) (y27 : Int32) (_ : y27 = (X9_wicket_x6 c_re g way kind oth runs cro)) (y28 : Int32) (_ : y28 = (X9_wicket_x7 g way kind oth runs cro un)) (y29 : Nat → Int32) (_ : y29 = (X9_wicket_g8 g gd way kind oth runs cro)) (y30 : Nat → Int32) (_ : y30 = (X9_wicket_g9 g way kind oth runs cro)) (f32 : Hf) (H : Heap) (locs : List Loc) (ls : Array Slot), f32 pa = some (.inl (cy 0, 51528, .inl y25)) → f32 m = some (.inr (11, [.int y26, .int y27, .ref v, .ref im, .ref kp, .ref pa, .ref de, .ref ide, .int y28, .int c_hi, .ref tx, .int c_tn, .int c_fa, .int c_rf, .ref pt, .int c_ps, .int c_pl, .int c_to, .ref so, .ref mo, .ref wh, .ref pf])) → f32 de = some (.inl (cy 0, 24000, .inl y29)) → f32 v = some (.inl (cy 0, 6441, .inl y30)) → hFrL f18 f32 [pa, m, de, v] → hG D (hA f sz) f32 s9 H locs → lv_has ls 6 [(0, .ref m), (1, .int way), (2, .int kind), (3, .int oth), (4, .int runs), (5, .int cro)] → W p9 l e9 ({ frames := 6, cells := 0, slots := 0, locals := 158 } : Room) s9 m9 ([.ref m, .int way, .int kind, .int oth, .int runs, .int cro] : List Value).toArray b9 t9 c9 H locs 0 0 (vx_MQ b9 (hQi (fun r u => r = (X9_wicket_x3 g way kind oth runs cro) ∧ u m = some (.inr (11, [.int (X9_wicket_x5 g way kind oth runs cro), .int (X9_wicket_x6 c_re g way kind oth runs cro), .ref v, .ref im, .ref kp, .ref pa, .ref de, .ref ide, .int (X9_wicket_x7 g way kind oth runs cro un), .int c_hi, .ref tx, .int c_tn, .int c_fa, .int c_rf, .ref pt, .int c_ps, .int c_pl, .int c_to, .ref so, .ref mo, .ref wh, .ref pf])) ∧ u pa = some (.inl (cy 0, 51528, .inl (X9_wicket_g4 g gp way kind oth runs cro un))) ∧ u de = some (.inl (cy 0, 24000, .inl (X9_wicket_g8 g gd way kind oth runs cro))) ∧ u v = some (.inl (cy 0, 6441, .inl (X9_wicket_g9 g way kind oth runs cro))) ∧ hFrL f u [m, pa, de, v]) D f sz) (hPx hNo D f sz) ([.ref m, .int way, .int kind, .int oth, .int runs, .int cro] : List Value).toArray s9 0 0 (hA f sz)) (F0 m9 68 ls [.int y24]) := by
      intro y24 ey24 y25 ey25 y26 ey26 y27 ey27 y28 ey28 y29 ey29 y30 ey30 f32 H locs ls k33 k34 k35 k36 fr37 G hl
      replace ey24 := Eq.symm ey24
      subst ey24
      replace ey25 := Eq.symm ey25
      subst ey25
      replace ey26 := Eq.symm ey26
      subst ey26
      replace ey27 := Eq.symm ey27
      subst ey27
      replace ey28 := Eq.symm ey28
      subst ey28
      replace ey29 := Eq.symm ey29
      subst ey29
      replace ey30 := Eq.symm ey30
      subst ey30
      exact g_iret C0 G hr dX9_wicket_68 (Nat.le_of_ble_eq_true rfl) (Nat.le_of_ble_eq_true rfl) (by exact ⟨rfl, k34, k33, k35, k36, (fun a9 e9 h7 h8 => fr37 _ _ (fun q => h7 (by simp only [List.mem_cons, List.not_mem_nil, or_false] at q ⊢; first | exact q | (rcases q with q | q | q | q <;> simp [q]) | omega)) (hup hf18 (fun q => h7 (by rw [q]; simp)) (h8)))⟩)
    refine lv_icmp_ne (tgt := 49) hx hb dX9_wicket_42 (by decide) (fun c20 => ?_) (fun c20 => ?_)
    · refine lv_aload_n hx hb dX9_wicket_49 rfl (lv_at hl 0 rfl) ?_
      refine lv_iconst (v := 2) hx hb dX9_wicket_50 (by decide) ?_
      refine lv_iconst (v := 2) hx hb dX9_wicket_51 (by decide) ?_
      refine lv_iload_n hx hb dX9_wicket_52 rfl (lv_at hl 1 rfl) ?_
      refine lv_iload_n hx hb dX9_wicket_53 rfl (lv_at hl 2 rfl) ?_
      refine lv_iload_n hx hb dX9_wicket_54 rfl (lv_at hl 3 rfl) ?_
      refine g_cI C0 G (g_runS C0 G (rest := [.int kind, .int way, .int 2, .int 2, .ref m]) (k_X9_bit hfl oth  hb_oth) hY_X9_bit mm_X9_187 ms_X9_bit ⟨(Nat.le_of_ble_eq_true rfl), (Nat.le_of_ble_eq_true rfl)⟩ rfl hl.1 rfl (Nat.le_of_ble_eq_true rfl) dX9_wicket_55 ⟨(Nat.le_of_ble_eq_true rfl), (Nat.le_of_ble_eq_true rfl)⟩) (kx_no rfl) (fun r40 u39 H locs hp38 G => ?_)
      obtain ⟨zr, eu39⟩ := hp38
      replace zr := Eq.symm zr
      subst zr
      rw [eu39] at G
      refine lv_iload hx hb dX9_wicket_58 (lv_at hl 4 rfl) ?_
      refine lv_iload hx hb dX9_wicket_60 (lv_at hl 5 rfl) ?_
      refine g_cI C0 G (g_runS C0 G (rest := [.int runs, .int (X9_bit_x0 oth), .int kind, .int way, .int 2, .int 2, .ref m]) (k_X9_bit hfl cro  hb_cro) hY_X9_bit mm_X9_187 ms_X9_bit ⟨(Nat.le_of_ble_eq_true rfl), (Nat.le_of_ble_eq_true rfl)⟩ rfl hl.1 rfl (Nat.le_of_ble_eq_true rfl) dX9_wicket_62 ⟨(Nat.le_of_ble_eq_true rfl), (Nat.le_of_ble_eq_true rfl)⟩) (kx_no rfl) (fun r43 u42 H locs hp41 G => ?_)
      obtain ⟨zr, eu42⟩ := hp41
      replace zr := Eq.symm zr
      subst zr
      rw [eu42] at G
      refine g_cI C0 G (g_runV C0 G (rest := []) (k_X9_commands hfl 2 2 way kind (X9_bit_x0 oth) runs (X9_bit_x0 cro) k19 k23 k21 k22 hun (h49 c20) (hpar c20) (hok c20)) k19 rfl hY_X9_commands mm_X9_179 mi_X9_commands ml_X9_commands ⟨(Nat.le_of_ble_eq_true rfl), (Nat.le_of_ble_eq_true rfl)⟩ rfl hl.1 rfl (Nat.le_of_ble_eq_true rfl) dX9_wicket_65 ⟨(Nat.le_of_ble_eq_true rfl), (Nat.le_of_ble_eq_true rfl)⟩) (kx_no rfl) (fun r46 u45 H locs hp44 G => ?_)
      obtain ⟨zr, k47, k48, k49, k50, fr51⟩ := hp44
      replace zr := Eq.symm zr
      subst zr
      exact J31 (X9_commands_r1 g 2 way kind (X9_bit_x0 oth) runs (X9_bit_x0 cro)) (by rw [X9_wicket_x3, if_neg c20]) (X9_commands_g2 g gp 2 way kind (X9_bit_x0 oth) runs (X9_bit_x0 cro) un) (by rw [X9_wicket_g4, if_neg c20]) (X9_commands_x3 (X9_wicket_x2 way kind runs) g 2 2 way kind (X9_bit_x0 oth) runs (X9_bit_x0 cro)) (by rw [X9_wicket_x5, if_neg c20]) (X9_commands_x4 c_re g 2 way kind (X9_bit_x0 oth) runs (X9_bit_x0 cro)) (by rw [X9_wicket_x6, if_neg c20]) (X9_commands_x5 g 2 way kind (X9_bit_x0 oth) runs (X9_bit_x0 cro) un) (by rw [X9_wicket_x7, if_neg c20]) (X9_commands_g6 g gd 2 way kind (X9_bit_x0 oth) runs (X9_bit_x0 cro)) (by rw [X9_wicket_g8, if_neg c20]) (X9_commands_g7 g 2 way kind (X9_bit_x0 oth) runs (X9_bit_x0 cro)) (by rw [X9_wicket_g9, if_neg c20]) u45 _ _ _ k47 k48 k49 k50 (fun a9 e9 h7 h8 => fr51 _ _ (fun q => h7 (by simp only [List.mem_cons, List.not_mem_nil, or_false] at q ⊢; first | exact q | (rcases q with q | q | q | q <;> simp [q]) | omega)) (h8)) G (lv_sub hl [0, 1, 2, 3, 4, 5] rfl)
    · refine lv_iconst (v := 0) hx hb dX9_wicket_45 (by decide) ?_
      refine lv_goto (tgt := 68) hx hb dX9_wicket_46 (by decide) ?_
      exact J31 0 (by rw [X9_wicket_x3, if_pos c20]) gp (by rw [X9_wicket_g4, if_pos c20]) (X9_wicket_x2 way kind runs) (by rw [X9_wicket_x5, if_pos c20]) c_re (by rw [X9_wicket_x6, if_pos c20]) (nI un) (by rw [X9_wicket_x7, if_pos c20]) gd (by rw [X9_wicket_g8, if_pos c20]) g (by rw [X9_wicket_g9, if_pos c20]) f18 _ _ _ k21 k19 k22 k23 (fun a9 e9 h7 h8 => h8) G (lv_sub hl [0, 1, 2, 3, 4, 5] rfl)
  refine lv_if_eq (tgt := 33) hx hb dX9_wicket_7 (by decide) (fun c14 => ?_) (fun c14 => ?_)
  · refine lv_iconst (v := 1) hx hb dX9_wicket_33 (by decide) ?_
    exact J16 1 (by rw [X9_wicket_x2, if_pos c14]) _ _ _ G (lv_sub hl [0, 1, 2, 3, 4, 5] rfl)
  · refine lv_iload_n hx hb dX9_wicket_10 rfl (lv_at hl 2 rfl) ?_
    refine lv_iconst (v := 0) hx hb dX9_wicket_11 (by decide) ?_
    refine lv_iconst (v := 2) hx hb dX9_wicket_12 (by decide) ?_
    refine g_cI C0 G (g_runS C0 G (rest := [.ref m]) (k_X9_isIn hfl kind 0 2 ) hY_X9_isIn mm_X9_76 ms_X9_isIn ⟨(Nat.le_of_ble_eq_true rfl), (Nat.le_of_ble_eq_true rfl)⟩ rfl hl.1 rfl (Nat.le_of_ble_eq_true rfl) dX9_wicket_13 ⟨(Nat.le_of_ble_eq_true rfl), (Nat.le_of_ble_eq_true rfl)⟩) (kx_no rfl) (fun r54 u53 H locs hp52 G => ?_)
    obtain ⟨zr, eu53⟩ := hp52
    replace zr := Eq.symm zr
    subst zr
    rw [eu53] at G
    have J57 : ∀ (y56 : Int32) (_ : y56 = (X9_wicket_x1 kind runs)) (H : Heap) (locs : List Loc) (ls : Array Slot), hG D (hA f sz) f s9 H locs → lv_has ls 6 [(0, .ref m), (1, .int way), (2, .int kind), (3, .int oth), (4, .int runs), (5, .int cro)] → W p9 l e9 ({ frames := 6, cells := 0, slots := 0, locals := 158 } : Room) s9 m9 ([.ref m, .int way, .int kind, .int oth, .int runs, .int cro] : List Value).toArray b9 t9 c9 H locs 0 0 (vx_MQ b9 (hQi (fun r u => r = (X9_wicket_x3 g way kind oth runs cro) ∧ u m = some (.inr (11, [.int (X9_wicket_x5 g way kind oth runs cro), .int (X9_wicket_x6 c_re g way kind oth runs cro), .ref v, .ref im, .ref kp, .ref pa, .ref de, .ref ide, .int (X9_wicket_x7 g way kind oth runs cro un), .int c_hi, .ref tx, .int c_tn, .int c_fa, .int c_rf, .ref pt, .int c_ps, .int c_pl, .int c_to, .ref so, .ref mo, .ref wh, .ref pf])) ∧ u pa = some (.inl (cy 0, 51528, .inl (X9_wicket_g4 g gp way kind oth runs cro un))) ∧ u de = some (.inl (cy 0, 24000, .inl (X9_wicket_g8 g gd way kind oth runs cro))) ∧ u v = some (.inl (cy 0, 6441, .inl (X9_wicket_g9 g way kind oth runs cro))) ∧ hFrL f u [m, pa, de, v]) D f sz) (hPx hNo D f sz) ([.ref m, .int way, .int kind, .int oth, .int runs, .int cro] : List Value).toArray s9 0 0 (hA f sz)) (F0 m9 34 ls [.int y56, .ref m]) := by
      intro y56 ey56 H locs ls G hl
      replace ey56 := Eq.symm ey56
      subst ey56
      exact J16 (X9_wicket_x1 kind runs) (by rw [X9_wicket_x2, if_neg c14]) _ _ _ G (lv_sub hl [0, 1, 2, 3, 4, 5] rfl)
    refine lv_if_eq (tgt := 33) hx hb dX9_wicket_16 (by decide) (fun c55 => ?_) (fun c55 => ?_)
    · refine lv_iconst (v := 1) hx hb dX9_wicket_33 (by decide) ?_
      exact J57 1 (by rw [X9_wicket_x1, if_pos c55]) _ _ _ G (lv_sub hl [0, 1, 2, 3, 4, 5] rfl)
    · refine lv_iload hx hb dX9_wicket_19 (lv_at hl 4 rfl) ?_
      refine lv_iconst (v := 0) hx hb dX9_wicket_21 (by decide) ?_
      refine lv_iconst (v := 3) hx hb dX9_wicket_22 (by decide) ?_
      refine g_cI C0 G (g_runS C0 G (rest := [.ref m]) (k_X9_isIn hfl runs 0 3 ) hY_X9_isIn mm_X9_76 ms_X9_isIn ⟨(Nat.le_of_ble_eq_true rfl), (Nat.le_of_ble_eq_true rfl)⟩ rfl hl.1 rfl (Nat.le_of_ble_eq_true rfl) dX9_wicket_23 ⟨(Nat.le_of_ble_eq_true rfl), (Nat.le_of_ble_eq_true rfl)⟩) (kx_no rfl) (fun r61 u60 H locs hp59 G => ?_)
      obtain ⟨zr, eu60⟩ := hp59
      replace zr := Eq.symm zr
      subst zr
      rw [eu60] at G
      have J64 : ∀ (y63 : Int32) (_ : y63 = (X9_wicket_x0 runs)) (H : Heap) (locs : List Loc) (ls : Array Slot), hG D (hA f sz) f s9 H locs → lv_has ls 6 [(0, .ref m), (1, .int way), (2, .int kind), (3, .int oth), (4, .int runs), (5, .int cro)] → W p9 l e9 ({ frames := 6, cells := 0, slots := 0, locals := 158 } : Room) s9 m9 ([.ref m, .int way, .int kind, .int oth, .int runs, .int cro] : List Value).toArray b9 t9 c9 H locs 0 0 (vx_MQ b9 (hQi (fun r u => r = (X9_wicket_x3 g way kind oth runs cro) ∧ u m = some (.inr (11, [.int (X9_wicket_x5 g way kind oth runs cro), .int (X9_wicket_x6 c_re g way kind oth runs cro), .ref v, .ref im, .ref kp, .ref pa, .ref de, .ref ide, .int (X9_wicket_x7 g way kind oth runs cro un), .int c_hi, .ref tx, .int c_tn, .int c_fa, .int c_rf, .ref pt, .int c_ps, .int c_pl, .int c_to, .ref so, .ref mo, .ref wh, .ref pf])) ∧ u pa = some (.inl (cy 0, 51528, .inl (X9_wicket_g4 g gp way kind oth runs cro un))) ∧ u de = some (.inl (cy 0, 24000, .inl (X9_wicket_g8 g gd way kind oth runs cro))) ∧ u v = some (.inl (cy 0, 6441, .inl (X9_wicket_g9 g way kind oth runs cro))) ∧ hFrL f u [m, pa, de, v]) D f sz) (hPx hNo D f sz) ([.ref m, .int way, .int kind, .int oth, .int runs, .int cro] : List Value).toArray s9 0 0 (hA f sz)) (F0 m9 34 ls [.int y63, .ref m]) := by
        intro y63 ey63 H locs ls G hl
        replace ey63 := Eq.symm ey63
        subst ey63
        exact J57 (X9_wicket_x0 runs) (by rw [X9_wicket_x1, if_neg c55]) _ _ _ G (lv_sub hl [0, 1, 2, 3, 4, 5] rfl)
      refine lv_if_eq (tgt := 33) hx hb dX9_wicket_26 (by decide) (fun c62 => ?_) (fun c62 => ?_)
      · refine lv_iconst (v := 1) hx hb dX9_wicket_33 (by decide) ?_
        exact J64 1 (by rw [X9_wicket_x0, if_pos c62]) _ _ _ G (lv_sub hl [0, 1, 2, 3, 4, 5] rfl)
      · refine lv_iconst (v := 0) hx hb dX9_wicket_29 (by decide) ?_
        refine lv_goto (tgt := 34) hx hb dX9_wicket_30 (by decide) ?_
        exact J64 0 (by rw [X9_wicket_x0, if_neg c62]) _ _ _ G (lv_sub hl [0, 1, 2, 3, 4, 5] rfl)
def X9_retire_r0 (g : Nat → Int32) (oth : Int32) (hur : Int32) : Int32 := (X9_commands_r1 g 3 (X9_bit_x0 oth) (X9_bit_x0 hur) 0 0 0)
def X9_retire_g1 (g : Nat → Int32) (gp : Nat → Int32) (oth : Int32) (hur : Int32) (un : Nat) : Nat → Int32 := (X9_commands_g2 g gp 3 (X9_bit_x0 oth) (X9_bit_x0 hur) 0 0 0 un)
def X9_retire_g2 (g : Nat → Int32) (gd : Nat → Int32) (oth : Int32) (hur : Int32) : Nat → Int32 := (X9_commands_g6 g gd 3 (X9_bit_x0 oth) (X9_bit_x0 hur) 0 0 0)
def X9_retire_g3 (g : Nat → Int32) (oth : Int32) (hur : Int32) : Nat → Int32 := (X9_commands_g7 g 3 (X9_bit_x0 oth) (X9_bit_x0 hur) 0 0 0)
set_option maxRecDepth 100000 in
theorem k_X9_retire {l : Launch} (hfl : l.stackTraces = false) {D : va_G} {cy : Nat → ClassId} {f : Hf} {sz : Nat} {m : Nat} {v : Nat} {im : Nat} {kp : Nat} {pa : Nat} {de : Nat} {ide : Nat} {tx : Nat} {pt : Nat} {so : Nat} {mo : Nat} {wh : Nat} {pf : Nat} {c_th : Int32} {c_re : Int32} {c_hi : Int32} {c_tn : Int32} {c_fa : Int32} {c_rf : Int32} {c_ps : Int32} {c_pl : Int32} {c_to : Int32} {g : Nat → Int32} {gp : Nat → Int32} {gd : Nat → Int32} (oth : Int32) (hur : Int32) {un : Nat} (h_m : f m = some (.inr (11, [.int c_th, .int c_re, .ref v, .ref im, .ref kp, .ref pa, .ref de, .ref ide, .int (nI un), .int c_hi, .ref tx, .int c_tn, .int c_fa, .int c_rf, .ref pt, .int c_ps, .int c_pl, .int c_to, .ref so, .ref mo, .ref wh, .ref pf]))) (h_v : f v = some (.inl (cy 0, 6441, .inl g))) (h_pa : f pa = some (.inl (cy 0, 51528, .inl gp))) (h_de : f de = some (.inl (cy 0, 24000, .inl gd))) (hun : un < 9) (h49 : dN (g 4) 4) (hpar : PAR 3 (X9_bit_x0 oth) (X9_bit_x0 hur)) (hok : (refusesR 3 (X9_bit_x0 oth) (X9_bit_x0 hur) 0 0 0 g) ≤ 0 → DOK g 3 (X9_bit_x0 oth) (X9_bit_x0 hur)) (hb_oth : oth = 0 ∨ oth = 1) (hb_hur : hur = 0 ∨ hur = 1) : hMet l yX9_retire cX9_retire 3 (some .int) { frames := 6, cells := 0, slots := 0, locals := 158 } D (hTy cy) f sz [.ref m, .int oth, .int hur] (hQi (fun r u => r = (X9_retire_r0 g oth hur) ∧ u m = some (.inr (11, [.int (X9_commands_x3 0 g 1 3 (X9_bit_x0 oth) (X9_bit_x0 hur) 0 0 0), .int (X9_commands_x4 c_re g 3 (X9_bit_x0 oth) (X9_bit_x0 hur) 0 0 0), .ref v, .ref im, .ref kp, .ref pa, .ref de, .ref ide, .int (X9_commands_x5 g 3 (X9_bit_x0 oth) (X9_bit_x0 hur) 0 0 0 un), .int c_hi, .ref tx, .int c_tn, .int c_fa, .int c_rf, .ref pt, .int c_ps, .int c_pl, .int c_to, .ref so, .ref mo, .ref wh, .ref pf])) ∧ u pa = some (.inl (cy 0, 51528, .inl (X9_retire_g1 g gp oth hur un))) ∧ u de = some (.inl (cy 0, 24000, .inl (X9_retire_g2 g gd oth hur))) ∧ u v = some (.inl (cy 0, 6441, .inl (X9_retire_g3 g oth hur))) ∧ hFrL f u [m, pa, de, v]) D f sz) hNo := by
  refine h_enter (by decide) hfl (Nat.le_of_ble_eq_true rfl) ?_
  intro p9 e9 s9 m9 b9 t9 c9 hsz C0 hr hnm G ls hl
  have hx := C0.1.1
  have hb := C0.1.2.1
  have hl : lv_has ls 3 [(0, .ref m), (1, .int oth), (2, .int hur)] := hl
  refine lv_aload_n hx hb dX9_retire_0 rfl (lv_at hl 0 rfl) ?_
  refine lv_iconst (v := 0) hx hb dX9_retire_1 (by decide) ?_
  refine g_put C0 G h_m rfl hiX9 tyX9 tyX9_ok nmX9 0 (by decide) mf_X9_55 rfl rfl rfl rfl (Nat.le_of_ble_eq_true rfl) dX9_retire_2 (fun H locs f11 hf11 G => ?_)
  have k12 : f11 m = some (.inr (11, [.int 0, .int c_re, .ref v, .ref im, .ref kp, .ref pa, .ref de, .ref ide, .int (nI un), .int c_hi, .ref tx, .int c_tn, .int c_fa, .int c_rf, .ref pt, .int c_ps, .int c_pl, .int c_to, .ref so, .ref mo, .ref wh, .ref pf])) := hus hf11
  refine lv_aload_n hx hb dX9_retire_5 rfl (lv_at hl 0 rfl) ?_
  refine lv_iconst (v := 1) hx hb dX9_retire_6 (by decide) ?_
  refine lv_iconst (v := 3) hx hb dX9_retire_7 (by decide) ?_
  refine lv_iload_n hx hb dX9_retire_8 rfl (lv_at hl 1 rfl) ?_
  refine g_cI C0 G (g_runS C0 G (rest := [.int 3, .int 1, .ref m]) (k_X9_bit hfl oth  hb_oth) hY_X9_bit mm_X9_187 ms_X9_bit ⟨(Nat.le_of_ble_eq_true rfl), (Nat.le_of_ble_eq_true rfl)⟩ rfl hl.1 rfl (Nat.le_of_ble_eq_true rfl) dX9_retire_9 ⟨(Nat.le_of_ble_eq_true rfl), (Nat.le_of_ble_eq_true rfl)⟩) (kx_no rfl) (fun r15 u14 H locs hp13 G => ?_)
  obtain ⟨zr, eu14⟩ := hp13
  replace zr := Eq.symm zr
  subst zr
  rw [eu14] at G
  refine lv_iload_n hx hb dX9_retire_12 rfl (lv_at hl 2 rfl) ?_
  refine g_cI C0 G (g_runS C0 G (rest := [.int (X9_bit_x0 oth), .int 3, .int 1, .ref m]) (k_X9_bit hfl hur  hb_hur) hY_X9_bit mm_X9_187 ms_X9_bit ⟨(Nat.le_of_ble_eq_true rfl), (Nat.le_of_ble_eq_true rfl)⟩ rfl hl.1 rfl (Nat.le_of_ble_eq_true rfl) dX9_retire_13 ⟨(Nat.le_of_ble_eq_true rfl), (Nat.le_of_ble_eq_true rfl)⟩) (kx_no rfl) (fun r18 u17 H locs hp16 G => ?_)
  obtain ⟨zr, eu17⟩ := hp16
  replace zr := Eq.symm zr
  subst zr
  rw [eu17] at G
  refine lv_iconst (v := 0) hx hb dX9_retire_16 (by decide) ?_
  refine lv_iconst (v := 0) hx hb dX9_retire_17 (by decide) ?_
  refine lv_iconst (v := 0) hx hb dX9_retire_18 (by decide) ?_
  have k19 : f11 v = some (.inl (cy 0, 6441, .inl g)) := hup hf11 (hne h_v h_m (by intro q; cases q)) h_v
  have k20 : f11 pa = some (.inl (cy 0, 51528, .inl gp)) := hup hf11 (hne h_pa h_m (by intro q; cases q)) h_pa
  have k21 : f11 de = some (.inl (cy 0, 24000, .inl gd)) := hup hf11 (hne h_de h_m (by intro q; cases q)) h_de
  refine g_cI C0 G (g_runV C0 G (rest := []) (k_X9_commands hfl 1 3 (X9_bit_x0 oth) (X9_bit_x0 hur) 0 0 0 k12 k19 k20 k21 hun h49 hpar hok) k12 rfl hY_X9_commands mm_X9_179 mi_X9_commands ml_X9_commands ⟨(Nat.le_of_ble_eq_true rfl), (Nat.le_of_ble_eq_true rfl)⟩ rfl hl.1 rfl (Nat.le_of_ble_eq_true rfl) dX9_retire_19 ⟨(Nat.le_of_ble_eq_true rfl), (Nat.le_of_ble_eq_true rfl)⟩) (kx_no rfl) (fun r24 u23 H locs hp22 G => ?_)
  obtain ⟨zr, k25, k26, k27, k28, fr29⟩ := hp22
  replace zr := Eq.symm zr
  subst zr
  exact g_iret C0 G hr dX9_retire_22 (Nat.le_of_ble_eq_true rfl) (Nat.le_of_ble_eq_true rfl) (by exact ⟨(by rw [X9_retire_r0]), k26, (by rw [(by rw [X9_retire_g1] : (X9_retire_g1 g gp oth hur un) = (X9_commands_g2 g gp 3 (X9_bit_x0 oth) (X9_bit_x0 hur) 0 0 0 un))]; exact k25), (by rw [(by rw [X9_retire_g2] : (X9_retire_g2 g gd oth hur) = (X9_commands_g6 g gd 3 (X9_bit_x0 oth) (X9_bit_x0 hur) 0 0 0))]; exact k27), (by rw [(by rw [X9_retire_g3] : (X9_retire_g3 g oth hur) = (X9_commands_g7 g 3 (X9_bit_x0 oth) (X9_bit_x0 hur) 0 0 0))]; exact k28), (fun a9 e9 h7 h8 => fr29 _ _ (fun q => h7 (by simp only [List.mem_cons, List.not_mem_nil, or_false] at q ⊢; first | exact q | (rcases q with q | q | q | q <;> simp [q]) | omega)) (hup hf11 (fun q => h7 (by rw [q]; simp)) (h8)))⟩)
def X9_choose_x0 (p : Int32) : Int32 := if (X9_isIn_x1 p 0 10) = 0 then 1 else 0
def X9_choose_x1 (g : Nat → Int32) (p : Int32) : Int32 := if (X9_choose_x0 p) = 1 then 0 else (X9_commands_r1 g 4 p 0 0 0 0)
def X9_choose_g2 (g : Nat → Int32) (gp : Nat → Int32) (p : Int32) (un : Nat) : Nat → Int32 := if (X9_choose_x0 p) = 1 then gp else (X9_commands_g2 g gp 4 p 0 0 0 0 un)
def X9_choose_x3 (g : Nat → Int32) (p : Int32) : Int32 := if (X9_choose_x0 p) = 1 then (X9_choose_x0 p) else (X9_commands_x3 (X9_choose_x0 p) g 2 4 p 0 0 0 0)
def X9_choose_x4 (c_re : Int32) (g : Nat → Int32) (p : Int32) : Int32 := if (X9_choose_x0 p) = 1 then c_re else (X9_commands_x4 c_re g 4 p 0 0 0 0)
def X9_choose_x5 (g : Nat → Int32) (p : Int32) (un : Nat) : Int32 := if (X9_choose_x0 p) = 1 then (nI un) else (X9_commands_x5 g 4 p 0 0 0 0 un)
def X9_choose_g6 (g : Nat → Int32) (gd : Nat → Int32) (p : Int32) : Nat → Int32 := if (X9_choose_x0 p) = 1 then gd else (X9_commands_g6 g gd 4 p 0 0 0 0)
def X9_choose_g7 (g : Nat → Int32) (p : Int32) : Nat → Int32 := if (X9_choose_x0 p) = 1 then g else (X9_commands_g7 g 4 p 0 0 0 0)
set_option maxRecDepth 100000 in
theorem k_X9_choose {l : Launch} (hfl : l.stackTraces = false) {D : va_G} {cy : Nat → ClassId} {f : Hf} {sz : Nat} {m : Nat} {v : Nat} {im : Nat} {kp : Nat} {pa : Nat} {de : Nat} {ide : Nat} {tx : Nat} {pt : Nat} {so : Nat} {mo : Nat} {wh : Nat} {pf : Nat} {c_th : Int32} {c_re : Int32} {c_hi : Int32} {c_tn : Int32} {c_fa : Int32} {c_rf : Int32} {c_ps : Int32} {c_pl : Int32} {c_to : Int32} {g : Nat → Int32} {gp : Nat → Int32} {gd : Nat → Int32} (p : Int32) {un : Nat} (h_m : f m = some (.inr (11, [.int c_th, .int c_re, .ref v, .ref im, .ref kp, .ref pa, .ref de, .ref ide, .int (nI un), .int c_hi, .ref tx, .int c_tn, .int c_fa, .int c_rf, .ref pt, .int c_ps, .int c_pl, .int c_to, .ref so, .ref mo, .ref wh, .ref pf]))) (h_v : f v = some (.inl (cy 0, 6441, .inl g))) (h_pa : f pa = some (.inl (cy 0, 51528, .inl gp))) (h_de : f de = some (.inl (cy 0, 24000, .inl gd))) (hun : un < 9) (h49 : ¬ (X9_choose_x0 p) = 1 → dN (g 4) 4) (hpar : ¬ (X9_choose_x0 p) = 1 → PAR 4 p 0) (hok : ¬ (X9_choose_x0 p) = 1 → (refusesR 4 p 0 0 0 0 g) ≤ 0 → DOK g 4 p 0) : hMet l yX9_choose cX9_choose 2 (some .int) { frames := 6, cells := 0, slots := 0, locals := 158 } D (hTy cy) f sz [.ref m, .int p] (hQi (fun r u => r = (X9_choose_x1 g p) ∧ u m = some (.inr (11, [.int (X9_choose_x3 g p), .int (X9_choose_x4 c_re g p), .ref v, .ref im, .ref kp, .ref pa, .ref de, .ref ide, .int (X9_choose_x5 g p un), .int c_hi, .ref tx, .int c_tn, .int c_fa, .int c_rf, .ref pt, .int c_ps, .int c_pl, .int c_to, .ref so, .ref mo, .ref wh, .ref pf])) ∧ u pa = some (.inl (cy 0, 51528, .inl (X9_choose_g2 g gp p un))) ∧ u de = some (.inl (cy 0, 24000, .inl (X9_choose_g6 g gd p))) ∧ u v = some (.inl (cy 0, 6441, .inl (X9_choose_g7 g p))) ∧ hFrL f u [m, pa, de, v]) D f sz) hNo := by
  refine h_enter (by decide) hfl (Nat.le_of_ble_eq_true rfl) ?_
  intro p9 e9 s9 m9 b9 t9 c9 hsz C0 hr hnm G ls hl
  have hx := C0.1.1
  have hb := C0.1.2.1
  have hl : lv_has ls 2 [(0, .ref m), (1, .int p)] := hl
  refine lv_aload_n hx hb dX9_choose_0 rfl (lv_at hl 0 rfl) ?_
  refine lv_iload_n hx hb dX9_choose_1 rfl (lv_at hl 1 rfl) ?_
  refine lv_iconst (v := 0) hx hb dX9_choose_2 (by decide) ?_
  refine lv_bipush (v := 10) hx hb dX9_choose_3 (by decide) ?_
  refine g_cI C0 G (g_runS C0 G (rest := [.ref m]) (k_X9_isIn hfl p 0 10 ) hY_X9_isIn mm_X9_76 ms_X9_isIn ⟨(Nat.le_of_ble_eq_true rfl), (Nat.le_of_ble_eq_true rfl)⟩ rfl hl.1 rfl (Nat.le_of_ble_eq_true rfl) dX9_choose_5 ⟨(Nat.le_of_ble_eq_true rfl), (Nat.le_of_ble_eq_true rfl)⟩) (kx_no rfl) (fun r13 u12 H locs hp11 G => ?_)
  obtain ⟨zr, eu12⟩ := hp11
  replace zr := Eq.symm zr
  subst zr
  rw [eu12] at G
  have J16 : ∀ (y15 : Int32) (_ : y15 = (X9_choose_x0 p)) (H : Heap) (locs : List Loc) (ls : Array Slot), hG D (hA f sz) f s9 H locs → lv_has ls 2 [(0, .ref m), (1, .int p)] → W p9 l e9 ({ frames := 6, cells := 0, slots := 0, locals := 158 } : Room) s9 m9 ([.ref m, .int p] : List Value).toArray b9 t9 c9 H locs 0 0 (vx_MQ b9 (hQi (fun r u => r = (X9_choose_x1 g p) ∧ u m = some (.inr (11, [.int (X9_choose_x3 g p), .int (X9_choose_x4 c_re g p), .ref v, .ref im, .ref kp, .ref pa, .ref de, .ref ide, .int (X9_choose_x5 g p un), .int c_hi, .ref tx, .int c_tn, .int c_fa, .int c_rf, .ref pt, .int c_ps, .int c_pl, .int c_to, .ref so, .ref mo, .ref wh, .ref pf])) ∧ u pa = some (.inl (cy 0, 51528, .inl (X9_choose_g2 g gp p un))) ∧ u de = some (.inl (cy 0, 24000, .inl (X9_choose_g6 g gd p))) ∧ u v = some (.inl (cy 0, 6441, .inl (X9_choose_g7 g p))) ∧ hFrL f u [m, pa, de, v]) D f sz) (hPx hNo D f sz) ([.ref m, .int p] : List Value).toArray s9 0 0 (hA f sz)) (F0 m9 16 ls [.int y15, .ref m]) := by
    intro y15 ey15 H locs ls G hl
    replace ey15 := Eq.symm ey15
    subst ey15
    refine g_put C0 G h_m rfl hiX9 tyX9 tyX9_ok nmX9 0 (by decide) mf_X9_55 rfl rfl rfl rfl (Nat.le_of_ble_eq_true rfl) dX9_choose_16 (fun H locs f18 hf18 G => ?_)
    have k19 : f18 m = some (.inr (11, [.int (X9_choose_x0 p), .int c_re, .ref v, .ref im, .ref kp, .ref pa, .ref de, .ref ide, .int (nI un), .int c_hi, .ref tx, .int c_tn, .int c_fa, .int c_rf, .ref pt, .int c_ps, .int c_pl, .int c_to, .ref so, .ref mo, .ref wh, .ref pf])) := hus hf18
    refine lv_aload_n hx hb dX9_choose_19 rfl (lv_at hl 0 rfl) ?_
    refine g_get C0 G k19 rfl hiX9 0 (by decide) mf_X9_55 rfl dX9_choose_20 ?_
    refine lv_iconst (v := 1) hx hb dX9_choose_23 (by decide) ?_
    have k21 : f18 pa = some (.inl (cy 0, 51528, .inl gp)) := hup hf18 (hne h_pa h_m (by intro q; cases q)) h_pa
    have k22 : f18 de = some (.inl (cy 0, 24000, .inl gd)) := hup hf18 (hne h_de h_m (by intro q; cases q)) h_de
    have k23 : f18 v = some (.inl (cy 0, 6441, .inl g)) := hup hf18 (hne h_v h_m (by intro q; cases q)) h_v
    have J31 : ∀ (y24 : Int32) (_ : y24 = (X9_choose_x1 g p)) (y25 : Nat → Int32) (_ : y25 = (X9_choose_g2 g gp p un)) (y26 : Int32) (_ : y26 = (X9_choose_x3 g p)) (y27 : Int32) (_ : y27 = (X9_choose_x4 c_re g p)) (y28 : Int32) (_ : y28 = (X9_choose_x5 g p un)) (y29 : Nat → Int32) (_ : y29 = (X9_choose_g6 g gd p)) (y30 : Nat → Int32) (_ : y30 = (X9_choose_g7 g p)) (f32 : Hf) (H : Heap) (locs : List Loc) (ls : Array Slot), f32 pa = some (.inl (cy 0, 51528, .inl y25)) → f32 m = some (.inr (11, [.int y26, .int y27, .ref v, .ref im, .ref kp, .ref pa, .ref de, .ref ide, .int y28, .int c_hi, .ref tx, .int c_tn, .int c_fa, .int c_rf, .ref pt, .int c_ps, .int c_pl, .int c_to, .ref so, .ref mo, .ref wh, .ref pf])) → f32 de = some (.inl (cy 0, 24000, .inl y29)) → f32 v = some (.inl (cy 0, 6441, .inl y30)) → hFrL f18 f32 [pa, m, de, v] → hG D (hA f sz) f32 s9 H locs → lv_has ls 2 [(0, .ref m), (1, .int p)] → W p9 l e9 ({ frames := 6, cells := 0, slots := 0, locals := 158 } : Room) s9 m9 ([.ref m, .int p] : List Value).toArray b9 t9 c9 H locs 0 0 (vx_MQ b9 (hQi (fun r u => r = (X9_choose_x1 g p) ∧ u m = some (.inr (11, [.int (X9_choose_x3 g p), .int (X9_choose_x4 c_re g p), .ref v, .ref im, .ref kp, .ref pa, .ref de, .ref ide, .int (X9_choose_x5 g p un), .int c_hi, .ref tx, .int c_tn, .int c_fa, .int c_rf, .ref pt, .int c_ps, .int c_pl, .int c_to, .ref so, .ref mo, .ref wh, .ref pf])) ∧ u pa = some (.inl (cy 0, 51528, .inl (X9_choose_g2 g gp p un))) ∧ u de = some (.inl (cy 0, 24000, .inl (X9_choose_g6 g gd p))) ∧ u v = some (.inl (cy 0, 6441, .inl (X9_choose_g7 g p))) ∧ hFrL f u [m, pa, de, v]) D f sz) (hPx hNo D f sz) ([.ref m, .int p] : List Value).toArray s9 0 0 (hA f sz)) (F0 m9 42 ls [.int y24]) := by
      intro y24 ey24 y25 ey25 y26 ey26 y27 ey27 y28 ey28 y29 ey29 y30 ey30 f32 H locs ls k33 k34 k35 k36 fr37 G hl
      replace ey24 := Eq.symm ey24
      subst ey24
      replace ey25 := Eq.symm ey25
      subst ey25
      replace ey26 := Eq.symm ey26
      subst ey26
      replace ey27 := Eq.symm ey27
      subst ey27
      replace ey28 := Eq.symm ey28
      subst ey28
      replace ey29 := Eq.symm ey29
      subst ey29
      replace ey30 := Eq.symm ey30
      subst ey30
      exact g_iret C0 G hr dX9_choose_42 (Nat.le_of_ble_eq_true rfl) (Nat.le_of_ble_eq_true rfl) (by exact ⟨rfl, k34, k33, k35, k36, (fun a9 e9 h7 h8 => fr37 _ _ (fun q => h7 (by simp only [List.mem_cons, List.not_mem_nil, or_false] at q ⊢; first | exact q | (rcases q with q | q | q | q <;> simp [q]) | omega)) (hup hf18 (fun q => h7 (by rw [q]; simp)) (h8)))⟩)
    refine lv_icmp_ne (tgt := 31) hx hb dX9_choose_24 (by decide) (fun c20 => ?_) (fun c20 => ?_)
    · refine lv_aload_n hx hb dX9_choose_31 rfl (lv_at hl 0 rfl) ?_
      refine lv_iconst (v := 2) hx hb dX9_choose_32 (by decide) ?_
      refine lv_iconst (v := 4) hx hb dX9_choose_33 (by decide) ?_
      refine lv_iload_n hx hb dX9_choose_34 rfl (lv_at hl 1 rfl) ?_
      refine lv_iconst (v := 0) hx hb dX9_choose_35 (by decide) ?_
      refine lv_iconst (v := 0) hx hb dX9_choose_36 (by decide) ?_
      refine lv_iconst (v := 0) hx hb dX9_choose_37 (by decide) ?_
      refine lv_iconst (v := 0) hx hb dX9_choose_38 (by decide) ?_
      refine g_cI C0 G (g_runV C0 G (rest := []) (k_X9_commands hfl 2 4 p 0 0 0 0 k19 k23 k21 k22 hun (h49 c20) (hpar c20) (hok c20)) k19 rfl hY_X9_commands mm_X9_179 mi_X9_commands ml_X9_commands ⟨(Nat.le_of_ble_eq_true rfl), (Nat.le_of_ble_eq_true rfl)⟩ rfl hl.1 rfl (Nat.le_of_ble_eq_true rfl) dX9_choose_39 ⟨(Nat.le_of_ble_eq_true rfl), (Nat.le_of_ble_eq_true rfl)⟩) (kx_no rfl) (fun r40 u39 H locs hp38 G => ?_)
      obtain ⟨zr, k41, k42, k43, k44, fr45⟩ := hp38
      replace zr := Eq.symm zr
      subst zr
      exact J31 (X9_commands_r1 g 4 p 0 0 0 0) (by rw [X9_choose_x1, if_neg c20]) (X9_commands_g2 g gp 4 p 0 0 0 0 un) (by rw [X9_choose_g2, if_neg c20]) (X9_commands_x3 (X9_choose_x0 p) g 2 4 p 0 0 0 0) (by rw [X9_choose_x3, if_neg c20]) (X9_commands_x4 c_re g 4 p 0 0 0 0) (by rw [X9_choose_x4, if_neg c20]) (X9_commands_x5 g 4 p 0 0 0 0 un) (by rw [X9_choose_x5, if_neg c20]) (X9_commands_g6 g gd 4 p 0 0 0 0) (by rw [X9_choose_g6, if_neg c20]) (X9_commands_g7 g 4 p 0 0 0 0) (by rw [X9_choose_g7, if_neg c20]) u39 _ _ _ k41 k42 k43 k44 (fun a9 e9 h7 h8 => fr45 _ _ (fun q => h7 (by simp only [List.mem_cons, List.not_mem_nil, or_false] at q ⊢; first | exact q | (rcases q with q | q | q | q <;> simp [q]) | omega)) (h8)) G (lv_sub hl [0, 1] rfl)
    · refine lv_iconst (v := 0) hx hb dX9_choose_27 (by decide) ?_
      refine lv_goto (tgt := 42) hx hb dX9_choose_28 (by decide) ?_
      exact J31 0 (by rw [X9_choose_x1, if_pos c20]) gp (by rw [X9_choose_g2, if_pos c20]) (X9_choose_x0 p) (by rw [X9_choose_x3, if_pos c20]) c_re (by rw [X9_choose_x4, if_pos c20]) (nI un) (by rw [X9_choose_x5, if_pos c20]) gd (by rw [X9_choose_g6, if_pos c20]) g (by rw [X9_choose_g7, if_pos c20]) f18 _ _ _ k21 k19 k22 k23 (fun a9 e9 h7 h8 => h8) G (lv_sub hl [0, 1] rfl)
  refine lv_if_eq (tgt := 15) hx hb dX9_choose_8 (by decide) (fun c14 => ?_) (fun c14 => ?_)
  · refine lv_iconst (v := 1) hx hb dX9_choose_15 (by decide) ?_
    exact J16 1 (by rw [X9_choose_x0, if_pos c14]) _ _ _ G (lv_sub hl [0, 1] rfl)
  · refine lv_iconst (v := 0) hx hb dX9_choose_11 (by decide) ?_
    refine lv_goto (tgt := 16) hx hb dX9_choose_12 (by decide) ?_
    exact J16 0 (by rw [X9_choose_x0, if_neg c14]) _ _ _ G (lv_sub hl [0, 1] rfl)
def X9_declare_g0 (g : Nat → Int32) (gp : Nat → Int32) (un : Nat) : Nat → Int32 := (X9_commands_g2 g gp 5 0 0 0 0 0 un)
def X9_declare_g1 (g : Nat → Int32) (gd : Nat → Int32) : Nat → Int32 := (X9_commands_g6 g gd 5 0 0 0 0 0)
def X9_declare_g2 (g : Nat → Int32) : Nat → Int32 := (X9_commands_g7 g 5 0 0 0 0 0)
set_option maxRecDepth 100000 in
theorem k_X9_declare {l : Launch} (hfl : l.stackTraces = false) {D : va_G} {cy : Nat → ClassId} {f : Hf} {sz : Nat} {m : Nat} {v : Nat} {im : Nat} {kp : Nat} {pa : Nat} {de : Nat} {ide : Nat} {tx : Nat} {pt : Nat} {so : Nat} {mo : Nat} {wh : Nat} {pf : Nat} {c_th : Int32} {c_re : Int32} {c_hi : Int32} {c_tn : Int32} {c_fa : Int32} {c_rf : Int32} {c_ps : Int32} {c_pl : Int32} {c_to : Int32} {g : Nat → Int32} {gp : Nat → Int32} {gd : Nat → Int32} {un : Nat} (h_m : f m = some (.inr (11, [.int c_th, .int c_re, .ref v, .ref im, .ref kp, .ref pa, .ref de, .ref ide, .int (nI un), .int c_hi, .ref tx, .int c_tn, .int c_fa, .int c_rf, .ref pt, .int c_ps, .int c_pl, .int c_to, .ref so, .ref mo, .ref wh, .ref pf]))) (h_v : f v = some (.inl (cy 0, 6441, .inl g))) (h_pa : f pa = some (.inl (cy 0, 51528, .inl gp))) (h_de : f de = some (.inl (cy 0, 24000, .inl gd))) (hun : un < 9) (h49 : dN (g 4) 4) (hpar : PAR 5 0 0) (hok : (refusesR 5 0 0 0 0 0 g) ≤ 0 → DOK g 5 0 0) : hMet l yX9_declare cX9_declare 1 (some .int) { frames := 6, cells := 0, slots := 0, locals := 158 } D (hTy cy) f sz [.ref m] (hQi (fun r u => r = (X9_commands_r1 g 5 0 0 0 0 0) ∧ u m = some (.inr (11, [.int (X9_commands_x3 0 g 1 5 0 0 0 0 0), .int (X9_commands_x4 c_re g 5 0 0 0 0 0), .ref v, .ref im, .ref kp, .ref pa, .ref de, .ref ide, .int (X9_commands_x5 g 5 0 0 0 0 0 un), .int c_hi, .ref tx, .int c_tn, .int c_fa, .int c_rf, .ref pt, .int c_ps, .int c_pl, .int c_to, .ref so, .ref mo, .ref wh, .ref pf])) ∧ u pa = some (.inl (cy 0, 51528, .inl (X9_declare_g0 g gp un))) ∧ u de = some (.inl (cy 0, 24000, .inl (X9_declare_g1 g gd))) ∧ u v = some (.inl (cy 0, 6441, .inl (X9_declare_g2 g))) ∧ hFrL f u [m, pa, de, v]) D f sz) hNo := by
  refine h_enter (by decide) hfl (Nat.le_of_ble_eq_true rfl) ?_
  intro p9 e9 s9 m9 b9 t9 c9 hsz C0 hr hnm G ls hl
  have hx := C0.1.1
  have hb := C0.1.2.1
  have hl : lv_has ls 1 [(0, .ref m)] := hl
  refine lv_aload_n hx hb dX9_declare_0 rfl (lv_at hl 0 rfl) ?_
  refine lv_iconst (v := 0) hx hb dX9_declare_1 (by decide) ?_
  refine g_put C0 G h_m rfl hiX9 tyX9 tyX9_ok nmX9 0 (by decide) mf_X9_55 rfl rfl rfl rfl (Nat.le_of_ble_eq_true rfl) dX9_declare_2 (fun H locs f11 hf11 G => ?_)
  have k12 : f11 m = some (.inr (11, [.int 0, .int c_re, .ref v, .ref im, .ref kp, .ref pa, .ref de, .ref ide, .int (nI un), .int c_hi, .ref tx, .int c_tn, .int c_fa, .int c_rf, .ref pt, .int c_ps, .int c_pl, .int c_to, .ref so, .ref mo, .ref wh, .ref pf])) := hus hf11
  refine lv_aload_n hx hb dX9_declare_5 rfl (lv_at hl 0 rfl) ?_
  refine lv_iconst (v := 1) hx hb dX9_declare_6 (by decide) ?_
  refine lv_iconst (v := 5) hx hb dX9_declare_7 (by decide) ?_
  refine lv_iconst (v := 0) hx hb dX9_declare_8 (by decide) ?_
  refine lv_iconst (v := 0) hx hb dX9_declare_9 (by decide) ?_
  refine lv_iconst (v := 0) hx hb dX9_declare_10 (by decide) ?_
  refine lv_iconst (v := 0) hx hb dX9_declare_11 (by decide) ?_
  refine lv_iconst (v := 0) hx hb dX9_declare_12 (by decide) ?_
  have k13 : f11 v = some (.inl (cy 0, 6441, .inl g)) := hup hf11 (hne h_v h_m (by intro q; cases q)) h_v
  have k14 : f11 pa = some (.inl (cy 0, 51528, .inl gp)) := hup hf11 (hne h_pa h_m (by intro q; cases q)) h_pa
  have k15 : f11 de = some (.inl (cy 0, 24000, .inl gd)) := hup hf11 (hne h_de h_m (by intro q; cases q)) h_de
  refine g_cI C0 G (g_runV C0 G (rest := []) (k_X9_commands hfl 1 5 0 0 0 0 0 k12 k13 k14 k15 hun h49 hpar hok) k12 rfl hY_X9_commands mm_X9_179 mi_X9_commands ml_X9_commands ⟨(Nat.le_of_ble_eq_true rfl), (Nat.le_of_ble_eq_true rfl)⟩ rfl hl.1 rfl (Nat.le_of_ble_eq_true rfl) dX9_declare_13 ⟨(Nat.le_of_ble_eq_true rfl), (Nat.le_of_ble_eq_true rfl)⟩) (kx_no rfl) (fun r18 u17 H locs hp16 G => ?_)
  obtain ⟨zr, k19, k20, k21, k22, fr23⟩ := hp16
  replace zr := Eq.symm zr
  subst zr
  exact g_iret C0 G hr dX9_declare_16 (Nat.le_of_ble_eq_true rfl) (Nat.le_of_ble_eq_true rfl) (by exact ⟨rfl, k20, (by rw [(by rw [X9_declare_g0] : (X9_declare_g0 g gp un) = (X9_commands_g2 g gp 5 0 0 0 0 0 un))]; exact k19), (by rw [(by rw [X9_declare_g1] : (X9_declare_g1 g gd) = (X9_commands_g6 g gd 5 0 0 0 0 0))]; exact k21), (by rw [(by rw [X9_declare_g2] : (X9_declare_g2 g) = (X9_commands_g7 g 5 0 0 0 0 0))]; exact k22), (fun a9 e9 h7 h8 => fr23 _ _ (fun q => h7 (by simp only [List.mem_cons, List.not_mem_nil, or_false] at q ⊢; first | exact q | (rcases q with q | q | q | q <;> simp [q]) | omega)) (hup hf11 (fun q => h7 (by rw [q]; simp)) (h8)))⟩)
def X9_loseOvers_x0 (ov : Int32) : Int32 := if (X9_isIn_x1 ov 1 19) = 0 then 1 else 0
def X9_loseOvers_x1 (g : Nat → Int32) (ov : Int32) : Int32 := if (X9_loseOvers_x0 ov) = 1 then 0 else (X9_commands_r1 g 6 ov 0 0 0 0)
def X9_loseOvers_g2 (g : Nat → Int32) (gp : Nat → Int32) (ov : Int32) (un : Nat) : Nat → Int32 := if (X9_loseOvers_x0 ov) = 1 then gp else (X9_commands_g2 g gp 6 ov 0 0 0 0 un)
def X9_loseOvers_x3 (g : Nat → Int32) (ov : Int32) : Int32 := if (X9_loseOvers_x0 ov) = 1 then (X9_loseOvers_x0 ov) else (X9_commands_x3 (X9_loseOvers_x0 ov) g 2 6 ov 0 0 0 0)
def X9_loseOvers_x4 (c_re : Int32) (g : Nat → Int32) (ov : Int32) : Int32 := if (X9_loseOvers_x0 ov) = 1 then c_re else (X9_commands_x4 c_re g 6 ov 0 0 0 0)
def X9_loseOvers_x5 (g : Nat → Int32) (ov : Int32) (un : Nat) : Int32 := if (X9_loseOvers_x0 ov) = 1 then (nI un) else (X9_commands_x5 g 6 ov 0 0 0 0 un)
def X9_loseOvers_g6 (g : Nat → Int32) (gd : Nat → Int32) (ov : Int32) : Nat → Int32 := if (X9_loseOvers_x0 ov) = 1 then gd else (X9_commands_g6 g gd 6 ov 0 0 0 0)
def X9_loseOvers_g7 (g : Nat → Int32) (ov : Int32) : Nat → Int32 := if (X9_loseOvers_x0 ov) = 1 then g else (X9_commands_g7 g 6 ov 0 0 0 0)
set_option maxRecDepth 100000 in
theorem k_X9_loseOvers {l : Launch} (hfl : l.stackTraces = false) {D : va_G} {cy : Nat → ClassId} {f : Hf} {sz : Nat} {m : Nat} {v : Nat} {im : Nat} {kp : Nat} {pa : Nat} {de : Nat} {ide : Nat} {tx : Nat} {pt : Nat} {so : Nat} {mo : Nat} {wh : Nat} {pf : Nat} {c_th : Int32} {c_re : Int32} {c_hi : Int32} {c_tn : Int32} {c_fa : Int32} {c_rf : Int32} {c_ps : Int32} {c_pl : Int32} {c_to : Int32} {g : Nat → Int32} {gp : Nat → Int32} {gd : Nat → Int32} (ov : Int32) {un : Nat} (h_m : f m = some (.inr (11, [.int c_th, .int c_re, .ref v, .ref im, .ref kp, .ref pa, .ref de, .ref ide, .int (nI un), .int c_hi, .ref tx, .int c_tn, .int c_fa, .int c_rf, .ref pt, .int c_ps, .int c_pl, .int c_to, .ref so, .ref mo, .ref wh, .ref pf]))) (h_v : f v = some (.inl (cy 0, 6441, .inl g))) (h_pa : f pa = some (.inl (cy 0, 51528, .inl gp))) (h_de : f de = some (.inl (cy 0, 24000, .inl gd))) (hun : un < 9) (h49 : ¬ (X9_loseOvers_x0 ov) = 1 → dN (g 4) 4) (hpar : ¬ (X9_loseOvers_x0 ov) = 1 → PAR 6 ov 0) (hok : ¬ (X9_loseOvers_x0 ov) = 1 → (refusesR 6 ov 0 0 0 0 g) ≤ 0 → DOK g 6 ov 0) : hMet l yX9_loseOvers cX9_loseOvers 2 (some .int) { frames := 6, cells := 0, slots := 0, locals := 158 } D (hTy cy) f sz [.ref m, .int ov] (hQi (fun r u => r = (X9_loseOvers_x1 g ov) ∧ u m = some (.inr (11, [.int (X9_loseOvers_x3 g ov), .int (X9_loseOvers_x4 c_re g ov), .ref v, .ref im, .ref kp, .ref pa, .ref de, .ref ide, .int (X9_loseOvers_x5 g ov un), .int c_hi, .ref tx, .int c_tn, .int c_fa, .int c_rf, .ref pt, .int c_ps, .int c_pl, .int c_to, .ref so, .ref mo, .ref wh, .ref pf])) ∧ u pa = some (.inl (cy 0, 51528, .inl (X9_loseOvers_g2 g gp ov un))) ∧ u de = some (.inl (cy 0, 24000, .inl (X9_loseOvers_g6 g gd ov))) ∧ u v = some (.inl (cy 0, 6441, .inl (X9_loseOvers_g7 g ov))) ∧ hFrL f u [m, pa, de, v]) D f sz) hNo := by
  refine h_enter (by decide) hfl (Nat.le_of_ble_eq_true rfl) ?_
  intro p9 e9 s9 m9 b9 t9 c9 hsz C0 hr hnm G ls hl
  have hx := C0.1.1
  have hb := C0.1.2.1
  have hl : lv_has ls 2 [(0, .ref m), (1, .int ov)] := hl
  refine lv_aload_n hx hb dX9_loseOvers_0 rfl (lv_at hl 0 rfl) ?_
  refine lv_iload_n hx hb dX9_loseOvers_1 rfl (lv_at hl 1 rfl) ?_
  refine lv_iconst (v := 1) hx hb dX9_loseOvers_2 (by decide) ?_
  refine lv_bipush (v := 19) hx hb dX9_loseOvers_3 (by decide) ?_
  refine g_cI C0 G (g_runS C0 G (rest := [.ref m]) (k_X9_isIn hfl ov 1 19 ) hY_X9_isIn mm_X9_76 ms_X9_isIn ⟨(Nat.le_of_ble_eq_true rfl), (Nat.le_of_ble_eq_true rfl)⟩ rfl hl.1 rfl (Nat.le_of_ble_eq_true rfl) dX9_loseOvers_5 ⟨(Nat.le_of_ble_eq_true rfl), (Nat.le_of_ble_eq_true rfl)⟩) (kx_no rfl) (fun r13 u12 H locs hp11 G => ?_)
  obtain ⟨zr, eu12⟩ := hp11
  replace zr := Eq.symm zr
  subst zr
  rw [eu12] at G
  have J16 : ∀ (y15 : Int32) (_ : y15 = (X9_loseOvers_x0 ov)) (H : Heap) (locs : List Loc) (ls : Array Slot), hG D (hA f sz) f s9 H locs → lv_has ls 2 [(0, .ref m), (1, .int ov)] → W p9 l e9 ({ frames := 6, cells := 0, slots := 0, locals := 158 } : Room) s9 m9 ([.ref m, .int ov] : List Value).toArray b9 t9 c9 H locs 0 0 (vx_MQ b9 (hQi (fun r u => r = (X9_loseOvers_x1 g ov) ∧ u m = some (.inr (11, [.int (X9_loseOvers_x3 g ov), .int (X9_loseOvers_x4 c_re g ov), .ref v, .ref im, .ref kp, .ref pa, .ref de, .ref ide, .int (X9_loseOvers_x5 g ov un), .int c_hi, .ref tx, .int c_tn, .int c_fa, .int c_rf, .ref pt, .int c_ps, .int c_pl, .int c_to, .ref so, .ref mo, .ref wh, .ref pf])) ∧ u pa = some (.inl (cy 0, 51528, .inl (X9_loseOvers_g2 g gp ov un))) ∧ u de = some (.inl (cy 0, 24000, .inl (X9_loseOvers_g6 g gd ov))) ∧ u v = some (.inl (cy 0, 6441, .inl (X9_loseOvers_g7 g ov))) ∧ hFrL f u [m, pa, de, v]) D f sz) (hPx hNo D f sz) ([.ref m, .int ov] : List Value).toArray s9 0 0 (hA f sz)) (F0 m9 16 ls [.int y15, .ref m]) := by
    intro y15 ey15 H locs ls G hl
    replace ey15 := Eq.symm ey15
    subst ey15
    refine g_put C0 G h_m rfl hiX9 tyX9 tyX9_ok nmX9 0 (by decide) mf_X9_55 rfl rfl rfl rfl (Nat.le_of_ble_eq_true rfl) dX9_loseOvers_16 (fun H locs f18 hf18 G => ?_)
    have k19 : f18 m = some (.inr (11, [.int (X9_loseOvers_x0 ov), .int c_re, .ref v, .ref im, .ref kp, .ref pa, .ref de, .ref ide, .int (nI un), .int c_hi, .ref tx, .int c_tn, .int c_fa, .int c_rf, .ref pt, .int c_ps, .int c_pl, .int c_to, .ref so, .ref mo, .ref wh, .ref pf])) := hus hf18
    refine lv_aload_n hx hb dX9_loseOvers_19 rfl (lv_at hl 0 rfl) ?_
    refine g_get C0 G k19 rfl hiX9 0 (by decide) mf_X9_55 rfl dX9_loseOvers_20 ?_
    refine lv_iconst (v := 1) hx hb dX9_loseOvers_23 (by decide) ?_
    have k21 : f18 pa = some (.inl (cy 0, 51528, .inl gp)) := hup hf18 (hne h_pa h_m (by intro q; cases q)) h_pa
    have k22 : f18 de = some (.inl (cy 0, 24000, .inl gd)) := hup hf18 (hne h_de h_m (by intro q; cases q)) h_de
    have k23 : f18 v = some (.inl (cy 0, 6441, .inl g)) := hup hf18 (hne h_v h_m (by intro q; cases q)) h_v
    have J31 : ∀ (y24 : Int32) (_ : y24 = (X9_loseOvers_x1 g ov)) (y25 : Nat → Int32) (_ : y25 = (X9_loseOvers_g2 g gp ov un)) (y26 : Int32) (_ : y26 = (X9_loseOvers_x3 g ov)) (y27 : Int32) (_ : y27 = (X9_loseOvers_x4 c_re g ov)) (y28 : Int32) (_ : y28 = (X9_loseOvers_x5 g ov un)) (y29 : Nat → Int32) (_ : y29 = (X9_loseOvers_g6 g gd ov)) (y30 : Nat → Int32) (_ : y30 = (X9_loseOvers_g7 g ov)) (f32 : Hf) (H : Heap) (locs : List Loc) (ls : Array Slot), f32 pa = some (.inl (cy 0, 51528, .inl y25)) → f32 m = some (.inr (11, [.int y26, .int y27, .ref v, .ref im, .ref kp, .ref pa, .ref de, .ref ide, .int y28, .int c_hi, .ref tx, .int c_tn, .int c_fa, .int c_rf, .ref pt, .int c_ps, .int c_pl, .int c_to, .ref so, .ref mo, .ref wh, .ref pf])) → f32 de = some (.inl (cy 0, 24000, .inl y29)) → f32 v = some (.inl (cy 0, 6441, .inl y30)) → hFrL f18 f32 [pa, m, de, v] → hG D (hA f sz) f32 s9 H locs → lv_has ls 2 [(0, .ref m), (1, .int ov)] → W p9 l e9 ({ frames := 6, cells := 0, slots := 0, locals := 158 } : Room) s9 m9 ([.ref m, .int ov] : List Value).toArray b9 t9 c9 H locs 0 0 (vx_MQ b9 (hQi (fun r u => r = (X9_loseOvers_x1 g ov) ∧ u m = some (.inr (11, [.int (X9_loseOvers_x3 g ov), .int (X9_loseOvers_x4 c_re g ov), .ref v, .ref im, .ref kp, .ref pa, .ref de, .ref ide, .int (X9_loseOvers_x5 g ov un), .int c_hi, .ref tx, .int c_tn, .int c_fa, .int c_rf, .ref pt, .int c_ps, .int c_pl, .int c_to, .ref so, .ref mo, .ref wh, .ref pf])) ∧ u pa = some (.inl (cy 0, 51528, .inl (X9_loseOvers_g2 g gp ov un))) ∧ u de = some (.inl (cy 0, 24000, .inl (X9_loseOvers_g6 g gd ov))) ∧ u v = some (.inl (cy 0, 6441, .inl (X9_loseOvers_g7 g ov))) ∧ hFrL f u [m, pa, de, v]) D f sz) (hPx hNo D f sz) ([.ref m, .int ov] : List Value).toArray s9 0 0 (hA f sz)) (F0 m9 43 ls [.int y24]) := by
      intro y24 ey24 y25 ey25 y26 ey26 y27 ey27 y28 ey28 y29 ey29 y30 ey30 f32 H locs ls k33 k34 k35 k36 fr37 G hl
      replace ey24 := Eq.symm ey24
      subst ey24
      replace ey25 := Eq.symm ey25
      subst ey25
      replace ey26 := Eq.symm ey26
      subst ey26
      replace ey27 := Eq.symm ey27
      subst ey27
      replace ey28 := Eq.symm ey28
      subst ey28
      replace ey29 := Eq.symm ey29
      subst ey29
      replace ey30 := Eq.symm ey30
      subst ey30
      exact g_iret C0 G hr dX9_loseOvers_43 (Nat.le_of_ble_eq_true rfl) (Nat.le_of_ble_eq_true rfl) (by exact ⟨rfl, k34, k33, k35, k36, (fun a9 e9 h7 h8 => fr37 _ _ (fun q => h7 (by simp only [List.mem_cons, List.not_mem_nil, or_false] at q ⊢; first | exact q | (rcases q with q | q | q | q <;> simp [q]) | omega)) (hup hf18 (fun q => h7 (by rw [q]; simp)) (h8)))⟩)
    refine lv_icmp_ne (tgt := 31) hx hb dX9_loseOvers_24 (by decide) (fun c20 => ?_) (fun c20 => ?_)
    · refine lv_aload_n hx hb dX9_loseOvers_31 rfl (lv_at hl 0 rfl) ?_
      refine lv_iconst (v := 2) hx hb dX9_loseOvers_32 (by decide) ?_
      refine lv_bipush (v := 6) hx hb dX9_loseOvers_33 (by decide) ?_
      refine lv_iload_n hx hb dX9_loseOvers_35 rfl (lv_at hl 1 rfl) ?_
      refine lv_iconst (v := 0) hx hb dX9_loseOvers_36 (by decide) ?_
      refine lv_iconst (v := 0) hx hb dX9_loseOvers_37 (by decide) ?_
      refine lv_iconst (v := 0) hx hb dX9_loseOvers_38 (by decide) ?_
      refine lv_iconst (v := 0) hx hb dX9_loseOvers_39 (by decide) ?_
      refine g_cI C0 G (g_runV C0 G (rest := []) (k_X9_commands hfl 2 6 ov 0 0 0 0 k19 k23 k21 k22 hun (h49 c20) (hpar c20) (hok c20)) k19 rfl hY_X9_commands mm_X9_179 mi_X9_commands ml_X9_commands ⟨(Nat.le_of_ble_eq_true rfl), (Nat.le_of_ble_eq_true rfl)⟩ rfl hl.1 rfl (Nat.le_of_ble_eq_true rfl) dX9_loseOvers_40 ⟨(Nat.le_of_ble_eq_true rfl), (Nat.le_of_ble_eq_true rfl)⟩) (kx_no rfl) (fun r40 u39 H locs hp38 G => ?_)
      obtain ⟨zr, k41, k42, k43, k44, fr45⟩ := hp38
      replace zr := Eq.symm zr
      subst zr
      exact J31 (X9_commands_r1 g 6 ov 0 0 0 0) (by rw [X9_loseOvers_x1, if_neg c20]) (X9_commands_g2 g gp 6 ov 0 0 0 0 un) (by rw [X9_loseOvers_g2, if_neg c20]) (X9_commands_x3 (X9_loseOvers_x0 ov) g 2 6 ov 0 0 0 0) (by rw [X9_loseOvers_x3, if_neg c20]) (X9_commands_x4 c_re g 6 ov 0 0 0 0) (by rw [X9_loseOvers_x4, if_neg c20]) (X9_commands_x5 g 6 ov 0 0 0 0 un) (by rw [X9_loseOvers_x5, if_neg c20]) (X9_commands_g6 g gd 6 ov 0 0 0 0) (by rw [X9_loseOvers_g6, if_neg c20]) (X9_commands_g7 g 6 ov 0 0 0 0) (by rw [X9_loseOvers_g7, if_neg c20]) u39 _ _ _ k41 k42 k43 k44 (fun a9 e9 h7 h8 => fr45 _ _ (fun q => h7 (by simp only [List.mem_cons, List.not_mem_nil, or_false] at q ⊢; first | exact q | (rcases q with q | q | q | q <;> simp [q]) | omega)) (h8)) G (lv_sub hl [0, 1] rfl)
    · refine lv_iconst (v := 0) hx hb dX9_loseOvers_27 (by decide) ?_
      refine lv_goto (tgt := 43) hx hb dX9_loseOvers_28 (by decide) ?_
      exact J31 0 (by rw [X9_loseOvers_x1, if_pos c20]) gp (by rw [X9_loseOvers_g2, if_pos c20]) (X9_loseOvers_x0 ov) (by rw [X9_loseOvers_x3, if_pos c20]) c_re (by rw [X9_loseOvers_x4, if_pos c20]) (nI un) (by rw [X9_loseOvers_x5, if_pos c20]) gd (by rw [X9_loseOvers_g6, if_pos c20]) g (by rw [X9_loseOvers_g7, if_pos c20]) f18 _ _ _ k21 k19 k22 k23 (fun a9 e9 h7 h8 => h8) G (lv_sub hl [0, 1] rfl)
  refine lv_if_eq (tgt := 15) hx hb dX9_loseOvers_8 (by decide) (fun c14 => ?_) (fun c14 => ?_)
  · refine lv_iconst (v := 1) hx hb dX9_loseOvers_15 (by decide) ?_
    exact J16 1 (by rw [X9_loseOvers_x0, if_pos c14]) _ _ _ G (lv_sub hl [0, 1] rfl)
  · refine lv_iconst (v := 0) hx hb dX9_loseOvers_11 (by decide) ?_
    refine lv_goto (tgt := 16) hx hb dX9_loseOvers_12 (by decide) ?_
    exact J16 0 (by rw [X9_loseOvers_x0, if_neg c14]) _ _ _ G (lv_sub hl [0, 1] rfl)
