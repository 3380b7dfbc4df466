def X9_commands_g0 (g : Nat → Int32) (what : Int32) (p1 : Int32) (p2 : Int32) (p3 : Int32) (p4 : Int32) (p5 : Int32) : Nat → Int32 := upd (doesG what p1 p2 p3 p4 p5 g) 24 (((doesG what p1 p2 p3 p4 p5 g) 24) + 1)
def X9_commands_r1 (g : Nat → Int32) (what : Int32) (p1 : Int32) (p2 : Int32) (p3 : Int32) (p4 : Int32) (p5 : Int32) : Int32 := if (refusesR what p1 p2 p3 p4 p5 g) ≤ 0 then (doesR what p1 p2 p3 p4 p5 g) else 0
def X9_commands_g2 (g : Nat → Int32) (gp : Nat → Int32) (what : Int32) (p1 : Int32) (p2 : Int32) (p3 : Int32) (p4 : Int32) (p5 : Int32) (un : Nat) : Nat → Int32 := if (refusesR what p1 p2 p3 p4 p5 g) ≤ 0 then (kpG gp g un) else gp
def X9_commands_x3 (c_th : Int32) (g : Nat → Int32) (code : Int32) (what : Int32) (p1 : Int32) (p2 : Int32) (p3 : Int32) (p4 : Int32) (p5 : Int32) : Int32 := if (refusesR what p1 p2 p3 p4 p5 g) ≤ 0 then c_th else code
def X9_commands_x4 (c_re : Int32) (g : Nat → Int32) (what : Int32) (p1 : Int32) (p2 : Int32) (p3 : Int32) (p4 : Int32) (p5 : Int32) : Int32 := if (refusesR what p1 p2 p3 p4 p5 g) ≤ 0 then c_re else (refusesR what p1 p2 p3 p4 p5 g)
def X9_commands_x5 (g : Nat → Int32) (what : Int32) (p1 : Int32) (p2 : Int32) (p3 : Int32) (p4 : Int32) (p5 : Int32) (un : Nat) : Int32 := if (refusesR what p1 p2 p3 p4 p5 g) ≤ 0 then (nI (kpN un)) else (nI un)
def X9_commands_g6 (g : Nat → Int32) (gd : Nat → Int32) (what : Int32) (p1 : Int32) (p2 : Int32) (p3 : Int32) (p4 : Int32) (p5 : Int32) : Nat → Int32 := if (refusesR what p1 p2 p3 p4 p5 g) ≤ 0 then (doesD what p1 p2 p3 p4 p5 gd (dD g)) else gd
def X9_commands_g7 (g : Nat → Int32) (what : Int32) (p1 : Int32) (p2 : Int32) (p3 : Int32) (p4 : Int32) (p5 : Int32) : Nat → Int32 := if (refusesR what p1 p2 p3 p4 p5 g) ≤ 0 then (X9_commands_g0 g what p1 p2 p3 p4 p5) else g
set_option maxRecDepth 100000 in
theorem k_X9_commands {l : Launch} (hfl : l.stackTraces = false) {D : va_G} {cy : Nat → ClassId} {f : Hf} {sz : Nat} {m : Nat} {v : Nat} {im : Nat} {kp : Nat} {pa : Nat} {de : Nat} {ide : Nat} {tx : Nat} {pt : Nat} {so : Nat} {mo : Nat} {wh : Nat} {pf : Nat} {c_th : Int32} {c_re : Int32} {c_hi : Int32} {c_tn : Int32} {c_fa : Int32} {c_rf : Int32} {c_ps : Int32} {c_pl : Int32} {c_to : Int32} {g : Nat → Int32} {gp : Nat → Int32} {gd : Nat → Int32} (code : Int32) (what : Int32) (p1 : Int32) (p2 : Int32) (p3 : Int32) (p4 : Int32) (p5 : Int32) {un : Nat} (h_m : f m = some (.inr (11, [.int c_th, .int c_re, .ref v, .ref im, .ref kp, .ref pa, .ref de, .ref ide, .int (nI un), .int c_hi, .ref tx, .int c_tn, .int c_fa, .int c_rf, .ref pt, .int c_ps, .int c_pl, .int c_to, .ref so, .ref mo, .ref wh, .ref pf]))) (h_v : f v = some (.inl (cy 0, 6441, .inl g))) (h_pa : f pa = some (.inl (cy 0, 51528, .inl gp))) (h_de : f de = some (.inl (cy 0, 24000, .inl gd))) (hun : un < 9) (h49 : dN (g 4) 4) (hpar : PAR what p1 p2) (hok : (refusesR what p1 p2 p3 p4 p5 g) ≤ 0 → DOK g what p1 p2) : hMet l yX9_commands cX9_commands 10 (some .int) { frames := 5, cells := 0, slots := 0, locals := 129 } D (hTy cy) f sz [.ref m, .int code, .int what, .int p1, .int p2, .int p3, .int p4, .int p5] (hQi (fun r u => r = (X9_commands_r1 g what p1 p2 p3 p4 p5) ∧ u pa = some (.inl (cy 0, 51528, .inl (X9_commands_g2 g gp what p1 p2 p3 p4 p5 un))) ∧ u m = some (.inr (11, [.int (X9_commands_x3 c_th g code what p1 p2 p3 p4 p5), .int (X9_commands_x4 c_re g what p1 p2 p3 p4 p5), .ref v, .ref im, .ref kp, .ref pa, .ref de, .ref ide, .int (X9_commands_x5 g what p1 p2 p3 p4 p5 un), .int c_hi, .ref tx, .int c_tn, .int c_fa, .int c_rf, .ref pt, .int c_ps, .int c_pl, .int c_to, .ref so, .ref mo, .ref wh, .ref pf])) ∧ u de = some (.inl (cy 0, 24000, .inl (X9_commands_g6 g gd what p1 p2 p3 p4 p5))) ∧ u v = some (.inl (cy 0, 6441, .inl (X9_commands_g7 g what p1 p2 p3 p4 p5))) ∧ hFrL f u [pa, m, de, v]) D f sz) hNo := by
  refine h_enter (by decide) hfl (Nat.le_of_ble_eq_true rfl) ?_
  intro p9 e9 s9 m9 b9 t9 c9 hsz C0 hr hnm G ls hl
  have hx := C0.1.1
  have hb := C0.1.2.1
  have hl : lv_has ls 10 [(0, .ref m), (1, .int code), (2, .int what), (3, .int p1), (4, .int p2), (5, .int p3), (6, .int p4), (7, .int p5)] := hl
  refine lv_aload_n hx hb dX9_commands_0 rfl (lv_at hl 0 rfl) ?_
  refine lv_iload_n hx hb dX9_commands_1 rfl (lv_at hl 2 rfl) ?_
  refine lv_iload_n hx hb dX9_commands_2 rfl (lv_at hl 3 rfl) ?_
  refine lv_iload hx hb dX9_commands_3 (lv_at hl 4 rfl) ?_
  refine lv_iload hx hb dX9_commands_5 (lv_at hl 5 rfl) ?_
  refine lv_iload hx hb dX9_commands_7 (lv_at hl 6 rfl) ?_
  refine lv_iload hx hb dX9_commands_9 (lv_at hl 7 rfl) ?_
  refine g_cI C0 G (g_runV C0 G (rest := []) (k_X9_refusesU hfl what p1 p2 p3 p4 p5 h_m h_v h49 hpar) h_m rfl hY_X9_refuses mm_X9_162 mi_X9_refuses ml_X9_refuses ⟨(Nat.le_of_ble_eq_true rfl), (Nat.le_of_ble_eq_true rfl)⟩ rfl hl.1 rfl (Nat.le_of_ble_eq_true rfl) dX9_commands_11 ⟨(Nat.le_of_ble_eq_true rfl), (Nat.le_of_ble_eq_true rfl)⟩) (kx_no rfl) (fun r13 u12 H locs hp11 G => ?_)
  obtain ⟨zr, eu12⟩ := hp11
  replace zr := Eq.symm zr
  subst zr
  rw [eu12] at G
  refine lv_istore (lv' := [(8, .int (refusesR what p1 p2 p3 p4 p5 g)), (0, .ref m), (1, .int code), (2, .int what), (3, .int p1), (4, .int p2), (5, .int p3), (6, .int p4), (7, .int p5)]) hx hb dX9_commands_14 hl (by decide) rfl (fun ls hl => ?_)
  refine lv_iload hx hb dX9_commands_16 (lv_at hl 0 rfl) ?_
  refine lv_if_le (tgt := 33) hx hb dX9_commands_18 (by decide) (fun c14 => ?_) (fun c14 => ?_)
  · refine lv_aload_n hx hb dX9_commands_33 rfl (lv_at hl 1 rfl) ?_
    refine lv_aload_n hx hb dX9_commands_34 rfl (lv_at hl 1 rfl) ?_
    refine g_get C0 G h_m rfl hiX9 2 (by decide) mf_X9_9 rfl dX9_commands_35 ?_
    refine g_cV C0 G (g_runV C0 G (rest := []) (k_X9_keepsU hfl h_m h_pa h_v hun) h_m rfl hY_X9_keeps mm_X9_172 mi_X9_keeps ml_X9_keeps ⟨(Nat.le_of_ble_eq_true rfl), (Nat.le_of_ble_eq_true rfl)⟩ rfl hl.1 rfl (Nat.le_of_ble_eq_true rfl) dX9_commands_38 ⟨(Nat.le_of_ble_eq_true rfl), (Nat.le_of_ble_eq_true rfl)⟩) (kx_no rfl) (fun u16 H locs hp15 G => ?_)
    obtain ⟨k17, k18, fr19⟩ := hp15
    refine lv_aload_n hx hb dX9_commands_41 rfl (lv_at hl 1 rfl) ?_
    refine lv_iload_n hx hb dX9_commands_42 rfl (lv_at hl 3 rfl) ?_
    refine lv_iload_n hx hb dX9_commands_43 rfl (lv_at hl 4 rfl) ?_
    refine lv_iload hx hb dX9_commands_44 (lv_at hl 5 rfl) ?_
    refine lv_iload hx hb dX9_commands_46 (lv_at hl 6 rfl) ?_
    refine lv_iload hx hb dX9_commands_48 (lv_at hl 7 rfl) ?_
    refine lv_iload hx hb dX9_commands_50 (lv_at hl 8 rfl) ?_
    have k20 : u16 v = some (.inl (cy 0, 6441, .inl g)) := fr19 _ _ (by simp only [List.mem_cons, List.not_mem_nil, or_false]; intro q; rcases q with q | q; exact (hne h_v h_pa (by intro q; cases q)) q; exact (hne h_v h_m (by intro q; cases q)) q) h_v
    have k21 : u16 de = some (.inl (cy 0, 24000, .inl gd)) := fr19 _ _ (by simp only [List.mem_cons, List.not_mem_nil, or_false]; intro q; rcases q with q | q; exact (hne h_de h_pa (by intro q; cases q)) q; exact (hne h_de h_m (by intro q; cases q)) q) h_de
    refine g_cI C0 G (g_runV C0 G (rest := []) (k_X9_doesU hfl what p1 p2 p3 p4 p5 k18 k20 k21 (hok c14)) k18 rfl hY_X9_does mm_X9_176 mi_X9_does ml_X9_does ⟨(Nat.le_of_ble_eq_true rfl), (Nat.le_of_ble_eq_true rfl)⟩ rfl hl.1 rfl (Nat.le_of_ble_eq_true rfl) dX9_commands_52 ⟨(Nat.le_of_ble_eq_true rfl), (Nat.le_of_ble_eq_true rfl)⟩) (kx_no rfl) (fun r24 u23 H locs hp22 G => ?_)
    obtain ⟨zr, k25, k26, fr27⟩ := hp22
    replace zr := Eq.symm zr
    subst zr
    refine lv_istore (lv' := [(9, .int (doesR what p1 p2 p3 p4 p5 g)), (8, .int (refusesR what p1 p2 p3 p4 p5 g)), (0, .ref m), (1, .int code), (2, .int what), (3, .int p1), (4, .int p2), (5, .int p3), (6, .int p4), (7, .int p5)]) hx hb dX9_commands_55 hl (by decide) rfl (fun ls hl => ?_)
    refine lv_aload_n hx hb dX9_commands_57 rfl (lv_at hl 2 rfl) ?_
    have k28 : u23 m = some (.inr (11, [.int c_th, .int c_re, .ref v, .ref im, .ref kp, .ref pa, .ref de, .ref ide, .int (nI (kpN un)), .int c_hi, .ref tx, .int c_tn, .int c_fa, .int c_rf, .ref pt, .int c_ps, .int c_pl, .int c_to, .ref so, .ref mo, .ref wh, .ref pf])) := fr27 _ _ (by simp only [List.mem_cons, List.not_mem_nil, or_false]; intro q; rcases q with q | q; exact (hne k18 k21 (by intro q; cases q)) q; exact (hne k18 k20 (by intro q; cases q)) q) k18
    refine g_get C0 G k28 rfl hiX9 2 (by decide) mf_X9_9 rfl dX9_commands_58 ?_
    refine lv_bipush (v := 24) hx hb dX9_commands_61 (by decide) ?_
    refine lv_dup2_11 hx hb dX9_commands_63 rfl rfl ?_
    refine g_iald C0 G k26 0 rfl (by unfold vp_in; decide) dX9_commands_64 ?_
    refine lv_topv (v := (doesG what p1 p2 p3 p4 p5 g) 24) rfl ?_
    refine lv_iconst (v := 1) hx hb dX9_commands_65 (by decide) ?_
    refine lv_iadd hx hb dX9_commands_66 ?_
    refine g_iast C0 G k26 0 rfl (by unfold vp_in; decide) dX9_commands_67 (fun H locs f29 hf29 G => ?_)
    have k30 : f29 v = some (.inl (cy 0, 6441, .inl (X9_commands_g0 g what p1 p2 p3 p4 p5))) := hus hf29
    refine lv_iload hx hb dX9_commands_68 (lv_at hl 0 rfl) ?_
    have k31 : f29 pa = some (.inl (cy 0, 51528, .inl (kpG gp g un))) := hup hf29 (hne (fr27 _ _ (by simp only [List.mem_cons, List.not_mem_nil, or_false]; intro q; rcases q with q | q; exact (hne k17 k21 (by intro q; cases q)) q; exact (hne k17 k20 (by intro q; cases q)) q) k17) k26 (by intro q; cases q)) (fr27 _ _ (by simp only [List.mem_cons, List.not_mem_nil, or_false]; intro q; rcases q with q | q; exact (hne k17 k21 (by intro q; cases q)) q; exact (hne k17 k20 (by intro q; cases q)) q) k17)
    have k32 : f29 m = some (.inr (11, [.int c_th, .int c_re, .ref v, .ref im, .ref kp, .ref pa, .ref de, .ref ide, .int (nI (kpN un)), .int c_hi, .ref tx, .int c_tn, .int c_fa, .int c_rf, .ref pt, .int c_ps, .int c_pl, .int c_to, .ref so, .ref mo, .ref wh, .ref pf])) := hup hf29 (hne k28 k26 (by intro q; cases q)) k28
    have k33 : f29 de = some (.inl (cy 0, 24000, .inl (doesD what p1 p2 p3 p4 p5 gd (dD g)))) := hup hf29 (hne k25 k26 (by intro q; cases q)) k25
    exact g_iret C0 G hr dX9_commands_70 (Nat.le_of_ble_eq_true rfl) (Nat.le_of_ble_eq_true rfl) (by exact ⟨(by rw [X9_commands_r1, if_pos c14]), (by rw [(by rw [X9_commands_g2, if_pos c14] : (X9_commands_g2 g gp what p1 p2 p3 p4 p5 un) = (kpG gp g un))]; exact k31), (by rw [(by rw [X9_commands_x3, if_pos c14] : (X9_commands_x3 c_th g code what p1 p2 p3 p4 p5) = c_th), (by rw [X9_commands_x4, if_pos c14] : (X9_commands_x4 c_re g what p1 p2 p3 p4 p5) = c_re), (by rw [X9_commands_x5, if_pos c14] : (X9_commands_x5 g what p1 p2 p3 p4 p5 un) = (nI (kpN un)))]; exact k32), (by rw [(by rw [X9_commands_g6, if_pos c14] : (X9_commands_g6 g gd what p1 p2 p3 p4 p5) = (doesD what p1 p2 p3 p4 p5 gd (dD g)))]; exact k33), (by rw [(by rw [X9_commands_g7, if_pos c14] : (X9_commands_g7 g what p1 p2 p3 p4 p5) = (X9_commands_g0 g what p1 p2 p3 p4 p5))]; exact k30), (fun a9 e9 h7 h8 => hup hf29 (fun q => h7 (by rw [q]; simp)) (fr27 _ _ (fun q => h7 (by simp only [List.mem_cons, List.not_mem_nil, or_false] at q ⊢; first | exact q | (rcases q with q | q <;> simp [q]) | omega)) (fr19 _ _ (fun q => h7 (by simp only [List.mem_cons, List.not_mem_nil, or_false] at q ⊢; first | exact q | (rcases q with q | q <;> simp [q]) | omega)) (h8))))⟩)
  · refine lv_aload_n hx hb dX9_commands_21 rfl (lv_at hl 1 rfl) ?_
    refine lv_iload hx hb dX9_commands_22 (lv_at hl 0 rfl) ?_
    refine g_put C0 G h_m rfl hiX9 tyX9 tyX9_ok nmX9 1 (by decide) mf_X9_166 rfl rfl rfl rfl (Nat.le_of_ble_eq_true rfl) dX9_commands_24 (fun H locs f34 hf34 G => ?_)
    have k35 : f34 m = some (.inr (11, [.int c_th, .int (refusesR what p1 p2 p3 p4 p5 g), .ref v, .ref im, .ref kp, .ref pa, .ref de, .ref ide, .int (nI un), .int c_hi, .ref tx, .int c_tn, .int c_fa, .int c_rf, .ref pt, .int c_ps, .int c_pl, .int c_to, .ref so, .ref mo, .ref wh, .ref pf])) := hus hf34
    refine lv_aload_n hx hb dX9_commands_27 rfl (lv_at hl 1 rfl) ?_
    refine lv_iload_n hx hb dX9_commands_28 rfl (lv_at hl 2 rfl) ?_
    refine g_cI C0 G (g_runV C0 G (rest := []) (k_X9_no hfl code k35) k35 rfl hY_X9_no mm_X9_169 mi_X9_no ml_X9_no ⟨(Nat.le_of_ble_eq_true rfl), (Nat.le_of_ble_eq_true rfl)⟩ rfl hl.1 rfl (Nat.le_of_ble_eq_true rfl) dX9_commands_29 ⟨(Nat.le_of_ble_eq_true rfl), (Nat.le_of_ble_eq_true rfl)⟩) (kx_no rfl) (fun r38 u37 H locs hp36 G => ?_)
    obtain ⟨zr, k39, fr40⟩ := hp36
    replace zr := Eq.symm zr
    subst zr
    have k41 : u37 pa = some (.inl (cy 0, 51528, .inl gp)) := fr40 _ _ (by simp only [List.mem_cons, List.not_mem_nil, or_false]; intro q; exact (hne (hup hf34 (hne h_pa h_m (by intro q; cases q)) h_pa) k35 (by intro q; cases q)) q) (hup hf34 (hne h_pa h_m (by intro q; cases q)) h_pa)
    have k42 : u37 de = some (.inl (cy 0, 24000, .inl gd)) := fr40 _ _ (by simp only [List.mem_cons, List.not_mem_nil, or_false]; intro q; exact (hne (hup hf34 (hne h_de h_m (by intro q; cases q)) h_de) k35 (by intro q; cases q)) q) (hup hf34 (hne h_de h_m (by intro q; cases q)) h_de)
    have k43 : u37 v = some (.inl (cy 0, 6441, .inl g)) := fr40 _ _ (by simp only [List.mem_cons, List.not_mem_nil, or_false]; intro q; exact (hne (hup hf34 (hne h_v h_m (by intro q; cases q)) h_v) k35 (by intro q; cases q)) q) (hup hf34 (hne h_v h_m (by intro q; cases q)) h_v)
    exact g_iret C0 G hr dX9_commands_32 (Nat.le_of_ble_eq_true rfl) (Nat.le_of_ble_eq_true rfl) (by exact ⟨(by rw [X9_commands_r1, if_neg c14]), (by rw [(by rw [X9_commands_g2, if_neg c14] : (X9_commands_g2 g gp what p1 p2 p3 p4 p5 un) = gp)]; exact k41), (by rw [(by rw [X9_commands_x3, if_neg c14] : (X9_commands_x3 c_th g code what p1 p2 p3 p4 p5) = code), (by rw [X9_commands_x4, if_neg c14] : (X9_commands_x4 c_re g what p1 p2 p3 p4 p5) = (refusesR what p1 p2 p3 p4 p5 g)), (by rw [X9_commands_x5, if_neg c14] : (X9_commands_x5 g what p1 p2 p3 p4 p5 un) = (nI un))]; exact k39), (by rw [(by rw [X9_commands_g6, if_neg c14] : (X9_commands_g6 g gd what p1 p2 p3 p4 p5) = gd)]; exact k42), (by rw [(by rw [X9_commands_g7, if_neg c14] : (X9_commands_g7 g what p1 p2 p3 p4 p5) = g)]; exact k43), (fun a9 e9 h7 h8 => fr40 _ _ (fun q => h7 (by simp only [List.mem_cons, List.not_mem_nil, or_false] at q ⊢; first | exact q | (rcases q with q <;> simp [q]) | omega)) (hup hf34 (fun q => h7 (by rw [q]; simp)) (h8)))⟩)
