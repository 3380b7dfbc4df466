theorem upd_same (g : Nat → Int32) (k : Nat) : upd g k (g k) = g := by
  funext j
  by_cases h : j = k
  · subst h; simp [upd]
  · simp [upd, h]
theorem doesD_same (gd : Nat → Int32) (j : Nat) : doesD (gd (6 * j)) (gd (6 * j + 1)) (gd (6 * j + 2)) (gd (6 * j + 3)) (gd (6 * j + 4)) (gd (6 * j + 5)) gd j = gd := by
  unfold doesD
  rw [upd_same, upd_same, upd_same, upd_same, upd_same, upd_same]
/-- deeds done one after the other -/
def rpG (gd G : Nat → Int32) : Nat → (Nat → Int32)
  | 0 => G
  | n + 1 => doesG (gd (6 * n)) (gd (6 * n + 1)) (gd (6 * n + 2)) (gd (6 * n + 3)) (gd (6 * n + 4)) (gd (6 * n + 5)) (rpG gd G n)
def rpT (gd G : Nat → Int32) (t : Int32) : Nat → Int32
  | 0 => t
  | n + 1 => doesR (gd (6 * n)) (gd (6 * n + 1)) (gd (6 * n + 2)) (gd (6 * n + 3)) (gd (6 * n + 4)) (gd (6 * n + 5)) (rpG gd G n)
def smB (V g : Nat → Int32) (s n : Nat) : Int32 := if V n = g n then 1 else (if nI n = 24 then 1 else (if nI n < nI (841 + 8 * s) then 0 else 1))
def smC (V g : Nat → Int32) (s : Nat) : Nat → Int32
  | 0 => 1
  | n + 1 => smC V g s n &&& smB V g s n
theorem smC_b (V g : Nat → Int32) (s n : Nat) : smC V g s n = 0 ∨ smC V g s n = 1 := by
  induction n with
  | zero => exact Or.inr rfl
  | succ n ih =>
    have h2 : smB V g s n = 0 ∨ smB V g s n = 1 := by unfold smB; split <;> (try split) <;> (try split) <;> first | exact Or.inl rfl | exact Or.inr rfl
    show (smC V g s n &&& smB V g s n) = 0 ∨ (smC V g s n &&& smB V g s n) = 1
    rcases ih with e | e <;> rcases h2 with e2 | e2 <;> rw [e, e2] <;> decide
set_option maxRecDepth 100000 in
theorem k_X9_isReplayedN {l : Launch} (hfl : l.stackTraces = false) {D : va_G} {cy : Nat → ClassId} {f : Hf} {sz : Nat} {m : Nat} {v : Nat} {im : Nat} {kp : Nat} {pa : Nat} {de : Nat} {ide : Nat} {tx : Nat} {pt : Nat} {so : Nat} {mo : Nat} {wh : Nat} {pf : Nat} {c_th : Int32} {c_re : Int32} {c_un : Int32} {c_hi : Int32} {c_tn : Int32} {c_fa : Int32} {c_rf : Int32} {c_ps : Int32} {c_pl : Int32} {c_to : Int32} {g : Nat → Int32} (h_m : f m = some (.inr (11, [.int c_th, .int c_re, .ref v, .ref im, .ref kp, .ref pa, .ref de, .ref ide, .int c_un, .int c_hi, .ref tx, .int c_tn, .int c_fa, .int c_rf, .ref pt, .int c_ps, .int c_pl, .int c_to, .ref so, .ref mo, .ref wh, .ref pf]))) (h_v : f v = some (.inl (cy 0, 6441, .inl g))) (hm0 : X9_hasMatch_r0 g = 0) : hMet l yX9_isReplayed cX9_isReplayed 3 (some .boolean) { frames := 1, cells := 0, slots := 0, locals := 21 } D (hTy cy) f sz [.ref m] (hQi (fun r u => r = 0 ∧ u m = some (.inr (11, [.int (X9_hasMatch_x1 0 g 1), .int (X9_hasMatch_x2 c_re g), .ref v, .ref im, .ref kp, .ref pa, .ref de, .ref ide, .int c_un, .int c_hi, .ref tx, .int c_tn, .int c_fa, .int c_rf, .ref pt, .int c_ps, .int c_pl, .int c_to, .ref so, .ref mo, .ref wh, .ref pf])) ∧ hFrL f u [m]) D f sz) hNo := by
  refine h_enter (by decide) hfl (Nat.le_of_ble_eq_true rfl) ?_
  intro p9 e9 s9 m9 b9 t9 c9 hsz C0 hr hnm G ls hl
  have hx := C0.1.1
  have hb := C0.1.2.1
  have hl : lv_has ls 3 [(0, .ref m)] := hl
  refine lv_aload_n hx hb dX9_isReplayed_0 rfl (lv_at hl 0 rfl) ?_
  refine lv_iconst (v := 0) hx hb dX9_isReplayed_1 (by decide) ?_
  refine g_put C0 G h_m rfl hiX9 tyX9 tyX9_ok nmX9 0 (by decide) mf_X9_55 rfl rfl rfl rfl (Nat.le_of_ble_eq_true rfl) dX9_isReplayed_2 (fun H locs f11 hf11 G => ?_)
  have k12 : f11 m = some (.inr (11, [.int 0, .int c_re, .ref v, .ref im, .ref kp, .ref pa, .ref de, .ref ide, .int c_un, .int c_hi, .ref tx, .int c_tn, .int c_fa, .int c_rf, .ref pt, .int c_ps, .int c_pl, .int c_to, .ref so, .ref mo, .ref wh, .ref pf])) := hus hf11
  refine lv_aload_n hx hb dX9_isReplayed_5 rfl (lv_at hl 0 rfl) ?_
  refine lv_iconst (v := 1) hx hb dX9_isReplayed_6 (by decide) ?_
  have k13 : f11 v = some (.inl (cy 0, 6441, .inl g)) := hup hf11 (hne h_v h_m (by intro q; cases q)) h_v
  refine g_cI C0 G (g_runV C0 G (rest := []) (k_X9_hasMatch hfl 1 k12 k13) k12 rfl hY_X9_hasMatch mm_X9_221 mi_X9_hasMatch ml_X9_hasMatch ⟨(Nat.le_of_ble_eq_true rfl), (Nat.le_of_ble_eq_true rfl)⟩ rfl hl.1 rfl (Nat.le_of_ble_eq_true rfl) dX9_isReplayed_7 ⟨(Nat.le_of_ble_eq_true rfl), (Nat.le_of_ble_eq_true rfl)⟩) (kx_no rfl) (fun r16 u15 H locs hp14 G => ?_)
  obtain ⟨zr, k17, fr18⟩ := hp14
  replace zr := Eq.symm zr
  subst zr
  refine lv_topv (v := 0) (hm0) ?_
  refine lv_if_ne (tgt := 15) hx hb dX9_isReplayed_10 (by decide) (fun c19 => absurd (by decide) c19) (fun _ => ?_)
  refine lv_iconst (v := 0) hx hb dX9_isReplayed_13 (by decide) ?_
  exact g_zret C0 G hr dX9_isReplayed_14 rfl (Nat.le_of_ble_eq_true rfl) (Nat.le_of_ble_eq_true rfl) (by exact ⟨rfl, k17, (fun a9 e9 h7 h8 => fr18 _ _ (fun q => h7 (by simp only [List.mem_cons, List.not_mem_nil, or_false] at q ⊢; first | exact q | (rcases q with q <;> simp [q]) | omega)) (hup hf11 (fun q => h7 (by rw [q]; simp)) (h8)))⟩)
def X9_isReplayedY_x0 (s : Nat) (jj : Nat) : Int32 := if (nI jj) < (nI (841 + 8 * s)) then 0 else 1
def X9_isReplayedY_x1 (s : Nat) (jj : Nat) : Int32 := if (nI jj) = 24 then 1 else (X9_isReplayedY_x0 s jj)
def X9_isReplayedY_x2 (g : Nat → Int32) (gd : Nat → Int32) (d : Nat) (s : Nat) (jj : Nat) : Int32 := if ((rpG gd (X9_begins_g4 g (g 3) (g 1) (g 2)) d) jj) = (g jj) then 1 else (X9_isReplayedY_x1 s jj)
def X9_isReplayedY_r3 (g : Nat → Int32) (gd : Nat → Int32) (d : Nat) (s : Nat) : Int32 := (smC (rpG gd (X9_begins_g4 g (g 3) (g 1) (g 2)) d) g s 6441)
def X9_isReplayedY_g4 (g : Nat → Int32) (gk : Nat → Int32) : Nat → Int32 := (X9_copies_g0 6441 g gk)
def X9_isReplayedY_g5 (g : Nat → Int32) (gk : Nat → Int32) (gd : Nat → Int32) (d : Nat) : Nat → Int32 := (X9_copies_g0 6441 (X9_copies_g0 6441 g gk) (rpG gd (X9_begins_g4 g (g 3) (g 1) (g 2)) d))
set_option maxRecDepth 100000 in
theorem k_X9_isReplayedY {l : Launch} (hfl : l.stackTraces = false) {D : va_G} {cy : Nat → ClassId} {f : Hf} {sz : Nat} {m : Nat} {v : Nat} {im : Nat} {kp : Nat} {pa : Nat} {de : Nat} {ide : Nat} {tx : Nat} {pt : Nat} {so : Nat} {mo : Nat} {wh : Nat} {pf : Nat} {c_th : Int32} {c_re : Int32} {c_un : Int32} {c_hi : Int32} {c_tn : Int32} {c_fa : Int32} {c_rf : Int32} {c_ps : Int32} {c_pl : Int32} {c_to : Int32} {g : Nat → Int32} {gk : Nat → Int32} {gd : Nat → Int32} {d : Nat} {s : Nat} (h_m : f m = some (.inr (11, [.int c_th, .int c_re, .ref v, .ref im, .ref kp, .ref pa, .ref de, .ref ide, .int c_un, .int c_hi, .ref tx, .int c_tn, .int c_fa, .int c_rf, .ref pt, .int c_ps, .int c_pl, .int c_to, .ref so, .ref mo, .ref wh, .ref pf]))) (h_v : f v = some (.inl (cy 0, 6441, .inl g))) (h_kp : f kp = some (.inl (cy 0, 6441, .inl gk))) (h_de : f de = some (.inl (cy 0, 24000, .inl gd))) (hm1 : X9_hasMatch_r0 g = 1) (h23 : g 23 = nI d) (hd : d < 4000) (h22 : g 22 = nI s) (hs : s < 700) (hvk : v ≠ kp) (hrp : ∀ j, j < d → DOK (rpG gd (X9_begins_g4 g (g 3) (g 1) (g 2)) j) (gd (6 * j)) (gd (6 * j + 1)) (gd (6 * j + 2)) ∧ dD (rpG gd (X9_begins_g4 g (g 3) (g 1) (g 2)) j) = j) : hMet l yX9_isReplayed cX9_isReplayed 3 (some .boolean) { frames := 5, cells := 0, slots := 0, locals := 129 } D (hTy cy) f sz [.ref m] (hQi (fun r u => r = (X9_isReplayedY_r3 g gd d s) ∧ u m = some (.inr (11, [.int (X9_hasMatch_x1 0 g 1), .int (X9_hasMatch_x2 c_re g), .ref v, .ref im, .ref kp, .ref pa, .ref de, .ref ide, .int c_un, .int c_hi, .ref tx, .int c_tn, .int c_fa, .int c_rf, .ref pt, .int c_ps, .int c_pl, .int (rpT gd (X9_begins_g4 g (g 3) (g 1) (g 2)) c_to d), .ref so, .ref mo, .ref wh, .ref pf])) ∧ u kp = some (.inl (cy 0, 6441, .inl (X9_isReplayedY_g4 g gk))) ∧ u v = some (.inl (cy 0, 6441, .inl (X9_isReplayedY_g5 g gk gd d))) ∧ u de = some (.inl (cy 0, 24000, .inl gd)) ∧ hFrL f u [m, kp, v, de]) D f sz) hNo := by
  refine h_enter (by decide) hfl (Nat.le_of_ble_eq_true rfl) ?_
  intro p9 e9 s9 m9 b9 t9 c9 hsz C0 hr hnm G ls hl
  have hx := C0.1.1
  have hb := C0.1.2.1
  have hl : lv_has ls 3 [(0, .ref m)] := hl
  refine lv_aload_n hx hb dX9_isReplayed_0 rfl (lv_at hl 0 rfl) ?_
  refine lv_iconst (v := 0) hx hb dX9_isReplayed_1 (by decide) ?_
  refine g_put C0 G h_m rfl hiX9 tyX9 tyX9_ok nmX9 0 (by decide) mf_X9_55 rfl rfl rfl rfl (Nat.le_of_ble_eq_true rfl) dX9_isReplayed_2 (fun H locs f11 hf11 G => ?_)
  have k12 : f11 m = some (.inr (11, [.int 0, .int c_re, .ref v, .ref im, .ref kp, .ref pa, .ref de, .ref ide, .int c_un, .int c_hi, .ref tx, .int c_tn, .int c_fa, .int c_rf, .ref pt, .int c_ps, .int c_pl, .int c_to, .ref so, .ref mo, .ref wh, .ref pf])) := hus hf11
  refine lv_aload_n hx hb dX9_isReplayed_5 rfl (lv_at hl 0 rfl) ?_
  refine lv_iconst (v := 1) hx hb dX9_isReplayed_6 (by decide) ?_
  have k13 : f11 v = some (.inl (cy 0, 6441, .inl g)) := hup hf11 (hne h_v h_m (by intro q; cases q)) h_v
  refine g_cI C0 G (g_runV C0 G (rest := []) (k_X9_hasMatch hfl 1 k12 k13) k12 rfl hY_X9_hasMatch mm_X9_221 mi_X9_hasMatch ml_X9_hasMatch ⟨(Nat.le_of_ble_eq_true rfl), (Nat.le_of_ble_eq_true rfl)⟩ rfl hl.1 rfl (Nat.le_of_ble_eq_true rfl) dX9_isReplayed_7 ⟨(Nat.le_of_ble_eq_true rfl), (Nat.le_of_ble_eq_true rfl)⟩) (kx_no rfl) (fun r16 u15 H locs hp14 G => ?_)
  obtain ⟨zr, k17, fr18⟩ := hp14
  replace zr := Eq.symm zr
  subst zr
  refine lv_topv (v := 1) (hm1) ?_
  refine lv_if_ne (tgt := 15) hx hb dX9_isReplayed_10 (by decide) (fun _ => ?_) (fun c19 => absurd c19 (by decide))
  refine lv_aload_n hx hb dX9_isReplayed_15 rfl (lv_at hl 0 rfl) ?_
  refine g_get C0 G k17 rfl hiX9 2 (by decide) mf_X9_9 rfl dX9_isReplayed_16 ?_
  refine lv_aload_n hx hb dX9_isReplayed_19 rfl (lv_at hl 0 rfl) ?_
  refine g_get C0 G k17 rfl hiX9 4 (by decide) mf_X9_16 rfl dX9_isReplayed_20 ?_
  refine lv_sipush (v := 6441) hx hb dX9_isReplayed_23 (by decide) ?_
  have k20 : u15 v = some (.inl (cy 0, 6441, .inl g)) := fr18 _ _ (by simp only [List.mem_cons, List.not_mem_nil, or_false]; intro q; exact (hne k13 k12 (by intro q; cases q)) q) k13
  have k21 : u15 kp = some (.inl (cy 0, 6441, .inl gk)) := fr18 _ _ (by simp only [List.mem_cons, List.not_mem_nil, or_false]; intro q; exact (hne (hup hf11 (hne h_kp h_m (by intro q; cases q)) h_kp) k12 (by intro q; cases q)) q) (hup hf11 (hne h_kp h_m (by intro q; cases q)) h_kp)
  refine g_cV C0 G (g_runS C0 G (rest := []) (k_X9_copies hfl (na := 6441) (nb := 6441) (n := 6441) (ga := g) (gb := gk) k20 k21 hvk (by omega) (by omega) (by omega) (by omega)) hY_X9_copies mm_X9_214 ms_X9_copies ⟨(Nat.le_of_ble_eq_true rfl), (Nat.le_of_ble_eq_true rfl)⟩ rfl hl.1 rfl (Nat.le_of_ble_eq_true rfl) dX9_isReplayed_26 ⟨(Nat.le_of_ble_eq_true rfl), (Nat.le_of_ble_eq_true rfl)⟩) (kx_no rfl) (fun u23 H locs hp22 G => ?_)
  obtain ⟨k24, fr25⟩ := hp22
  refine lv_aload_n hx hb dX9_isReplayed_29 rfl (lv_at hl 0 rfl) ?_
  refine lv_aload_n hx hb dX9_isReplayed_30 rfl (lv_at hl 0 rfl) ?_
  have k26 : u23 m = some (.inr (11, [.int (X9_hasMatch_x1 0 g 1), .int (X9_hasMatch_x2 c_re g), .ref v, .ref im, .ref kp, .ref pa, .ref de, .ref ide, .int c_un, .int c_hi, .ref tx, .int c_tn, .int c_fa, .int c_rf, .ref pt, .int c_ps, .int c_pl, .int c_to, .ref so, .ref mo, .ref wh, .ref pf])) := fr25 _ _ (by simp only [List.mem_cons, List.not_mem_nil, or_false]; intro q; exact (hne k17 k21 (by intro q; cases q)) q) k17
  refine g_get C0 G k26 rfl hiX9 4 (by decide) mf_X9_16 rfl dX9_isReplayed_31 ?_
  refine lv_iconst (v := 3) hx hb dX9_isReplayed_34 (by decide) ?_
  refine g_iald C0 G k24 0 rfl (by unfold vp_in; decide) dX9_isReplayed_35 ?_
  refine lv_topv (v := (X9_copies_g0 6441 g gk) 3) rfl ?_
  refine lv_topv (v := g 3) (cp_at (by omega)) ?_
  refine lv_aload_n hx hb dX9_isReplayed_36 rfl (lv_at hl 0 rfl) ?_
  refine g_get C0 G k26 rfl hiX9 4 (by decide) mf_X9_16 rfl dX9_isReplayed_37 ?_
  refine lv_iconst (v := 1) hx hb dX9_isReplayed_40 (by decide) ?_
  refine g_iald C0 G k24 0 rfl (by unfold vp_in; decide) dX9_isReplayed_41 ?_
  refine lv_topv (v := (X9_copies_g0 6441 g gk) 1) rfl ?_
  refine lv_topv (v := g 1) (cp_at (by omega)) ?_
  refine lv_aload_n hx hb dX9_isReplayed_42 rfl (lv_at hl 0 rfl) ?_
  refine g_get C0 G k26 rfl hiX9 4 (by decide) mf_X9_16 rfl dX9_isReplayed_43 ?_
  refine lv_iconst (v := 2) hx hb dX9_isReplayed_46 (by decide) ?_
  refine g_iald C0 G k24 0 rfl (by unfold vp_in; decide) dX9_isReplayed_47 ?_
  refine lv_topv (v := (X9_copies_g0 6441 g gk) 2) rfl ?_
  refine lv_topv (v := g 2) (cp_at (by omega)) ?_
  have k27 : u23 v = some (.inl (cy 0, 6441, .inl g)) := fr25 _ _ (by simp only [List.mem_cons, List.not_mem_nil, or_false]; intro q; exact hvk q) k20
  refine g_cV C0 G (g_runV C0 G (rest := []) (k_X9_begins hfl (g 3) (g 1) (g 2) k26 k27) k26 rfl hY_X9_begins mm_X9_80 mi_X9_begins ml_X9_begins ⟨(Nat.le_of_ble_eq_true rfl), (Nat.le_of_ble_eq_true rfl)⟩ rfl hl.1 rfl (Nat.le_of_ble_eq_true rfl) dX9_isReplayed_48 ⟨(Nat.le_of_ble_eq_true rfl), (Nat.le_of_ble_eq_true rfl)⟩) (kx_no rfl) (fun u29 H locs hp28 G => ?_)
  obtain ⟨k30, fr31⟩ := hp28
  refine lv_iconst (v := 0) hx hb dX9_isReplayed_51 (by decide) ?_
  refine lv_istore_n (lv' := [(1, .int 0), (0, .ref m)]) hx hb dX9_isReplayed_52 rfl hl (by decide) rfl (fun ls hl => ?_)
  have k32 : u29 m = some (.inr (11, [.int (X9_hasMatch_x1 0 g 1), .int (X9_hasMatch_x2 c_re g), .ref v, .ref im, .ref kp, .ref pa, .ref de, .ref ide, .int c_un, .int c_hi, .ref tx, .int c_tn, .int c_fa, .int c_rf, .ref pt, .int c_ps, .int c_pl, .int c_to, .ref so, .ref mo, .ref wh, .ref pf])) := fr31 _ _ (by simp only [List.mem_cons, List.not_mem_nil, or_false]; intro q; exact (hne k26 k27 (by intro q; cases q)) q) k26
  have k33 : u29 de = some (.inl (cy 0, 24000, .inl gd)) := fr31 _ _ (by simp only [List.mem_cons, List.not_mem_nil, or_false]; intro q; exact (hne (fr25 _ _ (by simp only [List.mem_cons, List.not_mem_nil, or_false]; intro q; exact (hne (fr18 _ _ (by simp only [List.mem_cons, List.not_mem_nil, or_false]; intro q; exact (hne (hup hf11 (hne h_de h_m (by intro q; cases q)) h_de) k12 (by intro q; cases q)) q) (hup hf11 (hne h_de h_m (by intro q; cases q)) h_de)) k21 (by intro q; cases q)) q) (fr18 _ _ (by simp only [List.mem_cons, List.not_mem_nil, or_false]; intro q; exact (hne (hup hf11 (hne h_de h_m (by intro q; cases q)) h_de) k12 (by intro q; cases q)) q) (hup hf11 (hne h_de h_m (by intro q; cases q)) h_de))) k27 (by intro q; cases q)) q) (fr25 _ _ (by simp only [List.mem_cons, List.not_mem_nil, or_false]; intro q; exact (hne (fr18 _ _ (by simp only [List.mem_cons, List.not_mem_nil, or_false]; intro q; exact (hne (hup hf11 (hne h_de h_m (by intro q; cases q)) h_de) k12 (by intro q; cases q)) q) (hup hf11 (hne h_de h_m (by intro q; cases q)) h_de)) k21 (by intro q; cases q)) q) (fr18 _ _ (by simp only [List.mem_cons, List.not_mem_nil, or_false]; intro q; exact (hne (hup hf11 (hne h_de h_m (by intro q; cases q)) h_de) k12 (by intro q; cases q)) q) (hup hf11 (hne h_de h_m (by intro q; cases q)) h_de)))
  refine W.widen (k := 0) (n := 0) (Nat.le_of_ble_eq_true rfl) (Nat.le_of_ble_eq_true rfl) ?_
  have LOOP53 : ∀ (k : Nat) (jj : Nat) (f1 : Hf) (H : Heap) (locs : List Loc) (ls : Array Slot), (jj ≤ d) → (d - jj < k) → f1 v = some (.inl (cy 0, 6441, .inl (rpG gd (X9_begins_g4 g (g 3) (g 1) (g 2)) jj))) → f1 de = some (.inl (cy 0, 24000, .inl gd)) → f1 m = some (.inr (11, [.int (X9_hasMatch_x1 0 g 1), .int (X9_hasMatch_x2 c_re g), .ref v, .ref im, .ref kp, .ref pa, .ref de, .ref ide, .int c_un, .int c_hi, .ref tx, .int c_tn, .int c_fa, .int c_rf, .ref pt, .int c_ps, .int c_pl, .int (rpT gd (X9_begins_g4 g (g 3) (g 1) (g 2)) c_to jj), .ref so, .ref mo, .ref wh, .ref pf])) → hFrL u29 f1 [v, de, m] → hG D (hA f sz) f1 s9 H locs → lv_has ls 3 [(1, .int (nI jj)), (0, .ref m)] → W p9 l e9 ({ frames := 5, cells := 0, slots := 0, locals := 129 } : Room) s9 m9 ([.ref m] : List Value).toArray b9 t9 c9 H locs 0 0 (vx_MQ b9 (hQi (fun r u => r = (X9_isReplayedY_r3 g gd d s) ∧ u m = some (.inr (11, [.int (X9_hasMatch_x1 0 g 1), .int (X9_hasMatch_x2 c_re g), .ref v, .ref im, .ref kp, .ref pa, .ref de, .ref ide, .int c_un, .int c_hi, .ref tx, .int c_tn, .int c_fa, .int c_rf, .ref pt, .int c_ps, .int c_pl, .int (rpT gd (X9_begins_g4 g (g 3) (g 1) (g 2)) c_to d), .ref so, .ref mo, .ref wh, .ref pf])) ∧ u kp = some (.inl (cy 0, 6441, .inl (X9_isReplayedY_g4 g gk))) ∧ u v = some (.inl (cy 0, 6441, .inl (X9_isReplayedY_g5 g gk gd d))) ∧ u de = some (.inl (cy 0, 24000, .inl gd)) ∧ hFrL f u [m, kp, v, de]) D f sz) (hPx hNo D f sz) ([.ref m] : List Value).toArray s9 0 0 (hA f sz)) (F0 m9 53 ls []) := by
    intro k
    induction k with
    | zero =>
      intro jj f1 H locs ls hi2 hk h_v1 h_de1 h_m1 hfr G hl
      exact absurd hk (by omega)
    | succ k ih =>
      intro jj f1 H locs ls hi2 hk h_v1 h_de1 h_m1 hfr G hl
      refine lv_iload_n hx hb dX9_isReplayed_53 rfl (lv_at hl 0 rfl) ?_
      refine lv_aload_n hx hb dX9_isReplayed_54 rfl (lv_at hl 1 rfl) ?_
      refine g_get C0 G h_m1 rfl hiX9 4 (by decide) mf_X9_16 rfl dX9_isReplayed_55 ?_
      refine lv_bipush (v := 23) hx hb dX9_isReplayed_58 (by decide) ?_
      have k34 : f1 kp = some (.inl (cy 0, 6441, .inl (X9_copies_g0 6441 g gk))) := hfr _ _ (by simp only [List.mem_cons, List.not_mem_nil, or_false]; intro q; rcases q with q | q | q; exact (Ne.symm hvk) q; exact (hne (fr31 _ _ (by simp only [List.mem_cons, List.not_mem_nil, or_false]; intro q; exact (Ne.symm hvk) q) k24) k33 (by intro q; cases q)) q; exact (hne (fr31 _ _ (by simp only [List.mem_cons, List.not_mem_nil, or_false]; intro q; exact (Ne.symm hvk) q) k24) k32 (by intro q; cases q)) q) (fr31 _ _ (by simp only [List.mem_cons, List.not_mem_nil, or_false]; intro q; exact (Ne.symm hvk) q) k24)
      refine g_iald C0 G k34 0 rfl (by unfold vp_in; decide) dX9_isReplayed_60 ?_
      refine lv_topv (v := (X9_copies_g0 6441 g gk) 23) rfl ?_
      refine lv_topv (v := nI d) ((cp_at (by omega)).trans h23) ?_
      refine lv_icmp_ge (tgt := 129) hx hb dX9_isReplayed_61 (by decide) (fun c35 => ?_) (fun c35 => ?_)
      · have n36 : d ≤ jj := (nI_leI (a := d) (b := jj) (by omega) (by omega)).mp c35
        have hi9 : d = jj := by omega
        subst hi9
        refine lv_iconst (v := 1) hx hb dX9_isReplayed_129 (by decide) ?_
        refine lv_istore_n (lv' := [(1, .int 1), (0, .ref m)]) hx hb dX9_isReplayed_130 rfl hl (by decide) rfl (fun ls hl => ?_)
        refine lv_iconst (v := 0) hx hb dX9_isReplayed_131 (by decide) ?_
        refine lv_istore_n (lv' := [(2, .int 0), (1, .int 1), (0, .ref m)]) hx hb dX9_isReplayed_132 rfl hl (by decide) rfl (fun ls hl => ?_)
        refine W.widen (k := 0) (n := 0) (Nat.le_of_ble_eq_true rfl) (Nat.le_of_ble_eq_true rfl) ?_
        have LOOP133 : ∀ (kb : Nat) (jj : Nat) (f1b : Hf) (H : Heap) (locs : List Loc) (ls : Array Slot), (jj ≤ 6441) → (6441 - jj < kb) → f1b = f1 → hG D (hA f sz) f1b s9 H locs → lv_has ls 3 [(2, .int (nI jj)), (1, .int (smC (rpG gd (X9_begins_g4 g (g 3) (g 1) (g 2)) d) g s jj)), (0, .ref m)] → W p9 l e9 ({ frames := 5, cells := 0, slots := 0, locals := 129 } : Room) s9 m9 ([.ref m] : List Value).toArray b9 t9 c9 H locs 0 0 (vx_MQ b9 (hQi (fun r u => r = (X9_isReplayedY_r3 g gd d s) ∧ u m = some (.inr (11, [.int (X9_hasMatch_x1 0 g 1), .int (X9_hasMatch_x2 c_re g), .ref v, .ref im, .ref kp, .ref pa, .ref de, .ref ide, .int c_un, .int c_hi, .ref tx, .int c_tn, .int c_fa, .int c_rf, .ref pt, .int c_ps, .int c_pl, .int (rpT gd (X9_begins_g4 g (g 3) (g 1) (g 2)) c_to d), .ref so, .ref mo, .ref wh, .ref pf])) ∧ u kp = some (.inl (cy 0, 6441, .inl (X9_isReplayedY_g4 g gk))) ∧ u v = some (.inl (cy 0, 6441, .inl (X9_isReplayedY_g5 g gk gd d))) ∧ u de = some (.inl (cy 0, 24000, .inl gd)) ∧ hFrL f u [m, kp, v, de]) D f sz) (hPx hNo D f sz) ([.ref m] : List Value).toArray s9 0 0 (hA f sz)) (F0 m9 133 ls []) := by
          intro kb
          induction kb with
          | zero =>
            intro jj f1b H locs ls hi2b hkb hfrb G hl
            exact absurd hkb (by omega)
          | succ kb ihb =>
            intro jj f1b H locs ls hi2b hkb hfrb G hl
            rw [hfrb] at G
            refine lv_iload_n hx hb dX9_isReplayed_133 rfl (lv_at hl 0 rfl) ?_
            refine lv_sipush (v := 6441) hx hb dX9_isReplayed_134 (by decide) ?_
            refine lv_icmp_ge (tgt := 193) hx hb dX9_isReplayed_137 (by decide) (fun c37 => ?_) (fun c37 => ?_)
            · have n38 : 6441 ≤ jj := (nI_leI (a := 6441) (b := jj) (by omega) (by omega)).mp c37
              have hi9 : 6441 = jj := by omega
              subst hi9
              refine lv_aload_n hx hb dX9_isReplayed_193 rfl (lv_at hl 2 rfl) ?_
              refine g_get C0 G h_m1 rfl hiX9 4 (by decide) mf_X9_16 rfl dX9_isReplayed_194 ?_
              refine lv_aload_n hx hb dX9_isReplayed_197 rfl (lv_at hl 2 rfl) ?_
              refine g_get C0 G h_m1 rfl hiX9 2 (by decide) mf_X9_9 rfl dX9_isReplayed_198 ?_
              refine lv_sipush (v := 6441) hx hb dX9_isReplayed_201 (by decide) ?_
              refine g_cV C0 G (g_runS C0 G (rest := []) (k_X9_copies hfl (na := 6441) (nb := 6441) (n := 6441) (ga := (X9_copies_g0 6441 g gk)) (gb := rpG gd (X9_begins_g4 g (g 3) (g 1) (g 2)) d) k34 h_v1 (Ne.symm hvk) (by omega) (by omega) (by omega) (by omega)) hY_X9_copies mm_X9_214 ms_X9_copies ⟨(Nat.le_of_ble_eq_true rfl), (Nat.le_of_ble_eq_true rfl)⟩ rfl hl.1 rfl (Nat.le_of_ble_eq_true rfl) dX9_isReplayed_204 ⟨(Nat.le_of_ble_eq_true rfl), (Nat.le_of_ble_eq_true rfl)⟩) (kx_no rfl) (fun u40 H locs hp39 G => ?_)
              obtain ⟨k41, fr42⟩ := hp39
              refine lv_iload_n hx hb dX9_isReplayed_207 rfl (lv_at hl 1 rfl) ?_
              have k43 : u40 m = some (.inr (11, [.int (X9_hasMatch_x1 0 g 1), .int (X9_hasMatch_x2 c_re g), .ref v, .ref im, .ref kp, .ref pa, .ref de, .ref ide, .int c_un, .int c_hi, .ref tx, .int c_tn, .int c_fa, .int c_rf, .ref pt, .int c_ps, .int c_pl, .int (rpT gd (X9_begins_g4 g (g 3) (g 1) (g 2)) c_to d), .ref so, .ref mo, .ref wh, .ref pf])) := fr42 _ _ (by simp only [List.mem_cons, List.not_mem_nil, or_false]; intro q; exact (hne h_m1 h_v1 (by intro q; cases q)) q) h_m1
              have k44 : u40 kp = some (.inl (cy 0, 6441, .inl (X9_copies_g0 6441 g gk))) := fr42 _ _ (by simp only [List.mem_cons, List.not_mem_nil, or_false]; intro q; exact (Ne.symm hvk) q) k34
              have k45 : u40 de = some (.inl (cy 0, 24000, .inl gd)) := fr42 _ _ (by simp only [List.mem_cons, List.not_mem_nil, or_false]; intro q; exact (hne h_de1 h_v1 (by intro q; cases q)) q) h_de1
              exact g_zret C0 G hr dX9_isReplayed_208 (hZb (smC_b _ _ _ _)) (Nat.le_of_ble_eq_true rfl) (Nat.le_of_ble_eq_true rfl) (by exact ⟨(by rw [X9_isReplayedY_r3]), k43, (by rw [(by rw [X9_isReplayedY_g4] : (X9_isReplayedY_g4 g gk) = (X9_copies_g0 6441 g gk))]; exact k44), (by rw [(by rw [X9_isReplayedY_g5] : (X9_isReplayedY_g5 g gk gd d) = (X9_copies_g0 6441 (X9_copies_g0 6441 g gk) (rpG gd (X9_begins_g4 g (g 3) (g 1) (g 2)) d)))]; exact k41), k45, (fun a9 e9 h7 h8 => fr42 _ _ (fun q => h7 (by simp only [List.mem_cons, List.not_mem_nil, or_false] at q ⊢; first | exact q | (rcases q with q <;> simp [q]) | omega)) (hfr _ _ (fun q => h7 (by simp only [List.mem_cons, List.not_mem_nil, or_false] at q ⊢; first | exact q | (rcases q with q | q | q <;> simp [q]) | omega)) (fr31 _ _ (fun q => h7 (by simp only [List.mem_cons, List.not_mem_nil, or_false] at q ⊢; first | exact q | (rcases q with q <;> simp [q]) | omega)) (fr25 _ _ (fun q => h7 (by simp only [List.mem_cons, List.not_mem_nil, or_false] at q ⊢; first | exact q | (rcases q with q <;> simp [q]) | omega)) (fr18 _ _ (fun q => h7 (by simp only [List.mem_cons, List.not_mem_nil, or_false] at q ⊢; first | exact q | (rcases q with q <;> simp [q]) | omega)) (hup hf11 (fun q => h7 (by rw [q]; simp)) (h8)))))))⟩)
            · have n46 : ¬ 6441 ≤ jj := fun q => c37 ((nI_leI (a := 6441) (b := jj) (by omega) (by omega)).mpr q)
              refine lv_iload_n hx hb dX9_isReplayed_140 rfl (lv_at hl 1 rfl) ?_
              refine lv_aload_n hx hb dX9_isReplayed_141 rfl (lv_at hl 2 rfl) ?_
              refine g_get C0 G h_m1 rfl hiX9 2 (by decide) mf_X9_9 rfl dX9_isReplayed_142 ?_
              refine lv_iload_n hx hb dX9_isReplayed_145 rfl (lv_at hl 0 rfl) ?_
              refine g_iald C0 G h_v1 0 rfl (vp_in_nI (by omega) (by omega)) dX9_isReplayed_146 ?_
              refine lv_topv (v := (rpG gd (X9_begins_g4 g (g 3) (g 1) (g 2)) d) jj) (congrArg (rpG gd (X9_begins_g4 g (g 3) (g 1) (g 2)) d) (nI_c (by omega))) ?_
              refine lv_aload_n hx hb dX9_isReplayed_147 rfl (lv_at hl 2 rfl) ?_
              refine g_get C0 G h_m1 rfl hiX9 4 (by decide) mf_X9_16 rfl dX9_isReplayed_148 ?_
              refine lv_iload_n hx hb dX9_isReplayed_151 rfl (lv_at hl 0 rfl) ?_
              refine g_iald C0 G k34 0 rfl (vp_in_nI (by omega) (by omega)) dX9_isReplayed_152 ?_
              refine lv_topv (v := (X9_copies_g0 6441 g gk) jj) (congrArg (X9_copies_g0 6441 g gk) (nI_c (by omega))) ?_
              refine lv_topv (v := g jj) (cp_at (by omega)) ?_
              have J49 : ∀ (y48 : Int32) (_ : y48 = (X9_isReplayedY_x2 g gd d s jj)) (H : Heap) (locs : List Loc) (ls : Array Slot), hG D (hA f sz) f1 s9 H locs → lv_has ls 3 [(2, .int (nI jj)), (1, .int (smC (rpG gd (X9_begins_g4 g (g 3) (g 1) (g 2)) d) g s jj)), (0, .ref m)] → W p9 l e9 ({ frames := 5, cells := 0, slots := 0, locals := 129 } : Room) s9 m9 ([.ref m] : List Value).toArray b9 t9 c9 H locs 0 0 (vx_MQ b9 (hQi (fun r u => r = (X9_isReplayedY_r3 g gd d s) ∧ u m = some (.inr (11, [.int (X9_hasMatch_x1 0 g 1), .int (X9_hasMatch_x2 c_re g), .ref v, .ref im, .ref kp, .ref pa, .ref de, .ref ide, .int c_un, .int c_hi, .ref tx, .int c_tn, .int c_fa, .int c_rf, .ref pt, .int c_ps, .int c_pl, .int (rpT gd (X9_begins_g4 g (g 3) (g 1) (g 2)) c_to d), .ref so, .ref mo, .ref wh, .ref pf])) ∧ u kp = some (.inl (cy 0, 6441, .inl (X9_isReplayedY_g4 g gk))) ∧ u v = some (.inl (cy 0, 6441, .inl (X9_isReplayedY_g5 g gk gd d))) ∧ u de = some (.inl (cy 0, 24000, .inl gd)) ∧ hFrL f u [m, kp, v, de]) D f sz) (hPx hNo D f sz) ([.ref m] : List Value).toArray s9 0 0 (hA f sz)) (F0 m9 185 ls [.int y48, .int (smC (rpG gd (X9_begins_g4 g (g 3) (g 1) (g 2)) d) g s jj)]) := by
                intro y48 ey48 H locs ls G hl
                replace ey48 := Eq.symm ey48
                subst ey48
                refine lv_iand hx hb dX9_isReplayed_185 ?_
                refine lv_topv (v := (smC (rpG gd (X9_begins_g4 g (g 3) (g 1) (g 2)) d) g s (jj + 1))) (by unfold X9_isReplayedY_x2 X9_isReplayedY_x1 X9_isReplayedY_x0; rfl) ?_
                refine lv_istore_n (lv' := [(1, .int (smC (rpG gd (X9_begins_g4 g (g 3) (g 1) (g 2)) d) g s (jj + 1))), (2, .int (nI jj)), (0, .ref m)]) hx hb dX9_isReplayed_186 rfl hl (by decide) rfl (fun ls hl => ?_)
                refine lv_iinc (v := nI (jj + 1)) (lv' := [(2, .int (nI (jj + 1))), (1, .int (smC (rpG gd (X9_begins_g4 g (g 3) (g 1) (g 2)) d) g s (jj + 1))), (0, .ref m)]) hx hb dX9_isReplayed_187 hl (k := 1) rfl (by exact (nI_add _ _)) (by decide) rfl (fun ls hl => ?_)
                refine lv_goto (tgt := 133) hx hb dX9_isReplayed_190 (by decide) ?_
                exact ihb (jj + 1) f1 _ _ _ (by omega) (by omega)  rfl G (lv_sub hl [0, 1, 2] rfl)
              refine lv_icmp_eq (tgt := 180) hx hb dX9_isReplayed_153 (by decide) (fun c47 => ?_) (fun c47 => ?_)
              · refine lv_iconst (v := 1) hx hb dX9_isReplayed_180 (by decide) ?_
                refine lv_goto (tgt := 185) hx hb dX9_isReplayed_181 (by decide) ?_
                exact J49 1 (by rw [X9_isReplayedY_x2, if_pos c47]) _ _ _ G (lv_sub hl [0, 1, 2] rfl)
              · refine lv_iload_n hx hb dX9_isReplayed_156 rfl (lv_at hl 0 rfl) ?_
                refine lv_bipush (v := 24) hx hb dX9_isReplayed_157 (by decide) ?_
                have J54 : ∀ (y53 : Int32) (_ : y53 = (X9_isReplayedY_x1 s jj)) (H : Heap) (locs : List Loc) (ls : Array Slot), hG D (hA f sz) f1 s9 H locs → lv_has ls 3 [(2, .int (nI jj)), (1, .int (smC (rpG gd (X9_begins_g4 g (g 3) (g 1) (g 2)) d) g s jj)), (0, .ref m)] → W p9 l e9 ({ frames := 5, cells := 0, slots := 0, locals := 129 } : Room) s9 m9 ([.ref m] : List Value).toArray b9 t9 c9 H locs 0 0 (vx_MQ b9 (hQi (fun r u => r = (X9_isReplayedY_r3 g gd d s) ∧ u m = some (.inr (11, [.int (X9_hasMatch_x1 0 g 1), .int (X9_hasMatch_x2 c_re g), .ref v, .ref im, .ref kp, .ref pa, .ref de, .ref ide, .int c_un, .int c_hi, .ref tx, .int c_tn, .int c_fa, .int c_rf, .ref pt, .int c_ps, .int c_pl, .int (rpT gd (X9_begins_g4 g (g 3) (g 1) (g 2)) c_to d), .ref so, .ref mo, .ref wh, .ref pf])) ∧ u kp = some (.inl (cy 0, 6441, .inl (X9_isReplayedY_g4 g gk))) ∧ u v = some (.inl (cy 0, 6441, .inl (X9_isReplayedY_g5 g gk gd d))) ∧ u de = some (.inl (cy 0, 24000, .inl gd)) ∧ hFrL f u [m, kp, v, de]) D f sz) (hPx hNo D f sz) ([.ref m] : List Value).toArray s9 0 0 (hA f sz)) (F0 m9 185 ls [.int y53, .int (smC (rpG gd (X9_begins_g4 g (g 3) (g 1) (g 2)) d) g s jj)]) := by
                  intro y53 ey53 H locs ls G hl
                  replace ey53 := Eq.symm ey53
                  subst ey53
                  exact J49 (X9_isReplayedY_x1 s jj) (by rw [X9_isReplayedY_x2, if_neg c47]) _ _ _ G (lv_sub hl [0, 1, 2] rfl)
                refine lv_icmp_eq (tgt := 180) hx hb dX9_isReplayed_159 (by decide) (fun c52 => ?_) (fun c52 => ?_)
                · have n56 : jj = 24 := (nI_eq (a := jj) (b := 24) (by omega) (by omega)).mp c52
                  refine lv_iconst (v := 1) hx hb dX9_isReplayed_180 (by decide) ?_
                  refine lv_goto (tgt := 185) hx hb dX9_isReplayed_181 (by decide) ?_
                  exact J54 1 (by rw [X9_isReplayedY_x1, if_pos c52]) _ _ _ G (lv_sub hl [0, 1, 2] rfl)
                · have n57 : ¬ jj = 24 := fun q => c52 ((nI_eq (a := jj) (b := 24) (by omega) (by omega)).mpr q)
                  refine lv_iload_n hx hb dX9_isReplayed_162 rfl (lv_at hl 0 rfl) ?_
                  refine lv_sipush (v := 841) hx hb dX9_isReplayed_163 (by decide) ?_
                  refine lv_bipush (v := 8) hx hb dX9_isReplayed_166 (by decide) ?_
                  refine lv_aload_n hx hb dX9_isReplayed_168 rfl (lv_at hl 2 rfl) ?_
                  refine g_get C0 G h_m1 rfl hiX9 4 (by decide) mf_X9_16 rfl dX9_isReplayed_169 ?_
                  refine lv_bipush (v := 22) hx hb dX9_isReplayed_172 (by decide) ?_
                  refine g_iald C0 G k34 0 rfl (by unfold vp_in; decide) dX9_isReplayed_174 ?_
                  refine lv_topv (v := (X9_copies_g0 6441 g gk) 22) rfl ?_
                  refine lv_topv (v := nI s) ((cp_at (by omega)).trans h22) ?_
                  refine lv_imul hx hb dX9_isReplayed_175 ?_
                  refine lv_topv (v := nI (8 * s)) ((pk_mul _ _)) ?_
                  refine lv_iadd hx hb dX9_isReplayed_176 ?_
                  refine lv_topv (v := nI (841 + 8 * s)) ((nI_add _ _)) ?_
                  have J60 : ∀ (y59 : Int32) (_ : y59 = (X9_isReplayedY_x0 s jj)) (H : Heap) (locs : List Loc) (ls : Array Slot), hG D (hA f sz) f1 s9 H locs → lv_has ls 3 [(2, .int (nI jj)), (1, .int (smC (rpG gd (X9_begins_g4 g (g 3) (g 1) (g 2)) d) g s jj)), (0, .ref m)] → W p9 l e9 ({ frames := 5, cells := 0, slots := 0, locals := 129 } : Room) s9 m9 ([.ref m] : List Value).toArray b9 t9 c9 H locs 0 0 (vx_MQ b9 (hQi (fun r u => r = (X9_isReplayedY_r3 g gd d s) ∧ u m = some (.inr (11, [.int (X9_hasMatch_x1 0 g 1), .int (X9_hasMatch_x2 c_re g), .ref v, .ref im, .ref kp, .ref pa, .ref de, .ref ide, .int c_un, .int c_hi, .ref tx, .int c_tn, .int c_fa, .int c_rf, .ref pt, .int c_ps, .int c_pl, .int (rpT gd (X9_begins_g4 g (g 3) (g 1) (g 2)) c_to d), .ref so, .ref mo, .ref wh, .ref pf])) ∧ u kp = some (.inl (cy 0, 6441, .inl (X9_isReplayedY_g4 g gk))) ∧ u v = some (.inl (cy 0, 6441, .inl (X9_isReplayedY_g5 g gk gd d))) ∧ u de = some (.inl (cy 0, 24000, .inl gd)) ∧ hFrL f u [m, kp, v, de]) D f sz) (hPx hNo D f sz) ([.ref m] : List Value).toArray s9 0 0 (hA f sz)) (F0 m9 185 ls [.int y59, .int (smC (rpG gd (X9_begins_g4 g (g 3) (g 1) (g 2)) d) g s jj)]) := by
                    intro y59 ey59 H locs ls G hl
                    replace ey59 := Eq.symm ey59
                    subst ey59
                    exact J54 (X9_isReplayedY_x0 s jj) (by rw [X9_isReplayedY_x1, if_neg c52]) _ _ _ G (lv_sub hl [0, 1, 2] rfl)
                  refine lv_icmp_lt (tgt := 184) hx hb dX9_isReplayed_177 (by decide) (fun c58 => ?_) (fun c58 => ?_)
                  · have n62 : jj < (841 + 8 * s) := (nI_ltI (a := jj) (b := (841 + 8 * s)) (by omega) (by omega)).mp c58
                    refine lv_iconst (v := 0) hx hb dX9_isReplayed_184 (by decide) ?_
                    exact J60 0 (by rw [X9_isReplayedY_x0, if_pos c58]) _ _ _ G (lv_sub hl [0, 1, 2] rfl)
                  · have n63 : ¬ jj < (841 + 8 * s) := fun q => c58 ((nI_ltI (a := jj) (b := (841 + 8 * s)) (by omega) (by omega)).mpr q)
                    refine lv_iconst (v := 1) hx hb dX9_isReplayed_180 (by decide) ?_
                    refine lv_goto (tgt := 185) hx hb dX9_isReplayed_181 (by decide) ?_
                    exact J60 1 (by rw [X9_isReplayedY_x0, if_neg c58]) _ _ _ G (lv_sub hl [0, 1, 2] rfl)
        exact LOOP133 (6441 + 1) 0 f1 _ _ _ (by omega) (by omega)   rfl G (lv_sub hl [0, 1, 2] rfl)
      · have n64 : ¬ d ≤ jj := fun q => c35 ((nI_leI (a := d) (b := jj) (by omega) (by omega)).mpr q)
        refine lv_bipush (v := 6) hx hb dX9_isReplayed_64 (by decide) ?_
        refine lv_iload_n hx hb dX9_isReplayed_66 rfl (lv_at hl 0 rfl) ?_
        refine lv_imul hx hb dX9_isReplayed_67 ?_
        refine lv_topv (v := nI (6 * jj)) ((pk_mul _ _)) ?_
        refine lv_istore_n (lv' := [(2, .int (nI (6 * jj))), (1, .int (nI jj)), (0, .ref m)]) hx hb dX9_isReplayed_68 rfl hl (by decide) rfl (fun ls hl => ?_)
        refine lv_aload_n hx hb dX9_isReplayed_69 rfl (lv_at hl 2 rfl) ?_
        refine lv_aload_n hx hb dX9_isReplayed_70 rfl (lv_at hl 2 rfl) ?_
        refine lv_aload_n hx hb dX9_isReplayed_71 rfl (lv_at hl 2 rfl) ?_
        refine g_get C0 G h_m1 rfl hiX9 6 (by decide) mf_X9_23 rfl dX9_isReplayed_72 ?_
        refine lv_iload_n hx hb dX9_isReplayed_75 rfl (lv_at hl 0 rfl) ?_
        refine g_iald C0 G h_de1 0 rfl (vp_in_nI (by omega) (by omega)) dX9_isReplayed_76 ?_
        refine lv_topv (v := gd (6 * jj)) (congrArg gd (nI_c (by omega))) ?_
        refine lv_aload_n hx hb dX9_isReplayed_77 rfl (lv_at hl 2 rfl) ?_
        refine g_get C0 G h_m1 rfl hiX9 6 (by decide) mf_X9_23 rfl dX9_isReplayed_78 ?_
        refine lv_iload_n hx hb dX9_isReplayed_81 rfl (lv_at hl 0 rfl) ?_
        refine lv_iconst (v := 1) hx hb dX9_isReplayed_82 (by decide) ?_
        refine lv_iadd hx hb dX9_isReplayed_83 ?_
        refine lv_topv (v := nI (6 * jj + 1)) ((nI_add _ _)) ?_
        refine g_iald C0 G h_de1 0 rfl (vp_in_nI (by omega) (by omega)) dX9_isReplayed_84 ?_
        refine lv_topv (v := gd (6 * jj + 1)) (congrArg gd (nI_c (by omega))) ?_
        refine lv_aload_n hx hb dX9_isReplayed_85 rfl (lv_at hl 2 rfl) ?_
        refine g_get C0 G h_m1 rfl hiX9 6 (by decide) mf_X9_23 rfl dX9_isReplayed_86 ?_
        refine lv_iload_n hx hb dX9_isReplayed_89 rfl (lv_at hl 0 rfl) ?_
        refine lv_iconst (v := 2) hx hb dX9_isReplayed_90 (by decide) ?_
        refine lv_iadd hx hb dX9_isReplayed_91 ?_
        refine lv_topv (v := nI (6 * jj + 2)) ((nI_add _ _)) ?_
        refine g_iald C0 G h_de1 0 rfl (vp_in_nI (by omega) (by omega)) dX9_isReplayed_92 ?_
        refine lv_topv (v := gd (6 * jj + 2)) (congrArg gd (nI_c (by omega))) ?_
        refine lv_aload_n hx hb dX9_isReplayed_93 rfl (lv_at hl 2 rfl) ?_
        refine g_get C0 G h_m1 rfl hiX9 6 (by decide) mf_X9_23 rfl dX9_isReplayed_94 ?_
        refine lv_iload_n hx hb dX9_isReplayed_97 rfl (lv_at hl 0 rfl) ?_
        refine lv_iconst (v := 3) hx hb dX9_isReplayed_98 (by decide) ?_
        refine lv_iadd hx hb dX9_isReplayed_99 ?_
        refine lv_topv (v := nI (6 * jj + 3)) ((nI_add _ _)) ?_
        refine g_iald C0 G h_de1 0 rfl (vp_in_nI (by omega) (by omega)) dX9_isReplayed_100 ?_
        refine lv_topv (v := gd (6 * jj + 3)) (congrArg gd (nI_c (by omega))) ?_
        refine lv_aload_n hx hb dX9_isReplayed_101 rfl (lv_at hl 2 rfl) ?_
        refine g_get C0 G h_m1 rfl hiX9 6 (by decide) mf_X9_23 rfl dX9_isReplayed_102 ?_
        refine lv_iload_n hx hb dX9_isReplayed_105 rfl (lv_at hl 0 rfl) ?_
        refine lv_iconst (v := 4) hx hb dX9_isReplayed_106 (by decide) ?_
        refine lv_iadd hx hb dX9_isReplayed_107 ?_
        refine lv_topv (v := nI (6 * jj + 4)) ((nI_add _ _)) ?_
        refine g_iald C0 G h_de1 0 rfl (vp_in_nI (by omega) (by omega)) dX9_isReplayed_108 ?_
        refine lv_topv (v := gd (6 * jj + 4)) (congrArg gd (nI_c (by omega))) ?_
        refine lv_aload_n hx hb dX9_isReplayed_109 rfl (lv_at hl 2 rfl) ?_
        refine g_get C0 G h_m1 rfl hiX9 6 (by decide) mf_X9_23 rfl dX9_isReplayed_110 ?_
        refine lv_iload_n hx hb dX9_isReplayed_113 rfl (lv_at hl 0 rfl) ?_
        refine lv_iconst (v := 5) hx hb dX9_isReplayed_114 (by decide) ?_
        refine lv_iadd hx hb dX9_isReplayed_115 ?_
        refine lv_topv (v := nI (6 * jj + 5)) ((nI_add _ _)) ?_
        refine g_iald C0 G h_de1 0 rfl (vp_in_nI (by omega) (by omega)) dX9_isReplayed_116 ?_
        refine lv_topv (v := gd (6 * jj + 5)) (congrArg gd (nI_c (by omega))) ?_
        refine g_cI C0 G (g_runV C0 G (rest := [.ref m]) (k_X9_doesU hfl (gd (6 * jj)) (gd (6 * jj + 1)) (gd (6 * jj + 2)) (gd (6 * jj + 3)) (gd (6 * jj + 4)) (gd (6 * jj + 5)) h_m1 h_v1 h_de1 (hrp jj (by omega)).1) h_m1 rfl hY_X9_does mm_X9_176 mi_X9_does ml_X9_does ⟨(Nat.le_of_ble_eq_true rfl), (Nat.le_of_ble_eq_true rfl)⟩ rfl hl.1 rfl (Nat.le_of_ble_eq_true rfl) dX9_isReplayed_117 ⟨(Nat.le_of_ble_eq_true rfl), (Nat.le_of_ble_eq_true rfl)⟩) (kx_no rfl) (fun r67 u66 H locs hp65 G => ?_)
        obtain ⟨zr, k68, k69, fr70⟩ := hp65
        replace zr := Eq.symm zr
        subst zr
        have k71 : u66 m = some (.inr (11, [.int (X9_hasMatch_x1 0 g 1), .int (X9_hasMatch_x2 c_re g), .ref v, .ref im, .ref kp, .ref pa, .ref de, .ref ide, .int c_un, .int c_hi, .ref tx, .int c_tn, .int c_fa, .int c_rf, .ref pt, .int c_ps, .int c_pl, .int (rpT gd (X9_begins_g4 g (g 3) (g 1) (g 2)) c_to jj), .ref so, .ref mo, .ref wh, .ref pf])) := fr70 _ _ (by simp only [List.mem_cons, List.not_mem_nil, or_false]; intro q; rcases q with q | q; exact (hne h_m1 h_de1 (by intro q; cases q)) q; exact (hne h_m1 h_v1 (by intro q; cases q)) q) h_m1
        refine g_put C0 G k71 rfl hiX9 tyX9 tyX9_ok nmX9 17 (by decide) mf_X9_218 rfl rfl rfl rfl (Nat.le_of_ble_eq_true rfl) dX9_isReplayed_120 (fun H locs f72 hf72 G => ?_)
        have k73 : f72 m = some (.inr (11, [.int (X9_hasMatch_x1 0 g 1), .int (X9_hasMatch_x2 c_re g), .ref v, .ref im, .ref kp, .ref pa, .ref de, .ref ide, .int c_un, .int c_hi, .ref tx, .int c_tn, .int c_fa, .int c_rf, .ref pt, .int c_ps, .int c_pl, .int (doesR (gd (6 * jj)) (gd (6 * jj + 1)) (gd (6 * jj + 2)) (gd (6 * jj + 3)) (gd (6 * jj + 4)) (gd (6 * jj + 5)) (rpG gd (X9_begins_g4 g (g 3) (g 1) (g 2)) jj)), .ref so, .ref mo, .ref wh, .ref pf])) := hus hf72
        refine lv_iinc (v := nI (jj + 1)) (lv' := [(1, .int (nI (jj + 1))), (2, .int (nI (6 * jj))), (0, .ref m)]) hx hb dX9_isReplayed_123 hl (k := 1) rfl (by exact (nI_add _ _)) (by decide) rfl (fun ls hl => ?_)
        refine lv_goto (tgt := 53) hx hb dX9_isReplayed_126 (by decide) ?_
        have k75 : f72 v = some (.inl (cy 0, 6441, .inl (doesG (gd (6 * jj)) (gd (6 * jj + 1)) (gd (6 * jj + 2)) (gd (6 * jj + 3)) (gd (6 * jj + 4)) (gd (6 * jj + 5)) (rpG gd (X9_begins_g4 g (g 3) (g 1) (g 2)) jj)))) := hup hf72 (hne k69 k71 (by intro q; cases q)) k69
        have k76 : f72 de = some (.inl (cy 0, 24000, .inl (doesD (gd (6 * jj)) (gd (6 * jj + 1)) (gd (6 * jj + 2)) (gd (6 * jj + 3)) (gd (6 * jj + 4)) (gd (6 * jj + 5)) gd (dD (rpG gd (X9_begins_g4 g (g 3) (g 1) (g 2)) jj))))) := hup hf72 (hne k68 k71 (by intro q; cases q)) k68
        exact ih (jj + 1) f72 _ _ _ (by omega) (by omega) (by have h9 := k75; exact h9) (by have h9 := k76; rw [(hrp jj (by omega)).2, doesD_same] at h9; exact h9) (by have h9 := k73; exact h9) (fun a9 e9 h7 h8 => hup hf72 (fun q => h7 (by rw [q]; simp)) (fr70 _ _ (fun q => h7 (by simp only [List.mem_cons, List.not_mem_nil, or_false] at q ⊢; first | exact q | (rcases q with q | q <;> simp [q]) | omega)) (hfr _ _ (fun q => h7 (by simp only [List.mem_cons, List.not_mem_nil, or_false] at q ⊢; first | exact q | (rcases q with q | q | q <;> simp [q]) | omega)) (h8)))) G (lv_sub hl [0, 2] rfl)
  exact LOOP53 (d + 1) 0 u29 _ _ _ (by omega) (by omega)  (by exact k30) k33 (by exact k32) (fun a9 e9 h7 h8 => h8) G (lv_sub hl [0, 1] rfl)
theorem b_k_X9_isReplayedY (g : Nat → Int32) (gd : Nat → Int32) (d : Nat) (s : Nat) : (X9_isReplayedY_r3 g gd d s) = 0 ∨ (X9_isReplayedY_r3 g gd d s) = 1 := (by unfold X9_isReplayedY_r3; exact (smC_b _ _ _ _))
