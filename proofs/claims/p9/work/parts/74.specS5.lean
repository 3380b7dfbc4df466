theorem isIn_k {x : Int32} (n : Nat) (h : ¬ X9_isIn_x1 x 0 (nI n) = 0) (hn : n < 1000000) : ∃ k, k ≤ n ∧ x = nI k := by
  unfold X9_isIn_x1 at h
  split at h
  · exact absurd rfl h
  · rename_i h1
    unfold X9_isIn_x0 at h
    split at h
    · exact absurd rfl h
    · rename_i h2
      obtain ⟨j, hj, hx, -⟩ := pk_mu (x := x) (L := n + 1) h1 (fun q => h2 (by
        have e1 : (nI (n + 1)).toInt = n + 1 := nI_toInt (by omega)
        have e2 : (nI n).toInt = n := nI_toInt (by omega)
        rw [Int32.le_iff_toInt_le] at q
        rw [Int32.lt_iff_toInt_lt]
        omega)) (by omega)
      exact ⟨j, by omega, hx⟩
theorem isI_k {g : Nat → Int32} {x : Int32} {i : Nat} (h4 : g 4 = nI i) (hi : i < 4) (h : ¬ X9_isInnings_x1 g x = 0) : ∃ k, k ≤ i ∧ x = nI k := by
  unfold X9_isInnings_x1 at h
  split at h
  · unfold X9_isInnings_x0 at h
    split at h
    · exact absurd rfl h
    · rename_i h2
      rw [h4] at h2
      exact isIn_k i h2 (by omega)
  · exact absurd rfl h
theorem vp0 : vp_in 0 6441 := by unfold vp_in; decide
theorem pl_at {g : Nat → Int32} {x w : Int32} {i : Nat} (n : Nat) (hn : n < 11) (h4 : g 4 = nI i) (hi : i < 4) (h : ¬ X9_isInnings_x1 g x = 0) (hw : ¬ X9_isIn_x1 w 0 (nI n) = 0) : vp_in (X9_at_r0 x w) 6441 := by
  obtain ⟨k, hk, rfl⟩ := isI_k h4 hi h
  obtain ⟨j, hj, rfl⟩ := isIn_k n hw (by omega)
  rw [at_n]
  exact vp_in_nI (by omega) (by omega)
theorem pl_at1 {g : Nat → Int32} {x : Int32} {i : Nat} (n : Nat) (hn : n < 30) (h4 : g 4 = nI i) (hi : i < 4) (h : ¬ X9_isInnings_x1 g x = 0) : vp_in (X9_at_r0 x (nI n)) 6441 := by
  obtain ⟨k, hk, rfl⟩ := isI_k h4 hi h
  rw [at_n]
  exact vp_in_nI (by omega) (by omega)
theorem pl_bat {g : Nat → Int32} {x q w : Int32} {i : Nat} (n : Nat) (hn : n < 6) (h4 : g 4 = nI i) (hi : i < 4) (h : ¬ X9_isInnings_x1 g x = 0) (hq : ¬ X9_isIn_x1 q 0 10 = 0) (hw : ¬ X9_isIn_x1 w 0 (nI n) = 0) : vp_in (X9_batterAt_r0 x q w) 6441 := by
  obtain ⟨k, hk, rfl⟩ := isI_k h4 hi h
  obtain ⟨u, hu, rfl⟩ := isIn_k 10 hq (by omega)
  obtain ⟨j, hj, rfl⟩ := isIn_k n hw (by omega)
  rw [bat_n]
  exact vp_in_nI (by omega) (by omega)
theorem pl_bat1 {g : Nat → Int32} {x q : Int32} {i : Nat} (n : Nat) (hn : n < 6) (h4 : g 4 = nI i) (hi : i < 4) (h : ¬ X9_isInnings_x1 g x = 0) (hq : ¬ X9_isIn_x1 q 0 10 = 0) : vp_in (X9_batterAt_r0 x q (nI n)) 6441 := by
  obtain ⟨k, hk, rfl⟩ := isI_k h4 hi h
  obtain ⟨u, hu, rfl⟩ := isIn_k 10 hq (by omega)
  rw [bat_n]
  exact vp_in_nI (by omega) (by omega)
theorem pl_bow {g : Nat → Int32} {x q w : Int32} {i : Nat} (n : Nat) (hn : n < 7) (h4 : g 4 = nI i) (hi : i < 4) (h : ¬ X9_isInnings_x1 g x = 0) (hq : ¬ X9_isIn_x1 q 0 10 = 0) (hw : ¬ X9_isIn_x1 w 0 (nI n) = 0) : vp_in (X9_bowlerAt_r0 x q w) 6441 := by
  obtain ⟨k, hk, rfl⟩ := isI_k h4 hi h
  obtain ⟨u, hu, rfl⟩ := isIn_k 10 hq (by omega)
  obtain ⟨j, hj, rfl⟩ := isIn_k n hw (by omega)
  rw [bow_n]
  exact vp_in_nI (by omega) (by omega)
def X9_asks_n0 (what : Int32) (most : Int32) : Nat := if (X9_isIn_x1 what 0 most) = 0 then 2 else 0
def X9_asks_n1 (isT : Int32) (what : Int32) (most : Int32) : Nat := if isT = 0 then 1 else (X9_asks_n0 what most)
def X9_asks_x2 (g : Nat → Int32) (isT : Int32) (what : Int32) (most : Int32) (pl9 : Int32) : Int32 := if (nI (X9_asks_n1 isT what most)) = 0 then (g (pl9).toNatClampNeg) else 0
set_option maxRecDepth 100000 in
theorem k_X9_asks {l : Launch} (hfl : l.stackTraces = false) {D : va_G} {cy : Nat → ClassId} {f : Hf} {sz : Nat} {m : Nat} {v : Nat} {im : Nat} {kp : Nat} {pa : Nat} {de : Nat} {ide : Nat} {tx : Nat} {pt : Nat} {so : Nat} {mo : Nat} {wh : Nat} {pf : Nat} {c_th : Int32} {c_re : Int32} {c_un : Int32} {c_hi : Int32} {c_tn : Int32} {c_fa : Int32} {c_rf : Int32} {c_ps : Int32} {c_pl : Int32} {c_to : Int32} {g : Nat → Int32} (isT : Int32) (what : Int32) (most : Int32) (pl9 : Int32) (h_m : f m = some (.inr (11, [.int c_th, .int c_re, .ref v, .ref im, .ref kp, .ref pa, .ref de, .ref ide, .int c_un, .int c_hi, .ref tx, .int c_tn, .int c_fa, .int c_rf, .ref pt, .int c_ps, .int c_pl, .int c_to, .ref so, .ref mo, .ref wh, .ref pf]))) (h_v : f v = some (.inl (cy 0, 6441, .inl g))) (hplc : vp_in pl9 6441) (hb_isT : isT = 0 ∨ isT = 1) : hMet l yX9_asks cX9_asks 5 (some .int) { frames := 1, cells := 0, slots := 0, locals := 22 } D (hTy cy) f sz [.ref m, .int isT, .int what, .int most, .int pl9] (hQi (fun r u => r = (X9_asks_x2 g isT what most pl9) ∧ u m = some (.inr (11, [.int (nI (X9_asks_n1 isT what most)), .int c_re, .ref v, .ref im, .ref kp, .ref pa, .ref de, .ref ide, .int c_un, .int c_hi, .ref tx, .int c_tn, .int c_fa, .int c_rf, .ref pt, .int c_ps, .int c_pl, .int c_to, .ref so, .ref mo, .ref wh, .ref pf])) ∧ hFrL f u [m]) D f sz) hNo := by
  refine h_enter (by decide) hfl (Nat.le_of_ble_eq_true rfl) ?_
  intro p9 e9 s9 m9 b9 t9 c9 hsz C0 hr hnm G ls hl
  have hx := C0.1.1
  have hb := C0.1.2.1
  have hl : lv_has ls 5 [(0, .ref m), (1, .int isT), (2, .int what), (3, .int most), (4, .int pl9)] := hl
  refine lv_aload_n hx hb dX9_asks_0 rfl (lv_at hl 0 rfl) ?_
  refine lv_iload_n hx hb dX9_asks_1 rfl (lv_at hl 1 rfl) ?_
  have J13 : ∀ (y12 : Int32) (_ : y12 = nI (X9_asks_n1 isT what most)) (H : Heap) (locs : List Loc) (ls : Array Slot), hG D (hA f sz) f s9 H locs → lv_has ls 5 [(0, .ref m), (1, .int isT), (2, .int what), (3, .int most), (4, .int pl9)] → W p9 l e9 ({ frames := 1, cells := 0, slots := 0, locals := 22 } : Room) s9 m9 ([.ref m, .int isT, .int what, .int most, .int pl9] : List Value).toArray b9 t9 c9 H locs 0 0 (vx_MQ b9 (hQi (fun r u => r = (X9_asks_x2 g isT what most pl9) ∧ u m = some (.inr (11, [.int (nI (X9_asks_n1 isT what most)), .int c_re, .ref v, .ref im, .ref kp, .ref pa, .ref de, .ref ide, .int c_un, .int c_hi, .ref tx, .int c_tn, .int c_fa, .int c_rf, .ref pt, .int c_ps, .int c_pl, .int c_to, .ref so, .ref mo, .ref wh, .ref pf])) ∧ hFrL f u [m]) D f sz) (hPx hNo D f sz) ([.ref m, .int isT, .int what, .int most, .int pl9] : List Value).toArray s9 0 0 (hA f sz)) (F0 m9 23 ls [.int y12, .ref m]) := by
    intro y12 ey12 H locs ls G hl
    replace ey12 := Eq.symm ey12
    subst ey12
    have bd15 : (X9_asks_n1 isT what most) ≤ 2 := by unfold X9_asks_n1 X9_asks_n0; repeat (first | omega | split)
    refine g_put C0 G h_m rfl hiX9 tyX9 tyX9_ok nmX9 0 (by decide) mf_X9_55 rfl rfl rfl rfl (Nat.le_of_ble_eq_true rfl) dX9_asks_23 (fun H locs f16 hf16 G => ?_)
    have k17 : f16 m = some (.inr (11, [.int (nI (X9_asks_n1 isT what most)), .int c_re, .ref v, .ref im, .ref kp, .ref pa, .ref de, .ref ide, .int c_un, .int c_hi, .ref tx, .int c_tn, .int c_fa, .int c_rf, .ref pt, .int c_ps, .int c_pl, .int c_to, .ref so, .ref mo, .ref wh, .ref pf])) := hus hf16
    refine lv_aload_n hx hb dX9_asks_26 rfl (lv_at hl 0 rfl) ?_
    refine g_get C0 G k17 rfl hiX9 0 (by decide) mf_X9_55 rfl dX9_asks_27 ?_
    have J20 : ∀ (y19 : Int32) (_ : y19 = (X9_asks_x2 g isT what most pl9)) (H : Heap) (locs : List Loc) (ls : Array Slot), hG D (hA f sz) f16 s9 H locs → lv_has ls 5 [(0, .ref m), (1, .int isT), (2, .int what), (3, .int most), (4, .int pl9)] → W p9 l e9 ({ frames := 1, cells := 0, slots := 0, locals := 22 } : Room) s9 m9 ([.ref m, .int isT, .int what, .int most, .int pl9] : List Value).toArray b9 t9 c9 H locs 0 0 (vx_MQ b9 (hQi (fun r u => r = (X9_asks_x2 g isT what most pl9) ∧ u m = some (.inr (11, [.int (nI (X9_asks_n1 isT what most)), .int c_re, .ref v, .ref im, .ref kp, .ref pa, .ref de, .ref ide, .int c_un, .int c_hi, .ref tx, .int c_tn, .int c_fa, .int c_rf, .ref pt, .int c_ps, .int c_pl, .int c_to, .ref so, .ref mo, .ref wh, .ref pf])) ∧ hFrL f u [m]) D f sz) (hPx hNo D f sz) ([.ref m, .int isT, .int what, .int most, .int pl9] : List Value).toArray s9 0 0 (hA f sz)) (F0 m9 44 ls [.int y19]) := by
      intro y19 ey19 H locs ls G hl
      replace ey19 := Eq.symm ey19
      subst ey19
      exact g_iret C0 G hr dX9_asks_44 (Nat.le_of_ble_eq_true rfl) (Nat.le_of_ble_eq_true rfl) (by exact ⟨rfl, k17, (fun a9 e9 h7 h8 => hup hf16 (fun q => h7 (by rw [q]; simp)) (h8))⟩)
    refine lv_if_ne (tgt := 43) hx hb dX9_asks_30 (by decide) (fun c18 => ?_) (fun c18 => ?_)
    · have n22 : ¬ (X9_asks_n1 isT what most) = 0 := fun q => c18 ((nI_eq (a := (X9_asks_n1 isT what most)) (b := 0) (by omega) (by omega)).mpr q)
      refine lv_iconst (v := 0) hx hb dX9_asks_43 (by decide) ?_
      exact J20 0 (by rw [X9_asks_x2, if_neg c18]) _ _ _ G (lv_sub hl [0, 1, 2, 3, 4] rfl)
    · have n23 : (X9_asks_n1 isT what most) = 0 := (nI_eq (a := (X9_asks_n1 isT what most)) (b := 0) (by omega) (by omega)).mp c18
      refine lv_aload_n hx hb dX9_asks_33 rfl (lv_at hl 0 rfl) ?_
      refine g_get C0 G k17 rfl hiX9 2 (by decide) mf_X9_9 rfl dX9_asks_34 ?_
      refine lv_iload hx hb dX9_asks_37 (lv_at hl 4 rfl) ?_
      have k24 : f16 v = some (.inl (cy 0, 6441, .inl g)) := hup hf16 (hne h_v h_m (by intro q; cases q)) h_v
      refine g_iald C0 G k24 0 rfl hplc dX9_asks_39 ?_
      refine lv_goto (tgt := 44) hx hb dX9_asks_40 (by decide) ?_
      exact J20 (g (pl9).toNatClampNeg) (by rw [X9_asks_x2, if_pos c18]) _ _ _ G (lv_sub hl [0, 1, 2, 3, 4] rfl)
  refine lv_if_ne (tgt := 9) hx hb dX9_asks_2 (by decide) (fun c11 => ?_) (fun c11 => ?_)
  · refine lv_iload_n hx hb dX9_asks_9 rfl (lv_at hl 2 rfl) ?_
    refine lv_iconst (v := 0) hx hb dX9_asks_10 (by decide) ?_
    refine lv_iload_n hx hb dX9_asks_11 rfl (lv_at hl 3 rfl) ?_
    refine g_cI C0 G (g_runS C0 G (rest := [.ref m]) (k_X9_isIn hfl what 0 most ) hY_X9_isIn mm_X9_76 ms_X9_isIn ⟨(Nat.le_of_ble_eq_true rfl), (Nat.le_of_ble_eq_true rfl)⟩ rfl hl.1 rfl (Nat.le_of_ble_eq_true rfl) dX9_asks_12 ⟨(Nat.le_of_ble_eq_true rfl), (Nat.le_of_ble_eq_true rfl)⟩) (kx_no rfl) (fun r27 u26 H locs hp25 G => ?_)
    obtain ⟨zr, eu26⟩ := hp25
    replace zr := Eq.symm zr
    subst zr
    rw [eu26] at G
    have J30 : ∀ (y29 : Int32) (_ : y29 = nI (X9_asks_n0 what most)) (H : Heap) (locs : List Loc) (ls : Array Slot), hG D (hA f sz) f s9 H locs → lv_has ls 5 [(0, .ref m), (1, .int isT), (2, .int what), (3, .int most), (4, .int pl9)] → W p9 l e9 ({ frames := 1, cells := 0, slots := 0, locals := 22 } : Room) s9 m9 ([.ref m, .int isT, .int what, .int most, .int pl9] : List Value).toArray b9 t9 c9 H locs 0 0 (vx_MQ b9 (hQi (fun r u => r = (X9_asks_x2 g isT what most pl9) ∧ u m = some (.inr (11, [.int (nI (X9_asks_n1 isT what most)), .int c_re, .ref v, .ref im, .ref kp, .ref pa, .ref de, .ref ide, .int c_un, .int c_hi, .ref tx, .int c_tn, .int c_fa, .int c_rf, .ref pt, .int c_ps, .int c_pl, .int c_to, .ref so, .ref mo, .ref wh, .ref pf])) ∧ hFrL f u [m]) D f sz) (hPx hNo D f sz) ([.ref m, .int isT, .int what, .int most, .int pl9] : List Value).toArray s9 0 0 (hA f sz)) (F0 m9 23 ls [.int y29, .ref m]) := by
      intro y29 ey29 H locs ls G hl
      replace ey29 := Eq.symm ey29
      subst ey29
      have bd32 : (X9_asks_n0 what most) ≤ 2 := by unfold X9_asks_n0; repeat (first | omega | split)
      exact J13 (nI (X9_asks_n0 what most)) (by rw [X9_asks_n1, if_neg c11] <;> rfl) _ _ _ G (lv_sub hl [0, 1, 2, 3, 4] rfl)
    refine lv_if_ne (tgt := 22) hx hb dX9_asks_15 (by decide) (fun c28 => ?_) (fun c28 => ?_)
    · refine lv_iconst (v := 0) hx hb dX9_asks_22 (by decide) ?_
      exact J30 0 (by rw [X9_asks_n0, if_neg c28] <;> rfl) _ _ _ G (lv_sub hl [0, 1, 2, 3, 4] rfl)
    · refine lv_iconst (v := 2) hx hb dX9_asks_18 (by decide) ?_
      refine lv_goto (tgt := 23) hx hb dX9_asks_19 (by decide) ?_
      exact J30 2 (by rw [X9_asks_n0, if_pos c28] <;> rfl) _ _ _ G (lv_sub hl [0, 1, 2, 3, 4] rfl)
  · refine lv_iconst (v := 1) hx hb dX9_asks_5 (by decide) ?_
    refine lv_goto (tgt := 23) hx hb dX9_asks_6 (by decide) ?_
    exact J13 1 (by rw [X9_asks_n1, if_pos c11] <;> rfl) _ _ _ G (lv_sub hl [0, 1, 2, 3, 4] rfl)
def X9_innings_x0 (i9 : Int32) (what : Int32) : Int32 := if (X9_isIn_x1 what 0 7) = 0 then 0 else (X9_at_r0 i9 what)
def X9_innings_x1 (g : Nat → Int32) (i9 : Int32) (what : Int32) : Int32 := if (X9_isInnings_x1 g i9) = 0 then 0 else (X9_innings_x0 i9 what)
def X9_innings_r2 (g : Nat → Int32) (i9 : Int32) (what : Int32) : Int32 := (X9_asks_x2 g (X9_isInnings_x1 g i9) what 7 (X9_innings_x1 g i9 what))
set_option maxRecDepth 100000 in
theorem k_X9_innings {l : Launch} (hfl : l.stackTraces = false) {D : va_G} {cy : Nat → ClassId} {f : Hf} {sz : Nat} {m : Nat} {v : Nat} {im : Nat} {kp : Nat} {pa : Nat} {de : Nat} {ide : Nat} {tx : Nat} {pt : Nat} {so : Nat} {mo : Nat} {wh : Nat} {pf : Nat} {c_th : Int32} {c_re : Int32} {c_un : Int32} {c_hi : Int32} {c_tn : Int32} {c_fa : Int32} {c_rf : Int32} {c_ps : Int32} {c_pl : Int32} {c_to : Int32} {g : Nat → Int32} (i9 : Int32) (what : Int32) {i : Nat} (h_m : f m = some (.inr (11, [.int c_th, .int c_re, .ref v, .ref im, .ref kp, .ref pa, .ref de, .ref ide, .int c_un, .int c_hi, .ref tx, .int c_tn, .int c_fa, .int c_rf, .ref pt, .int c_ps, .int c_pl, .int c_to, .ref so, .ref mo, .ref wh, .ref pf]))) (h_v : f v = some (.inl (cy 0, 6441, .inl g))) (h4 : g 4 = nI i) (hi : i < 4) : hMet l yX9_innings cX9_innings 4 (some .int) { frames := 2, cells := 0, slots := 0, locals := 46 } D (hTy cy) f sz [.ref m, .int i9, .int what] (hQi (fun r u => r = (X9_innings_r2 g i9 what) ∧ u m = some (.inr (11, [.int (nI (X9_asks_n1 (X9_isInnings_x1 g i9) what 7)), .int c_re, .ref v, .ref im, .ref kp, .ref pa, .ref de, .ref ide, .int c_un, .int c_hi, .ref tx, .int c_tn, .int c_fa, .int c_rf, .ref pt, .int c_ps, .int c_pl, .int c_to, .ref so, .ref mo, .ref wh, .ref pf])) ∧ hFrL f u [m]) D f sz) hNo := by
  refine h_enter (by decide) hfl (Nat.le_of_ble_eq_true rfl) ?_
  intro p9 e9 s9 m9 b9 t9 c9 hsz C0 hr hnm G ls hl
  have hx := C0.1.1
  have hb := C0.1.2.1
  have hl : lv_has ls 4 [(0, .ref m), (1, .int i9), (2, .int what)] := hl
  refine lv_aload_n hx hb dX9_innings_0 rfl (lv_at hl 0 rfl) ?_
  refine lv_iload_n hx hb dX9_innings_1 rfl (lv_at hl 1 rfl) ?_
  refine g_cI C0 G (g_runV C0 G (rest := []) (k_X9_isInnings hfl i9 h_m h_v) h_m rfl hY_X9_isInnings mm_X9_227 mi_X9_isInnings ml_X9_isInnings ⟨(Nat.le_of_ble_eq_true rfl), (Nat.le_of_ble_eq_true rfl)⟩ rfl hl.1 rfl (Nat.le_of_ble_eq_true rfl) dX9_innings_2 ⟨(Nat.le_of_ble_eq_true rfl), (Nat.le_of_ble_eq_true rfl)⟩) (kx_no rfl) (fun r13 u12 H locs hp11 G => ?_)
  obtain ⟨zr, eu12⟩ := hp11
  replace zr := Eq.symm zr
  subst zr
  rw [eu12] at G
  refine lv_istore_n (lv' := [(3, .int (X9_isInnings_x1 g i9)), (0, .ref m), (1, .int i9), (2, .int what)]) hx hb dX9_innings_5 rfl hl (by decide) rfl (fun ls hl => ?_)
  refine lv_aload_n hx hb dX9_innings_6 rfl (lv_at hl 1 rfl) ?_
  refine lv_iload_n hx hb dX9_innings_7 rfl (lv_at hl 0 rfl) ?_
  refine lv_iload_n hx hb dX9_innings_8 rfl (lv_at hl 3 rfl) ?_
  refine lv_bipush (v := 7) hx hb dX9_innings_9 (by decide) ?_
  refine lv_iload_n hx hb dX9_innings_11 rfl (lv_at hl 0 rfl) ?_
  have J16 : ∀ (y15 : Int32) (_ : y15 = (X9_innings_x1 g i9 what)) (H : Heap) (locs : List Loc) (ls : Array Slot), hG D (hA f sz) f s9 H locs → lv_has ls 4 [(3, .int (X9_isInnings_x1 g i9)), (0, .ref m), (1, .int i9), (2, .int what)] → W p9 l e9 ({ frames := 2, cells := 0, slots := 0, locals := 46 } : Room) s9 m9 ([.ref m, .int i9, .int what] : List Value).toArray b9 t9 c9 H locs 0 0 (vx_MQ b9 (hQi (fun r u => r = (X9_innings_r2 g i9 what) ∧ u m = some (.inr (11, [.int (nI (X9_asks_n1 (X9_isInnings_x1 g i9) what 7)), .int c_re, .ref v, .ref im, .ref kp, .ref pa, .ref de, .ref ide, .int c_un, .int c_hi, .ref tx, .int c_tn, .int c_fa, .int c_rf, .ref pt, .int c_ps, .int c_pl, .int c_to, .ref so, .ref mo, .ref wh, .ref pf])) ∧ hFrL f u [m]) D f sz) (hPx hNo D f sz) ([.ref m, .int i9, .int what] : List Value).toArray s9 0 0 (hA f sz)) (F0 m9 34 ls [.int y15, .int 7, .int what, .int (X9_isInnings_x1 g i9), .ref m]) := by
    intro y15 ey15 H locs ls G hl
    replace ey15 := Eq.symm ey15
    subst ey15
    refine g_cI C0 G (g_runV C0 G (rest := []) (k_X9_asks hfl (X9_isInnings_x1 g i9) what 7 (X9_innings_x1 g i9 what) h_m h_v (by by_cases q0 : X9_isInnings_x1 g i9 = 0 <;> by_cases q1 : X9_isIn_x1 what 0 7 = 0 <;> simp only [X9_innings_x0, X9_innings_x1, X9_innings_r2, q0, q1, if_true, if_false, ↓reduceIte, ite_self] <;> first | exact vp0 | exact pl_at 7 (by omega) h4 hi q0 q1) (b_k_X9_isInnings g i9)) h_m rfl hY_X9_asks mm_X9_230 mi_X9_asks ml_X9_asks ⟨(Nat.le_of_ble_eq_true rfl), (Nat.le_of_ble_eq_true rfl)⟩ rfl hl.1 rfl (Nat.le_of_ble_eq_true rfl) dX9_innings_34 ⟨(Nat.le_of_ble_eq_true rfl), (Nat.le_of_ble_eq_true rfl)⟩) (kx_no rfl) (fun r20 u19 H locs hp18 G => ?_)
    obtain ⟨zr, k21, fr22⟩ := hp18
    replace zr := Eq.symm zr
    subst zr
    exact g_iret C0 G hr dX9_innings_37 (Nat.le_of_ble_eq_true rfl) (Nat.le_of_ble_eq_true rfl) (by exact ⟨(by rw [X9_innings_r2]), k21, (fun a9 e9 h7 h8 => fr22 _ _ (fun q => h7 (by simp only [List.mem_cons, List.not_mem_nil, or_false] at q ⊢; first | exact q | (rcases q with q <;> simp [q]) | omega)) (h8))⟩)
  refine lv_if_eq (tgt := 33) hx hb dX9_innings_12 (by decide) (fun c14 => ?_) (fun c14 => ?_)
  · refine lv_iconst (v := 0) hx hb dX9_innings_33 (by decide) ?_
    exact J16 0 (by rw [X9_innings_x1, if_pos c14]) _ _ _ G (lv_sub hl [0, 1, 2, 3] rfl)
  · refine lv_iload_n hx hb dX9_innings_15 rfl (lv_at hl 3 rfl) ?_
    refine lv_iconst (v := 0) hx hb dX9_innings_16 (by decide) ?_
    refine lv_bipush (v := 7) hx hb dX9_innings_17 (by decide) ?_
    refine g_cI C0 G (g_runS C0 G (rest := [.int 7, .int what, .int (X9_isInnings_x1 g i9), .ref m]) (k_X9_isIn hfl what 0 7 ) hY_X9_isIn mm_X9_76 ms_X9_isIn ⟨(Nat.le_of_ble_eq_true rfl), (Nat.le_of_ble_eq_true rfl)⟩ rfl hl.1 rfl (Nat.le_of_ble_eq_true rfl) dX9_innings_19 ⟨(Nat.le_of_ble_eq_true rfl), (Nat.le_of_ble_eq_true rfl)⟩) (kx_no rfl) (fun r25 u24 H locs hp23 G => ?_)
    obtain ⟨zr, eu24⟩ := hp23
    replace zr := Eq.symm zr
    subst zr
    rw [eu24] at G
    have J28 : ∀ (y27 : Int32) (_ : y27 = (X9_innings_x0 i9 what)) (H : Heap) (locs : List Loc) (ls : Array Slot), hG D (hA f sz) f s9 H locs → lv_has ls 4 [(3, .int (X9_isInnings_x1 g i9)), (0, .ref m), (1, .int i9), (2, .int what)] → W p9 l e9 ({ frames := 2, cells := 0, slots := 0, locals := 46 } : Room) s9 m9 ([.ref m, .int i9, .int what] : List Value).toArray b9 t9 c9 H locs 0 0 (vx_MQ b9 (hQi (fun r u => r = (X9_innings_r2 g i9 what) ∧ u m = some (.inr (11, [.int (nI (X9_asks_n1 (X9_isInnings_x1 g i9) what 7)), .int c_re, .ref v, .ref im, .ref kp, .ref pa, .ref de, .ref ide, .int c_un, .int c_hi, .ref tx, .int c_tn, .int c_fa, .int c_rf, .ref pt, .int c_ps, .int c_pl, .int c_to, .ref so, .ref mo, .ref wh, .ref pf])) ∧ hFrL f u [m]) D f sz) (hPx hNo D f sz) ([.ref m, .int i9, .int what] : List Value).toArray s9 0 0 (hA f sz)) (F0 m9 34 ls [.int y27, .int 7, .int what, .int (X9_isInnings_x1 g i9), .ref m]) := by
      intro y27 ey27 H locs ls G hl
      replace ey27 := Eq.symm ey27
      subst ey27
      exact J16 (X9_innings_x0 i9 what) (by rw [X9_innings_x1, if_neg c14]) _ _ _ G (lv_sub hl [0, 1, 2, 3] rfl)
    refine lv_if_eq (tgt := 33) hx hb dX9_innings_22 (by decide) (fun c26 => ?_) (fun c26 => ?_)
    · refine lv_iconst (v := 0) hx hb dX9_innings_33 (by decide) ?_
      exact J28 0 (by rw [X9_innings_x0, if_pos c26]) _ _ _ G (lv_sub hl [0, 1, 2, 3] rfl)
    · refine lv_iload_n hx hb dX9_innings_25 rfl (lv_at hl 2 rfl) ?_
      refine lv_iload_n hx hb dX9_innings_26 rfl (lv_at hl 3 rfl) ?_
      refine g_cI C0 G (g_runS C0 G (rest := [.int 7, .int what, .int (X9_isInnings_x1 g i9), .ref m]) (k_X9_at hfl i9 what ) hY_X9_at mm_X9_62 ms_X9_at ⟨(Nat.le_of_ble_eq_true rfl), (Nat.le_of_ble_eq_true rfl)⟩ rfl hl.1 rfl (Nat.le_of_ble_eq_true rfl) dX9_innings_27 ⟨(Nat.le_of_ble_eq_true rfl), (Nat.le_of_ble_eq_true rfl)⟩) (kx_no rfl) (fun r32 u31 H locs hp30 G => ?_)
      obtain ⟨zr, eu31⟩ := hp30
      replace zr := Eq.symm zr
      subst zr
      rw [eu31] at G
      refine lv_goto (tgt := 34) hx hb dX9_innings_30 (by decide) ?_
      exact J28 (X9_at_r0 i9 what) (by rw [X9_innings_x0, if_neg c26]) _ _ _ G (lv_sub hl [0, 1, 2, 3] rfl)
def X9_batter_x0 (p : Int32) : Int32 := if (X9_isIn_x1 p 0 10) = 0 then 0 else 1
def X9_batter_x1 (g : Nat → Int32) (i9 : Int32) (p : Int32) : Int32 := if (X9_isInnings_x1 g i9) = 0 then 0 else (X9_batter_x0 p)
def X9_batter_x2 (i9 : Int32) (p : Int32) (what : Int32) : Int32 := if (X9_isIn_x1 what 0 5) = 0 then 0 else (X9_batterAt_r0 i9 p what)
def X9_batter_x3 (g : Nat → Int32) (i9 : Int32) (p : Int32) (what : Int32) : Int32 := if (X9_batter_x1 g i9 p) = 0 then 0 else (X9_batter_x2 i9 p what)
def X9_batter_r4 (g : Nat → Int32) (i9 : Int32) (p : Int32) (what : Int32) : Int32 := (X9_asks_x2 g (X9_batter_x1 g i9 p) what 5 (X9_batter_x3 g i9 p what))
set_option maxRecDepth 100000 in
theorem k_X9_batter {l : Launch} (hfl : l.stackTraces = false) {D : va_G} {cy : Nat → ClassId} {f : Hf} {sz : Nat} {m : Nat} {v : Nat} {im : Nat} {kp : Nat} {pa : Nat} {de : Nat} {ide : Nat} {tx : Nat} {pt : Nat} {so : Nat} {mo : Nat} {wh : Nat} {pf : Nat} {c_th : Int32} {c_re : Int32} {c_un : Int32} {c_hi : Int32} {c_tn : Int32} {c_fa : Int32} {c_rf : Int32} {c_ps : Int32} {c_pl : Int32} {c_to : Int32} {g : Nat → Int32} (i9 : Int32) (p : Int32) (what : Int32) {i : Nat} (h_m : f m = some (.inr (11, [.int c_th, .int c_re, .ref v, .ref im, .ref kp, .ref pa, .ref de, .ref ide, .int c_un, .int c_hi, .ref tx, .int c_tn, .int c_fa, .int c_rf, .ref pt, .int c_ps, .int c_pl, .int c_to, .ref so, .ref mo, .ref wh, .ref pf]))) (h_v : f v = some (.inl (cy 0, 6441, .inl g))) (h4 : g 4 = nI i) (hi : i < 4) : hMet l yX9_batter cX9_batter 5 (some .int) { frames := 2, cells := 0, slots := 0, locals := 46 } D (hTy cy) f sz [.ref m, .int i9, .int p, .int what] (hQi (fun r u => r = (X9_batter_r4 g i9 p what) ∧ u m = some (.inr (11, [.int (nI (X9_asks_n1 (X9_batter_x1 g i9 p) what 5)), .int c_re, .ref v, .ref im, .ref kp, .ref pa, .ref de, .ref ide, .int c_un, .int c_hi, .ref tx, .int c_tn, .int c_fa, .int c_rf, .ref pt, .int c_ps, .int c_pl, .int c_to, .ref so, .ref mo, .ref wh, .ref pf])) ∧ hFrL f u [m]) D f sz) hNo := by
  refine h_enter (by decide) hfl (Nat.le_of_ble_eq_true rfl) ?_
  intro p9 e9 s9 m9 b9 t9 c9 hsz C0 hr hnm G ls hl
  have hx := C0.1.1
  have hb := C0.1.2.1
  have hl : lv_has ls 5 [(0, .ref m), (1, .int i9), (2, .int p), (3, .int what)] := hl
  refine lv_aload_n hx hb dX9_batter_0 rfl (lv_at hl 0 rfl) ?_
  refine lv_iload_n hx hb dX9_batter_1 rfl (lv_at hl 1 rfl) ?_
  refine g_cI C0 G (g_runV C0 G (rest := []) (k_X9_isInnings hfl i9 h_m h_v) h_m rfl hY_X9_isInnings mm_X9_227 mi_X9_isInnings ml_X9_isInnings ⟨(Nat.le_of_ble_eq_true rfl), (Nat.le_of_ble_eq_true rfl)⟩ rfl hl.1 rfl (Nat.le_of_ble_eq_true rfl) dX9_batter_2 ⟨(Nat.le_of_ble_eq_true rfl), (Nat.le_of_ble_eq_true rfl)⟩) (kx_no rfl) (fun r13 u12 H locs hp11 G => ?_)
  obtain ⟨zr, eu12⟩ := hp11
  replace zr := Eq.symm zr
  subst zr
  rw [eu12] at G
  have J16 : ∀ (y15 : Int32) (_ : y15 = (X9_batter_x1 g i9 p)) (H : Heap) (locs : List Loc) (ls : Array Slot), hG D (hA f sz) f s9 H locs → lv_has ls 5 [(0, .ref m), (1, .int i9), (2, .int p), (3, .int what)] → W p9 l e9 ({ frames := 2, cells := 0, slots := 0, locals := 46 } : Room) s9 m9 ([.ref m, .int i9, .int p, .int what] : List Value).toArray b9 t9 c9 H locs 0 0 (vx_MQ b9 (hQi (fun r u => r = (X9_batter_r4 g i9 p what) ∧ u m = some (.inr (11, [.int (nI (X9_asks_n1 (X9_batter_x1 g i9 p) what 5)), .int c_re, .ref v, .ref im, .ref kp, .ref pa, .ref de, .ref ide, .int c_un, .int c_hi, .ref tx, .int c_tn, .int c_fa, .int c_rf, .ref pt, .int c_ps, .int c_pl, .int c_to, .ref so, .ref mo, .ref wh, .ref pf])) ∧ hFrL f u [m]) D f sz) (hPx hNo D f sz) ([.ref m, .int i9, .int p, .int what] : List Value).toArray s9 0 0 (hA f sz)) (F0 m9 23 ls [.int y15]) := by
    intro y15 ey15 H locs ls G hl
    replace ey15 := Eq.symm ey15
    subst ey15
    refine lv_istore (lv' := [(4, .int (X9_batter_x1 g i9 p)), (0, .ref m), (1, .int i9), (2, .int p), (3, .int what)]) hx hb dX9_batter_23 hl (by decide) rfl (fun ls hl => ?_)
    refine lv_aload_n hx hb dX9_batter_25 rfl (lv_at hl 1 rfl) ?_
    refine lv_iload hx hb dX9_batter_26 (lv_at hl 0 rfl) ?_
    refine lv_iload_n hx hb dX9_batter_28 rfl (lv_at hl 4 rfl) ?_
    refine lv_iconst (v := 5) hx hb dX9_batter_29 (by decide) ?_
    refine lv_iload hx hb dX9_batter_30 (lv_at hl 0 rfl) ?_
    have J20 : ∀ (y19 : Int32) (_ : y19 = (X9_batter_x3 g i9 p what)) (H : Heap) (locs : List Loc) (ls : Array Slot), hG D (hA f sz) f s9 H locs → lv_has ls 5 [(4, .int (X9_batter_x1 g i9 p)), (0, .ref m), (1, .int i9), (2, .int p), (3, .int what)] → W p9 l e9 ({ frames := 2, cells := 0, slots := 0, locals := 46 } : Room) s9 m9 ([.ref m, .int i9, .int p, .int what] : List Value).toArray b9 t9 c9 H locs 0 0 (vx_MQ b9 (hQi (fun r u => r = (X9_batter_r4 g i9 p what) ∧ u m = some (.inr (11, [.int (nI (X9_asks_n1 (X9_batter_x1 g i9 p) what 5)), .int c_re, .ref v, .ref im, .ref kp, .ref pa, .ref de, .ref ide, .int c_un, .int c_hi, .ref tx, .int c_tn, .int c_fa, .int c_rf, .ref pt, .int c_ps, .int c_pl, .int c_to, .ref so, .ref mo, .ref wh, .ref pf])) ∧ hFrL f u [m]) D f sz) (hPx hNo D f sz) ([.ref m, .int i9, .int p, .int what] : List Value).toArray s9 0 0 (hA f sz)) (F0 m9 54 ls [.int y19, .int 5, .int what, .int (X9_batter_x1 g i9 p), .ref m]) := by
      intro y19 ey19 H locs ls G hl
      replace ey19 := Eq.symm ey19
      subst ey19
      refine g_cI C0 G (g_runV C0 G (rest := []) (k_X9_asks hfl (X9_batter_x1 g i9 p) what 5 (X9_batter_x3 g i9 p what) h_m h_v (by by_cases q0 : X9_isInnings_x1 g i9 = 0 <;> by_cases q1 : X9_isIn_x1 p 0 10 = 0 <;> by_cases q2 : X9_isIn_x1 what 0 5 = 0 <;> simp only [X9_batter_x0, X9_batter_x1, X9_batter_x2, X9_batter_x3, X9_batter_r4, q0, q1, q2, if_true, if_false, ↓reduceIte, ite_self] <;> first | exact vp0 | exact pl_bat 5 (by omega) h4 hi q0 q1 q2) (by unfold X9_batter_x1; split; exact (Or.inl rfl); exact (by unfold X9_batter_x0; split; exact (Or.inl rfl); exact (Or.inr rfl)))) h_m rfl hY_X9_asks mm_X9_230 mi_X9_asks ml_X9_asks ⟨(Nat.le_of_ble_eq_true rfl), (Nat.le_of_ble_eq_true rfl)⟩ rfl hl.1 rfl (Nat.le_of_ble_eq_true rfl) dX9_batter_54 ⟨(Nat.le_of_ble_eq_true rfl), (Nat.le_of_ble_eq_true rfl)⟩) (kx_no rfl) (fun r24 u23 H locs hp22 G => ?_)
      obtain ⟨zr, k25, fr26⟩ := hp22
      replace zr := Eq.symm zr
      subst zr
      exact g_iret C0 G hr dX9_batter_57 (Nat.le_of_ble_eq_true rfl) (Nat.le_of_ble_eq_true rfl) (by exact ⟨(by rw [X9_batter_r4]), k25, (fun a9 e9 h7 h8 => fr26 _ _ (fun q => h7 (by simp only [List.mem_cons, List.not_mem_nil, or_false] at q ⊢; first | exact q | (rcases q with q <;> simp [q]) | omega)) (h8))⟩)
    refine lv_if_eq (tgt := 53) hx hb dX9_batter_32 (by decide) (fun c18 => ?_) (fun c18 => ?_)
    · refine lv_iconst (v := 0) hx hb dX9_batter_53 (by decide) ?_
      exact J20 0 (by rw [X9_batter_x3, if_pos c18]) _ _ _ G (lv_sub hl [0, 1, 2, 3, 4] rfl)
    · refine lv_iload_n hx hb dX9_batter_35 rfl (lv_at hl 4 rfl) ?_
      refine lv_iconst (v := 0) hx hb dX9_batter_36 (by decide) ?_
      refine lv_iconst (v := 5) hx hb dX9_batter_37 (by decide) ?_
      refine g_cI C0 G (g_runS C0 G (rest := [.int 5, .int what, .int (X9_batter_x1 g i9 p), .ref m]) (k_X9_isIn hfl what 0 5 ) hY_X9_isIn mm_X9_76 ms_X9_isIn ⟨(Nat.le_of_ble_eq_true rfl), (Nat.le_of_ble_eq_true rfl)⟩ rfl hl.1 rfl (Nat.le_of_ble_eq_true rfl) dX9_batter_38 ⟨(Nat.le_of_ble_eq_true rfl), (Nat.le_of_ble_eq_true rfl)⟩) (kx_no rfl) (fun r29 u28 H locs hp27 G => ?_)
      obtain ⟨zr, eu28⟩ := hp27
      replace zr := Eq.symm zr
      subst zr
      rw [eu28] at G
      have J32 : ∀ (y31 : Int32) (_ : y31 = (X9_batter_x2 i9 p what)) (H : Heap) (locs : List Loc) (ls : Array Slot), hG D (hA f sz) f s9 H locs → lv_has ls 5 [(4, .int (X9_batter_x1 g i9 p)), (0, .ref m), (1, .int i9), (2, .int p), (3, .int what)] → W p9 l e9 ({ frames := 2, cells := 0, slots := 0, locals := 46 } : Room) s9 m9 ([.ref m, .int i9, .int p, .int what] : List Value).toArray b9 t9 c9 H locs 0 0 (vx_MQ b9 (hQi (fun r u => r = (X9_batter_r4 g i9 p what) ∧ u m = some (.inr (11, [.int (nI (X9_asks_n1 (X9_batter_x1 g i9 p) what 5)), .int c_re, .ref v, .ref im, .ref kp, .ref pa, .ref de, .ref ide, .int c_un, .int c_hi, .ref tx, .int c_tn, .int c_fa, .int c_rf, .ref pt, .int c_ps, .int c_pl, .int c_to, .ref so, .ref mo, .ref wh, .ref pf])) ∧ hFrL f u [m]) D f sz) (hPx hNo D f sz) ([.ref m, .int i9, .int p, .int what] : List Value).toArray s9 0 0 (hA f sz)) (F0 m9 54 ls [.int y31, .int 5, .int what, .int (X9_batter_x1 g i9 p), .ref m]) := by
        intro y31 ey31 H locs ls G hl
        replace ey31 := Eq.symm ey31
        subst ey31
        exact J20 (X9_batter_x2 i9 p what) (by rw [X9_batter_x3, if_neg c18]) _ _ _ G (lv_sub hl [0, 1, 2, 3, 4] rfl)
      refine lv_if_eq (tgt := 53) hx hb dX9_batter_41 (by decide) (fun c30 => ?_) (fun c30 => ?_)
      · refine lv_iconst (v := 0) hx hb dX9_batter_53 (by decide) ?_
        exact J32 0 (by rw [X9_batter_x2, if_pos c30]) _ _ _ G (lv_sub hl [0, 1, 2, 3, 4] rfl)
      · refine lv_iload_n hx hb dX9_batter_44 rfl (lv_at hl 2 rfl) ?_
        refine lv_iload_n hx hb dX9_batter_45 rfl (lv_at hl 3 rfl) ?_
        refine lv_iload_n hx hb dX9_batter_46 rfl (lv_at hl 4 rfl) ?_
        refine g_cI C0 G (g_runS C0 G (rest := [.int 5, .int what, .int (X9_batter_x1 g i9 p), .ref m]) (k_X9_batterAt hfl i9 p what ) hY_X9_batterAt mm_X9_65 ms_X9_batterAt ⟨(Nat.le_of_ble_eq_true rfl), (Nat.le_of_ble_eq_true rfl)⟩ rfl hl.1 rfl (Nat.le_of_ble_eq_true rfl) dX9_batter_47 ⟨(Nat.le_of_ble_eq_true rfl), (Nat.le_of_ble_eq_true rfl)⟩) (kx_no rfl) (fun r36 u35 H locs hp34 G => ?_)
        obtain ⟨zr, eu35⟩ := hp34
        replace zr := Eq.symm zr
        subst zr
        rw [eu35] at G
        refine lv_goto (tgt := 54) hx hb dX9_batter_50 (by decide) ?_
        exact J32 (X9_batterAt_r0 i9 p what) (by rw [X9_batter_x2, if_neg c30]) _ _ _ G (lv_sub hl [0, 1, 2, 3, 4] rfl)
  refine lv_if_eq (tgt := 22) hx hb dX9_batter_5 (by decide) (fun c14 => ?_) (fun c14 => ?_)
  · refine lv_iconst (v := 0) hx hb dX9_batter_22 (by decide) ?_
    exact J16 0 (by rw [X9_batter_x1, if_pos c14]) _ _ _ G (lv_sub hl [0, 1, 2, 3] rfl)
  · refine lv_iload_n hx hb dX9_batter_8 rfl (lv_at hl 2 rfl) ?_
    refine lv_iconst (v := 0) hx hb dX9_batter_9 (by decide) ?_
    refine lv_bipush (v := 10) hx hb dX9_batter_10 (by decide) ?_
    refine g_cI C0 G (g_runS C0 G (rest := []) (k_X9_isIn hfl p 0 10 ) hY_X9_isIn mm_X9_76 ms_X9_isIn ⟨(Nat.le_of_ble_eq_true rfl), (Nat.le_of_ble_eq_true rfl)⟩ rfl hl.1 rfl (Nat.le_of_ble_eq_true rfl) dX9_batter_12 ⟨(Nat.le_of_ble_eq_true rfl), (Nat.le_of_ble_eq_true rfl)⟩) (kx_no rfl) (fun r39 u38 H locs hp37 G => ?_)
    obtain ⟨zr, eu38⟩ := hp37
    replace zr := Eq.symm zr
    subst zr
    rw [eu38] at G
    have J42 : ∀ (y41 : Int32) (_ : y41 = (X9_batter_x0 p)) (H : Heap) (locs : List Loc) (ls : Array Slot), hG D (hA f sz) f s9 H locs → lv_has ls 5 [(0, .ref m), (1, .int i9), (2, .int p), (3, .int what)] → W p9 l e9 ({ frames := 2, cells := 0, slots := 0, locals := 46 } : Room) s9 m9 ([.ref m, .int i9, .int p, .int what] : List Value).toArray b9 t9 c9 H locs 0 0 (vx_MQ b9 (hQi (fun r u => r = (X9_batter_r4 g i9 p what) ∧ u m = some (.inr (11, [.int (nI (X9_asks_n1 (X9_batter_x1 g i9 p) what 5)), .int c_re, .ref v, .ref im, .ref kp, .ref pa, .ref de, .ref ide, .int c_un, .int c_hi, .ref tx, .int c_tn, .int c_fa, .int c_rf, .ref pt, .int c_ps, .int c_pl, .int c_to, .ref so, .ref mo, .ref wh, .ref pf])) ∧ hFrL f u [m]) D f sz) (hPx hNo D f sz) ([.ref m, .int i9, .int p, .int what] : List Value).toArray s9 0 0 (hA f sz)) (F0 m9 23 ls [.int y41]) := by
      intro y41 ey41 H locs ls G hl
      replace ey41 := Eq.symm ey41
      subst ey41
      exact J16 (X9_batter_x0 p) (by rw [X9_batter_x1, if_neg c14]) _ _ _ G (lv_sub hl [0, 1, 2, 3] rfl)
    refine lv_if_eq (tgt := 22) hx hb dX9_batter_15 (by decide) (fun c40 => ?_) (fun c40 => ?_)
    · refine lv_iconst (v := 0) hx hb dX9_batter_22 (by decide) ?_
      exact J42 0 (by rw [X9_batter_x0, if_pos c40]) _ _ _ G (lv_sub hl [0, 1, 2, 3] rfl)
    · refine lv_iconst (v := 1) hx hb dX9_batter_18 (by decide) ?_
      refine lv_goto (tgt := 23) hx hb dX9_batter_19 (by decide) ?_
      exact J42 1 (by rw [X9_batter_x0, if_neg c40]) _ _ _ G (lv_sub hl [0, 1, 2, 3] rfl)
def X9_bowler_x0 (p : Int32) : Int32 := if (X9_isIn_x1 p 0 10) = 0 then 0 else 1
def X9_bowler_x1 (g : Nat → Int32) (i9 : Int32) (p : Int32) : Int32 := if (X9_isInnings_x1 g i9) = 0 then 0 else (X9_bowler_x0 p)
def X9_bowler_x2 (i9 : Int32) (p : Int32) (what : Int32) : Int32 := if (X9_isIn_x1 what 0 6) = 0 then 0 else (X9_bowlerAt_r0 i9 p what)
def X9_bowler_x3 (g : Nat → Int32) (i9 : Int32) (p : Int32) (what : Int32) : Int32 := if (X9_bowler_x1 g i9 p) = 0 then 0 else (X9_bowler_x2 i9 p what)
def X9_bowler_r4 (g : Nat → Int32) (i9 : Int32) (p : Int32) (what : Int32) : Int32 := (X9_asks_x2 g (X9_bowler_x1 g i9 p) what 6 (X9_bowler_x3 g i9 p what))
set_option maxRecDepth 100000 in
theorem k_X9_bowler {l : Launch} (hfl : l.stackTraces = false) {D : va_G} {cy : Nat → ClassId} {f : Hf} {sz : Nat} {m : Nat} {v : Nat} {im : Nat} {kp : Nat} {pa : Nat} {de : Nat} {ide : Nat} {tx : Nat} {pt : Nat} {so : Nat} {mo : Nat} {wh : Nat} {pf : Nat} {c_th : Int32} {c_re : Int32} {c_un : Int32} {c_hi : Int32} {c_tn : Int32} {c_fa : Int32} {c_rf : Int32} {c_ps : Int32} {c_pl : Int32} {c_to : Int32} {g : Nat → Int32} (i9 : Int32) (p : Int32) (what : Int32) {i : Nat} (h_m : f m = some (.inr (11, [.int c_th, .int c_re, .ref v, .ref im, .ref kp, .ref pa, .ref de, .ref ide, .int c_un, .int c_hi, .ref tx, .int c_tn, .int c_fa, .int c_rf, .ref pt, .int c_ps, .int c_pl, .int c_to, .ref so, .ref mo, .ref wh, .ref pf]))) (h_v : f v = some (.inl (cy 0, 6441, .inl g))) (h4 : g 4 = nI i) (hi : i < 4) : hMet l yX9_bowler cX9_bowler 5 (some .int) { frames := 2, cells := 0, slots := 0, locals := 46 } D (hTy cy) f sz [.ref m, .int i9, .int p, .int what] (hQi (fun r u => r = (X9_bowler_r4 g i9 p what) ∧ u m = some (.inr (11, [.int (nI (X9_asks_n1 (X9_bowler_x1 g i9 p) what 6)), .int c_re, .ref v, .ref im, .ref kp, .ref pa, .ref de, .ref ide, .int c_un, .int c_hi, .ref tx, .int c_tn, .int c_fa, .int c_rf, .ref pt, .int c_ps, .int c_pl, .int c_to, .ref so, .ref mo, .ref wh, .ref pf])) ∧ hFrL f u [m]) D f sz) hNo := by
  refine h_enter (by decide) hfl (Nat.le_of_ble_eq_true rfl) ?_
  intro p9 e9 s9 m9 b9 t9 c9 hsz C0 hr hnm G ls hl
  have hx := C0.1.1
  have hb := C0.1.2.1
  have hl : lv_has ls 5 [(0, .ref m), (1, .int i9), (2, .int p), (3, .int what)] := hl
  refine lv_aload_n hx hb dX9_bowler_0 rfl (lv_at hl 0 rfl) ?_
  refine lv_iload_n hx hb dX9_bowler_1 rfl (lv_at hl 1 rfl) ?_
  refine g_cI C0 G (g_runV C0 G (rest := []) (k_X9_isInnings hfl i9 h_m h_v) h_m rfl hY_X9_isInnings mm_X9_227 mi_X9_isInnings ml_X9_isInnings ⟨(Nat.le_of_ble_eq_true rfl), (Nat.le_of_ble_eq_true rfl)⟩ rfl hl.1 rfl (Nat.le_of_ble_eq_true rfl) dX9_bowler_2 ⟨(Nat.le_of_ble_eq_true rfl), (Nat.le_of_ble_eq_true rfl)⟩) (kx_no rfl) (fun r13 u12 H locs hp11 G => ?_)
  obtain ⟨zr, eu12⟩ := hp11
  replace zr := Eq.symm zr
  subst zr
  rw [eu12] at G
  have J16 : ∀ (y15 : Int32) (_ : y15 = (X9_bowler_x1 g i9 p)) (H : Heap) (locs : List Loc) (ls : Array Slot), hG D (hA f sz) f s9 H locs → lv_has ls 5 [(0, .ref m), (1, .int i9), (2, .int p), (3, .int what)] → W p9 l e9 ({ frames := 2, cells := 0, slots := 0, locals := 46 } : Room) s9 m9 ([.ref m, .int i9, .int p, .int what] : List Value).toArray b9 t9 c9 H locs 0 0 (vx_MQ b9 (hQi (fun r u => r = (X9_bowler_r4 g i9 p what) ∧ u m = some (.inr (11, [.int (nI (X9_asks_n1 (X9_bowler_x1 g i9 p) what 6)), .int c_re, .ref v, .ref im, .ref kp, .ref pa, .ref de, .ref ide, .int c_un, .int c_hi, .ref tx, .int c_tn, .int c_fa, .int c_rf, .ref pt, .int c_ps, .int c_pl, .int c_to, .ref so, .ref mo, .ref wh, .ref pf])) ∧ hFrL f u [m]) D f sz) (hPx hNo D f sz) ([.ref m, .int i9, .int p, .int what] : List Value).toArray s9 0 0 (hA f sz)) (F0 m9 23 ls [.int y15]) := by
    intro y15 ey15 H locs ls G hl
    replace ey15 := Eq.symm ey15
    subst ey15
    refine lv_istore (lv' := [(4, .int (X9_bowler_x1 g i9 p)), (0, .ref m), (1, .int i9), (2, .int p), (3, .int what)]) hx hb dX9_bowler_23 hl (by decide) rfl (fun ls hl => ?_)
    refine lv_aload_n hx hb dX9_bowler_25 rfl (lv_at hl 1 rfl) ?_
    refine lv_iload hx hb dX9_bowler_26 (lv_at hl 0 rfl) ?_
    refine lv_iload_n hx hb dX9_bowler_28 rfl (lv_at hl 4 rfl) ?_
    refine lv_bipush (v := 6) hx hb dX9_bowler_29 (by decide) ?_
    refine lv_iload hx hb dX9_bowler_31 (lv_at hl 0 rfl) ?_
    have J20 : ∀ (y19 : Int32) (_ : y19 = (X9_bowler_x3 g i9 p what)) (H : Heap) (locs : List Loc) (ls : Array Slot), hG D (hA f sz) f s9 H locs → lv_has ls 5 [(4, .int (X9_bowler_x1 g i9 p)), (0, .ref m), (1, .int i9), (2, .int p), (3, .int what)] → W p9 l e9 ({ frames := 2, cells := 0, slots := 0, locals := 46 } : Room) s9 m9 ([.ref m, .int i9, .int p, .int what] : List Value).toArray b9 t9 c9 H locs 0 0 (vx_MQ b9 (hQi (fun r u => r = (X9_bowler_r4 g i9 p what) ∧ u m = some (.inr (11, [.int (nI (X9_asks_n1 (X9_bowler_x1 g i9 p) what 6)), .int c_re, .ref v, .ref im, .ref kp, .ref pa, .ref de, .ref ide, .int c_un, .int c_hi, .ref tx, .int c_tn, .int c_fa, .int c_rf, .ref pt, .int c_ps, .int c_pl, .int c_to, .ref so, .ref mo, .ref wh, .ref pf])) ∧ hFrL f u [m]) D f sz) (hPx hNo D f sz) ([.ref m, .int i9, .int p, .int what] : List Value).toArray s9 0 0 (hA f sz)) (F0 m9 56 ls [.int y19, .int 6, .int what, .int (X9_bowler_x1 g i9 p), .ref m]) := by
      intro y19 ey19 H locs ls G hl
      replace ey19 := Eq.symm ey19
      subst ey19
      refine g_cI C0 G (g_runV C0 G (rest := []) (k_X9_asks hfl (X9_bowler_x1 g i9 p) what 6 (X9_bowler_x3 g i9 p what) h_m h_v (by by_cases q0 : X9_isInnings_x1 g i9 = 0 <;> by_cases q1 : X9_isIn_x1 p 0 10 = 0 <;> by_cases q2 : X9_isIn_x1 what 0 6 = 0 <;> simp only [X9_bowler_x0, X9_bowler_x1, X9_bowler_x2, X9_bowler_x3, X9_bowler_r4, q0, q1, q2, if_true, if_false, ↓reduceIte, ite_self] <;> first | exact vp0 | exact pl_bow 6 (by omega) h4 hi q0 q1 q2) (by unfold X9_bowler_x1; split; exact (Or.inl rfl); exact (by unfold X9_bowler_x0; split; exact (Or.inl rfl); exact (Or.inr rfl)))) h_m rfl hY_X9_asks mm_X9_230 mi_X9_asks ml_X9_asks ⟨(Nat.le_of_ble_eq_true rfl), (Nat.le_of_ble_eq_true rfl)⟩ rfl hl.1 rfl (Nat.le_of_ble_eq_true rfl) dX9_bowler_56 ⟨(Nat.le_of_ble_eq_true rfl), (Nat.le_of_ble_eq_true rfl)⟩) (kx_no rfl) (fun r24 u23 H locs hp22 G => ?_)
      obtain ⟨zr, k25, fr26⟩ := hp22
      replace zr := Eq.symm zr
      subst zr
      exact g_iret C0 G hr dX9_bowler_59 (Nat.le_of_ble_eq_true rfl) (Nat.le_of_ble_eq_true rfl) (by exact ⟨(by rw [X9_bowler_r4]), k25, (fun a9 e9 h7 h8 => fr26 _ _ (fun q => h7 (by simp only [List.mem_cons, List.not_mem_nil, or_false] at q ⊢; first | exact q | (rcases q with q <;> simp [q]) | omega)) (h8))⟩)
    refine lv_if_eq (tgt := 55) hx hb dX9_bowler_33 (by decide) (fun c18 => ?_) (fun c18 => ?_)
    · refine lv_iconst (v := 0) hx hb dX9_bowler_55 (by decide) ?_
      exact J20 0 (by rw [X9_bowler_x3, if_pos c18]) _ _ _ G (lv_sub hl [0, 1, 2, 3, 4] rfl)
    · refine lv_iload_n hx hb dX9_bowler_36 rfl (lv_at hl 4 rfl) ?_
      refine lv_iconst (v := 0) hx hb dX9_bowler_37 (by decide) ?_
      refine lv_bipush (v := 6) hx hb dX9_bowler_38 (by decide) ?_
      refine g_cI C0 G (g_runS C0 G (rest := [.int 6, .int what, .int (X9_bowler_x1 g i9 p), .ref m]) (k_X9_isIn hfl what 0 6 ) hY_X9_isIn mm_X9_76 ms_X9_isIn ⟨(Nat.le_of_ble_eq_true rfl), (Nat.le_of_ble_eq_true rfl)⟩ rfl hl.1 rfl (Nat.le_of_ble_eq_true rfl) dX9_bowler_40 ⟨(Nat.le_of_ble_eq_true rfl), (Nat.le_of_ble_eq_true rfl)⟩) (kx_no rfl) (fun r29 u28 H locs hp27 G => ?_)
      obtain ⟨zr, eu28⟩ := hp27
      replace zr := Eq.symm zr
      subst zr
      rw [eu28] at G
      have J32 : ∀ (y31 : Int32) (_ : y31 = (X9_bowler_x2 i9 p what)) (H : Heap) (locs : List Loc) (ls : Array Slot), hG D (hA f sz) f s9 H locs → lv_has ls 5 [(4, .int (X9_bowler_x1 g i9 p)), (0, .ref m), (1, .int i9), (2, .int p), (3, .int what)] → W p9 l e9 ({ frames := 2, cells := 0, slots := 0, locals := 46 } : Room) s9 m9 ([.ref m, .int i9, .int p, .int what] : List Value).toArray b9 t9 c9 H locs 0 0 (vx_MQ b9 (hQi (fun r u => r = (X9_bowler_r4 g i9 p what) ∧ u m = some (.inr (11, [.int (nI (X9_asks_n1 (X9_bowler_x1 g i9 p) what 6)), .int c_re, .ref v, .ref im, .ref kp, .ref pa, .ref de, .ref ide, .int c_un, .int c_hi, .ref tx, .int c_tn, .int c_fa, .int c_rf, .ref pt, .int c_ps, .int c_pl, .int c_to, .ref so, .ref mo, .ref wh, .ref pf])) ∧ hFrL f u [m]) D f sz) (hPx hNo D f sz) ([.ref m, .int i9, .int p, .int what] : List Value).toArray s9 0 0 (hA f sz)) (F0 m9 56 ls [.int y31, .int 6, .int what, .int (X9_bowler_x1 g i9 p), .ref m]) := by
        intro y31 ey31 H locs ls G hl
        replace ey31 := Eq.symm ey31
        subst ey31
        exact J20 (X9_bowler_x2 i9 p what) (by rw [X9_bowler_x3, if_neg c18]) _ _ _ G (lv_sub hl [0, 1, 2, 3, 4] rfl)
      refine lv_if_eq (tgt := 55) hx hb dX9_bowler_43 (by decide) (fun c30 => ?_) (fun c30 => ?_)
      · refine lv_iconst (v := 0) hx hb dX9_bowler_55 (by decide) ?_
        exact J32 0 (by rw [X9_bowler_x2, if_pos c30]) _ _ _ G (lv_sub hl [0, 1, 2, 3, 4] rfl)
      · refine lv_iload_n hx hb dX9_bowler_46 rfl (lv_at hl 2 rfl) ?_
        refine lv_iload_n hx hb dX9_bowler_47 rfl (lv_at hl 3 rfl) ?_
        refine lv_iload_n hx hb dX9_bowler_48 rfl (lv_at hl 4 rfl) ?_
        refine g_cI C0 G (g_runS C0 G (rest := [.int 6, .int what, .int (X9_bowler_x1 g i9 p), .ref m]) (k_X9_bowlerAt hfl i9 p what ) hY_X9_bowlerAt mm_X9_105 ms_X9_bowlerAt ⟨(Nat.le_of_ble_eq_true rfl), (Nat.le_of_ble_eq_true rfl)⟩ rfl hl.1 rfl (Nat.le_of_ble_eq_true rfl) dX9_bowler_49 ⟨(Nat.le_of_ble_eq_true rfl), (Nat.le_of_ble_eq_true rfl)⟩) (kx_no rfl) (fun r36 u35 H locs hp34 G => ?_)
        obtain ⟨zr, eu35⟩ := hp34
        replace zr := Eq.symm zr
        subst zr
        rw [eu35] at G
        refine lv_goto (tgt := 56) hx hb dX9_bowler_52 (by decide) ?_
        exact J32 (X9_bowlerAt_r0 i9 p what) (by rw [X9_bowler_x2, if_neg c30]) _ _ _ G (lv_sub hl [0, 1, 2, 3, 4] rfl)
  refine lv_if_eq (tgt := 22) hx hb dX9_bowler_5 (by decide) (fun c14 => ?_) (fun c14 => ?_)
  · refine lv_iconst (v := 0) hx hb dX9_bowler_22 (by decide) ?_
    exact J16 0 (by rw [X9_bowler_x1, if_pos c14]) _ _ _ G (lv_sub hl [0, 1, 2, 3] rfl)
  · refine lv_iload_n hx hb dX9_bowler_8 rfl (lv_at hl 2 rfl) ?_
    refine lv_iconst (v := 0) hx hb dX9_bowler_9 (by decide) ?_
    refine lv_bipush (v := 10) hx hb dX9_bowler_10 (by decide) ?_
    refine g_cI C0 G (g_runS C0 G (rest := []) (k_X9_isIn hfl p 0 10 ) hY_X9_isIn mm_X9_76 ms_X9_isIn ⟨(Nat.le_of_ble_eq_true rfl), (Nat.le_of_ble_eq_true rfl)⟩ rfl hl.1 rfl (Nat.le_of_ble_eq_true rfl) dX9_bowler_12 ⟨(Nat.le_of_ble_eq_true rfl), (Nat.le_of_ble_eq_true rfl)⟩) (kx_no rfl) (fun r39 u38 H locs hp37 G => ?_)
    obtain ⟨zr, eu38⟩ := hp37
    replace zr := Eq.symm zr
    subst zr
    rw [eu38] at G
    have J42 : ∀ (y41 : Int32) (_ : y41 = (X9_bowler_x0 p)) (H : Heap) (locs : List Loc) (ls : Array Slot), hG D (hA f sz) f s9 H locs → lv_has ls 5 [(0, .ref m), (1, .int i9), (2, .int p), (3, .int what)] → W p9 l e9 ({ frames := 2, cells := 0, slots := 0, locals := 46 } : Room) s9 m9 ([.ref m, .int i9, .int p, .int what] : List Value).toArray b9 t9 c9 H locs 0 0 (vx_MQ b9 (hQi (fun r u => r = (X9_bowler_r4 g i9 p what) ∧ u m = some (.inr (11, [.int (nI (X9_asks_n1 (X9_bowler_x1 g i9 p) what 6)), .int c_re, .ref v, .ref im, .ref kp, .ref pa, .ref de, .ref ide, .int c_un, .int c_hi, .ref tx, .int c_tn, .int c_fa, .int c_rf, .ref pt, .int c_ps, .int c_pl, .int c_to, .ref so, .ref mo, .ref wh, .ref pf])) ∧ hFrL f u [m]) D f sz) (hPx hNo D f sz) ([.ref m, .int i9, .int p, .int what] : List Value).toArray s9 0 0 (hA f sz)) (F0 m9 23 ls [.int y41]) := by
      intro y41 ey41 H locs ls G hl
      replace ey41 := Eq.symm ey41
      subst ey41
      exact J16 (X9_bowler_x0 p) (by rw [X9_bowler_x1, if_neg c14]) _ _ _ G (lv_sub hl [0, 1, 2, 3] rfl)
    refine lv_if_eq (tgt := 22) hx hb dX9_bowler_15 (by decide) (fun c40 => ?_) (fun c40 => ?_)
    · refine lv_iconst (v := 0) hx hb dX9_bowler_22 (by decide) ?_
      exact J42 0 (by rw [X9_bowler_x0, if_pos c40]) _ _ _ G (lv_sub hl [0, 1, 2, 3] rfl)
    · refine lv_iconst (v := 1) hx hb dX9_bowler_18 (by decide) ?_
      refine lv_goto (tgt := 23) hx hb dX9_bowler_19 (by decide) ?_
      exact J42 1 (by rw [X9_bowler_x0, if_neg c40]) _ _ _ G (lv_sub hl [0, 1, 2, 3] rfl)
