theorem pl_at2 {g : Nat → Int32} {x : Int32} {i : Nat} (h4 : g 4 = nI i) (hi : i < 4) (h : ¬ X9_isInnings_x1 g x = 0) : vp_in (X9_at_r0 (x + 1) 9) 6441 := by
  obtain ⟨k, hk, rfl⟩ := isI_k h4 hi h
  rw [show (1 : Int32) = nI 1 from rfl, nI_add, show (9 : Int32) = nI 9 from rfl, at_n]
  exact vp_in_nI (by omega) (by omega)
def X9_shares_x0 (g : Nat → Int32) (i9 : Int32) (i : Nat) : Int32 := if i9 = (nI i) then (g 22) else (g ((X9_at_r0 (i9 + 1) 9)).toNatClampNeg)
def X9_shares_r1 (g : Nat → Int32) (i9 : Int32) (i : Nat) : Int32 := (X9_shares_x0 g i9 i) - (g ((X9_at_r0 i9 9)).toNatClampNeg)
set_option maxRecDepth 100000 in
theorem k_X9_shares {l : Launch} (hfl : l.stackTraces = false) {D : va_G} {cy : Nat → ClassId} {f : Hf} {sz : Nat} {m : Nat} {v : Nat} {im : Nat} {kp : Nat} {pa : Nat} {de : Nat} {ide : Nat} {tx : Nat} {pt : Nat} {so : Nat} {mo : Nat} {wh : Nat} {pf : Nat} {c_th : Int32} {c_re : Int32} {c_un : Int32} {c_hi : Int32} {c_tn : Int32} {c_fa : Int32} {c_rf : Int32} {c_ps : Int32} {c_pl : Int32} {c_to : Int32} {g : Nat → Int32} (i9 : Int32) {i : Nat} (h_m : f m = some (.inr (11, [.int c_th, .int c_re, .ref v, .ref im, .ref kp, .ref pa, .ref de, .ref ide, .int c_un, .int c_hi, .ref tx, .int c_tn, .int c_fa, .int c_rf, .ref pt, .int c_ps, .int c_pl, .int c_to, .ref so, .ref mo, .ref wh, .ref pf]))) (h_v : f v = some (.inl (cy 0, 6441, .inl g))) (h4 : g 4 = nI i) (hi : i < 4) (hIi : ¬ X9_isInnings_x1 g i9 = 0) : hMet l yX9_shares cX9_shares 2 (some .int) { frames := 1, cells := 0, slots := 0, locals := 21 } D (hTy cy) f sz [.ref m, .int i9] (hQi (fun r u => r = (X9_shares_r1 g i9 i) ∧ u = f) D f sz) hNo := by
  refine h_enter (by decide) hfl (Nat.le_of_ble_eq_true rfl) ?_
  intro p9 e9 s9 m9 b9 t9 c9 hsz C0 hr hnm G ls hl
  have hx := C0.1.1
  have hb := C0.1.2.1
  have hl : lv_has ls 2 [(0, .ref m), (1, .int i9)] := hl
  refine lv_iload_n hx hb dX9_shares_0 rfl (lv_at hl 1 rfl) ?_
  refine lv_aload_n hx hb dX9_shares_1 rfl (lv_at hl 0 rfl) ?_
  refine g_get C0 G h_m rfl hiX9 2 (by decide) mf_X9_9 rfl dX9_shares_2 ?_
  refine lv_iconst (v := 4) hx hb dX9_shares_5 (by decide) ?_
  refine g_iald C0 G h_v 0 rfl (by unfold vp_in; decide) dX9_shares_6 ?_
  refine lv_topv (v := g 4) rfl ?_
  refine lv_topv (v := nI i) (h4) ?_
  have J13 : ∀ (y12 : Int32) (_ : y12 = (X9_shares_x0 g i9 i)) (H : Heap) (locs : List Loc) (ls : Array Slot), hG D (hA f sz) f s9 H locs → lv_has ls 2 [(0, .ref m), (1, .int i9)] → W p9 l e9 ({ frames := 1, cells := 0, slots := 0, locals := 21 } : Room) s9 m9 ([.ref m, .int i9] : List Value).toArray b9 t9 c9 H locs 0 0 (vx_MQ b9 (hQi (fun r u => r = (X9_shares_r1 g i9 i) ∧ u = f) D f sz) (hPx hNo D f sz) ([.ref m, .int i9] : List Value).toArray s9 0 0 (hA f sz)) (F0 m9 33 ls [.int y12]) := by
    intro y12 ey12 H locs ls G hl
    replace ey12 := Eq.symm ey12
    subst ey12
    refine lv_aload_n hx hb dX9_shares_33 rfl (lv_at hl 0 rfl) ?_
    refine g_get C0 G h_m rfl hiX9 2 (by decide) mf_X9_9 rfl dX9_shares_34 ?_
    refine lv_iload_n hx hb dX9_shares_37 rfl (lv_at hl 1 rfl) ?_
    refine lv_bipush (v := 9) hx hb dX9_shares_38 (by decide) ?_
    refine g_cI C0 G (g_runS C0 G (rest := [.ref v, .int (X9_shares_x0 g i9 i)]) (k_X9_at hfl i9 9 ) hY_X9_at mm_X9_62 ms_X9_at ⟨(Nat.le_of_ble_eq_true rfl), (Nat.le_of_ble_eq_true rfl)⟩ rfl hl.1 rfl (Nat.le_of_ble_eq_true rfl) dX9_shares_40 ⟨(Nat.le_of_ble_eq_true rfl), (Nat.le_of_ble_eq_true rfl)⟩) (kx_no rfl) (fun r17 u16 H locs hp15 G => ?_)
    obtain ⟨zr, eu16⟩ := hp15
    replace zr := Eq.symm zr
    subst zr
    rw [eu16] at G
    refine g_iald C0 G h_v 0 rfl (pl_at1 9 (by omega) h4 hi hIi) dX9_shares_43 ?_
    refine lv_isub hx hb dX9_shares_44 ?_
    exact g_iret C0 G hr dX9_shares_45 (Nat.le_of_ble_eq_true rfl) (Nat.le_of_ble_eq_true rfl) (by exact ⟨(by rw [X9_shares_r1]), rfl⟩)
  refine lv_icmp_ne (tgt := 20) hx hb dX9_shares_7 (by decide) (fun c11 => ?_) (fun c11 => ?_)
  · refine lv_aload_n hx hb dX9_shares_20 rfl (lv_at hl 0 rfl) ?_
    refine g_get C0 G h_m rfl hiX9 2 (by decide) mf_X9_9 rfl dX9_shares_21 ?_
    refine lv_iload_n hx hb dX9_shares_24 rfl (lv_at hl 1 rfl) ?_
    refine lv_iconst (v := 1) hx hb dX9_shares_25 (by decide) ?_
    refine lv_iadd hx hb dX9_shares_26 ?_
    refine lv_bipush (v := 9) hx hb dX9_shares_27 (by decide) ?_
    refine g_cI C0 G (g_runS C0 G (rest := [.ref v]) (k_X9_at hfl (i9 + 1) 9 ) hY_X9_at mm_X9_62 ms_X9_at ⟨(Nat.le_of_ble_eq_true rfl), (Nat.le_of_ble_eq_true rfl)⟩ rfl hl.1 rfl (Nat.le_of_ble_eq_true rfl) dX9_shares_29 ⟨(Nat.le_of_ble_eq_true rfl), (Nat.le_of_ble_eq_true rfl)⟩) (kx_no rfl) (fun r20 u19 H locs hp18 G => ?_)
    obtain ⟨zr, eu19⟩ := hp18
    replace zr := Eq.symm zr
    subst zr
    rw [eu19] at G
    refine g_iald C0 G h_v 0 rfl (pl_at2 h4 hi hIi) dX9_shares_32 ?_
    exact J13 (g ((X9_at_r0 (i9 + 1) 9)).toNatClampNeg) (by rw [X9_shares_x0, if_neg c11]) _ _ _ G (lv_sub hl [0, 1] rfl)
  · refine lv_aload_n hx hb dX9_shares_10 rfl (lv_at hl 0 rfl) ?_
    refine g_get C0 G h_m rfl hiX9 2 (by decide) mf_X9_9 rfl dX9_shares_11 ?_
    refine lv_bipush (v := 22) hx hb dX9_shares_14 (by decide) ?_
    refine g_iald C0 G h_v 0 rfl (by unfold vp_in; decide) dX9_shares_16 ?_
    refine lv_topv (v := g 22) rfl ?_
    refine lv_goto (tgt := 33) hx hb dX9_shares_17 (by decide) ?_
    exact J13 (g 22) (by rw [X9_shares_x0, if_pos c11]) _ _ _ G (lv_sub hl [0, 1] rfl)
def X9_listed_n0 (what : Int32) (most : Int32) : Nat := if (X9_isIn_x1 what 0 most) = 0 then 3 else 0
def X9_listed_n1 (k : Int32) (many : Int32) (what : Int32) (most : Int32) : Nat := if (X9_isIn_x1 k 0 (many - 1)) = 0 then 2 else (X9_listed_n0 what most)
def X9_listed_x2 (g : Nat → Int32) (k : Int32) (many : Int32) (what : Int32) (most : Int32) (plc : Int32) : Int32 := if (nI (X9_listed_n1 k many what most)) = 0 then (g (plc + what).toNatClampNeg) else 0
set_option maxRecDepth 100000 in
theorem k_X9_listed {l : Launch} (hfl : l.stackTraces = false) {D : va_G} {cy : Nat → ClassId} {f : Hf} {sz : Nat} {m : Nat} {v : Nat} {im : Nat} {kp : Nat} {pa : Nat} {de : Nat} {ide : Nat} {tx : Nat} {pt : Nat} {so : Nat} {mo : Nat} {wh : Nat} {pf : Nat} {c_th : Int32} {c_re : Int32} {c_un : Int32} {c_hi : Int32} {c_tn : Int32} {c_fa : Int32} {c_rf : Int32} {c_ps : Int32} {c_pl : Int32} {c_to : Int32} {g : Nat → Int32} (i9 : Int32) (k : Int32) (many : Int32) (what : Int32) (most : Int32) (plc : Int32) (h_m : f m = some (.inr (11, [.int c_th, .int c_re, .ref v, .ref im, .ref kp, .ref pa, .ref de, .ref ide, .int c_un, .int c_hi, .ref tx, .int c_tn, .int c_fa, .int c_rf, .ref pt, .int c_ps, .int c_pl, .int c_to, .ref so, .ref mo, .ref wh, .ref pf]))) (h_v : f v = some (.inl (cy 0, 6441, .inl g))) (hplc : ¬ X9_isIn_x1 k 0 (many - 1) = 0 → ¬ X9_isIn_x1 what 0 most = 0 → vp_in (plc + what) 6441) : hMet l yX9_listed cX9_listed 7 (some .int) { frames := 1, cells := 0, slots := 0, locals := 22 } D (hTy cy) f sz [.ref m, .int i9, .int k, .int many, .int what, .int most, .int plc] (hQi (fun r u => r = (X9_listed_x2 g k many what most plc) ∧ u m = some (.inr (11, [.int (nI (X9_listed_n1 k many what most)), .int c_re, .ref v, .ref im, .ref kp, .ref pa, .ref de, .ref ide, .int c_un, .int c_hi, .ref tx, .int c_tn, .int c_fa, .int c_rf, .ref pt, .int c_ps, .int c_pl, .int c_to, .ref so, .ref mo, .ref wh, .ref pf])) ∧ hFrL f u [m]) D f sz) hNo := by
  refine h_enter (by decide) hfl (Nat.le_of_ble_eq_true rfl) ?_
  intro p9 e9 s9 m9 b9 t9 c9 hsz C0 hr hnm G ls hl
  have hx := C0.1.1
  have hb := C0.1.2.1
  have hl : lv_has ls 7 [(0, .ref m), (1, .int i9), (2, .int k), (3, .int many), (4, .int what), (5, .int most), (6, .int plc)] := hl
  refine lv_aload_n hx hb dX9_listed_0 rfl (lv_at hl 0 rfl) ?_
  refine lv_iload_n hx hb dX9_listed_1 rfl (lv_at hl 2 rfl) ?_
  refine lv_iconst (v := 0) hx hb dX9_listed_2 (by decide) ?_
  refine lv_iload_n hx hb dX9_listed_3 rfl (lv_at hl 3 rfl) ?_
  refine lv_iconst (v := 1) hx hb dX9_listed_4 (by decide) ?_
  refine lv_isub hx hb dX9_listed_5 ?_
  refine g_cI C0 G (g_runS C0 G (rest := [.ref m]) (k_X9_isIn hfl k 0 (many - 1) ) hY_X9_isIn mm_X9_76 ms_X9_isIn ⟨(Nat.le_of_ble_eq_true rfl), (Nat.le_of_ble_eq_true rfl)⟩ rfl hl.1 rfl (Nat.le_of_ble_eq_true rfl) dX9_listed_6 ⟨(Nat.le_of_ble_eq_true rfl), (Nat.le_of_ble_eq_true rfl)⟩) (kx_no rfl) (fun r13 u12 H locs hp11 G => ?_)
  obtain ⟨zr, eu12⟩ := hp11
  replace zr := Eq.symm zr
  subst zr
  rw [eu12] at G
  have J16 : ∀ (y15 : Int32) (_ : y15 = nI (X9_listed_n1 k many what most)) (H : Heap) (locs : List Loc) (ls : Array Slot), hG D (hA f sz) f s9 H locs → lv_has ls 7 [(0, .ref m), (1, .int i9), (2, .int k), (3, .int many), (4, .int what), (5, .int most), (6, .int plc)] → W p9 l e9 ({ frames := 1, cells := 0, slots := 0, locals := 22 } : Room) s9 m9 ([.ref m, .int i9, .int k, .int many, .int what, .int most, .int plc] : List Value).toArray b9 t9 c9 H locs 0 0 (vx_MQ b9 (hQi (fun r u => r = (X9_listed_x2 g k many what most plc) ∧ u m = some (.inr (11, [.int (nI (X9_listed_n1 k many what most)), .int c_re, .ref v, .ref im, .ref kp, .ref pa, .ref de, .ref ide, .int c_un, .int c_hi, .ref tx, .int c_tn, .int c_fa, .int c_rf, .ref pt, .int c_ps, .int c_pl, .int c_to, .ref so, .ref mo, .ref wh, .ref pf])) ∧ hFrL f u [m]) D f sz) (hPx hNo D f sz) ([.ref m, .int i9, .int k, .int many, .int what, .int most, .int plc] : List Value).toArray s9 0 0 (hA f sz)) (F0 m9 32 ls [.int y15, .ref m]) := by
    intro y15 ey15 H locs ls G hl
    replace ey15 := Eq.symm ey15
    subst ey15
    have bd18 : (X9_listed_n1 k many what most) ≤ 3 := by unfold X9_listed_n1 X9_listed_n0; repeat (first | omega | split)
    refine g_put C0 G h_m rfl hiX9 tyX9 tyX9_ok nmX9 0 (by decide) mf_X9_55 rfl rfl rfl rfl (Nat.le_of_ble_eq_true rfl) dX9_listed_32 (fun H locs f19 hf19 G => ?_)
    have k20 : f19 m = some (.inr (11, [.int (nI (X9_listed_n1 k many what most)), .int c_re, .ref v, .ref im, .ref kp, .ref pa, .ref de, .ref ide, .int c_un, .int c_hi, .ref tx, .int c_tn, .int c_fa, .int c_rf, .ref pt, .int c_ps, .int c_pl, .int c_to, .ref so, .ref mo, .ref wh, .ref pf])) := hus hf19
    refine lv_aload_n hx hb dX9_listed_35 rfl (lv_at hl 0 rfl) ?_
    refine g_get C0 G k20 rfl hiX9 0 (by decide) mf_X9_55 rfl dX9_listed_36 ?_
    have J23 : ∀ (y22 : Int32) (_ : y22 = (X9_listed_x2 g k many what most plc)) (H : Heap) (locs : List Loc) (ls : Array Slot), hG D (hA f sz) f19 s9 H locs → lv_has ls 7 [(0, .ref m), (1, .int i9), (2, .int k), (3, .int many), (4, .int what), (5, .int most), (6, .int plc)] → W p9 l e9 ({ frames := 1, cells := 0, slots := 0, locals := 22 } : Room) s9 m9 ([.ref m, .int i9, .int k, .int many, .int what, .int most, .int plc] : List Value).toArray b9 t9 c9 H locs 0 0 (vx_MQ b9 (hQi (fun r u => r = (X9_listed_x2 g k many what most plc) ∧ u m = some (.inr (11, [.int (nI (X9_listed_n1 k many what most)), .int c_re, .ref v, .ref im, .ref kp, .ref pa, .ref de, .ref ide, .int c_un, .int c_hi, .ref tx, .int c_tn, .int c_fa, .int c_rf, .ref pt, .int c_ps, .int c_pl, .int c_to, .ref so, .ref mo, .ref wh, .ref pf])) ∧ hFrL f u [m]) D f sz) (hPx hNo D f sz) ([.ref m, .int i9, .int k, .int many, .int what, .int most, .int plc] : List Value).toArray s9 0 0 (hA f sz)) (F0 m9 56 ls [.int y22]) := by
      intro y22 ey22 H locs ls G hl
      replace ey22 := Eq.symm ey22
      subst ey22
      exact g_iret C0 G hr dX9_listed_56 (Nat.le_of_ble_eq_true rfl) (Nat.le_of_ble_eq_true rfl) (by exact ⟨rfl, k20, (fun a9 e9 h7 h8 => hup hf19 (fun q => h7 (by rw [q]; simp)) (h8))⟩)
    refine lv_if_ne (tgt := 55) hx hb dX9_listed_39 (by decide) (fun c21 => ?_) (fun c21 => ?_)
    · have n25 : ¬ (X9_listed_n1 k many what most) = 0 := fun q => c21 ((nI_eq (a := (X9_listed_n1 k many what most)) (b := 0) (by omega) (by omega)).mpr q)
      refine lv_iconst (v := 0) hx hb dX9_listed_55 (by decide) ?_
      exact J23 0 (by rw [X9_listed_x2, if_neg c21]) _ _ _ G (lv_sub hl [0, 1, 2, 3, 4, 5, 6] rfl)
    · have n26 : (X9_listed_n1 k many what most) = 0 := (nI_eq (a := (X9_listed_n1 k many what most)) (b := 0) (by omega) (by omega)).mp c21
      refine lv_aload_n hx hb dX9_listed_42 rfl (lv_at hl 0 rfl) ?_
      refine g_get C0 G k20 rfl hiX9 2 (by decide) mf_X9_9 rfl dX9_listed_43 ?_
      refine lv_iload hx hb dX9_listed_46 (lv_at hl 6 rfl) ?_
      refine lv_iload hx hb dX9_listed_48 (lv_at hl 4 rfl) ?_
      refine lv_iadd hx hb dX9_listed_50 ?_
      have k27 : f19 v = some (.inl (cy 0, 6441, .inl g)) := hup hf19 (hne h_v h_m (by intro q; cases q)) h_v
      refine g_iald C0 G k27 0 rfl (by by_cases q0 : X9_isIn_x1 k 0 (many - 1) = 0 <;> by_cases q1 : X9_isIn_x1 what 0 most = 0 <;> first | exact hplc q0 q1 | (exfalso; have h9 := c21; simp only [X9_listed_n1, X9_listed_n0, q0, q1, if_true, if_false, ↓reduceIte] at h9; exact absurd h9 (by decide))) dX9_listed_51 ?_
      refine lv_goto (tgt := 56) hx hb dX9_listed_52 (by decide) ?_
      exact J23 (g (plc + what).toNatClampNeg) (by rw [X9_listed_x2, if_pos c21]) _ _ _ G (lv_sub hl [0, 1, 2, 3, 4, 5, 6] rfl)
  refine lv_if_ne (tgt := 16) hx hb dX9_listed_9 (by decide) (fun c14 => ?_) (fun c14 => ?_)
  · refine lv_iload hx hb dX9_listed_16 (lv_at hl 4 rfl) ?_
    refine lv_iconst (v := 0) hx hb dX9_listed_18 (by decide) ?_
    refine lv_iload hx hb dX9_listed_19 (lv_at hl 5 rfl) ?_
    refine g_cI C0 G (g_runS C0 G (rest := [.ref m]) (k_X9_isIn hfl what 0 most ) hY_X9_isIn mm_X9_76 ms_X9_isIn ⟨(Nat.le_of_ble_eq_true rfl), (Nat.le_of_ble_eq_true rfl)⟩ rfl hl.1 rfl (Nat.le_of_ble_eq_true rfl) dX9_listed_21 ⟨(Nat.le_of_ble_eq_true rfl), (Nat.le_of_ble_eq_true rfl)⟩) (kx_no rfl) (fun r30 u29 H locs hp28 G => ?_)
    obtain ⟨zr, eu29⟩ := hp28
    replace zr := Eq.symm zr
    subst zr
    rw [eu29] at G
    have J33 : ∀ (y32 : Int32) (_ : y32 = nI (X9_listed_n0 what most)) (H : Heap) (locs : List Loc) (ls : Array Slot), hG D (hA f sz) f s9 H locs → lv_has ls 7 [(0, .ref m), (1, .int i9), (2, .int k), (3, .int many), (4, .int what), (5, .int most), (6, .int plc)] → W p9 l e9 ({ frames := 1, cells := 0, slots := 0, locals := 22 } : Room) s9 m9 ([.ref m, .int i9, .int k, .int many, .int what, .int most, .int plc] : List Value).toArray b9 t9 c9 H locs 0 0 (vx_MQ b9 (hQi (fun r u => r = (X9_listed_x2 g k many what most plc) ∧ u m = some (.inr (11, [.int (nI (X9_listed_n1 k many what most)), .int c_re, .ref v, .ref im, .ref kp, .ref pa, .ref de, .ref ide, .int c_un, .int c_hi, .ref tx, .int c_tn, .int c_fa, .int c_rf, .ref pt, .int c_ps, .int c_pl, .int c_to, .ref so, .ref mo, .ref wh, .ref pf])) ∧ hFrL f u [m]) D f sz) (hPx hNo D f sz) ([.ref m, .int i9, .int k, .int many, .int what, .int most, .int plc] : List Value).toArray s9 0 0 (hA f sz)) (F0 m9 32 ls [.int y32, .ref m]) := by
      intro y32 ey32 H locs ls G hl
      replace ey32 := Eq.symm ey32
      subst ey32
      have bd35 : (X9_listed_n0 what most) ≤ 3 := by unfold X9_listed_n0; repeat (first | omega | split)
      exact J16 (nI (X9_listed_n0 what most)) (by rw [X9_listed_n1, if_neg c14] <;> rfl) _ _ _ G (lv_sub hl [0, 1, 2, 3, 4, 5, 6] rfl)
    refine lv_if_ne (tgt := 31) hx hb dX9_listed_24 (by decide) (fun c31 => ?_) (fun c31 => ?_)
    · refine lv_iconst (v := 0) hx hb dX9_listed_31 (by decide) ?_
      exact J33 0 (by rw [X9_listed_n0, if_neg c31] <;> rfl) _ _ _ G (lv_sub hl [0, 1, 2, 3, 4, 5, 6] rfl)
    · refine lv_iconst (v := 3) hx hb dX9_listed_27 (by decide) ?_
      refine lv_goto (tgt := 32) hx hb dX9_listed_28 (by decide) ?_
      exact J33 3 (by rw [X9_listed_n0, if_pos c31] <;> rfl) _ _ _ G (lv_sub hl [0, 1, 2, 3, 4, 5, 6] rfl)
  · refine lv_iconst (v := 2) hx hb dX9_listed_12 (by decide) ?_
    refine lv_goto (tgt := 32) hx hb dX9_listed_13 (by decide) ?_
    exact J16 2 (by rw [X9_listed_n1, if_pos c14] <;> rfl) _ _ _ G (lv_sub hl [0, 1, 2, 3, 4, 5, 6] rfl)
