set_option maxRecDepth 100000 in
theorem c_X8_nowB {l : Launch} (hfl : l.stackTraces = false) {D : va_G} {cy : Nat → ClassId} {f : Hf} {sz : Nat} {x : Nat} {A : Nat → Nat} {b : Nat} {b2 : Nat} {lg : Nat} {lg_o : Nat} {tx : Nat} {rz : Nat} {ro : Nat} {xea : Int32} {xra : Int32} {xkr : Int32} (what : Int32) (h_x : f x = some (.inr (10, [.ref (A (b + 0)), .ref (A (b2 + 0)), .ref lg, .ref lg_o, .ref tx, .ref rz, .ref ro, .int xea, .int xra, .int xkr]))) (v0 : (X8_isWithin_x1 what 0 8) = 0) : hMet l yX8_now cX8_now 2 (some .int) { frames := 6, cells := 1, slots := 6, locals := 82 } D (hTy cy) f sz [.ref x, .int what] (hQi (fun r u => False) D f sz) (fun E u => E = "java/lang/IllegalArgumentException" ∧ u = f) := by
  refine h_enter (by decide) hfl (Nat.le_of_ble_eq_true rfl) ?_
  intro p9 e9 s9 m9 b9 t9 c9 hsz C0 hr hnm G ls hl
  have hx := C0.1.1
  have hb := C0.1.2.1
  have hl : lv_has ls 2 [(0, .ref x), (1, .int what)] := hl
  refine lv_iload_n hx hb dX8_now_0 rfl (lv_at hl 1 rfl) ?_
  refine lv_iconst (v := 0) hx hb dX8_now_1 (by decide) ?_
  refine lv_bipush (v := 8) hx hb dX8_now_2 (by decide) ?_
  refine g_cI C0 G (g_runS C0 G (rest := []) (c_X8_isWithin hfl what 0 8 ) hY_X8_isWithin mm_X8_56 ms_X8_isWithin ⟨(Nat.le_of_ble_eq_true rfl), (Nat.le_of_ble_eq_true rfl)⟩ rfl hl.1 rfl (Nat.le_of_ble_eq_true rfl) dX8_now_4 ⟨(Nat.le_of_ble_eq_true rfl), (Nat.le_of_ble_eq_true rfl)⟩) (kx_no rfl) (fun r13 u12 H locs hp11 G => ?_)
  obtain ⟨er14, eu12⟩ := hp11
  rw [eu12] at G
  refine lv_topv (v := (X8_isWithin_x1 what 0 8)) er14 ?_
  refine lv_if_ne (tgt := 20) hx hb dX8_now_7 (by decide) (fun c15 => absurd (v0) c15) (fun _ => ?_)
  exact g_throw C0 G (X := "java/lang/IllegalArgumentException") (by decide) mk_X8_60 mz_java_lang_IllegalArgumentException (is := 192) (text := "no such number") (by decide) hat_64 hl.1 dX8_now_10 dX8_now_13 dX8_now_14 dX8_now_16 dX8_now_19 ⟨(Nat.le_of_ble_eq_true rfl), (Nat.le_of_ble_eq_true rfl)⟩ ⟨(Nat.le_of_ble_eq_true rfl), (Nat.le_of_ble_eq_true rfl)⟩ (Nat.le_of_ble_eq_true rfl) (Nat.le_of_ble_eq_true rfl) (by exact ⟨rfl, rfl⟩)
set_option maxRecDepth 100000 in
theorem c_X8_nowN {l : Launch} (hfl : l.stackTraces = false) {D : va_G} {cy : Nat → ClassId} {f : Hf} {sz : Nat} {x : Nat} {lg : Nat} {sa : Nat} {ea : Nat} {A : Nat → Nat} {b : Nat} {b2 : Nat} {lg_o : Nat} {tx : Nat} {rz : Nat} {ro : Nat} {xea : Int32} {xra : Int32} {xkr : Int32} {no : Nat} {lo : Int32} {le : Int32} {lfi : Int32} {nS : Nat} {nC : Nat} {lun : Int32} {qs : Nat → Option Nat} {ge : Nat → Int32} (what : Int32) (h_x : f x = some (.inr (10, [.ref (A (b + 0)), .ref (A (b2 + 0)), .ref lg, .ref lg_o, .ref tx, .ref rz, .ref ro, .int xea, .int xra, .int xkr]))) (h_lg : f lg = some (.inr (3, [.ref no, .ref sa, .ref ea, .int lo, .int le, .int lfi, .int (nI nS), .int (nI nC), .int lun]))) (h_sa : f sa = some (.inl (cy 4, 512, .inr (.inr (.inr (.inr qs)))))) (h_ea : f ea = some (.inl (cy 0, 512, .inl ge))) (v0 : ¬ (X8_isWithin_x1 what 0 8) = 0) (v1 : (X1_hasMatch_x0 le) = 0) : hMet l yX8_now cX8_now 2 (some .int) { frames := 7, cells := 1, slots := 6, locals := 102 } D (hTy cy) f sz [.ref x, .int what] (hQi (fun r u => False) D f sz) (fun E u => E = "java/lang/IllegalStateException" ∧ u x = some (.inr (10, [.ref (A (b + 0)), .ref (A (b2 + 0)), .ref lg, .ref lg_o, .ref tx, .ref rz, .ref ro, .int xea, .int xra, .int 1])) ∧ hFrL f u [x]) := by
  refine h_enter (by decide) hfl (Nat.le_of_ble_eq_true rfl) ?_
  intro p9 e9 s9 m9 b9 t9 c9 hsz C0 hr hnm G ls hl
  have hx := C0.1.1
  have hb := C0.1.2.1
  have hl : lv_has ls 2 [(0, .ref x), (1, .int what)] := hl
  refine lv_iload_n hx hb dX8_now_0 rfl (lv_at hl 1 rfl) ?_
  refine lv_iconst (v := 0) hx hb dX8_now_1 (by decide) ?_
  refine lv_bipush (v := 8) hx hb dX8_now_2 (by decide) ?_
  refine g_cI C0 G (g_runS C0 G (rest := []) (c_X8_isWithin hfl what 0 8 ) hY_X8_isWithin mm_X8_56 ms_X8_isWithin ⟨(Nat.le_of_ble_eq_true rfl), (Nat.le_of_ble_eq_true rfl)⟩ rfl hl.1 rfl (Nat.le_of_ble_eq_true rfl) dX8_now_4 ⟨(Nat.le_of_ble_eq_true rfl), (Nat.le_of_ble_eq_true rfl)⟩) (kx_no rfl) (fun r13 u12 H locs hp11 G => ?_)
  obtain ⟨er14, eu12⟩ := hp11
  rw [eu12] at G
  refine lv_topv (v := (X8_isWithin_x1 what 0 8)) er14 ?_
  refine lv_if_ne (tgt := 20) hx hb dX8_now_7 (by decide) (fun _ => ?_) (fun c15 => absurd c15 (v0))
  refine lv_aload_n hx hb dX8_now_20 rfl (lv_at hl 0 rfl) ?_
  exact g_cV C0 G (g_runV C0 G (rest := []) (c_X8_demandMatchN hfl (A := A) (b := b) (b2 := b2) (xea := xea) (xra := xra) (xkr := xkr) (lo := lo) (le := le) (lfi := lfi) (nS := nS) (nC := nC) (lun := lun) (qs := qs) (ge := ge) h_x h_lg h_sa h_ea v1) h_x rfl hY_X8_demandMatch mm_X8_194 mi_X8_demandMatch ml_X8_demandMatch ⟨(Nat.le_of_ble_eq_true rfl), (Nat.le_of_ble_eq_true rfl)⟩ rfl hl.1 rfl (Nat.le_of_ble_eq_true rfl) dX8_now_21 ⟨(Nat.le_of_ble_eq_true rfl), (Nat.le_of_ble_eq_true rfl)⟩) (kx_out C0 (Nat.le_of_ble_eq_true rfl) (Nat.le_of_ble_eq_true rfl) (fun E9 u9 h9 => by
      obtain ⟨hE9, k16, fr17⟩ := h9
      exact ⟨hE9, k16, (fun a9 e9 h7 h8 => fr17 _ _ (fun q => h7 (by simp only [List.mem_cons, List.not_mem_nil, or_false] at q ⊢; first | exact q | (rcases q with q <;> simp [q]) | omega)) (h8))⟩)) (fun _ _ _ h9 _ => (h9).elim)
def X8_now0_r0 (cm : Nat → Int32) (cs : Nat → Nat → Nat → Int32) (what : Int32) : Int32 := (X2_numberOfPresent0_r2 (cm 1) (cm 3) (cs 0 6 8) (cs 0 6 9) (cs 0 6 10) (cs 0 6 11) (cs 0 1) (cs 0 6 0) (cs 0 6 3) (cs 0 6 5) (cs 0 6 7) what)
set_option maxRecDepth 100000 in
theorem c_X8_now0 {l : Launch} (hfl : l.stackTraces = false) {D : va_G} {cy : Nat → ClassId} {f : Hf} {sz : Nat} {x : Nat} {lg : Nat} {sa : Nat} {ea : Nat} {A : Nat → Nat} {b : Nat} {b2 : Nat} {lg_o : Nat} {tx : Nat} {rz : Nat} {ro : Nat} {xea : Int32} {xra : Int32} {xkr : Int32} {no : Nat} {lo : Int32} {le : Int32} {lfi : Int32} {nS : Nat} {nC : Nat} {lun : Int32} {qs : Nat → Option Nat} {ge : Nat → Int32} {q : Nat → Option Nat} {cm : Nat → Int32} {cs : Nat → Nat → Nat → Int32} (what : Int32) (h_x : f x = some (.inr (10, [.ref (A (b + 0)), .ref (A (b2 + 0)), .ref lg, .ref lg_o, .ref tx, .ref rz, .ref ro, .int xea, .int xra, .int xkr]))) (h_lg : f lg = some (.inr (3, [.ref no, .ref sa, .ref ea, .int lo, .int le, .int lfi, .int (nI nS), .int (nI nC), .int lun]))) (h_sa : f sa = some (.inl (cy 4, 512, .inr (.inr (.inr (.inr qs)))))) (h_ea : f ea = some (.inl (cy 0, 512, .inl ge))) (hAj : ∀ i j : Nat, i ≠ j → A i ≠ A j) (hM : MW A b cy q cm cs f) (hQ : HQ A b q) (n_sa : sa ∉ MA A b) (n_ea : ea ∉ MA A b) (v0 : ¬ (X8_isWithin_x1 what 0 8) = 0) (v1 : ¬ (X1_hasMatch_x0 le) = 0) (h4 : cm 4 = 0) (hr1 : cs 0 7 1 = 11) : hMet l yX8_now cX8_now 2 (some .int) { frames := 4, cells := 0, slots := 0, locals := 89 } D (hTy cy) f sz [.ref x, .int what] (hQi (fun r u => r = (X8_now0_r0 cm cs what) ∧ MW A b cy q cm cs u ∧ hFrL f u []) D f sz) hNo := by
  refine h_enter (by decide) hfl (Nat.le_of_ble_eq_true rfl) ?_
  intro p9 e9 s9 m9 b9 t9 c9 hsz C0 hr hnm G ls hl
  have hx := C0.1.1
  have hb := C0.1.2.1
  have hl : lv_has ls 2 [(0, .ref x), (1, .int what)] := hl
  refine lv_iload_n hx hb dX8_now_0 rfl (lv_at hl 1 rfl) ?_
  refine lv_iconst (v := 0) hx hb dX8_now_1 (by decide) ?_
  refine lv_bipush (v := 8) hx hb dX8_now_2 (by decide) ?_
  refine g_cI C0 G (g_runS C0 G (rest := []) (c_X8_isWithin hfl what 0 8 ) hY_X8_isWithin mm_X8_56 ms_X8_isWithin ⟨(Nat.le_of_ble_eq_true rfl), (Nat.le_of_ble_eq_true rfl)⟩ rfl hl.1 rfl (Nat.le_of_ble_eq_true rfl) dX8_now_4 ⟨(Nat.le_of_ble_eq_true rfl), (Nat.le_of_ble_eq_true rfl)⟩) (kx_no rfl) (fun r13 u12 H locs hp11 G => ?_)
  obtain ⟨er14, eu12⟩ := hp11
  rw [eu12] at G
  refine lv_topv (v := (X8_isWithin_x1 what 0 8)) er14 ?_
  refine lv_if_ne (tgt := 20) hx hb dX8_now_7 (by decide) (fun _ => ?_) (fun c15 => absurd c15 (v0))
  refine lv_aload_n hx hb dX8_now_20 rfl (lv_at hl 0 rfl) ?_
  refine g_cV C0 G (g_runV C0 G (rest := []) (c_X8_demandMatchO hfl (A := A) (b := b) (b2 := b2) (xea := xea) (xra := xra) (xkr := xkr) (lo := lo) (le := le) (lfi := lfi) (nS := nS) (nC := nC) (lun := lun) (qs := qs) (ge := ge) h_x h_lg h_sa h_ea v1) h_x rfl hY_X8_demandMatch mm_X8_194 mi_X8_demandMatch ml_X8_demandMatch ⟨(Nat.le_of_ble_eq_true rfl), (Nat.le_of_ble_eq_true rfl)⟩ rfl hl.1 rfl (Nat.le_of_ble_eq_true rfl) dX8_now_21 ⟨(Nat.le_of_ble_eq_true rfl), (Nat.le_of_ble_eq_true rfl)⟩) (kx_no rfl) (fun u17 H locs hp16 G => ?_)
  have eu17 := hp16
  rw [eu17] at G
  refine lv_aload_n hx hb dX8_now_24 rfl (lv_at hl 0 rfl) ?_
  refine g_get C0 G h_x rfl hiX8 0 (by decide) mf_X8_10 rfl dX8_now_25 ?_
  refine lv_iload_n hx hb dX8_now_28 rfl (lv_at hl 1 rfl) ?_
  have k18 : f (A (b + 0)) = some (.inr (4, [.ref (A (b + 1)), .int (cm 0), .int (cm 1), .int (cm 2), .int (cm 3), .int 0])) := by have h9 : f (A (b + 0)) = some (.inr (4, [.ref (A (b + 1)), .int (cm 0), .int (cm 1), .int (cm 2), .int (cm 3), .int (cm 4)])) := hM 0 (by omega); rw [h4] at h9; exact h9
  have k19 : f (A (b + 1)) = some (.inl (cy 3, 4, .inr (.inr (.inr (.inr q))))) := hM 1 (by omega)
  have k20 : f (A (b + 2)) = some (.inr (2, [.ref (A (b + 3)), .ref (A (b + 5)), .ref (A (b + 7)), .ref (A (b + 9)), .ref (A (b + 11)), .ref (A (b + 13)), .int (cs 0 6 8), .int (cs 0 6 9), .int (cs 0 6 10), .int (cs 0 6 11), .int (cs 0 6 12)])) := hM 2 (by omega)
  have k21 : f (A (b + 5)) = some (.inr (8, [.int 6, .ref (A (b + 6)), .int 11])) := by have h9 : f (A (b + 5)) = some (.inr (8, [.int 6, .ref (A (b + 6)), .int (cs 0 7 1)])) := hM 5 (by omega); rw [hr1] at h9; exact h9
  have k22 : f (A (b + 6)) = some (.inl (cy 0, 66, .inl (cs 0 1))) := hM 6 (by omega)
  have k23 : f (A (b + 13)) = some (.inr (5, [.ref (A (b + 14)), .int (cs 0 6 0), .int (cs 0 6 1), .int (cs 0 6 2), .int (cs 0 6 3), .int (cs 0 6 4), .int (cs 0 6 5), .int (cs 0 6 6), .int (cs 0 6 7)])) := hM 13 (by omega)
  have k24 : f (A (b + 14)) = some (.inl (cy 0, 20, .inl (cs 0 5))) := hM 14 (by omega)
  refine g_cI C0 G (g_runV C0 G (rest := []) (c_X2_numberOfPresent0 hfl (A := A) (b := b) (ex := (cm 0)) (ov := (cm 1)) (ie := (cm 2)) (fi := (cm 3)) (q := q) (rs := (cs 0 6 8)) (sk := (cs 0 6 9)) (ot := (cs 0 6 10)) (ch := (cs 0 6 11)) (nc := (cs 0 6 12)) (g1 := (cs 0 1)) (lm := (cs 0 6 0)) (lf := (cs 0 6 1)) (oc := (cs 0 6 2)) (bw := (cs 0 6 3)) (bb := (cs 0 6 4)) (bl := (cs 0 6 5)) (cd := (cs 0 6 6)) (hbg := (cs 0 6 7)) (go := (cs 0 5)) what k18 k19 k20 k21 k22 k23 k24 hAj hQ.1 hQ.2.1 hQ.2.2.1 hQ.2.2.2) k18 rfl hY_X2_numberOfPresent mm_X8_197 mi_X2_numberOfPresent ml_X2_numberOfPresent ⟨(Nat.le_of_ble_eq_true rfl), (Nat.le_of_ble_eq_true rfl)⟩ rfl hl.1 rfl (Nat.le_of_ble_eq_true rfl) dX8_now_29 ⟨(Nat.le_of_ble_eq_true rfl), (Nat.le_of_ble_eq_true rfl)⟩) (kx_no rfl) (fun r27 u26 H locs hp25 G => ?_)
  obtain ⟨er28, eu26⟩ := hp25
  rw [eu26] at G
  refine lv_topv (v := (X2_numberOfPresent0_r2 (cm 1) (cm 3) (cs 0 6 8) (cs 0 6 9) (cs 0 6 10) (cs 0 6 11) (cs 0 1) (cs 0 6 0) (cs 0 6 3) (cs 0 6 5) (cs 0 6 7) what)) er28 ?_
  exact g_iret C0 G hr dX8_now_32 (Nat.le_of_ble_eq_true rfl) (Nat.le_of_ble_eq_true rfl) (by exact ⟨(by rw [X8_now0_r0]), hM, (fun a9 e9 h7 h8 => h8)⟩)
def X8_now1_r0 (cm : Nat → Int32) (cs : Nat → Nat → Nat → Int32) (what : Int32) : Int32 := (X2_numberOfPresent1_r2 (cm 1) (cm 3) (cs 1 6 8) (cs 1 6 9) (cs 1 6 10) (cs 1 6 11) (cs 1 1) (cs 1 6 0) (cs 1 6 3) (cs 1 6 5) (cs 1 6 7) what)
set_option maxRecDepth 100000 in
theorem c_X8_now1 {l : Launch} (hfl : l.stackTraces = false) {D : va_G} {cy : Nat → ClassId} {f : Hf} {sz : Nat} {x : Nat} {lg : Nat} {sa : Nat} {ea : Nat} {A : Nat → Nat} {b : Nat} {b2 : Nat} {lg_o : Nat} {tx : Nat} {rz : Nat} {ro : Nat} {xea : Int32} {xra : Int32} {xkr : Int32} {no : Nat} {lo : Int32} {le : Int32} {lfi : Int32} {nS : Nat} {nC : Nat} {lun : Int32} {qs : Nat → Option Nat} {ge : Nat → Int32} {q : Nat → Option Nat} {cm : Nat → Int32} {cs : Nat → Nat → Nat → Int32} (what : Int32) (h_x : f x = some (.inr (10, [.ref (A (b + 0)), .ref (A (b2 + 0)), .ref lg, .ref lg_o, .ref tx, .ref rz, .ref ro, .int xea, .int xra, .int xkr]))) (h_lg : f lg = some (.inr (3, [.ref no, .ref sa, .ref ea, .int lo, .int le, .int lfi, .int (nI nS), .int (nI nC), .int lun]))) (h_sa : f sa = some (.inl (cy 4, 512, .inr (.inr (.inr (.inr qs)))))) (h_ea : f ea = some (.inl (cy 0, 512, .inl ge))) (hAj : ∀ i j : Nat, i ≠ j → A i ≠ A j) (hM : MW A b cy q cm cs f) (hQ : HQ A b q) (n_sa : sa ∉ MA A b) (n_ea : ea ∉ MA A b) (v0 : ¬ (X8_isWithin_x1 what 0 8) = 0) (v1 : ¬ (X1_hasMatch_x0 le) = 0) (h4 : cm 4 = 1) (hr1 : cs 1 7 1 = 11) : hMet l yX8_now cX8_now 2 (some .int) { frames := 4, cells := 0, slots := 0, locals := 89 } D (hTy cy) f sz [.ref x, .int what] (hQi (fun r u => r = (X8_now1_r0 cm cs what) ∧ MW A b cy q cm cs u ∧ hFrL f u []) D f sz) hNo := by
  refine h_enter (by decide) hfl (Nat.le_of_ble_eq_true rfl) ?_
  intro p9 e9 s9 m9 b9 t9 c9 hsz C0 hr hnm G ls hl
  have hx := C0.1.1
  have hb := C0.1.2.1
  have hl : lv_has ls 2 [(0, .ref x), (1, .int what)] := hl
  refine lv_iload_n hx hb dX8_now_0 rfl (lv_at hl 1 rfl) ?_
  refine lv_iconst (v := 0) hx hb dX8_now_1 (by decide) ?_
  refine lv_bipush (v := 8) hx hb dX8_now_2 (by decide) ?_
  refine g_cI C0 G (g_runS C0 G (rest := []) (c_X8_isWithin hfl what 0 8 ) hY_X8_isWithin mm_X8_56 ms_X8_isWithin ⟨(Nat.le_of_ble_eq_true rfl), (Nat.le_of_ble_eq_true rfl)⟩ rfl hl.1 rfl (Nat.le_of_ble_eq_true rfl) dX8_now_4 ⟨(Nat.le_of_ble_eq_true rfl), (Nat.le_of_ble_eq_true rfl)⟩) (kx_no rfl) (fun r13 u12 H locs hp11 G => ?_)
  obtain ⟨er14, eu12⟩ := hp11
  rw [eu12] at G
  refine lv_topv (v := (X8_isWithin_x1 what 0 8)) er14 ?_
  refine lv_if_ne (tgt := 20) hx hb dX8_now_7 (by decide) (fun _ => ?_) (fun c15 => absurd c15 (v0))
  refine lv_aload_n hx hb dX8_now_20 rfl (lv_at hl 0 rfl) ?_
  refine g_cV C0 G (g_runV C0 G (rest := []) (c_X8_demandMatchO hfl (A := A) (b := b) (b2 := b2) (xea := xea) (xra := xra) (xkr := xkr) (lo := lo) (le := le) (lfi := lfi) (nS := nS) (nC := nC) (lun := lun) (qs := qs) (ge := ge) h_x h_lg h_sa h_ea v1) h_x rfl hY_X8_demandMatch mm_X8_194 mi_X8_demandMatch ml_X8_demandMatch ⟨(Nat.le_of_ble_eq_true rfl), (Nat.le_of_ble_eq_true rfl)⟩ rfl hl.1 rfl (Nat.le_of_ble_eq_true rfl) dX8_now_21 ⟨(Nat.le_of_ble_eq_true rfl), (Nat.le_of_ble_eq_true rfl)⟩) (kx_no rfl) (fun u17 H locs hp16 G => ?_)
  have eu17 := hp16
  rw [eu17] at G
  refine lv_aload_n hx hb dX8_now_24 rfl (lv_at hl 0 rfl) ?_
  refine g_get C0 G h_x rfl hiX8 0 (by decide) mf_X8_10 rfl dX8_now_25 ?_
  refine lv_iload_n hx hb dX8_now_28 rfl (lv_at hl 1 rfl) ?_
  have k18 : f (A (b + 0)) = some (.inr (4, [.ref (A (b + 1)), .int (cm 0), .int (cm 1), .int (cm 2), .int (cm 3), .int 1])) := by have h9 : f (A (b + 0)) = some (.inr (4, [.ref (A (b + 1)), .int (cm 0), .int (cm 1), .int (cm 2), .int (cm 3), .int (cm 4)])) := hM 0 (by omega); rw [h4] at h9; exact h9
  have k19 : f (A (b + 1)) = some (.inl (cy 3, 4, .inr (.inr (.inr (.inr q))))) := hM 1 (by omega)
  have k20 : f (A (b + 15)) = some (.inr (2, [.ref (A (b + 16)), .ref (A (b + 18)), .ref (A (b + 20)), .ref (A (b + 22)), .ref (A (b + 24)), .ref (A (b + 26)), .int (cs 1 6 8), .int (cs 1 6 9), .int (cs 1 6 10), .int (cs 1 6 11), .int (cs 1 6 12)])) := hM 15 (by omega)
  have k21 : f (A (b + 18)) = some (.inr (8, [.int 6, .ref (A (b + 19)), .int 11])) := by have h9 : f (A (b + 18)) = some (.inr (8, [.int 6, .ref (A (b + 19)), .int (cs 1 7 1)])) := hM 18 (by omega); rw [hr1] at h9; exact h9
  have k22 : f (A (b + 19)) = some (.inl (cy 0, 66, .inl (cs 1 1))) := hM 19 (by omega)
  have k23 : f (A (b + 26)) = some (.inr (5, [.ref (A (b + 27)), .int (cs 1 6 0), .int (cs 1 6 1), .int (cs 1 6 2), .int (cs 1 6 3), .int (cs 1 6 4), .int (cs 1 6 5), .int (cs 1 6 6), .int (cs 1 6 7)])) := hM 26 (by omega)
  have k24 : f (A (b + 27)) = some (.inl (cy 0, 20, .inl (cs 1 5))) := hM 27 (by omega)
  refine g_cI C0 G (g_runV C0 G (rest := []) (c_X2_numberOfPresent1 hfl (A := A) (b := b) (ex := (cm 0)) (ov := (cm 1)) (ie := (cm 2)) (fi := (cm 3)) (q := q) (rs := (cs 1 6 8)) (sk := (cs 1 6 9)) (ot := (cs 1 6 10)) (ch := (cs 1 6 11)) (nc := (cs 1 6 12)) (g1 := (cs 1 1)) (lm := (cs 1 6 0)) (lf := (cs 1 6 1)) (oc := (cs 1 6 2)) (bw := (cs 1 6 3)) (bb := (cs 1 6 4)) (bl := (cs 1 6 5)) (cd := (cs 1 6 6)) (hbg := (cs 1 6 7)) (go := (cs 1 5)) what k18 k19 k20 k21 k22 k23 k24 hAj hQ.1 hQ.2.1 hQ.2.2.1 hQ.2.2.2) k18 rfl hY_X2_numberOfPresent mm_X8_197 mi_X2_numberOfPresent ml_X2_numberOfPresent ⟨(Nat.le_of_ble_eq_true rfl), (Nat.le_of_ble_eq_true rfl)⟩ rfl hl.1 rfl (Nat.le_of_ble_eq_true rfl) dX8_now_29 ⟨(Nat.le_of_ble_eq_true rfl), (Nat.le_of_ble_eq_true rfl)⟩) (kx_no rfl) (fun r27 u26 H locs hp25 G => ?_)
  obtain ⟨er28, eu26⟩ := hp25
  rw [eu26] at G
  refine lv_topv (v := (X2_numberOfPresent1_r2 (cm 1) (cm 3) (cs 1 6 8) (cs 1 6 9) (cs 1 6 10) (cs 1 6 11) (cs 1 1) (cs 1 6 0) (cs 1 6 3) (cs 1 6 5) (cs 1 6 7) what)) er28 ?_
  exact g_iret C0 G hr dX8_now_32 (Nat.le_of_ble_eq_true rfl) (Nat.le_of_ble_eq_true rfl) (by exact ⟨(by rw [X8_now1_r0]), hM, (fun a9 e9 h7 h8 => h8)⟩)
def X8_now2_r0 (cm : Nat → Int32) (cs : Nat → Nat → Nat → Int32) (what : Int32) : Int32 := (X2_numberOfPresent2_r2 (cm 1) (cm 3) (cs 2 6 8) (cs 2 6 9) (cs 2 6 10) (cs 2 6 11) (cs 2 1) (cs 2 6 0) (cs 2 6 3) (cs 2 6 5) (cs 2 6 7) what)
set_option maxRecDepth 100000 in
theorem c_X8_now2 {l : Launch} (hfl : l.stackTraces = false) {D : va_G} {cy : Nat → ClassId} {f : Hf} {sz : Nat} {x : Nat} {lg : Nat} {sa : Nat} {ea : Nat} {A : Nat → Nat} {b : Nat} {b2 : Nat} {lg_o : Nat} {tx : Nat} {rz : Nat} {ro : Nat} {xea : Int32} {xra : Int32} {xkr : Int32} {no : Nat} {lo : Int32} {le : Int32} {lfi : Int32} {nS : Nat} {nC : Nat} {lun : Int32} {qs : Nat → Option Nat} {ge : Nat → Int32} {q : Nat → Option Nat} {cm : Nat → Int32} {cs : Nat → Nat → Nat → Int32} (what : Int32) (h_x : f x = some (.inr (10, [.ref (A (b + 0)), .ref (A (b2 + 0)), .ref lg, .ref lg_o, .ref tx, .ref rz, .ref ro, .int xea, .int xra, .int xkr]))) (h_lg : f lg = some (.inr (3, [.ref no, .ref sa, .ref ea, .int lo, .int le, .int lfi, .int (nI nS), .int (nI nC), .int lun]))) (h_sa : f sa = some (.inl (cy 4, 512, .inr (.inr (.inr (.inr qs)))))) (h_ea : f ea = some (.inl (cy 0, 512, .inl ge))) (hAj : ∀ i j : Nat, i ≠ j → A i ≠ A j) (hM : MW A b cy q cm cs f) (hQ : HQ A b q) (n_sa : sa ∉ MA A b) (n_ea : ea ∉ MA A b) (v0 : ¬ (X8_isWithin_x1 what 0 8) = 0) (v1 : ¬ (X1_hasMatch_x0 le) = 0) (h4 : cm 4 = 2) (hr1 : cs 2 7 1 = 11) : hMet l yX8_now cX8_now 2 (some .int) { frames := 4, cells := 0, slots := 0, locals := 89 } D (hTy cy) f sz [.ref x, .int what] (hQi (fun r u => r = (X8_now2_r0 cm cs what) ∧ MW A b cy q cm cs u ∧ hFrL f u []) D f sz) hNo := by
  refine h_enter (by decide) hfl (Nat.le_of_ble_eq_true rfl) ?_
  intro p9 e9 s9 m9 b9 t9 c9 hsz C0 hr hnm G ls hl
  have hx := C0.1.1
  have hb := C0.1.2.1
  have hl : lv_has ls 2 [(0, .ref x), (1, .int what)] := hl
  refine lv_iload_n hx hb dX8_now_0 rfl (lv_at hl 1 rfl) ?_
  refine lv_iconst (v := 0) hx hb dX8_now_1 (by decide) ?_
  refine lv_bipush (v := 8) hx hb dX8_now_2 (by decide) ?_
  refine g_cI C0 G (g_runS C0 G (rest := []) (c_X8_isWithin hfl what 0 8 ) hY_X8_isWithin mm_X8_56 ms_X8_isWithin ⟨(Nat.le_of_ble_eq_true rfl), (Nat.le_of_ble_eq_true rfl)⟩ rfl hl.1 rfl (Nat.le_of_ble_eq_true rfl) dX8_now_4 ⟨(Nat.le_of_ble_eq_true rfl), (Nat.le_of_ble_eq_true rfl)⟩) (kx_no rfl) (fun r13 u12 H locs hp11 G => ?_)
  obtain ⟨er14, eu12⟩ := hp11
  rw [eu12] at G
  refine lv_topv (v := (X8_isWithin_x1 what 0 8)) er14 ?_
  refine lv_if_ne (tgt := 20) hx hb dX8_now_7 (by decide) (fun _ => ?_) (fun c15 => absurd c15 (v0))
  refine lv_aload_n hx hb dX8_now_20 rfl (lv_at hl 0 rfl) ?_
  refine g_cV C0 G (g_runV C0 G (rest := []) (c_X8_demandMatchO hfl (A := A) (b := b) (b2 := b2) (xea := xea) (xra := xra) (xkr := xkr) (lo := lo) (le := le) (lfi := lfi) (nS := nS) (nC := nC) (lun := lun) (qs := qs) (ge := ge) h_x h_lg h_sa h_ea v1) h_x rfl hY_X8_demandMatch mm_X8_194 mi_X8_demandMatch ml_X8_demandMatch ⟨(Nat.le_of_ble_eq_true rfl), (Nat.le_of_ble_eq_true rfl)⟩ rfl hl.1 rfl (Nat.le_of_ble_eq_true rfl) dX8_now_21 ⟨(Nat.le_of_ble_eq_true rfl), (Nat.le_of_ble_eq_true rfl)⟩) (kx_no rfl) (fun u17 H locs hp16 G => ?_)
  have eu17 := hp16
  rw [eu17] at G
  refine lv_aload_n hx hb dX8_now_24 rfl (lv_at hl 0 rfl) ?_
  refine g_get C0 G h_x rfl hiX8 0 (by decide) mf_X8_10 rfl dX8_now_25 ?_
  refine lv_iload_n hx hb dX8_now_28 rfl (lv_at hl 1 rfl) ?_
  have k18 : f (A (b + 0)) = some (.inr (4, [.ref (A (b + 1)), .int (cm 0), .int (cm 1), .int (cm 2), .int (cm 3), .int 2])) := by have h9 : f (A (b + 0)) = some (.inr (4, [.ref (A (b + 1)), .int (cm 0), .int (cm 1), .int (cm 2), .int (cm 3), .int (cm 4)])) := hM 0 (by omega); rw [h4] at h9; exact h9
  have k19 : f (A (b + 1)) = some (.inl (cy 3, 4, .inr (.inr (.inr (.inr q))))) := hM 1 (by omega)
  have k20 : f (A (b + 28)) = some (.inr (2, [.ref (A (b + 29)), .ref (A (b + 31)), .ref (A (b + 33)), .ref (A (b + 35)), .ref (A (b + 37)), .ref (A (b + 39)), .int (cs 2 6 8), .int (cs 2 6 9), .int (cs 2 6 10), .int (cs 2 6 11), .int (cs 2 6 12)])) := hM 28 (by omega)
  have k21 : f (A (b + 31)) = some (.inr (8, [.int 6, .ref (A (b + 32)), .int 11])) := by have h9 : f (A (b + 31)) = some (.inr (8, [.int 6, .ref (A (b + 32)), .int (cs 2 7 1)])) := hM 31 (by omega); rw [hr1] at h9; exact h9
  have k22 : f (A (b + 32)) = some (.inl (cy 0, 66, .inl (cs 2 1))) := hM 32 (by omega)
  have k23 : f (A (b + 39)) = some (.inr (5, [.ref (A (b + 40)), .int (cs 2 6 0), .int (cs 2 6 1), .int (cs 2 6 2), .int (cs 2 6 3), .int (cs 2 6 4), .int (cs 2 6 5), .int (cs 2 6 6), .int (cs 2 6 7)])) := hM 39 (by omega)
  have k24 : f (A (b + 40)) = some (.inl (cy 0, 20, .inl (cs 2 5))) := hM 40 (by omega)
  refine g_cI C0 G (g_runV C0 G (rest := []) (c_X2_numberOfPresent2 hfl (A := A) (b := b) (ex := (cm 0)) (ov := (cm 1)) (ie := (cm 2)) (fi := (cm 3)) (q := q) (rs := (cs 2 6 8)) (sk := (cs 2 6 9)) (ot := (cs 2 6 10)) (ch := (cs 2 6 11)) (nc := (cs 2 6 12)) (g1 := (cs 2 1)) (lm := (cs 2 6 0)) (lf := (cs 2 6 1)) (oc := (cs 2 6 2)) (bw := (cs 2 6 3)) (bb := (cs 2 6 4)) (bl := (cs 2 6 5)) (cd := (cs 2 6 6)) (hbg := (cs 2 6 7)) (go := (cs 2 5)) what k18 k19 k20 k21 k22 k23 k24 hAj hQ.1 hQ.2.1 hQ.2.2.1 hQ.2.2.2) k18 rfl hY_X2_numberOfPresent mm_X8_197 mi_X2_numberOfPresent ml_X2_numberOfPresent ⟨(Nat.le_of_ble_eq_true rfl), (Nat.le_of_ble_eq_true rfl)⟩ rfl hl.1 rfl (Nat.le_of_ble_eq_true rfl) dX8_now_29 ⟨(Nat.le_of_ble_eq_true rfl), (Nat.le_of_ble_eq_true rfl)⟩) (kx_no rfl) (fun r27 u26 H locs hp25 G => ?_)
  obtain ⟨er28, eu26⟩ := hp25
  rw [eu26] at G
  refine lv_topv (v := (X2_numberOfPresent2_r2 (cm 1) (cm 3) (cs 2 6 8) (cs 2 6 9) (cs 2 6 10) (cs 2 6 11) (cs 2 1) (cs 2 6 0) (cs 2 6 3) (cs 2 6 5) (cs 2 6 7) what)) er28 ?_
  exact g_iret C0 G hr dX8_now_32 (Nat.le_of_ble_eq_true rfl) (Nat.le_of_ble_eq_true rfl) (by exact ⟨(by rw [X8_now2_r0]), hM, (fun a9 e9 h7 h8 => h8)⟩)
def X8_now3_r0 (cm : Nat → Int32) (cs : Nat → Nat → Nat → Int32) (what : Int32) : Int32 := (X2_numberOfPresent3_r2 (cm 1) (cm 3) (cs 3 6 8) (cs 3 6 9) (cs 3 6 10) (cs 3 6 11) (cs 3 1) (cs 3 6 0) (cs 3 6 3) (cs 3 6 5) (cs 3 6 7) what)
set_option maxRecDepth 100000 in
theorem c_X8_now3 {l : Launch} (hfl : l.stackTraces = false) {D : va_G} {cy : Nat → ClassId} {f : Hf} {sz : Nat} {x : Nat} {lg : Nat} {sa : Nat} {ea : Nat} {A : Nat → Nat} {b : Nat} {b2 : Nat} {lg_o : Nat} {tx : Nat} {rz : Nat} {ro : Nat} {xea : Int32} {xra : Int32} {xkr : Int32} {no : Nat} {lo : Int32} {le : Int32} {lfi : Int32} {nS : Nat} {nC : Nat} {lun : Int32} {qs : Nat → Option Nat} {ge : Nat → Int32} {q : Nat → Option Nat} {cm : Nat → Int32} {cs : Nat → Nat → Nat → Int32} (what : Int32) (h_x : f x = some (.inr (10, [.ref (A (b + 0)), .ref (A (b2 + 0)), .ref lg, .ref lg_o, .ref tx, .ref rz, .ref ro, .int xea, .int xra, .int xkr]))) (h_lg : f lg = some (.inr (3, [.ref no, .ref sa, .ref ea, .int lo, .int le, .int lfi, .int (nI nS), .int (nI nC), .int lun]))) (h_sa : f sa = some (.inl (cy 4, 512, .inr (.inr (.inr (.inr qs)))))) (h_ea : f ea = some (.inl (cy 0, 512, .inl ge))) (hAj : ∀ i j : Nat, i ≠ j → A i ≠ A j) (hM : MW A b cy q cm cs f) (hQ : HQ A b q) (n_sa : sa ∉ MA A b) (n_ea : ea ∉ MA A b) (v0 : ¬ (X8_isWithin_x1 what 0 8) = 0) (v1 : ¬ (X1_hasMatch_x0 le) = 0) (h4 : cm 4 = 3) (hr1 : cs 3 7 1 = 11) : hMet l yX8_now cX8_now 2 (some .int) { frames := 4, cells := 0, slots := 0, locals := 89 } D (hTy cy) f sz [.ref x, .int what] (hQi (fun r u => r = (X8_now3_r0 cm cs what) ∧ MW A b cy q cm cs u ∧ hFrL f u []) D f sz) hNo := by
  refine h_enter (by decide) hfl (Nat.le_of_ble_eq_true rfl) ?_
  intro p9 e9 s9 m9 b9 t9 c9 hsz C0 hr hnm G ls hl
  have hx := C0.1.1
  have hb := C0.1.2.1
  have hl : lv_has ls 2 [(0, .ref x), (1, .int what)] := hl
  refine lv_iload_n hx hb dX8_now_0 rfl (lv_at hl 1 rfl) ?_
  refine lv_iconst (v := 0) hx hb dX8_now_1 (by decide) ?_
  refine lv_bipush (v := 8) hx hb dX8_now_2 (by decide) ?_
  refine g_cI C0 G (g_runS C0 G (rest := []) (c_X8_isWithin hfl what 0 8 ) hY_X8_isWithin mm_X8_56 ms_X8_isWithin ⟨(Nat.le_of_ble_eq_true rfl), (Nat.le_of_ble_eq_true rfl)⟩ rfl hl.1 rfl (Nat.le_of_ble_eq_true rfl) dX8_now_4 ⟨(Nat.le_of_ble_eq_true rfl), (Nat.le_of_ble_eq_true rfl)⟩) (kx_no rfl) (fun r13 u12 H locs hp11 G => ?_)
  obtain ⟨er14, eu12⟩ := hp11
  rw [eu12] at G
  refine lv_topv (v := (X8_isWithin_x1 what 0 8)) er14 ?_
  refine lv_if_ne (tgt := 20) hx hb dX8_now_7 (by decide) (fun _ => ?_) (fun c15 => absurd c15 (v0))
  refine lv_aload_n hx hb dX8_now_20 rfl (lv_at hl 0 rfl) ?_
  refine g_cV C0 G (g_runV C0 G (rest := []) (c_X8_demandMatchO hfl (A := A) (b := b) (b2 := b2) (xea := xea) (xra := xra) (xkr := xkr) (lo := lo) (le := le) (lfi := lfi) (nS := nS) (nC := nC) (lun := lun) (qs := qs) (ge := ge) h_x h_lg h_sa h_ea v1) h_x rfl hY_X8_demandMatch mm_X8_194 mi_X8_demandMatch ml_X8_demandMatch ⟨(Nat.le_of_ble_eq_true rfl), (Nat.le_of_ble_eq_true rfl)⟩ rfl hl.1 rfl (Nat.le_of_ble_eq_true rfl) dX8_now_21 ⟨(Nat.le_of_ble_eq_true rfl), (Nat.le_of_ble_eq_true rfl)⟩) (kx_no rfl) (fun u17 H locs hp16 G => ?_)
  have eu17 := hp16
  rw [eu17] at G
  refine lv_aload_n hx hb dX8_now_24 rfl (lv_at hl 0 rfl) ?_
  refine g_get C0 G h_x rfl hiX8 0 (by decide) mf_X8_10 rfl dX8_now_25 ?_
  refine lv_iload_n hx hb dX8_now_28 rfl (lv_at hl 1 rfl) ?_
  have k18 : f (A (b + 0)) = some (.inr (4, [.ref (A (b + 1)), .int (cm 0), .int (cm 1), .int (cm 2), .int (cm 3), .int 3])) := by have h9 : f (A (b + 0)) = some (.inr (4, [.ref (A (b + 1)), .int (cm 0), .int (cm 1), .int (cm 2), .int (cm 3), .int (cm 4)])) := hM 0 (by omega); rw [h4] at h9; exact h9
  have k19 : f (A (b + 1)) = some (.inl (cy 3, 4, .inr (.inr (.inr (.inr q))))) := hM 1 (by omega)
  have k20 : f (A (b + 41)) = some (.inr (2, [.ref (A (b + 42)), .ref (A (b + 44)), .ref (A (b + 46)), .ref (A (b + 48)), .ref (A (b + 50)), .ref (A (b + 52)), .int (cs 3 6 8), .int (cs 3 6 9), .int (cs 3 6 10), .int (cs 3 6 11), .int (cs 3 6 12)])) := hM 41 (by omega)
  have k21 : f (A (b + 44)) = some (.inr (8, [.int 6, .ref (A (b + 45)), .int 11])) := by have h9 : f (A (b + 44)) = some (.inr (8, [.int 6, .ref (A (b + 45)), .int (cs 3 7 1)])) := hM 44 (by omega); rw [hr1] at h9; exact h9
  have k22 : f (A (b + 45)) = some (.inl (cy 0, 66, .inl (cs 3 1))) := hM 45 (by omega)
  have k23 : f (A (b + 52)) = some (.inr (5, [.ref (A (b + 53)), .int (cs 3 6 0), .int (cs 3 6 1), .int (cs 3 6 2), .int (cs 3 6 3), .int (cs 3 6 4), .int (cs 3 6 5), .int (cs 3 6 6), .int (cs 3 6 7)])) := hM 52 (by omega)
  have k24 : f (A (b + 53)) = some (.inl (cy 0, 20, .inl (cs 3 5))) := hM 53 (by omega)
  refine g_cI C0 G (g_runV C0 G (rest := []) (c_X2_numberOfPresent3 hfl (A := A) (b := b) (ex := (cm 0)) (ov := (cm 1)) (ie := (cm 2)) (fi := (cm 3)) (q := q) (rs := (cs 3 6 8)) (sk := (cs 3 6 9)) (ot := (cs 3 6 10)) (ch := (cs 3 6 11)) (nc := (cs 3 6 12)) (g1 := (cs 3 1)) (lm := (cs 3 6 0)) (lf := (cs 3 6 1)) (oc := (cs 3 6 2)) (bw := (cs 3 6 3)) (bb := (cs 3 6 4)) (bl := (cs 3 6 5)) (cd := (cs 3 6 6)) (hbg := (cs 3 6 7)) (go := (cs 3 5)) what k18 k19 k20 k21 k22 k23 k24 hAj hQ.1 hQ.2.1 hQ.2.2.1 hQ.2.2.2) k18 rfl hY_X2_numberOfPresent mm_X8_197 mi_X2_numberOfPresent ml_X2_numberOfPresent ⟨(Nat.le_of_ble_eq_true rfl), (Nat.le_of_ble_eq_true rfl)⟩ rfl hl.1 rfl (Nat.le_of_ble_eq_true rfl) dX8_now_29 ⟨(Nat.le_of_ble_eq_true rfl), (Nat.le_of_ble_eq_true rfl)⟩) (kx_no rfl) (fun r27 u26 H locs hp25 G => ?_)
  obtain ⟨er28, eu26⟩ := hp25
  rw [eu26] at G
  refine lv_topv (v := (X2_numberOfPresent3_r2 (cm 1) (cm 3) (cs 3 6 8) (cs 3 6 9) (cs 3 6 10) (cs 3 6 11) (cs 3 1) (cs 3 6 0) (cs 3 6 3) (cs 3 6 5) (cs 3 6 7) what)) er28 ?_
  exact g_iret C0 G hr dX8_now_32 (Nat.le_of_ble_eq_true rfl) (Nat.le_of_ble_eq_true rfl) (by exact ⟨(by rw [X8_now3_r0]), hM, (fun a9 e9 h7 h8 => h8)⟩)
set_option maxRecDepth 100000 in
theorem c_X8_inningsN {l : Launch} (hfl : l.stackTraces = false) {D : va_G} {cy : Nat → ClassId} {f : Hf} {sz : Nat} {x : Nat} {A : Nat → Nat} {b : Nat} {b2 : Nat} {lg : Nat} {lg_o : Nat} {tx : Nat} {rz : Nat} {ro : Nat} {xea : Int32} {xra : Int32} {xkr : Int32} {q : Nat → Option Nat} {cm : Nat → Int32} {cs : Nat → Nat → Nat → Int32} (inn : Int32) (what : Int32) (h_x : f x = some (.inr (10, [.ref (A (b + 0)), .ref (A (b2 + 0)), .ref lg, .ref lg_o, .ref tx, .ref rz, .ref ro, .int xea, .int xra, .int xkr]))) (hAj : ∀ i j : Nat, i ≠ j → A i ≠ A j) (hM : MW A b cy q cm cs f) (hQ : HQ A b q) (v0 : (X2_hasBegun_x2 (cm 0) (cm 4) inn) = 0) : hMet l yX8_innings cX8_innings 3 (some .int) { frames := 7, cells := 1, slots := 6, locals := 103 } D (hTy cy) f sz [.ref x, .int inn, .int what] (hQi (fun r u => False) D f sz) (fun E u => E = "java/lang/IndexOutOfBoundsException" ∧ MW A b cy q cm cs u ∧ hFrL f u []) := by
  refine h_enter (by decide) hfl (Nat.le_of_ble_eq_true rfl) ?_
  intro p9 e9 s9 m9 b9 t9 c9 hsz C0 hr hnm G ls hl
  have hx := C0.1.1
  have hb := C0.1.2.1
  have hl : lv_has ls 3 [(0, .ref x), (1, .int inn), (2, .int what)] := hl
  refine lv_aload_n hx hb dX8_innings_0 rfl (lv_at hl 0 rfl) ?_
  refine lv_iload_n hx hb dX8_innings_1 rfl (lv_at hl 1 rfl) ?_
  exact g_cV C0 G (g_runV C0 G (rest := []) (c_X8_demandInningsN hfl (A := A) (b := b) (b2 := b2) (xea := xea) (xra := xra) (xkr := xkr) (cm := cm) (cs := cs) inn h_x hAj hM hQ v0) h_x rfl hY_X8_demandInnings mm_X8_200 mi_X8_demandInnings ml_X8_demandInnings ⟨(Nat.le_of_ble_eq_true rfl), (Nat.le_of_ble_eq_true rfl)⟩ rfl hl.1 rfl (Nat.le_of_ble_eq_true rfl) dX8_innings_2 ⟨(Nat.le_of_ble_eq_true rfl), (Nat.le_of_ble_eq_true rfl)⟩) (kx_out C0 (Nat.le_of_ble_eq_true rfl) (Nat.le_of_ble_eq_true rfl) (fun E9 u9 h9 => by
      obtain ⟨hE9, hM11, fr12⟩ := h9
      exact ⟨hE9, hM11, (fun a9 e9 h7 h8 => fr12 _ _ (by simp) (h8))⟩)) (fun _ _ _ h9 _ => (h9).elim)
set_option maxRecDepth 100000 in
theorem c_X8_inningsW {l : Launch} (hfl : l.stackTraces = false) {D : va_G} {cy : Nat → ClassId} {f : Hf} {sz : Nat} {x : Nat} {A : Nat → Nat} {b : Nat} {b2 : Nat} {lg : Nat} {lg_o : Nat} {tx : Nat} {rz : Nat} {ro : Nat} {xea : Int32} {xra : Int32} {xkr : Int32} {q : Nat → Option Nat} {cm : Nat → Int32} {cs : Nat → Nat → Nat → Int32} (inn : Int32) (what : Int32) (h_x : f x = some (.inr (10, [.ref (A (b + 0)), .ref (A (b2 + 0)), .ref lg, .ref lg_o, .ref tx, .ref rz, .ref ro, .int xea, .int xra, .int xkr]))) (hAj : ∀ i j : Nat, i ≠ j → A i ≠ A j) (hM : MW A b cy q cm cs f) (hQ : HQ A b q) (v0 : ¬ (X2_hasBegun_x2 (cm 0) (cm 4) inn) = 0) (v1 : (X8_isWithin_x1 what 0 7) = 0) : hMet l yX8_innings cX8_innings 3 (some .int) { frames := 6, cells := 1, slots := 6, locals := 82 } D (hTy cy) f sz [.ref x, .int inn, .int what] (hQi (fun r u => False) D f sz) (fun E u => E = "java/lang/IllegalArgumentException" ∧ MW A b cy q cm cs u ∧ hFrL f u []) := by
  refine h_enter (by decide) hfl (Nat.le_of_ble_eq_true rfl) ?_
  intro p9 e9 s9 m9 b9 t9 c9 hsz C0 hr hnm G ls hl
  have hx := C0.1.1
  have hb := C0.1.2.1
  have hl : lv_has ls 3 [(0, .ref x), (1, .int inn), (2, .int what)] := hl
  refine lv_aload_n hx hb dX8_innings_0 rfl (lv_at hl 0 rfl) ?_
  refine lv_iload_n hx hb dX8_innings_1 rfl (lv_at hl 1 rfl) ?_
  refine g_cV C0 G (g_runV C0 G (rest := []) (c_X8_demandInningsO hfl (A := A) (b := b) (b2 := b2) (xea := xea) (xra := xra) (xkr := xkr) (cm := cm) (cs := cs) inn h_x hAj hM hQ v0) h_x rfl hY_X8_demandInnings mm_X8_200 mi_X8_demandInnings ml_X8_demandInnings ⟨(Nat.le_of_ble_eq_true rfl), (Nat.le_of_ble_eq_true rfl)⟩ rfl hl.1 rfl (Nat.le_of_ble_eq_true rfl) dX8_innings_2 ⟨(Nat.le_of_ble_eq_true rfl), (Nat.le_of_ble_eq_true rfl)⟩) (kx_no rfl) (fun u12 H locs hp11 G => ?_)
  obtain ⟨hM13, fr14⟩ := hp11
  refine lv_iload_n hx hb dX8_innings_5 rfl (lv_at hl 2 rfl) ?_
  refine lv_iconst (v := 0) hx hb dX8_innings_6 (by decide) ?_
  refine lv_bipush (v := 7) hx hb dX8_innings_7 (by decide) ?_
  refine g_cI C0 G (g_runS C0 G (rest := []) (c_X8_isWithin hfl what 0 7 ) hY_X8_isWithin mm_X8_56 ms_X8_isWithin ⟨(Nat.le_of_ble_eq_true rfl), (Nat.le_of_ble_eq_true rfl)⟩ rfl hl.1 rfl (Nat.le_of_ble_eq_true rfl) dX8_innings_9 ⟨(Nat.le_of_ble_eq_true rfl), (Nat.le_of_ble_eq_true rfl)⟩) (kx_no rfl) (fun r18 u17 H locs hp16 G => ?_)
  obtain ⟨er19, eu17⟩ := hp16
  rw [eu17] at G
  refine lv_topv (v := (X8_isWithin_x1 what 0 7)) er19 ?_
  refine lv_if_ne (tgt := 25) hx hb dX8_innings_12 (by decide) (fun c20 => absurd (v1) c20) (fun _ => ?_)
  exact g_throw C0 G (X := "java/lang/IllegalArgumentException") (by decide) mk_X8_60 mz_java_lang_IllegalArgumentException (is := 192) (text := "no such number") (by decide) hat_64 hl.1 dX8_innings_15 dX8_innings_18 dX8_innings_19 dX8_innings_21 dX8_innings_24 ⟨(Nat.le_of_ble_eq_true rfl), (Nat.le_of_ble_eq_true rfl)⟩ ⟨(Nat.le_of_ble_eq_true rfl), (Nat.le_of_ble_eq_true rfl)⟩ (Nat.le_of_ble_eq_true rfl) (Nat.le_of_ble_eq_true rfl) (by exact ⟨rfl, hM13, (fun a9 e9 h7 h8 => fr14 _ _ (by simp) (h8))⟩)
def X8_innings0_r0 (cs : Nat → Nat → Nat → Int32) (what : Int32) : Int32 := (tget 8 1 8 (cs 0 0) 0 what)
set_option maxRecDepth 100000 in
theorem c_X8_innings0 {l : Launch} (hfl : l.stackTraces = false) {D : va_G} {cy : Nat → ClassId} {f : Hf} {sz : Nat} {x : Nat} {A : Nat → Nat} {b : Nat} {b2 : Nat} {lg : Nat} {lg_o : Nat} {tx : Nat} {rz : Nat} {ro : Nat} {xea : Int32} {xra : Int32} {xkr : Int32} {q : Nat → Option Nat} {cm : Nat → Int32} {cs : Nat → Nat → Nat → Int32} (what : Int32) (h_x : f x = some (.inr (10, [.ref (A (b + 0)), .ref (A (b2 + 0)), .ref lg, .ref lg_o, .ref tx, .ref rz, .ref ro, .int xea, .int xra, .int xkr]))) (hAj : ∀ i j : Nat, i ≠ j → A i ≠ A j) (hM : MW A b cy q cm cs f) (hQ : HQ A b q) (v0 : ¬ (X2_hasBegun_x2 (cm 0) (cm 4) 0) = 0) (v1 : ¬ (X8_isWithin_x1 what 0 7) = 0) (hr0 : cs 0 7 0 = 1) : hMet l yX8_innings cX8_innings 3 (some .int) { frames := 2, cells := 0, slots := 0, locals := 45 } D (hTy cy) f sz [.ref x, .int 0, .int what] (hQi (fun r u => r = (X8_innings0_r0 cs what) ∧ MW A b cy q cm cs u ∧ hFrL f u []) D f sz) hNo := by
  refine h_enter (by decide) hfl (Nat.le_of_ble_eq_true rfl) ?_
  intro p9 e9 s9 m9 b9 t9 c9 hsz C0 hr hnm G ls hl
  have hx := C0.1.1
  have hb := C0.1.2.1
  have hl : lv_has ls 3 [(0, .ref x), (1, .int 0), (2, .int what)] := hl
  refine lv_aload_n hx hb dX8_innings_0 rfl (lv_at hl 0 rfl) ?_
  refine lv_iload_n hx hb dX8_innings_1 rfl (lv_at hl 1 rfl) ?_
  refine g_cV C0 G (g_runV C0 G (rest := []) (c_X8_demandInningsO hfl (A := A) (b := b) (b2 := b2) (xea := xea) (xra := xra) (xkr := xkr) (cm := cm) (cs := cs) 0 h_x hAj hM hQ v0) h_x rfl hY_X8_demandInnings mm_X8_200 mi_X8_demandInnings ml_X8_demandInnings ⟨(Nat.le_of_ble_eq_true rfl), (Nat.le_of_ble_eq_true rfl)⟩ rfl hl.1 rfl (Nat.le_of_ble_eq_true rfl) dX8_innings_2 ⟨(Nat.le_of_ble_eq_true rfl), (Nat.le_of_ble_eq_true rfl)⟩) (kx_no rfl) (fun u12 H locs hp11 G => ?_)
  obtain ⟨hM13, fr14⟩ := hp11
  refine lv_iload_n hx hb dX8_innings_5 rfl (lv_at hl 2 rfl) ?_
  refine lv_iconst (v := 0) hx hb dX8_innings_6 (by decide) ?_
  refine lv_bipush (v := 7) hx hb dX8_innings_7 (by decide) ?_
  refine g_cI C0 G (g_runS C0 G (rest := []) (c_X8_isWithin hfl what 0 7 ) hY_X8_isWithin mm_X8_56 ms_X8_isWithin ⟨(Nat.le_of_ble_eq_true rfl), (Nat.le_of_ble_eq_true rfl)⟩ rfl hl.1 rfl (Nat.le_of_ble_eq_true rfl) dX8_innings_9 ⟨(Nat.le_of_ble_eq_true rfl), (Nat.le_of_ble_eq_true rfl)⟩) (kx_no rfl) (fun r18 u17 H locs hp16 G => ?_)
  obtain ⟨er19, eu17⟩ := hp16
  rw [eu17] at G
  refine lv_topv (v := (X8_isWithin_x1 what 0 7)) er19 ?_
  refine lv_if_ne (tgt := 25) hx hb dX8_innings_12 (by decide) (fun _ => ?_) (fun c20 => absurd c20 (v1))
  refine lv_aload_n hx hb dX8_innings_25 rfl (lv_at hl 0 rfl) ?_
  have k21 : u12 x = some (.inr (10, [.ref (A (b + 0)), .ref (A (b2 + 0)), .ref lg, .ref lg_o, .ref tx, .ref rz, .ref ro, .int xea, .int xra, .int xkr])) := fr14 _ _ (by simp) h_x
  refine g_get C0 G k21 rfl hiX8 0 (by decide) mf_X8_10 rfl dX8_innings_26 ?_
  refine lv_iload_n hx hb dX8_innings_29 rfl (lv_at hl 1 rfl) ?_
  have k22 : u12 (A (b + 0)) = some (.inr (4, [.ref (A (b + 1)), .int (cm 0), .int (cm 1), .int (cm 2), .int (cm 3), .int (cm 4)])) := hM13 0 (by omega)
  have k23 : u12 (A (b + 1)) = some (.inl (cy 3, 4, .inr (.inr (.inr (.inr q))))) := hM13 1 (by omega)
  refine g_cR C0 G (g_runV C0 G (rest := []) (c_X2_at0 hfl (A := A) (b := b) (ex := (cm 0)) (ov := (cm 1)) (ie := (cm 2)) (fi := (cm 3)) (nu := (cm 4)) (q := q) k22 k23 hAj hQ.1 hQ.2.1 hQ.2.2.1 hQ.2.2.2) k22 rfl hY_X2_at mm_X8_206 mi_X2_at ml_X2_at ⟨(Nat.le_of_ble_eq_true rfl), (Nat.le_of_ble_eq_true rfl)⟩ rfl hl.1 rfl (Nat.le_of_ble_eq_true rfl) dX8_innings_30 ⟨(Nat.le_of_ble_eq_true rfl), (Nat.le_of_ble_eq_true rfl)⟩) (kx_no rfl) (fun a26 u25 H locs hp24 G => ?_)
  obtain ⟨zr, eu25⟩ := hp24
  replace zr := Eq.symm zr
  subst zr
  rw [eu25] at G
  refine lv_iload_n hx hb dX8_innings_33 rfl (lv_at hl 2 rfl) ?_
  have k27 : u12 (A (b + 2)) = some (.inr (2, [.ref (A (b + 3)), .ref (A (b + 5)), .ref (A (b + 7)), .ref (A (b + 9)), .ref (A (b + 11)), .ref (A (b + 13)), .int (cs 0 6 8), .int (cs 0 6 9), .int (cs 0 6 10), .int (cs 0 6 11), .int (cs 0 6 12)])) := hM13 2 (by omega)
  have k28 : u12 (A (b + 3)) = some (.inr (8, [.int 8, .ref (A (b + 4)), .int 1])) := by have h9 : u12 (A (b + 3)) = some (.inr (8, [.int 8, .ref (A (b + 4)), .int (cs 0 7 0)])) := hM13 3 (by omega); rw [hr0] at h9; exact h9
  have k29 : u12 (A (b + 4)) = some (.inl (cy 0, 8, .inl (cs 0 0))) := hM13 4 (by omega)
  refine g_cI C0 G (g_runV C0 G (rest := []) (c_X0_total hfl what k27 k28 k29) k27 rfl hY_X0_total mm_X8_210 mi_X0_total ml_X0_total ⟨(Nat.le_of_ble_eq_true rfl), (Nat.le_of_ble_eq_true rfl)⟩ rfl hl.1 rfl (Nat.le_of_ble_eq_true rfl) dX8_innings_34 ⟨(Nat.le_of_ble_eq_true rfl), (Nat.le_of_ble_eq_true rfl)⟩) (kx_no rfl) (fun r32 u31 H locs hp30 G => ?_)
  obtain ⟨er33, eu31⟩ := hp30
  rw [eu31] at G
  refine lv_topv (v := (tget 8 1 8 (cs 0 0) 0 what)) er33 ?_
  exact g_iret C0 G hr dX8_innings_37 (Nat.le_of_ble_eq_true rfl) (Nat.le_of_ble_eq_true rfl) (by exact ⟨(by rw [X8_innings0_r0]), hM13, (fun a9 e9 h7 h8 => fr14 _ _ (by simp) (h8))⟩)
def X8_innings1_r0 (cs : Nat → Nat → Nat → Int32) (what : Int32) : Int32 := (tget 8 1 8 (cs 1 0) 0 what)
set_option maxRecDepth 100000 in
theorem c_X8_innings1 {l : Launch} (hfl : l.stackTraces = false) {D : va_G} {cy : Nat → ClassId} {f : Hf} {sz : Nat} {x : Nat} {A : Nat → Nat} {b : Nat} {b2 : Nat} {lg : Nat} {lg_o : Nat} {tx : Nat} {rz : Nat} {ro : Nat} {xea : Int32} {xra : Int32} {xkr : Int32} {q : Nat → Option Nat} {cm : Nat → Int32} {cs : Nat → Nat → Nat → Int32} (what : Int32) (h_x : f x = some (.inr (10, [.ref (A (b + 0)), .ref (A (b2 + 0)), .ref lg, .ref lg_o, .ref tx, .ref rz, .ref ro, .int xea, .int xra, .int xkr]))) (hAj : ∀ i j : Nat, i ≠ j → A i ≠ A j) (hM : MW A b cy q cm cs f) (hQ : HQ A b q) (v0 : ¬ (X2_hasBegun_x2 (cm 0) (cm 4) 1) = 0) (v1 : ¬ (X8_isWithin_x1 what 0 7) = 0) (hr0 : cs 1 7 0 = 1) : hMet l yX8_innings cX8_innings 3 (some .int) { frames := 2, cells := 0, slots := 0, locals := 45 } D (hTy cy) f sz [.ref x, .int 1, .int what] (hQi (fun r u => r = (X8_innings1_r0 cs what) ∧ MW A b cy q cm cs u ∧ hFrL f u []) D f sz) hNo := by
  refine h_enter (by decide) hfl (Nat.le_of_ble_eq_true rfl) ?_
  intro p9 e9 s9 m9 b9 t9 c9 hsz C0 hr hnm G ls hl
  have hx := C0.1.1
  have hb := C0.1.2.1
  have hl : lv_has ls 3 [(0, .ref x), (1, .int 1), (2, .int what)] := hl
  refine lv_aload_n hx hb dX8_innings_0 rfl (lv_at hl 0 rfl) ?_
  refine lv_iload_n hx hb dX8_innings_1 rfl (lv_at hl 1 rfl) ?_
  refine g_cV C0 G (g_runV C0 G (rest := []) (c_X8_demandInningsO hfl (A := A) (b := b) (b2 := b2) (xea := xea) (xra := xra) (xkr := xkr) (cm := cm) (cs := cs) 1 h_x hAj hM hQ v0) h_x rfl hY_X8_demandInnings mm_X8_200 mi_X8_demandInnings ml_X8_demandInnings ⟨(Nat.le_of_ble_eq_true rfl), (Nat.le_of_ble_eq_true rfl)⟩ rfl hl.1 rfl (Nat.le_of_ble_eq_true rfl) dX8_innings_2 ⟨(Nat.le_of_ble_eq_true rfl), (Nat.le_of_ble_eq_true rfl)⟩) (kx_no rfl) (fun u12 H locs hp11 G => ?_)
  obtain ⟨hM13, fr14⟩ := hp11
  refine lv_iload_n hx hb dX8_innings_5 rfl (lv_at hl 2 rfl) ?_
  refine lv_iconst (v := 0) hx hb dX8_innings_6 (by decide) ?_
  refine lv_bipush (v := 7) hx hb dX8_innings_7 (by decide) ?_
  refine g_cI C0 G (g_runS C0 G (rest := []) (c_X8_isWithin hfl what 0 7 ) hY_X8_isWithin mm_X8_56 ms_X8_isWithin ⟨(Nat.le_of_ble_eq_true rfl), (Nat.le_of_ble_eq_true rfl)⟩ rfl hl.1 rfl (Nat.le_of_ble_eq_true rfl) dX8_innings_9 ⟨(Nat.le_of_ble_eq_true rfl), (Nat.le_of_ble_eq_true rfl)⟩) (kx_no rfl) (fun r18 u17 H locs hp16 G => ?_)
  obtain ⟨er19, eu17⟩ := hp16
  rw [eu17] at G
  refine lv_topv (v := (X8_isWithin_x1 what 0 7)) er19 ?_
  refine lv_if_ne (tgt := 25) hx hb dX8_innings_12 (by decide) (fun _ => ?_) (fun c20 => absurd c20 (v1))
  refine lv_aload_n hx hb dX8_innings_25 rfl (lv_at hl 0 rfl) ?_
  have k21 : u12 x = some (.inr (10, [.ref (A (b + 0)), .ref (A (b2 + 0)), .ref lg, .ref lg_o, .ref tx, .ref rz, .ref ro, .int xea, .int xra, .int xkr])) := fr14 _ _ (by simp) h_x
  refine g_get C0 G k21 rfl hiX8 0 (by decide) mf_X8_10 rfl dX8_innings_26 ?_
  refine lv_iload_n hx hb dX8_innings_29 rfl (lv_at hl 1 rfl) ?_
  have k22 : u12 (A (b + 0)) = some (.inr (4, [.ref (A (b + 1)), .int (cm 0), .int (cm 1), .int (cm 2), .int (cm 3), .int (cm 4)])) := hM13 0 (by omega)
  have k23 : u12 (A (b + 1)) = some (.inl (cy 3, 4, .inr (.inr (.inr (.inr q))))) := hM13 1 (by omega)
  refine g_cR C0 G (g_runV C0 G (rest := []) (c_X2_at1 hfl (A := A) (b := b) (ex := (cm 0)) (ov := (cm 1)) (ie := (cm 2)) (fi := (cm 3)) (nu := (cm 4)) (q := q) k22 k23 hAj hQ.1 hQ.2.1 hQ.2.2.1 hQ.2.2.2) k22 rfl hY_X2_at mm_X8_206 mi_X2_at ml_X2_at ⟨(Nat.le_of_ble_eq_true rfl), (Nat.le_of_ble_eq_true rfl)⟩ rfl hl.1 rfl (Nat.le_of_ble_eq_true rfl) dX8_innings_30 ⟨(Nat.le_of_ble_eq_true rfl), (Nat.le_of_ble_eq_true rfl)⟩) (kx_no rfl) (fun a26 u25 H locs hp24 G => ?_)
  obtain ⟨zr, eu25⟩ := hp24
  replace zr := Eq.symm zr
  subst zr
  rw [eu25] at G
  refine lv_iload_n hx hb dX8_innings_33 rfl (lv_at hl 2 rfl) ?_
  have k27 : u12 (A (b + 15)) = some (.inr (2, [.ref (A (b + 16)), .ref (A (b + 18)), .ref (A (b + 20)), .ref (A (b + 22)), .ref (A (b + 24)), .ref (A (b + 26)), .int (cs 1 6 8), .int (cs 1 6 9), .int (cs 1 6 10), .int (cs 1 6 11), .int (cs 1 6 12)])) := hM13 15 (by omega)
  have k28 : u12 (A (b + 16)) = some (.inr (8, [.int 8, .ref (A (b + 17)), .int 1])) := by have h9 : u12 (A (b + 16)) = some (.inr (8, [.int 8, .ref (A (b + 17)), .int (cs 1 7 0)])) := hM13 16 (by omega); rw [hr0] at h9; exact h9
  have k29 : u12 (A (b + 17)) = some (.inl (cy 0, 8, .inl (cs 1 0))) := hM13 17 (by omega)
  refine g_cI C0 G (g_runV C0 G (rest := []) (c_X0_total hfl what k27 k28 k29) k27 rfl hY_X0_total mm_X8_210 mi_X0_total ml_X0_total ⟨(Nat.le_of_ble_eq_true rfl), (Nat.le_of_ble_eq_true rfl)⟩ rfl hl.1 rfl (Nat.le_of_ble_eq_true rfl) dX8_innings_34 ⟨(Nat.le_of_ble_eq_true rfl), (Nat.le_of_ble_eq_true rfl)⟩) (kx_no rfl) (fun r32 u31 H locs hp30 G => ?_)
  obtain ⟨er33, eu31⟩ := hp30
  rw [eu31] at G
  refine lv_topv (v := (tget 8 1 8 (cs 1 0) 0 what)) er33 ?_
  exact g_iret C0 G hr dX8_innings_37 (Nat.le_of_ble_eq_true rfl) (Nat.le_of_ble_eq_true rfl) (by exact ⟨(by rw [X8_innings1_r0]), hM13, (fun a9 e9 h7 h8 => fr14 _ _ (by simp) (h8))⟩)
def X8_innings2_r0 (cs : Nat → Nat → Nat → Int32) (what : Int32) : Int32 := (tget 8 1 8 (cs 2 0) 0 what)
set_option maxRecDepth 100000 in
theorem c_X8_innings2 {l : Launch} (hfl : l.stackTraces = false) {D : va_G} {cy : Nat → ClassId} {f : Hf} {sz : Nat} {x : Nat} {A : Nat → Nat} {b : Nat} {b2 : Nat} {lg : Nat} {lg_o : Nat} {tx : Nat} {rz : Nat} {ro : Nat} {xea : Int32} {xra : Int32} {xkr : Int32} {q : Nat → Option Nat} {cm : Nat → Int32} {cs : Nat → Nat → Nat → Int32} (what : Int32) (h_x : f x = some (.inr (10, [.ref (A (b + 0)), .ref (A (b2 + 0)), .ref lg, .ref lg_o, .ref tx, .ref rz, .ref ro, .int xea, .int xra, .int xkr]))) (hAj : ∀ i j : Nat, i ≠ j → A i ≠ A j) (hM : MW A b cy q cm cs f) (hQ : HQ A b q) (v0 : ¬ (X2_hasBegun_x2 (cm 0) (cm 4) 2) = 0) (v1 : ¬ (X8_isWithin_x1 what 0 7) = 0) (hr0 : cs 2 7 0 = 1) : hMet l yX8_innings cX8_innings 3 (some .int) { frames := 2, cells := 0, slots := 0, locals := 45 } D (hTy cy) f sz [.ref x, .int 2, .int what] (hQi (fun r u => r = (X8_innings2_r0 cs what) ∧ MW A b cy q cm cs u ∧ hFrL f u []) D f sz) hNo := by
  refine h_enter (by decide) hfl (Nat.le_of_ble_eq_true rfl) ?_
  intro p9 e9 s9 m9 b9 t9 c9 hsz C0 hr hnm G ls hl
  have hx := C0.1.1
  have hb := C0.1.2.1
  have hl : lv_has ls 3 [(0, .ref x), (1, .int 2), (2, .int what)] := hl
  refine lv_aload_n hx hb dX8_innings_0 rfl (lv_at hl 0 rfl) ?_
  refine lv_iload_n hx hb dX8_innings_1 rfl (lv_at hl 1 rfl) ?_
  refine g_cV C0 G (g_runV C0 G (rest := []) (c_X8_demandInningsO hfl (A := A) (b := b) (b2 := b2) (xea := xea) (xra := xra) (xkr := xkr) (cm := cm) (cs := cs) 2 h_x hAj hM hQ v0) h_x rfl hY_X8_demandInnings mm_X8_200 mi_X8_demandInnings ml_X8_demandInnings ⟨(Nat.le_of_ble_eq_true rfl), (Nat.le_of_ble_eq_true rfl)⟩ rfl hl.1 rfl (Nat.le_of_ble_eq_true rfl) dX8_innings_2 ⟨(Nat.le_of_ble_eq_true rfl), (Nat.le_of_ble_eq_true rfl)⟩) (kx_no rfl) (fun u12 H locs hp11 G => ?_)
  obtain ⟨hM13, fr14⟩ := hp11
  refine lv_iload_n hx hb dX8_innings_5 rfl (lv_at hl 2 rfl) ?_
  refine lv_iconst (v := 0) hx hb dX8_innings_6 (by decide) ?_
  refine lv_bipush (v := 7) hx hb dX8_innings_7 (by decide) ?_
  refine g_cI C0 G (g_runS C0 G (rest := []) (c_X8_isWithin hfl what 0 7 ) hY_X8_isWithin mm_X8_56 ms_X8_isWithin ⟨(Nat.le_of_ble_eq_true rfl), (Nat.le_of_ble_eq_true rfl)⟩ rfl hl.1 rfl (Nat.le_of_ble_eq_true rfl) dX8_innings_9 ⟨(Nat.le_of_ble_eq_true rfl), (Nat.le_of_ble_eq_true rfl)⟩) (kx_no rfl) (fun r18 u17 H locs hp16 G => ?_)
  obtain ⟨er19, eu17⟩ := hp16
  rw [eu17] at G
  refine lv_topv (v := (X8_isWithin_x1 what 0 7)) er19 ?_
  refine lv_if_ne (tgt := 25) hx hb dX8_innings_12 (by decide) (fun _ => ?_) (fun c20 => absurd c20 (v1))
  refine lv_aload_n hx hb dX8_innings_25 rfl (lv_at hl 0 rfl) ?_
  have k21 : u12 x = some (.inr (10, [.ref (A (b + 0)), .ref (A (b2 + 0)), .ref lg, .ref lg_o, .ref tx, .ref rz, .ref ro, .int xea, .int xra, .int xkr])) := fr14 _ _ (by simp) h_x
  refine g_get C0 G k21 rfl hiX8 0 (by decide) mf_X8_10 rfl dX8_innings_26 ?_
  refine lv_iload_n hx hb dX8_innings_29 rfl (lv_at hl 1 rfl) ?_
  have k22 : u12 (A (b + 0)) = some (.inr (4, [.ref (A (b + 1)), .int (cm 0), .int (cm 1), .int (cm 2), .int (cm 3), .int (cm 4)])) := hM13 0 (by omega)
  have k23 : u12 (A (b + 1)) = some (.inl (cy 3, 4, .inr (.inr (.inr (.inr q))))) := hM13 1 (by omega)
  refine g_cR C0 G (g_runV C0 G (rest := []) (c_X2_at2 hfl (A := A) (b := b) (ex := (cm 0)) (ov := (cm 1)) (ie := (cm 2)) (fi := (cm 3)) (nu := (cm 4)) (q := q) k22 k23 hAj hQ.1 hQ.2.1 hQ.2.2.1 hQ.2.2.2) k22 rfl hY_X2_at mm_X8_206 mi_X2_at ml_X2_at ⟨(Nat.le_of_ble_eq_true rfl), (Nat.le_of_ble_eq_true rfl)⟩ rfl hl.1 rfl (Nat.le_of_ble_eq_true rfl) dX8_innings_30 ⟨(Nat.le_of_ble_eq_true rfl), (Nat.le_of_ble_eq_true rfl)⟩) (kx_no rfl) (fun a26 u25 H locs hp24 G => ?_)
  obtain ⟨zr, eu25⟩ := hp24
  replace zr := Eq.symm zr
  subst zr
  rw [eu25] at G
  refine lv_iload_n hx hb dX8_innings_33 rfl (lv_at hl 2 rfl) ?_
  have k27 : u12 (A (b + 28)) = some (.inr (2, [.ref (A (b + 29)), .ref (A (b + 31)), .ref (A (b + 33)), .ref (A (b + 35)), .ref (A (b + 37)), .ref (A (b + 39)), .int (cs 2 6 8), .int (cs 2 6 9), .int (cs 2 6 10), .int (cs 2 6 11), .int (cs 2 6 12)])) := hM13 28 (by omega)
  have k28 : u12 (A (b + 29)) = some (.inr (8, [.int 8, .ref (A (b + 30)), .int 1])) := by have h9 : u12 (A (b + 29)) = some (.inr (8, [.int 8, .ref (A (b + 30)), .int (cs 2 7 0)])) := hM13 29 (by omega); rw [hr0] at h9; exact h9
  have k29 : u12 (A (b + 30)) = some (.inl (cy 0, 8, .inl (cs 2 0))) := hM13 30 (by omega)
  refine g_cI C0 G (g_runV C0 G (rest := []) (c_X0_total hfl what k27 k28 k29) k27 rfl hY_X0_total mm_X8_210 mi_X0_total ml_X0_total ⟨(Nat.le_of_ble_eq_true rfl), (Nat.le_of_ble_eq_true rfl)⟩ rfl hl.1 rfl (Nat.le_of_ble_eq_true rfl) dX8_innings_34 ⟨(Nat.le_of_ble_eq_true rfl), (Nat.le_of_ble_eq_true rfl)⟩) (kx_no rfl) (fun r32 u31 H locs hp30 G => ?_)
  obtain ⟨er33, eu31⟩ := hp30
  rw [eu31] at G
  refine lv_topv (v := (tget 8 1 8 (cs 2 0) 0 what)) er33 ?_
  exact g_iret C0 G hr dX8_innings_37 (Nat.le_of_ble_eq_true rfl) (Nat.le_of_ble_eq_true rfl) (by exact ⟨(by rw [X8_innings2_r0]), hM13, (fun a9 e9 h7 h8 => fr14 _ _ (by simp) (h8))⟩)
def X8_innings3_r0 (cs : Nat → Nat → Nat → Int32) (what : Int32) : Int32 := (tget 8 1 8 (cs 3 0) 0 what)
set_option maxRecDepth 100000 in
theorem c_X8_innings3 {l : Launch} (hfl : l.stackTraces = false) {D : va_G} {cy : Nat → ClassId} {f : Hf} {sz : Nat} {x : Nat} {A : Nat → Nat} {b : Nat} {b2 : Nat} {lg : Nat} {lg_o : Nat} {tx : Nat} {rz : Nat} {ro : Nat} {xea : Int32} {xra : Int32} {xkr : Int32} {q : Nat → Option Nat} {cm : Nat → Int32} {cs : Nat → Nat → Nat → Int32} (what : Int32) (h_x : f x = some (.inr (10, [.ref (A (b + 0)), .ref (A (b2 + 0)), .ref lg, .ref lg_o, .ref tx, .ref rz, .ref ro, .int xea, .int xra, .int xkr]))) (hAj : ∀ i j : Nat, i ≠ j → A i ≠ A j) (hM : MW A b cy q cm cs f) (hQ : HQ A b q) (v0 : ¬ (X2_hasBegun_x2 (cm 0) (cm 4) 3) = 0) (v1 : ¬ (X8_isWithin_x1 what 0 7) = 0) (hr0 : cs 3 7 0 = 1) : hMet l yX8_innings cX8_innings 3 (some .int) { frames := 2, cells := 0, slots := 0, locals := 45 } D (hTy cy) f sz [.ref x, .int 3, .int what] (hQi (fun r u => r = (X8_innings3_r0 cs what) ∧ MW A b cy q cm cs u ∧ hFrL f u []) D f sz) hNo := by
  refine h_enter (by decide) hfl (Nat.le_of_ble_eq_true rfl) ?_
  intro p9 e9 s9 m9 b9 t9 c9 hsz C0 hr hnm G ls hl
  have hx := C0.1.1
  have hb := C0.1.2.1
  have hl : lv_has ls 3 [(0, .ref x), (1, .int 3), (2, .int what)] := hl
  refine lv_aload_n hx hb dX8_innings_0 rfl (lv_at hl 0 rfl) ?_
  refine lv_iload_n hx hb dX8_innings_1 rfl (lv_at hl 1 rfl) ?_
  refine g_cV C0 G (g_runV C0 G (rest := []) (c_X8_demandInningsO hfl (A := A) (b := b) (b2 := b2) (xea := xea) (xra := xra) (xkr := xkr) (cm := cm) (cs := cs) 3 h_x hAj hM hQ v0) h_x rfl hY_X8_demandInnings mm_X8_200 mi_X8_demandInnings ml_X8_demandInnings ⟨(Nat.le_of_ble_eq_true rfl), (Nat.le_of_ble_eq_true rfl)⟩ rfl hl.1 rfl (Nat.le_of_ble_eq_true rfl) dX8_innings_2 ⟨(Nat.le_of_ble_eq_true rfl), (Nat.le_of_ble_eq_true rfl)⟩) (kx_no rfl) (fun u12 H locs hp11 G => ?_)
  obtain ⟨hM13, fr14⟩ := hp11
  refine lv_iload_n hx hb dX8_innings_5 rfl (lv_at hl 2 rfl) ?_
  refine lv_iconst (v := 0) hx hb dX8_innings_6 (by decide) ?_
  refine lv_bipush (v := 7) hx hb dX8_innings_7 (by decide) ?_
  refine g_cI C0 G (g_runS C0 G (rest := []) (c_X8_isWithin hfl what 0 7 ) hY_X8_isWithin mm_X8_56 ms_X8_isWithin ⟨(Nat.le_of_ble_eq_true rfl), (Nat.le_of_ble_eq_true rfl)⟩ rfl hl.1 rfl (Nat.le_of_ble_eq_true rfl) dX8_innings_9 ⟨(Nat.le_of_ble_eq_true rfl), (Nat.le_of_ble_eq_true rfl)⟩) (kx_no rfl) (fun r18 u17 H locs hp16 G => ?_)
  obtain ⟨er19, eu17⟩ := hp16
  rw [eu17] at G
  refine lv_topv (v := (X8_isWithin_x1 what 0 7)) er19 ?_
  refine lv_if_ne (tgt := 25) hx hb dX8_innings_12 (by decide) (fun _ => ?_) (fun c20 => absurd c20 (v1))
  refine lv_aload_n hx hb dX8_innings_25 rfl (lv_at hl 0 rfl) ?_
  have k21 : u12 x = some (.inr (10, [.ref (A (b + 0)), .ref (A (b2 + 0)), .ref lg, .ref lg_o, .ref tx, .ref rz, .ref ro, .int xea, .int xra, .int xkr])) := fr14 _ _ (by simp) h_x
  refine g_get C0 G k21 rfl hiX8 0 (by decide) mf_X8_10 rfl dX8_innings_26 ?_
  refine lv_iload_n hx hb dX8_innings_29 rfl (lv_at hl 1 rfl) ?_
  have k22 : u12 (A (b + 0)) = some (.inr (4, [.ref (A (b + 1)), .int (cm 0), .int (cm 1), .int (cm 2), .int (cm 3), .int (cm 4)])) := hM13 0 (by omega)
  have k23 : u12 (A (b + 1)) = some (.inl (cy 3, 4, .inr (.inr (.inr (.inr q))))) := hM13 1 (by omega)
  refine g_cR C0 G (g_runV C0 G (rest := []) (c_X2_at3 hfl (A := A) (b := b) (ex := (cm 0)) (ov := (cm 1)) (ie := (cm 2)) (fi := (cm 3)) (nu := (cm 4)) (q := q) k22 k23 hAj hQ.1 hQ.2.1 hQ.2.2.1 hQ.2.2.2) k22 rfl hY_X2_at mm_X8_206 mi_X2_at ml_X2_at ⟨(Nat.le_of_ble_eq_true rfl), (Nat.le_of_ble_eq_true rfl)⟩ rfl hl.1 rfl (Nat.le_of_ble_eq_true rfl) dX8_innings_30 ⟨(Nat.le_of_ble_eq_true rfl), (Nat.le_of_ble_eq_true rfl)⟩) (kx_no rfl) (fun a26 u25 H locs hp24 G => ?_)
  obtain ⟨zr, eu25⟩ := hp24
  replace zr := Eq.symm zr
  subst zr
  rw [eu25] at G
  refine lv_iload_n hx hb dX8_innings_33 rfl (lv_at hl 2 rfl) ?_
  have k27 : u12 (A (b + 41)) = some (.inr (2, [.ref (A (b + 42)), .ref (A (b + 44)), .ref (A (b + 46)), .ref (A (b + 48)), .ref (A (b + 50)), .ref (A (b + 52)), .int (cs 3 6 8), .int (cs 3 6 9), .int (cs 3 6 10), .int (cs 3 6 11), .int (cs 3 6 12)])) := hM13 41 (by omega)
  have k28 : u12 (A (b + 42)) = some (.inr (8, [.int 8, .ref (A (b + 43)), .int 1])) := by have h9 : u12 (A (b + 42)) = some (.inr (8, [.int 8, .ref (A (b + 43)), .int (cs 3 7 0)])) := hM13 42 (by omega); rw [hr0] at h9; exact h9
  have k29 : u12 (A (b + 43)) = some (.inl (cy 0, 8, .inl (cs 3 0))) := hM13 43 (by omega)
  refine g_cI C0 G (g_runV C0 G (rest := []) (c_X0_total hfl what k27 k28 k29) k27 rfl hY_X0_total mm_X8_210 mi_X0_total ml_X0_total ⟨(Nat.le_of_ble_eq_true rfl), (Nat.le_of_ble_eq_true rfl)⟩ rfl hl.1 rfl (Nat.le_of_ble_eq_true rfl) dX8_innings_34 ⟨(Nat.le_of_ble_eq_true rfl), (Nat.le_of_ble_eq_true rfl)⟩) (kx_no rfl) (fun r32 u31 H locs hp30 G => ?_)
  obtain ⟨er33, eu31⟩ := hp30
  rw [eu31] at G
  refine lv_topv (v := (tget 8 1 8 (cs 3 0) 0 what)) er33 ?_
  exact g_iret C0 G hr dX8_innings_37 (Nat.le_of_ble_eq_true rfl) (Nat.le_of_ble_eq_true rfl) (by exact ⟨(by rw [X8_innings3_r0]), hM13, (fun a9 e9 h7 h8 => fr14 _ _ (by simp) (h8))⟩)
set_option maxRecDepth 100000 in
theorem c_X8_batterN1 {l : Launch} (hfl : l.stackTraces = false) {D : va_G} {cy : Nat → ClassId} {f : Hf} {sz : Nat} {x : Nat} {A : Nat → Nat} {b : Nat} {b2 : Nat} {lg : Nat} {lg_o : Nat} {tx : Nat} {rz : Nat} {ro : Nat} {xea : Int32} {xra : Int32} {xkr : Int32} {q : Nat → Option Nat} {cm : Nat → Int32} {cs : Nat → Nat → Nat → Int32} (inn : Int32) (pl : Int32) (what : Int32) (h_x : f x = some (.inr (10, [.ref (A (b + 0)), .ref (A (b2 + 0)), .ref lg, .ref lg_o, .ref tx, .ref rz, .ref ro, .int xea, .int xra, .int xkr]))) (hAj : ∀ i j : Nat, i ≠ j → A i ≠ A j) (hM : MW A b cy q cm cs f) (hQ : HQ A b q) (v0 : (X2_hasBegun_x2 (cm 0) (cm 4) inn) = 0) : hMet l yX8_batter cX8_batter 4 (some .int) { frames := 7, cells := 1, slots := 6, locals := 104 } D (hTy cy) f sz [.ref x, .int inn, .int pl, .int what] (hQi (fun r u => False) D f sz) (fun E u => E = "java/lang/IndexOutOfBoundsException" ∧ MW A b cy q cm cs u ∧ hFrL f u []) := by
  refine h_enter (by decide) hfl (Nat.le_of_ble_eq_true rfl) ?_
  intro p9 e9 s9 m9 b9 t9 c9 hsz C0 hr hnm G ls hl
  have hx := C0.1.1
  have hb := C0.1.2.1
  have hl : lv_has ls 4 [(0, .ref x), (1, .int inn), (2, .int pl), (3, .int what)] := hl
  refine lv_aload_n hx hb dX8_batter_0 rfl (lv_at hl 0 rfl) ?_
  refine lv_iload_n hx hb dX8_batter_1 rfl (lv_at hl 1 rfl) ?_
  refine lv_iload_n hx hb dX8_batter_2 rfl (lv_at hl 2 rfl) ?_
  exact g_cV C0 G (g_runV C0 G (rest := []) (c_X8_demandPlayerN1 hfl (A := A) (b := b) (b2 := b2) (xea := xea) (xra := xra) (xkr := xkr) (cm := cm) (cs := cs) inn pl h_x hAj hM hQ v0) h_x rfl hY_X8_demandPlayer mm_X8_213 mi_X8_demandPlayer ml_X8_demandPlayer ⟨(Nat.le_of_ble_eq_true rfl), (Nat.le_of_ble_eq_true rfl)⟩ rfl hl.1 rfl (Nat.le_of_ble_eq_true rfl) dX8_batter_3 ⟨(Nat.le_of_ble_eq_true rfl), (Nat.le_of_ble_eq_true rfl)⟩) (kx_out C0 (Nat.le_of_ble_eq_true rfl) (Nat.le_of_ble_eq_true rfl) (fun E9 u9 h9 => by
      obtain ⟨hE9, hM11, fr12⟩ := h9
      exact ⟨hE9, hM11, (fun a9 e9 h7 h8 => fr12 _ _ (by simp) (h8))⟩)) (fun _ _ _ h9 _ => (h9).elim)
set_option maxRecDepth 100000 in
theorem c_X8_batterN2 {l : Launch} (hfl : l.stackTraces = false) {D : va_G} {cy : Nat → ClassId} {f : Hf} {sz : Nat} {x : Nat} {A : Nat → Nat} {b : Nat} {b2 : Nat} {lg : Nat} {lg_o : Nat} {tx : Nat} {rz : Nat} {ro : Nat} {xea : Int32} {xra : Int32} {xkr : Int32} {q : Nat → Option Nat} {cm : Nat → Int32} {cs : Nat → Nat → Nat → Int32} (inn : Int32) (pl : Int32) (what : Int32) (h_x : f x = some (.inr (10, [.ref (A (b + 0)), .ref (A (b2 + 0)), .ref lg, .ref lg_o, .ref tx, .ref rz, .ref ro, .int xea, .int xra, .int xkr]))) (hAj : ∀ i j : Nat, i ≠ j → A i ≠ A j) (hM : MW A b cy q cm cs f) (hQ : HQ A b q) (v0 : ¬ (X2_hasBegun_x2 (cm 0) (cm 4) inn) = 0) (v1 : (X8_isWithin_x1 pl 0 10) = 0) : hMet l yX8_batter cX8_batter 4 (some .int) { frames := 7, cells := 1, slots := 6, locals := 104 } D (hTy cy) f sz [.ref x, .int inn, .int pl, .int what] (hQi (fun r u => False) D f sz) (fun E u => E = "java/lang/IndexOutOfBoundsException" ∧ MW A b cy q cm cs u ∧ hFrL f u []) := by
  refine h_enter (by decide) hfl (Nat.le_of_ble_eq_true rfl) ?_
  intro p9 e9 s9 m9 b9 t9 c9 hsz C0 hr hnm G ls hl
  have hx := C0.1.1
  have hb := C0.1.2.1
  have hl : lv_has ls 4 [(0, .ref x), (1, .int inn), (2, .int pl), (3, .int what)] := hl
  refine lv_aload_n hx hb dX8_batter_0 rfl (lv_at hl 0 rfl) ?_
  refine lv_iload_n hx hb dX8_batter_1 rfl (lv_at hl 1 rfl) ?_
  refine lv_iload_n hx hb dX8_batter_2 rfl (lv_at hl 2 rfl) ?_
  exact g_cV C0 G (g_runV C0 G (rest := []) (c_X8_demandPlayerN2 hfl (A := A) (b := b) (b2 := b2) (xea := xea) (xra := xra) (xkr := xkr) (cm := cm) (cs := cs) inn pl h_x hAj hM hQ v0 v1) h_x rfl hY_X8_demandPlayer mm_X8_213 mi_X8_demandPlayer ml_X8_demandPlayer ⟨(Nat.le_of_ble_eq_true rfl), (Nat.le_of_ble_eq_true rfl)⟩ rfl hl.1 rfl (Nat.le_of_ble_eq_true rfl) dX8_batter_3 ⟨(Nat.le_of_ble_eq_true rfl), (Nat.le_of_ble_eq_true rfl)⟩) (kx_out C0 (Nat.le_of_ble_eq_true rfl) (Nat.le_of_ble_eq_true rfl) (fun E9 u9 h9 => by
      obtain ⟨hE9, hM11, fr12⟩ := h9
      exact ⟨hE9, hM11, (fun a9 e9 h7 h8 => fr12 _ _ (by simp) (h8))⟩)) (fun _ _ _ h9 _ => (h9).elim)
set_option maxRecDepth 100000 in
theorem c_X8_batterW {l : Launch} (hfl : l.stackTraces = false) {D : va_G} {cy : Nat → ClassId} {f : Hf} {sz : Nat} {x : Nat} {A : Nat → Nat} {b : Nat} {b2 : Nat} {lg : Nat} {lg_o : Nat} {tx : Nat} {rz : Nat} {ro : Nat} {xea : Int32} {xra : Int32} {xkr : Int32} {q : Nat → Option Nat} {cm : Nat → Int32} {cs : Nat → Nat → Nat → Int32} (inn : Int32) (pl : Int32) (what : Int32) (h_x : f x = some (.inr (10, [.ref (A (b + 0)), .ref (A (b2 + 0)), .ref lg, .ref lg_o, .ref tx, .ref rz, .ref ro, .int xea, .int xra, .int xkr]))) (hAj : ∀ i j : Nat, i ≠ j → A i ≠ A j) (hM : MW A b cy q cm cs f) (hQ : HQ A b q) (v0 : ¬ (X2_hasBegun_x2 (cm 0) (cm 4) inn) = 0) (v1 : ¬ (X8_isWithin_x1 pl 0 10) = 0) (v2 : (X8_isWithin_x1 what 0 5) = 0) : hMet l yX8_batter cX8_batter 4 (some .int) { frames := 6, cells := 1, slots := 6, locals := 82 } D (hTy cy) f sz [.ref x, .int inn, .int pl, .int what] (hQi (fun r u => False) D f sz) (fun E u => E = "java/lang/IllegalArgumentException" ∧ MW A b cy q cm cs u ∧ hFrL f u []) := by
  refine h_enter (by decide) hfl (Nat.le_of_ble_eq_true rfl) ?_
  intro p9 e9 s9 m9 b9 t9 c9 hsz C0 hr hnm G ls hl
  have hx := C0.1.1
  have hb := C0.1.2.1
  have hl : lv_has ls 4 [(0, .ref x), (1, .int inn), (2, .int pl), (3, .int what)] := hl
  refine lv_aload_n hx hb dX8_batter_0 rfl (lv_at hl 0 rfl) ?_
  refine lv_iload_n hx hb dX8_batter_1 rfl (lv_at hl 1 rfl) ?_
  refine lv_iload_n hx hb dX8_batter_2 rfl (lv_at hl 2 rfl) ?_
  refine g_cV C0 G (g_runV C0 G (rest := []) (c_X8_demandPlayerO hfl (A := A) (b := b) (b2 := b2) (xea := xea) (xra := xra) (xkr := xkr) (cm := cm) (cs := cs) inn pl h_x hAj hM hQ v0 v1) h_x rfl hY_X8_demandPlayer mm_X8_213 mi_X8_demandPlayer ml_X8_demandPlayer ⟨(Nat.le_of_ble_eq_true rfl), (Nat.le_of_ble_eq_true rfl)⟩ rfl hl.1 rfl (Nat.le_of_ble_eq_true rfl) dX8_batter_3 ⟨(Nat.le_of_ble_eq_true rfl), (Nat.le_of_ble_eq_true rfl)⟩) (kx_no rfl) (fun u12 H locs hp11 G => ?_)
  obtain ⟨hM13, fr14⟩ := hp11
  refine lv_iload_n hx hb dX8_batter_6 rfl (lv_at hl 3 rfl) ?_
  refine lv_iconst (v := 0) hx hb dX8_batter_7 (by decide) ?_
  refine lv_iconst (v := 5) hx hb dX8_batter_8 (by decide) ?_
  refine g_cI C0 G (g_runS C0 G (rest := []) (c_X8_isWithin hfl what 0 5 ) hY_X8_isWithin mm_X8_56 ms_X8_isWithin ⟨(Nat.le_of_ble_eq_true rfl), (Nat.le_of_ble_eq_true rfl)⟩ rfl hl.1 rfl (Nat.le_of_ble_eq_true rfl) dX8_batter_9 ⟨(Nat.le_of_ble_eq_true rfl), (Nat.le_of_ble_eq_true rfl)⟩) (kx_no rfl) (fun r18 u17 H locs hp16 G => ?_)
  obtain ⟨er19, eu17⟩ := hp16
  rw [eu17] at G
  refine lv_topv (v := (X8_isWithin_x1 what 0 5)) er19 ?_
  refine lv_if_ne (tgt := 25) hx hb dX8_batter_12 (by decide) (fun c20 => absurd (v2) c20) (fun _ => ?_)
  exact g_throw C0 G (X := "java/lang/IllegalArgumentException") (by decide) mk_X8_60 mz_java_lang_IllegalArgumentException (is := 192) (text := "no such number") (by decide) hat_64 hl.1 dX8_batter_15 dX8_batter_18 dX8_batter_19 dX8_batter_21 dX8_batter_24 ⟨(Nat.le_of_ble_eq_true rfl), (Nat.le_of_ble_eq_true rfl)⟩ ⟨(Nat.le_of_ble_eq_true rfl), (Nat.le_of_ble_eq_true rfl)⟩ (Nat.le_of_ble_eq_true rfl) (Nat.le_of_ble_eq_true rfl) (by exact ⟨rfl, hM13, (fun a9 e9 h7 h8 => fr14 _ _ (by simp) (h8))⟩)
def X8_batter0_r0 (cs : Nat → Nat → Nat → Int32) (pl : Int32) (what : Int32) : Int32 := (tget 6 11 66 (cs 0 1) pl what)
set_option maxRecDepth 100000 in
theorem c_X8_batter0 {l : Launch} (hfl : l.stackTraces = false) {D : va_G} {cy : Nat → ClassId} {f : Hf} {sz : Nat} {x : Nat} {A : Nat → Nat} {b : Nat} {b2 : Nat} {lg : Nat} {lg_o : Nat} {tx : Nat} {rz : Nat} {ro : Nat} {xea : Int32} {xra : Int32} {xkr : Int32} {q : Nat → Option Nat} {cm : Nat → Int32} {cs : Nat → Nat → Nat → Int32} (pl : Int32) (what : Int32) (h_x : f x = some (.inr (10, [.ref (A (b + 0)), .ref (A (b2 + 0)), .ref lg, .ref lg_o, .ref tx, .ref rz, .ref ro, .int xea, .int xra, .int xkr]))) (hAj : ∀ i j : Nat, i ≠ j → A i ≠ A j) (hM : MW A b cy q cm cs f) (hQ : HQ A b q) (v0 : ¬ (X2_hasBegun_x2 (cm 0) (cm 4) 0) = 0) (v1 : ¬ (X8_isWithin_x1 pl 0 10) = 0) (v2 : ¬ (X8_isWithin_x1 what 0 5) = 0) (hr0 : cs 0 7 1 = 11) : hMet l yX8_batter cX8_batter 4 (some .int) { frames := 3, cells := 0, slots := 0, locals := 64 } D (hTy cy) f sz [.ref x, .int 0, .int pl, .int what] (hQi (fun r u => r = (X8_batter0_r0 cs pl what) ∧ MW A b cy q cm cs u ∧ hFrL f u []) D f sz) hNo := by
  refine h_enter (by decide) hfl (Nat.le_of_ble_eq_true rfl) ?_
  intro p9 e9 s9 m9 b9 t9 c9 hsz C0 hr hnm G ls hl
  have hx := C0.1.1
  have hb := C0.1.2.1
  have hl : lv_has ls 4 [(0, .ref x), (1, .int 0), (2, .int pl), (3, .int what)] := hl
  refine lv_aload_n hx hb dX8_batter_0 rfl (lv_at hl 0 rfl) ?_
  refine lv_iload_n hx hb dX8_batter_1 rfl (lv_at hl 1 rfl) ?_
  refine lv_iload_n hx hb dX8_batter_2 rfl (lv_at hl 2 rfl) ?_
  refine g_cV C0 G (g_runV C0 G (rest := []) (c_X8_demandPlayerO hfl (A := A) (b := b) (b2 := b2) (xea := xea) (xra := xra) (xkr := xkr) (cm := cm) (cs := cs) 0 pl h_x hAj hM hQ v0 v1) h_x rfl hY_X8_demandPlayer mm_X8_213 mi_X8_demandPlayer ml_X8_demandPlayer ⟨(Nat.le_of_ble_eq_true rfl), (Nat.le_of_ble_eq_true rfl)⟩ rfl hl.1 rfl (Nat.le_of_ble_eq_true rfl) dX8_batter_3 ⟨(Nat.le_of_ble_eq_true rfl), (Nat.le_of_ble_eq_true rfl)⟩) (kx_no rfl) (fun u12 H locs hp11 G => ?_)
  obtain ⟨hM13, fr14⟩ := hp11
  refine lv_iload_n hx hb dX8_batter_6 rfl (lv_at hl 3 rfl) ?_
  refine lv_iconst (v := 0) hx hb dX8_batter_7 (by decide) ?_
  refine lv_iconst (v := 5) hx hb dX8_batter_8 (by decide) ?_
  refine g_cI C0 G (g_runS C0 G (rest := []) (c_X8_isWithin hfl what 0 5 ) hY_X8_isWithin mm_X8_56 ms_X8_isWithin ⟨(Nat.le_of_ble_eq_true rfl), (Nat.le_of_ble_eq_true rfl)⟩ rfl hl.1 rfl (Nat.le_of_ble_eq_true rfl) dX8_batter_9 ⟨(Nat.le_of_ble_eq_true rfl), (Nat.le_of_ble_eq_true rfl)⟩) (kx_no rfl) (fun r18 u17 H locs hp16 G => ?_)
  obtain ⟨er19, eu17⟩ := hp16
  rw [eu17] at G
  refine lv_topv (v := (X8_isWithin_x1 what 0 5)) er19 ?_
  refine lv_if_ne (tgt := 25) hx hb dX8_batter_12 (by decide) (fun _ => ?_) (fun c20 => absurd c20 (v2))
  refine lv_aload_n hx hb dX8_batter_25 rfl (lv_at hl 0 rfl) ?_
  have k21 : u12 x = some (.inr (10, [.ref (A (b + 0)), .ref (A (b2 + 0)), .ref lg, .ref lg_o, .ref tx, .ref rz, .ref ro, .int xea, .int xra, .int xkr])) := fr14 _ _ (by simp) h_x
  refine g_get C0 G k21 rfl hiX8 0 (by decide) mf_X8_10 rfl dX8_batter_26 ?_
  refine lv_iload_n hx hb dX8_batter_29 rfl (lv_at hl 1 rfl) ?_
  have k22 : u12 (A (b + 0)) = some (.inr (4, [.ref (A (b + 1)), .int (cm 0), .int (cm 1), .int (cm 2), .int (cm 3), .int (cm 4)])) := hM13 0 (by omega)
  have k23 : u12 (A (b + 1)) = some (.inl (cy 3, 4, .inr (.inr (.inr (.inr q))))) := hM13 1 (by omega)
  refine g_cR C0 G (g_runV C0 G (rest := []) (c_X2_at0 hfl (A := A) (b := b) (ex := (cm 0)) (ov := (cm 1)) (ie := (cm 2)) (fi := (cm 3)) (nu := (cm 4)) (q := q) k22 k23 hAj hQ.1 hQ.2.1 hQ.2.2.1 hQ.2.2.2) k22 rfl hY_X2_at mm_X8_206 mi_X2_at ml_X2_at ⟨(Nat.le_of_ble_eq_true rfl), (Nat.le_of_ble_eq_true rfl)⟩ rfl hl.1 rfl (Nat.le_of_ble_eq_true rfl) dX8_batter_30 ⟨(Nat.le_of_ble_eq_true rfl), (Nat.le_of_ble_eq_true rfl)⟩) (kx_no rfl) (fun a26 u25 H locs hp24 G => ?_)
  obtain ⟨zr, eu25⟩ := hp24
  replace zr := Eq.symm zr
  subst zr
  rw [eu25] at G
  have k27 : u12 (A (b + 2)) = some (.inr (2, [.ref (A (b + 3)), .ref (A (b + 5)), .ref (A (b + 7)), .ref (A (b + 9)), .ref (A (b + 11)), .ref (A (b + 13)), .int (cs 0 6 8), .int (cs 0 6 9), .int (cs 0 6 10), .int (cs 0 6 11), .int (cs 0 6 12)])) := hM13 2 (by omega)
  refine g_get C0 G k27 rfl hiX0 1 (by decide) mf_X8_217 rfl dX8_batter_33 ?_
  refine lv_iload_n hx hb dX8_batter_36 rfl (lv_at hl 2 rfl) ?_
  refine lv_iload_n hx hb dX8_batter_37 rfl (lv_at hl 3 rfl) ?_
  have k28 : u12 (A (b + 5)) = some (.inr (8, [.int 6, .ref (A (b + 6)), .int 11])) := by have h9 : u12 (A (b + 5)) = some (.inr (8, [.int 6, .ref (A (b + 6)), .int (cs 0 7 1)])) := hM13 5 (by omega); rw [hr0] at h9; exact h9
  have k29 : u12 (A (b + 6)) = some (.inl (cy 0, 66, .inl (cs 0 1))) := hM13 6 (by omega)
  refine g_cI C0 G (g_runV C0 G (rest := []) (k_X6_get hfl pl what k28 k29 (by omega)) k28 rfl hY_X6_get mm_X8_221 mi_X6_get ml_X6_get ⟨(Nat.le_of_ble_eq_true rfl), (Nat.le_of_ble_eq_true rfl)⟩ rfl hl.1 rfl (Nat.le_of_ble_eq_true rfl) dX8_batter_38 ⟨(Nat.le_of_ble_eq_true rfl), (Nat.le_of_ble_eq_true rfl)⟩) (kx_no rfl) (fun r32 u31 H locs hp30 G => ?_)
  obtain ⟨er33, eu31⟩ := hp30
  rw [eu31] at G
  refine lv_topv (v := (tget 6 11 66 (cs 0 1) pl what)) er33 ?_
  exact g_iret C0 G hr dX8_batter_41 (Nat.le_of_ble_eq_true rfl) (Nat.le_of_ble_eq_true rfl) (by exact ⟨(by rw [X8_batter0_r0]), hM13, (fun a9 e9 h7 h8 => fr14 _ _ (by simp) (h8))⟩)
def X8_batter1_r0 (cs : Nat → Nat → Nat → Int32) (pl : Int32) (what : Int32) : Int32 := (tget 6 11 66 (cs 1 1) pl what)
set_option maxRecDepth 100000 in
theorem c_X8_batter1 {l : Launch} (hfl : l.stackTraces = false) {D : va_G} {cy : Nat → ClassId} {f : Hf} {sz : Nat} {x : Nat} {A : Nat → Nat} {b : Nat} {b2 : Nat} {lg : Nat} {lg_o : Nat} {tx : Nat} {rz : Nat} {ro : Nat} {xea : Int32} {xra : Int32} {xkr : Int32} {q : Nat → Option Nat} {cm : Nat → Int32} {cs : Nat → Nat → Nat → Int32} (pl : Int32) (what : Int32) (h_x : f x = some (.inr (10, [.ref (A (b + 0)), .ref (A (b2 + 0)), .ref lg, .ref lg_o, .ref tx, .ref rz, .ref ro, .int xea, .int xra, .int xkr]))) (hAj : ∀ i j : Nat, i ≠ j → A i ≠ A j) (hM : MW A b cy q cm cs f) (hQ : HQ A b q) (v0 : ¬ (X2_hasBegun_x2 (cm 0) (cm 4) 1) = 0) (v1 : ¬ (X8_isWithin_x1 pl 0 10) = 0) (v2 : ¬ (X8_isWithin_x1 what 0 5) = 0) (hr0 : cs 1 7 1 = 11) : hMet l yX8_batter cX8_batter 4 (some .int) { frames := 3, cells := 0, slots := 0, locals := 64 } D (hTy cy) f sz [.ref x, .int 1, .int pl, .int what] (hQi (fun r u => r = (X8_batter1_r0 cs pl what) ∧ MW A b cy q cm cs u ∧ hFrL f u []) D f sz) hNo := by
  refine h_enter (by decide) hfl (Nat.le_of_ble_eq_true rfl) ?_
  intro p9 e9 s9 m9 b9 t9 c9 hsz C0 hr hnm G ls hl
  have hx := C0.1.1
  have hb := C0.1.2.1
  have hl : lv_has ls 4 [(0, .ref x), (1, .int 1), (2, .int pl), (3, .int what)] := hl
  refine lv_aload_n hx hb dX8_batter_0 rfl (lv_at hl 0 rfl) ?_
  refine lv_iload_n hx hb dX8_batter_1 rfl (lv_at hl 1 rfl) ?_
  refine lv_iload_n hx hb dX8_batter_2 rfl (lv_at hl 2 rfl) ?_
  refine g_cV C0 G (g_runV C0 G (rest := []) (c_X8_demandPlayerO hfl (A := A) (b := b) (b2 := b2) (xea := xea) (xra := xra) (xkr := xkr) (cm := cm) (cs := cs) 1 pl h_x hAj hM hQ v0 v1) h_x rfl hY_X8_demandPlayer mm_X8_213 mi_X8_demandPlayer ml_X8_demandPlayer ⟨(Nat.le_of_ble_eq_true rfl), (Nat.le_of_ble_eq_true rfl)⟩ rfl hl.1 rfl (Nat.le_of_ble_eq_true rfl) dX8_batter_3 ⟨(Nat.le_of_ble_eq_true rfl), (Nat.le_of_ble_eq_true rfl)⟩) (kx_no rfl) (fun u12 H locs hp11 G => ?_)
  obtain ⟨hM13, fr14⟩ := hp11
  refine lv_iload_n hx hb dX8_batter_6 rfl (lv_at hl 3 rfl) ?_
  refine lv_iconst (v := 0) hx hb dX8_batter_7 (by decide) ?_
  refine lv_iconst (v := 5) hx hb dX8_batter_8 (by decide) ?_
  refine g_cI C0 G (g_runS C0 G (rest := []) (c_X8_isWithin hfl what 0 5 ) hY_X8_isWithin mm_X8_56 ms_X8_isWithin ⟨(Nat.le_of_ble_eq_true rfl), (Nat.le_of_ble_eq_true rfl)⟩ rfl hl.1 rfl (Nat.le_of_ble_eq_true rfl) dX8_batter_9 ⟨(Nat.le_of_ble_eq_true rfl), (Nat.le_of_ble_eq_true rfl)⟩) (kx_no rfl) (fun r18 u17 H locs hp16 G => ?_)
  obtain ⟨er19, eu17⟩ := hp16
  rw [eu17] at G
  refine lv_topv (v := (X8_isWithin_x1 what 0 5)) er19 ?_
  refine lv_if_ne (tgt := 25) hx hb dX8_batter_12 (by decide) (fun _ => ?_) (fun c20 => absurd c20 (v2))
  refine lv_aload_n hx hb dX8_batter_25 rfl (lv_at hl 0 rfl) ?_
  have k21 : u12 x = some (.inr (10, [.ref (A (b + 0)), .ref (A (b2 + 0)), .ref lg, .ref lg_o, .ref tx, .ref rz, .ref ro, .int xea, .int xra, .int xkr])) := fr14 _ _ (by simp) h_x
  refine g_get C0 G k21 rfl hiX8 0 (by decide) mf_X8_10 rfl dX8_batter_26 ?_
  refine lv_iload_n hx hb dX8_batter_29 rfl (lv_at hl 1 rfl) ?_
  have k22 : u12 (A (b + 0)) = some (.inr (4, [.ref (A (b + 1)), .int (cm 0), .int (cm 1), .int (cm 2), .int (cm 3), .int (cm 4)])) := hM13 0 (by omega)
  have k23 : u12 (A (b + 1)) = some (.inl (cy 3, 4, .inr (.inr (.inr (.inr q))))) := hM13 1 (by omega)
  refine g_cR C0 G (g_runV C0 G (rest := []) (c_X2_at1 hfl (A := A) (b := b) (ex := (cm 0)) (ov := (cm 1)) (ie := (cm 2)) (fi := (cm 3)) (nu := (cm 4)) (q := q) k22 k23 hAj hQ.1 hQ.2.1 hQ.2.2.1 hQ.2.2.2) k22 rfl hY_X2_at mm_X8_206 mi_X2_at ml_X2_at ⟨(Nat.le_of_ble_eq_true rfl), (Nat.le_of_ble_eq_true rfl)⟩ rfl hl.1 rfl (Nat.le_of_ble_eq_true rfl) dX8_batter_30 ⟨(Nat.le_of_ble_eq_true rfl), (Nat.le_of_ble_eq_true rfl)⟩) (kx_no rfl) (fun a26 u25 H locs hp24 G => ?_)
  obtain ⟨zr, eu25⟩ := hp24
  replace zr := Eq.symm zr
  subst zr
  rw [eu25] at G
  have k27 : u12 (A (b + 15)) = some (.inr (2, [.ref (A (b + 16)), .ref (A (b + 18)), .ref (A (b + 20)), .ref (A (b + 22)), .ref (A (b + 24)), .ref (A (b + 26)), .int (cs 1 6 8), .int (cs 1 6 9), .int (cs 1 6 10), .int (cs 1 6 11), .int (cs 1 6 12)])) := hM13 15 (by omega)
  refine g_get C0 G k27 rfl hiX0 1 (by decide) mf_X8_217 rfl dX8_batter_33 ?_
  refine lv_iload_n hx hb dX8_batter_36 rfl (lv_at hl 2 rfl) ?_
  refine lv_iload_n hx hb dX8_batter_37 rfl (lv_at hl 3 rfl) ?_
  have k28 : u12 (A (b + 18)) = some (.inr (8, [.int 6, .ref (A (b + 19)), .int 11])) := by have h9 : u12 (A (b + 18)) = some (.inr (8, [.int 6, .ref (A (b + 19)), .int (cs 1 7 1)])) := hM13 18 (by omega); rw [hr0] at h9; exact h9
  have k29 : u12 (A (b + 19)) = some (.inl (cy 0, 66, .inl (cs 1 1))) := hM13 19 (by omega)
  refine g_cI C0 G (g_runV C0 G (rest := []) (k_X6_get hfl pl what k28 k29 (by omega)) k28 rfl hY_X6_get mm_X8_221 mi_X6_get ml_X6_get ⟨(Nat.le_of_ble_eq_true rfl), (Nat.le_of_ble_eq_true rfl)⟩ rfl hl.1 rfl (Nat.le_of_ble_eq_true rfl) dX8_batter_38 ⟨(Nat.le_of_ble_eq_true rfl), (Nat.le_of_ble_eq_true rfl)⟩) (kx_no rfl) (fun r32 u31 H locs hp30 G => ?_)
  obtain ⟨er33, eu31⟩ := hp30
  rw [eu31] at G
  refine lv_topv (v := (tget 6 11 66 (cs 1 1) pl what)) er33 ?_
  exact g_iret C0 G hr dX8_batter_41 (Nat.le_of_ble_eq_true rfl) (Nat.le_of_ble_eq_true rfl) (by exact ⟨(by rw [X8_batter1_r0]), hM13, (fun a9 e9 h7 h8 => fr14 _ _ (by simp) (h8))⟩)
def X8_batter2_r0 (cs : Nat → Nat → Nat → Int32) (pl : Int32) (what : Int32) : Int32 := (tget 6 11 66 (cs 2 1) pl what)
set_option maxRecDepth 100000 in
theorem c_X8_batter2 {l : Launch} (hfl : l.stackTraces = false) {D : va_G} {cy : Nat → ClassId} {f : Hf} {sz : Nat} {x : Nat} {A : Nat → Nat} {b : Nat} {b2 : Nat} {lg : Nat} {lg_o : Nat} {tx : Nat} {rz : Nat} {ro : Nat} {xea : Int32} {xra : Int32} {xkr : Int32} {q : Nat → Option Nat} {cm : Nat → Int32} {cs : Nat → Nat → Nat → Int32} (pl : Int32) (what : Int32) (h_x : f x = some (.inr (10, [.ref (A (b + 0)), .ref (A (b2 + 0)), .ref lg, .ref lg_o, .ref tx, .ref rz, .ref ro, .int xea, .int xra, .int xkr]))) (hAj : ∀ i j : Nat, i ≠ j → A i ≠ A j) (hM : MW A b cy q cm cs f) (hQ : HQ A b q) (v0 : ¬ (X2_hasBegun_x2 (cm 0) (cm 4) 2) = 0) (v1 : ¬ (X8_isWithin_x1 pl 0 10) = 0) (v2 : ¬ (X8_isWithin_x1 what 0 5) = 0) (hr0 : cs 2 7 1 = 11) : hMet l yX8_batter cX8_batter 4 (some .int) { frames := 3, cells := 0, slots := 0, locals := 64 } D (hTy cy) f sz [.ref x, .int 2, .int pl, .int what] (hQi (fun r u => r = (X8_batter2_r0 cs pl what) ∧ MW A b cy q cm cs u ∧ hFrL f u []) D f sz) hNo := by
  refine h_enter (by decide) hfl (Nat.le_of_ble_eq_true rfl) ?_
  intro p9 e9 s9 m9 b9 t9 c9 hsz C0 hr hnm G ls hl
  have hx := C0.1.1
  have hb := C0.1.2.1
  have hl : lv_has ls 4 [(0, .ref x), (1, .int 2), (2, .int pl), (3, .int what)] := hl
  refine lv_aload_n hx hb dX8_batter_0 rfl (lv_at hl 0 rfl) ?_
  refine lv_iload_n hx hb dX8_batter_1 rfl (lv_at hl 1 rfl) ?_
  refine lv_iload_n hx hb dX8_batter_2 rfl (lv_at hl 2 rfl) ?_
  refine g_cV C0 G (g_runV C0 G (rest := []) (c_X8_demandPlayerO hfl (A := A) (b := b) (b2 := b2) (xea := xea) (xra := xra) (xkr := xkr) (cm := cm) (cs := cs) 2 pl h_x hAj hM hQ v0 v1) h_x rfl hY_X8_demandPlayer mm_X8_213 mi_X8_demandPlayer ml_X8_demandPlayer ⟨(Nat.le_of_ble_eq_true rfl), (Nat.le_of_ble_eq_true rfl)⟩ rfl hl.1 rfl (Nat.le_of_ble_eq_true rfl) dX8_batter_3 ⟨(Nat.le_of_ble_eq_true rfl), (Nat.le_of_ble_eq_true rfl)⟩) (kx_no rfl) (fun u12 H locs hp11 G => ?_)
  obtain ⟨hM13, fr14⟩ := hp11
  refine lv_iload_n hx hb dX8_batter_6 rfl (lv_at hl 3 rfl) ?_
  refine lv_iconst (v := 0) hx hb dX8_batter_7 (by decide) ?_
  refine lv_iconst (v := 5) hx hb dX8_batter_8 (by decide) ?_
  refine g_cI C0 G (g_runS C0 G (rest := []) (c_X8_isWithin hfl what 0 5 ) hY_X8_isWithin mm_X8_56 ms_X8_isWithin ⟨(Nat.le_of_ble_eq_true rfl), (Nat.le_of_ble_eq_true rfl)⟩ rfl hl.1 rfl (Nat.le_of_ble_eq_true rfl) dX8_batter_9 ⟨(Nat.le_of_ble_eq_true rfl), (Nat.le_of_ble_eq_true rfl)⟩) (kx_no rfl) (fun r18 u17 H locs hp16 G => ?_)
  obtain ⟨er19, eu17⟩ := hp16
  rw [eu17] at G
  refine lv_topv (v := (X8_isWithin_x1 what 0 5)) er19 ?_
  refine lv_if_ne (tgt := 25) hx hb dX8_batter_12 (by decide) (fun _ => ?_) (fun c20 => absurd c20 (v2))
  refine lv_aload_n hx hb dX8_batter_25 rfl (lv_at hl 0 rfl) ?_
  have k21 : u12 x = some (.inr (10, [.ref (A (b + 0)), .ref (A (b2 + 0)), .ref lg, .ref lg_o, .ref tx, .ref rz, .ref ro, .int xea, .int xra, .int xkr])) := fr14 _ _ (by simp) h_x
  refine g_get C0 G k21 rfl hiX8 0 (by decide) mf_X8_10 rfl dX8_batter_26 ?_
  refine lv_iload_n hx hb dX8_batter_29 rfl (lv_at hl 1 rfl) ?_
  have k22 : u12 (A (b + 0)) = some (.inr (4, [.ref (A (b + 1)), .int (cm 0), .int (cm 1), .int (cm 2), .int (cm 3), .int (cm 4)])) := hM13 0 (by omega)
  have k23 : u12 (A (b + 1)) = some (.inl (cy 3, 4, .inr (.inr (.inr (.inr q))))) := hM13 1 (by omega)
  refine g_cR C0 G (g_runV C0 G (rest := []) (c_X2_at2 hfl (A := A) (b := b) (ex := (cm 0)) (ov := (cm 1)) (ie := (cm 2)) (fi := (cm 3)) (nu := (cm 4)) (q := q) k22 k23 hAj hQ.1 hQ.2.1 hQ.2.2.1 hQ.2.2.2) k22 rfl hY_X2_at mm_X8_206 mi_X2_at ml_X2_at ⟨(Nat.le_of_ble_eq_true rfl), (Nat.le_of_ble_eq_true rfl)⟩ rfl hl.1 rfl (Nat.le_of_ble_eq_true rfl) dX8_batter_30 ⟨(Nat.le_of_ble_eq_true rfl), (Nat.le_of_ble_eq_true rfl)⟩) (kx_no rfl) (fun a26 u25 H locs hp24 G => ?_)
  obtain ⟨zr, eu25⟩ := hp24
  replace zr := Eq.symm zr
  subst zr
  rw [eu25] at G
  have k27 : u12 (A (b + 28)) = some (.inr (2, [.ref (A (b + 29)), .ref (A (b + 31)), .ref (A (b + 33)), .ref (A (b + 35)), .ref (A (b + 37)), .ref (A (b + 39)), .int (cs 2 6 8), .int (cs 2 6 9), .int (cs 2 6 10), .int (cs 2 6 11), .int (cs 2 6 12)])) := hM13 28 (by omega)
  refine g_get C0 G k27 rfl hiX0 1 (by decide) mf_X8_217 rfl dX8_batter_33 ?_
  refine lv_iload_n hx hb dX8_batter_36 rfl (lv_at hl 2 rfl) ?_
  refine lv_iload_n hx hb dX8_batter_37 rfl (lv_at hl 3 rfl) ?_
  have k28 : u12 (A (b + 31)) = some (.inr (8, [.int 6, .ref (A (b + 32)), .int 11])) := by have h9 : u12 (A (b + 31)) = some (.inr (8, [.int 6, .ref (A (b + 32)), .int (cs 2 7 1)])) := hM13 31 (by omega); rw [hr0] at h9; exact h9
  have k29 : u12 (A (b + 32)) = some (.inl (cy 0, 66, .inl (cs 2 1))) := hM13 32 (by omega)
  refine g_cI C0 G (g_runV C0 G (rest := []) (k_X6_get hfl pl what k28 k29 (by omega)) k28 rfl hY_X6_get mm_X8_221 mi_X6_get ml_X6_get ⟨(Nat.le_of_ble_eq_true rfl), (Nat.le_of_ble_eq_true rfl)⟩ rfl hl.1 rfl (Nat.le_of_ble_eq_true rfl) dX8_batter_38 ⟨(Nat.le_of_ble_eq_true rfl), (Nat.le_of_ble_eq_true rfl)⟩) (kx_no rfl) (fun r32 u31 H locs hp30 G => ?_)
  obtain ⟨er33, eu31⟩ := hp30
  rw [eu31] at G
  refine lv_topv (v := (tget 6 11 66 (cs 2 1) pl what)) er33 ?_
  exact g_iret C0 G hr dX8_batter_41 (Nat.le_of_ble_eq_true rfl) (Nat.le_of_ble_eq_true rfl) (by exact ⟨(by rw [X8_batter2_r0]), hM13, (fun a9 e9 h7 h8 => fr14 _ _ (by simp) (h8))⟩)
def X8_batter3_r0 (cs : Nat → Nat → Nat → Int32) (pl : Int32) (what : Int32) : Int32 := (tget 6 11 66 (cs 3 1) pl what)
set_option maxRecDepth 100000 in
theorem c_X8_batter3 {l : Launch} (hfl : l.stackTraces = false) {D : va_G} {cy : Nat → ClassId} {f : Hf} {sz : Nat} {x : Nat} {A : Nat → Nat} {b : Nat} {b2 : Nat} {lg : Nat} {lg_o : Nat} {tx : Nat} {rz : Nat} {ro : Nat} {xea : Int32} {xra : Int32} {xkr : Int32} {q : Nat → Option Nat} {cm : Nat → Int32} {cs : Nat → Nat → Nat → Int32} (pl : Int32) (what : Int32) (h_x : f x = some (.inr (10, [.ref (A (b + 0)), .ref (A (b2 + 0)), .ref lg, .ref lg_o, .ref tx, .ref rz, .ref ro, .int xea, .int xra, .int xkr]))) (hAj : ∀ i j : Nat, i ≠ j → A i ≠ A j) (hM : MW A b cy q cm cs f) (hQ : HQ A b q) (v0 : ¬ (X2_hasBegun_x2 (cm 0) (cm 4) 3) = 0) (v1 : ¬ (X8_isWithin_x1 pl 0 10) = 0) (v2 : ¬ (X8_isWithin_x1 what 0 5) = 0) (hr0 : cs 3 7 1 = 11) : hMet l yX8_batter cX8_batter 4 (some .int) { frames := 3, cells := 0, slots := 0, locals := 64 } D (hTy cy) f sz [.ref x, .int 3, .int pl, .int what] (hQi (fun r u => r = (X8_batter3_r0 cs pl what) ∧ MW A b cy q cm cs u ∧ hFrL f u []) D f sz) hNo := by
  refine h_enter (by decide) hfl (Nat.le_of_ble_eq_true rfl) ?_
  intro p9 e9 s9 m9 b9 t9 c9 hsz C0 hr hnm G ls hl
  have hx := C0.1.1
  have hb := C0.1.2.1
  have hl : lv_has ls 4 [(0, .ref x), (1, .int 3), (2, .int pl), (3, .int what)] := hl
  refine lv_aload_n hx hb dX8_batter_0 rfl (lv_at hl 0 rfl) ?_
  refine lv_iload_n hx hb dX8_batter_1 rfl (lv_at hl 1 rfl) ?_
  refine lv_iload_n hx hb dX8_batter_2 rfl (lv_at hl 2 rfl) ?_
  refine g_cV C0 G (g_runV C0 G (rest := []) (c_X8_demandPlayerO hfl (A := A) (b := b) (b2 := b2) (xea := xea) (xra := xra) (xkr := xkr) (cm := cm) (cs := cs) 3 pl h_x hAj hM hQ v0 v1) h_x rfl hY_X8_demandPlayer mm_X8_213 mi_X8_demandPlayer ml_X8_demandPlayer ⟨(Nat.le_of_ble_eq_true rfl), (Nat.le_of_ble_eq_true rfl)⟩ rfl hl.1 rfl (Nat.le_of_ble_eq_true rfl) dX8_batter_3 ⟨(Nat.le_of_ble_eq_true rfl), (Nat.le_of_ble_eq_true rfl)⟩) (kx_no rfl) (fun u12 H locs hp11 G => ?_)
  obtain ⟨hM13, fr14⟩ := hp11
  refine lv_iload_n hx hb dX8_batter_6 rfl (lv_at hl 3 rfl) ?_
  refine lv_iconst (v := 0) hx hb dX8_batter_7 (by decide) ?_
  refine lv_iconst (v := 5) hx hb dX8_batter_8 (by decide) ?_
  refine g_cI C0 G (g_runS C0 G (rest := []) (c_X8_isWithin hfl what 0 5 ) hY_X8_isWithin mm_X8_56 ms_X8_isWithin ⟨(Nat.le_of_ble_eq_true rfl), (Nat.le_of_ble_eq_true rfl)⟩ rfl hl.1 rfl (Nat.le_of_ble_eq_true rfl) dX8_batter_9 ⟨(Nat.le_of_ble_eq_true rfl), (Nat.le_of_ble_eq_true rfl)⟩) (kx_no rfl) (fun r18 u17 H locs hp16 G => ?_)
  obtain ⟨er19, eu17⟩ := hp16
  rw [eu17] at G
  refine lv_topv (v := (X8_isWithin_x1 what 0 5)) er19 ?_
  refine lv_if_ne (tgt := 25) hx hb dX8_batter_12 (by decide) (fun _ => ?_) (fun c20 => absurd c20 (v2))
  refine lv_aload_n hx hb dX8_batter_25 rfl (lv_at hl 0 rfl) ?_
  have k21 : u12 x = some (.inr (10, [.ref (A (b + 0)), .ref (A (b2 + 0)), .ref lg, .ref lg_o, .ref tx, .ref rz, .ref ro, .int xea, .int xra, .int xkr])) := fr14 _ _ (by simp) h_x
  refine g_get C0 G k21 rfl hiX8 0 (by decide) mf_X8_10 rfl dX8_batter_26 ?_
  refine lv_iload_n hx hb dX8_batter_29 rfl (lv_at hl 1 rfl) ?_
  have k22 : u12 (A (b + 0)) = some (.inr (4, [.ref (A (b + 1)), .int (cm 0), .int (cm 1), .int (cm 2), .int (cm 3), .int (cm 4)])) := hM13 0 (by omega)
  have k23 : u12 (A (b + 1)) = some (.inl (cy 3, 4, .inr (.inr (.inr (.inr q))))) := hM13 1 (by omega)
  refine g_cR C0 G (g_runV C0 G (rest := []) (c_X2_at3 hfl (A := A) (b := b) (ex := (cm 0)) (ov := (cm 1)) (ie := (cm 2)) (fi := (cm 3)) (nu := (cm 4)) (q := q) k22 k23 hAj hQ.1 hQ.2.1 hQ.2.2.1 hQ.2.2.2) k22 rfl hY_X2_at mm_X8_206 mi_X2_at ml_X2_at ⟨(Nat.le_of_ble_eq_true rfl), (Nat.le_of_ble_eq_true rfl)⟩ rfl hl.1 rfl (Nat.le_of_ble_eq_true rfl) dX8_batter_30 ⟨(Nat.le_of_ble_eq_true rfl), (Nat.le_of_ble_eq_true rfl)⟩) (kx_no rfl) (fun a26 u25 H locs hp24 G => ?_)
  obtain ⟨zr, eu25⟩ := hp24
  replace zr := Eq.symm zr
  subst zr
  rw [eu25] at G
  have k27 : u12 (A (b + 41)) = some (.inr (2, [.ref (A (b + 42)), .ref (A (b + 44)), .ref (A (b + 46)), .ref (A (b + 48)), .ref (A (b + 50)), .ref (A (b + 52)), .int (cs 3 6 8), .int (cs 3 6 9), .int (cs 3 6 10), .int (cs 3 6 11), .int (cs 3 6 12)])) := hM13 41 (by omega)
  refine g_get C0 G k27 rfl hiX0 1 (by decide) mf_X8_217 rfl dX8_batter_33 ?_
  refine lv_iload_n hx hb dX8_batter_36 rfl (lv_at hl 2 rfl) ?_
  refine lv_iload_n hx hb dX8_batter_37 rfl (lv_at hl 3 rfl) ?_
  have k28 : u12 (A (b + 44)) = some (.inr (8, [.int 6, .ref (A (b + 45)), .int 11])) := by have h9 : u12 (A (b + 44)) = some (.inr (8, [.int 6, .ref (A (b + 45)), .int (cs 3 7 1)])) := hM13 44 (by omega); rw [hr0] at h9; exact h9
  have k29 : u12 (A (b + 45)) = some (.inl (cy 0, 66, .inl (cs 3 1))) := hM13 45 (by omega)
  refine g_cI C0 G (g_runV C0 G (rest := []) (k_X6_get hfl pl what k28 k29 (by omega)) k28 rfl hY_X6_get mm_X8_221 mi_X6_get ml_X6_get ⟨(Nat.le_of_ble_eq_true rfl), (Nat.le_of_ble_eq_true rfl)⟩ rfl hl.1 rfl (Nat.le_of_ble_eq_true rfl) dX8_batter_38 ⟨(Nat.le_of_ble_eq_true rfl), (Nat.le_of_ble_eq_true rfl)⟩) (kx_no rfl) (fun r32 u31 H locs hp30 G => ?_)
  obtain ⟨er33, eu31⟩ := hp30
  rw [eu31] at G
  refine lv_topv (v := (tget 6 11 66 (cs 3 1) pl what)) er33 ?_
  exact g_iret C0 G hr dX8_batter_41 (Nat.le_of_ble_eq_true rfl) (Nat.le_of_ble_eq_true rfl) (by exact ⟨(by rw [X8_batter3_r0]), hM13, (fun a9 e9 h7 h8 => fr14 _ _ (by simp) (h8))⟩)
set_option maxRecDepth 100000 in
theorem c_X8_bowlerN1 {l : Launch} (hfl : l.stackTraces = false) {D : va_G} {cy : Nat → ClassId} {f : Hf} {sz : Nat} {x : Nat} {A : Nat → Nat} {b : Nat} {b2 : Nat} {lg : Nat} {lg_o : Nat} {tx : Nat} {rz : Nat} {ro : Nat} {xea : Int32} {xra : Int32} {xkr : Int32} {q : Nat → Option Nat} {cm : Nat → Int32} {cs : Nat → Nat → Nat → Int32} (inn : Int32) (pl : Int32) (what : Int32) (h_x : f x = some (.inr (10, [.ref (A (b + 0)), .ref (A (b2 + 0)), .ref lg, .ref lg_o, .ref tx, .ref rz, .ref ro, .int xea, .int xra, .int xkr]))) (hAj : ∀ i j : Nat, i ≠ j → A i ≠ A j) (hM : MW A b cy q cm cs f) (hQ : HQ A b q) (v0 : (X2_hasBegun_x2 (cm 0) (cm 4) inn) = 0) : hMet l yX8_bowler cX8_bowler 4 (some .int) { frames := 7, cells := 1, slots := 6, locals := 104 } D (hTy cy) f sz [.ref x, .int inn, .int pl, .int what] (hQi (fun r u => False) D f sz) (fun E u => E = "java/lang/IndexOutOfBoundsException" ∧ MW A b cy q cm cs u ∧ hFrL f u []) := by
  refine h_enter (by decide) hfl (Nat.le_of_ble_eq_true rfl) ?_
  intro p9 e9 s9 m9 b9 t9 c9 hsz C0 hr hnm G ls hl
  have hx := C0.1.1
  have hb := C0.1.2.1
  have hl : lv_has ls 4 [(0, .ref x), (1, .int inn), (2, .int pl), (3, .int what)] := hl
  refine lv_aload_n hx hb dX8_bowler_0 rfl (lv_at hl 0 rfl) ?_
  refine lv_iload_n hx hb dX8_bowler_1 rfl (lv_at hl 1 rfl) ?_
  refine lv_iload_n hx hb dX8_bowler_2 rfl (lv_at hl 2 rfl) ?_
  exact g_cV C0 G (g_runV C0 G (rest := []) (c_X8_demandPlayerN1 hfl (A := A) (b := b) (b2 := b2) (xea := xea) (xra := xra) (xkr := xkr) (cm := cm) (cs := cs) inn pl h_x hAj hM hQ v0) h_x rfl hY_X8_demandPlayer mm_X8_213 mi_X8_demandPlayer ml_X8_demandPlayer ⟨(Nat.le_of_ble_eq_true rfl), (Nat.le_of_ble_eq_true rfl)⟩ rfl hl.1 rfl (Nat.le_of_ble_eq_true rfl) dX8_bowler_3 ⟨(Nat.le_of_ble_eq_true rfl), (Nat.le_of_ble_eq_true rfl)⟩) (kx_out C0 (Nat.le_of_ble_eq_true rfl) (Nat.le_of_ble_eq_true rfl) (fun E9 u9 h9 => by
      obtain ⟨hE9, hM11, fr12⟩ := h9
      exact ⟨hE9, hM11, (fun a9 e9 h7 h8 => fr12 _ _ (by simp) (h8))⟩)) (fun _ _ _ h9 _ => (h9).elim)
set_option maxRecDepth 100000 in
theorem c_X8_bowlerN2 {l : Launch} (hfl : l.stackTraces = false) {D : va_G} {cy : Nat → ClassId} {f : Hf} {sz : Nat} {x : Nat} {A : Nat → Nat} {b : Nat} {b2 : Nat} {lg : Nat} {lg_o : Nat} {tx : Nat} {rz : Nat} {ro : Nat} {xea : Int32} {xra : Int32} {xkr : Int32} {q : Nat → Option Nat} {cm : Nat → Int32} {cs : Nat → Nat → Nat → Int32} (inn : Int32) (pl : Int32) (what : Int32) (h_x : f x = some (.inr (10, [.ref (A (b + 0)), .ref (A (b2 + 0)), .ref lg, .ref lg_o, .ref tx, .ref rz, .ref ro, .int xea, .int xra, .int xkr]))) (hAj : ∀ i j : Nat, i ≠ j → A i ≠ A j) (hM : MW A b cy q cm cs f) (hQ : HQ A b q) (v0 : ¬ (X2_hasBegun_x2 (cm 0) (cm 4) inn) = 0) (v1 : (X8_isWithin_x1 pl 0 10) = 0) : hMet l yX8_bowler cX8_bowler 4 (some .int) { frames := 7, cells := 1, slots := 6, locals := 104 } D (hTy cy) f sz [.ref x, .int inn, .int pl, .int what] (hQi (fun r u => False) D f sz) (fun E u => E = "java/lang/IndexOutOfBoundsException" ∧ MW A b cy q cm cs u ∧ hFrL f u []) := by
  refine h_enter (by decide) hfl (Nat.le_of_ble_eq_true rfl) ?_
  intro p9 e9 s9 m9 b9 t9 c9 hsz C0 hr hnm G ls hl
  have hx := C0.1.1
  have hb := C0.1.2.1
  have hl : lv_has ls 4 [(0, .ref x), (1, .int inn), (2, .int pl), (3, .int what)] := hl
  refine lv_aload_n hx hb dX8_bowler_0 rfl (lv_at hl 0 rfl) ?_
  refine lv_iload_n hx hb dX8_bowler_1 rfl (lv_at hl 1 rfl) ?_
  refine lv_iload_n hx hb dX8_bowler_2 rfl (lv_at hl 2 rfl) ?_
  exact g_cV C0 G (g_runV C0 G (rest := []) (c_X8_demandPlayerN2 hfl (A := A) (b := b) (b2 := b2) (xea := xea) (xra := xra) (xkr := xkr) (cm := cm) (cs := cs) inn pl h_x hAj hM hQ v0 v1) h_x rfl hY_X8_demandPlayer mm_X8_213 mi_X8_demandPlayer ml_X8_demandPlayer ⟨(Nat.le_of_ble_eq_true rfl), (Nat.le_of_ble_eq_true rfl)⟩ rfl hl.1 rfl (Nat.le_of_ble_eq_true rfl) dX8_bowler_3 ⟨(Nat.le_of_ble_eq_true rfl), (Nat.le_of_ble_eq_true rfl)⟩) (kx_out C0 (Nat.le_of_ble_eq_true rfl) (Nat.le_of_ble_eq_true rfl) (fun E9 u9 h9 => by
      obtain ⟨hE9, hM11, fr12⟩ := h9
      exact ⟨hE9, hM11, (fun a9 e9 h7 h8 => fr12 _ _ (by simp) (h8))⟩)) (fun _ _ _ h9 _ => (h9).elim)
set_option maxRecDepth 100000 in
theorem c_X8_bowlerW {l : Launch} (hfl : l.stackTraces = false) {D : va_G} {cy : Nat → ClassId} {f : Hf} {sz : Nat} {x : Nat} {A : Nat → Nat} {b : Nat} {b2 : Nat} {lg : Nat} {lg_o : Nat} {tx : Nat} {rz : Nat} {ro : Nat} {xea : Int32} {xra : Int32} {xkr : Int32} {q : Nat → Option Nat} {cm : Nat → Int32} {cs : Nat → Nat → Nat → Int32} (inn : Int32) (pl : Int32) (what : Int32) (h_x : f x = some (.inr (10, [.ref (A (b + 0)), .ref (A (b2 + 0)), .ref lg, .ref lg_o, .ref tx, .ref rz, .ref ro, .int xea, .int xra, .int xkr]))) (hAj : ∀ i j : Nat, i ≠ j → A i ≠ A j) (hM : MW A b cy q cm cs f) (hQ : HQ A b q) (v0 : ¬ (X2_hasBegun_x2 (cm 0) (cm 4) inn) = 0) (v1 : ¬ (X8_isWithin_x1 pl 0 10) = 0) (v2 : (X8_isWithin_x1 what 0 6) = 0) : hMet l yX8_bowler cX8_bowler 4 (some .int) { frames := 6, cells := 1, slots := 6, locals := 82 } D (hTy cy) f sz [.ref x, .int inn, .int pl, .int what] (hQi (fun r u => False) D f sz) (fun E u => E = "java/lang/IllegalArgumentException" ∧ MW A b cy q cm cs u ∧ hFrL f u []) := by
  refine h_enter (by decide) hfl (Nat.le_of_ble_eq_true rfl) ?_
  intro p9 e9 s9 m9 b9 t9 c9 hsz C0 hr hnm G ls hl
  have hx := C0.1.1
  have hb := C0.1.2.1
  have hl : lv_has ls 4 [(0, .ref x), (1, .int inn), (2, .int pl), (3, .int what)] := hl
  refine lv_aload_n hx hb dX8_bowler_0 rfl (lv_at hl 0 rfl) ?_
  refine lv_iload_n hx hb dX8_bowler_1 rfl (lv_at hl 1 rfl) ?_
  refine lv_iload_n hx hb dX8_bowler_2 rfl (lv_at hl 2 rfl) ?_
  refine g_cV C0 G (g_runV C0 G (rest := []) (c_X8_demandPlayerO hfl (A := A) (b := b) (b2 := b2) (xea := xea) (xra := xra) (xkr := xkr) (cm := cm) (cs := cs) inn pl h_x hAj hM hQ v0 v1) h_x rfl hY_X8_demandPlayer mm_X8_213 mi_X8_demandPlayer ml_X8_demandPlayer ⟨(Nat.le_of_ble_eq_true rfl), (Nat.le_of_ble_eq_true rfl)⟩ rfl hl.1 rfl (Nat.le_of_ble_eq_true rfl) dX8_bowler_3 ⟨(Nat.le_of_ble_eq_true rfl), (Nat.le_of_ble_eq_true rfl)⟩) (kx_no rfl) (fun u12 H locs hp11 G => ?_)
  obtain ⟨hM13, fr14⟩ := hp11
  refine lv_iload_n hx hb dX8_bowler_6 rfl (lv_at hl 3 rfl) ?_
  refine lv_iconst (v := 0) hx hb dX8_bowler_7 (by decide) ?_
  refine lv_bipush (v := 6) hx hb dX8_bowler_8 (by decide) ?_
  refine g_cI C0 G (g_runS C0 G (rest := []) (c_X8_isWithin hfl what 0 6 ) hY_X8_isWithin mm_X8_56 ms_X8_isWithin ⟨(Nat.le_of_ble_eq_true rfl), (Nat.le_of_ble_eq_true rfl)⟩ rfl hl.1 rfl (Nat.le_of_ble_eq_true rfl) dX8_bowler_10 ⟨(Nat.le_of_ble_eq_true rfl), (Nat.le_of_ble_eq_true rfl)⟩) (kx_no rfl) (fun r18 u17 H locs hp16 G => ?_)
  obtain ⟨er19, eu17⟩ := hp16
  rw [eu17] at G
  refine lv_topv (v := (X8_isWithin_x1 what 0 6)) er19 ?_
  refine lv_if_ne (tgt := 26) hx hb dX8_bowler_13 (by decide) (fun c20 => absurd (v2) c20) (fun _ => ?_)
  exact g_throw C0 G (X := "java/lang/IllegalArgumentException") (by decide) mk_X8_60 mz_java_lang_IllegalArgumentException (is := 192) (text := "no such number") (by decide) hat_64 hl.1 dX8_bowler_16 dX8_bowler_19 dX8_bowler_20 dX8_bowler_22 dX8_bowler_25 ⟨(Nat.le_of_ble_eq_true rfl), (Nat.le_of_ble_eq_true rfl)⟩ ⟨(Nat.le_of_ble_eq_true rfl), (Nat.le_of_ble_eq_true rfl)⟩ (Nat.le_of_ble_eq_true rfl) (Nat.le_of_ble_eq_true rfl) (by exact ⟨rfl, hM13, (fun a9 e9 h7 h8 => fr14 _ _ (by simp) (h8))⟩)
def X8_bowler0_r0 (cs : Nat → Nat → Nat → Int32) (pl : Int32) (what : Int32) : Int32 := (tget 7 11 77 (cs 0 2) pl what)
set_option maxRecDepth 100000 in
theorem c_X8_bowler0 {l : Launch} (hfl : l.stackTraces = false) {D : va_G} {cy : Nat → ClassId} {f : Hf} {sz : Nat} {x : Nat} {A : Nat → Nat} {b : Nat} {b2 : Nat} {lg : Nat} {lg_o : Nat} {tx : Nat} {rz : Nat} {ro : Nat} {xea : Int32} {xra : Int32} {xkr : Int32} {q : Nat → Option Nat} {cm : Nat → Int32} {cs : Nat → Nat → Nat → Int32} (pl : Int32) (what : Int32) (h_x : f x = some (.inr (10, [.ref (A (b + 0)), .ref (A (b2 + 0)), .ref lg, .ref lg_o, .ref tx, .ref rz, .ref ro, .int xea, .int xra, .int xkr]))) (hAj : ∀ i j : Nat, i ≠ j → A i ≠ A j) (hM : MW A b cy q cm cs f) (hQ : HQ A b q) (v0 : ¬ (X2_hasBegun_x2 (cm 0) (cm 4) 0) = 0) (v1 : ¬ (X8_isWithin_x1 pl 0 10) = 0) (v2 : ¬ (X8_isWithin_x1 what 0 6) = 0) (hr0 : cs 0 7 2 = 11) : hMet l yX8_bowler cX8_bowler 4 (some .int) { frames := 3, cells := 0, slots := 0, locals := 64 } D (hTy cy) f sz [.ref x, .int 0, .int pl, .int what] (hQi (fun r u => r = (X8_bowler0_r0 cs pl what) ∧ MW A b cy q cm cs u ∧ hFrL f u []) D f sz) hNo := by
  refine h_enter (by decide) hfl (Nat.le_of_ble_eq_true rfl) ?_
  intro p9 e9 s9 m9 b9 t9 c9 hsz C0 hr hnm G ls hl
  have hx := C0.1.1
  have hb := C0.1.2.1
  have hl : lv_has ls 4 [(0, .ref x), (1, .int 0), (2, .int pl), (3, .int what)] := hl
  refine lv_aload_n hx hb dX8_bowler_0 rfl (lv_at hl 0 rfl) ?_
  refine lv_iload_n hx hb dX8_bowler_1 rfl (lv_at hl 1 rfl) ?_
  refine lv_iload_n hx hb dX8_bowler_2 rfl (lv_at hl 2 rfl) ?_
  refine g_cV C0 G (g_runV C0 G (rest := []) (c_X8_demandPlayerO hfl (A := A) (b := b) (b2 := b2) (xea := xea) (xra := xra) (xkr := xkr) (cm := cm) (cs := cs) 0 pl h_x hAj hM hQ v0 v1) h_x rfl hY_X8_demandPlayer mm_X8_213 mi_X8_demandPlayer ml_X8_demandPlayer ⟨(Nat.le_of_ble_eq_true rfl), (Nat.le_of_ble_eq_true rfl)⟩ rfl hl.1 rfl (Nat.le_of_ble_eq_true rfl) dX8_bowler_3 ⟨(Nat.le_of_ble_eq_true rfl), (Nat.le_of_ble_eq_true rfl)⟩) (kx_no rfl) (fun u12 H locs hp11 G => ?_)
  obtain ⟨hM13, fr14⟩ := hp11
  refine lv_iload_n hx hb dX8_bowler_6 rfl (lv_at hl 3 rfl) ?_
  refine lv_iconst (v := 0) hx hb dX8_bowler_7 (by decide) ?_
  refine lv_bipush (v := 6) hx hb dX8_bowler_8 (by decide) ?_
  refine g_cI C0 G (g_runS C0 G (rest := []) (c_X8_isWithin hfl what 0 6 ) hY_X8_isWithin mm_X8_56 ms_X8_isWithin ⟨(Nat.le_of_ble_eq_true rfl), (Nat.le_of_ble_eq_true rfl)⟩ rfl hl.1 rfl (Nat.le_of_ble_eq_true rfl) dX8_bowler_10 ⟨(Nat.le_of_ble_eq_true rfl), (Nat.le_of_ble_eq_true rfl)⟩) (kx_no rfl) (fun r18 u17 H locs hp16 G => ?_)
  obtain ⟨er19, eu17⟩ := hp16
  rw [eu17] at G
  refine lv_topv (v := (X8_isWithin_x1 what 0 6)) er19 ?_
  refine lv_if_ne (tgt := 26) hx hb dX8_bowler_13 (by decide) (fun _ => ?_) (fun c20 => absurd c20 (v2))
  refine lv_aload_n hx hb dX8_bowler_26 rfl (lv_at hl 0 rfl) ?_
  have k21 : u12 x = some (.inr (10, [.ref (A (b + 0)), .ref (A (b2 + 0)), .ref lg, .ref lg_o, .ref tx, .ref rz, .ref ro, .int xea, .int xra, .int xkr])) := fr14 _ _ (by simp) h_x
  refine g_get C0 G k21 rfl hiX8 0 (by decide) mf_X8_10 rfl dX8_bowler_27 ?_
  refine lv_iload_n hx hb dX8_bowler_30 rfl (lv_at hl 1 rfl) ?_
  have k22 : u12 (A (b + 0)) = some (.inr (4, [.ref (A (b + 1)), .int (cm 0), .int (cm 1), .int (cm 2), .int (cm 3), .int (cm 4)])) := hM13 0 (by omega)
  have k23 : u12 (A (b + 1)) = some (.inl (cy 3, 4, .inr (.inr (.inr (.inr q))))) := hM13 1 (by omega)
  refine g_cR C0 G (g_runV C0 G (rest := []) (c_X2_at0 hfl (A := A) (b := b) (ex := (cm 0)) (ov := (cm 1)) (ie := (cm 2)) (fi := (cm 3)) (nu := (cm 4)) (q := q) k22 k23 hAj hQ.1 hQ.2.1 hQ.2.2.1 hQ.2.2.2) k22 rfl hY_X2_at mm_X8_206 mi_X2_at ml_X2_at ⟨(Nat.le_of_ble_eq_true rfl), (Nat.le_of_ble_eq_true rfl)⟩ rfl hl.1 rfl (Nat.le_of_ble_eq_true rfl) dX8_bowler_31 ⟨(Nat.le_of_ble_eq_true rfl), (Nat.le_of_ble_eq_true rfl)⟩) (kx_no rfl) (fun a26 u25 H locs hp24 G => ?_)
  obtain ⟨zr, eu25⟩ := hp24
  replace zr := Eq.symm zr
  subst zr
  rw [eu25] at G
  have k27 : u12 (A (b + 2)) = some (.inr (2, [.ref (A (b + 3)), .ref (A (b + 5)), .ref (A (b + 7)), .ref (A (b + 9)), .ref (A (b + 11)), .ref (A (b + 13)), .int (cs 0 6 8), .int (cs 0 6 9), .int (cs 0 6 10), .int (cs 0 6 11), .int (cs 0 6 12)])) := hM13 2 (by omega)
  refine g_get C0 G k27 rfl hiX0 2 (by decide) mf_X8_227 rfl dX8_bowler_34 ?_
  refine lv_iload_n hx hb dX8_bowler_37 rfl (lv_at hl 2 rfl) ?_
  refine lv_iload_n hx hb dX8_bowler_38 rfl (lv_at hl 3 rfl) ?_
  have k28 : u12 (A (b + 7)) = some (.inr (8, [.int 7, .ref (A (b + 8)), .int 11])) := by have h9 : u12 (A (b + 7)) = some (.inr (8, [.int 7, .ref (A (b + 8)), .int (cs 0 7 2)])) := hM13 7 (by omega); rw [hr0] at h9; exact h9
  have k29 : u12 (A (b + 8)) = some (.inl (cy 0, 77, .inl (cs 0 2))) := hM13 8 (by omega)
  refine g_cI C0 G (g_runV C0 G (rest := []) (k_X6_get hfl pl what k28 k29 (by omega)) k28 rfl hY_X6_get mm_X8_221 mi_X6_get ml_X6_get ⟨(Nat.le_of_ble_eq_true rfl), (Nat.le_of_ble_eq_true rfl)⟩ rfl hl.1 rfl (Nat.le_of_ble_eq_true rfl) dX8_bowler_39 ⟨(Nat.le_of_ble_eq_true rfl), (Nat.le_of_ble_eq_true rfl)⟩) (kx_no rfl) (fun r32 u31 H locs hp30 G => ?_)
  obtain ⟨er33, eu31⟩ := hp30
  rw [eu31] at G
  refine lv_topv (v := (tget 7 11 77 (cs 0 2) pl what)) er33 ?_
  exact g_iret C0 G hr dX8_bowler_42 (Nat.le_of_ble_eq_true rfl) (Nat.le_of_ble_eq_true rfl) (by exact ⟨(by rw [X8_bowler0_r0]), hM13, (fun a9 e9 h7 h8 => fr14 _ _ (by simp) (h8))⟩)
def X8_bowler1_r0 (cs : Nat → Nat → Nat → Int32) (pl : Int32) (what : Int32) : Int32 := (tget 7 11 77 (cs 1 2) pl what)
set_option maxRecDepth 100000 in
theorem c_X8_bowler1 {l : Launch} (hfl : l.stackTraces = false) {D : va_G} {cy : Nat → ClassId} {f : Hf} {sz : Nat} {x : Nat} {A : Nat → Nat} {b : Nat} {b2 : Nat} {lg : Nat} {lg_o : Nat} {tx : Nat} {rz : Nat} {ro : Nat} {xea : Int32} {xra : Int32} {xkr : Int32} {q : Nat → Option Nat} {cm : Nat → Int32} {cs : Nat → Nat → Nat → Int32} (pl : Int32) (what : Int32) (h_x : f x = some (.inr (10, [.ref (A (b + 0)), .ref (A (b2 + 0)), .ref lg, .ref lg_o, .ref tx, .ref rz, .ref ro, .int xea, .int xra, .int xkr]))) (hAj : ∀ i j : Nat, i ≠ j → A i ≠ A j) (hM : MW A b cy q cm cs f) (hQ : HQ A b q) (v0 : ¬ (X2_hasBegun_x2 (cm 0) (cm 4) 1) = 0) (v1 : ¬ (X8_isWithin_x1 pl 0 10) = 0) (v2 : ¬ (X8_isWithin_x1 what 0 6) = 0) (hr0 : cs 1 7 2 = 11) : hMet l yX8_bowler cX8_bowler 4 (some .int) { frames := 3, cells := 0, slots := 0, locals := 64 } D (hTy cy) f sz [.ref x, .int 1, .int pl, .int what] (hQi (fun r u => r = (X8_bowler1_r0 cs pl what) ∧ MW A b cy q cm cs u ∧ hFrL f u []) D f sz) hNo := by
  refine h_enter (by decide) hfl (Nat.le_of_ble_eq_true rfl) ?_
  intro p9 e9 s9 m9 b9 t9 c9 hsz C0 hr hnm G ls hl
  have hx := C0.1.1
  have hb := C0.1.2.1
  have hl : lv_has ls 4 [(0, .ref x), (1, .int 1), (2, .int pl), (3, .int what)] := hl
  refine lv_aload_n hx hb dX8_bowler_0 rfl (lv_at hl 0 rfl) ?_
  refine lv_iload_n hx hb dX8_bowler_1 rfl (lv_at hl 1 rfl) ?_
  refine lv_iload_n hx hb dX8_bowler_2 rfl (lv_at hl 2 rfl) ?_
  refine g_cV C0 G (g_runV C0 G (rest := []) (c_X8_demandPlayerO hfl (A := A) (b := b) (b2 := b2) (xea := xea) (xra := xra) (xkr := xkr) (cm := cm) (cs := cs) 1 pl h_x hAj hM hQ v0 v1) h_x rfl hY_X8_demandPlayer mm_X8_213 mi_X8_demandPlayer ml_X8_demandPlayer ⟨(Nat.le_of_ble_eq_true rfl), (Nat.le_of_ble_eq_true rfl)⟩ rfl hl.1 rfl (Nat.le_of_ble_eq_true rfl) dX8_bowler_3 ⟨(Nat.le_of_ble_eq_true rfl), (Nat.le_of_ble_eq_true rfl)⟩) (kx_no rfl) (fun u12 H locs hp11 G => ?_)
  obtain ⟨hM13, fr14⟩ := hp11
  refine lv_iload_n hx hb dX8_bowler_6 rfl (lv_at hl 3 rfl) ?_
  refine lv_iconst (v := 0) hx hb dX8_bowler_7 (by decide) ?_
  refine lv_bipush (v := 6) hx hb dX8_bowler_8 (by decide) ?_
  refine g_cI C0 G (g_runS C0 G (rest := []) (c_X8_isWithin hfl what 0 6 ) hY_X8_isWithin mm_X8_56 ms_X8_isWithin ⟨(Nat.le_of_ble_eq_true rfl), (Nat.le_of_ble_eq_true rfl)⟩ rfl hl.1 rfl (Nat.le_of_ble_eq_true rfl) dX8_bowler_10 ⟨(Nat.le_of_ble_eq_true rfl), (Nat.le_of_ble_eq_true rfl)⟩) (kx_no rfl) (fun r18 u17 H locs hp16 G => ?_)
  obtain ⟨er19, eu17⟩ := hp16
  rw [eu17] at G
  refine lv_topv (v := (X8_isWithin_x1 what 0 6)) er19 ?_
  refine lv_if_ne (tgt := 26) hx hb dX8_bowler_13 (by decide) (fun _ => ?_) (fun c20 => absurd c20 (v2))
  refine lv_aload_n hx hb dX8_bowler_26 rfl (lv_at hl 0 rfl) ?_
  have k21 : u12 x = some (.inr (10, [.ref (A (b + 0)), .ref (A (b2 + 0)), .ref lg, .ref lg_o, .ref tx, .ref rz, .ref ro, .int xea, .int xra, .int xkr])) := fr14 _ _ (by simp) h_x
  refine g_get C0 G k21 rfl hiX8 0 (by decide) mf_X8_10 rfl dX8_bowler_27 ?_
  refine lv_iload_n hx hb dX8_bowler_30 rfl (lv_at hl 1 rfl) ?_
  have k22 : u12 (A (b + 0)) = some (.inr (4, [.ref (A (b + 1)), .int (cm 0), .int (cm 1), .int (cm 2), .int (cm 3), .int (cm 4)])) := hM13 0 (by omega)
  have k23 : u12 (A (b + 1)) = some (.inl (cy 3, 4, .inr (.inr (.inr (.inr q))))) := hM13 1 (by omega)
  refine g_cR C0 G (g_runV C0 G (rest := []) (c_X2_at1 hfl (A := A) (b := b) (ex := (cm 0)) (ov := (cm 1)) (ie := (cm 2)) (fi := (cm 3)) (nu := (cm 4)) (q := q) k22 k23 hAj hQ.1 hQ.2.1 hQ.2.2.1 hQ.2.2.2) k22 rfl hY_X2_at mm_X8_206 mi_X2_at ml_X2_at ⟨(Nat.le_of_ble_eq_true rfl), (Nat.le_of_ble_eq_true rfl)⟩ rfl hl.1 rfl (Nat.le_of_ble_eq_true rfl) dX8_bowler_31 ⟨(Nat.le_of_ble_eq_true rfl), (Nat.le_of_ble_eq_true rfl)⟩) (kx_no rfl) (fun a26 u25 H locs hp24 G => ?_)
  obtain ⟨zr, eu25⟩ := hp24
  replace zr := Eq.symm zr
  subst zr
  rw [eu25] at G
  have k27 : u12 (A (b + 15)) = some (.inr (2, [.ref (A (b + 16)), .ref (A (b + 18)), .ref (A (b + 20)), .ref (A (b + 22)), .ref (A (b + 24)), .ref (A (b + 26)), .int (cs 1 6 8), .int (cs 1 6 9), .int (cs 1 6 10), .int (cs 1 6 11), .int (cs 1 6 12)])) := hM13 15 (by omega)
  refine g_get C0 G k27 rfl hiX0 2 (by decide) mf_X8_227 rfl dX8_bowler_34 ?_
  refine lv_iload_n hx hb dX8_bowler_37 rfl (lv_at hl 2 rfl) ?_
  refine lv_iload_n hx hb dX8_bowler_38 rfl (lv_at hl 3 rfl) ?_
  have k28 : u12 (A (b + 20)) = some (.inr (8, [.int 7, .ref (A (b + 21)), .int 11])) := by have h9 : u12 (A (b + 20)) = some (.inr (8, [.int 7, .ref (A (b + 21)), .int (cs 1 7 2)])) := hM13 20 (by omega); rw [hr0] at h9; exact h9
  have k29 : u12 (A (b + 21)) = some (.inl (cy 0, 77, .inl (cs 1 2))) := hM13 21 (by omega)
  refine g_cI C0 G (g_runV C0 G (rest := []) (k_X6_get hfl pl what k28 k29 (by omega)) k28 rfl hY_X6_get mm_X8_221 mi_X6_get ml_X6_get ⟨(Nat.le_of_ble_eq_true rfl), (Nat.le_of_ble_eq_true rfl)⟩ rfl hl.1 rfl (Nat.le_of_ble_eq_true rfl) dX8_bowler_39 ⟨(Nat.le_of_ble_eq_true rfl), (Nat.le_of_ble_eq_true rfl)⟩) (kx_no rfl) (fun r32 u31 H locs hp30 G => ?_)
  obtain ⟨er33, eu31⟩ := hp30
  rw [eu31] at G
  refine lv_topv (v := (tget 7 11 77 (cs 1 2) pl what)) er33 ?_
  exact g_iret C0 G hr dX8_bowler_42 (Nat.le_of_ble_eq_true rfl) (Nat.le_of_ble_eq_true rfl) (by exact ⟨(by rw [X8_bowler1_r0]), hM13, (fun a9 e9 h7 h8 => fr14 _ _ (by simp) (h8))⟩)
def X8_bowler2_r0 (cs : Nat → Nat → Nat → Int32) (pl : Int32) (what : Int32) : Int32 := (tget 7 11 77 (cs 2 2) pl what)
set_option maxRecDepth 100000 in
theorem c_X8_bowler2 {l : Launch} (hfl : l.stackTraces = false) {D : va_G} {cy : Nat → ClassId} {f : Hf} {sz : Nat} {x : Nat} {A : Nat → Nat} {b : Nat} {b2 : Nat} {lg : Nat} {lg_o : Nat} {tx : Nat} {rz : Nat} {ro : Nat} {xea : Int32} {xra : Int32} {xkr : Int32} {q : Nat → Option Nat} {cm : Nat → Int32} {cs : Nat → Nat → Nat → Int32} (pl : Int32) (what : Int32) (h_x : f x = some (.inr (10, [.ref (A (b + 0)), .ref (A (b2 + 0)), .ref lg, .ref lg_o, .ref tx, .ref rz, .ref ro, .int xea, .int xra, .int xkr]))) (hAj : ∀ i j : Nat, i ≠ j → A i ≠ A j) (hM : MW A b cy q cm cs f) (hQ : HQ A b q) (v0 : ¬ (X2_hasBegun_x2 (cm 0) (cm 4) 2) = 0) (v1 : ¬ (X8_isWithin_x1 pl 0 10) = 0) (v2 : ¬ (X8_isWithin_x1 what 0 6) = 0) (hr0 : cs 2 7 2 = 11) : hMet l yX8_bowler cX8_bowler 4 (some .int) { frames := 3, cells := 0, slots := 0, locals := 64 } D (hTy cy) f sz [.ref x, .int 2, .int pl, .int what] (hQi (fun r u => r = (X8_bowler2_r0 cs pl what) ∧ MW A b cy q cm cs u ∧ hFrL f u []) D f sz) hNo := by
  refine h_enter (by decide) hfl (Nat.le_of_ble_eq_true rfl) ?_
  intro p9 e9 s9 m9 b9 t9 c9 hsz C0 hr hnm G ls hl
  have hx := C0.1.1
  have hb := C0.1.2.1
  have hl : lv_has ls 4 [(0, .ref x), (1, .int 2), (2, .int pl), (3, .int what)] := hl
  refine lv_aload_n hx hb dX8_bowler_0 rfl (lv_at hl 0 rfl) ?_
  refine lv_iload_n hx hb dX8_bowler_1 rfl (lv_at hl 1 rfl) ?_
  refine lv_iload_n hx hb dX8_bowler_2 rfl (lv_at hl 2 rfl) ?_
  refine g_cV C0 G (g_runV C0 G (rest := []) (c_X8_demandPlayerO hfl (A := A) (b := b) (b2 := b2) (xea := xea) (xra := xra) (xkr := xkr) (cm := cm) (cs := cs) 2 pl h_x hAj hM hQ v0 v1) h_x rfl hY_X8_demandPlayer mm_X8_213 mi_X8_demandPlayer ml_X8_demandPlayer ⟨(Nat.le_of_ble_eq_true rfl), (Nat.le_of_ble_eq_true rfl)⟩ rfl hl.1 rfl (Nat.le_of_ble_eq_true rfl) dX8_bowler_3 ⟨(Nat.le_of_ble_eq_true rfl), (Nat.le_of_ble_eq_true rfl)⟩) (kx_no rfl) (fun u12 H locs hp11 G => ?_)
  obtain ⟨hM13, fr14⟩ := hp11
  refine lv_iload_n hx hb dX8_bowler_6 rfl (lv_at hl 3 rfl) ?_
  refine lv_iconst (v := 0) hx hb dX8_bowler_7 (by decide) ?_
  refine lv_bipush (v := 6) hx hb dX8_bowler_8 (by decide) ?_
  refine g_cI C0 G (g_runS C0 G (rest := []) (c_X8_isWithin hfl what 0 6 ) hY_X8_isWithin mm_X8_56 ms_X8_isWithin ⟨(Nat.le_of_ble_eq_true rfl), (Nat.le_of_ble_eq_true rfl)⟩ rfl hl.1 rfl (Nat.le_of_ble_eq_true rfl) dX8_bowler_10 ⟨(Nat.le_of_ble_eq_true rfl), (Nat.le_of_ble_eq_true rfl)⟩) (kx_no rfl) (fun r18 u17 H locs hp16 G => ?_)
  obtain ⟨er19, eu17⟩ := hp16
  rw [eu17] at G
  refine lv_topv (v := (X8_isWithin_x1 what 0 6)) er19 ?_
  refine lv_if_ne (tgt := 26) hx hb dX8_bowler_13 (by decide) (fun _ => ?_) (fun c20 => absurd c20 (v2))
  refine lv_aload_n hx hb dX8_bowler_26 rfl (lv_at hl 0 rfl) ?_
  have k21 : u12 x = some (.inr (10, [.ref (A (b + 0)), .ref (A (b2 + 0)), .ref lg, .ref lg_o, .ref tx, .ref rz, .ref ro, .int xea, .int xra, .int xkr])) := fr14 _ _ (by simp) h_x
  refine g_get C0 G k21 rfl hiX8 0 (by decide) mf_X8_10 rfl dX8_bowler_27 ?_
  refine lv_iload_n hx hb dX8_bowler_30 rfl (lv_at hl 1 rfl) ?_
  have k22 : u12 (A (b + 0)) = some (.inr (4, [.ref (A (b + 1)), .int (cm 0), .int (cm 1), .int (cm 2), .int (cm 3), .int (cm 4)])) := hM13 0 (by omega)
  have k23 : u12 (A (b + 1)) = some (.inl (cy 3, 4, .inr (.inr (.inr (.inr q))))) := hM13 1 (by omega)
  refine g_cR C0 G (g_runV C0 G (rest := []) (c_X2_at2 hfl (A := A) (b := b) (ex := (cm 0)) (ov := (cm 1)) (ie := (cm 2)) (fi := (cm 3)) (nu := (cm 4)) (q := q) k22 k23 hAj hQ.1 hQ.2.1 hQ.2.2.1 hQ.2.2.2) k22 rfl hY_X2_at mm_X8_206 mi_X2_at ml_X2_at ⟨(Nat.le_of_ble_eq_true rfl), (Nat.le_of_ble_eq_true rfl)⟩ rfl hl.1 rfl (Nat.le_of_ble_eq_true rfl) dX8_bowler_31 ⟨(Nat.le_of_ble_eq_true rfl), (Nat.le_of_ble_eq_true rfl)⟩) (kx_no rfl) (fun a26 u25 H locs hp24 G => ?_)
  obtain ⟨zr, eu25⟩ := hp24
  replace zr := Eq.symm zr
  subst zr
  rw [eu25] at G
  have k27 : u12 (A (b + 28)) = some (.inr (2, [.ref (A (b + 29)), .ref (A (b + 31)), .ref (A (b + 33)), .ref (A (b + 35)), .ref (A (b + 37)), .ref (A (b + 39)), .int (cs 2 6 8), .int (cs 2 6 9), .int (cs 2 6 10), .int (cs 2 6 11), .int (cs 2 6 12)])) := hM13 28 (by omega)
  refine g_get C0 G k27 rfl hiX0 2 (by decide) mf_X8_227 rfl dX8_bowler_34 ?_
  refine lv_iload_n hx hb dX8_bowler_37 rfl (lv_at hl 2 rfl) ?_
  refine lv_iload_n hx hb dX8_bowler_38 rfl (lv_at hl 3 rfl) ?_
  have k28 : u12 (A (b + 33)) = some (.inr (8, [.int 7, .ref (A (b + 34)), .int 11])) := by have h9 : u12 (A (b + 33)) = some (.inr (8, [.int 7, .ref (A (b + 34)), .int (cs 2 7 2)])) := hM13 33 (by omega); rw [hr0] at h9; exact h9
  have k29 : u12 (A (b + 34)) = some (.inl (cy 0, 77, .inl (cs 2 2))) := hM13 34 (by omega)
  refine g_cI C0 G (g_runV C0 G (rest := []) (k_X6_get hfl pl what k28 k29 (by omega)) k28 rfl hY_X6_get mm_X8_221 mi_X6_get ml_X6_get ⟨(Nat.le_of_ble_eq_true rfl), (Nat.le_of_ble_eq_true rfl)⟩ rfl hl.1 rfl (Nat.le_of_ble_eq_true rfl) dX8_bowler_39 ⟨(Nat.le_of_ble_eq_true rfl), (Nat.le_of_ble_eq_true rfl)⟩) (kx_no rfl) (fun r32 u31 H locs hp30 G => ?_)
  obtain ⟨er33, eu31⟩ := hp30
  rw [eu31] at G
  refine lv_topv (v := (tget 7 11 77 (cs 2 2) pl what)) er33 ?_
  exact g_iret C0 G hr dX8_bowler_42 (Nat.le_of_ble_eq_true rfl) (Nat.le_of_ble_eq_true rfl) (by exact ⟨(by rw [X8_bowler2_r0]), hM13, (fun a9 e9 h7 h8 => fr14 _ _ (by simp) (h8))⟩)
def X8_bowler3_r0 (cs : Nat → Nat → Nat → Int32) (pl : Int32) (what : Int32) : Int32 := (tget 7 11 77 (cs 3 2) pl what)
set_option maxRecDepth 100000 in
theorem c_X8_bowler3 {l : Launch} (hfl : l.stackTraces = false) {D : va_G} {cy : Nat → ClassId} {f : Hf} {sz : Nat} {x : Nat} {A : Nat → Nat} {b : Nat} {b2 : Nat} {lg : Nat} {lg_o : Nat} {tx : Nat} {rz : Nat} {ro : Nat} {xea : Int32} {xra : Int32} {xkr : Int32} {q : Nat → Option Nat} {cm : Nat → Int32} {cs : Nat → Nat → Nat → Int32} (pl : Int32) (what : Int32) (h_x : f x = some (.inr (10, [.ref (A (b + 0)), .ref (A (b2 + 0)), .ref lg, .ref lg_o, .ref tx, .ref rz, .ref ro, .int xea, .int xra, .int xkr]))) (hAj : ∀ i j : Nat, i ≠ j → A i ≠ A j) (hM : MW A b cy q cm cs f) (hQ : HQ A b q) (v0 : ¬ (X2_hasBegun_x2 (cm 0) (cm 4) 3) = 0) (v1 : ¬ (X8_isWithin_x1 pl 0 10) = 0) (v2 : ¬ (X8_isWithin_x1 what 0 6) = 0) (hr0 : cs 3 7 2 = 11) : hMet l yX8_bowler cX8_bowler 4 (some .int) { frames := 3, cells := 0, slots := 0, locals := 64 } D (hTy cy) f sz [.ref x, .int 3, .int pl, .int what] (hQi (fun r u => r = (X8_bowler3_r0 cs pl what) ∧ MW A b cy q cm cs u ∧ hFrL f u []) D f sz) hNo := by
  refine h_enter (by decide) hfl (Nat.le_of_ble_eq_true rfl) ?_
  intro p9 e9 s9 m9 b9 t9 c9 hsz C0 hr hnm G ls hl
  have hx := C0.1.1
  have hb := C0.1.2.1
  have hl : lv_has ls 4 [(0, .ref x), (1, .int 3), (2, .int pl), (3, .int what)] := hl
  refine lv_aload_n hx hb dX8_bowler_0 rfl (lv_at hl 0 rfl) ?_
  refine lv_iload_n hx hb dX8_bowler_1 rfl (lv_at hl 1 rfl) ?_
  refine lv_iload_n hx hb dX8_bowler_2 rfl (lv_at hl 2 rfl) ?_
  refine g_cV C0 G (g_runV C0 G (rest := []) (c_X8_demandPlayerO hfl (A := A) (b := b) (b2 := b2) (xea := xea) (xra := xra) (xkr := xkr) (cm := cm) (cs := cs) 3 pl h_x hAj hM hQ v0 v1) h_x rfl hY_X8_demandPlayer mm_X8_213 mi_X8_demandPlayer ml_X8_demandPlayer ⟨(Nat.le_of_ble_eq_true rfl), (Nat.le_of_ble_eq_true rfl)⟩ rfl hl.1 rfl (Nat.le_of_ble_eq_true rfl) dX8_bowler_3 ⟨(Nat.le_of_ble_eq_true rfl), (Nat.le_of_ble_eq_true rfl)⟩) (kx_no rfl) (fun u12 H locs hp11 G => ?_)
  obtain ⟨hM13, fr14⟩ := hp11
  refine lv_iload_n hx hb dX8_bowler_6 rfl (lv_at hl 3 rfl) ?_
  refine lv_iconst (v := 0) hx hb dX8_bowler_7 (by decide) ?_
  refine lv_bipush (v := 6) hx hb dX8_bowler_8 (by decide) ?_
  refine g_cI C0 G (g_runS C0 G (rest := []) (c_X8_isWithin hfl what 0 6 ) hY_X8_isWithin mm_X8_56 ms_X8_isWithin ⟨(Nat.le_of_ble_eq_true rfl), (Nat.le_of_ble_eq_true rfl)⟩ rfl hl.1 rfl (Nat.le_of_ble_eq_true rfl) dX8_bowler_10 ⟨(Nat.le_of_ble_eq_true rfl), (Nat.le_of_ble_eq_true rfl)⟩) (kx_no rfl) (fun r18 u17 H locs hp16 G => ?_)
  obtain ⟨er19, eu17⟩ := hp16
  rw [eu17] at G
  refine lv_topv (v := (X8_isWithin_x1 what 0 6)) er19 ?_
  refine lv_if_ne (tgt := 26) hx hb dX8_bowler_13 (by decide) (fun _ => ?_) (fun c20 => absurd c20 (v2))
  refine lv_aload_n hx hb dX8_bowler_26 rfl (lv_at hl 0 rfl) ?_
  have k21 : u12 x = some (.inr (10, [.ref (A (b + 0)), .ref (A (b2 + 0)), .ref lg, .ref lg_o, .ref tx, .ref rz, .ref ro, .int xea, .int xra, .int xkr])) := fr14 _ _ (by simp) h_x
  refine g_get C0 G k21 rfl hiX8 0 (by decide) mf_X8_10 rfl dX8_bowler_27 ?_
  refine lv_iload_n hx hb dX8_bowler_30 rfl (lv_at hl 1 rfl) ?_
  have k22 : u12 (A (b + 0)) = some (.inr (4, [.ref (A (b + 1)), .int (cm 0), .int (cm 1), .int (cm 2), .int (cm 3), .int (cm 4)])) := hM13 0 (by omega)
  have k23 : u12 (A (b + 1)) = some (.inl (cy 3, 4, .inr (.inr (.inr (.inr q))))) := hM13 1 (by omega)
  refine g_cR C0 G (g_runV C0 G (rest := []) (c_X2_at3 hfl (A := A) (b := b) (ex := (cm 0)) (ov := (cm 1)) (ie := (cm 2)) (fi := (cm 3)) (nu := (cm 4)) (q := q) k22 k23 hAj hQ.1 hQ.2.1 hQ.2.2.1 hQ.2.2.2) k22 rfl hY_X2_at mm_X8_206 mi_X2_at ml_X2_at ⟨(Nat.le_of_ble_eq_true rfl), (Nat.le_of_ble_eq_true rfl)⟩ rfl hl.1 rfl (Nat.le_of_ble_eq_true rfl) dX8_bowler_31 ⟨(Nat.le_of_ble_eq_true rfl), (Nat.le_of_ble_eq_true rfl)⟩) (kx_no rfl) (fun a26 u25 H locs hp24 G => ?_)
  obtain ⟨zr, eu25⟩ := hp24
  replace zr := Eq.symm zr
  subst zr
  rw [eu25] at G
  have k27 : u12 (A (b + 41)) = some (.inr (2, [.ref (A (b + 42)), .ref (A (b + 44)), .ref (A (b + 46)), .ref (A (b + 48)), .ref (A (b + 50)), .ref (A (b + 52)), .int (cs 3 6 8), .int (cs 3 6 9), .int (cs 3 6 10), .int (cs 3 6 11), .int (cs 3 6 12)])) := hM13 41 (by omega)
  refine g_get C0 G k27 rfl hiX0 2 (by decide) mf_X8_227 rfl dX8_bowler_34 ?_
  refine lv_iload_n hx hb dX8_bowler_37 rfl (lv_at hl 2 rfl) ?_
  refine lv_iload_n hx hb dX8_bowler_38 rfl (lv_at hl 3 rfl) ?_
  have k28 : u12 (A (b + 46)) = some (.inr (8, [.int 7, .ref (A (b + 47)), .int 11])) := by have h9 : u12 (A (b + 46)) = some (.inr (8, [.int 7, .ref (A (b + 47)), .int (cs 3 7 2)])) := hM13 46 (by omega); rw [hr0] at h9; exact h9
  have k29 : u12 (A (b + 47)) = some (.inl (cy 0, 77, .inl (cs 3 2))) := hM13 47 (by omega)
  refine g_cI C0 G (g_runV C0 G (rest := []) (k_X6_get hfl pl what k28 k29 (by omega)) k28 rfl hY_X6_get mm_X8_221 mi_X6_get ml_X6_get ⟨(Nat.le_of_ble_eq_true rfl), (Nat.le_of_ble_eq_true rfl)⟩ rfl hl.1 rfl (Nat.le_of_ble_eq_true rfl) dX8_bowler_39 ⟨(Nat.le_of_ble_eq_true rfl), (Nat.le_of_ble_eq_true rfl)⟩) (kx_no rfl) (fun r32 u31 H locs hp30 G => ?_)
  obtain ⟨er33, eu31⟩ := hp30
  rw [eu31] at G
  refine lv_topv (v := (tget 7 11 77 (cs 3 2) pl what)) er33 ?_
  exact g_iret C0 G hr dX8_bowler_42 (Nat.le_of_ble_eq_true rfl) (Nat.le_of_ble_eq_true rfl) (by exact ⟨(by rw [X8_bowler3_r0]), hM13, (fun a9 e9 h7 h8 => fr14 _ _ (by simp) (h8))⟩)
set_option maxRecDepth 100000 in
theorem c_X8_partnershipN {l : Launch} (hfl : l.stackTraces = false) {D : va_G} {cy : Nat → ClassId} {f : Hf} {sz : Nat} {x : Nat} {A : Nat → Nat} {b : Nat} {b2 : Nat} {lg : Nat} {lg_o : Nat} {tx : Nat} {rz : Nat} {ro : Nat} {xea : Int32} {xra : Int32} {xkr : Int32} {q : Nat → Option Nat} {cm : Nat → Int32} {cs : Nat → Nat → Nat → Int32} (inn : Int32) (kn : Int32) (what : Int32) (h_x : f x = some (.inr (10, [.ref (A (b + 0)), .ref (A (b2 + 0)), .ref lg, .ref lg_o, .ref tx, .ref rz, .ref ro, .int xea, .int xra, .int xkr]))) (hAj : ∀ i j : Nat, i ≠ j → A i ≠ A j) (hM : MW A b cy q cm cs f) (hQ : HQ A b q) (v0 : (X2_hasBegun_x2 (cm 0) (cm 4) inn) = 0) : hMet l yX8_partnership cX8_partnership 4 (some .int) { frames := 7, cells := 1, slots := 6, locals := 103 } D (hTy cy) f sz [.ref x, .int inn, .int kn, .int what] (hQi (fun r u => False) D f sz) (fun E u => E = "java/lang/IndexOutOfBoundsException" ∧ MW A b cy q cm cs u ∧ hFrL f u []) := by
  refine h_enter (by decide) hfl (Nat.le_of_ble_eq_true rfl) ?_
  intro p9 e9 s9 m9 b9 t9 c9 hsz C0 hr hnm G ls hl
  have hx := C0.1.1
  have hb := C0.1.2.1
  have hl : lv_has ls 4 [(0, .ref x), (1, .int inn), (2, .int kn), (3, .int what)] := hl
  refine lv_aload_n hx hb dX8_partnership_0 rfl (lv_at hl 0 rfl) ?_
  refine lv_iload_n hx hb dX8_partnership_1 rfl (lv_at hl 1 rfl) ?_
  exact g_cV C0 G (g_runV C0 G (rest := []) (c_X8_demandInningsN hfl (A := A) (b := b) (b2 := b2) (xea := xea) (xra := xra) (xkr := xkr) (cm := cm) (cs := cs) inn h_x hAj hM hQ v0) h_x rfl hY_X8_demandInnings mm_X8_200 mi_X8_demandInnings ml_X8_demandInnings ⟨(Nat.le_of_ble_eq_true rfl), (Nat.le_of_ble_eq_true rfl)⟩ rfl hl.1 rfl (Nat.le_of_ble_eq_true rfl) dX8_partnership_2 ⟨(Nat.le_of_ble_eq_true rfl), (Nat.le_of_ble_eq_true rfl)⟩) (kx_out C0 (Nat.le_of_ble_eq_true rfl) (Nat.le_of_ble_eq_true rfl) (fun E9 u9 h9 => by
      obtain ⟨hE9, hM11, fr12⟩ := h9
      exact ⟨hE9, hM11, (fun a9 e9 h7 h8 => fr12 _ _ (by simp) (h8))⟩)) (fun _ _ _ h9 _ => (h9).elim)
set_option maxRecDepth 100000 in
theorem c_X8_partnershipK0 {l : Launch} (hfl : l.stackTraces = false) {D : va_G} {cy : Nat → ClassId} {f : Hf} {sz : Nat} {x : Nat} {A : Nat → Nat} {b : Nat} {b2 : Nat} {lg : Nat} {lg_o : Nat} {tx : Nat} {rz : Nat} {ro : Nat} {xea : Int32} {xra : Int32} {xkr : Int32} {q : Nat → Option Nat} {cm : Nat → Int32} {cs : Nat → Nat → Nat → Int32} (kn : Int32) (what : Int32) (h_x : f x = some (.inr (10, [.ref (A (b + 0)), .ref (A (b2 + 0)), .ref lg, .ref lg_o, .ref tx, .ref rz, .ref ro, .int xea, .int xra, .int xkr]))) (hAj : ∀ i j : Nat, i ≠ j → A i ≠ A j) (hM : MW A b cy q cm cs f) (hQ : HQ A b q) (v0 : ¬ (X2_hasBegun_x2 (cm 0) (cm 4) 0) = 0) (w0 : (X6_hasRow_x1 (cs 0 7 3) kn) = 0) : hMet l yX8_partnership cX8_partnership 4 (some .int) { frames := 7, cells := 1, slots := 6, locals := 104 } D (hTy cy) f sz [.ref x, .int 0, .int kn, .int what] (hQi (fun r u => False) D f sz) (fun E u => E = "java/util/NoSuchElementException" ∧ MW A b cy q cm cs u ∧ hFrL f u []) := by
  refine h_enter (by decide) hfl (Nat.le_of_ble_eq_true rfl) ?_
  intro p9 e9 s9 m9 b9 t9 c9 hsz C0 hr hnm G ls hl
  have hx := C0.1.1
  have hb := C0.1.2.1
  have hl : lv_has ls 4 [(0, .ref x), (1, .int 0), (2, .int kn), (3, .int what)] := hl
  refine lv_aload_n hx hb dX8_partnership_0 rfl (lv_at hl 0 rfl) ?_
  refine lv_iload_n hx hb dX8_partnership_1 rfl (lv_at hl 1 rfl) ?_
  refine g_cV C0 G (g_runV C0 G (rest := []) (c_X8_demandInningsO hfl (A := A) (b := b) (b2 := b2) (xea := xea) (xra := xra) (xkr := xkr) (cm := cm) (cs := cs) 0 h_x hAj hM hQ v0) h_x rfl hY_X8_demandInnings mm_X8_200 mi_X8_demandInnings ml_X8_demandInnings ⟨(Nat.le_of_ble_eq_true rfl), (Nat.le_of_ble_eq_true rfl)⟩ rfl hl.1 rfl (Nat.le_of_ble_eq_true rfl) dX8_partnership_2 ⟨(Nat.le_of_ble_eq_true rfl), (Nat.le_of_ble_eq_true rfl)⟩) (kx_no rfl) (fun u12 H locs hp11 G => ?_)
  obtain ⟨hM13, fr14⟩ := hp11
  refine lv_aload_n hx hb dX8_partnership_5 rfl (lv_at hl 0 rfl) ?_
  have k16 : u12 x = some (.inr (10, [.ref (A (b + 0)), .ref (A (b2 + 0)), .ref lg, .ref lg_o, .ref tx, .ref rz, .ref ro, .int xea, .int xra, .int xkr])) := fr14 _ _ (by simp) h_x
  refine g_get C0 G k16 rfl hiX8 0 (by decide) mf_X8_10 rfl dX8_partnership_6 ?_
  refine lv_iload_n hx hb dX8_partnership_9 rfl (lv_at hl 1 rfl) ?_
  have k17 : u12 (A (b + 0)) = some (.inr (4, [.ref (A (b + 1)), .int (cm 0), .int (cm 1), .int (cm 2), .int (cm 3), .int (cm 4)])) := hM13 0 (by omega)
  have k18 : u12 (A (b + 1)) = some (.inl (cy 3, 4, .inr (.inr (.inr (.inr q))))) := hM13 1 (by omega)
  refine g_cR C0 G (g_runV C0 G (rest := []) (c_X2_at0 hfl (A := A) (b := b) (ex := (cm 0)) (ov := (cm 1)) (ie := (cm 2)) (fi := (cm 3)) (nu := (cm 4)) (q := q) k17 k18 hAj hQ.1 hQ.2.1 hQ.2.2.1 hQ.2.2.2) k17 rfl hY_X2_at mm_X8_206 mi_X2_at ml_X2_at ⟨(Nat.le_of_ble_eq_true rfl), (Nat.le_of_ble_eq_true rfl)⟩ rfl hl.1 rfl (Nat.le_of_ble_eq_true rfl) dX8_partnership_10 ⟨(Nat.le_of_ble_eq_true rfl), (Nat.le_of_ble_eq_true rfl)⟩) (kx_no rfl) (fun a21 u20 H locs hp19 G => ?_)
  obtain ⟨zr, eu20⟩ := hp19
  replace zr := Eq.symm zr
  subst zr
  rw [eu20] at G
  have k22 : u12 (A (b + 2)) = some (.inr (2, [.ref (A (b + 3)), .ref (A (b + 5)), .ref (A (b + 7)), .ref (A (b + 9)), .ref (A (b + 11)), .ref (A (b + 13)), .int (cs 0 6 8), .int (cs 0 6 9), .int (cs 0 6 10), .int (cs 0 6 11), .int (cs 0 6 12)])) := hM13 2 (by omega)
  refine g_get C0 G k22 rfl hiX0 3 (by decide) mf_X8_230 rfl dX8_partnership_13 ?_
  refine lv_iload_n hx hb dX8_partnership_16 rfl (lv_at hl 2 rfl) ?_
  refine lv_iload_n hx hb dX8_partnership_17 rfl (lv_at hl 3 rfl) ?_
  have k23 : u12 (A (b + 9)) = some (.inr (8, [.int 8, .ref (A (b + 10)), .int (cs 0 7 3)])) := hM13 9 (by omega)
  have k24 : u12 (A (b + 10)) = some (.inl (cy 0, 4104, .inl (cs 0 3))) := hM13 10 (by omega)
  exact g_cI C0 G (g_runS C0 G (rest := []) (c_X8_tableNumberK hfl (n := 4104) (cols := 8) (rows := (cs 0 7 3)) (g := (cs 0 3)) kn what k23 k24 w0 (by omega)) hY_X8_tableNumber mm_X8_233 ms_X8_tableNumber ⟨(Nat.le_of_ble_eq_true rfl), (Nat.le_of_ble_eq_true rfl)⟩ rfl hl.1 rfl (Nat.le_of_ble_eq_true rfl) dX8_partnership_18 ⟨(Nat.le_of_ble_eq_true rfl), (Nat.le_of_ble_eq_true rfl)⟩) (kx_out C0 (Nat.le_of_ble_eq_true rfl) (Nat.le_of_ble_eq_true rfl) (fun E9 u9 h9 => by
      obtain ⟨hE9, eu26⟩ := h9
      have fr25 : hFrL u12 u9 [] := fun a9 e9 h7 h8 => by rw [eu26]; exact h8
      have hM27 := MW_frN hM13 fr25 (fun y9 hy9 => absurd hy9 (by simp))
      exact ⟨hE9, hM27, (fun a9 e9 h7 h8 => fr25 _ _ (by simp) (fr14 _ _ (by simp) (h8)))⟩)) (fun _ _ _ _ h9 _ => (h9).elim)
set_option maxRecDepth 100000 in
theorem c_X8_partnershipW0 {l : Launch} (hfl : l.stackTraces = false) {D : va_G} {cy : Nat → ClassId} {f : Hf} {sz : Nat} {x : Nat} {A : Nat → Nat} {b : Nat} {b2 : Nat} {lg : Nat} {lg_o : Nat} {tx : Nat} {rz : Nat} {ro : Nat} {xea : Int32} {xra : Int32} {xkr : Int32} {q : Nat → Option Nat} {cm : Nat → Int32} {cs : Nat → Nat → Nat → Int32} (kn : Int32) (what : Int32) (h_x : f x = some (.inr (10, [.ref (A (b + 0)), .ref (A (b2 + 0)), .ref lg, .ref lg_o, .ref tx, .ref rz, .ref ro, .int xea, .int xra, .int xkr]))) (hAj : ∀ i j : Nat, i ≠ j → A i ≠ A j) (hM : MW A b cy q cm cs f) (hQ : HQ A b q) (v0 : ¬ (X2_hasBegun_x2 (cm 0) (cm 4) 0) = 0) (w0 : ¬ (X6_hasRow_x1 (cs 0 7 3) kn) = 0) (w1 : (X6_hasColumn_x1 8 what) = 0) : hMet l yX8_partnership cX8_partnership 4 (some .int) { frames := 7, cells := 1, slots := 6, locals := 104 } D (hTy cy) f sz [.ref x, .int 0, .int kn, .int what] (hQi (fun r u => False) D f sz) (fun E u => E = "java/lang/IllegalArgumentException" ∧ MW A b cy q cm cs u ∧ hFrL f u []) := by
  refine h_enter (by decide) hfl (Nat.le_of_ble_eq_true rfl) ?_
  intro p9 e9 s9 m9 b9 t9 c9 hsz C0 hr hnm G ls hl
  have hx := C0.1.1
  have hb := C0.1.2.1
  have hl : lv_has ls 4 [(0, .ref x), (1, .int 0), (2, .int kn), (3, .int what)] := hl
  refine lv_aload_n hx hb dX8_partnership_0 rfl (lv_at hl 0 rfl) ?_
  refine lv_iload_n hx hb dX8_partnership_1 rfl (lv_at hl 1 rfl) ?_
  refine g_cV C0 G (g_runV C0 G (rest := []) (c_X8_demandInningsO hfl (A := A) (b := b) (b2 := b2) (xea := xea) (xra := xra) (xkr := xkr) (cm := cm) (cs := cs) 0 h_x hAj hM hQ v0) h_x rfl hY_X8_demandInnings mm_X8_200 mi_X8_demandInnings ml_X8_demandInnings ⟨(Nat.le_of_ble_eq_true rfl), (Nat.le_of_ble_eq_true rfl)⟩ rfl hl.1 rfl (Nat.le_of_ble_eq_true rfl) dX8_partnership_2 ⟨(Nat.le_of_ble_eq_true rfl), (Nat.le_of_ble_eq_true rfl)⟩) (kx_no rfl) (fun u12 H locs hp11 G => ?_)
  obtain ⟨hM13, fr14⟩ := hp11
  refine lv_aload_n hx hb dX8_partnership_5 rfl (lv_at hl 0 rfl) ?_
  have k16 : u12 x = some (.inr (10, [.ref (A (b + 0)), .ref (A (b2 + 0)), .ref lg, .ref lg_o, .ref tx, .ref rz, .ref ro, .int xea, .int xra, .int xkr])) := fr14 _ _ (by simp) h_x
  refine g_get C0 G k16 rfl hiX8 0 (by decide) mf_X8_10 rfl dX8_partnership_6 ?_
  refine lv_iload_n hx hb dX8_partnership_9 rfl (lv_at hl 1 rfl) ?_
  have k17 : u12 (A (b + 0)) = some (.inr (4, [.ref (A (b + 1)), .int (cm 0), .int (cm 1), .int (cm 2), .int (cm 3), .int (cm 4)])) := hM13 0 (by omega)
  have k18 : u12 (A (b + 1)) = some (.inl (cy 3, 4, .inr (.inr (.inr (.inr q))))) := hM13 1 (by omega)
  refine g_cR C0 G (g_runV C0 G (rest := []) (c_X2_at0 hfl (A := A) (b := b) (ex := (cm 0)) (ov := (cm 1)) (ie := (cm 2)) (fi := (cm 3)) (nu := (cm 4)) (q := q) k17 k18 hAj hQ.1 hQ.2.1 hQ.2.2.1 hQ.2.2.2) k17 rfl hY_X2_at mm_X8_206 mi_X2_at ml_X2_at ⟨(Nat.le_of_ble_eq_true rfl), (Nat.le_of_ble_eq_true rfl)⟩ rfl hl.1 rfl (Nat.le_of_ble_eq_true rfl) dX8_partnership_10 ⟨(Nat.le_of_ble_eq_true rfl), (Nat.le_of_ble_eq_true rfl)⟩) (kx_no rfl) (fun a21 u20 H locs hp19 G => ?_)
  obtain ⟨zr, eu20⟩ := hp19
  replace zr := Eq.symm zr
  subst zr
  rw [eu20] at G
  have k22 : u12 (A (b + 2)) = some (.inr (2, [.ref (A (b + 3)), .ref (A (b + 5)), .ref (A (b + 7)), .ref (A (b + 9)), .ref (A (b + 11)), .ref (A (b + 13)), .int (cs 0 6 8), .int (cs 0 6 9), .int (cs 0 6 10), .int (cs 0 6 11), .int (cs 0 6 12)])) := hM13 2 (by omega)
  refine g_get C0 G k22 rfl hiX0 3 (by decide) mf_X8_230 rfl dX8_partnership_13 ?_
  refine lv_iload_n hx hb dX8_partnership_16 rfl (lv_at hl 2 rfl) ?_
  refine lv_iload_n hx hb dX8_partnership_17 rfl (lv_at hl 3 rfl) ?_
  have k23 : u12 (A (b + 9)) = some (.inr (8, [.int 8, .ref (A (b + 10)), .int (cs 0 7 3)])) := hM13 9 (by omega)
  have k24 : u12 (A (b + 10)) = some (.inl (cy 0, 4104, .inl (cs 0 3))) := hM13 10 (by omega)
  exact g_cI C0 G (g_runS C0 G (rest := []) (c_X8_tableNumberW hfl (n := 4104) (cols := 8) (rows := (cs 0 7 3)) (g := (cs 0 3)) kn what k23 k24 w0 w1 (by omega)) hY_X8_tableNumber mm_X8_233 ms_X8_tableNumber ⟨(Nat.le_of_ble_eq_true rfl), (Nat.le_of_ble_eq_true rfl)⟩ rfl hl.1 rfl (Nat.le_of_ble_eq_true rfl) dX8_partnership_18 ⟨(Nat.le_of_ble_eq_true rfl), (Nat.le_of_ble_eq_true rfl)⟩) (kx_out C0 (Nat.le_of_ble_eq_true rfl) (Nat.le_of_ble_eq_true rfl) (fun E9 u9 h9 => by
      obtain ⟨hE9, eu26⟩ := h9
      have fr25 : hFrL u12 u9 [] := fun a9 e9 h7 h8 => by rw [eu26]; exact h8
      have hM27 := MW_frN hM13 fr25 (fun y9 hy9 => absurd hy9 (by simp))
      exact ⟨hE9, hM27, (fun a9 e9 h7 h8 => fr25 _ _ (by simp) (fr14 _ _ (by simp) (h8)))⟩)) (fun _ _ _ _ h9 _ => (h9).elim)
def X8_partnershipY0_r0 (cs : Nat → Nat → Nat → Int32) (kn : Int32) (what : Int32) : Int32 := (tget 8 (cs 0 7 3) 4104 (cs 0 3) kn what)
set_option maxRecDepth 100000 in
theorem c_X8_partnershipY0 {l : Launch} (hfl : l.stackTraces = false) {D : va_G} {cy : Nat → ClassId} {f : Hf} {sz : Nat} {x : Nat} {A : Nat → Nat} {b : Nat} {b2 : Nat} {lg : Nat} {lg_o : Nat} {tx : Nat} {rz : Nat} {ro : Nat} {xea : Int32} {xra : Int32} {xkr : Int32} {q : Nat → Option Nat} {cm : Nat → Int32} {cs : Nat → Nat → Nat → Int32} (kn : Int32) (what : Int32) (h_x : f x = some (.inr (10, [.ref (A (b + 0)), .ref (A (b2 + 0)), .ref lg, .ref lg_o, .ref tx, .ref rz, .ref ro, .int xea, .int xra, .int xkr]))) (hAj : ∀ i j : Nat, i ≠ j → A i ≠ A j) (hM : MW A b cy q cm cs f) (hQ : HQ A b q) (v0 : ¬ (X2_hasBegun_x2 (cm 0) (cm 4) 0) = 0) (w0 : ¬ (X6_hasRow_x1 (cs 0 7 3) kn) = 0) (w1 : ¬ (X6_hasColumn_x1 8 what) = 0) : hMet l yX8_partnership cX8_partnership 4 (some .int) { frames := 2, cells := 0, slots := 0, locals := 46 } D (hTy cy) f sz [.ref x, .int 0, .int kn, .int what] (hQi (fun r u => r = (X8_partnershipY0_r0 cs kn what) ∧ MW A b cy q cm cs u ∧ hFrL f u []) D f sz) hNo := by
  refine h_enter (by decide) hfl (Nat.le_of_ble_eq_true rfl) ?_
  intro p9 e9 s9 m9 b9 t9 c9 hsz C0 hr hnm G ls hl
  have hx := C0.1.1
  have hb := C0.1.2.1
  have hl : lv_has ls 4 [(0, .ref x), (1, .int 0), (2, .int kn), (3, .int what)] := hl
  refine lv_aload_n hx hb dX8_partnership_0 rfl (lv_at hl 0 rfl) ?_
  refine lv_iload_n hx hb dX8_partnership_1 rfl (lv_at hl 1 rfl) ?_
  refine g_cV C0 G (g_runV C0 G (rest := []) (c_X8_demandInningsO hfl (A := A) (b := b) (b2 := b2) (xea := xea) (xra := xra) (xkr := xkr) (cm := cm) (cs := cs) 0 h_x hAj hM hQ v0) h_x rfl hY_X8_demandInnings mm_X8_200 mi_X8_demandInnings ml_X8_demandInnings ⟨(Nat.le_of_ble_eq_true rfl), (Nat.le_of_ble_eq_true rfl)⟩ rfl hl.1 rfl (Nat.le_of_ble_eq_true rfl) dX8_partnership_2 ⟨(Nat.le_of_ble_eq_true rfl), (Nat.le_of_ble_eq_true rfl)⟩) (kx_no rfl) (fun u12 H locs hp11 G => ?_)
  obtain ⟨hM13, fr14⟩ := hp11
  refine lv_aload_n hx hb dX8_partnership_5 rfl (lv_at hl 0 rfl) ?_
  have k16 : u12 x = some (.inr (10, [.ref (A (b + 0)), .ref (A (b2 + 0)), .ref lg, .ref lg_o, .ref tx, .ref rz, .ref ro, .int xea, .int xra, .int xkr])) := fr14 _ _ (by simp) h_x
  refine g_get C0 G k16 rfl hiX8 0 (by decide) mf_X8_10 rfl dX8_partnership_6 ?_
  refine lv_iload_n hx hb dX8_partnership_9 rfl (lv_at hl 1 rfl) ?_
  have k17 : u12 (A (b + 0)) = some (.inr (4, [.ref (A (b + 1)), .int (cm 0), .int (cm 1), .int (cm 2), .int (cm 3), .int (cm 4)])) := hM13 0 (by omega)
  have k18 : u12 (A (b + 1)) = some (.inl (cy 3, 4, .inr (.inr (.inr (.inr q))))) := hM13 1 (by omega)
  refine g_cR C0 G (g_runV C0 G (rest := []) (c_X2_at0 hfl (A := A) (b := b) (ex := (cm 0)) (ov := (cm 1)) (ie := (cm 2)) (fi := (cm 3)) (nu := (cm 4)) (q := q) k17 k18 hAj hQ.1 hQ.2.1 hQ.2.2.1 hQ.2.2.2) k17 rfl hY_X2_at mm_X8_206 mi_X2_at ml_X2_at ⟨(Nat.le_of_ble_eq_true rfl), (Nat.le_of_ble_eq_true rfl)⟩ rfl hl.1 rfl (Nat.le_of_ble_eq_true rfl) dX8_partnership_10 ⟨(Nat.le_of_ble_eq_true rfl), (Nat.le_of_ble_eq_true rfl)⟩) (kx_no rfl) (fun a21 u20 H locs hp19 G => ?_)
  obtain ⟨zr, eu20⟩ := hp19
  replace zr := Eq.symm zr
  subst zr
  rw [eu20] at G
  have k22 : u12 (A (b + 2)) = some (.inr (2, [.ref (A (b + 3)), .ref (A (b + 5)), .ref (A (b + 7)), .ref (A (b + 9)), .ref (A (b + 11)), .ref (A (b + 13)), .int (cs 0 6 8), .int (cs 0 6 9), .int (cs 0 6 10), .int (cs 0 6 11), .int (cs 0 6 12)])) := hM13 2 (by omega)
  refine g_get C0 G k22 rfl hiX0 3 (by decide) mf_X8_230 rfl dX8_partnership_13 ?_
  refine lv_iload_n hx hb dX8_partnership_16 rfl (lv_at hl 2 rfl) ?_
  refine lv_iload_n hx hb dX8_partnership_17 rfl (lv_at hl 3 rfl) ?_
  have k23 : u12 (A (b + 9)) = some (.inr (8, [.int 8, .ref (A (b + 10)), .int (cs 0 7 3)])) := hM13 9 (by omega)
  have k24 : u12 (A (b + 10)) = some (.inl (cy 0, 4104, .inl (cs 0 3))) := hM13 10 (by omega)
  refine g_cI C0 G (g_runS C0 G (rest := []) (c_X8_tableNumberY hfl (n := 4104) (cols := 8) (rows := (cs 0 7 3)) (g := (cs 0 3)) kn what k23 k24 w0 w1 (by omega)) hY_X8_tableNumber mm_X8_233 ms_X8_tableNumber ⟨(Nat.le_of_ble_eq_true rfl), (Nat.le_of_ble_eq_true rfl)⟩ rfl hl.1 rfl (Nat.le_of_ble_eq_true rfl) dX8_partnership_18 ⟨(Nat.le_of_ble_eq_true rfl), (Nat.le_of_ble_eq_true rfl)⟩) (kx_no rfl) (fun r27 u26 H locs hp25 G => ?_)
  obtain ⟨er28, eu26⟩ := hp25
  rw [eu26] at G
  refine lv_topv (v := (tget 8 (cs 0 7 3) 4104 (cs 0 3) kn what)) er28 ?_
  exact g_iret C0 G hr dX8_partnership_21 (Nat.le_of_ble_eq_true rfl) (Nat.le_of_ble_eq_true rfl) (by exact ⟨(by rw [X8_partnershipY0_r0]), hM13, (fun a9 e9 h7 h8 => fr14 _ _ (by simp) (h8))⟩)
set_option maxRecDepth 100000 in
theorem c_X8_partnershipK1 {l : Launch} (hfl : l.stackTraces = false) {D : va_G} {cy : Nat → ClassId} {f : Hf} {sz : Nat} {x : Nat} {A : Nat → Nat} {b : Nat} {b2 : Nat} {lg : Nat} {lg_o : Nat} {tx : Nat} {rz : Nat} {ro : Nat} {xea : Int32} {xra : Int32} {xkr : Int32} {q : Nat → Option Nat} {cm : Nat → Int32} {cs : Nat → Nat → Nat → Int32} (kn : Int32) (what : Int32) (h_x : f x = some (.inr (10, [.ref (A (b + 0)), .ref (A (b2 + 0)), .ref lg, .ref lg_o, .ref tx, .ref rz, .ref ro, .int xea, .int xra, .int xkr]))) (hAj : ∀ i j : Nat, i ≠ j → A i ≠ A j) (hM : MW A b cy q cm cs f) (hQ : HQ A b q) (v0 : ¬ (X2_hasBegun_x2 (cm 0) (cm 4) 1) = 0) (w0 : (X6_hasRow_x1 (cs 1 7 3) kn) = 0) : hMet l yX8_partnership cX8_partnership 4 (some .int) { frames := 7, cells := 1, slots := 6, locals := 104 } D (hTy cy) f sz [.ref x, .int 1, .int kn, .int what] (hQi (fun r u => False) D f sz) (fun E u => E = "java/util/NoSuchElementException" ∧ MW A b cy q cm cs u ∧ hFrL f u []) := by
  refine h_enter (by decide) hfl (Nat.le_of_ble_eq_true rfl) ?_
  intro p9 e9 s9 m9 b9 t9 c9 hsz C0 hr hnm G ls hl
  have hx := C0.1.1
  have hb := C0.1.2.1
  have hl : lv_has ls 4 [(0, .ref x), (1, .int 1), (2, .int kn), (3, .int what)] := hl
  refine lv_aload_n hx hb dX8_partnership_0 rfl (lv_at hl 0 rfl) ?_
  refine lv_iload_n hx hb dX8_partnership_1 rfl (lv_at hl 1 rfl) ?_
  refine g_cV C0 G (g_runV C0 G (rest := []) (c_X8_demandInningsO hfl (A := A) (b := b) (b2 := b2) (xea := xea) (xra := xra) (xkr := xkr) (cm := cm) (cs := cs) 1 h_x hAj hM hQ v0) h_x rfl hY_X8_demandInnings mm_X8_200 mi_X8_demandInnings ml_X8_demandInnings ⟨(Nat.le_of_ble_eq_true rfl), (Nat.le_of_ble_eq_true rfl)⟩ rfl hl.1 rfl (Nat.le_of_ble_eq_true rfl) dX8_partnership_2 ⟨(Nat.le_of_ble_eq_true rfl), (Nat.le_of_ble_eq_true rfl)⟩) (kx_no rfl) (fun u12 H locs hp11 G => ?_)
  obtain ⟨hM13, fr14⟩ := hp11
  refine lv_aload_n hx hb dX8_partnership_5 rfl (lv_at hl 0 rfl) ?_
  have k16 : u12 x = some (.inr (10, [.ref (A (b + 0)), .ref (A (b2 + 0)), .ref lg, .ref lg_o, .ref tx, .ref rz, .ref ro, .int xea, .int xra, .int xkr])) := fr14 _ _ (by simp) h_x
  refine g_get C0 G k16 rfl hiX8 0 (by decide) mf_X8_10 rfl dX8_partnership_6 ?_
  refine lv_iload_n hx hb dX8_partnership_9 rfl (lv_at hl 1 rfl) ?_
  have k17 : u12 (A (b + 0)) = some (.inr (4, [.ref (A (b + 1)), .int (cm 0), .int (cm 1), .int (cm 2), .int (cm 3), .int (cm 4)])) := hM13 0 (by omega)
  have k18 : u12 (A (b + 1)) = some (.inl (cy 3, 4, .inr (.inr (.inr (.inr q))))) := hM13 1 (by omega)
  refine g_cR C0 G (g_runV C0 G (rest := []) (c_X2_at1 hfl (A := A) (b := b) (ex := (cm 0)) (ov := (cm 1)) (ie := (cm 2)) (fi := (cm 3)) (nu := (cm 4)) (q := q) k17 k18 hAj hQ.1 hQ.2.1 hQ.2.2.1 hQ.2.2.2) k17 rfl hY_X2_at mm_X8_206 mi_X2_at ml_X2_at ⟨(Nat.le_of_ble_eq_true rfl), (Nat.le_of_ble_eq_true rfl)⟩ rfl hl.1 rfl (Nat.le_of_ble_eq_true rfl) dX8_partnership_10 ⟨(Nat.le_of_ble_eq_true rfl), (Nat.le_of_ble_eq_true rfl)⟩) (kx_no rfl) (fun a21 u20 H locs hp19 G => ?_)
  obtain ⟨zr, eu20⟩ := hp19
  replace zr := Eq.symm zr
  subst zr
  rw [eu20] at G
  have k22 : u12 (A (b + 15)) = some (.inr (2, [.ref (A (b + 16)), .ref (A (b + 18)), .ref (A (b + 20)), .ref (A (b + 22)), .ref (A (b + 24)), .ref (A (b + 26)), .int (cs 1 6 8), .int (cs 1 6 9), .int (cs 1 6 10), .int (cs 1 6 11), .int (cs 1 6 12)])) := hM13 15 (by omega)
  refine g_get C0 G k22 rfl hiX0 3 (by decide) mf_X8_230 rfl dX8_partnership_13 ?_
  refine lv_iload_n hx hb dX8_partnership_16 rfl (lv_at hl 2 rfl) ?_
  refine lv_iload_n hx hb dX8_partnership_17 rfl (lv_at hl 3 rfl) ?_
  have k23 : u12 (A (b + 22)) = some (.inr (8, [.int 8, .ref (A (b + 23)), .int (cs 1 7 3)])) := hM13 22 (by omega)
  have k24 : u12 (A (b + 23)) = some (.inl (cy 0, 4104, .inl (cs 1 3))) := hM13 23 (by omega)
  exact g_cI C0 G (g_runS C0 G (rest := []) (c_X8_tableNumberK hfl (n := 4104) (cols := 8) (rows := (cs 1 7 3)) (g := (cs 1 3)) kn what k23 k24 w0 (by omega)) hY_X8_tableNumber mm_X8_233 ms_X8_tableNumber ⟨(Nat.le_of_ble_eq_true rfl), (Nat.le_of_ble_eq_true rfl)⟩ rfl hl.1 rfl (Nat.le_of_ble_eq_true rfl) dX8_partnership_18 ⟨(Nat.le_of_ble_eq_true rfl), (Nat.le_of_ble_eq_true rfl)⟩) (kx_out C0 (Nat.le_of_ble_eq_true rfl) (Nat.le_of_ble_eq_true rfl) (fun E9 u9 h9 => by
      obtain ⟨hE9, eu26⟩ := h9
      have fr25 : hFrL u12 u9 [] := fun a9 e9 h7 h8 => by rw [eu26]; exact h8
      have hM27 := MW_frN hM13 fr25 (fun y9 hy9 => absurd hy9 (by simp))
      exact ⟨hE9, hM27, (fun a9 e9 h7 h8 => fr25 _ _ (by simp) (fr14 _ _ (by simp) (h8)))⟩)) (fun _ _ _ _ h9 _ => (h9).elim)
set_option maxRecDepth 100000 in
theorem c_X8_partnershipW1 {l : Launch} (hfl : l.stackTraces = false) {D : va_G} {cy : Nat → ClassId} {f : Hf} {sz : Nat} {x : Nat} {A : Nat → Nat} {b : Nat} {b2 : Nat} {lg : Nat} {lg_o : Nat} {tx : Nat} {rz : Nat} {ro : Nat} {xea : Int32} {xra : Int32} {xkr : Int32} {q : Nat → Option Nat} {cm : Nat → Int32} {cs : Nat → Nat → Nat → Int32} (kn : Int32) (what : Int32) (h_x : f x = some (.inr (10, [.ref (A (b + 0)), .ref (A (b2 + 0)), .ref lg, .ref lg_o, .ref tx, .ref rz, .ref ro, .int xea, .int xra, .int xkr]))) (hAj : ∀ i j : Nat, i ≠ j → A i ≠ A j) (hM : MW A b cy q cm cs f) (hQ : HQ A b q) (v0 : ¬ (X2_hasBegun_x2 (cm 0) (cm 4) 1) = 0) (w0 : ¬ (X6_hasRow_x1 (cs 1 7 3) kn) = 0) (w1 : (X6_hasColumn_x1 8 what) = 0) : hMet l yX8_partnership cX8_partnership 4 (some .int) { frames := 7, cells := 1, slots := 6, locals := 104 } D (hTy cy) f sz [.ref x, .int 1, .int kn, .int what] (hQi (fun r u => False) D f sz) (fun E u => E = "java/lang/IllegalArgumentException" ∧ MW A b cy q cm cs u ∧ hFrL f u []) := by
  refine h_enter (by decide) hfl (Nat.le_of_ble_eq_true rfl) ?_
  intro p9 e9 s9 m9 b9 t9 c9 hsz C0 hr hnm G ls hl
  have hx := C0.1.1
  have hb := C0.1.2.1
  have hl : lv_has ls 4 [(0, .ref x), (1, .int 1), (2, .int kn), (3, .int what)] := hl
  refine lv_aload_n hx hb dX8_partnership_0 rfl (lv_at hl 0 rfl) ?_
  refine lv_iload_n hx hb dX8_partnership_1 rfl (lv_at hl 1 rfl) ?_
  refine g_cV C0 G (g_runV C0 G (rest := []) (c_X8_demandInningsO hfl (A := A) (b := b) (b2 := b2) (xea := xea) (xra := xra) (xkr := xkr) (cm := cm) (cs := cs) 1 h_x hAj hM hQ v0) h_x rfl hY_X8_demandInnings mm_X8_200 mi_X8_demandInnings ml_X8_demandInnings ⟨(Nat.le_of_ble_eq_true rfl), (Nat.le_of_ble_eq_true rfl)⟩ rfl hl.1 rfl (Nat.le_of_ble_eq_true rfl) dX8_partnership_2 ⟨(Nat.le_of_ble_eq_true rfl), (Nat.le_of_ble_eq_true rfl)⟩) (kx_no rfl) (fun u12 H locs hp11 G => ?_)
  obtain ⟨hM13, fr14⟩ := hp11
  refine lv_aload_n hx hb dX8_partnership_5 rfl (lv_at hl 0 rfl) ?_
  have k16 : u12 x = some (.inr (10, [.ref (A (b + 0)), .ref (A (b2 + 0)), .ref lg, .ref lg_o, .ref tx, .ref rz, .ref ro, .int xea, .int xra, .int xkr])) := fr14 _ _ (by simp) h_x
  refine g_get C0 G k16 rfl hiX8 0 (by decide) mf_X8_10 rfl dX8_partnership_6 ?_
  refine lv_iload_n hx hb dX8_partnership_9 rfl (lv_at hl 1 rfl) ?_
  have k17 : u12 (A (b + 0)) = some (.inr (4, [.ref (A (b + 1)), .int (cm 0), .int (cm 1), .int (cm 2), .int (cm 3), .int (cm 4)])) := hM13 0 (by omega)
  have k18 : u12 (A (b + 1)) = some (.inl (cy 3, 4, .inr (.inr (.inr (.inr q))))) := hM13 1 (by omega)
  refine g_cR C0 G (g_runV C0 G (rest := []) (c_X2_at1 hfl (A := A) (b := b) (ex := (cm 0)) (ov := (cm 1)) (ie := (cm 2)) (fi := (cm 3)) (nu := (cm 4)) (q := q) k17 k18 hAj hQ.1 hQ.2.1 hQ.2.2.1 hQ.2.2.2) k17 rfl hY_X2_at mm_X8_206 mi_X2_at ml_X2_at ⟨(Nat.le_of_ble_eq_true rfl), (Nat.le_of_ble_eq_true rfl)⟩ rfl hl.1 rfl (Nat.le_of_ble_eq_true rfl) dX8_partnership_10 ⟨(Nat.le_of_ble_eq_true rfl), (Nat.le_of_ble_eq_true rfl)⟩) (kx_no rfl) (fun a21 u20 H locs hp19 G => ?_)
  obtain ⟨zr, eu20⟩ := hp19
  replace zr := Eq.symm zr
  subst zr
  rw [eu20] at G
  have k22 : u12 (A (b + 15)) = some (.inr (2, [.ref (A (b + 16)), .ref (A (b + 18)), .ref (A (b + 20)), .ref (A (b + 22)), .ref (A (b + 24)), .ref (A (b + 26)), .int (cs 1 6 8), .int (cs 1 6 9), .int (cs 1 6 10), .int (cs 1 6 11), .int (cs 1 6 12)])) := hM13 15 (by omega)
  refine g_get C0 G k22 rfl hiX0 3 (by decide) mf_X8_230 rfl dX8_partnership_13 ?_
  refine lv_iload_n hx hb dX8_partnership_16 rfl (lv_at hl 2 rfl) ?_
  refine lv_iload_n hx hb dX8_partnership_17 rfl (lv_at hl 3 rfl) ?_
  have k23 : u12 (A (b + 22)) = some (.inr (8, [.int 8, .ref (A (b + 23)), .int (cs 1 7 3)])) := hM13 22 (by omega)
  have k24 : u12 (A (b + 23)) = some (.inl (cy 0, 4104, .inl (cs 1 3))) := hM13 23 (by omega)
  exact g_cI C0 G (g_runS C0 G (rest := []) (c_X8_tableNumberW hfl (n := 4104) (cols := 8) (rows := (cs 1 7 3)) (g := (cs 1 3)) kn what k23 k24 w0 w1 (by omega)) hY_X8_tableNumber mm_X8_233 ms_X8_tableNumber ⟨(Nat.le_of_ble_eq_true rfl), (Nat.le_of_ble_eq_true rfl)⟩ rfl hl.1 rfl (Nat.le_of_ble_eq_true rfl) dX8_partnership_18 ⟨(Nat.le_of_ble_eq_true rfl), (Nat.le_of_ble_eq_true rfl)⟩) (kx_out C0 (Nat.le_of_ble_eq_true rfl) (Nat.le_of_ble_eq_true rfl) (fun E9 u9 h9 => by
      obtain ⟨hE9, eu26⟩ := h9
      have fr25 : hFrL u12 u9 [] := fun a9 e9 h7 h8 => by rw [eu26]; exact h8
      have hM27 := MW_frN hM13 fr25 (fun y9 hy9 => absurd hy9 (by simp))
      exact ⟨hE9, hM27, (fun a9 e9 h7 h8 => fr25 _ _ (by simp) (fr14 _ _ (by simp) (h8)))⟩)) (fun _ _ _ _ h9 _ => (h9).elim)
def X8_partnershipY1_r0 (cs : Nat → Nat → Nat → Int32) (kn : Int32) (what : Int32) : Int32 := (tget 8 (cs 1 7 3) 4104 (cs 1 3) kn what)
set_option maxRecDepth 100000 in
theorem c_X8_partnershipY1 {l : Launch} (hfl : l.stackTraces = false) {D : va_G} {cy : Nat → ClassId} {f : Hf} {sz : Nat} {x : Nat} {A : Nat → Nat} {b : Nat} {b2 : Nat} {lg : Nat} {lg_o : Nat} {tx : Nat} {rz : Nat} {ro : Nat} {xea : Int32} {xra : Int32} {xkr : Int32} {q : Nat → Option Nat} {cm : Nat → Int32} {cs : Nat → Nat → Nat → Int32} (kn : Int32) (what : Int32) (h_x : f x = some (.inr (10, [.ref (A (b + 0)), .ref (A (b2 + 0)), .ref lg, .ref lg_o, .ref tx, .ref rz, .ref ro, .int xea, .int xra, .int xkr]))) (hAj : ∀ i j : Nat, i ≠ j → A i ≠ A j) (hM : MW A b cy q cm cs f) (hQ : HQ A b q) (v0 : ¬ (X2_hasBegun_x2 (cm 0) (cm 4) 1) = 0) (w0 : ¬ (X6_hasRow_x1 (cs 1 7 3) kn) = 0) (w1 : ¬ (X6_hasColumn_x1 8 what) = 0) : hMet l yX8_partnership cX8_partnership 4 (some .int) { frames := 2, cells := 0, slots := 0, locals := 46 } D (hTy cy) f sz [.ref x, .int 1, .int kn, .int what] (hQi (fun r u => r = (X8_partnershipY1_r0 cs kn what) ∧ MW A b cy q cm cs u ∧ hFrL f u []) D f sz) hNo := by
  refine h_enter (by decide) hfl (Nat.le_of_ble_eq_true rfl) ?_
  intro p9 e9 s9 m9 b9 t9 c9 hsz C0 hr hnm G ls hl
  have hx := C0.1.1
  have hb := C0.1.2.1
  have hl : lv_has ls 4 [(0, .ref x), (1, .int 1), (2, .int kn), (3, .int what)] := hl
  refine lv_aload_n hx hb dX8_partnership_0 rfl (lv_at hl 0 rfl) ?_
  refine lv_iload_n hx hb dX8_partnership_1 rfl (lv_at hl 1 rfl) ?_
  refine g_cV C0 G (g_runV C0 G (rest := []) (c_X8_demandInningsO hfl (A := A) (b := b) (b2 := b2) (xea := xea) (xra := xra) (xkr := xkr) (cm := cm) (cs := cs) 1 h_x hAj hM hQ v0) h_x rfl hY_X8_demandInnings mm_X8_200 mi_X8_demandInnings ml_X8_demandInnings ⟨(Nat.le_of_ble_eq_true rfl), (Nat.le_of_ble_eq_true rfl)⟩ rfl hl.1 rfl (Nat.le_of_ble_eq_true rfl) dX8_partnership_2 ⟨(Nat.le_of_ble_eq_true rfl), (Nat.le_of_ble_eq_true rfl)⟩) (kx_no rfl) (fun u12 H locs hp11 G => ?_)
  obtain ⟨hM13, fr14⟩ := hp11
  refine lv_aload_n hx hb dX8_partnership_5 rfl (lv_at hl 0 rfl) ?_
  have k16 : u12 x = some (.inr (10, [.ref (A (b + 0)), .ref (A (b2 + 0)), .ref lg, .ref lg_o, .ref tx, .ref rz, .ref ro, .int xea, .int xra, .int xkr])) := fr14 _ _ (by simp) h_x
  refine g_get C0 G k16 rfl hiX8 0 (by decide) mf_X8_10 rfl dX8_partnership_6 ?_
  refine lv_iload_n hx hb dX8_partnership_9 rfl (lv_at hl 1 rfl) ?_
  have k17 : u12 (A (b + 0)) = some (.inr (4, [.ref (A (b + 1)), .int (cm 0), .int (cm 1), .int (cm 2), .int (cm 3), .int (cm 4)])) := hM13 0 (by omega)
  have k18 : u12 (A (b + 1)) = some (.inl (cy 3, 4, .inr (.inr (.inr (.inr q))))) := hM13 1 (by omega)
  refine g_cR C0 G (g_runV C0 G (rest := []) (c_X2_at1 hfl (A := A) (b := b) (ex := (cm 0)) (ov := (cm 1)) (ie := (cm 2)) (fi := (cm 3)) (nu := (cm 4)) (q := q) k17 k18 hAj hQ.1 hQ.2.1 hQ.2.2.1 hQ.2.2.2) k17 rfl hY_X2_at mm_X8_206 mi_X2_at ml_X2_at ⟨(Nat.le_of_ble_eq_true rfl), (Nat.le_of_ble_eq_true rfl)⟩ rfl hl.1 rfl (Nat.le_of_ble_eq_true rfl) dX8_partnership_10 ⟨(Nat.le_of_ble_eq_true rfl), (Nat.le_of_ble_eq_true rfl)⟩) (kx_no rfl) (fun a21 u20 H locs hp19 G => ?_)
  obtain ⟨zr, eu20⟩ := hp19
  replace zr := Eq.symm zr
  subst zr
  rw [eu20] at G
  have k22 : u12 (A (b + 15)) = some (.inr (2, [.ref (A (b + 16)), .ref (A (b + 18)), .ref (A (b + 20)), .ref (A (b + 22)), .ref (A (b + 24)), .ref (A (b + 26)), .int (cs 1 6 8), .int (cs 1 6 9), .int (cs 1 6 10), .int (cs 1 6 11), .int (cs 1 6 12)])) := hM13 15 (by omega)
  refine g_get C0 G k22 rfl hiX0 3 (by decide) mf_X8_230 rfl dX8_partnership_13 ?_
  refine lv_iload_n hx hb dX8_partnership_16 rfl (lv_at hl 2 rfl) ?_
  refine lv_iload_n hx hb dX8_partnership_17 rfl (lv_at hl 3 rfl) ?_
  have k23 : u12 (A (b + 22)) = some (.inr (8, [.int 8, .ref (A (b + 23)), .int (cs 1 7 3)])) := hM13 22 (by omega)
  have k24 : u12 (A (b + 23)) = some (.inl (cy 0, 4104, .inl (cs 1 3))) := hM13 23 (by omega)
  refine g_cI C0 G (g_runS C0 G (rest := []) (c_X8_tableNumberY hfl (n := 4104) (cols := 8) (rows := (cs 1 7 3)) (g := (cs 1 3)) kn what k23 k24 w0 w1 (by omega)) hY_X8_tableNumber mm_X8_233 ms_X8_tableNumber ⟨(Nat.le_of_ble_eq_true rfl), (Nat.le_of_ble_eq_true rfl)⟩ rfl hl.1 rfl (Nat.le_of_ble_eq_true rfl) dX8_partnership_18 ⟨(Nat.le_of_ble_eq_true rfl), (Nat.le_of_ble_eq_true rfl)⟩) (kx_no rfl) (fun r27 u26 H locs hp25 G => ?_)
  obtain ⟨er28, eu26⟩ := hp25
  rw [eu26] at G
  refine lv_topv (v := (tget 8 (cs 1 7 3) 4104 (cs 1 3) kn what)) er28 ?_
  exact g_iret C0 G hr dX8_partnership_21 (Nat.le_of_ble_eq_true rfl) (Nat.le_of_ble_eq_true rfl) (by exact ⟨(by rw [X8_partnershipY1_r0]), hM13, (fun a9 e9 h7 h8 => fr14 _ _ (by simp) (h8))⟩)
set_option maxRecDepth 100000 in
theorem c_X8_partnershipK2 {l : Launch} (hfl : l.stackTraces = false) {D : va_G} {cy : Nat → ClassId} {f : Hf} {sz : Nat} {x : Nat} {A : Nat → Nat} {b : Nat} {b2 : Nat} {lg : Nat} {lg_o : Nat} {tx : Nat} {rz : Nat} {ro : Nat} {xea : Int32} {xra : Int32} {xkr : Int32} {q : Nat → Option Nat} {cm : Nat → Int32} {cs : Nat → Nat → Nat → Int32} (kn : Int32) (what : Int32) (h_x : f x = some (.inr (10, [.ref (A (b + 0)), .ref (A (b2 + 0)), .ref lg, .ref lg_o, .ref tx, .ref rz, .ref ro, .int xea, .int xra, .int xkr]))) (hAj : ∀ i j : Nat, i ≠ j → A i ≠ A j) (hM : MW A b cy q cm cs f) (hQ : HQ A b q) (v0 : ¬ (X2_hasBegun_x2 (cm 0) (cm 4) 2) = 0) (w0 : (X6_hasRow_x1 (cs 2 7 3) kn) = 0) : hMet l yX8_partnership cX8_partnership 4 (some .int) { frames := 7, cells := 1, slots := 6, locals := 104 } D (hTy cy) f sz [.ref x, .int 2, .int kn, .int what] (hQi (fun r u => False) D f sz) (fun E u => E = "java/util/NoSuchElementException" ∧ MW A b cy q cm cs u ∧ hFrL f u []) := by
  refine h_enter (by decide) hfl (Nat.le_of_ble_eq_true rfl) ?_
  intro p9 e9 s9 m9 b9 t9 c9 hsz C0 hr hnm G ls hl
  have hx := C0.1.1
  have hb := C0.1.2.1
  have hl : lv_has ls 4 [(0, .ref x), (1, .int 2), (2, .int kn), (3, .int what)] := hl
  refine lv_aload_n hx hb dX8_partnership_0 rfl (lv_at hl 0 rfl) ?_
  refine lv_iload_n hx hb dX8_partnership_1 rfl (lv_at hl 1 rfl) ?_
  refine g_cV C0 G (g_runV C0 G (rest := []) (c_X8_demandInningsO hfl (A := A) (b := b) (b2 := b2) (xea := xea) (xra := xra) (xkr := xkr) (cm := cm) (cs := cs) 2 h_x hAj hM hQ v0) h_x rfl hY_X8_demandInnings mm_X8_200 mi_X8_demandInnings ml_X8_demandInnings ⟨(Nat.le_of_ble_eq_true rfl), (Nat.le_of_ble_eq_true rfl)⟩ rfl hl.1 rfl (Nat.le_of_ble_eq_true rfl) dX8_partnership_2 ⟨(Nat.le_of_ble_eq_true rfl), (Nat.le_of_ble_eq_true rfl)⟩) (kx_no rfl) (fun u12 H locs hp11 G => ?_)
  obtain ⟨hM13, fr14⟩ := hp11
  refine lv_aload_n hx hb dX8_partnership_5 rfl (lv_at hl 0 rfl) ?_
  have k16 : u12 x = some (.inr (10, [.ref (A (b + 0)), .ref (A (b2 + 0)), .ref lg, .ref lg_o, .ref tx, .ref rz, .ref ro, .int xea, .int xra, .int xkr])) := fr14 _ _ (by simp) h_x
  refine g_get C0 G k16 rfl hiX8 0 (by decide) mf_X8_10 rfl dX8_partnership_6 ?_
  refine lv_iload_n hx hb dX8_partnership_9 rfl (lv_at hl 1 rfl) ?_
  have k17 : u12 (A (b + 0)) = some (.inr (4, [.ref (A (b + 1)), .int (cm 0), .int (cm 1), .int (cm 2), .int (cm 3), .int (cm 4)])) := hM13 0 (by omega)
  have k18 : u12 (A (b + 1)) = some (.inl (cy 3, 4, .inr (.inr (.inr (.inr q))))) := hM13 1 (by omega)
  refine g_cR C0 G (g_runV C0 G (rest := []) (c_X2_at2 hfl (A := A) (b := b) (ex := (cm 0)) (ov := (cm 1)) (ie := (cm 2)) (fi := (cm 3)) (nu := (cm 4)) (q := q) k17 k18 hAj hQ.1 hQ.2.1 hQ.2.2.1 hQ.2.2.2) k17 rfl hY_X2_at mm_X8_206 mi_X2_at ml_X2_at ⟨(Nat.le_of_ble_eq_true rfl), (Nat.le_of_ble_eq_true rfl)⟩ rfl hl.1 rfl (Nat.le_of_ble_eq_true rfl) dX8_partnership_10 ⟨(Nat.le_of_ble_eq_true rfl), (Nat.le_of_ble_eq_true rfl)⟩) (kx_no rfl) (fun a21 u20 H locs hp19 G => ?_)
  obtain ⟨zr, eu20⟩ := hp19
  replace zr := Eq.symm zr
  subst zr
  rw [eu20] at G
  have k22 : u12 (A (b + 28)) = some (.inr (2, [.ref (A (b + 29)), .ref (A (b + 31)), .ref (A (b + 33)), .ref (A (b + 35)), .ref (A (b + 37)), .ref (A (b + 39)), .int (cs 2 6 8), .int (cs 2 6 9), .int (cs 2 6 10), .int (cs 2 6 11), .int (cs 2 6 12)])) := hM13 28 (by omega)
  refine g_get C0 G k22 rfl hiX0 3 (by decide) mf_X8_230 rfl dX8_partnership_13 ?_
  refine lv_iload_n hx hb dX8_partnership_16 rfl (lv_at hl 2 rfl) ?_
  refine lv_iload_n hx hb dX8_partnership_17 rfl (lv_at hl 3 rfl) ?_
  have k23 : u12 (A (b + 35)) = some (.inr (8, [.int 8, .ref (A (b + 36)), .int (cs 2 7 3)])) := hM13 35 (by omega)
  have k24 : u12 (A (b + 36)) = some (.inl (cy 0, 4104, .inl (cs 2 3))) := hM13 36 (by omega)
  exact g_cI C0 G (g_runS C0 G (rest := []) (c_X8_tableNumberK hfl (n := 4104) (cols := 8) (rows := (cs 2 7 3)) (g := (cs 2 3)) kn what k23 k24 w0 (by omega)) hY_X8_tableNumber mm_X8_233 ms_X8_tableNumber ⟨(Nat.le_of_ble_eq_true rfl), (Nat.le_of_ble_eq_true rfl)⟩ rfl hl.1 rfl (Nat.le_of_ble_eq_true rfl) dX8_partnership_18 ⟨(Nat.le_of_ble_eq_true rfl), (Nat.le_of_ble_eq_true rfl)⟩) (kx_out C0 (Nat.le_of_ble_eq_true rfl) (Nat.le_of_ble_eq_true rfl) (fun E9 u9 h9 => by
      obtain ⟨hE9, eu26⟩ := h9
      have fr25 : hFrL u12 u9 [] := fun a9 e9 h7 h8 => by rw [eu26]; exact h8
      have hM27 := MW_frN hM13 fr25 (fun y9 hy9 => absurd hy9 (by simp))
      exact ⟨hE9, hM27, (fun a9 e9 h7 h8 => fr25 _ _ (by simp) (fr14 _ _ (by simp) (h8)))⟩)) (fun _ _ _ _ h9 _ => (h9).elim)
set_option maxRecDepth 100000 in
theorem c_X8_partnershipW2 {l : Launch} (hfl : l.stackTraces = false) {D : va_G} {cy : Nat → ClassId} {f : Hf} {sz : Nat} {x : Nat} {A : Nat → Nat} {b : Nat} {b2 : Nat} {lg : Nat} {lg_o : Nat} {tx : Nat} {rz : Nat} {ro : Nat} {xea : Int32} {xra : Int32} {xkr : Int32} {q : Nat → Option Nat} {cm : Nat → Int32} {cs : Nat → Nat → Nat → Int32} (kn : Int32) (what : Int32) (h_x : f x = some (.inr (10, [.ref (A (b + 0)), .ref (A (b2 + 0)), .ref lg, .ref lg_o, .ref tx, .ref rz, .ref ro, .int xea, .int xra, .int xkr]))) (hAj : ∀ i j : Nat, i ≠ j → A i ≠ A j) (hM : MW A b cy q cm cs f) (hQ : HQ A b q) (v0 : ¬ (X2_hasBegun_x2 (cm 0) (cm 4) 2) = 0) (w0 : ¬ (X6_hasRow_x1 (cs 2 7 3) kn) = 0) (w1 : (X6_hasColumn_x1 8 what) = 0) : hMet l yX8_partnership cX8_partnership 4 (some .int) { frames := 7, cells := 1, slots := 6, locals := 104 } D (hTy cy) f sz [.ref x, .int 2, .int kn, .int what] (hQi (fun r u => False) D f sz) (fun E u => E = "java/lang/IllegalArgumentException" ∧ MW A b cy q cm cs u ∧ hFrL f u []) := by
  refine h_enter (by decide) hfl (Nat.le_of_ble_eq_true rfl) ?_
  intro p9 e9 s9 m9 b9 t9 c9 hsz C0 hr hnm G ls hl
  have hx := C0.1.1
  have hb := C0.1.2.1
  have hl : lv_has ls 4 [(0, .ref x), (1, .int 2), (2, .int kn), (3, .int what)] := hl
  refine lv_aload_n hx hb dX8_partnership_0 rfl (lv_at hl 0 rfl) ?_
  refine lv_iload_n hx hb dX8_partnership_1 rfl (lv_at hl 1 rfl) ?_
  refine g_cV C0 G (g_runV C0 G (rest := []) (c_X8_demandInningsO hfl (A := A) (b := b) (b2 := b2) (xea := xea) (xra := xra) (xkr := xkr) (cm := cm) (cs := cs) 2 h_x hAj hM hQ v0) h_x rfl hY_X8_demandInnings mm_X8_200 mi_X8_demandInnings ml_X8_demandInnings ⟨(Nat.le_of_ble_eq_true rfl), (Nat.le_of_ble_eq_true rfl)⟩ rfl hl.1 rfl (Nat.le_of_ble_eq_true rfl) dX8_partnership_2 ⟨(Nat.le_of_ble_eq_true rfl), (Nat.le_of_ble_eq_true rfl)⟩) (kx_no rfl) (fun u12 H locs hp11 G => ?_)
  obtain ⟨hM13, fr14⟩ := hp11
  refine lv_aload_n hx hb dX8_partnership_5 rfl (lv_at hl 0 rfl) ?_
  have k16 : u12 x = some (.inr (10, [.ref (A (b + 0)), .ref (A (b2 + 0)), .ref lg, .ref lg_o, .ref tx, .ref rz, .ref ro, .int xea, .int xra, .int xkr])) := fr14 _ _ (by simp) h_x
  refine g_get C0 G k16 rfl hiX8 0 (by decide) mf_X8_10 rfl dX8_partnership_6 ?_
  refine lv_iload_n hx hb dX8_partnership_9 rfl (lv_at hl 1 rfl) ?_
  have k17 : u12 (A (b + 0)) = some (.inr (4, [.ref (A (b + 1)), .int (cm 0), .int (cm 1), .int (cm 2), .int (cm 3), .int (cm 4)])) := hM13 0 (by omega)
  have k18 : u12 (A (b + 1)) = some (.inl (cy 3, 4, .inr (.inr (.inr (.inr q))))) := hM13 1 (by omega)
  refine g_cR C0 G (g_runV C0 G (rest := []) (c_X2_at2 hfl (A := A) (b := b) (ex := (cm 0)) (ov := (cm 1)) (ie := (cm 2)) (fi := (cm 3)) (nu := (cm 4)) (q := q) k17 k18 hAj hQ.1 hQ.2.1 hQ.2.2.1 hQ.2.2.2) k17 rfl hY_X2_at mm_X8_206 mi_X2_at ml_X2_at ⟨(Nat.le_of_ble_eq_true rfl), (Nat.le_of_ble_eq_true rfl)⟩ rfl hl.1 rfl (Nat.le_of_ble_eq_true rfl) dX8_partnership_10 ⟨(Nat.le_of_ble_eq_true rfl), (Nat.le_of_ble_eq_true rfl)⟩) (kx_no rfl) (fun a21 u20 H locs hp19 G => ?_)
  obtain ⟨zr, eu20⟩ := hp19
  replace zr := Eq.symm zr
  subst zr
  rw [eu20] at G
  have k22 : u12 (A (b + 28)) = some (.inr (2, [.ref (A (b + 29)), .ref (A (b + 31)), .ref (A (b + 33)), .ref (A (b + 35)), .ref (A (b + 37)), .ref (A (b + 39)), .int (cs 2 6 8), .int (cs 2 6 9), .int (cs 2 6 10), .int (cs 2 6 11), .int (cs 2 6 12)])) := hM13 28 (by omega)
  refine g_get C0 G k22 rfl hiX0 3 (by decide) mf_X8_230 rfl dX8_partnership_13 ?_
  refine lv_iload_n hx hb dX8_partnership_16 rfl (lv_at hl 2 rfl) ?_
  refine lv_iload_n hx hb dX8_partnership_17 rfl (lv_at hl 3 rfl) ?_
  have k23 : u12 (A (b + 35)) = some (.inr (8, [.int 8, .ref (A (b + 36)), .int (cs 2 7 3)])) := hM13 35 (by omega)
  have k24 : u12 (A (b + 36)) = some (.inl (cy 0, 4104, .inl (cs 2 3))) := hM13 36 (by omega)
  exact g_cI C0 G (g_runS C0 G (rest := []) (c_X8_tableNumberW hfl (n := 4104) (cols := 8) (rows := (cs 2 7 3)) (g := (cs 2 3)) kn what k23 k24 w0 w1 (by omega)) hY_X8_tableNumber mm_X8_233 ms_X8_tableNumber ⟨(Nat.le_of_ble_eq_true rfl), (Nat.le_of_ble_eq_true rfl)⟩ rfl hl.1 rfl (Nat.le_of_ble_eq_true rfl) dX8_partnership_18 ⟨(Nat.le_of_ble_eq_true rfl), (Nat.le_of_ble_eq_true rfl)⟩) (kx_out C0 (Nat.le_of_ble_eq_true rfl) (Nat.le_of_ble_eq_true rfl) (fun E9 u9 h9 => by
      obtain ⟨hE9, eu26⟩ := h9
      have fr25 : hFrL u12 u9 [] := fun a9 e9 h7 h8 => by rw [eu26]; exact h8
      have hM27 := MW_frN hM13 fr25 (fun y9 hy9 => absurd hy9 (by simp))
      exact ⟨hE9, hM27, (fun a9 e9 h7 h8 => fr25 _ _ (by simp) (fr14 _ _ (by simp) (h8)))⟩)) (fun _ _ _ _ h9 _ => (h9).elim)
def X8_partnershipY2_r0 (cs : Nat → Nat → Nat → Int32) (kn : Int32) (what : Int32) : Int32 := (tget 8 (cs 2 7 3) 4104 (cs 2 3) kn what)
set_option maxRecDepth 100000 in
theorem c_X8_partnershipY2 {l : Launch} (hfl : l.stackTraces = false) {D : va_G} {cy : Nat → ClassId} {f : Hf} {sz : Nat} {x : Nat} {A : Nat → Nat} {b : Nat} {b2 : Nat} {lg : Nat} {lg_o : Nat} {tx : Nat} {rz : Nat} {ro : Nat} {xea : Int32} {xra : Int32} {xkr : Int32} {q : Nat → Option Nat} {cm : Nat → Int32} {cs : Nat → Nat → Nat → Int32} (kn : Int32) (what : Int32) (h_x : f x = some (.inr (10, [.ref (A (b + 0)), .ref (A (b2 + 0)), .ref lg, .ref lg_o, .ref tx, .ref rz, .ref ro, .int xea, .int xra, .int xkr]))) (hAj : ∀ i j : Nat, i ≠ j → A i ≠ A j) (hM : MW A b cy q cm cs f) (hQ : HQ A b q) (v0 : ¬ (X2_hasBegun_x2 (cm 0) (cm 4) 2) = 0) (w0 : ¬ (X6_hasRow_x1 (cs 2 7 3) kn) = 0) (w1 : ¬ (X6_hasColumn_x1 8 what) = 0) : hMet l yX8_partnership cX8_partnership 4 (some .int) { frames := 2, cells := 0, slots := 0, locals := 46 } D (hTy cy) f sz [.ref x, .int 2, .int kn, .int what] (hQi (fun r u => r = (X8_partnershipY2_r0 cs kn what) ∧ MW A b cy q cm cs u ∧ hFrL f u []) D f sz) hNo := by
  refine h_enter (by decide) hfl (Nat.le_of_ble_eq_true rfl) ?_
  intro p9 e9 s9 m9 b9 t9 c9 hsz C0 hr hnm G ls hl
  have hx := C0.1.1
  have hb := C0.1.2.1
  have hl : lv_has ls 4 [(0, .ref x), (1, .int 2), (2, .int kn), (3, .int what)] := hl
  refine lv_aload_n hx hb dX8_partnership_0 rfl (lv_at hl 0 rfl) ?_
  refine lv_iload_n hx hb dX8_partnership_1 rfl (lv_at hl 1 rfl) ?_
  refine g_cV C0 G (g_runV C0 G (rest := []) (c_X8_demandInningsO hfl (A := A) (b := b) (b2 := b2) (xea := xea) (xra := xra) (xkr := xkr) (cm := cm) (cs := cs) 2 h_x hAj hM hQ v0) h_x rfl hY_X8_demandInnings mm_X8_200 mi_X8_demandInnings ml_X8_demandInnings ⟨(Nat.le_of_ble_eq_true rfl), (Nat.le_of_ble_eq_true rfl)⟩ rfl hl.1 rfl (Nat.le_of_ble_eq_true rfl) dX8_partnership_2 ⟨(Nat.le_of_ble_eq_true rfl), (Nat.le_of_ble_eq_true rfl)⟩) (kx_no rfl) (fun u12 H locs hp11 G => ?_)
  obtain ⟨hM13, fr14⟩ := hp11
  refine lv_aload_n hx hb dX8_partnership_5 rfl (lv_at hl 0 rfl) ?_
  have k16 : u12 x = some (.inr (10, [.ref (A (b + 0)), .ref (A (b2 + 0)), .ref lg, .ref lg_o, .ref tx, .ref rz, .ref ro, .int xea, .int xra, .int xkr])) := fr14 _ _ (by simp) h_x
  refine g_get C0 G k16 rfl hiX8 0 (by decide) mf_X8_10 rfl dX8_partnership_6 ?_
  refine lv_iload_n hx hb dX8_partnership_9 rfl (lv_at hl 1 rfl) ?_
  have k17 : u12 (A (b + 0)) = some (.inr (4, [.ref (A (b + 1)), .int (cm 0), .int (cm 1), .int (cm 2), .int (cm 3), .int (cm 4)])) := hM13 0 (by omega)
  have k18 : u12 (A (b + 1)) = some (.inl (cy 3, 4, .inr (.inr (.inr (.inr q))))) := hM13 1 (by omega)
  refine g_cR C0 G (g_runV C0 G (rest := []) (c_X2_at2 hfl (A := A) (b := b) (ex := (cm 0)) (ov := (cm 1)) (ie := (cm 2)) (fi := (cm 3)) (nu := (cm 4)) (q := q) k17 k18 hAj hQ.1 hQ.2.1 hQ.2.2.1 hQ.2.2.2) k17 rfl hY_X2_at mm_X8_206 mi_X2_at ml_X2_at ⟨(Nat.le_of_ble_eq_true rfl), (Nat.le_of_ble_eq_true rfl)⟩ rfl hl.1 rfl (Nat.le_of_ble_eq_true rfl) dX8_partnership_10 ⟨(Nat.le_of_ble_eq_true rfl), (Nat.le_of_ble_eq_true rfl)⟩) (kx_no rfl) (fun a21 u20 H locs hp19 G => ?_)
  obtain ⟨zr, eu20⟩ := hp19
  replace zr := Eq.symm zr
  subst zr
  rw [eu20] at G
  have k22 : u12 (A (b + 28)) = some (.inr (2, [.ref (A (b + 29)), .ref (A (b + 31)), .ref (A (b + 33)), .ref (A (b + 35)), .ref (A (b + 37)), .ref (A (b + 39)), .int (cs 2 6 8), .int (cs 2 6 9), .int (cs 2 6 10), .int (cs 2 6 11), .int (cs 2 6 12)])) := hM13 28 (by omega)
  refine g_get C0 G k22 rfl hiX0 3 (by decide) mf_X8_230 rfl dX8_partnership_13 ?_
  refine lv_iload_n hx hb dX8_partnership_16 rfl (lv_at hl 2 rfl) ?_
  refine lv_iload_n hx hb dX8_partnership_17 rfl (lv_at hl 3 rfl) ?_
  have k23 : u12 (A (b + 35)) = some (.inr (8, [.int 8, .ref (A (b + 36)), .int (cs 2 7 3)])) := hM13 35 (by omega)
  have k24 : u12 (A (b + 36)) = some (.inl (cy 0, 4104, .inl (cs 2 3))) := hM13 36 (by omega)
  refine g_cI C0 G (g_runS C0 G (rest := []) (c_X8_tableNumberY hfl (n := 4104) (cols := 8) (rows := (cs 2 7 3)) (g := (cs 2 3)) kn what k23 k24 w0 w1 (by omega)) hY_X8_tableNumber mm_X8_233 ms_X8_tableNumber ⟨(Nat.le_of_ble_eq_true rfl), (Nat.le_of_ble_eq_true rfl)⟩ rfl hl.1 rfl (Nat.le_of_ble_eq_true rfl) dX8_partnership_18 ⟨(Nat.le_of_ble_eq_true rfl), (Nat.le_of_ble_eq_true rfl)⟩) (kx_no rfl) (fun r27 u26 H locs hp25 G => ?_)
  obtain ⟨er28, eu26⟩ := hp25
  rw [eu26] at G
  refine lv_topv (v := (tget 8 (cs 2 7 3) 4104 (cs 2 3) kn what)) er28 ?_
  exact g_iret C0 G hr dX8_partnership_21 (Nat.le_of_ble_eq_true rfl) (Nat.le_of_ble_eq_true rfl) (by exact ⟨(by rw [X8_partnershipY2_r0]), hM13, (fun a9 e9 h7 h8 => fr14 _ _ (by simp) (h8))⟩)
set_option maxRecDepth 100000 in
theorem c_X8_partnershipK3 {l : Launch} (hfl : l.stackTraces = false) {D : va_G} {cy : Nat → ClassId} {f : Hf} {sz : Nat} {x : Nat} {A : Nat → Nat} {b : Nat} {b2 : Nat} {lg : Nat} {lg_o : Nat} {tx : Nat} {rz : Nat} {ro : Nat} {xea : Int32} {xra : Int32} {xkr : Int32} {q : Nat → Option Nat} {cm : Nat → Int32} {cs : Nat → Nat → Nat → Int32} (kn : Int32) (what : Int32) (h_x : f x = some (.inr (10, [.ref (A (b + 0)), .ref (A (b2 + 0)), .ref lg, .ref lg_o, .ref tx, .ref rz, .ref ro, .int xea, .int xra, .int xkr]))) (hAj : ∀ i j : Nat, i ≠ j → A i ≠ A j) (hM : MW A b cy q cm cs f) (hQ : HQ A b q) (v0 : ¬ (X2_hasBegun_x2 (cm 0) (cm 4) 3) = 0) (w0 : (X6_hasRow_x1 (cs 3 7 3) kn) = 0) : hMet l yX8_partnership cX8_partnership 4 (some .int) { frames := 7, cells := 1, slots := 6, locals := 104 } D (hTy cy) f sz [.ref x, .int 3, .int kn, .int what] (hQi (fun r u => False) D f sz) (fun E u => E = "java/util/NoSuchElementException" ∧ MW A b cy q cm cs u ∧ hFrL f u []) := by
  refine h_enter (by decide) hfl (Nat.le_of_ble_eq_true rfl) ?_
  intro p9 e9 s9 m9 b9 t9 c9 hsz C0 hr hnm G ls hl
  have hx := C0.1.1
  have hb := C0.1.2.1
  have hl : lv_has ls 4 [(0, .ref x), (1, .int 3), (2, .int kn), (3, .int what)] := hl
  refine lv_aload_n hx hb dX8_partnership_0 rfl (lv_at hl 0 rfl) ?_
  refine lv_iload_n hx hb dX8_partnership_1 rfl (lv_at hl 1 rfl) ?_
  refine g_cV C0 G (g_runV C0 G (rest := []) (c_X8_demandInningsO hfl (A := A) (b := b) (b2 := b2) (xea := xea) (xra := xra) (xkr := xkr) (cm := cm) (cs := cs) 3 h_x hAj hM hQ v0) h_x rfl hY_X8_demandInnings mm_X8_200 mi_X8_demandInnings ml_X8_demandInnings ⟨(Nat.le_of_ble_eq_true rfl), (Nat.le_of_ble_eq_true rfl)⟩ rfl hl.1 rfl (Nat.le_of_ble_eq_true rfl) dX8_partnership_2 ⟨(Nat.le_of_ble_eq_true rfl), (Nat.le_of_ble_eq_true rfl)⟩) (kx_no rfl) (fun u12 H locs hp11 G => ?_)
  obtain ⟨hM13, fr14⟩ := hp11
  refine lv_aload_n hx hb dX8_partnership_5 rfl (lv_at hl 0 rfl) ?_
  have k16 : u12 x = some (.inr (10, [.ref (A (b + 0)), .ref (A (b2 + 0)), .ref lg, .ref lg_o, .ref tx, .ref rz, .ref ro, .int xea, .int xra, .int xkr])) := fr14 _ _ (by simp) h_x
  refine g_get C0 G k16 rfl hiX8 0 (by decide) mf_X8_10 rfl dX8_partnership_6 ?_
  refine lv_iload_n hx hb dX8_partnership_9 rfl (lv_at hl 1 rfl) ?_
  have k17 : u12 (A (b + 0)) = some (.inr (4, [.ref (A (b + 1)), .int (cm 0), .int (cm 1), .int (cm 2), .int (cm 3), .int (cm 4)])) := hM13 0 (by omega)
  have k18 : u12 (A (b + 1)) = some (.inl (cy 3, 4, .inr (.inr (.inr (.inr q))))) := hM13 1 (by omega)
  refine g_cR C0 G (g_runV C0 G (rest := []) (c_X2_at3 hfl (A := A) (b := b) (ex := (cm 0)) (ov := (cm 1)) (ie := (cm 2)) (fi := (cm 3)) (nu := (cm 4)) (q := q) k17 k18 hAj hQ.1 hQ.2.1 hQ.2.2.1 hQ.2.2.2) k17 rfl hY_X2_at mm_X8_206 mi_X2_at ml_X2_at ⟨(Nat.le_of_ble_eq_true rfl), (Nat.le_of_ble_eq_true rfl)⟩ rfl hl.1 rfl (Nat.le_of_ble_eq_true rfl) dX8_partnership_10 ⟨(Nat.le_of_ble_eq_true rfl), (Nat.le_of_ble_eq_true rfl)⟩) (kx_no rfl) (fun a21 u20 H locs hp19 G => ?_)
  obtain ⟨zr, eu20⟩ := hp19
  replace zr := Eq.symm zr
  subst zr
  rw [eu20] at G
  have k22 : u12 (A (b + 41)) = some (.inr (2, [.ref (A (b + 42)), .ref (A (b + 44)), .ref (A (b + 46)), .ref (A (b + 48)), .ref (A (b + 50)), .ref (A (b + 52)), .int (cs 3 6 8), .int (cs 3 6 9), .int (cs 3 6 10), .int (cs 3 6 11), .int (cs 3 6 12)])) := hM13 41 (by omega)
  refine g_get C0 G k22 rfl hiX0 3 (by decide) mf_X8_230 rfl dX8_partnership_13 ?_
  refine lv_iload_n hx hb dX8_partnership_16 rfl (lv_at hl 2 rfl) ?_
  refine lv_iload_n hx hb dX8_partnership_17 rfl (lv_at hl 3 rfl) ?_
  have k23 : u12 (A (b + 48)) = some (.inr (8, [.int 8, .ref (A (b + 49)), .int (cs 3 7 3)])) := hM13 48 (by omega)
  have k24 : u12 (A (b + 49)) = some (.inl (cy 0, 4104, .inl (cs 3 3))) := hM13 49 (by omega)
  exact g_cI C0 G (g_runS C0 G (rest := []) (c_X8_tableNumberK hfl (n := 4104) (cols := 8) (rows := (cs 3 7 3)) (g := (cs 3 3)) kn what k23 k24 w0 (by omega)) hY_X8_tableNumber mm_X8_233 ms_X8_tableNumber ⟨(Nat.le_of_ble_eq_true rfl), (Nat.le_of_ble_eq_true rfl)⟩ rfl hl.1 rfl (Nat.le_of_ble_eq_true rfl) dX8_partnership_18 ⟨(Nat.le_of_ble_eq_true rfl), (Nat.le_of_ble_eq_true rfl)⟩) (kx_out C0 (Nat.le_of_ble_eq_true rfl) (Nat.le_of_ble_eq_true rfl) (fun E9 u9 h9 => by
      obtain ⟨hE9, eu26⟩ := h9
      have fr25 : hFrL u12 u9 [] := fun a9 e9 h7 h8 => by rw [eu26]; exact h8
      have hM27 := MW_frN hM13 fr25 (fun y9 hy9 => absurd hy9 (by simp))
      exact ⟨hE9, hM27, (fun a9 e9 h7 h8 => fr25 _ _ (by simp) (fr14 _ _ (by simp) (h8)))⟩)) (fun _ _ _ _ h9 _ => (h9).elim)
set_option maxRecDepth 100000 in
theorem c_X8_partnershipW3 {l : Launch} (hfl : l.stackTraces = false) {D : va_G} {cy : Nat → ClassId} {f : Hf} {sz : Nat} {x : Nat} {A : Nat → Nat} {b : Nat} {b2 : Nat} {lg : Nat} {lg_o : Nat} {tx : Nat} {rz : Nat} {ro : Nat} {xea : Int32} {xra : Int32} {xkr : Int32} {q : Nat → Option Nat} {cm : Nat → Int32} {cs : Nat → Nat → Nat → Int32} (kn : Int32) (what : Int32) (h_x : f x = some (.inr (10, [.ref (A (b + 0)), .ref (A (b2 + 0)), .ref lg, .ref lg_o, .ref tx, .ref rz, .ref ro, .int xea, .int xra, .int xkr]))) (hAj : ∀ i j : Nat, i ≠ j → A i ≠ A j) (hM : MW A b cy q cm cs f) (hQ : HQ A b q) (v0 : ¬ (X2_hasBegun_x2 (cm 0) (cm 4) 3) = 0) (w0 : ¬ (X6_hasRow_x1 (cs 3 7 3) kn) = 0) (w1 : (X6_hasColumn_x1 8 what) = 0) : hMet l yX8_partnership cX8_partnership 4 (some .int) { frames := 7, cells := 1, slots := 6, locals := 104 } D (hTy cy) f sz [.ref x, .int 3, .int kn, .int what] (hQi (fun r u => False) D f sz) (fun E u => E = "java/lang/IllegalArgumentException" ∧ MW A b cy q cm cs u ∧ hFrL f u []) := by
  refine h_enter (by decide) hfl (Nat.le_of_ble_eq_true rfl) ?_
  intro p9 e9 s9 m9 b9 t9 c9 hsz C0 hr hnm G ls hl
  have hx := C0.1.1
  have hb := C0.1.2.1
  have hl : lv_has ls 4 [(0, .ref x), (1, .int 3), (2, .int kn), (3, .int what)] := hl
  refine lv_aload_n hx hb dX8_partnership_0 rfl (lv_at hl 0 rfl) ?_
  refine lv_iload_n hx hb dX8_partnership_1 rfl (lv_at hl 1 rfl) ?_
  refine g_cV C0 G (g_runV C0 G (rest := []) (c_X8_demandInningsO hfl (A := A) (b := b) (b2 := b2) (xea := xea) (xra := xra) (xkr := xkr) (cm := cm) (cs := cs) 3 h_x hAj hM hQ v0) h_x rfl hY_X8_demandInnings mm_X8_200 mi_X8_demandInnings ml_X8_demandInnings ⟨(Nat.le_of_ble_eq_true rfl), (Nat.le_of_ble_eq_true rfl)⟩ rfl hl.1 rfl (Nat.le_of_ble_eq_true rfl) dX8_partnership_2 ⟨(Nat.le_of_ble_eq_true rfl), (Nat.le_of_ble_eq_true rfl)⟩) (kx_no rfl) (fun u12 H locs hp11 G => ?_)
  obtain ⟨hM13, fr14⟩ := hp11
  refine lv_aload_n hx hb dX8_partnership_5 rfl (lv_at hl 0 rfl) ?_
  have k16 : u12 x = some (.inr (10, [.ref (A (b + 0)), .ref (A (b2 + 0)), .ref lg, .ref lg_o, .ref tx, .ref rz, .ref ro, .int xea, .int xra, .int xkr])) := fr14 _ _ (by simp) h_x
  refine g_get C0 G k16 rfl hiX8 0 (by decide) mf_X8_10 rfl dX8_partnership_6 ?_
  refine lv_iload_n hx hb dX8_partnership_9 rfl (lv_at hl 1 rfl) ?_
  have k17 : u12 (A (b + 0)) = some (.inr (4, [.ref (A (b + 1)), .int (cm 0), .int (cm 1), .int (cm 2), .int (cm 3), .int (cm 4)])) := hM13 0 (by omega)
  have k18 : u12 (A (b + 1)) = some (.inl (cy 3, 4, .inr (.inr (.inr (.inr q))))) := hM13 1 (by omega)
  refine g_cR C0 G (g_runV C0 G (rest := []) (c_X2_at3 hfl (A := A) (b := b) (ex := (cm 0)) (ov := (cm 1)) (ie := (cm 2)) (fi := (cm 3)) (nu := (cm 4)) (q := q) k17 k18 hAj hQ.1 hQ.2.1 hQ.2.2.1 hQ.2.2.2) k17 rfl hY_X2_at mm_X8_206 mi_X2_at ml_X2_at ⟨(Nat.le_of_ble_eq_true rfl), (Nat.le_of_ble_eq_true rfl)⟩ rfl hl.1 rfl (Nat.le_of_ble_eq_true rfl) dX8_partnership_10 ⟨(Nat.le_of_ble_eq_true rfl), (Nat.le_of_ble_eq_true rfl)⟩) (kx_no rfl) (fun a21 u20 H locs hp19 G => ?_)
  obtain ⟨zr, eu20⟩ := hp19
  replace zr := Eq.symm zr
  subst zr
  rw [eu20] at G
  have k22 : u12 (A (b + 41)) = some (.inr (2, [.ref (A (b + 42)), .ref (A (b + 44)), .ref (A (b + 46)), .ref (A (b + 48)), .ref (A (b + 50)), .ref (A (b + 52)), .int (cs 3 6 8), .int (cs 3 6 9), .int (cs 3 6 10), .int (cs 3 6 11), .int (cs 3 6 12)])) := hM13 41 (by omega)
  refine g_get C0 G k22 rfl hiX0 3 (by decide) mf_X8_230 rfl dX8_partnership_13 ?_
  refine lv_iload_n hx hb dX8_partnership_16 rfl (lv_at hl 2 rfl) ?_
  refine lv_iload_n hx hb dX8_partnership_17 rfl (lv_at hl 3 rfl) ?_
  have k23 : u12 (A (b + 48)) = some (.inr (8, [.int 8, .ref (A (b + 49)), .int (cs 3 7 3)])) := hM13 48 (by omega)
  have k24 : u12 (A (b + 49)) = some (.inl (cy 0, 4104, .inl (cs 3 3))) := hM13 49 (by omega)
  exact g_cI C0 G (g_runS C0 G (rest := []) (c_X8_tableNumberW hfl (n := 4104) (cols := 8) (rows := (cs 3 7 3)) (g := (cs 3 3)) kn what k23 k24 w0 w1 (by omega)) hY_X8_tableNumber mm_X8_233 ms_X8_tableNumber ⟨(Nat.le_of_ble_eq_true rfl), (Nat.le_of_ble_eq_true rfl)⟩ rfl hl.1 rfl (Nat.le_of_ble_eq_true rfl) dX8_partnership_18 ⟨(Nat.le_of_ble_eq_true rfl), (Nat.le_of_ble_eq_true rfl)⟩) (kx_out C0 (Nat.le_of_ble_eq_true rfl) (Nat.le_of_ble_eq_true rfl) (fun E9 u9 h9 => by
      obtain ⟨hE9, eu26⟩ := h9
      have fr25 : hFrL u12 u9 [] := fun a9 e9 h7 h8 => by rw [eu26]; exact h8
      have hM27 := MW_frN hM13 fr25 (fun y9 hy9 => absurd hy9 (by simp))
      exact ⟨hE9, hM27, (fun a9 e9 h7 h8 => fr25 _ _ (by simp) (fr14 _ _ (by simp) (h8)))⟩)) (fun _ _ _ _ h9 _ => (h9).elim)
def X8_partnershipY3_r0 (cs : Nat → Nat → Nat → Int32) (kn : Int32) (what : Int32) : Int32 := (tget 8 (cs 3 7 3) 4104 (cs 3 3) kn what)
set_option maxRecDepth 100000 in
theorem c_X8_partnershipY3 {l : Launch} (hfl : l.stackTraces = false) {D : va_G} {cy : Nat → ClassId} {f : Hf} {sz : Nat} {x : Nat} {A : Nat → Nat} {b : Nat} {b2 : Nat} {lg : Nat} {lg_o : Nat} {tx : Nat} {rz : Nat} {ro : Nat} {xea : Int32} {xra : Int32} {xkr : Int32} {q : Nat → Option Nat} {cm : Nat → Int32} {cs : Nat → Nat → Nat → Int32} (kn : Int32) (what : Int32) (h_x : f x = some (.inr (10, [.ref (A (b + 0)), .ref (A (b2 + 0)), .ref lg, .ref lg_o, .ref tx, .ref rz, .ref ro, .int xea, .int xra, .int xkr]))) (hAj : ∀ i j : Nat, i ≠ j → A i ≠ A j) (hM : MW A b cy q cm cs f) (hQ : HQ A b q) (v0 : ¬ (X2_hasBegun_x2 (cm 0) (cm 4) 3) = 0) (w0 : ¬ (X6_hasRow_x1 (cs 3 7 3) kn) = 0) (w1 : ¬ (X6_hasColumn_x1 8 what) = 0) : hMet l yX8_partnership cX8_partnership 4 (some .int) { frames := 2, cells := 0, slots := 0, locals := 46 } D (hTy cy) f sz [.ref x, .int 3, .int kn, .int what] (hQi (fun r u => r = (X8_partnershipY3_r0 cs kn what) ∧ MW A b cy q cm cs u ∧ hFrL f u []) D f sz) hNo := by
  refine h_enter (by decide) hfl (Nat.le_of_ble_eq_true rfl) ?_
  intro p9 e9 s9 m9 b9 t9 c9 hsz C0 hr hnm G ls hl
  have hx := C0.1.1
  have hb := C0.1.2.1
  have hl : lv_has ls 4 [(0, .ref x), (1, .int 3), (2, .int kn), (3, .int what)] := hl
  refine lv_aload_n hx hb dX8_partnership_0 rfl (lv_at hl 0 rfl) ?_
  refine lv_iload_n hx hb dX8_partnership_1 rfl (lv_at hl 1 rfl) ?_
  refine g_cV C0 G (g_runV C0 G (rest := []) (c_X8_demandInningsO hfl (A := A) (b := b) (b2 := b2) (xea := xea) (xra := xra) (xkr := xkr) (cm := cm) (cs := cs) 3 h_x hAj hM hQ v0) h_x rfl hY_X8_demandInnings mm_X8_200 mi_X8_demandInnings ml_X8_demandInnings ⟨(Nat.le_of_ble_eq_true rfl), (Nat.le_of_ble_eq_true rfl)⟩ rfl hl.1 rfl (Nat.le_of_ble_eq_true rfl) dX8_partnership_2 ⟨(Nat.le_of_ble_eq_true rfl), (Nat.le_of_ble_eq_true rfl)⟩) (kx_no rfl) (fun u12 H locs hp11 G => ?_)
  obtain ⟨hM13, fr14⟩ := hp11
  refine lv_aload_n hx hb dX8_partnership_5 rfl (lv_at hl 0 rfl) ?_
  have k16 : u12 x = some (.inr (10, [.ref (A (b + 0)), .ref (A (b2 + 0)), .ref lg, .ref lg_o, .ref tx, .ref rz, .ref ro, .int xea, .int xra, .int xkr])) := fr14 _ _ (by simp) h_x
  refine g_get C0 G k16 rfl hiX8 0 (by decide) mf_X8_10 rfl dX8_partnership_6 ?_
  refine lv_iload_n hx hb dX8_partnership_9 rfl (lv_at hl 1 rfl) ?_
  have k17 : u12 (A (b + 0)) = some (.inr (4, [.ref (A (b + 1)), .int (cm 0), .int (cm 1), .int (cm 2), .int (cm 3), .int (cm 4)])) := hM13 0 (by omega)
  have k18 : u12 (A (b + 1)) = some (.inl (cy 3, 4, .inr (.inr (.inr (.inr q))))) := hM13 1 (by omega)
  refine g_cR C0 G (g_runV C0 G (rest := []) (c_X2_at3 hfl (A := A) (b := b) (ex := (cm 0)) (ov := (cm 1)) (ie := (cm 2)) (fi := (cm 3)) (nu := (cm 4)) (q := q) k17 k18 hAj hQ.1 hQ.2.1 hQ.2.2.1 hQ.2.2.2) k17 rfl hY_X2_at mm_X8_206 mi_X2_at ml_X2_at ⟨(Nat.le_of_ble_eq_true rfl), (Nat.le_of_ble_eq_true rfl)⟩ rfl hl.1 rfl (Nat.le_of_ble_eq_true rfl) dX8_partnership_10 ⟨(Nat.le_of_ble_eq_true rfl), (Nat.le_of_ble_eq_true rfl)⟩) (kx_no rfl) (fun a21 u20 H locs hp19 G => ?_)
  obtain ⟨zr, eu20⟩ := hp19
  replace zr := Eq.symm zr
  subst zr
  rw [eu20] at G
  have k22 : u12 (A (b + 41)) = some (.inr (2, [.ref (A (b + 42)), .ref (A (b + 44)), .ref (A (b + 46)), .ref (A (b + 48)), .ref (A (b + 50)), .ref (A (b + 52)), .int (cs 3 6 8), .int (cs 3 6 9), .int (cs 3 6 10), .int (cs 3 6 11), .int (cs 3 6 12)])) := hM13 41 (by omega)
  refine g_get C0 G k22 rfl hiX0 3 (by decide) mf_X8_230 rfl dX8_partnership_13 ?_
  refine lv_iload_n hx hb dX8_partnership_16 rfl (lv_at hl 2 rfl) ?_
  refine lv_iload_n hx hb dX8_partnership_17 rfl (lv_at hl 3 rfl) ?_
  have k23 : u12 (A (b + 48)) = some (.inr (8, [.int 8, .ref (A (b + 49)), .int (cs 3 7 3)])) := hM13 48 (by omega)
  have k24 : u12 (A (b + 49)) = some (.inl (cy 0, 4104, .inl (cs 3 3))) := hM13 49 (by omega)
  refine g_cI C0 G (g_runS C0 G (rest := []) (c_X8_tableNumberY hfl (n := 4104) (cols := 8) (rows := (cs 3 7 3)) (g := (cs 3 3)) kn what k23 k24 w0 w1 (by omega)) hY_X8_tableNumber mm_X8_233 ms_X8_tableNumber ⟨(Nat.le_of_ble_eq_true rfl), (Nat.le_of_ble_eq_true rfl)⟩ rfl hl.1 rfl (Nat.le_of_ble_eq_true rfl) dX8_partnership_18 ⟨(Nat.le_of_ble_eq_true rfl), (Nat.le_of_ble_eq_true rfl)⟩) (kx_no rfl) (fun r27 u26 H locs hp25 G => ?_)
  obtain ⟨er28, eu26⟩ := hp25
  rw [eu26] at G
  refine lv_topv (v := (tget 8 (cs 3 7 3) 4104 (cs 3 3) kn what)) er28 ?_
  exact g_iret C0 G hr dX8_partnership_21 (Nat.le_of_ble_eq_true rfl) (Nat.le_of_ble_eq_true rfl) (by exact ⟨(by rw [X8_partnershipY3_r0]), hM13, (fun a9 e9 h7 h8 => fr14 _ _ (by simp) (h8))⟩)
set_option maxRecDepth 100000 in
theorem c_X8_fallN {l : Launch} (hfl : l.stackTraces = false) {D : va_G} {cy : Nat → ClassId} {f : Hf} {sz : Nat} {x : Nat} {A : Nat → Nat} {b : Nat} {b2 : Nat} {lg : Nat} {lg_o : Nat} {tx : Nat} {rz : Nat} {ro : Nat} {xea : Int32} {xra : Int32} {xkr : Int32} {q : Nat → Option Nat} {cm : Nat → Int32} {cs : Nat → Nat → Nat → Int32} (inn : Int32) (kn : Int32) (what : Int32) (h_x : f x = some (.inr (10, [.ref (A (b + 0)), .ref (A (b2 + 0)), .ref lg, .ref lg_o, .ref tx, .ref rz, .ref ro, .int xea, .int xra, .int xkr]))) (hAj : ∀ i j : Nat, i ≠ j → A i ≠ A j) (hM : MW A b cy q cm cs f) (hQ : HQ A b q) (v0 : (X2_hasBegun_x2 (cm 0) (cm 4) inn) = 0) : hMet l yX8_fall cX8_fall 4 (some .int) { frames := 7, cells := 1, slots := 6, locals := 103 } D (hTy cy) f sz [.ref x, .int inn, .int kn, .int what] (hQi (fun r u => False) D f sz) (fun E u => E = "java/lang/IndexOutOfBoundsException" ∧ MW A b cy q cm cs u ∧ hFrL f u []) := by
  refine h_enter (by decide) hfl (Nat.le_of_ble_eq_true rfl) ?_
  intro p9 e9 s9 m9 b9 t9 c9 hsz C0 hr hnm G ls hl
  have hx := C0.1.1
  have hb := C0.1.2.1
  have hl : lv_has ls 4 [(0, .ref x), (1, .int inn), (2, .int kn), (3, .int what)] := hl
  refine lv_aload_n hx hb dX8_fall_0 rfl (lv_at hl 0 rfl) ?_
  refine lv_iload_n hx hb dX8_fall_1 rfl (lv_at hl 1 rfl) ?_
  exact g_cV C0 G (g_runV C0 G (rest := []) (c_X8_demandInningsN hfl (A := A) (b := b) (b2 := b2) (xea := xea) (xra := xra) (xkr := xkr) (cm := cm) (cs := cs) inn h_x hAj hM hQ v0) h_x rfl hY_X8_demandInnings mm_X8_200 mi_X8_demandInnings ml_X8_demandInnings ⟨(Nat.le_of_ble_eq_true rfl), (Nat.le_of_ble_eq_true rfl)⟩ rfl hl.1 rfl (Nat.le_of_ble_eq_true rfl) dX8_fall_2 ⟨(Nat.le_of_ble_eq_true rfl), (Nat.le_of_ble_eq_true rfl)⟩) (kx_out C0 (Nat.le_of_ble_eq_true rfl) (Nat.le_of_ble_eq_true rfl) (fun E9 u9 h9 => by
      obtain ⟨hE9, hM11, fr12⟩ := h9
      exact ⟨hE9, hM11, (fun a9 e9 h7 h8 => fr12 _ _ (by simp) (h8))⟩)) (fun _ _ _ h9 _ => (h9).elim)
set_option maxRecDepth 100000 in
theorem c_X8_fallK0 {l : Launch} (hfl : l.stackTraces = false) {D : va_G} {cy : Nat → ClassId} {f : Hf} {sz : Nat} {x : Nat} {A : Nat → Nat} {b : Nat} {b2 : Nat} {lg : Nat} {lg_o : Nat} {tx : Nat} {rz : Nat} {ro : Nat} {xea : Int32} {xra : Int32} {xkr : Int32} {q : Nat → Option Nat} {cm : Nat → Int32} {cs : Nat → Nat → Nat → Int32} (kn : Int32) (what : Int32) (h_x : f x = some (.inr (10, [.ref (A (b + 0)), .ref (A (b2 + 0)), .ref lg, .ref lg_o, .ref tx, .ref rz, .ref ro, .int xea, .int xra, .int xkr]))) (hAj : ∀ i j : Nat, i ≠ j → A i ≠ A j) (hM : MW A b cy q cm cs f) (hQ : HQ A b q) (v0 : ¬ (X2_hasBegun_x2 (cm 0) (cm 4) 0) = 0) (w0 : (X6_hasRow_x1 (cs 0 7 4) kn) = 0) : hMet l yX8_fall cX8_fall 4 (some .int) { frames := 7, cells := 1, slots := 6, locals := 104 } D (hTy cy) f sz [.ref x, .int 0, .int kn, .int what] (hQi (fun r u => False) D f sz) (fun E u => E = "java/util/NoSuchElementException" ∧ MW A b cy q cm cs u ∧ hFrL f u []) := by
  refine h_enter (by decide) hfl (Nat.le_of_ble_eq_true rfl) ?_
  intro p9 e9 s9 m9 b9 t9 c9 hsz C0 hr hnm G ls hl
  have hx := C0.1.1
  have hb := C0.1.2.1
  have hl : lv_has ls 4 [(0, .ref x), (1, .int 0), (2, .int kn), (3, .int what)] := hl
  refine lv_aload_n hx hb dX8_fall_0 rfl (lv_at hl 0 rfl) ?_
  refine lv_iload_n hx hb dX8_fall_1 rfl (lv_at hl 1 rfl) ?_
  refine g_cV C0 G (g_runV C0 G (rest := []) (c_X8_demandInningsO hfl (A := A) (b := b) (b2 := b2) (xea := xea) (xra := xra) (xkr := xkr) (cm := cm) (cs := cs) 0 h_x hAj hM hQ v0) h_x rfl hY_X8_demandInnings mm_X8_200 mi_X8_demandInnings ml_X8_demandInnings ⟨(Nat.le_of_ble_eq_true rfl), (Nat.le_of_ble_eq_true rfl)⟩ rfl hl.1 rfl (Nat.le_of_ble_eq_true rfl) dX8_fall_2 ⟨(Nat.le_of_ble_eq_true rfl), (Nat.le_of_ble_eq_true rfl)⟩) (kx_no rfl) (fun u12 H locs hp11 G => ?_)
  obtain ⟨hM13, fr14⟩ := hp11
  refine lv_aload_n hx hb dX8_fall_5 rfl (lv_at hl 0 rfl) ?_
  have k16 : u12 x = some (.inr (10, [.ref (A (b + 0)), .ref (A (b2 + 0)), .ref lg, .ref lg_o, .ref tx, .ref rz, .ref ro, .int xea, .int xra, .int xkr])) := fr14 _ _ (by simp) h_x
  refine g_get C0 G k16 rfl hiX8 0 (by decide) mf_X8_10 rfl dX8_fall_6 ?_
  refine lv_iload_n hx hb dX8_fall_9 rfl (lv_at hl 1 rfl) ?_
  have k17 : u12 (A (b + 0)) = some (.inr (4, [.ref (A (b + 1)), .int (cm 0), .int (cm 1), .int (cm 2), .int (cm 3), .int (cm 4)])) := hM13 0 (by omega)
  have k18 : u12 (A (b + 1)) = some (.inl (cy 3, 4, .inr (.inr (.inr (.inr q))))) := hM13 1 (by omega)
  refine g_cR C0 G (g_runV C0 G (rest := []) (c_X2_at0 hfl (A := A) (b := b) (ex := (cm 0)) (ov := (cm 1)) (ie := (cm 2)) (fi := (cm 3)) (nu := (cm 4)) (q := q) k17 k18 hAj hQ.1 hQ.2.1 hQ.2.2.1 hQ.2.2.2) k17 rfl hY_X2_at mm_X8_206 mi_X2_at ml_X2_at ⟨(Nat.le_of_ble_eq_true rfl), (Nat.le_of_ble_eq_true rfl)⟩ rfl hl.1 rfl (Nat.le_of_ble_eq_true rfl) dX8_fall_10 ⟨(Nat.le_of_ble_eq_true rfl), (Nat.le_of_ble_eq_true rfl)⟩) (kx_no rfl) (fun a21 u20 H locs hp19 G => ?_)
  obtain ⟨zr, eu20⟩ := hp19
  replace zr := Eq.symm zr
  subst zr
  rw [eu20] at G
  have k22 : u12 (A (b + 2)) = some (.inr (2, [.ref (A (b + 3)), .ref (A (b + 5)), .ref (A (b + 7)), .ref (A (b + 9)), .ref (A (b + 11)), .ref (A (b + 13)), .int (cs 0 6 8), .int (cs 0 6 9), .int (cs 0 6 10), .int (cs 0 6 11), .int (cs 0 6 12)])) := hM13 2 (by omega)
  refine g_get C0 G k22 rfl hiX0 4 (by decide) mf_X8_237 rfl dX8_fall_13 ?_
  refine lv_iload_n hx hb dX8_fall_16 rfl (lv_at hl 2 rfl) ?_
  refine lv_iload_n hx hb dX8_fall_17 rfl (lv_at hl 3 rfl) ?_
  have k23 : u12 (A (b + 11)) = some (.inr (8, [.int 3, .ref (A (b + 12)), .int (cs 0 7 4)])) := hM13 11 (by omega)
  have k24 : u12 (A (b + 12)) = some (.inl (cy 0, 33, .inl (cs 0 4))) := hM13 12 (by omega)
  exact g_cI C0 G (g_runS C0 G (rest := []) (c_X8_tableNumberK hfl (n := 33) (cols := 3) (rows := (cs 0 7 4)) (g := (cs 0 4)) kn what k23 k24 w0 (by omega)) hY_X8_tableNumber mm_X8_233 ms_X8_tableNumber ⟨(Nat.le_of_ble_eq_true rfl), (Nat.le_of_ble_eq_true rfl)⟩ rfl hl.1 rfl (Nat.le_of_ble_eq_true rfl) dX8_fall_18 ⟨(Nat.le_of_ble_eq_true rfl), (Nat.le_of_ble_eq_true rfl)⟩) (kx_out C0 (Nat.le_of_ble_eq_true rfl) (Nat.le_of_ble_eq_true rfl) (fun E9 u9 h9 => by
      obtain ⟨hE9, eu26⟩ := h9
      have fr25 : hFrL u12 u9 [] := fun a9 e9 h7 h8 => by rw [eu26]; exact h8
      have hM27 := MW_frN hM13 fr25 (fun y9 hy9 => absurd hy9 (by simp))
      exact ⟨hE9, hM27, (fun a9 e9 h7 h8 => fr25 _ _ (by simp) (fr14 _ _ (by simp) (h8)))⟩)) (fun _ _ _ _ h9 _ => (h9).elim)
set_option maxRecDepth 100000 in
theorem c_X8_fallW0 {l : Launch} (hfl : l.stackTraces = false) {D : va_G} {cy : Nat → ClassId} {f : Hf} {sz : Nat} {x : Nat} {A : Nat → Nat} {b : Nat} {b2 : Nat} {lg : Nat} {lg_o : Nat} {tx : Nat} {rz : Nat} {ro : Nat} {xea : Int32} {xra : Int32} {xkr : Int32} {q : Nat → Option Nat} {cm : Nat → Int32} {cs : Nat → Nat → Nat → Int32} (kn : Int32) (what : Int32) (h_x : f x = some (.inr (10, [.ref (A (b + 0)), .ref (A (b2 + 0)), .ref lg, .ref lg_o, .ref tx, .ref rz, .ref ro, .int xea, .int xra, .int xkr]))) (hAj : ∀ i j : Nat, i ≠ j → A i ≠ A j) (hM : MW A b cy q cm cs f) (hQ : HQ A b q) (v0 : ¬ (X2_hasBegun_x2 (cm 0) (cm 4) 0) = 0) (w0 : ¬ (X6_hasRow_x1 (cs 0 7 4) kn) = 0) (w1 : (X6_hasColumn_x1 3 what) = 0) : hMet l yX8_fall cX8_fall 4 (some .int) { frames := 7, cells := 1, slots := 6, locals := 104 } D (hTy cy) f sz [.ref x, .int 0, .int kn, .int what] (hQi (fun r u => False) D f sz) (fun E u => E = "java/lang/IllegalArgumentException" ∧ MW A b cy q cm cs u ∧ hFrL f u []) := by
  refine h_enter (by decide) hfl (Nat.le_of_ble_eq_true rfl) ?_
  intro p9 e9 s9 m9 b9 t9 c9 hsz C0 hr hnm G ls hl
  have hx := C0.1.1
  have hb := C0.1.2.1
  have hl : lv_has ls 4 [(0, .ref x), (1, .int 0), (2, .int kn), (3, .int what)] := hl
  refine lv_aload_n hx hb dX8_fall_0 rfl (lv_at hl 0 rfl) ?_
  refine lv_iload_n hx hb dX8_fall_1 rfl (lv_at hl 1 rfl) ?_
  refine g_cV C0 G (g_runV C0 G (rest := []) (c_X8_demandInningsO hfl (A := A) (b := b) (b2 := b2) (xea := xea) (xra := xra) (xkr := xkr) (cm := cm) (cs := cs) 0 h_x hAj hM hQ v0) h_x rfl hY_X8_demandInnings mm_X8_200 mi_X8_demandInnings ml_X8_demandInnings ⟨(Nat.le_of_ble_eq_true rfl), (Nat.le_of_ble_eq_true rfl)⟩ rfl hl.1 rfl (Nat.le_of_ble_eq_true rfl) dX8_fall_2 ⟨(Nat.le_of_ble_eq_true rfl), (Nat.le_of_ble_eq_true rfl)⟩) (kx_no rfl) (fun u12 H locs hp11 G => ?_)
  obtain ⟨hM13, fr14⟩ := hp11
  refine lv_aload_n hx hb dX8_fall_5 rfl (lv_at hl 0 rfl) ?_
  have k16 : u12 x = some (.inr (10, [.ref (A (b + 0)), .ref (A (b2 + 0)), .ref lg, .ref lg_o, .ref tx, .ref rz, .ref ro, .int xea, .int xra, .int xkr])) := fr14 _ _ (by simp) h_x
  refine g_get C0 G k16 rfl hiX8 0 (by decide) mf_X8_10 rfl dX8_fall_6 ?_
  refine lv_iload_n hx hb dX8_fall_9 rfl (lv_at hl 1 rfl) ?_
  have k17 : u12 (A (b + 0)) = some (.inr (4, [.ref (A (b + 1)), .int (cm 0), .int (cm 1), .int (cm 2), .int (cm 3), .int (cm 4)])) := hM13 0 (by omega)
  have k18 : u12 (A (b + 1)) = some (.inl (cy 3, 4, .inr (.inr (.inr (.inr q))))) := hM13 1 (by omega)
  refine g_cR C0 G (g_runV C0 G (rest := []) (c_X2_at0 hfl (A := A) (b := b) (ex := (cm 0)) (ov := (cm 1)) (ie := (cm 2)) (fi := (cm 3)) (nu := (cm 4)) (q := q) k17 k18 hAj hQ.1 hQ.2.1 hQ.2.2.1 hQ.2.2.2) k17 rfl hY_X2_at mm_X8_206 mi_X2_at ml_X2_at ⟨(Nat.le_of_ble_eq_true rfl), (Nat.le_of_ble_eq_true rfl)⟩ rfl hl.1 rfl (Nat.le_of_ble_eq_true rfl) dX8_fall_10 ⟨(Nat.le_of_ble_eq_true rfl), (Nat.le_of_ble_eq_true rfl)⟩) (kx_no rfl) (fun a21 u20 H locs hp19 G => ?_)
  obtain ⟨zr, eu20⟩ := hp19
  replace zr := Eq.symm zr
  subst zr
  rw [eu20] at G
  have k22 : u12 (A (b + 2)) = some (.inr (2, [.ref (A (b + 3)), .ref (A (b + 5)), .ref (A (b + 7)), .ref (A (b + 9)), .ref (A (b + 11)), .ref (A (b + 13)), .int (cs 0 6 8), .int (cs 0 6 9), .int (cs 0 6 10), .int (cs 0 6 11), .int (cs 0 6 12)])) := hM13 2 (by omega)
  refine g_get C0 G k22 rfl hiX0 4 (by decide) mf_X8_237 rfl dX8_fall_13 ?_
  refine lv_iload_n hx hb dX8_fall_16 rfl (lv_at hl 2 rfl) ?_
  refine lv_iload_n hx hb dX8_fall_17 rfl (lv_at hl 3 rfl) ?_
  have k23 : u12 (A (b + 11)) = some (.inr (8, [.int 3, .ref (A (b + 12)), .int (cs 0 7 4)])) := hM13 11 (by omega)
  have k24 : u12 (A (b + 12)) = some (.inl (cy 0, 33, .inl (cs 0 4))) := hM13 12 (by omega)
  exact g_cI C0 G (g_runS C0 G (rest := []) (c_X8_tableNumberW hfl (n := 33) (cols := 3) (rows := (cs 0 7 4)) (g := (cs 0 4)) kn what k23 k24 w0 w1 (by omega)) hY_X8_tableNumber mm_X8_233 ms_X8_tableNumber ⟨(Nat.le_of_ble_eq_true rfl), (Nat.le_of_ble_eq_true rfl)⟩ rfl hl.1 rfl (Nat.le_of_ble_eq_true rfl) dX8_fall_18 ⟨(Nat.le_of_ble_eq_true rfl), (Nat.le_of_ble_eq_true rfl)⟩) (kx_out C0 (Nat.le_of_ble_eq_true rfl) (Nat.le_of_ble_eq_true rfl) (fun E9 u9 h9 => by
      obtain ⟨hE9, eu26⟩ := h9
      have fr25 : hFrL u12 u9 [] := fun a9 e9 h7 h8 => by rw [eu26]; exact h8
      have hM27 := MW_frN hM13 fr25 (fun y9 hy9 => absurd hy9 (by simp))
      exact ⟨hE9, hM27, (fun a9 e9 h7 h8 => fr25 _ _ (by simp) (fr14 _ _ (by simp) (h8)))⟩)) (fun _ _ _ _ h9 _ => (h9).elim)
def X8_fallY0_r0 (cs : Nat → Nat → Nat → Int32) (kn : Int32) (what : Int32) : Int32 := (tget 3 (cs 0 7 4) 33 (cs 0 4) kn what)
set_option maxRecDepth 100000 in
theorem c_X8_fallY0 {l : Launch} (hfl : l.stackTraces = false) {D : va_G} {cy : Nat → ClassId} {f : Hf} {sz : Nat} {x : Nat} {A : Nat → Nat} {b : Nat} {b2 : Nat} {lg : Nat} {lg_o : Nat} {tx : Nat} {rz : Nat} {ro : Nat} {xea : Int32} {xra : Int32} {xkr : Int32} {q : Nat → Option Nat} {cm : Nat → Int32} {cs : Nat → Nat → Nat → Int32} (kn : Int32) (what : Int32) (h_x : f x = some (.inr (10, [.ref (A (b + 0)), .ref (A (b2 + 0)), .ref lg, .ref lg_o, .ref tx, .ref rz, .ref ro, .int xea, .int xra, .int xkr]))) (hAj : ∀ i j : Nat, i ≠ j → A i ≠ A j) (hM : MW A b cy q cm cs f) (hQ : HQ A b q) (v0 : ¬ (X2_hasBegun_x2 (cm 0) (cm 4) 0) = 0) (w0 : ¬ (X6_hasRow_x1 (cs 0 7 4) kn) = 0) (w1 : ¬ (X6_hasColumn_x1 3 what) = 0) : hMet l yX8_fall cX8_fall 4 (some .int) { frames := 2, cells := 0, slots := 0, locals := 46 } D (hTy cy) f sz [.ref x, .int 0, .int kn, .int what] (hQi (fun r u => r = (X8_fallY0_r0 cs kn what) ∧ MW A b cy q cm cs u ∧ hFrL f u []) D f sz) hNo := by
  refine h_enter (by decide) hfl (Nat.le_of_ble_eq_true rfl) ?_
  intro p9 e9 s9 m9 b9 t9 c9 hsz C0 hr hnm G ls hl
  have hx := C0.1.1
  have hb := C0.1.2.1
  have hl : lv_has ls 4 [(0, .ref x), (1, .int 0), (2, .int kn), (3, .int what)] := hl
  refine lv_aload_n hx hb dX8_fall_0 rfl (lv_at hl 0 rfl) ?_
  refine lv_iload_n hx hb dX8_fall_1 rfl (lv_at hl 1 rfl) ?_
  refine g_cV C0 G (g_runV C0 G (rest := []) (c_X8_demandInningsO hfl (A := A) (b := b) (b2 := b2) (xea := xea) (xra := xra) (xkr := xkr) (cm := cm) (cs := cs) 0 h_x hAj hM hQ v0) h_x rfl hY_X8_demandInnings mm_X8_200 mi_X8_demandInnings ml_X8_demandInnings ⟨(Nat.le_of_ble_eq_true rfl), (Nat.le_of_ble_eq_true rfl)⟩ rfl hl.1 rfl (Nat.le_of_ble_eq_true rfl) dX8_fall_2 ⟨(Nat.le_of_ble_eq_true rfl), (Nat.le_of_ble_eq_true rfl)⟩) (kx_no rfl) (fun u12 H locs hp11 G => ?_)
  obtain ⟨hM13, fr14⟩ := hp11
  refine lv_aload_n hx hb dX8_fall_5 rfl (lv_at hl 0 rfl) ?_
  have k16 : u12 x = some (.inr (10, [.ref (A (b + 0)), .ref (A (b2 + 0)), .ref lg, .ref lg_o, .ref tx, .ref rz, .ref ro, .int xea, .int xra, .int xkr])) := fr14 _ _ (by simp) h_x
  refine g_get C0 G k16 rfl hiX8 0 (by decide) mf_X8_10 rfl dX8_fall_6 ?_
  refine lv_iload_n hx hb dX8_fall_9 rfl (lv_at hl 1 rfl) ?_
  have k17 : u12 (A (b + 0)) = some (.inr (4, [.ref (A (b + 1)), .int (cm 0), .int (cm 1), .int (cm 2), .int (cm 3), .int (cm 4)])) := hM13 0 (by omega)
  have k18 : u12 (A (b + 1)) = some (.inl (cy 3, 4, .inr (.inr (.inr (.inr q))))) := hM13 1 (by omega)
  refine g_cR C0 G (g_runV C0 G (rest := []) (c_X2_at0 hfl (A := A) (b := b) (ex := (cm 0)) (ov := (cm 1)) (ie := (cm 2)) (fi := (cm 3)) (nu := (cm 4)) (q := q) k17 k18 hAj hQ.1 hQ.2.1 hQ.2.2.1 hQ.2.2.2) k17 rfl hY_X2_at mm_X8_206 mi_X2_at ml_X2_at ⟨(Nat.le_of_ble_eq_true rfl), (Nat.le_of_ble_eq_true rfl)⟩ rfl hl.1 rfl (Nat.le_of_ble_eq_true rfl) dX8_fall_10 ⟨(Nat.le_of_ble_eq_true rfl), (Nat.le_of_ble_eq_true rfl)⟩) (kx_no rfl) (fun a21 u20 H locs hp19 G => ?_)
  obtain ⟨zr, eu20⟩ := hp19
  replace zr := Eq.symm zr
  subst zr
  rw [eu20] at G
  have k22 : u12 (A (b + 2)) = some (.inr (2, [.ref (A (b + 3)), .ref (A (b + 5)), .ref (A (b + 7)), .ref (A (b + 9)), .ref (A (b + 11)), .ref (A (b + 13)), .int (cs 0 6 8), .int (cs 0 6 9), .int (cs 0 6 10), .int (cs 0 6 11), .int (cs 0 6 12)])) := hM13 2 (by omega)
  refine g_get C0 G k22 rfl hiX0 4 (by decide) mf_X8_237 rfl dX8_fall_13 ?_
  refine lv_iload_n hx hb dX8_fall_16 rfl (lv_at hl 2 rfl) ?_
  refine lv_iload_n hx hb dX8_fall_17 rfl (lv_at hl 3 rfl) ?_
  have k23 : u12 (A (b + 11)) = some (.inr (8, [.int 3, .ref (A (b + 12)), .int (cs 0 7 4)])) := hM13 11 (by omega)
  have k24 : u12 (A (b + 12)) = some (.inl (cy 0, 33, .inl (cs 0 4))) := hM13 12 (by omega)
  refine g_cI C0 G (g_runS C0 G (rest := []) (c_X8_tableNumberY hfl (n := 33) (cols := 3) (rows := (cs 0 7 4)) (g := (cs 0 4)) kn what k23 k24 w0 w1 (by omega)) hY_X8_tableNumber mm_X8_233 ms_X8_tableNumber ⟨(Nat.le_of_ble_eq_true rfl), (Nat.le_of_ble_eq_true rfl)⟩ rfl hl.1 rfl (Nat.le_of_ble_eq_true rfl) dX8_fall_18 ⟨(Nat.le_of_ble_eq_true rfl), (Nat.le_of_ble_eq_true rfl)⟩) (kx_no rfl) (fun r27 u26 H locs hp25 G => ?_)
  obtain ⟨er28, eu26⟩ := hp25
  rw [eu26] at G
  refine lv_topv (v := (tget 3 (cs 0 7 4) 33 (cs 0 4) kn what)) er28 ?_
  exact g_iret C0 G hr dX8_fall_21 (Nat.le_of_ble_eq_true rfl) (Nat.le_of_ble_eq_true rfl) (by exact ⟨(by rw [X8_fallY0_r0]), hM13, (fun a9 e9 h7 h8 => fr14 _ _ (by simp) (h8))⟩)
set_option maxRecDepth 100000 in
theorem c_X8_fallK1 {l : Launch} (hfl : l.stackTraces = false) {D : va_G} {cy : Nat → ClassId} {f : Hf} {sz : Nat} {x : Nat} {A : Nat → Nat} {b : Nat} {b2 : Nat} {lg : Nat} {lg_o : Nat} {tx : Nat} {rz : Nat} {ro : Nat} {xea : Int32} {xra : Int32} {xkr : Int32} {q : Nat → Option Nat} {cm : Nat → Int32} {cs : Nat → Nat → Nat → Int32} (kn : Int32) (what : Int32) (h_x : f x = some (.inr (10, [.ref (A (b + 0)), .ref (A (b2 + 0)), .ref lg, .ref lg_o, .ref tx, .ref rz, .ref ro, .int xea, .int xra, .int xkr]))) (hAj : ∀ i j : Nat, i ≠ j → A i ≠ A j) (hM : MW A b cy q cm cs f) (hQ : HQ A b q) (v0 : ¬ (X2_hasBegun_x2 (cm 0) (cm 4) 1) = 0) (w0 : (X6_hasRow_x1 (cs 1 7 4) kn) = 0) : hMet l yX8_fall cX8_fall 4 (some .int) { frames := 7, cells := 1, slots := 6, locals := 104 } D (hTy cy) f sz [.ref x, .int 1, .int kn, .int what] (hQi (fun r u => False) D f sz) (fun E u => E = "java/util/NoSuchElementException" ∧ MW A b cy q cm cs u ∧ hFrL f u []) := by
  refine h_enter (by decide) hfl (Nat.le_of_ble_eq_true rfl) ?_
  intro p9 e9 s9 m9 b9 t9 c9 hsz C0 hr hnm G ls hl
  have hx := C0.1.1
  have hb := C0.1.2.1
  have hl : lv_has ls 4 [(0, .ref x), (1, .int 1), (2, .int kn), (3, .int what)] := hl
  refine lv_aload_n hx hb dX8_fall_0 rfl (lv_at hl 0 rfl) ?_
  refine lv_iload_n hx hb dX8_fall_1 rfl (lv_at hl 1 rfl) ?_
  refine g_cV C0 G (g_runV C0 G (rest := []) (c_X8_demandInningsO hfl (A := A) (b := b) (b2 := b2) (xea := xea) (xra := xra) (xkr := xkr) (cm := cm) (cs := cs) 1 h_x hAj hM hQ v0) h_x rfl hY_X8_demandInnings mm_X8_200 mi_X8_demandInnings ml_X8_demandInnings ⟨(Nat.le_of_ble_eq_true rfl), (Nat.le_of_ble_eq_true rfl)⟩ rfl hl.1 rfl (Nat.le_of_ble_eq_true rfl) dX8_fall_2 ⟨(Nat.le_of_ble_eq_true rfl), (Nat.le_of_ble_eq_true rfl)⟩) (kx_no rfl) (fun u12 H locs hp11 G => ?_)
  obtain ⟨hM13, fr14⟩ := hp11
  refine lv_aload_n hx hb dX8_fall_5 rfl (lv_at hl 0 rfl) ?_
  have k16 : u12 x = some (.inr (10, [.ref (A (b + 0)), .ref (A (b2 + 0)), .ref lg, .ref lg_o, .ref tx, .ref rz, .ref ro, .int xea, .int xra, .int xkr])) := fr14 _ _ (by simp) h_x
  refine g_get C0 G k16 rfl hiX8 0 (by decide) mf_X8_10 rfl dX8_fall_6 ?_
  refine lv_iload_n hx hb dX8_fall_9 rfl (lv_at hl 1 rfl) ?_
  have k17 : u12 (A (b + 0)) = some (.inr (4, [.ref (A (b + 1)), .int (cm 0), .int (cm 1), .int (cm 2), .int (cm 3), .int (cm 4)])) := hM13 0 (by omega)
  have k18 : u12 (A (b + 1)) = some (.inl (cy 3, 4, .inr (.inr (.inr (.inr q))))) := hM13 1 (by omega)
  refine g_cR C0 G (g_runV C0 G (rest := []) (c_X2_at1 hfl (A := A) (b := b) (ex := (cm 0)) (ov := (cm 1)) (ie := (cm 2)) (fi := (cm 3)) (nu := (cm 4)) (q := q) k17 k18 hAj hQ.1 hQ.2.1 hQ.2.2.1 hQ.2.2.2) k17 rfl hY_X2_at mm_X8_206 mi_X2_at ml_X2_at ⟨(Nat.le_of_ble_eq_true rfl), (Nat.le_of_ble_eq_true rfl)⟩ rfl hl.1 rfl (Nat.le_of_ble_eq_true rfl) dX8_fall_10 ⟨(Nat.le_of_ble_eq_true rfl), (Nat.le_of_ble_eq_true rfl)⟩) (kx_no rfl) (fun a21 u20 H locs hp19 G => ?_)
  obtain ⟨zr, eu20⟩ := hp19
  replace zr := Eq.symm zr
  subst zr
  rw [eu20] at G
  have k22 : u12 (A (b + 15)) = some (.inr (2, [.ref (A (b + 16)), .ref (A (b + 18)), .ref (A (b + 20)), .ref (A (b + 22)), .ref (A (b + 24)), .ref (A (b + 26)), .int (cs 1 6 8), .int (cs 1 6 9), .int (cs 1 6 10), .int (cs 1 6 11), .int (cs 1 6 12)])) := hM13 15 (by omega)
  refine g_get C0 G k22 rfl hiX0 4 (by decide) mf_X8_237 rfl dX8_fall_13 ?_
  refine lv_iload_n hx hb dX8_fall_16 rfl (lv_at hl 2 rfl) ?_
  refine lv_iload_n hx hb dX8_fall_17 rfl (lv_at hl 3 rfl) ?_
  have k23 : u12 (A (b + 24)) = some (.inr (8, [.int 3, .ref (A (b + 25)), .int (cs 1 7 4)])) := hM13 24 (by omega)
  have k24 : u12 (A (b + 25)) = some (.inl (cy 0, 33, .inl (cs 1 4))) := hM13 25 (by omega)
  exact g_cI C0 G (g_runS C0 G (rest := []) (c_X8_tableNumberK hfl (n := 33) (cols := 3) (rows := (cs 1 7 4)) (g := (cs 1 4)) kn what k23 k24 w0 (by omega)) hY_X8_tableNumber mm_X8_233 ms_X8_tableNumber ⟨(Nat.le_of_ble_eq_true rfl), (Nat.le_of_ble_eq_true rfl)⟩ rfl hl.1 rfl (Nat.le_of_ble_eq_true rfl) dX8_fall_18 ⟨(Nat.le_of_ble_eq_true rfl), (Nat.le_of_ble_eq_true rfl)⟩) (kx_out C0 (Nat.le_of_ble_eq_true rfl) (Nat.le_of_ble_eq_true rfl) (fun E9 u9 h9 => by
      obtain ⟨hE9, eu26⟩ := h9
      have fr25 : hFrL u12 u9 [] := fun a9 e9 h7 h8 => by rw [eu26]; exact h8
      have hM27 := MW_frN hM13 fr25 (fun y9 hy9 => absurd hy9 (by simp))
      exact ⟨hE9, hM27, (fun a9 e9 h7 h8 => fr25 _ _ (by simp) (fr14 _ _ (by simp) (h8)))⟩)) (fun _ _ _ _ h9 _ => (h9).elim)
set_option maxRecDepth 100000 in
theorem c_X8_fallW1 {l : Launch} (hfl : l.stackTraces = false) {D : va_G} {cy : Nat → ClassId} {f : Hf} {sz : Nat} {x : Nat} {A : Nat → Nat} {b : Nat} {b2 : Nat} {lg : Nat} {lg_o : Nat} {tx : Nat} {rz : Nat} {ro : Nat} {xea : Int32} {xra : Int32} {xkr : Int32} {q : Nat → Option Nat} {cm : Nat → Int32} {cs : Nat → Nat → Nat → Int32} (kn : Int32) (what : Int32) (h_x : f x = some (.inr (10, [.ref (A (b + 0)), .ref (A (b2 + 0)), .ref lg, .ref lg_o, .ref tx, .ref rz, .ref ro, .int xea, .int xra, .int xkr]))) (hAj : ∀ i j : Nat, i ≠ j → A i ≠ A j) (hM : MW A b cy q cm cs f) (hQ : HQ A b q) (v0 : ¬ (X2_hasBegun_x2 (cm 0) (cm 4) 1) = 0) (w0 : ¬ (X6_hasRow_x1 (cs 1 7 4) kn) = 0) (w1 : (X6_hasColumn_x1 3 what) = 0) : hMet l yX8_fall cX8_fall 4 (some .int) { frames := 7, cells := 1, slots := 6, locals := 104 } D (hTy cy) f sz [.ref x, .int 1, .int kn, .int what] (hQi (fun r u => False) D f sz) (fun E u => E = "java/lang/IllegalArgumentException" ∧ MW A b cy q cm cs u ∧ hFrL f u []) := by
  refine h_enter (by decide) hfl (Nat.le_of_ble_eq_true rfl) ?_
  intro p9 e9 s9 m9 b9 t9 c9 hsz C0 hr hnm G ls hl
  have hx := C0.1.1
  have hb := C0.1.2.1
  have hl : lv_has ls 4 [(0, .ref x), (1, .int 1), (2, .int kn), (3, .int what)] := hl
  refine lv_aload_n hx hb dX8_fall_0 rfl (lv_at hl 0 rfl) ?_
  refine lv_iload_n hx hb dX8_fall_1 rfl (lv_at hl 1 rfl) ?_
  refine g_cV C0 G (g_runV C0 G (rest := []) (c_X8_demandInningsO hfl (A := A) (b := b) (b2 := b2) (xea := xea) (xra := xra) (xkr := xkr) (cm := cm) (cs := cs) 1 h_x hAj hM hQ v0) h_x rfl hY_X8_demandInnings mm_X8_200 mi_X8_demandInnings ml_X8_demandInnings ⟨(Nat.le_of_ble_eq_true rfl), (Nat.le_of_ble_eq_true rfl)⟩ rfl hl.1 rfl (Nat.le_of_ble_eq_true rfl) dX8_fall_2 ⟨(Nat.le_of_ble_eq_true rfl), (Nat.le_of_ble_eq_true rfl)⟩) (kx_no rfl) (fun u12 H locs hp11 G => ?_)
  obtain ⟨hM13, fr14⟩ := hp11
  refine lv_aload_n hx hb dX8_fall_5 rfl (lv_at hl 0 rfl) ?_
  have k16 : u12 x = some (.inr (10, [.ref (A (b + 0)), .ref (A (b2 + 0)), .ref lg, .ref lg_o, .ref tx, .ref rz, .ref ro, .int xea, .int xra, .int xkr])) := fr14 _ _ (by simp) h_x
  refine g_get C0 G k16 rfl hiX8 0 (by decide) mf_X8_10 rfl dX8_fall_6 ?_
  refine lv_iload_n hx hb dX8_fall_9 rfl (lv_at hl 1 rfl) ?_
  have k17 : u12 (A (b + 0)) = some (.inr (4, [.ref (A (b + 1)), .int (cm 0), .int (cm 1), .int (cm 2), .int (cm 3), .int (cm 4)])) := hM13 0 (by omega)
  have k18 : u12 (A (b + 1)) = some (.inl (cy 3, 4, .inr (.inr (.inr (.inr q))))) := hM13 1 (by omega)
  refine g_cR C0 G (g_runV C0 G (rest := []) (c_X2_at1 hfl (A := A) (b := b) (ex := (cm 0)) (ov := (cm 1)) (ie := (cm 2)) (fi := (cm 3)) (nu := (cm 4)) (q := q) k17 k18 hAj hQ.1 hQ.2.1 hQ.2.2.1 hQ.2.2.2) k17 rfl hY_X2_at mm_X8_206 mi_X2_at ml_X2_at ⟨(Nat.le_of_ble_eq_true rfl), (Nat.le_of_ble_eq_true rfl)⟩ rfl hl.1 rfl (Nat.le_of_ble_eq_true rfl) dX8_fall_10 ⟨(Nat.le_of_ble_eq_true rfl), (Nat.le_of_ble_eq_true rfl)⟩) (kx_no rfl) (fun a21 u20 H locs hp19 G => ?_)
  obtain ⟨zr, eu20⟩ := hp19
  replace zr := Eq.symm zr
  subst zr
  rw [eu20] at G
  have k22 : u12 (A (b + 15)) = some (.inr (2, [.ref (A (b + 16)), .ref (A (b + 18)), .ref (A (b + 20)), .ref (A (b + 22)), .ref (A (b + 24)), .ref (A (b + 26)), .int (cs 1 6 8), .int (cs 1 6 9), .int (cs 1 6 10), .int (cs 1 6 11), .int (cs 1 6 12)])) := hM13 15 (by omega)
  refine g_get C0 G k22 rfl hiX0 4 (by decide) mf_X8_237 rfl dX8_fall_13 ?_
  refine lv_iload_n hx hb dX8_fall_16 rfl (lv_at hl 2 rfl) ?_
  refine lv_iload_n hx hb dX8_fall_17 rfl (lv_at hl 3 rfl) ?_
  have k23 : u12 (A (b + 24)) = some (.inr (8, [.int 3, .ref (A (b + 25)), .int (cs 1 7 4)])) := hM13 24 (by omega)
  have k24 : u12 (A (b + 25)) = some (.inl (cy 0, 33, .inl (cs 1 4))) := hM13 25 (by omega)
  exact g_cI C0 G (g_runS C0 G (rest := []) (c_X8_tableNumberW hfl (n := 33) (cols := 3) (rows := (cs 1 7 4)) (g := (cs 1 4)) kn what k23 k24 w0 w1 (by omega)) hY_X8_tableNumber mm_X8_233 ms_X8_tableNumber ⟨(Nat.le_of_ble_eq_true rfl), (Nat.le_of_ble_eq_true rfl)⟩ rfl hl.1 rfl (Nat.le_of_ble_eq_true rfl) dX8_fall_18 ⟨(Nat.le_of_ble_eq_true rfl), (Nat.le_of_ble_eq_true rfl)⟩) (kx_out C0 (Nat.le_of_ble_eq_true rfl) (Nat.le_of_ble_eq_true rfl) (fun E9 u9 h9 => by
      obtain ⟨hE9, eu26⟩ := h9
      have fr25 : hFrL u12 u9 [] := fun a9 e9 h7 h8 => by rw [eu26]; exact h8
      have hM27 := MW_frN hM13 fr25 (fun y9 hy9 => absurd hy9 (by simp))
      exact ⟨hE9, hM27, (fun a9 e9 h7 h8 => fr25 _ _ (by simp) (fr14 _ _ (by simp) (h8)))⟩)) (fun _ _ _ _ h9 _ => (h9).elim)
def X8_fallY1_r0 (cs : Nat → Nat → Nat → Int32) (kn : Int32) (what : Int32) : Int32 := (tget 3 (cs 1 7 4) 33 (cs 1 4) kn what)
set_option maxRecDepth 100000 in
theorem c_X8_fallY1 {l : Launch} (hfl : l.stackTraces = false) {D : va_G} {cy : Nat → ClassId} {f : Hf} {sz : Nat} {x : Nat} {A : Nat → Nat} {b : Nat} {b2 : Nat} {lg : Nat} {lg_o : Nat} {tx : Nat} {rz : Nat} {ro : Nat} {xea : Int32} {xra : Int32} {xkr : Int32} {q : Nat → Option Nat} {cm : Nat → Int32} {cs : Nat → Nat → Nat → Int32} (kn : Int32) (what : Int32) (h_x : f x = some (.inr (10, [.ref (A (b + 0)), .ref (A (b2 + 0)), .ref lg, .ref lg_o, .ref tx, .ref rz, .ref ro, .int xea, .int xra, .int xkr]))) (hAj : ∀ i j : Nat, i ≠ j → A i ≠ A j) (hM : MW A b cy q cm cs f) (hQ : HQ A b q) (v0 : ¬ (X2_hasBegun_x2 (cm 0) (cm 4) 1) = 0) (w0 : ¬ (X6_hasRow_x1 (cs 1 7 4) kn) = 0) (w1 : ¬ (X6_hasColumn_x1 3 what) = 0) : hMet l yX8_fall cX8_fall 4 (some .int) { frames := 2, cells := 0, slots := 0, locals := 46 } D (hTy cy) f sz [.ref x, .int 1, .int kn, .int what] (hQi (fun r u => r = (X8_fallY1_r0 cs kn what) ∧ MW A b cy q cm cs u ∧ hFrL f u []) D f sz) hNo := by
  refine h_enter (by decide) hfl (Nat.le_of_ble_eq_true rfl) ?_
  intro p9 e9 s9 m9 b9 t9 c9 hsz C0 hr hnm G ls hl
  have hx := C0.1.1
  have hb := C0.1.2.1
  have hl : lv_has ls 4 [(0, .ref x), (1, .int 1), (2, .int kn), (3, .int what)] := hl
  refine lv_aload_n hx hb dX8_fall_0 rfl (lv_at hl 0 rfl) ?_
  refine lv_iload_n hx hb dX8_fall_1 rfl (lv_at hl 1 rfl) ?_
  refine g_cV C0 G (g_runV C0 G (rest := []) (c_X8_demandInningsO hfl (A := A) (b := b) (b2 := b2) (xea := xea) (xra := xra) (xkr := xkr) (cm := cm) (cs := cs) 1 h_x hAj hM hQ v0) h_x rfl hY_X8_demandInnings mm_X8_200 mi_X8_demandInnings ml_X8_demandInnings ⟨(Nat.le_of_ble_eq_true rfl), (Nat.le_of_ble_eq_true rfl)⟩ rfl hl.1 rfl (Nat.le_of_ble_eq_true rfl) dX8_fall_2 ⟨(Nat.le_of_ble_eq_true rfl), (Nat.le_of_ble_eq_true rfl)⟩) (kx_no rfl) (fun u12 H locs hp11 G => ?_)
  obtain ⟨hM13, fr14⟩ := hp11
  refine lv_aload_n hx hb dX8_fall_5 rfl (lv_at hl 0 rfl) ?_
  have k16 : u12 x = some (.inr (10, [.ref (A (b + 0)), .ref (A (b2 + 0)), .ref lg, .ref lg_o, .ref tx, .ref rz, .ref ro, .int xea, .int xra, .int xkr])) := fr14 _ _ (by simp) h_x
  refine g_get C0 G k16 rfl hiX8 0 (by decide) mf_X8_10 rfl dX8_fall_6 ?_
  refine lv_iload_n hx hb dX8_fall_9 rfl (lv_at hl 1 rfl) ?_
  have k17 : u12 (A (b + 0)) = some (.inr (4, [.ref (A (b + 1)), .int (cm 0), .int (cm 1), .int (cm 2), .int (cm 3), .int (cm 4)])) := hM13 0 (by omega)
  have k18 : u12 (A (b + 1)) = some (.inl (cy 3, 4, .inr (.inr (.inr (.inr q))))) := hM13 1 (by omega)
  refine g_cR C0 G (g_runV C0 G (rest := []) (c_X2_at1 hfl (A := A) (b := b) (ex := (cm 0)) (ov := (cm 1)) (ie := (cm 2)) (fi := (cm 3)) (nu := (cm 4)) (q := q) k17 k18 hAj hQ.1 hQ.2.1 hQ.2.2.1 hQ.2.2.2) k17 rfl hY_X2_at mm_X8_206 mi_X2_at ml_X2_at ⟨(Nat.le_of_ble_eq_true rfl), (Nat.le_of_ble_eq_true rfl)⟩ rfl hl.1 rfl (Nat.le_of_ble_eq_true rfl) dX8_fall_10 ⟨(Nat.le_of_ble_eq_true rfl), (Nat.le_of_ble_eq_true rfl)⟩) (kx_no rfl) (fun a21 u20 H locs hp19 G => ?_)
  obtain ⟨zr, eu20⟩ := hp19
  replace zr := Eq.symm zr
  subst zr
  rw [eu20] at G
  have k22 : u12 (A (b + 15)) = some (.inr (2, [.ref (A (b + 16)), .ref (A (b + 18)), .ref (A (b + 20)), .ref (A (b + 22)), .ref (A (b + 24)), .ref (A (b + 26)), .int (cs 1 6 8), .int (cs 1 6 9), .int (cs 1 6 10), .int (cs 1 6 11), .int (cs 1 6 12)])) := hM13 15 (by omega)
  refine g_get C0 G k22 rfl hiX0 4 (by decide) mf_X8_237 rfl dX8_fall_13 ?_
  refine lv_iload_n hx hb dX8_fall_16 rfl (lv_at hl 2 rfl) ?_
  refine lv_iload_n hx hb dX8_fall_17 rfl (lv_at hl 3 rfl) ?_
  have k23 : u12 (A (b + 24)) = some (.inr (8, [.int 3, .ref (A (b + 25)), .int (cs 1 7 4)])) := hM13 24 (by omega)
  have k24 : u12 (A (b + 25)) = some (.inl (cy 0, 33, .inl (cs 1 4))) := hM13 25 (by omega)
  refine g_cI C0 G (g_runS C0 G (rest := []) (c_X8_tableNumberY hfl (n := 33) (cols := 3) (rows := (cs 1 7 4)) (g := (cs 1 4)) kn what k23 k24 w0 w1 (by omega)) hY_X8_tableNumber mm_X8_233 ms_X8_tableNumber ⟨(Nat.le_of_ble_eq_true rfl), (Nat.le_of_ble_eq_true rfl)⟩ rfl hl.1 rfl (Nat.le_of_ble_eq_true rfl) dX8_fall_18 ⟨(Nat.le_of_ble_eq_true rfl), (Nat.le_of_ble_eq_true rfl)⟩) (kx_no rfl) (fun r27 u26 H locs hp25 G => ?_)
  obtain ⟨er28, eu26⟩ := hp25
  rw [eu26] at G
  refine lv_topv (v := (tget 3 (cs 1 7 4) 33 (cs 1 4) kn what)) er28 ?_
  exact g_iret C0 G hr dX8_fall_21 (Nat.le_of_ble_eq_true rfl) (Nat.le_of_ble_eq_true rfl) (by exact ⟨(by rw [X8_fallY1_r0]), hM13, (fun a9 e9 h7 h8 => fr14 _ _ (by simp) (h8))⟩)
set_option maxRecDepth 100000 in
theorem c_X8_fallK2 {l : Launch} (hfl : l.stackTraces = false) {D : va_G} {cy : Nat → ClassId} {f : Hf} {sz : Nat} {x : Nat} {A : Nat → Nat} {b : Nat} {b2 : Nat} {lg : Nat} {lg_o : Nat} {tx : Nat} {rz : Nat} {ro : Nat} {xea : Int32} {xra : Int32} {xkr : Int32} {q : Nat → Option Nat} {cm : Nat → Int32} {cs : Nat → Nat → Nat → Int32} (kn : Int32) (what : Int32) (h_x : f x = some (.inr (10, [.ref (A (b + 0)), .ref (A (b2 + 0)), .ref lg, .ref lg_o, .ref tx, .ref rz, .ref ro, .int xea, .int xra, .int xkr]))) (hAj : ∀ i j : Nat, i ≠ j → A i ≠ A j) (hM : MW A b cy q cm cs f) (hQ : HQ A b q) (v0 : ¬ (X2_hasBegun_x2 (cm 0) (cm 4) 2) = 0) (w0 : (X6_hasRow_x1 (cs 2 7 4) kn) = 0) : hMet l yX8_fall cX8_fall 4 (some .int) { frames := 7, cells := 1, slots := 6, locals := 104 } D (hTy cy) f sz [.ref x, .int 2, .int kn, .int what] (hQi (fun r u => False) D f sz) (fun E u => E = "java/util/NoSuchElementException" ∧ MW A b cy q cm cs u ∧ hFrL f u []) := by
  refine h_enter (by decide) hfl (Nat.le_of_ble_eq_true rfl) ?_
  intro p9 e9 s9 m9 b9 t9 c9 hsz C0 hr hnm G ls hl
  have hx := C0.1.1
  have hb := C0.1.2.1
  have hl : lv_has ls 4 [(0, .ref x), (1, .int 2), (2, .int kn), (3, .int what)] := hl
  refine lv_aload_n hx hb dX8_fall_0 rfl (lv_at hl 0 rfl) ?_
  refine lv_iload_n hx hb dX8_fall_1 rfl (lv_at hl 1 rfl) ?_
  refine g_cV C0 G (g_runV C0 G (rest := []) (c_X8_demandInningsO hfl (A := A) (b := b) (b2 := b2) (xea := xea) (xra := xra) (xkr := xkr) (cm := cm) (cs := cs) 2 h_x hAj hM hQ v0) h_x rfl hY_X8_demandInnings mm_X8_200 mi_X8_demandInnings ml_X8_demandInnings ⟨(Nat.le_of_ble_eq_true rfl), (Nat.le_of_ble_eq_true rfl)⟩ rfl hl.1 rfl (Nat.le_of_ble_eq_true rfl) dX8_fall_2 ⟨(Nat.le_of_ble_eq_true rfl), (Nat.le_of_ble_eq_true rfl)⟩) (kx_no rfl) (fun u12 H locs hp11 G => ?_)
  obtain ⟨hM13, fr14⟩ := hp11
  refine lv_aload_n hx hb dX8_fall_5 rfl (lv_at hl 0 rfl) ?_
  have k16 : u12 x = some (.inr (10, [.ref (A (b + 0)), .ref (A (b2 + 0)), .ref lg, .ref lg_o, .ref tx, .ref rz, .ref ro, .int xea, .int xra, .int xkr])) := fr14 _ _ (by simp) h_x
  refine g_get C0 G k16 rfl hiX8 0 (by decide) mf_X8_10 rfl dX8_fall_6 ?_
  refine lv_iload_n hx hb dX8_fall_9 rfl (lv_at hl 1 rfl) ?_
  have k17 : u12 (A (b + 0)) = some (.inr (4, [.ref (A (b + 1)), .int (cm 0), .int (cm 1), .int (cm 2), .int (cm 3), .int (cm 4)])) := hM13 0 (by omega)
  have k18 : u12 (A (b + 1)) = some (.inl (cy 3, 4, .inr (.inr (.inr (.inr q))))) := hM13 1 (by omega)
  refine g_cR C0 G (g_runV C0 G (rest := []) (c_X2_at2 hfl (A := A) (b := b) (ex := (cm 0)) (ov := (cm 1)) (ie := (cm 2)) (fi := (cm 3)) (nu := (cm 4)) (q := q) k17 k18 hAj hQ.1 hQ.2.1 hQ.2.2.1 hQ.2.2.2) k17 rfl hY_X2_at mm_X8_206 mi_X2_at ml_X2_at ⟨(Nat.le_of_ble_eq_true rfl), (Nat.le_of_ble_eq_true rfl)⟩ rfl hl.1 rfl (Nat.le_of_ble_eq_true rfl) dX8_fall_10 ⟨(Nat.le_of_ble_eq_true rfl), (Nat.le_of_ble_eq_true rfl)⟩) (kx_no rfl) (fun a21 u20 H locs hp19 G => ?_)
  obtain ⟨zr, eu20⟩ := hp19
  replace zr := Eq.symm zr
  subst zr
  rw [eu20] at G
  have k22 : u12 (A (b + 28)) = some (.inr (2, [.ref (A (b + 29)), .ref (A (b + 31)), .ref (A (b + 33)), .ref (A (b + 35)), .ref (A (b + 37)), .ref (A (b + 39)), .int (cs 2 6 8), .int (cs 2 6 9), .int (cs 2 6 10), .int (cs 2 6 11), .int (cs 2 6 12)])) := hM13 28 (by omega)
  refine g_get C0 G k22 rfl hiX0 4 (by decide) mf_X8_237 rfl dX8_fall_13 ?_
  refine lv_iload_n hx hb dX8_fall_16 rfl (lv_at hl 2 rfl) ?_
  refine lv_iload_n hx hb dX8_fall_17 rfl (lv_at hl 3 rfl) ?_
  have k23 : u12 (A (b + 37)) = some (.inr (8, [.int 3, .ref (A (b + 38)), .int (cs 2 7 4)])) := hM13 37 (by omega)
  have k24 : u12 (A (b + 38)) = some (.inl (cy 0, 33, .inl (cs 2 4))) := hM13 38 (by omega)
  exact g_cI C0 G (g_runS C0 G (rest := []) (c_X8_tableNumberK hfl (n := 33) (cols := 3) (rows := (cs 2 7 4)) (g := (cs 2 4)) kn what k23 k24 w0 (by omega)) hY_X8_tableNumber mm_X8_233 ms_X8_tableNumber ⟨(Nat.le_of_ble_eq_true rfl), (Nat.le_of_ble_eq_true rfl)⟩ rfl hl.1 rfl (Nat.le_of_ble_eq_true rfl) dX8_fall_18 ⟨(Nat.le_of_ble_eq_true rfl), (Nat.le_of_ble_eq_true rfl)⟩) (kx_out C0 (Nat.le_of_ble_eq_true rfl) (Nat.le_of_ble_eq_true rfl) (fun E9 u9 h9 => by
      obtain ⟨hE9, eu26⟩ := h9
      have fr25 : hFrL u12 u9 [] := fun a9 e9 h7 h8 => by rw [eu26]; exact h8
      have hM27 := MW_frN hM13 fr25 (fun y9 hy9 => absurd hy9 (by simp))
      exact ⟨hE9, hM27, (fun a9 e9 h7 h8 => fr25 _ _ (by simp) (fr14 _ _ (by simp) (h8)))⟩)) (fun _ _ _ _ h9 _ => (h9).elim)
set_option maxRecDepth 100000 in
theorem c_X8_fallW2 {l : Launch} (hfl : l.stackTraces = false) {D : va_G} {cy : Nat → ClassId} {f : Hf} {sz : Nat} {x : Nat} {A : Nat → Nat} {b : Nat} {b2 : Nat} {lg : Nat} {lg_o : Nat} {tx : Nat} {rz : Nat} {ro : Nat} {xea : Int32} {xra : Int32} {xkr : Int32} {q : Nat → Option Nat} {cm : Nat → Int32} {cs : Nat → Nat → Nat → Int32} (kn : Int32) (what : Int32) (h_x : f x = some (.inr (10, [.ref (A (b + 0)), .ref (A (b2 + 0)), .ref lg, .ref lg_o, .ref tx, .ref rz, .ref ro, .int xea, .int xra, .int xkr]))) (hAj : ∀ i j : Nat, i ≠ j → A i ≠ A j) (hM : MW A b cy q cm cs f) (hQ : HQ A b q) (v0 : ¬ (X2_hasBegun_x2 (cm 0) (cm 4) 2) = 0) (w0 : ¬ (X6_hasRow_x1 (cs 2 7 4) kn) = 0) (w1 : (X6_hasColumn_x1 3 what) = 0) : hMet l yX8_fall cX8_fall 4 (some .int) { frames := 7, cells := 1, slots := 6, locals := 104 } D (hTy cy) f sz [.ref x, .int 2, .int kn, .int what] (hQi (fun r u => False) D f sz) (fun E u => E = "java/lang/IllegalArgumentException" ∧ MW A b cy q cm cs u ∧ hFrL f u []) := by
  refine h_enter (by decide) hfl (Nat.le_of_ble_eq_true rfl) ?_
  intro p9 e9 s9 m9 b9 t9 c9 hsz C0 hr hnm G ls hl
  have hx := C0.1.1
  have hb := C0.1.2.1
  have hl : lv_has ls 4 [(0, .ref x), (1, .int 2), (2, .int kn), (3, .int what)] := hl
  refine lv_aload_n hx hb dX8_fall_0 rfl (lv_at hl 0 rfl) ?_
  refine lv_iload_n hx hb dX8_fall_1 rfl (lv_at hl 1 rfl) ?_
  refine g_cV C0 G (g_runV C0 G (rest := []) (c_X8_demandInningsO hfl (A := A) (b := b) (b2 := b2) (xea := xea) (xra := xra) (xkr := xkr) (cm := cm) (cs := cs) 2 h_x hAj hM hQ v0) h_x rfl hY_X8_demandInnings mm_X8_200 mi_X8_demandInnings ml_X8_demandInnings ⟨(Nat.le_of_ble_eq_true rfl), (Nat.le_of_ble_eq_true rfl)⟩ rfl hl.1 rfl (Nat.le_of_ble_eq_true rfl) dX8_fall_2 ⟨(Nat.le_of_ble_eq_true rfl), (Nat.le_of_ble_eq_true rfl)⟩) (kx_no rfl) (fun u12 H locs hp11 G => ?_)
  obtain ⟨hM13, fr14⟩ := hp11
  refine lv_aload_n hx hb dX8_fall_5 rfl (lv_at hl 0 rfl) ?_
  have k16 : u12 x = some (.inr (10, [.ref (A (b + 0)), .ref (A (b2 + 0)), .ref lg, .ref lg_o, .ref tx, .ref rz, .ref ro, .int xea, .int xra, .int xkr])) := fr14 _ _ (by simp) h_x
  refine g_get C0 G k16 rfl hiX8 0 (by decide) mf_X8_10 rfl dX8_fall_6 ?_
  refine lv_iload_n hx hb dX8_fall_9 rfl (lv_at hl 1 rfl) ?_
  have k17 : u12 (A (b + 0)) = some (.inr (4, [.ref (A (b + 1)), .int (cm 0), .int (cm 1), .int (cm 2), .int (cm 3), .int (cm 4)])) := hM13 0 (by omega)
  have k18 : u12 (A (b + 1)) = some (.inl (cy 3, 4, .inr (.inr (.inr (.inr q))))) := hM13 1 (by omega)
  refine g_cR C0 G (g_runV C0 G (rest := []) (c_X2_at2 hfl (A := A) (b := b) (ex := (cm 0)) (ov := (cm 1)) (ie := (cm 2)) (fi := (cm 3)) (nu := (cm 4)) (q := q) k17 k18 hAj hQ.1 hQ.2.1 hQ.2.2.1 hQ.2.2.2) k17 rfl hY_X2_at mm_X8_206 mi_X2_at ml_X2_at ⟨(Nat.le_of_ble_eq_true rfl), (Nat.le_of_ble_eq_true rfl)⟩ rfl hl.1 rfl (Nat.le_of_ble_eq_true rfl) dX8_fall_10 ⟨(Nat.le_of_ble_eq_true rfl), (Nat.le_of_ble_eq_true rfl)⟩) (kx_no rfl) (fun a21 u20 H locs hp19 G => ?_)
  obtain ⟨zr, eu20⟩ := hp19
  replace zr := Eq.symm zr
  subst zr
  rw [eu20] at G
  have k22 : u12 (A (b + 28)) = some (.inr (2, [.ref (A (b + 29)), .ref (A (b + 31)), .ref (A (b + 33)), .ref (A (b + 35)), .ref (A (b + 37)), .ref (A (b + 39)), .int (cs 2 6 8), .int (cs 2 6 9), .int (cs 2 6 10), .int (cs 2 6 11), .int (cs 2 6 12)])) := hM13 28 (by omega)
  refine g_get C0 G k22 rfl hiX0 4 (by decide) mf_X8_237 rfl dX8_fall_13 ?_
  refine lv_iload_n hx hb dX8_fall_16 rfl (lv_at hl 2 rfl) ?_
  refine lv_iload_n hx hb dX8_fall_17 rfl (lv_at hl 3 rfl) ?_
  have k23 : u12 (A (b + 37)) = some (.inr (8, [.int 3, .ref (A (b + 38)), .int (cs 2 7 4)])) := hM13 37 (by omega)
  have k24 : u12 (A (b + 38)) = some (.inl (cy 0, 33, .inl (cs 2 4))) := hM13 38 (by omega)
  exact g_cI C0 G (g_runS C0 G (rest := []) (c_X8_tableNumberW hfl (n := 33) (cols := 3) (rows := (cs 2 7 4)) (g := (cs 2 4)) kn what k23 k24 w0 w1 (by omega)) hY_X8_tableNumber mm_X8_233 ms_X8_tableNumber ⟨(Nat.le_of_ble_eq_true rfl), (Nat.le_of_ble_eq_true rfl)⟩ rfl hl.1 rfl (Nat.le_of_ble_eq_true rfl) dX8_fall_18 ⟨(Nat.le_of_ble_eq_true rfl), (Nat.le_of_ble_eq_true rfl)⟩) (kx_out C0 (Nat.le_of_ble_eq_true rfl) (Nat.le_of_ble_eq_true rfl) (fun E9 u9 h9 => by
      obtain ⟨hE9, eu26⟩ := h9
      have fr25 : hFrL u12 u9 [] := fun a9 e9 h7 h8 => by rw [eu26]; exact h8
      have hM27 := MW_frN hM13 fr25 (fun y9 hy9 => absurd hy9 (by simp))
      exact ⟨hE9, hM27, (fun a9 e9 h7 h8 => fr25 _ _ (by simp) (fr14 _ _ (by simp) (h8)))⟩)) (fun _ _ _ _ h9 _ => (h9).elim)
def X8_fallY2_r0 (cs : Nat → Nat → Nat → Int32) (kn : Int32) (what : Int32) : Int32 := (tget 3 (cs 2 7 4) 33 (cs 2 4) kn what)
set_option maxRecDepth 100000 in
theorem c_X8_fallY2 {l : Launch} (hfl : l.stackTraces = false) {D : va_G} {cy : Nat → ClassId} {f : Hf} {sz : Nat} {x : Nat} {A : Nat → Nat} {b : Nat} {b2 : Nat} {lg : Nat} {lg_o : Nat} {tx : Nat} {rz : Nat} {ro : Nat} {xea : Int32} {xra : Int32} {xkr : Int32} {q : Nat → Option Nat} {cm : Nat → Int32} {cs : Nat → Nat → Nat → Int32} (kn : Int32) (what : Int32) (h_x : f x = some (.inr (10, [.ref (A (b + 0)), .ref (A (b2 + 0)), .ref lg, .ref lg_o, .ref tx, .ref rz, .ref ro, .int xea, .int xra, .int xkr]))) (hAj : ∀ i j : Nat, i ≠ j → A i ≠ A j) (hM : MW A b cy q cm cs f) (hQ : HQ A b q) (v0 : ¬ (X2_hasBegun_x2 (cm 0) (cm 4) 2) = 0) (w0 : ¬ (X6_hasRow_x1 (cs 2 7 4) kn) = 0) (w1 : ¬ (X6_hasColumn_x1 3 what) = 0) : hMet l yX8_fall cX8_fall 4 (some .int) { frames := 2, cells := 0, slots := 0, locals := 46 } D (hTy cy) f sz [.ref x, .int 2, .int kn, .int what] (hQi (fun r u => r = (X8_fallY2_r0 cs kn what) ∧ MW A b cy q cm cs u ∧ hFrL f u []) D f sz) hNo := by
  refine h_enter (by decide) hfl (Nat.le_of_ble_eq_true rfl) ?_
  intro p9 e9 s9 m9 b9 t9 c9 hsz C0 hr hnm G ls hl
  have hx := C0.1.1
  have hb := C0.1.2.1
  have hl : lv_has ls 4 [(0, .ref x), (1, .int 2), (2, .int kn), (3, .int what)] := hl
  refine lv_aload_n hx hb dX8_fall_0 rfl (lv_at hl 0 rfl) ?_
  refine lv_iload_n hx hb dX8_fall_1 rfl (lv_at hl 1 rfl) ?_
  refine g_cV C0 G (g_runV C0 G (rest := []) (c_X8_demandInningsO hfl (A := A) (b := b) (b2 := b2) (xea := xea) (xra := xra) (xkr := xkr) (cm := cm) (cs := cs) 2 h_x hAj hM hQ v0) h_x rfl hY_X8_demandInnings mm_X8_200 mi_X8_demandInnings ml_X8_demandInnings ⟨(Nat.le_of_ble_eq_true rfl), (Nat.le_of_ble_eq_true rfl)⟩ rfl hl.1 rfl (Nat.le_of_ble_eq_true rfl) dX8_fall_2 ⟨(Nat.le_of_ble_eq_true rfl), (Nat.le_of_ble_eq_true rfl)⟩) (kx_no rfl) (fun u12 H locs hp11 G => ?_)
  obtain ⟨hM13, fr14⟩ := hp11
  refine lv_aload_n hx hb dX8_fall_5 rfl (lv_at hl 0 rfl) ?_
  have k16 : u12 x = some (.inr (10, [.ref (A (b + 0)), .ref (A (b2 + 0)), .ref lg, .ref lg_o, .ref tx, .ref rz, .ref ro, .int xea, .int xra, .int xkr])) := fr14 _ _ (by simp) h_x
  refine g_get C0 G k16 rfl hiX8 0 (by decide) mf_X8_10 rfl dX8_fall_6 ?_
  refine lv_iload_n hx hb dX8_fall_9 rfl (lv_at hl 1 rfl) ?_
  have k17 : u12 (A (b + 0)) = some (.inr (4, [.ref (A (b + 1)), .int (cm 0), .int (cm 1), .int (cm 2), .int (cm 3), .int (cm 4)])) := hM13 0 (by omega)
  have k18 : u12 (A (b + 1)) = some (.inl (cy 3, 4, .inr (.inr (.inr (.inr q))))) := hM13 1 (by omega)
  refine g_cR C0 G (g_runV C0 G (rest := []) (c_X2_at2 hfl (A := A) (b := b) (ex := (cm 0)) (ov := (cm 1)) (ie := (cm 2)) (fi := (cm 3)) (nu := (cm 4)) (q := q) k17 k18 hAj hQ.1 hQ.2.1 hQ.2.2.1 hQ.2.2.2) k17 rfl hY_X2_at mm_X8_206 mi_X2_at ml_X2_at ⟨(Nat.le_of_ble_eq_true rfl), (Nat.le_of_ble_eq_true rfl)⟩ rfl hl.1 rfl (Nat.le_of_ble_eq_true rfl) dX8_fall_10 ⟨(Nat.le_of_ble_eq_true rfl), (Nat.le_of_ble_eq_true rfl)⟩) (kx_no rfl) (fun a21 u20 H locs hp19 G => ?_)
  obtain ⟨zr, eu20⟩ := hp19
  replace zr := Eq.symm zr
  subst zr
  rw [eu20] at G
  have k22 : u12 (A (b + 28)) = some (.inr (2, [.ref (A (b + 29)), .ref (A (b + 31)), .ref (A (b + 33)), .ref (A (b + 35)), .ref (A (b + 37)), .ref (A (b + 39)), .int (cs 2 6 8), .int (cs 2 6 9), .int (cs 2 6 10), .int (cs 2 6 11), .int (cs 2 6 12)])) := hM13 28 (by omega)
  refine g_get C0 G k22 rfl hiX0 4 (by decide) mf_X8_237 rfl dX8_fall_13 ?_
  refine lv_iload_n hx hb dX8_fall_16 rfl (lv_at hl 2 rfl) ?_
  refine lv_iload_n hx hb dX8_fall_17 rfl (lv_at hl 3 rfl) ?_
  have k23 : u12 (A (b + 37)) = some (.inr (8, [.int 3, .ref (A (b + 38)), .int (cs 2 7 4)])) := hM13 37 (by omega)
  have k24 : u12 (A (b + 38)) = some (.inl (cy 0, 33, .inl (cs 2 4))) := hM13 38 (by omega)
  refine g_cI C0 G (g_runS C0 G (rest := []) (c_X8_tableNumberY hfl (n := 33) (cols := 3) (rows := (cs 2 7 4)) (g := (cs 2 4)) kn what k23 k24 w0 w1 (by omega)) hY_X8_tableNumber mm_X8_233 ms_X8_tableNumber ⟨(Nat.le_of_ble_eq_true rfl), (Nat.le_of_ble_eq_true rfl)⟩ rfl hl.1 rfl (Nat.le_of_ble_eq_true rfl) dX8_fall_18 ⟨(Nat.le_of_ble_eq_true rfl), (Nat.le_of_ble_eq_true rfl)⟩) (kx_no rfl) (fun r27 u26 H locs hp25 G => ?_)
  obtain ⟨er28, eu26⟩ := hp25
  rw [eu26] at G
  refine lv_topv (v := (tget 3 (cs 2 7 4) 33 (cs 2 4) kn what)) er28 ?_
  exact g_iret C0 G hr dX8_fall_21 (Nat.le_of_ble_eq_true rfl) (Nat.le_of_ble_eq_true rfl) (by exact ⟨(by rw [X8_fallY2_r0]), hM13, (fun a9 e9 h7 h8 => fr14 _ _ (by simp) (h8))⟩)
set_option maxRecDepth 100000 in
theorem c_X8_fallK3 {l : Launch} (hfl : l.stackTraces = false) {D : va_G} {cy : Nat → ClassId} {f : Hf} {sz : Nat} {x : Nat} {A : Nat → Nat} {b : Nat} {b2 : Nat} {lg : Nat} {lg_o : Nat} {tx : Nat} {rz : Nat} {ro : Nat} {xea : Int32} {xra : Int32} {xkr : Int32} {q : Nat → Option Nat} {cm : Nat → Int32} {cs : Nat → Nat → Nat → Int32} (kn : Int32) (what : Int32) (h_x : f x = some (.inr (10, [.ref (A (b + 0)), .ref (A (b2 + 0)), .ref lg, .ref lg_o, .ref tx, .ref rz, .ref ro, .int xea, .int xra, .int xkr]))) (hAj : ∀ i j : Nat, i ≠ j → A i ≠ A j) (hM : MW A b cy q cm cs f) (hQ : HQ A b q) (v0 : ¬ (X2_hasBegun_x2 (cm 0) (cm 4) 3) = 0) (w0 : (X6_hasRow_x1 (cs 3 7 4) kn) = 0) : hMet l yX8_fall cX8_fall 4 (some .int) { frames := 7, cells := 1, slots := 6, locals := 104 } D (hTy cy) f sz [.ref x, .int 3, .int kn, .int what] (hQi (fun r u => False) D f sz) (fun E u => E = "java/util/NoSuchElementException" ∧ MW A b cy q cm cs u ∧ hFrL f u []) := by
  refine h_enter (by decide) hfl (Nat.le_of_ble_eq_true rfl) ?_
  intro p9 e9 s9 m9 b9 t9 c9 hsz C0 hr hnm G ls hl
  have hx := C0.1.1
  have hb := C0.1.2.1
  have hl : lv_has ls 4 [(0, .ref x), (1, .int 3), (2, .int kn), (3, .int what)] := hl
  refine lv_aload_n hx hb dX8_fall_0 rfl (lv_at hl 0 rfl) ?_
  refine lv_iload_n hx hb dX8_fall_1 rfl (lv_at hl 1 rfl) ?_
  refine g_cV C0 G (g_runV C0 G (rest := []) (c_X8_demandInningsO hfl (A := A) (b := b) (b2 := b2) (xea := xea) (xra := xra) (xkr := xkr) (cm := cm) (cs := cs) 3 h_x hAj hM hQ v0) h_x rfl hY_X8_demandInnings mm_X8_200 mi_X8_demandInnings ml_X8_demandInnings ⟨(Nat.le_of_ble_eq_true rfl), (Nat.le_of_ble_eq_true rfl)⟩ rfl hl.1 rfl (Nat.le_of_ble_eq_true rfl) dX8_fall_2 ⟨(Nat.le_of_ble_eq_true rfl), (Nat.le_of_ble_eq_true rfl)⟩) (kx_no rfl) (fun u12 H locs hp11 G => ?_)
  obtain ⟨hM13, fr14⟩ := hp11
  refine lv_aload_n hx hb dX8_fall_5 rfl (lv_at hl 0 rfl) ?_
  have k16 : u12 x = some (.inr (10, [.ref (A (b + 0)), .ref (A (b2 + 0)), .ref lg, .ref lg_o, .ref tx, .ref rz, .ref ro, .int xea, .int xra, .int xkr])) := fr14 _ _ (by simp) h_x
  refine g_get C0 G k16 rfl hiX8 0 (by decide) mf_X8_10 rfl dX8_fall_6 ?_
  refine lv_iload_n hx hb dX8_fall_9 rfl (lv_at hl 1 rfl) ?_
  have k17 : u12 (A (b + 0)) = some (.inr (4, [.ref (A (b + 1)), .int (cm 0), .int (cm 1), .int (cm 2), .int (cm 3), .int (cm 4)])) := hM13 0 (by omega)
  have k18 : u12 (A (b + 1)) = some (.inl (cy 3, 4, .inr (.inr (.inr (.inr q))))) := hM13 1 (by omega)
  refine g_cR C0 G (g_runV C0 G (rest := []) (c_X2_at3 hfl (A := A) (b := b) (ex := (cm 0)) (ov := (cm 1)) (ie := (cm 2)) (fi := (cm 3)) (nu := (cm 4)) (q := q) k17 k18 hAj hQ.1 hQ.2.1 hQ.2.2.1 hQ.2.2.2) k17 rfl hY_X2_at mm_X8_206 mi_X2_at ml_X2_at ⟨(Nat.le_of_ble_eq_true rfl), (Nat.le_of_ble_eq_true rfl)⟩ rfl hl.1 rfl (Nat.le_of_ble_eq_true rfl) dX8_fall_10 ⟨(Nat.le_of_ble_eq_true rfl), (Nat.le_of_ble_eq_true rfl)⟩) (kx_no rfl) (fun a21 u20 H locs hp19 G => ?_)
  obtain ⟨zr, eu20⟩ := hp19
  replace zr := Eq.symm zr
  subst zr
  rw [eu20] at G
  have k22 : u12 (A (b + 41)) = some (.inr (2, [.ref (A (b + 42)), .ref (A (b + 44)), .ref (A (b + 46)), .ref (A (b + 48)), .ref (A (b + 50)), .ref (A (b + 52)), .int (cs 3 6 8), .int (cs 3 6 9), .int (cs 3 6 10), .int (cs 3 6 11), .int (cs 3 6 12)])) := hM13 41 (by omega)
  refine g_get C0 G k22 rfl hiX0 4 (by decide) mf_X8_237 rfl dX8_fall_13 ?_
  refine lv_iload_n hx hb dX8_fall_16 rfl (lv_at hl 2 rfl) ?_
  refine lv_iload_n hx hb dX8_fall_17 rfl (lv_at hl 3 rfl) ?_
  have k23 : u12 (A (b + 50)) = some (.inr (8, [.int 3, .ref (A (b + 51)), .int (cs 3 7 4)])) := hM13 50 (by omega)
  have k24 : u12 (A (b + 51)) = some (.inl (cy 0, 33, .inl (cs 3 4))) := hM13 51 (by omega)
  exact g_cI C0 G (g_runS C0 G (rest := []) (c_X8_tableNumberK hfl (n := 33) (cols := 3) (rows := (cs 3 7 4)) (g := (cs 3 4)) kn what k23 k24 w0 (by omega)) hY_X8_tableNumber mm_X8_233 ms_X8_tableNumber ⟨(Nat.le_of_ble_eq_true rfl), (Nat.le_of_ble_eq_true rfl)⟩ rfl hl.1 rfl (Nat.le_of_ble_eq_true rfl) dX8_fall_18 ⟨(Nat.le_of_ble_eq_true rfl), (Nat.le_of_ble_eq_true rfl)⟩) (kx_out C0 (Nat.le_of_ble_eq_true rfl) (Nat.le_of_ble_eq_true rfl) (fun E9 u9 h9 => by
      obtain ⟨hE9, eu26⟩ := h9
      have fr25 : hFrL u12 u9 [] := fun a9 e9 h7 h8 => by rw [eu26]; exact h8
      have hM27 := MW_frN hM13 fr25 (fun y9 hy9 => absurd hy9 (by simp))
      exact ⟨hE9, hM27, (fun a9 e9 h7 h8 => fr25 _ _ (by simp) (fr14 _ _ (by simp) (h8)))⟩)) (fun _ _ _ _ h9 _ => (h9).elim)
set_option maxRecDepth 100000 in
theorem c_X8_fallW3 {l : Launch} (hfl : l.stackTraces = false) {D : va_G} {cy : Nat → ClassId} {f : Hf} {sz : Nat} {x : Nat} {A : Nat → Nat} {b : Nat} {b2 : Nat} {lg : Nat} {lg_o : Nat} {tx : Nat} {rz : Nat} {ro : Nat} {xea : Int32} {xra : Int32} {xkr : Int32} {q : Nat → Option Nat} {cm : Nat → Int32} {cs : Nat → Nat → Nat → Int32} (kn : Int32) (what : Int32) (h_x : f x = some (.inr (10, [.ref (A (b + 0)), .ref (A (b2 + 0)), .ref lg, .ref lg_o, .ref tx, .ref rz, .ref ro, .int xea, .int xra, .int xkr]))) (hAj : ∀ i j : Nat, i ≠ j → A i ≠ A j) (hM : MW A b cy q cm cs f) (hQ : HQ A b q) (v0 : ¬ (X2_hasBegun_x2 (cm 0) (cm 4) 3) = 0) (w0 : ¬ (X6_hasRow_x1 (cs 3 7 4) kn) = 0) (w1 : (X6_hasColumn_x1 3 what) = 0) : hMet l yX8_fall cX8_fall 4 (some .int) { frames := 7, cells := 1, slots := 6, locals := 104 } D (hTy cy) f sz [.ref x, .int 3, .int kn, .int what] (hQi (fun r u => False) D f sz) (fun E u => E = "java/lang/IllegalArgumentException" ∧ MW A b cy q cm cs u ∧ hFrL f u []) := by
  refine h_enter (by decide) hfl (Nat.le_of_ble_eq_true rfl) ?_
  intro p9 e9 s9 m9 b9 t9 c9 hsz C0 hr hnm G ls hl
  have hx := C0.1.1
  have hb := C0.1.2.1
  have hl : lv_has ls 4 [(0, .ref x), (1, .int 3), (2, .int kn), (3, .int what)] := hl
  refine lv_aload_n hx hb dX8_fall_0 rfl (lv_at hl 0 rfl) ?_
  refine lv_iload_n hx hb dX8_fall_1 rfl (lv_at hl 1 rfl) ?_
  refine g_cV C0 G (g_runV C0 G (rest := []) (c_X8_demandInningsO hfl (A := A) (b := b) (b2 := b2) (xea := xea) (xra := xra) (xkr := xkr) (cm := cm) (cs := cs) 3 h_x hAj hM hQ v0) h_x rfl hY_X8_demandInnings mm_X8_200 mi_X8_demandInnings ml_X8_demandInnings ⟨(Nat.le_of_ble_eq_true rfl), (Nat.le_of_ble_eq_true rfl)⟩ rfl hl.1 rfl (Nat.le_of_ble_eq_true rfl) dX8_fall_2 ⟨(Nat.le_of_ble_eq_true rfl), (Nat.le_of_ble_eq_true rfl)⟩) (kx_no rfl) (fun u12 H locs hp11 G => ?_)
  obtain ⟨hM13, fr14⟩ := hp11
  refine lv_aload_n hx hb dX8_fall_5 rfl (lv_at hl 0 rfl) ?_
  have k16 : u12 x = some (.inr (10, [.ref (A (b + 0)), .ref (A (b2 + 0)), .ref lg, .ref lg_o, .ref tx, .ref rz, .ref ro, .int xea, .int xra, .int xkr])) := fr14 _ _ (by simp) h_x
  refine g_get C0 G k16 rfl hiX8 0 (by decide) mf_X8_10 rfl dX8_fall_6 ?_
  refine lv_iload_n hx hb dX8_fall_9 rfl (lv_at hl 1 rfl) ?_
  have k17 : u12 (A (b + 0)) = some (.inr (4, [.ref (A (b + 1)), .int (cm 0), .int (cm 1), .int (cm 2), .int (cm 3), .int (cm 4)])) := hM13 0 (by omega)
  have k18 : u12 (A (b + 1)) = some (.inl (cy 3, 4, .inr (.inr (.inr (.inr q))))) := hM13 1 (by omega)
  refine g_cR C0 G (g_runV C0 G (rest := []) (c_X2_at3 hfl (A := A) (b := b) (ex := (cm 0)) (ov := (cm 1)) (ie := (cm 2)) (fi := (cm 3)) (nu := (cm 4)) (q := q) k17 k18 hAj hQ.1 hQ.2.1 hQ.2.2.1 hQ.2.2.2) k17 rfl hY_X2_at mm_X8_206 mi_X2_at ml_X2_at ⟨(Nat.le_of_ble_eq_true rfl), (Nat.le_of_ble_eq_true rfl)⟩ rfl hl.1 rfl (Nat.le_of_ble_eq_true rfl) dX8_fall_10 ⟨(Nat.le_of_ble_eq_true rfl), (Nat.le_of_ble_eq_true rfl)⟩) (kx_no rfl) (fun a21 u20 H locs hp19 G => ?_)
  obtain ⟨zr, eu20⟩ := hp19
  replace zr := Eq.symm zr
  subst zr
  rw [eu20] at G
  have k22 : u12 (A (b + 41)) = some (.inr (2, [.ref (A (b + 42)), .ref (A (b + 44)), .ref (A (b + 46)), .ref (A (b + 48)), .ref (A (b + 50)), .ref (A (b + 52)), .int (cs 3 6 8), .int (cs 3 6 9), .int (cs 3 6 10), .int (cs 3 6 11), .int (cs 3 6 12)])) := hM13 41 (by omega)
  refine g_get C0 G k22 rfl hiX0 4 (by decide) mf_X8_237 rfl dX8_fall_13 ?_
  refine lv_iload_n hx hb dX8_fall_16 rfl (lv_at hl 2 rfl) ?_
  refine lv_iload_n hx hb dX8_fall_17 rfl (lv_at hl 3 rfl) ?_
  have k23 : u12 (A (b + 50)) = some (.inr (8, [.int 3, .ref (A (b + 51)), .int (cs 3 7 4)])) := hM13 50 (by omega)
  have k24 : u12 (A (b + 51)) = some (.inl (cy 0, 33, .inl (cs 3 4))) := hM13 51 (by omega)
  exact g_cI C0 G (g_runS C0 G (rest := []) (c_X8_tableNumberW hfl (n := 33) (cols := 3) (rows := (cs 3 7 4)) (g := (cs 3 4)) kn what k23 k24 w0 w1 (by omega)) hY_X8_tableNumber mm_X8_233 ms_X8_tableNumber ⟨(Nat.le_of_ble_eq_true rfl), (Nat.le_of_ble_eq_true rfl)⟩ rfl hl.1 rfl (Nat.le_of_ble_eq_true rfl) dX8_fall_18 ⟨(Nat.le_of_ble_eq_true rfl), (Nat.le_of_ble_eq_true rfl)⟩) (kx_out C0 (Nat.le_of_ble_eq_true rfl) (Nat.le_of_ble_eq_true rfl) (fun E9 u9 h9 => by
      obtain ⟨hE9, eu26⟩ := h9
      have fr25 : hFrL u12 u9 [] := fun a9 e9 h7 h8 => by rw [eu26]; exact h8
      have hM27 := MW_frN hM13 fr25 (fun y9 hy9 => absurd hy9 (by simp))
      exact ⟨hE9, hM27, (fun a9 e9 h7 h8 => fr25 _ _ (by simp) (fr14 _ _ (by simp) (h8)))⟩)) (fun _ _ _ _ h9 _ => (h9).elim)
def X8_fallY3_r0 (cs : Nat → Nat → Nat → Int32) (kn : Int32) (what : Int32) : Int32 := (tget 3 (cs 3 7 4) 33 (cs 3 4) kn what)
set_option maxRecDepth 100000 in
theorem c_X8_fallY3 {l : Launch} (hfl : l.stackTraces = false) {D : va_G} {cy : Nat → ClassId} {f : Hf} {sz : Nat} {x : Nat} {A : Nat → Nat} {b : Nat} {b2 : Nat} {lg : Nat} {lg_o : Nat} {tx : Nat} {rz : Nat} {ro : Nat} {xea : Int32} {xra : Int32} {xkr : Int32} {q : Nat → Option Nat} {cm : Nat → Int32} {cs : Nat → Nat → Nat → Int32} (kn : Int32) (what : Int32) (h_x : f x = some (.inr (10, [.ref (A (b + 0)), .ref (A (b2 + 0)), .ref lg, .ref lg_o, .ref tx, .ref rz, .ref ro, .int xea, .int xra, .int xkr]))) (hAj : ∀ i j : Nat, i ≠ j → A i ≠ A j) (hM : MW A b cy q cm cs f) (hQ : HQ A b q) (v0 : ¬ (X2_hasBegun_x2 (cm 0) (cm 4) 3) = 0) (w0 : ¬ (X6_hasRow_x1 (cs 3 7 4) kn) = 0) (w1 : ¬ (X6_hasColumn_x1 3 what) = 0) : hMet l yX8_fall cX8_fall 4 (some .int) { frames := 2, cells := 0, slots := 0, locals := 46 } D (hTy cy) f sz [.ref x, .int 3, .int kn, .int what] (hQi (fun r u => r = (X8_fallY3_r0 cs kn what) ∧ MW A b cy q cm cs u ∧ hFrL f u []) D f sz) hNo := by
  refine h_enter (by decide) hfl (Nat.le_of_ble_eq_true rfl) ?_
  intro p9 e9 s9 m9 b9 t9 c9 hsz C0 hr hnm G ls hl
  have hx := C0.1.1
  have hb := C0.1.2.1
  have hl : lv_has ls 4 [(0, .ref x), (1, .int 3), (2, .int kn), (3, .int what)] := hl
  refine lv_aload_n hx hb dX8_fall_0 rfl (lv_at hl 0 rfl) ?_
  refine lv_iload_n hx hb dX8_fall_1 rfl (lv_at hl 1 rfl) ?_
  refine g_cV C0 G (g_runV C0 G (rest := []) (c_X8_demandInningsO hfl (A := A) (b := b) (b2 := b2) (xea := xea) (xra := xra) (xkr := xkr) (cm := cm) (cs := cs) 3 h_x hAj hM hQ v0) h_x rfl hY_X8_demandInnings mm_X8_200 mi_X8_demandInnings ml_X8_demandInnings ⟨(Nat.le_of_ble_eq_true rfl), (Nat.le_of_ble_eq_true rfl)⟩ rfl hl.1 rfl (Nat.le_of_ble_eq_true rfl) dX8_fall_2 ⟨(Nat.le_of_ble_eq_true rfl), (Nat.le_of_ble_eq_true rfl)⟩) (kx_no rfl) (fun u12 H locs hp11 G => ?_)
  obtain ⟨hM13, fr14⟩ := hp11
  refine lv_aload_n hx hb dX8_fall_5 rfl (lv_at hl 0 rfl) ?_
  have k16 : u12 x = some (.inr (10, [.ref (A (b + 0)), .ref (A (b2 + 0)), .ref lg, .ref lg_o, .ref tx, .ref rz, .ref ro, .int xea, .int xra, .int xkr])) := fr14 _ _ (by simp) h_x
  refine g_get C0 G k16 rfl hiX8 0 (by decide) mf_X8_10 rfl dX8_fall_6 ?_
  refine lv_iload_n hx hb dX8_fall_9 rfl (lv_at hl 1 rfl) ?_
  have k17 : u12 (A (b + 0)) = some (.inr (4, [.ref (A (b + 1)), .int (cm 0), .int (cm 1), .int (cm 2), .int (cm 3), .int (cm 4)])) := hM13 0 (by omega)
  have k18 : u12 (A (b + 1)) = some (.inl (cy 3, 4, .inr (.inr (.inr (.inr q))))) := hM13 1 (by omega)
  refine g_cR C0 G (g_runV C0 G (rest := []) (c_X2_at3 hfl (A := A) (b := b) (ex := (cm 0)) (ov := (cm 1)) (ie := (cm 2)) (fi := (cm 3)) (nu := (cm 4)) (q := q) k17 k18 hAj hQ.1 hQ.2.1 hQ.2.2.1 hQ.2.2.2) k17 rfl hY_X2_at mm_X8_206 mi_X2_at ml_X2_at ⟨(Nat.le_of_ble_eq_true rfl), (Nat.le_of_ble_eq_true rfl)⟩ rfl hl.1 rfl (Nat.le_of_ble_eq_true rfl) dX8_fall_10 ⟨(Nat.le_of_ble_eq_true rfl), (Nat.le_of_ble_eq_true rfl)⟩) (kx_no rfl) (fun a21 u20 H locs hp19 G => ?_)
  obtain ⟨zr, eu20⟩ := hp19
  replace zr := Eq.symm zr
  subst zr
  rw [eu20] at G
  have k22 : u12 (A (b + 41)) = some (.inr (2, [.ref (A (b + 42)), .ref (A (b + 44)), .ref (A (b + 46)), .ref (A (b + 48)), .ref (A (b + 50)), .ref (A (b + 52)), .int (cs 3 6 8), .int (cs 3 6 9), .int (cs 3 6 10), .int (cs 3 6 11), .int (cs 3 6 12)])) := hM13 41 (by omega)
  refine g_get C0 G k22 rfl hiX0 4 (by decide) mf_X8_237 rfl dX8_fall_13 ?_
  refine lv_iload_n hx hb dX8_fall_16 rfl (lv_at hl 2 rfl) ?_
  refine lv_iload_n hx hb dX8_fall_17 rfl (lv_at hl 3 rfl) ?_
  have k23 : u12 (A (b + 50)) = some (.inr (8, [.int 3, .ref (A (b + 51)), .int (cs 3 7 4)])) := hM13 50 (by omega)
  have k24 : u12 (A (b + 51)) = some (.inl (cy 0, 33, .inl (cs 3 4))) := hM13 51 (by omega)
  refine g_cI C0 G (g_runS C0 G (rest := []) (c_X8_tableNumberY hfl (n := 33) (cols := 3) (rows := (cs 3 7 4)) (g := (cs 3 4)) kn what k23 k24 w0 w1 (by omega)) hY_X8_tableNumber mm_X8_233 ms_X8_tableNumber ⟨(Nat.le_of_ble_eq_true rfl), (Nat.le_of_ble_eq_true rfl)⟩ rfl hl.1 rfl (Nat.le_of_ble_eq_true rfl) dX8_fall_18 ⟨(Nat.le_of_ble_eq_true rfl), (Nat.le_of_ble_eq_true rfl)⟩) (kx_no rfl) (fun r27 u26 H locs hp25 G => ?_)
  obtain ⟨er28, eu26⟩ := hp25
  rw [eu26] at G
  refine lv_topv (v := (tget 3 (cs 3 7 4) 33 (cs 3 4) kn what)) er28 ?_
  exact g_iret C0 G hr dX8_fall_21 (Nat.le_of_ble_eq_true rfl) (Nat.le_of_ble_eq_true rfl) (by exact ⟨(by rw [X8_fallY3_r0]), hM13, (fun a9 e9 h7 h8 => fr14 _ _ (by simp) (h8))⟩)
set_option maxRecDepth 100000 in
theorem c_X8_result {l : Launch} (hfl : l.stackTraces = false) {D : va_G} {cy : Nat → ClassId} {f : Hf} {sz : Nat} {x : Nat} {A : Nat → Nat} {b : Nat} {b2 : Nat} {lg : Nat} {lg_o : Nat} {tx : Nat} {rz : Nat} {ro : Nat} {xea : Int32} {xra : Int32} {xkr : Int32} {q : Nat → Option Nat} {cm : Nat → Int32} {cs : Nat → Nat → Nat → Int32} (h_x : f x = some (.inr (10, [.ref (A (b + 0)), .ref (A (b2 + 0)), .ref lg, .ref lg_o, .ref tx, .ref rz, .ref ro, .int xea, .int xra, .int xkr]))) (hAj : ∀ i j : Nat, i ≠ j → A i ≠ A j) (hM : MW A b cy q cm cs f) (hQ : HQ A b q) (hPX : cm 0 = 0 ∨ PP cm cs) : hMet l yX8_result cX8_result 1 (some .int) { frames := 4, cells := 0, slots := 0, locals := 87 } D (hTy cy) f sz [.ref x] (hQi (fun r u => r = (ocR cm cs) ∧ MW A b cy q cm cs u ∧ hFrL f u []) D f sz) hNo := by
  refine h_enter (by decide) hfl (Nat.le_of_ble_eq_true rfl) ?_
  intro p9 e9 s9 m9 b9 t9 c9 hsz C0 hr hnm G ls hl
  have hx := C0.1.1
  have hb := C0.1.2.1
  have hl : lv_has ls 1 [(0, .ref x)] := hl
  refine lv_aload_n hx hb dX8_result_0 rfl (lv_at hl 0 rfl) ?_
  refine g_get C0 G h_x rfl hiX8 0 (by decide) mf_X8_10 rfl dX8_result_1 ?_
  have k11 : f (A (b + 0)) = some (.inr (4, [.ref (A (b + 1)), .int (cm 0), .int (cm 1), .int (cm 2), .int (cm 3), .int (cm 4)])) := hM 0 (by omega)
  refine g_cI C0 G (g_runV C0 G (rest := []) (u_X2_outcomeU hfl hM hAj hQ hPX) k11 rfl hY_X2_outcome mm_X8_265 mi_X2_outcome ml_X2_outcome ⟨(Nat.le_of_ble_eq_true rfl), (Nat.le_of_ble_eq_true rfl)⟩ rfl hl.1 rfl (Nat.le_of_ble_eq_true rfl) dX8_result_4 ⟨(Nat.le_of_ble_eq_true rfl), (Nat.le_of_ble_eq_true rfl)⟩) (kx_no rfl) (fun r14 u13 H locs hp12 G => ?_)
  obtain ⟨er15, eu13⟩ := hp12
  rw [eu13] at G
  refine lv_topv (v := (ocR cm cs)) er15 ?_
  exact g_iret C0 G hr dX8_result_7 (Nat.le_of_ble_eq_true rfl) (Nat.le_of_ble_eq_true rfl) (by exact ⟨rfl, hM, (fun a9 e9 h7 h8 => h8)⟩)
set_option maxRecDepth 100000 in
theorem c_X8_neededN {l : Launch} (hfl : l.stackTraces = false) {D : va_G} {cy : Nat → ClassId} {f : Hf} {sz : Nat} {x : Nat} {lg : Nat} {sa : Nat} {ea : Nat} {A : Nat → Nat} {b : Nat} {b2 : Nat} {lg_o : Nat} {tx : Nat} {rz : Nat} {ro : Nat} {xea : Int32} {xra : Int32} {xkr : Int32} {no : Nat} {lo : Int32} {le : Int32} {lfi : Int32} {nS : Nat} {nC : Nat} {lun : Int32} {qs : Nat → Option Nat} {ge : Nat → Int32} (tg : Int32) (h_x : f x = some (.inr (10, [.ref (A (b + 0)), .ref (A (b2 + 0)), .ref lg, .ref lg_o, .ref tx, .ref rz, .ref ro, .int xea, .int xra, .int xkr]))) (h_lg : f lg = some (.inr (3, [.ref no, .ref sa, .ref ea, .int lo, .int le, .int lfi, .int (nI nS), .int (nI nC), .int lun]))) (h_sa : f sa = some (.inl (cy 4, 512, .inr (.inr (.inr (.inr qs)))))) (h_ea : f ea = some (.inl (cy 0, 512, .inl ge))) (v1 : (X1_hasMatch_x0 le) = 0) : hMet l yX8_needed cX8_needed 3 (some .int) { frames := 7, cells := 1, slots := 6, locals := 102 } D (hTy cy) f sz [.ref x, .int tg] (hQi (fun r u => False) D f sz) (fun E u => E = "java/lang/IllegalStateException" ∧ u x = some (.inr (10, [.ref (A (b + 0)), .ref (A (b2 + 0)), .ref lg, .ref lg_o, .ref tx, .ref rz, .ref ro, .int xea, .int xra, .int 1])) ∧ hFrL f u [x]) := by
  refine h_enter (by decide) hfl (Nat.le_of_ble_eq_true rfl) ?_
  intro p9 e9 s9 m9 b9 t9 c9 hsz C0 hr hnm G ls hl
  have hx := C0.1.1
  have hb := C0.1.2.1
  have hl : lv_has ls 3 [(0, .ref x), (1, .int tg)] := hl
  refine lv_aload_n hx hb dX8_needed_0 rfl (lv_at hl 0 rfl) ?_
  exact g_cV C0 G (g_runV C0 G (rest := []) (c_X8_demandMatchN hfl (A := A) (b := b) (b2 := b2) (xea := xea) (xra := xra) (xkr := xkr) (lo := lo) (le := le) (lfi := lfi) (nS := nS) (nC := nC) (lun := lun) (qs := qs) (ge := ge) h_x h_lg h_sa h_ea v1) h_x rfl hY_X8_demandMatch mm_X8_194 mi_X8_demandMatch ml_X8_demandMatch ⟨(Nat.le_of_ble_eq_true rfl), (Nat.le_of_ble_eq_true rfl)⟩ rfl hl.1 rfl (Nat.le_of_ble_eq_true rfl) dX8_needed_1 ⟨(Nat.le_of_ble_eq_true rfl), (Nat.le_of_ble_eq_true rfl)⟩) (kx_out C0 (Nat.le_of_ble_eq_true rfl) (Nat.le_of_ble_eq_true rfl) (fun E9 u9 h9 => by
      obtain ⟨hE9, k11, fr12⟩ := h9
      exact ⟨hE9, k11, (fun a9 e9 h7 h8 => fr12 _ _ (fun q => h7 (by simp only [List.mem_cons, List.not_mem_nil, or_false] at q ⊢; first | exact q | (rcases q with q <;> simp [q]) | omega)) (h8))⟩)) (fun _ _ _ h9 _ => (h9).elim)
set_option maxRecDepth 100000 in
theorem c_X8_neededL {l : Launch} (hfl : l.stackTraces = false) {D : va_G} {cy : Nat → ClassId} {f : Hf} {sz : Nat} {x : Nat} {lg : Nat} {sa : Nat} {ea : Nat} {A : Nat → Nat} {b : Nat} {b2 : Nat} {lg_o : Nat} {tx : Nat} {rz : Nat} {ro : Nat} {xea : Int32} {xra : Int32} {xkr : Int32} {no : Nat} {lo : Int32} {le : Int32} {lfi : Int32} {nS : Nat} {nC : Nat} {lun : Int32} {qs : Nat → Option Nat} {ge : Nat → Int32} {q : Nat → Option Nat} {cm : Nat → Int32} {cs : Nat → Nat → Nat → Int32} (tg : Int32) (h_x : f x = some (.inr (10, [.ref (A (b + 0)), .ref (A (b2 + 0)), .ref lg, .ref lg_o, .ref tx, .ref rz, .ref ro, .int xea, .int xra, .int xkr]))) (h_lg : f lg = some (.inr (3, [.ref no, .ref sa, .ref ea, .int lo, .int le, .int lfi, .int (nI nS), .int (nI nC), .int lun]))) (h_sa : f sa = some (.inl (cy 4, 512, .inr (.inr (.inr (.inr qs)))))) (h_ea : f ea = some (.inl (cy 0, 512, .inl ge))) (hAj : ∀ i j : Nat, i ≠ j → A i ≠ A j) (hM : MW A b cy q cm cs f) (hQ : HQ A b q) (n_sa : sa ∉ MA A b) (n_ea : ea ∉ MA A b) (v1 : ¬ (X1_hasMatch_x0 le) = 0) (v2 : (X2_isLastPlayed_x0 (cm 2) (cm 4)) = 0) : hMet l yX8_needed cX8_needed 3 (some .int) { frames := 6, cells := 1, slots := 6, locals := 82 } D (hTy cy) f sz [.ref x, .int tg] (hQi (fun r u => False) D f sz) (fun E u => E = "java/util/NoSuchElementException" ∧ MW A b cy q cm cs u ∧ hFrL f u []) := by
  refine h_enter (by decide) hfl (Nat.le_of_ble_eq_true rfl) ?_
  intro p9 e9 s9 m9 b9 t9 c9 hsz C0 hr hnm G ls hl
  have hx := C0.1.1
  have hb := C0.1.2.1
  have hl : lv_has ls 3 [(0, .ref x), (1, .int tg)] := hl
  refine lv_aload_n hx hb dX8_needed_0 rfl (lv_at hl 0 rfl) ?_
  refine g_cV C0 G (g_runV C0 G (rest := []) (c_X8_demandMatchO hfl (A := A) (b := b) (b2 := b2) (xea := xea) (xra := xra) (xkr := xkr) (lo := lo) (le := le) (lfi := lfi) (nS := nS) (nC := nC) (lun := lun) (qs := qs) (ge := ge) h_x h_lg h_sa h_ea v1) h_x rfl hY_X8_demandMatch mm_X8_194 mi_X8_demandMatch ml_X8_demandMatch ⟨(Nat.le_of_ble_eq_true rfl), (Nat.le_of_ble_eq_true rfl)⟩ rfl hl.1 rfl (Nat.le_of_ble_eq_true rfl) dX8_needed_1 ⟨(Nat.le_of_ble_eq_true rfl), (Nat.le_of_ble_eq_true rfl)⟩) (kx_no rfl) (fun u12 H locs hp11 G => ?_)
  have eu12 := hp11
  rw [eu12] at G
  refine lv_aload_n hx hb dX8_needed_4 rfl (lv_at hl 0 rfl) ?_
  refine g_get C0 G h_x rfl hiX8 0 (by decide) mf_X8_10 rfl dX8_needed_5 ?_
  have k13 : f (A (b + 0)) = some (.inr (4, [.ref (A (b + 1)), .int (cm 0), .int (cm 1), .int (cm 2), .int (cm 3), .int (cm 4)])) := hM 0 (by omega)
  have k14 : f (A (b + 1)) = some (.inl (cy 3, 4, .inr (.inr (.inr (.inr q))))) := hM 1 (by omega)
  refine g_cI C0 G (g_runV C0 G (rest := []) (c_X2_isLastPlayed hfl (A := A) (b := b) (ex := (cm 0)) (ov := (cm 1)) (ie := (cm 2)) (fi := (cm 3)) (nu := (cm 4)) (q := q) k13 k14 hAj hQ.1 hQ.2.1 hQ.2.2.1 hQ.2.2.2) k13 rfl hY_X2_isLastPlayed mm_X8_248 mi_X2_isLastPlayed ml_X2_isLastPlayed ⟨(Nat.le_of_ble_eq_true rfl), (Nat.le_of_ble_eq_true rfl)⟩ rfl hl.1 rfl (Nat.le_of_ble_eq_true rfl) dX8_needed_8 ⟨(Nat.le_of_ble_eq_true rfl), (Nat.le_of_ble_eq_true rfl)⟩) (kx_no rfl) (fun r17 u16 H locs hp15 G => ?_)
  obtain ⟨er18, eu16⟩ := hp15
  rw [eu16] at G
  refine lv_topv (v := (X2_isLastPlayed_x0 (cm 2) (cm 4))) er18 ?_
  refine lv_if_ne (tgt := 24) hx hb dX8_needed_11 (by decide) (fun c19 => absurd (v2) c19) (fun _ => ?_)
  exact g_throwN C0 G mk_X8_185 mz_java_util_NoSuchElementException (is := 251) (text := "the last innings has not begun") (by decide) hl.1 dX8_needed_14 dX8_needed_17 ⟨dX8_needed_18, dX8_needed_20, dX8_needed_23⟩ ⟨(Nat.le_of_ble_eq_true rfl), (Nat.le_of_ble_eq_true rfl)⟩ ⟨(Nat.le_of_ble_eq_true rfl), (Nat.le_of_ble_eq_true rfl)⟩ (Nat.le_of_ble_eq_true rfl) (Nat.le_of_ble_eq_true rfl) (by exact ⟨rfl, hM, (fun a9 e9 h7 h8 => h8)⟩)
def X8_needed11_x0 (cs : Nat → Nat → Nat → Int32) (tg : Int32) : Int32 := if tg = 0 then (if 0 < ((X2_target1_x0 (cs 0 6 8) (cs 0 0) (cs 1 6 8)) - (tget 8 1 8 (cs 1 0) 0 0)) then ((X2_target1_x0 (cs 0 6 8) (cs 0 0) (cs 1 6 8)) - (tget 8 1 8 (cs 1 0) 0 0)) else 0) else (X2_target1_x0 (cs 0 6 8) (cs 0 0) (cs 1 6 8))
set_option maxRecDepth 100000 in
theorem c_X8_needed11 {l : Launch} (hfl : l.stackTraces = false) {D : va_G} {cy : Nat → ClassId} {f : Hf} {sz : Nat} {x : Nat} {lg : Nat} {sa : Nat} {ea : Nat} {A : Nat → Nat} {b : Nat} {b2 : Nat} {lg_o : Nat} {tx : Nat} {rz : Nat} {ro : Nat} {xea : Int32} {xra : Int32} {xkr : Int32} {no : Nat} {lo : Int32} {le : Int32} {lfi : Int32} {nS : Nat} {nC : Nat} {lun : Int32} {qs : Nat → Option Nat} {ge : Nat → Int32} {q : Nat → Option Nat} {cm : Nat → Int32} {cs : Nat → Nat → Nat → Int32} (tg : Int32) (h_x : f x = some (.inr (10, [.ref (A (b + 0)), .ref (A (b2 + 0)), .ref lg, .ref lg_o, .ref tx, .ref rz, .ref ro, .int xea, .int xra, .int xkr]))) (h_lg : f lg = some (.inr (3, [.ref no, .ref sa, .ref ea, .int lo, .int le, .int lfi, .int (nI nS), .int (nI nC), .int lun]))) (h_sa : f sa = some (.inl (cy 4, 512, .inr (.inr (.inr (.inr qs)))))) (h_ea : f ea = some (.inl (cy 0, 512, .inl ge))) (hAj : ∀ i j : Nat, i ≠ j → A i ≠ A j) (hM : MW A b cy q cm cs f) (hQ : HQ A b q) (n_sa : sa ∉ MA A b) (n_ea : ea ∉ MA A b) (v1 : ¬ (X1_hasMatch_x0 le) = 0) (h4 : cm 4 = 1) (h2 : cm 2 = 1) (hr0 : cs 0 7 0 = 1) (hr1 : cs 1 7 0 = 1) (hb_tg : tg = 0 ∨ tg = 1) : hMet l yX8_needed cX8_needed 3 (some .int) { frames := 3, cells := 0, slots := 0, locals := 66 } D (hTy cy) f sz [.ref x, .int tg] (hQi (fun r u => r = (X8_needed11_x0 cs tg) ∧ MW A b cy q cm cs u ∧ hFrL f u []) D f sz) hNo := by
  refine h_enter (by decide) hfl (Nat.le_of_ble_eq_true rfl) ?_
  intro p9 e9 s9 m9 b9 t9 c9 hsz C0 hr hnm G ls hl
  have hx := C0.1.1
  have hb := C0.1.2.1
  have hl : lv_has ls 3 [(0, .ref x), (1, .int tg)] := hl
  refine lv_aload_n hx hb dX8_needed_0 rfl (lv_at hl 0 rfl) ?_
  refine g_cV C0 G (g_runV C0 G (rest := []) (c_X8_demandMatchO hfl (A := A) (b := b) (b2 := b2) (xea := xea) (xra := xra) (xkr := xkr) (lo := lo) (le := le) (lfi := lfi) (nS := nS) (nC := nC) (lun := lun) (qs := qs) (ge := ge) h_x h_lg h_sa h_ea v1) h_x rfl hY_X8_demandMatch mm_X8_194 mi_X8_demandMatch ml_X8_demandMatch ⟨(Nat.le_of_ble_eq_true rfl), (Nat.le_of_ble_eq_true rfl)⟩ rfl hl.1 rfl (Nat.le_of_ble_eq_true rfl) dX8_needed_1 ⟨(Nat.le_of_ble_eq_true rfl), (Nat.le_of_ble_eq_true rfl)⟩) (kx_no rfl) (fun u12 H locs hp11 G => ?_)
  have eu12 := hp11
  rw [eu12] at G
  refine lv_aload_n hx hb dX8_needed_4 rfl (lv_at hl 0 rfl) ?_
  refine g_get C0 G h_x rfl hiX8 0 (by decide) mf_X8_10 rfl dX8_needed_5 ?_
  have k13 : f (A (b + 0)) = some (.inr (4, [.ref (A (b + 1)), .int (cm 0), .int (cm 1), .int 1, .int (cm 3), .int 1])) := by have h9 : f (A (b + 0)) = some (.inr (4, [.ref (A (b + 1)), .int (cm 0), .int (cm 1), .int (cm 2), .int (cm 3), .int (cm 4)])) := hM 0 (by omega); rw [h2, h4] at h9; exact h9
  have k14 : f (A (b + 1)) = some (.inl (cy 3, 4, .inr (.inr (.inr (.inr q))))) := hM 1 (by omega)
  refine g_cI C0 G (g_runV C0 G (rest := []) (c_X2_isLastPlayed hfl (A := A) (b := b) (ex := (cm 0)) (ov := (cm 1)) (ie := 1) (fi := (cm 3)) (nu := 1) (q := q) k13 k14 hAj hQ.1 hQ.2.1 hQ.2.2.1 hQ.2.2.2) k13 rfl hY_X2_isLastPlayed mm_X8_248 mi_X2_isLastPlayed ml_X2_isLastPlayed ⟨(Nat.le_of_ble_eq_true rfl), (Nat.le_of_ble_eq_true rfl)⟩ rfl hl.1 rfl (Nat.le_of_ble_eq_true rfl) dX8_needed_8 ⟨(Nat.le_of_ble_eq_true rfl), (Nat.le_of_ble_eq_true rfl)⟩) (kx_no rfl) (fun r17 u16 H locs hp15 G => ?_)
  obtain ⟨er18, eu16⟩ := hp15
  rw [eu16] at G
  refine lv_topv (v := (X2_isLastPlayed_x0 1 1)) er18 ?_
  refine lv_topv (v := 1) (by decide) ?_
  refine lv_if_ne (tgt := 24) hx hb dX8_needed_11 (by decide) (fun _ => ?_) (fun c19 => absurd c19 (by decide))
  refine lv_aload_n hx hb dX8_needed_24 rfl (lv_at hl 0 rfl) ?_
  refine g_get C0 G h_x rfl hiX8 0 (by decide) mf_X8_10 rfl dX8_needed_25 ?_
  have k20 : f (A (b + 2)) = some (.inr (2, [.ref (A (b + 3)), .ref (A (b + 5)), .ref (A (b + 7)), .ref (A (b + 9)), .ref (A (b + 11)), .ref (A (b + 13)), .int (cs 0 6 8), .int (cs 0 6 9), .int (cs 0 6 10), .int (cs 0 6 11), .int (cs 0 6 12)])) := hM 2 (by omega)
  have k21 : f (A (b + 3)) = some (.inr (8, [.int 8, .ref (A (b + 4)), .int 1])) := by have h9 : f (A (b + 3)) = some (.inr (8, [.int 8, .ref (A (b + 4)), .int (cs 0 7 0)])) := hM 3 (by omega); rw [hr0] at h9; exact h9
  have k22 : f (A (b + 4)) = some (.inl (cy 0, 8, .inl (cs 0 0))) := hM 4 (by omega)
  have k23 : f (A (b + 15)) = some (.inr (2, [.ref (A (b + 16)), .ref (A (b + 18)), .ref (A (b + 20)), .ref (A (b + 22)), .ref (A (b + 24)), .ref (A (b + 26)), .int (cs 1 6 8), .int (cs 1 6 9), .int (cs 1 6 10), .int (cs 1 6 11), .int (cs 1 6 12)])) := hM 15 (by omega)
  refine g_cI C0 G (g_runV C0 G (rest := []) (c_X2_target1 hfl (A := A) (b := b) (ex := (cm 0)) (ov := (cm 1)) (fi := (cm 3)) (nu := 1) (q := q) (rs_a := (cs 0 6 8)) (sk_a := (cs 0 6 9)) (ot_a := (cs 0 6 10)) (ch_a := (cs 0 6 11)) (nc_a := (cs 0 6 12)) (g0_a := (cs 0 0)) (rs_b := (cs 1 6 8)) (sk_b := (cs 1 6 9)) (ot_b := (cs 1 6 10)) (ch_b := (cs 1 6 11)) (nc_b := (cs 1 6 12)) k13 k14 k20 k21 k22 k23 hAj hQ.1 hQ.2.1 hQ.2.2.1 hQ.2.2.2) k13 rfl hY_X2_target mm_X8_253 mi_X2_target ml_X2_target ⟨(Nat.le_of_ble_eq_true rfl), (Nat.le_of_ble_eq_true rfl)⟩ rfl hl.1 rfl (Nat.le_of_ble_eq_true rfl) dX8_needed_28 ⟨(Nat.le_of_ble_eq_true rfl), (Nat.le_of_ble_eq_true rfl)⟩) (kx_no rfl) (fun r26 u25 H locs hp24 G => ?_)
  obtain ⟨er27, eu25⟩ := hp24
  rw [eu25] at G
  refine lv_topv (v := (X2_target1_x0 (cs 0 6 8) (cs 0 0) (cs 1 6 8))) er27 ?_
  refine lv_istore_n (lv' := [(2, .int (X2_target1_x0 (cs 0 6 8) (cs 0 0) (cs 1 6 8))), (0, .ref x), (1, .int tg)]) hx hb dX8_needed_31 rfl hl (by decide) rfl (fun ls hl => ?_)
  refine lv_iload_n hx hb dX8_needed_32 rfl (lv_at hl 2 rfl) ?_
  have J30 : ∀ (y29 : Int32) (_ : y29 = (X8_needed11_x0 cs tg)) (H : Heap) (locs : List Loc) (ls : Array Slot), hG D (hA f sz) f s9 H locs → lv_has ls 3 [(2, .int (X2_target1_x0 (cs 0 6 8) (cs 0 0) (cs 1 6 8))), (0, .ref x), (1, .int tg)] → W p9 l e9 ({ frames := 3, cells := 0, slots := 0, locals := 66 } : Room) s9 m9 ([.ref x, .int tg] : List Value).toArray b9 t9 c9 H locs 0 0 (vx_MQ b9 (hQi (fun r u => r = (X8_needed11_x0 cs tg) ∧ MW A b cy q cm cs u ∧ hFrL f u []) D f sz) (hPx hNo D f sz) ([.ref x, .int tg] : List Value).toArray s9 0 0 (hA f sz)) (F0 m9 57 ls [.int y29]) := by
    intro y29 ey29 H locs ls G hl
    replace ey29 := Eq.symm ey29
    subst ey29
    exact g_iret C0 G hr dX8_needed_57 (Nat.le_of_ble_eq_true rfl) (Nat.le_of_ble_eq_true rfl) (by exact ⟨rfl, hM, (fun a9 e9 h7 h8 => h8)⟩)
  refine lv_if_eq (tgt := 40) hx hb dX8_needed_33 (by decide) (fun c28 => ?_) (fun c28 => ?_)
  · refine lv_iconst (v := 0) hx hb dX8_needed_40 (by decide) ?_
    refine lv_iload_n hx hb dX8_needed_41 rfl (lv_at hl 0 rfl) ?_
    refine lv_aload_n hx hb dX8_needed_42 rfl (lv_at hl 1 rfl) ?_
    refine g_get C0 G h_x rfl hiX8 0 (by decide) mf_X8_10 rfl dX8_needed_43 ?_
    refine g_cR C0 G (g_runV C0 G (rest := [.int (X2_target1_x0 (cs 0 6 8) (cs 0 0) (cs 1 6 8)), .int 0]) (c_X2_present1 hfl (A := A) (b := b) (ex := (cm 0)) (ov := (cm 1)) (ie := 1) (fi := (cm 3)) (q := q) k13 k14 hAj hQ.1 hQ.2.1 hQ.2.2.1 hQ.2.2.2) k13 rfl hY_X2_present mm_X8_256 mi_X2_present ml_X2_present ⟨(Nat.le_of_ble_eq_true rfl), (Nat.le_of_ble_eq_true rfl)⟩ rfl hl.1 rfl (Nat.le_of_ble_eq_true rfl) dX8_needed_46 ⟨(Nat.le_of_ble_eq_true rfl), (Nat.le_of_ble_eq_true rfl)⟩) (kx_no rfl) (fun a34 u33 H locs hp32 G => ?_)
    obtain ⟨zr, eu33⟩ := hp32
    replace zr := Eq.symm zr
    subst zr
    rw [eu33] at G
    refine lv_iconst (v := 0) hx hb dX8_needed_49 (by decide) ?_
    have k35 : f (A (b + 16)) = some (.inr (8, [.int 8, .ref (A (b + 17)), .int 1])) := by have h9 : f (A (b + 16)) = some (.inr (8, [.int 8, .ref (A (b + 17)), .int (cs 1 7 0)])) := hM 16 (by omega); rw [hr1] at h9; exact h9
    have k36 : f (A (b + 17)) = some (.inl (cy 0, 8, .inl (cs 1 0))) := hM 17 (by omega)
    refine g_cI C0 G (g_runV C0 G (rest := [.int (X2_target1_x0 (cs 0 6 8) (cs 0 0) (cs 1 6 8)), .int 0]) (c_X0_total hfl 0 k23 k35 k36) k23 rfl hY_X0_total mm_X8_210 mi_X0_total ml_X0_total ⟨(Nat.le_of_ble_eq_true rfl), (Nat.le_of_ble_eq_true rfl)⟩ rfl hl.1 rfl (Nat.le_of_ble_eq_true rfl) dX8_needed_50 ⟨(Nat.le_of_ble_eq_true rfl), (Nat.le_of_ble_eq_true rfl)⟩) (kx_no rfl) (fun r39 u38 H locs hp37 G => ?_)
    obtain ⟨er40, eu38⟩ := hp37
    rw [eu38] at G
    refine lv_topv (v := (tget 8 1 8 (cs 1 0) 0 0)) er40 ?_
    refine lv_isub hx hb dX8_needed_53 ?_
    refine g_max C0 mm_X8_260 hl.1 (Nat.le_of_ble_eq_true rfl) (Nat.le_of_ble_eq_true rfl) ⟨(Nat.le_of_ble_eq_true rfl), (Nat.le_of_ble_eq_true rfl)⟩ dX8_needed_54 ?_
    exact J30 (if 0 < ((X2_target1_x0 (cs 0 6 8) (cs 0 0) (cs 1 6 8)) - (tget 8 1 8 (cs 1 0) 0 0)) then ((X2_target1_x0 (cs 0 6 8) (cs 0 0) (cs 1 6 8)) - (tget 8 1 8 (cs 1 0) 0 0)) else 0) (by rw [X8_needed11_x0, if_pos c28]) _ _ _ G (lv_sub hl [0, 1, 2] rfl)
  · refine lv_iload_n hx hb dX8_needed_36 rfl (lv_at hl 0 rfl) ?_
    refine lv_goto (tgt := 57) hx hb dX8_needed_37 (by decide) ?_
    exact J30 (X2_target1_x0 (cs 0 6 8) (cs 0 0) (cs 1 6 8)) (by rw [X8_needed11_x0, if_neg c28]) _ _ _ G (lv_sub hl [0, 1, 2] rfl)
def X8_needed32_x0 (cs : Nat → Nat → Nat → Int32) (tg : Int32) : Int32 := if tg = 0 then (if 0 < ((X2_target2_r0 (cs 0 0) (cs 1 0) (cs 2 0)) - (tget 8 1 8 (cs 3 0) 0 0)) then ((X2_target2_r0 (cs 0 0) (cs 1 0) (cs 2 0)) - (tget 8 1 8 (cs 3 0) 0 0)) else 0) else (X2_target2_r0 (cs 0 0) (cs 1 0) (cs 2 0))
set_option maxRecDepth 100000 in
theorem c_X8_needed32 {l : Launch} (hfl : l.stackTraces = false) {D : va_G} {cy : Nat → ClassId} {f : Hf} {sz : Nat} {x : Nat} {lg : Nat} {sa : Nat} {ea : Nat} {A : Nat → Nat} {b : Nat} {b2 : Nat} {lg_o : Nat} {tx : Nat} {rz : Nat} {ro : Nat} {xea : Int32} {xra : Int32} {xkr : Int32} {no : Nat} {lo : Int32} {le : Int32} {lfi : Int32} {nS : Nat} {nC : Nat} {lun : Int32} {qs : Nat → Option Nat} {ge : Nat → Int32} {q : Nat → Option Nat} {cm : Nat → Int32} {cs : Nat → Nat → Nat → Int32} (tg : Int32) (h_x : f x = some (.inr (10, [.ref (A (b + 0)), .ref (A (b2 + 0)), .ref lg, .ref lg_o, .ref tx, .ref rz, .ref ro, .int xea, .int xra, .int xkr]))) (h_lg : f lg = some (.inr (3, [.ref no, .ref sa, .ref ea, .int lo, .int le, .int lfi, .int (nI nS), .int (nI nC), .int lun]))) (h_sa : f sa = some (.inl (cy 4, 512, .inr (.inr (.inr (.inr qs)))))) (h_ea : f ea = some (.inl (cy 0, 512, .inl ge))) (hAj : ∀ i j : Nat, i ≠ j → A i ≠ A j) (hM : MW A b cy q cm cs f) (hQ : HQ A b q) (n_sa : sa ∉ MA A b) (n_ea : ea ∉ MA A b) (v1 : ¬ (X1_hasMatch_x0 le) = 0) (h4 : cm 4 = 3) (h2 : cm 2 = 2) (hr0 : cs 0 7 0 = 1) (hr1 : cs 1 7 0 = 1) (hr2 : cs 2 7 0 = 1) (hr3 : cs 3 7 0 = 1) (hb_tg : tg = 0 ∨ tg = 1) : hMet l yX8_needed cX8_needed 3 (some .int) { frames := 3, cells := 0, slots := 0, locals := 66 } D (hTy cy) f sz [.ref x, .int tg] (hQi (fun r u => r = (X8_needed32_x0 cs tg) ∧ MW A b cy q cm cs u ∧ hFrL f u []) D f sz) hNo := by
  refine h_enter (by decide) hfl (Nat.le_of_ble_eq_true rfl) ?_
  intro p9 e9 s9 m9 b9 t9 c9 hsz C0 hr hnm G ls hl
  have hx := C0.1.1
  have hb := C0.1.2.1
  have hl : lv_has ls 3 [(0, .ref x), (1, .int tg)] := hl
  refine lv_aload_n hx hb dX8_needed_0 rfl (lv_at hl 0 rfl) ?_
  refine g_cV C0 G (g_runV C0 G (rest := []) (c_X8_demandMatchO hfl (A := A) (b := b) (b2 := b2) (xea := xea) (xra := xra) (xkr := xkr) (lo := lo) (le := le) (lfi := lfi) (nS := nS) (nC := nC) (lun := lun) (qs := qs) (ge := ge) h_x h_lg h_sa h_ea v1) h_x rfl hY_X8_demandMatch mm_X8_194 mi_X8_demandMatch ml_X8_demandMatch ⟨(Nat.le_of_ble_eq_true rfl), (Nat.le_of_ble_eq_true rfl)⟩ rfl hl.1 rfl (Nat.le_of_ble_eq_true rfl) dX8_needed_1 ⟨(Nat.le_of_ble_eq_true rfl), (Nat.le_of_ble_eq_true rfl)⟩) (kx_no rfl) (fun u12 H locs hp11 G => ?_)
  have eu12 := hp11
  rw [eu12] at G
  refine lv_aload_n hx hb dX8_needed_4 rfl (lv_at hl 0 rfl) ?_
  refine g_get C0 G h_x rfl hiX8 0 (by decide) mf_X8_10 rfl dX8_needed_5 ?_
  have k13 : f (A (b + 0)) = some (.inr (4, [.ref (A (b + 1)), .int (cm 0), .int (cm 1), .int 2, .int (cm 3), .int 3])) := by have h9 : f (A (b + 0)) = some (.inr (4, [.ref (A (b + 1)), .int (cm 0), .int (cm 1), .int (cm 2), .int (cm 3), .int (cm 4)])) := hM 0 (by omega); rw [h2, h4] at h9; exact h9
  have k14 : f (A (b + 1)) = some (.inl (cy 3, 4, .inr (.inr (.inr (.inr q))))) := hM 1 (by omega)
  refine g_cI C0 G (g_runV C0 G (rest := []) (c_X2_isLastPlayed hfl (A := A) (b := b) (ex := (cm 0)) (ov := (cm 1)) (ie := 2) (fi := (cm 3)) (nu := 3) (q := q) k13 k14 hAj hQ.1 hQ.2.1 hQ.2.2.1 hQ.2.2.2) k13 rfl hY_X2_isLastPlayed mm_X8_248 mi_X2_isLastPlayed ml_X2_isLastPlayed ⟨(Nat.le_of_ble_eq_true rfl), (Nat.le_of_ble_eq_true rfl)⟩ rfl hl.1 rfl (Nat.le_of_ble_eq_true rfl) dX8_needed_8 ⟨(Nat.le_of_ble_eq_true rfl), (Nat.le_of_ble_eq_true rfl)⟩) (kx_no rfl) (fun r17 u16 H locs hp15 G => ?_)
  obtain ⟨er18, eu16⟩ := hp15
  rw [eu16] at G
  refine lv_topv (v := (X2_isLastPlayed_x0 2 3)) er18 ?_
  refine lv_topv (v := 1) (by decide) ?_
  refine lv_if_ne (tgt := 24) hx hb dX8_needed_11 (by decide) (fun _ => ?_) (fun c19 => absurd c19 (by decide))
  refine lv_aload_n hx hb dX8_needed_24 rfl (lv_at hl 0 rfl) ?_
  refine g_get C0 G h_x rfl hiX8 0 (by decide) mf_X8_10 rfl dX8_needed_25 ?_
  have k20 : f (A (b + 2)) = some (.inr (2, [.ref (A (b + 3)), .ref (A (b + 5)), .ref (A (b + 7)), .ref (A (b + 9)), .ref (A (b + 11)), .ref (A (b + 13)), .int (cs 0 6 8), .int (cs 0 6 9), .int (cs 0 6 10), .int (cs 0 6 11), .int (cs 0 6 12)])) := hM 2 (by omega)
  have k21 : f (A (b + 3)) = some (.inr (8, [.int 8, .ref (A (b + 4)), .int 1])) := by have h9 : f (A (b + 3)) = some (.inr (8, [.int 8, .ref (A (b + 4)), .int (cs 0 7 0)])) := hM 3 (by omega); rw [hr0] at h9; exact h9
  have k22 : f (A (b + 4)) = some (.inl (cy 0, 8, .inl (cs 0 0))) := hM 4 (by omega)
  have k23 : f (A (b + 15)) = some (.inr (2, [.ref (A (b + 16)), .ref (A (b + 18)), .ref (A (b + 20)), .ref (A (b + 22)), .ref (A (b + 24)), .ref (A (b + 26)), .int (cs 1 6 8), .int (cs 1 6 9), .int (cs 1 6 10), .int (cs 1 6 11), .int (cs 1 6 12)])) := hM 15 (by omega)
  have k24 : f (A (b + 16)) = some (.inr (8, [.int 8, .ref (A (b + 17)), .int 1])) := by have h9 : f (A (b + 16)) = some (.inr (8, [.int 8, .ref (A (b + 17)), .int (cs 1 7 0)])) := hM 16 (by omega); rw [hr1] at h9; exact h9
  have k25 : f (A (b + 17)) = some (.inl (cy 0, 8, .inl (cs 1 0))) := hM 17 (by omega)
  have k26 : f (A (b + 28)) = some (.inr (2, [.ref (A (b + 29)), .ref (A (b + 31)), .ref (A (b + 33)), .ref (A (b + 35)), .ref (A (b + 37)), .ref (A (b + 39)), .int (cs 2 6 8), .int (cs 2 6 9), .int (cs 2 6 10), .int (cs 2 6 11), .int (cs 2 6 12)])) := hM 28 (by omega)
  have k27 : f (A (b + 29)) = some (.inr (8, [.int 8, .ref (A (b + 30)), .int 1])) := by have h9 : f (A (b + 29)) = some (.inr (8, [.int 8, .ref (A (b + 30)), .int (cs 2 7 0)])) := hM 29 (by omega); rw [hr2] at h9; exact h9
  have k28 : f (A (b + 30)) = some (.inl (cy 0, 8, .inl (cs 2 0))) := hM 30 (by omega)
  refine g_cI C0 G (g_runV C0 G (rest := []) (c_X2_target2 hfl (A := A) (b := b) (ex := (cm 0)) (ov := (cm 1)) (fi := (cm 3)) (nu := 3) (q := q) (rs_a := (cs 0 6 8)) (sk_a := (cs 0 6 9)) (ot_a := (cs 0 6 10)) (ch_a := (cs 0 6 11)) (nc_a := (cs 0 6 12)) (g0_a := (cs 0 0)) (rs_b := (cs 1 6 8)) (sk_b := (cs 1 6 9)) (ot_b := (cs 1 6 10)) (ch_b := (cs 1 6 11)) (nc_b := (cs 1 6 12)) (g0_b := (cs 1 0)) (rs_c := (cs 2 6 8)) (sk_c := (cs 2 6 9)) (ot_c := (cs 2 6 10)) (ch_c := (cs 2 6 11)) (nc_c := (cs 2 6 12)) (g0_c := (cs 2 0)) k13 k14 k20 k21 k22 k23 k24 k25 k26 k27 k28 hAj hQ.1 hQ.2.1 hQ.2.2.1 hQ.2.2.2) k13 rfl hY_X2_target mm_X8_253 mi_X2_target ml_X2_target ⟨(Nat.le_of_ble_eq_true rfl), (Nat.le_of_ble_eq_true rfl)⟩ rfl hl.1 rfl (Nat.le_of_ble_eq_true rfl) dX8_needed_28 ⟨(Nat.le_of_ble_eq_true rfl), (Nat.le_of_ble_eq_true rfl)⟩) (kx_no rfl) (fun r31 u30 H locs hp29 G => ?_)
  obtain ⟨er32, eu30⟩ := hp29
  rw [eu30] at G
  refine lv_topv (v := (X2_target2_r0 (cs 0 0) (cs 1 0) (cs 2 0))) er32 ?_
  refine lv_istore_n (lv' := [(2, .int (X2_target2_r0 (cs 0 0) (cs 1 0) (cs 2 0))), (0, .ref x), (1, .int tg)]) hx hb dX8_needed_31 rfl hl (by decide) rfl (fun ls hl => ?_)
  refine lv_iload_n hx hb dX8_needed_32 rfl (lv_at hl 2 rfl) ?_
  have J35 : ∀ (y34 : Int32) (_ : y34 = (X8_needed32_x0 cs tg)) (H : Heap) (locs : List Loc) (ls : Array Slot), hG D (hA f sz) f s9 H locs → lv_has ls 3 [(2, .int (X2_target2_r0 (cs 0 0) (cs 1 0) (cs 2 0))), (0, .ref x), (1, .int tg)] → W p9 l e9 ({ frames := 3, cells := 0, slots := 0, locals := 66 } : Room) s9 m9 ([.ref x, .int tg] : List Value).toArray b9 t9 c9 H locs 0 0 (vx_MQ b9 (hQi (fun r u => r = (X8_needed32_x0 cs tg) ∧ MW A b cy q cm cs u ∧ hFrL f u []) D f sz) (hPx hNo D f sz) ([.ref x, .int tg] : List Value).toArray s9 0 0 (hA f sz)) (F0 m9 57 ls [.int y34]) := by
    intro y34 ey34 H locs ls G hl
    replace ey34 := Eq.symm ey34
    subst ey34
    exact g_iret C0 G hr dX8_needed_57 (Nat.le_of_ble_eq_true rfl) (Nat.le_of_ble_eq_true rfl) (by exact ⟨rfl, hM, (fun a9 e9 h7 h8 => h8)⟩)
  refine lv_if_eq (tgt := 40) hx hb dX8_needed_33 (by decide) (fun c33 => ?_) (fun c33 => ?_)
  · refine lv_iconst (v := 0) hx hb dX8_needed_40 (by decide) ?_
    refine lv_iload_n hx hb dX8_needed_41 rfl (lv_at hl 0 rfl) ?_
    refine lv_aload_n hx hb dX8_needed_42 rfl (lv_at hl 1 rfl) ?_
    refine g_get C0 G h_x rfl hiX8 0 (by decide) mf_X8_10 rfl dX8_needed_43 ?_
    refine g_cR C0 G (g_runV C0 G (rest := [.int (X2_target2_r0 (cs 0 0) (cs 1 0) (cs 2 0)), .int 0]) (c_X2_present3 hfl (A := A) (b := b) (ex := (cm 0)) (ov := (cm 1)) (ie := 2) (fi := (cm 3)) (q := q) k13 k14 hAj hQ.1 hQ.2.1 hQ.2.2.1 hQ.2.2.2) k13 rfl hY_X2_present mm_X8_256 mi_X2_present ml_X2_present ⟨(Nat.le_of_ble_eq_true rfl), (Nat.le_of_ble_eq_true rfl)⟩ rfl hl.1 rfl (Nat.le_of_ble_eq_true rfl) dX8_needed_46 ⟨(Nat.le_of_ble_eq_true rfl), (Nat.le_of_ble_eq_true rfl)⟩) (kx_no rfl) (fun a39 u38 H locs hp37 G => ?_)
    obtain ⟨zr, eu38⟩ := hp37
    replace zr := Eq.symm zr
    subst zr
    rw [eu38] at G
    refine lv_iconst (v := 0) hx hb dX8_needed_49 (by decide) ?_
    have k40 : f (A (b + 41)) = some (.inr (2, [.ref (A (b + 42)), .ref (A (b + 44)), .ref (A (b + 46)), .ref (A (b + 48)), .ref (A (b + 50)), .ref (A (b + 52)), .int (cs 3 6 8), .int (cs 3 6 9), .int (cs 3 6 10), .int (cs 3 6 11), .int (cs 3 6 12)])) := hM 41 (by omega)
    have k41 : f (A (b + 42)) = some (.inr (8, [.int 8, .ref (A (b + 43)), .int 1])) := by have h9 : f (A (b + 42)) = some (.inr (8, [.int 8, .ref (A (b + 43)), .int (cs 3 7 0)])) := hM 42 (by omega); rw [hr3] at h9; exact h9
    have k42 : f (A (b + 43)) = some (.inl (cy 0, 8, .inl (cs 3 0))) := hM 43 (by omega)
    refine g_cI C0 G (g_runV C0 G (rest := [.int (X2_target2_r0 (cs 0 0) (cs 1 0) (cs 2 0)), .int 0]) (c_X0_total hfl 0 k40 k41 k42) k40 rfl hY_X0_total mm_X8_210 mi_X0_total ml_X0_total ⟨(Nat.le_of_ble_eq_true rfl), (Nat.le_of_ble_eq_true rfl)⟩ rfl hl.1 rfl (Nat.le_of_ble_eq_true rfl) dX8_needed_50 ⟨(Nat.le_of_ble_eq_true rfl), (Nat.le_of_ble_eq_true rfl)⟩) (kx_no rfl) (fun r45 u44 H locs hp43 G => ?_)
    obtain ⟨er46, eu44⟩ := hp43
    rw [eu44] at G
    refine lv_topv (v := (tget 8 1 8 (cs 3 0) 0 0)) er46 ?_
    refine lv_isub hx hb dX8_needed_53 ?_
    refine g_max C0 mm_X8_260 hl.1 (Nat.le_of_ble_eq_true rfl) (Nat.le_of_ble_eq_true rfl) ⟨(Nat.le_of_ble_eq_true rfl), (Nat.le_of_ble_eq_true rfl)⟩ dX8_needed_54 ?_
    exact J35 (if 0 < ((X2_target2_r0 (cs 0 0) (cs 1 0) (cs 2 0)) - (tget 8 1 8 (cs 3 0) 0 0)) then ((X2_target2_r0 (cs 0 0) (cs 1 0) (cs 2 0)) - (tget 8 1 8 (cs 3 0) 0 0)) else 0) (by rw [X8_needed32_x0, if_pos c33]) _ _ _ G (lv_sub hl [0, 1, 2] rfl)
  · refine lv_iload_n hx hb dX8_needed_36 rfl (lv_at hl 0 rfl) ?_
    refine lv_goto (tgt := 57) hx hb dX8_needed_37 (by decide) ?_
    exact J35 (X2_target2_r0 (cs 0 0) (cs 1 0) (cs 2 0)) (by rw [X8_needed32_x0, if_neg c33]) _ _ _ G (lv_sub hl [0, 1, 2] rfl)
set_option maxRecDepth 100000 in
theorem c_X8_runRateN {l : Launch} (hfl : l.stackTraces = false) {D : va_G} {cy : Nat → ClassId} {f : Hf} {sz : Nat} {x : Nat} {A : Nat → Nat} {b : Nat} {b2 : Nat} {lg : Nat} {lg_o : Nat} {tx : Nat} {rz : Nat} {ro : Nat} {xea : Int32} {xra : Int32} {xkr : Int32} {q : Nat → Option Nat} {cm : Nat → Int32} {cs : Nat → Nat → Nat → Int32} (inn : Int32) (h_x : f x = some (.inr (10, [.ref (A (b + 0)), .ref (A (b2 + 0)), .ref lg, .ref lg_o, .ref tx, .ref rz, .ref ro, .int xea, .int xra, .int xkr]))) (hAj : ∀ i j : Nat, i ≠ j → A i ≠ A j) (hM : MW A b cy q cm cs f) (hQ : HQ A b q) (v0 : (X2_hasBegun_x2 (cm 0) (cm 4) inn) = 0) : hMet l yX8_runRate cX8_runRate 3 (some .double) { frames := 7, cells := 1, slots := 6, locals := 103 } D (hTy cy) f sz [.ref x, .int inn] (hQd (fun r u => False) D f sz) (fun E u => E = "java/lang/IndexOutOfBoundsException" ∧ MW A b cy q cm cs u ∧ hFrL f u []) := by
  refine h_enter (by decide) hfl (Nat.le_of_ble_eq_true rfl) ?_
  intro p9 e9 s9 m9 b9 t9 c9 hsz C0 hr hnm G ls hl
  have hx := C0.1.1
  have hb := C0.1.2.1
  have hl : lv_has ls 3 [(0, .ref x), (1, .int inn)] := hl
  refine lv_aload_n hx hb dX8_runRate_0 rfl (lv_at hl 0 rfl) ?_
  refine lv_iload_n hx hb dX8_runRate_1 rfl (lv_at hl 1 rfl) ?_
  exact g_cV C0 G (g_runV C0 G (rest := []) (c_X8_demandInningsN hfl (A := A) (b := b) (b2 := b2) (xea := xea) (xra := xra) (xkr := xkr) (cm := cm) (cs := cs) inn h_x hAj hM hQ v0) h_x rfl hY_X8_demandInnings mm_X8_200 mi_X8_demandInnings ml_X8_demandInnings ⟨(Nat.le_of_ble_eq_true rfl), (Nat.le_of_ble_eq_true rfl)⟩ rfl hl.1 rfl (Nat.le_of_ble_eq_true rfl) dX8_runRate_2 ⟨(Nat.le_of_ble_eq_true rfl), (Nat.le_of_ble_eq_true rfl)⟩) (kx_out C0 (Nat.le_of_ble_eq_true rfl) (Nat.le_of_ble_eq_true rfl) (fun E9 u9 h9 => by
      obtain ⟨hE9, hM11, fr12⟩ := h9
      exact ⟨hE9, hM11, (fun a9 e9 h7 h8 => fr12 _ _ (by simp) (h8))⟩)) (fun _ _ _ h9 _ => (h9).elim)
set_option maxRecDepth 100000 in
theorem c_X8_strikeRateN1 {l : Launch} (hfl : l.stackTraces = false) {D : va_G} {cy : Nat → ClassId} {f : Hf} {sz : Nat} {x : Nat} {A : Nat → Nat} {b : Nat} {b2 : Nat} {lg : Nat} {lg_o : Nat} {tx : Nat} {rz : Nat} {ro : Nat} {xea : Int32} {xra : Int32} {xkr : Int32} {q : Nat → Option Nat} {cm : Nat → Int32} {cs : Nat → Nat → Nat → Int32} (inn : Int32) (pl : Int32) (h_x : f x = some (.inr (10, [.ref (A (b + 0)), .ref (A (b2 + 0)), .ref lg, .ref lg_o, .ref tx, .ref rz, .ref ro, .int xea, .int xra, .int xkr]))) (hAj : ∀ i j : Nat, i ≠ j → A i ≠ A j) (hM : MW A b cy q cm cs f) (hQ : HQ A b q) (v0 : (X2_hasBegun_x2 (cm 0) (cm 4) inn) = 0) : hMet l yX8_strikeRate cX8_strikeRate 5 (some .float) { frames := 7, cells := 1, slots := 6, locals := 104 } D (hTy cy) f sz [.ref x, .int inn, .int pl] (hQf (fun r u => False) D f sz) (fun E u => E = "java/lang/IndexOutOfBoundsException" ∧ MW A b cy q cm cs u ∧ hFrL f u []) := by
  refine h_enter (by decide) hfl (Nat.le_of_ble_eq_true rfl) ?_
  intro p9 e9 s9 m9 b9 t9 c9 hsz C0 hr hnm G ls hl
  have hx := C0.1.1
  have hb := C0.1.2.1
  have hl : lv_has ls 5 [(0, .ref x), (1, .int inn), (2, .int pl)] := hl
  refine lv_aload_n hx hb dX8_strikeRate_0 rfl (lv_at hl 0 rfl) ?_
  refine lv_iload_n hx hb dX8_strikeRate_1 rfl (lv_at hl 1 rfl) ?_
  refine lv_iload_n hx hb dX8_strikeRate_2 rfl (lv_at hl 2 rfl) ?_
  exact g_cV C0 G (g_runV C0 G (rest := []) (c_X8_demandPlayerN1 hfl (A := A) (b := b) (b2 := b2) (xea := xea) (xra := xra) (xkr := xkr) (cm := cm) (cs := cs) inn pl h_x hAj hM hQ v0) h_x rfl hY_X8_demandPlayer mm_X8_213 mi_X8_demandPlayer ml_X8_demandPlayer ⟨(Nat.le_of_ble_eq_true rfl), (Nat.le_of_ble_eq_true rfl)⟩ rfl hl.1 rfl (Nat.le_of_ble_eq_true rfl) dX8_strikeRate_3 ⟨(Nat.le_of_ble_eq_true rfl), (Nat.le_of_ble_eq_true rfl)⟩) (kx_out C0 (Nat.le_of_ble_eq_true rfl) (Nat.le_of_ble_eq_true rfl) (fun E9 u9 h9 => by
      obtain ⟨hE9, hM11, fr12⟩ := h9
      exact ⟨hE9, hM11, (fun a9 e9 h7 h8 => fr12 _ _ (by simp) (h8))⟩)) (fun _ _ _ h9 _ => (h9).elim)
set_option maxRecDepth 100000 in
theorem c_X8_strikeRateN2 {l : Launch} (hfl : l.stackTraces = false) {D : va_G} {cy : Nat → ClassId} {f : Hf} {sz : Nat} {x : Nat} {A : Nat → Nat} {b : Nat} {b2 : Nat} {lg : Nat} {lg_o : Nat} {tx : Nat} {rz : Nat} {ro : Nat} {xea : Int32} {xra : Int32} {xkr : Int32} {q : Nat → Option Nat} {cm : Nat → Int32} {cs : Nat → Nat → Nat → Int32} (inn : Int32) (pl : Int32) (h_x : f x = some (.inr (10, [.ref (A (b + 0)), .ref (A (b2 + 0)), .ref lg, .ref lg_o, .ref tx, .ref rz, .ref ro, .int xea, .int xra, .int xkr]))) (hAj : ∀ i j : Nat, i ≠ j → A i ≠ A j) (hM : MW A b cy q cm cs f) (hQ : HQ A b q) (v0 : ¬ (X2_hasBegun_x2 (cm 0) (cm 4) inn) = 0) (v1 : (X8_isWithin_x1 pl 0 10) = 0) : hMet l yX8_strikeRate cX8_strikeRate 5 (some .float) { frames := 7, cells := 1, slots := 6, locals := 104 } D (hTy cy) f sz [.ref x, .int inn, .int pl] (hQf (fun r u => False) D f sz) (fun E u => E = "java/lang/IndexOutOfBoundsException" ∧ MW A b cy q cm cs u ∧ hFrL f u []) := by
  refine h_enter (by decide) hfl (Nat.le_of_ble_eq_true rfl) ?_
  intro p9 e9 s9 m9 b9 t9 c9 hsz C0 hr hnm G ls hl
  have hx := C0.1.1
  have hb := C0.1.2.1
  have hl : lv_has ls 5 [(0, .ref x), (1, .int inn), (2, .int pl)] := hl
  refine lv_aload_n hx hb dX8_strikeRate_0 rfl (lv_at hl 0 rfl) ?_
  refine lv_iload_n hx hb dX8_strikeRate_1 rfl (lv_at hl 1 rfl) ?_
  refine lv_iload_n hx hb dX8_strikeRate_2 rfl (lv_at hl 2 rfl) ?_
  exact g_cV C0 G (g_runV C0 G (rest := []) (c_X8_demandPlayerN2 hfl (A := A) (b := b) (b2 := b2) (xea := xea) (xra := xra) (xkr := xkr) (cm := cm) (cs := cs) inn pl h_x hAj hM hQ v0 v1) h_x rfl hY_X8_demandPlayer mm_X8_213 mi_X8_demandPlayer ml_X8_demandPlayer ⟨(Nat.le_of_ble_eq_true rfl), (Nat.le_of_ble_eq_true rfl)⟩ rfl hl.1 rfl (Nat.le_of_ble_eq_true rfl) dX8_strikeRate_3 ⟨(Nat.le_of_ble_eq_true rfl), (Nat.le_of_ble_eq_true rfl)⟩) (kx_out C0 (Nat.le_of_ble_eq_true rfl) (Nat.le_of_ble_eq_true rfl) (fun E9 u9 h9 => by
      obtain ⟨hE9, hM11, fr12⟩ := h9
      exact ⟨hE9, hM11, (fun a9 e9 h7 h8 => fr12 _ _ (by simp) (h8))⟩)) (fun _ _ _ h9 _ => (h9).elim)
set_option maxRecDepth 100000 in
theorem c_X8_runRateZ0 {l : Launch} (hfl : l.stackTraces = false) {D : va_G} {cy : Nat → ClassId} {f : Hf} {sz : Nat} {x : Nat} {A : Nat → Nat} {b : Nat} {b2 : Nat} {lg : Nat} {lg_o : Nat} {tx : Nat} {rz : Nat} {ro : Nat} {xea : Int32} {xra : Int32} {xkr : Int32} {q : Nat → Option Nat} {cm : Nat → Int32} {cs : Nat → Nat → Nat → Int32} (h_x : f x = some (.inr (10, [.ref (A (b + 0)), .ref (A (b2 + 0)), .ref lg, .ref lg_o, .ref tx, .ref rz, .ref ro, .int xea, .int xra, .int xkr]))) (hAj : ∀ i j : Nat, i ≠ j → A i ≠ A j) (hM : MW A b cy q cm cs f) (hQ : HQ A b q) (v0 : ¬ (X2_hasBegun_x2 (cm 0) (cm 4) 0) = 0) (hr0 : cs 0 7 0 = 1) (v2 : (tget 8 1 8 (cs 0 0) 0 2) = 0) : hMet l yX8_runRate cX8_runRate 3 (some .double) { frames := 6, cells := 1, slots := 6, locals := 82 } D (hTy cy) f sz [.ref x, .int 0] (hQd (fun r u => False) D f sz) (fun E u => E = "java/lang/ArithmeticException" ∧ MW A b cy q cm cs u ∧ hFrL f u []) := by
  refine h_enter (by decide) hfl (Nat.le_of_ble_eq_true rfl) ?_
  intro p9 e9 s9 m9 b9 t9 c9 hsz C0 hr hnm G ls hl
  have hx := C0.1.1
  have hb := C0.1.2.1
  have hl : lv_has ls 3 [(0, .ref x), (1, .int 0)] := hl
  refine lv_aload_n hx hb dX8_runRate_0 rfl (lv_at hl 0 rfl) ?_
  refine lv_iload_n hx hb dX8_runRate_1 rfl (lv_at hl 1 rfl) ?_
  refine g_cV C0 G (g_runV C0 G (rest := []) (c_X8_demandInningsO hfl (A := A) (b := b) (b2 := b2) (xea := xea) (xra := xra) (xkr := xkr) (cm := cm) (cs := cs) 0 h_x hAj hM hQ v0) h_x rfl hY_X8_demandInnings mm_X8_200 mi_X8_demandInnings ml_X8_demandInnings ⟨(Nat.le_of_ble_eq_true rfl), (Nat.le_of_ble_eq_true rfl)⟩ rfl hl.1 rfl (Nat.le_of_ble_eq_true rfl) dX8_runRate_2 ⟨(Nat.le_of_ble_eq_true rfl), (Nat.le_of_ble_eq_true rfl)⟩) (kx_no rfl) (fun u12 H locs hp11 G => ?_)
  obtain ⟨hM13, fr14⟩ := hp11
  refine lv_aload_n hx hb dX8_runRate_5 rfl (lv_at hl 0 rfl) ?_
  have k16 : u12 x = some (.inr (10, [.ref (A (b + 0)), .ref (A (b2 + 0)), .ref lg, .ref lg_o, .ref tx, .ref rz, .ref ro, .int xea, .int xra, .int xkr])) := fr14 _ _ (by simp) h_x
  refine g_get C0 G k16 rfl hiX8 0 (by decide) mf_X8_10 rfl dX8_runRate_6 ?_
  refine lv_iload_n hx hb dX8_runRate_9 rfl (lv_at hl 1 rfl) ?_
  have k17 : u12 (A (b + 0)) = some (.inr (4, [.ref (A (b + 1)), .int (cm 0), .int (cm 1), .int (cm 2), .int (cm 3), .int (cm 4)])) := hM13 0 (by omega)
  have k18 : u12 (A (b + 1)) = some (.inl (cy 3, 4, .inr (.inr (.inr (.inr q))))) := hM13 1 (by omega)
  refine g_cR C0 G (g_runV C0 G (rest := []) (c_X2_at0 hfl (A := A) (b := b) (ex := (cm 0)) (ov := (cm 1)) (ie := (cm 2)) (fi := (cm 3)) (nu := (cm 4)) (q := q) k17 k18 hAj hQ.1 hQ.2.1 hQ.2.2.1 hQ.2.2.2) k17 rfl hY_X2_at mm_X8_206 mi_X2_at ml_X2_at ⟨(Nat.le_of_ble_eq_true rfl), (Nat.le_of_ble_eq_true rfl)⟩ rfl hl.1 rfl (Nat.le_of_ble_eq_true rfl) dX8_runRate_10 ⟨(Nat.le_of_ble_eq_true rfl), (Nat.le_of_ble_eq_true rfl)⟩) (kx_no rfl) (fun a21 u20 H locs hp19 G => ?_)
  obtain ⟨zr, eu20⟩ := hp19
  replace zr := Eq.symm zr
  subst zr
  rw [eu20] at G
  refine lv_iconst (v := 2) hx hb dX8_runRate_13 (by decide) ?_
  have k22 : u12 (A (b + 2)) = some (.inr (2, [.ref (A (b + 3)), .ref (A (b + 5)), .ref (A (b + 7)), .ref (A (b + 9)), .ref (A (b + 11)), .ref (A (b + 13)), .int (cs 0 6 8), .int (cs 0 6 9), .int (cs 0 6 10), .int (cs 0 6 11), .int (cs 0 6 12)])) := hM13 2 (by omega)
  have k23 : u12 (A (b + 3)) = some (.inr (8, [.int 8, .ref (A (b + 4)), .int 1])) := by have h9 : u12 (A (b + 3)) = some (.inr (8, [.int 8, .ref (A (b + 4)), .int (cs 0 7 0)])) := hM13 3 (by omega); rw [hr0] at h9; exact h9
  have k24 : u12 (A (b + 4)) = some (.inl (cy 0, 8, .inl (cs 0 0))) := hM13 4 (by omega)
  refine g_cI C0 G (g_runV C0 G (rest := []) (c_X0_total hfl 2 k22 k23 k24) k22 rfl hY_X0_total mm_X8_210 mi_X0_total ml_X0_total ⟨(Nat.le_of_ble_eq_true rfl), (Nat.le_of_ble_eq_true rfl)⟩ rfl hl.1 rfl (Nat.le_of_ble_eq_true rfl) dX8_runRate_14 ⟨(Nat.le_of_ble_eq_true rfl), (Nat.le_of_ble_eq_true rfl)⟩) (kx_no rfl) (fun r27 u26 H locs hp25 G => ?_)
  obtain ⟨er28, eu26⟩ := hp25
  rw [eu26] at G
  refine lv_topv (v := (tget 8 1 8 (cs 0 0) 0 2)) er28 ?_
  refine lv_istore_n (lv' := [(2, .int (tget 8 1 8 (cs 0 0) 0 2)), (0, .ref x), (1, .int 0)]) hx hb dX8_runRate_17 rfl hl (by decide) rfl (fun ls hl => ?_)
  refine lv_iload_n hx hb dX8_runRate_18 rfl (lv_at hl 0 rfl) ?_
  refine lv_if_ne (tgt := 33) hx hb dX8_runRate_19 (by decide) (fun c29 => absurd (v2) c29) (fun _ => ?_)
  exact g_throwW C0 G (X := "java/lang/ArithmeticException") (by decide) mk_X8_268 mz_java_lang_ArithmeticException (is := 270) (text := "no legal balls") (by decide) hat_272 hl.1 dX8_runRate_22 dX8_runRate_25 dX8_runRate_26 dX8_runRate_29 dX8_runRate_32 ⟨(Nat.le_of_ble_eq_true rfl), (Nat.le_of_ble_eq_true rfl)⟩ ⟨(Nat.le_of_ble_eq_true rfl), (Nat.le_of_ble_eq_true rfl)⟩ (Nat.le_of_ble_eq_true rfl) (Nat.le_of_ble_eq_true rfl) (by exact ⟨rfl, hM13, (fun a9 e9 h7 h8 => fr14 _ _ (by simp) (h8))⟩)
def X8_runRateY0_r0 (cs : Nat → Nat → Nat → Int32) : UInt64 := FP.ddiv (FP.i2d ((tget 8 1 8 (cs 0 0) 0 0) * 6)) (FP.i2d (tget 8 1 8 (cs 0 0) 0 2))
set_option maxRecDepth 100000 in
theorem c_X8_runRateY0 {l : Launch} (hfl : l.stackTraces = false) {D : va_G} {cy : Nat → ClassId} {f : Hf} {sz : Nat} {x : Nat} {A : Nat → Nat} {b : Nat} {b2 : Nat} {lg : Nat} {lg_o : Nat} {tx : Nat} {rz : Nat} {ro : Nat} {xea : Int32} {xra : Int32} {xkr : Int32} {q : Nat → Option Nat} {cm : Nat → Int32} {cs : Nat → Nat → Nat → Int32} (h_x : f x = some (.inr (10, [.ref (A (b + 0)), .ref (A (b2 + 0)), .ref lg, .ref lg_o, .ref tx, .ref rz, .ref ro, .int xea, .int xra, .int xkr]))) (hAj : ∀ i j : Nat, i ≠ j → A i ≠ A j) (hM : MW A b cy q cm cs f) (hQ : HQ A b q) (v0 : ¬ (X2_hasBegun_x2 (cm 0) (cm 4) 0) = 0) (hr0 : cs 0 7 0 = 1) (v2 : ¬ (tget 8 1 8 (cs 0 0) 0 2) = 0) : hMet l yX8_runRate cX8_runRate 3 (some .double) { frames := 2, cells := 0, slots := 0, locals := 45 } D (hTy cy) f sz [.ref x, .int 0] (hQd (fun r u => r = (X8_runRateY0_r0 cs) ∧ MW A b cy q cm cs u ∧ hFrL f u []) D f sz) hNo := by
  refine h_enter (by decide) hfl (Nat.le_of_ble_eq_true rfl) ?_
  intro p9 e9 s9 m9 b9 t9 c9 hsz C0 hr hnm G ls hl
  have hx := C0.1.1
  have hb := C0.1.2.1
  have hl : lv_has ls 3 [(0, .ref x), (1, .int 0)] := hl
  refine lv_aload_n hx hb dX8_runRate_0 rfl (lv_at hl 0 rfl) ?_
  refine lv_iload_n hx hb dX8_runRate_1 rfl (lv_at hl 1 rfl) ?_
  refine g_cV C0 G (g_runV C0 G (rest := []) (c_X8_demandInningsO hfl (A := A) (b := b) (b2 := b2) (xea := xea) (xra := xra) (xkr := xkr) (cm := cm) (cs := cs) 0 h_x hAj hM hQ v0) h_x rfl hY_X8_demandInnings mm_X8_200 mi_X8_demandInnings ml_X8_demandInnings ⟨(Nat.le_of_ble_eq_true rfl), (Nat.le_of_ble_eq_true rfl)⟩ rfl hl.1 rfl (Nat.le_of_ble_eq_true rfl) dX8_runRate_2 ⟨(Nat.le_of_ble_eq_true rfl), (Nat.le_of_ble_eq_true rfl)⟩) (kx_no rfl) (fun u12 H locs hp11 G => ?_)
  obtain ⟨hM13, fr14⟩ := hp11
  refine lv_aload_n hx hb dX8_runRate_5 rfl (lv_at hl 0 rfl) ?_
  have k16 : u12 x = some (.inr (10, [.ref (A (b + 0)), .ref (A (b2 + 0)), .ref lg, .ref lg_o, .ref tx, .ref rz, .ref ro, .int xea, .int xra, .int xkr])) := fr14 _ _ (by simp) h_x
  refine g_get C0 G k16 rfl hiX8 0 (by decide) mf_X8_10 rfl dX8_runRate_6 ?_
  refine lv_iload_n hx hb dX8_runRate_9 rfl (lv_at hl 1 rfl) ?_
  have k17 : u12 (A (b + 0)) = some (.inr (4, [.ref (A (b + 1)), .int (cm 0), .int (cm 1), .int (cm 2), .int (cm 3), .int (cm 4)])) := hM13 0 (by omega)
  have k18 : u12 (A (b + 1)) = some (.inl (cy 3, 4, .inr (.inr (.inr (.inr q))))) := hM13 1 (by omega)
  refine g_cR C0 G (g_runV C0 G (rest := []) (c_X2_at0 hfl (A := A) (b := b) (ex := (cm 0)) (ov := (cm 1)) (ie := (cm 2)) (fi := (cm 3)) (nu := (cm 4)) (q := q) k17 k18 hAj hQ.1 hQ.2.1 hQ.2.2.1 hQ.2.2.2) k17 rfl hY_X2_at mm_X8_206 mi_X2_at ml_X2_at ⟨(Nat.le_of_ble_eq_true rfl), (Nat.le_of_ble_eq_true rfl)⟩ rfl hl.1 rfl (Nat.le_of_ble_eq_true rfl) dX8_runRate_10 ⟨(Nat.le_of_ble_eq_true rfl), (Nat.le_of_ble_eq_true rfl)⟩) (kx_no rfl) (fun a21 u20 H locs hp19 G => ?_)
  obtain ⟨zr, eu20⟩ := hp19
  replace zr := Eq.symm zr
  subst zr
  rw [eu20] at G
  refine lv_iconst (v := 2) hx hb dX8_runRate_13 (by decide) ?_
  have k22 : u12 (A (b + 2)) = some (.inr (2, [.ref (A (b + 3)), .ref (A (b + 5)), .ref (A (b + 7)), .ref (A (b + 9)), .ref (A (b + 11)), .ref (A (b + 13)), .int (cs 0 6 8), .int (cs 0 6 9), .int (cs 0 6 10), .int (cs 0 6 11), .int (cs 0 6 12)])) := hM13 2 (by omega)
  have k23 : u12 (A (b + 3)) = some (.inr (8, [.int 8, .ref (A (b + 4)), .int 1])) := by have h9 : u12 (A (b + 3)) = some (.inr (8, [.int 8, .ref (A (b + 4)), .int (cs 0 7 0)])) := hM13 3 (by omega); rw [hr0] at h9; exact h9
  have k24 : u12 (A (b + 4)) = some (.inl (cy 0, 8, .inl (cs 0 0))) := hM13 4 (by omega)
  refine g_cI C0 G (g_runV C0 G (rest := []) (c_X0_total hfl 2 k22 k23 k24) k22 rfl hY_X0_total mm_X8_210 mi_X0_total ml_X0_total ⟨(Nat.le_of_ble_eq_true rfl), (Nat.le_of_ble_eq_true rfl)⟩ rfl hl.1 rfl (Nat.le_of_ble_eq_true rfl) dX8_runRate_14 ⟨(Nat.le_of_ble_eq_true rfl), (Nat.le_of_ble_eq_true rfl)⟩) (kx_no rfl) (fun r27 u26 H locs hp25 G => ?_)
  obtain ⟨er28, eu26⟩ := hp25
  rw [eu26] at G
  refine lv_topv (v := (tget 8 1 8 (cs 0 0) 0 2)) er28 ?_
  refine lv_istore_n (lv' := [(2, .int (tget 8 1 8 (cs 0 0) 0 2)), (0, .ref x), (1, .int 0)]) hx hb dX8_runRate_17 rfl hl (by decide) rfl (fun ls hl => ?_)
  refine lv_iload_n hx hb dX8_runRate_18 rfl (lv_at hl 0 rfl) ?_
  refine lv_if_ne (tgt := 33) hx hb dX8_runRate_19 (by decide) (fun _ => ?_) (fun c29 => absurd c29 (v2))
  refine lv_aload_n hx hb dX8_runRate_33 rfl (lv_at hl 1 rfl) ?_
  refine g_get C0 G k16 rfl hiX8 0 (by decide) mf_X8_10 rfl dX8_runRate_34 ?_
  refine lv_iload_n hx hb dX8_runRate_37 rfl (lv_at hl 2 rfl) ?_
  refine g_cR C0 G (g_runV C0 G (rest := []) (c_X2_at0 hfl (A := A) (b := b) (ex := (cm 0)) (ov := (cm 1)) (ie := (cm 2)) (fi := (cm 3)) (nu := (cm 4)) (q := q) k17 k18 hAj hQ.1 hQ.2.1 hQ.2.2.1 hQ.2.2.2) k17 rfl hY_X2_at mm_X8_206 mi_X2_at ml_X2_at ⟨(Nat.le_of_ble_eq_true rfl), (Nat.le_of_ble_eq_true rfl)⟩ rfl hl.1 rfl (Nat.le_of_ble_eq_true rfl) dX8_runRate_38 ⟨(Nat.le_of_ble_eq_true rfl), (Nat.le_of_ble_eq_true rfl)⟩) (kx_no rfl) (fun a32 u31 H locs hp30 G => ?_)
  obtain ⟨zr, eu31⟩ := hp30
  replace zr := Eq.symm zr
  subst zr
  rw [eu31] at G
  refine lv_iconst (v := 0) hx hb dX8_runRate_41 (by decide) ?_
  refine g_cI C0 G (g_runV C0 G (rest := []) (c_X0_total hfl 0 k22 k23 k24) k22 rfl hY_X0_total mm_X8_210 mi_X0_total ml_X0_total ⟨(Nat.le_of_ble_eq_true rfl), (Nat.le_of_ble_eq_true rfl)⟩ rfl hl.1 rfl (Nat.le_of_ble_eq_true rfl) dX8_runRate_42 ⟨(Nat.le_of_ble_eq_true rfl), (Nat.le_of_ble_eq_true rfl)⟩) (kx_no rfl) (fun r35 u34 H locs hp33 G => ?_)
  obtain ⟨er36, eu34⟩ := hp33
  rw [eu34] at G
  refine lv_topv (v := (tget 8 1 8 (cs 0 0) 0 0)) er36 ?_
  refine lv_bipush (v := 6) hx hb dX8_runRate_45 (by decide) ?_
  refine lv_imul hx hb dX8_runRate_47 ?_
  refine lv_i2d hx hb dX8_runRate_48 ?_
  refine lv_iload_n hx hb dX8_runRate_49 rfl (lv_at hl 0 rfl) ?_
  refine lv_i2d hx hb dX8_runRate_50 ?_
  refine lv_ddiv hx hb dX8_runRate_51 (ddiv_n _ _ v2) ?_
  exact g_dret C0 G hr dX8_runRate_52 (Nat.le_of_ble_eq_true rfl) (Nat.le_of_ble_eq_true rfl) (by exact ⟨(by rw [X8_runRateY0_r0] <;> rfl), hM13, (fun a9 e9 h7 h8 => fr14 _ _ (by simp) (h8))⟩)
set_option maxRecDepth 100000 in
theorem c_X8_strikeRateZ0 {l : Launch} (hfl : l.stackTraces = false) {D : va_G} {cy : Nat → ClassId} {f : Hf} {sz : Nat} {x : Nat} {A : Nat → Nat} {b : Nat} {b2 : Nat} {lg : Nat} {lg_o : Nat} {tx : Nat} {rz : Nat} {ro : Nat} {xea : Int32} {xra : Int32} {xkr : Int32} {q : Nat → Option Nat} {cm : Nat → Int32} {cs : Nat → Nat → Nat → Int32} (pl : Int32) (h_x : f x = some (.inr (10, [.ref (A (b + 0)), .ref (A (b2 + 0)), .ref lg, .ref lg_o, .ref tx, .ref rz, .ref ro, .int xea, .int xra, .int xkr]))) (hAj : ∀ i j : Nat, i ≠ j → A i ≠ A j) (hM : MW A b cy q cm cs f) (hQ : HQ A b q) (v0 : ¬ (X2_hasBegun_x2 (cm 0) (cm 4) 0) = 0) (v1 : ¬ (X8_isWithin_x1 pl 0 10) = 0) (hr0 : cs 0 7 1 = 11) (v2 : (tget 6 11 66 (cs 0 1) pl 1) = 0) : hMet l yX8_strikeRate cX8_strikeRate 5 (some .float) { frames := 6, cells := 1, slots := 6, locals := 82 } D (hTy cy) f sz [.ref x, .int 0, .int pl] (hQf (fun r u => False) D f sz) (fun E u => E = "java/lang/ArithmeticException" ∧ MW A b cy q cm cs u ∧ hFrL f u []) := by
  refine h_enter (by decide) hfl (Nat.le_of_ble_eq_true rfl) ?_
  intro p9 e9 s9 m9 b9 t9 c9 hsz C0 hr hnm G ls hl
  have hx := C0.1.1
  have hb := C0.1.2.1
  have hl : lv_has ls 5 [(0, .ref x), (1, .int 0), (2, .int pl)] := hl
  refine lv_aload_n hx hb dX8_strikeRate_0 rfl (lv_at hl 0 rfl) ?_
  refine lv_iload_n hx hb dX8_strikeRate_1 rfl (lv_at hl 1 rfl) ?_
  refine lv_iload_n hx hb dX8_strikeRate_2 rfl (lv_at hl 2 rfl) ?_
  refine g_cV C0 G (g_runV C0 G (rest := []) (c_X8_demandPlayerO hfl (A := A) (b := b) (b2 := b2) (xea := xea) (xra := xra) (xkr := xkr) (cm := cm) (cs := cs) 0 pl h_x hAj hM hQ v0 v1) h_x rfl hY_X8_demandPlayer mm_X8_213 mi_X8_demandPlayer ml_X8_demandPlayer ⟨(Nat.le_of_ble_eq_true rfl), (Nat.le_of_ble_eq_true rfl)⟩ rfl hl.1 rfl (Nat.le_of_ble_eq_true rfl) dX8_strikeRate_3 ⟨(Nat.le_of_ble_eq_true rfl), (Nat.le_of_ble_eq_true rfl)⟩) (kx_no rfl) (fun u12 H locs hp11 G => ?_)
  obtain ⟨hM13, fr14⟩ := hp11
  refine lv_aload_n hx hb dX8_strikeRate_6 rfl (lv_at hl 0 rfl) ?_
  have k16 : u12 x = some (.inr (10, [.ref (A (b + 0)), .ref (A (b2 + 0)), .ref lg, .ref lg_o, .ref tx, .ref rz, .ref ro, .int xea, .int xra, .int xkr])) := fr14 _ _ (by simp) h_x
  refine g_get C0 G k16 rfl hiX8 0 (by decide) mf_X8_10 rfl dX8_strikeRate_7 ?_
  refine lv_iload_n hx hb dX8_strikeRate_10 rfl (lv_at hl 1 rfl) ?_
  have k17 : u12 (A (b + 0)) = some (.inr (4, [.ref (A (b + 1)), .int (cm 0), .int (cm 1), .int (cm 2), .int (cm 3), .int (cm 4)])) := hM13 0 (by omega)
  have k18 : u12 (A (b + 1)) = some (.inl (cy 3, 4, .inr (.inr (.inr (.inr q))))) := hM13 1 (by omega)
  refine g_cR C0 G (g_runV C0 G (rest := []) (c_X2_at0 hfl (A := A) (b := b) (ex := (cm 0)) (ov := (cm 1)) (ie := (cm 2)) (fi := (cm 3)) (nu := (cm 4)) (q := q) k17 k18 hAj hQ.1 hQ.2.1 hQ.2.2.1 hQ.2.2.2) k17 rfl hY_X2_at mm_X8_206 mi_X2_at ml_X2_at ⟨(Nat.le_of_ble_eq_true rfl), (Nat.le_of_ble_eq_true rfl)⟩ rfl hl.1 rfl (Nat.le_of_ble_eq_true rfl) dX8_strikeRate_11 ⟨(Nat.le_of_ble_eq_true rfl), (Nat.le_of_ble_eq_true rfl)⟩) (kx_no rfl) (fun a21 u20 H locs hp19 G => ?_)
  obtain ⟨zr, eu20⟩ := hp19
  replace zr := Eq.symm zr
  subst zr
  rw [eu20] at G
  have k22 : u12 (A (b + 2)) = some (.inr (2, [.ref (A (b + 3)), .ref (A (b + 5)), .ref (A (b + 7)), .ref (A (b + 9)), .ref (A (b + 11)), .ref (A (b + 13)), .int (cs 0 6 8), .int (cs 0 6 9), .int (cs 0 6 10), .int (cs 0 6 11), .int (cs 0 6 12)])) := hM13 2 (by omega)
  refine g_get C0 G k22 rfl hiX0 1 (by decide) mf_X8_217 rfl dX8_strikeRate_14 ?_
  refine lv_astore_n (lv' := [(3, .ref (A (b + 5))), (0, .ref x), (1, .int 0), (2, .int pl)]) hx hb dX8_strikeRate_17 rfl hl (by decide) rfl (fun ls hl => ?_)
  refine lv_aload_n hx hb dX8_strikeRate_18 rfl (lv_at hl 0 rfl) ?_
  refine lv_iload_n hx hb dX8_strikeRate_19 rfl (lv_at hl 3 rfl) ?_
  refine lv_iconst (v := 1) hx hb dX8_strikeRate_20 (by decide) ?_
  have k23 : u12 (A (b + 5)) = some (.inr (8, [.int 6, .ref (A (b + 6)), .int 11])) := by have h9 : u12 (A (b + 5)) = some (.inr (8, [.int 6, .ref (A (b + 6)), .int (cs 0 7 1)])) := hM13 5 (by omega); rw [hr0] at h9; exact h9
  have k24 : u12 (A (b + 6)) = some (.inl (cy 0, 66, .inl (cs 0 1))) := hM13 6 (by omega)
  refine g_cI C0 G (g_runV C0 G (rest := []) (k_X6_get hfl pl 1 k23 k24 (by omega)) k23 rfl hY_X6_get mm_X8_221 mi_X6_get ml_X6_get ⟨(Nat.le_of_ble_eq_true rfl), (Nat.le_of_ble_eq_true rfl)⟩ rfl hl.1 rfl (Nat.le_of_ble_eq_true rfl) dX8_strikeRate_21 ⟨(Nat.le_of_ble_eq_true rfl), (Nat.le_of_ble_eq_true rfl)⟩) (kx_no rfl) (fun r27 u26 H locs hp25 G => ?_)
  obtain ⟨er28, eu26⟩ := hp25
  rw [eu26] at G
  refine lv_topv (v := (tget 6 11 66 (cs 0 1) pl 1)) er28 ?_
  refine lv_istore (lv' := [(4, .int (tget 6 11 66 (cs 0 1) pl 1)), (3, .ref (A (b + 5))), (0, .ref x), (1, .int 0), (2, .int pl)]) hx hb dX8_strikeRate_24 hl (by decide) rfl (fun ls hl => ?_)
  refine lv_iload hx hb dX8_strikeRate_26 (lv_at hl 0 rfl) ?_
  refine lv_if_ne (tgt := 42) hx hb dX8_strikeRate_28 (by decide) (fun c29 => absurd (v2) c29) (fun _ => ?_)
  exact g_throwW C0 G (X := "java/lang/ArithmeticException") (by decide) mk_X8_268 mz_java_lang_ArithmeticException (is := 273) (text := "no balls faced") (by decide) hat_272 hl.1 dX8_strikeRate_31 dX8_strikeRate_34 dX8_strikeRate_35 dX8_strikeRate_38 dX8_strikeRate_41 ⟨(Nat.le_of_ble_eq_true rfl), (Nat.le_of_ble_eq_true rfl)⟩ ⟨(Nat.le_of_ble_eq_true rfl), (Nat.le_of_ble_eq_true rfl)⟩ (Nat.le_of_ble_eq_true rfl) (Nat.le_of_ble_eq_true rfl) (by exact ⟨rfl, hM13, (fun a9 e9 h7 h8 => fr14 _ _ (by simp) (h8))⟩)
def X8_strikeRateY0_r0 (cs : Nat → Nat → Nat → Int32) (pl : Int32) : UInt32 := FP.fdiv (FP.i2f ((tget 6 11 66 (cs 0 1) pl 0) * 100)) (FP.i2f (tget 6 11 66 (cs 0 1) pl 1))
set_option maxRecDepth 100000 in
theorem c_X8_strikeRateY0 {l : Launch} (hfl : l.stackTraces = false) {D : va_G} {cy : Nat → ClassId} {f : Hf} {sz : Nat} {x : Nat} {A : Nat → Nat} {b : Nat} {b2 : Nat} {lg : Nat} {lg_o : Nat} {tx : Nat} {rz : Nat} {ro : Nat} {xea : Int32} {xra : Int32} {xkr : Int32} {q : Nat → Option Nat} {cm : Nat → Int32} {cs : Nat → Nat → Nat → Int32} (pl : Int32) (h_x : f x = some (.inr (10, [.ref (A (b + 0)), .ref (A (b2 + 0)), .ref lg, .ref lg_o, .ref tx, .ref rz, .ref ro, .int xea, .int xra, .int xkr]))) (hAj : ∀ i j : Nat, i ≠ j → A i ≠ A j) (hM : MW A b cy q cm cs f) (hQ : HQ A b q) (v0 : ¬ (X2_hasBegun_x2 (cm 0) (cm 4) 0) = 0) (v1 : ¬ (X8_isWithin_x1 pl 0 10) = 0) (hr0 : cs 0 7 1 = 11) (v2 : ¬ (tget 6 11 66 (cs 0 1) pl 1) = 0) : hMet l yX8_strikeRate cX8_strikeRate 5 (some .float) { frames := 3, cells := 0, slots := 0, locals := 64 } D (hTy cy) f sz [.ref x, .int 0, .int pl] (hQf (fun r u => r = (X8_strikeRateY0_r0 cs pl) ∧ MW A b cy q cm cs u ∧ hFrL f u []) D f sz) hNo := by
  refine h_enter (by decide) hfl (Nat.le_of_ble_eq_true rfl) ?_
  intro p9 e9 s9 m9 b9 t9 c9 hsz C0 hr hnm G ls hl
  have hx := C0.1.1
  have hb := C0.1.2.1
  have hl : lv_has ls 5 [(0, .ref x), (1, .int 0), (2, .int pl)] := hl
  refine lv_aload_n hx hb dX8_strikeRate_0 rfl (lv_at hl 0 rfl) ?_
  refine lv_iload_n hx hb dX8_strikeRate_1 rfl (lv_at hl 1 rfl) ?_
  refine lv_iload_n hx hb dX8_strikeRate_2 rfl (lv_at hl 2 rfl) ?_
  refine g_cV C0 G (g_runV C0 G (rest := []) (c_X8_demandPlayerO hfl (A := A) (b := b) (b2 := b2) (xea := xea) (xra := xra) (xkr := xkr) (cm := cm) (cs := cs) 0 pl h_x hAj hM hQ v0 v1) h_x rfl hY_X8_demandPlayer mm_X8_213 mi_X8_demandPlayer ml_X8_demandPlayer ⟨(Nat.le_of_ble_eq_true rfl), (Nat.le_of_ble_eq_true rfl)⟩ rfl hl.1 rfl (Nat.le_of_ble_eq_true rfl) dX8_strikeRate_3 ⟨(Nat.le_of_ble_eq_true rfl), (Nat.le_of_ble_eq_true rfl)⟩) (kx_no rfl) (fun u12 H locs hp11 G => ?_)
  obtain ⟨hM13, fr14⟩ := hp11
  refine lv_aload_n hx hb dX8_strikeRate_6 rfl (lv_at hl 0 rfl) ?_
  have k16 : u12 x = some (.inr (10, [.ref (A (b + 0)), .ref (A (b2 + 0)), .ref lg, .ref lg_o, .ref tx, .ref rz, .ref ro, .int xea, .int xra, .int xkr])) := fr14 _ _ (by simp) h_x
  refine g_get C0 G k16 rfl hiX8 0 (by decide) mf_X8_10 rfl dX8_strikeRate_7 ?_
  refine lv_iload_n hx hb dX8_strikeRate_10 rfl (lv_at hl 1 rfl) ?_
  have k17 : u12 (A (b + 0)) = some (.inr (4, [.ref (A (b + 1)), .int (cm 0), .int (cm 1), .int (cm 2), .int (cm 3), .int (cm 4)])) := hM13 0 (by omega)
  have k18 : u12 (A (b + 1)) = some (.inl (cy 3, 4, .inr (.inr (.inr (.inr q))))) := hM13 1 (by omega)
  refine g_cR C0 G (g_runV C0 G (rest := []) (c_X2_at0 hfl (A := A) (b := b) (ex := (cm 0)) (ov := (cm 1)) (ie := (cm 2)) (fi := (cm 3)) (nu := (cm 4)) (q := q) k17 k18 hAj hQ.1 hQ.2.1 hQ.2.2.1 hQ.2.2.2) k17 rfl hY_X2_at mm_X8_206 mi_X2_at ml_X2_at ⟨(Nat.le_of_ble_eq_true rfl), (Nat.le_of_ble_eq_true rfl)⟩ rfl hl.1 rfl (Nat.le_of_ble_eq_true rfl) dX8_strikeRate_11 ⟨(Nat.le_of_ble_eq_true rfl), (Nat.le_of_ble_eq_true rfl)⟩) (kx_no rfl) (fun a21 u20 H locs hp19 G => ?_)
  obtain ⟨zr, eu20⟩ := hp19
  replace zr := Eq.symm zr
  subst zr
  rw [eu20] at G
  have k22 : u12 (A (b + 2)) = some (.inr (2, [.ref (A (b + 3)), .ref (A (b + 5)), .ref (A (b + 7)), .ref (A (b + 9)), .ref (A (b + 11)), .ref (A (b + 13)), .int (cs 0 6 8), .int (cs 0 6 9), .int (cs 0 6 10), .int (cs 0 6 11), .int (cs 0 6 12)])) := hM13 2 (by omega)
  refine g_get C0 G k22 rfl hiX0 1 (by decide) mf_X8_217 rfl dX8_strikeRate_14 ?_
  refine lv_astore_n (lv' := [(3, .ref (A (b + 5))), (0, .ref x), (1, .int 0), (2, .int pl)]) hx hb dX8_strikeRate_17 rfl hl (by decide) rfl (fun ls hl => ?_)
  refine lv_aload_n hx hb dX8_strikeRate_18 rfl (lv_at hl 0 rfl) ?_
  refine lv_iload_n hx hb dX8_strikeRate_19 rfl (lv_at hl 3 rfl) ?_
  refine lv_iconst (v := 1) hx hb dX8_strikeRate_20 (by decide) ?_
  have k23 : u12 (A (b + 5)) = some (.inr (8, [.int 6, .ref (A (b + 6)), .int 11])) := by have h9 : u12 (A (b + 5)) = some (.inr (8, [.int 6, .ref (A (b + 6)), .int (cs 0 7 1)])) := hM13 5 (by omega); rw [hr0] at h9; exact h9
  have k24 : u12 (A (b + 6)) = some (.inl (cy 0, 66, .inl (cs 0 1))) := hM13 6 (by omega)
  refine g_cI C0 G (g_runV C0 G (rest := []) (k_X6_get hfl pl 1 k23 k24 (by omega)) k23 rfl hY_X6_get mm_X8_221 mi_X6_get ml_X6_get ⟨(Nat.le_of_ble_eq_true rfl), (Nat.le_of_ble_eq_true rfl)⟩ rfl hl.1 rfl (Nat.le_of_ble_eq_true rfl) dX8_strikeRate_21 ⟨(Nat.le_of_ble_eq_true rfl), (Nat.le_of_ble_eq_true rfl)⟩) (kx_no rfl) (fun r27 u26 H locs hp25 G => ?_)
  obtain ⟨er28, eu26⟩ := hp25
  rw [eu26] at G
  refine lv_topv (v := (tget 6 11 66 (cs 0 1) pl 1)) er28 ?_
  refine lv_istore (lv' := [(4, .int (tget 6 11 66 (cs 0 1) pl 1)), (3, .ref (A (b + 5))), (0, .ref x), (1, .int 0), (2, .int pl)]) hx hb dX8_strikeRate_24 hl (by decide) rfl (fun ls hl => ?_)
  refine lv_iload hx hb dX8_strikeRate_26 (lv_at hl 0 rfl) ?_
  refine lv_if_ne (tgt := 42) hx hb dX8_strikeRate_28 (by decide) (fun _ => ?_) (fun c29 => absurd c29 (v2))
  refine lv_aload_n hx hb dX8_strikeRate_42 rfl (lv_at hl 1 rfl) ?_
  refine lv_iload_n hx hb dX8_strikeRate_43 rfl (lv_at hl 4 rfl) ?_
  refine lv_iconst (v := 0) hx hb dX8_strikeRate_44 (by decide) ?_
  refine g_cI C0 G (g_runV C0 G (rest := []) (k_X6_get hfl pl 0 k23 k24 (by omega)) k23 rfl hY_X6_get mm_X8_221 mi_X6_get ml_X6_get ⟨(Nat.le_of_ble_eq_true rfl), (Nat.le_of_ble_eq_true rfl)⟩ rfl hl.1 rfl (Nat.le_of_ble_eq_true rfl) dX8_strikeRate_45 ⟨(Nat.le_of_ble_eq_true rfl), (Nat.le_of_ble_eq_true rfl)⟩) (kx_no rfl) (fun r32 u31 H locs hp30 G => ?_)
  obtain ⟨er33, eu31⟩ := hp30
  rw [eu31] at G
  refine lv_topv (v := (tget 6 11 66 (cs 0 1) pl 0)) er33 ?_
  refine lv_bipush (v := 100) hx hb dX8_strikeRate_48 (by decide) ?_
  refine lv_imul hx hb dX8_strikeRate_50 ?_
  refine lv_i2f hx hb dX8_strikeRate_51 ?_
  refine lv_iload hx hb dX8_strikeRate_52 (lv_at hl 0 rfl) ?_
  refine lv_i2f hx hb dX8_strikeRate_54 ?_
  refine lv_fdiv hx hb dX8_strikeRate_55 (fdiv_n _ _ v2) ?_
  exact g_fret C0 G hr dX8_strikeRate_56 (Nat.le_of_ble_eq_true rfl) (Nat.le_of_ble_eq_true rfl) (by exact ⟨(by rw [X8_strikeRateY0_r0] <;> rfl), hM13, (fun a9 e9 h7 h8 => fr14 _ _ (by simp) (h8))⟩)
set_option maxRecDepth 100000 in
theorem c_X8_runRateZ1 {l : Launch} (hfl : l.stackTraces = false) {D : va_G} {cy : Nat → ClassId} {f : Hf} {sz : Nat} {x : Nat} {A : Nat → Nat} {b : Nat} {b2 : Nat} {lg : Nat} {lg_o : Nat} {tx : Nat} {rz : Nat} {ro : Nat} {xea : Int32} {xra : Int32} {xkr : Int32} {q : Nat → Option Nat} {cm : Nat → Int32} {cs : Nat → Nat → Nat → Int32} (h_x : f x = some (.inr (10, [.ref (A (b + 0)), .ref (A (b2 + 0)), .ref lg, .ref lg_o, .ref tx, .ref rz, .ref ro, .int xea, .int xra, .int xkr]))) (hAj : ∀ i j : Nat, i ≠ j → A i ≠ A j) (hM : MW A b cy q cm cs f) (hQ : HQ A b q) (v0 : ¬ (X2_hasBegun_x2 (cm 0) (cm 4) 1) = 0) (hr0 : cs 1 7 0 = 1) (v2 : (tget 8 1 8 (cs 1 0) 0 2) = 0) : hMet l yX8_runRate cX8_runRate 3 (some .double) { frames := 6, cells := 1, slots := 6, locals := 82 } D (hTy cy) f sz [.ref x, .int 1] (hQd (fun r u => False) D f sz) (fun E u => E = "java/lang/ArithmeticException" ∧ MW A b cy q cm cs u ∧ hFrL f u []) := by
  refine h_enter (by decide) hfl (Nat.le_of_ble_eq_true rfl) ?_
  intro p9 e9 s9 m9 b9 t9 c9 hsz C0 hr hnm G ls hl
  have hx := C0.1.1
  have hb := C0.1.2.1
  have hl : lv_has ls 3 [(0, .ref x), (1, .int 1)] := hl
  refine lv_aload_n hx hb dX8_runRate_0 rfl (lv_at hl 0 rfl) ?_
  refine lv_iload_n hx hb dX8_runRate_1 rfl (lv_at hl 1 rfl) ?_
  refine g_cV C0 G (g_runV C0 G (rest := []) (c_X8_demandInningsO hfl (A := A) (b := b) (b2 := b2) (xea := xea) (xra := xra) (xkr := xkr) (cm := cm) (cs := cs) 1 h_x hAj hM hQ v0) h_x rfl hY_X8_demandInnings mm_X8_200 mi_X8_demandInnings ml_X8_demandInnings ⟨(Nat.le_of_ble_eq_true rfl), (Nat.le_of_ble_eq_true rfl)⟩ rfl hl.1 rfl (Nat.le_of_ble_eq_true rfl) dX8_runRate_2 ⟨(Nat.le_of_ble_eq_true rfl), (Nat.le_of_ble_eq_true rfl)⟩) (kx_no rfl) (fun u12 H locs hp11 G => ?_)
  obtain ⟨hM13, fr14⟩ := hp11
  refine lv_aload_n hx hb dX8_runRate_5 rfl (lv_at hl 0 rfl) ?_
  have k16 : u12 x = some (.inr (10, [.ref (A (b + 0)), .ref (A (b2 + 0)), .ref lg, .ref lg_o, .ref tx, .ref rz, .ref ro, .int xea, .int xra, .int xkr])) := fr14 _ _ (by simp) h_x
  refine g_get C0 G k16 rfl hiX8 0 (by decide) mf_X8_10 rfl dX8_runRate_6 ?_
  refine lv_iload_n hx hb dX8_runRate_9 rfl (lv_at hl 1 rfl) ?_
  have k17 : u12 (A (b + 0)) = some (.inr (4, [.ref (A (b + 1)), .int (cm 0), .int (cm 1), .int (cm 2), .int (cm 3), .int (cm 4)])) := hM13 0 (by omega)
  have k18 : u12 (A (b + 1)) = some (.inl (cy 3, 4, .inr (.inr (.inr (.inr q))))) := hM13 1 (by omega)
  refine g_cR C0 G (g_runV C0 G (rest := []) (c_X2_at1 hfl (A := A) (b := b) (ex := (cm 0)) (ov := (cm 1)) (ie := (cm 2)) (fi := (cm 3)) (nu := (cm 4)) (q := q) k17 k18 hAj hQ.1 hQ.2.1 hQ.2.2.1 hQ.2.2.2) k17 rfl hY_X2_at mm_X8_206 mi_X2_at ml_X2_at ⟨(Nat.le_of_ble_eq_true rfl), (Nat.le_of_ble_eq_true rfl)⟩ rfl hl.1 rfl (Nat.le_of_ble_eq_true rfl) dX8_runRate_10 ⟨(Nat.le_of_ble_eq_true rfl), (Nat.le_of_ble_eq_true rfl)⟩) (kx_no rfl) (fun a21 u20 H locs hp19 G => ?_)
  obtain ⟨zr, eu20⟩ := hp19
  replace zr := Eq.symm zr
  subst zr
  rw [eu20] at G
  refine lv_iconst (v := 2) hx hb dX8_runRate_13 (by decide) ?_
  have k22 : u12 (A (b + 15)) = some (.inr (2, [.ref (A (b + 16)), .ref (A (b + 18)), .ref (A (b + 20)), .ref (A (b + 22)), .ref (A (b + 24)), .ref (A (b + 26)), .int (cs 1 6 8), .int (cs 1 6 9), .int (cs 1 6 10), .int (cs 1 6 11), .int (cs 1 6 12)])) := hM13 15 (by omega)
  have k23 : u12 (A (b + 16)) = some (.inr (8, [.int 8, .ref (A (b + 17)), .int 1])) := by have h9 : u12 (A (b + 16)) = some (.inr (8, [.int 8, .ref (A (b + 17)), .int (cs 1 7 0)])) := hM13 16 (by omega); rw [hr0] at h9; exact h9
  have k24 : u12 (A (b + 17)) = some (.inl (cy 0, 8, .inl (cs 1 0))) := hM13 17 (by omega)
  refine g_cI C0 G (g_runV C0 G (rest := []) (c_X0_total hfl 2 k22 k23 k24) k22 rfl hY_X0_total mm_X8_210 mi_X0_total ml_X0_total ⟨(Nat.le_of_ble_eq_true rfl), (Nat.le_of_ble_eq_true rfl)⟩ rfl hl.1 rfl (Nat.le_of_ble_eq_true rfl) dX8_runRate_14 ⟨(Nat.le_of_ble_eq_true rfl), (Nat.le_of_ble_eq_true rfl)⟩) (kx_no rfl) (fun r27 u26 H locs hp25 G => ?_)
  obtain ⟨er28, eu26⟩ := hp25
  rw [eu26] at G
  refine lv_topv (v := (tget 8 1 8 (cs 1 0) 0 2)) er28 ?_
  refine lv_istore_n (lv' := [(2, .int (tget 8 1 8 (cs 1 0) 0 2)), (0, .ref x), (1, .int 1)]) hx hb dX8_runRate_17 rfl hl (by decide) rfl (fun ls hl => ?_)
  refine lv_iload_n hx hb dX8_runRate_18 rfl (lv_at hl 0 rfl) ?_
  refine lv_if_ne (tgt := 33) hx hb dX8_runRate_19 (by decide) (fun c29 => absurd (v2) c29) (fun _ => ?_)
  exact g_throwW C0 G (X := "java/lang/ArithmeticException") (by decide) mk_X8_268 mz_java_lang_ArithmeticException (is := 270) (text := "no legal balls") (by decide) hat_272 hl.1 dX8_runRate_22 dX8_runRate_25 dX8_runRate_26 dX8_runRate_29 dX8_runRate_32 ⟨(Nat.le_of_ble_eq_true rfl), (Nat.le_of_ble_eq_true rfl)⟩ ⟨(Nat.le_of_ble_eq_true rfl), (Nat.le_of_ble_eq_true rfl)⟩ (Nat.le_of_ble_eq_true rfl) (Nat.le_of_ble_eq_true rfl) (by exact ⟨rfl, hM13, (fun a9 e9 h7 h8 => fr14 _ _ (by simp) (h8))⟩)
def X8_runRateY1_r0 (cs : Nat → Nat → Nat → Int32) : UInt64 := FP.ddiv (FP.i2d ((tget 8 1 8 (cs 1 0) 0 0) * 6)) (FP.i2d (tget 8 1 8 (cs 1 0) 0 2))
set_option maxRecDepth 100000 in
theorem c_X8_runRateY1 {l : Launch} (hfl : l.stackTraces = false) {D : va_G} {cy : Nat → ClassId} {f : Hf} {sz : Nat} {x : Nat} {A : Nat → Nat} {b : Nat} {b2 : Nat} {lg : Nat} {lg_o : Nat} {tx : Nat} {rz : Nat} {ro : Nat} {xea : Int32} {xra : Int32} {xkr : Int32} {q : Nat → Option Nat} {cm : Nat → Int32} {cs : Nat → Nat → Nat → Int32} (h_x : f x = some (.inr (10, [.ref (A (b + 0)), .ref (A (b2 + 0)), .ref lg, .ref lg_o, .ref tx, .ref rz, .ref ro, .int xea, .int xra, .int xkr]))) (hAj : ∀ i j : Nat, i ≠ j → A i ≠ A j) (hM : MW A b cy q cm cs f) (hQ : HQ A b q) (v0 : ¬ (X2_hasBegun_x2 (cm 0) (cm 4) 1) = 0) (hr0 : cs 1 7 0 = 1) (v2 : ¬ (tget 8 1 8 (cs 1 0) 0 2) = 0) : hMet l yX8_runRate cX8_runRate 3 (some .double) { frames := 2, cells := 0, slots := 0, locals := 45 } D (hTy cy) f sz [.ref x, .int 1] (hQd (fun r u => r = (X8_runRateY1_r0 cs) ∧ MW A b cy q cm cs u ∧ hFrL f u []) D f sz) hNo := by
  refine h_enter (by decide) hfl (Nat.le_of_ble_eq_true rfl) ?_
  intro p9 e9 s9 m9 b9 t9 c9 hsz C0 hr hnm G ls hl
  have hx := C0.1.1
  have hb := C0.1.2.1
  have hl : lv_has ls 3 [(0, .ref x), (1, .int 1)] := hl
  refine lv_aload_n hx hb dX8_runRate_0 rfl (lv_at hl 0 rfl) ?_
  refine lv_iload_n hx hb dX8_runRate_1 rfl (lv_at hl 1 rfl) ?_
  refine g_cV C0 G (g_runV C0 G (rest := []) (c_X8_demandInningsO hfl (A := A) (b := b) (b2 := b2) (xea := xea) (xra := xra) (xkr := xkr) (cm := cm) (cs := cs) 1 h_x hAj hM hQ v0) h_x rfl hY_X8_demandInnings mm_X8_200 mi_X8_demandInnings ml_X8_demandInnings ⟨(Nat.le_of_ble_eq_true rfl), (Nat.le_of_ble_eq_true rfl)⟩ rfl hl.1 rfl (Nat.le_of_ble_eq_true rfl) dX8_runRate_2 ⟨(Nat.le_of_ble_eq_true rfl), (Nat.le_of_ble_eq_true rfl)⟩) (kx_no rfl) (fun u12 H locs hp11 G => ?_)
  obtain ⟨hM13, fr14⟩ := hp11
  refine lv_aload_n hx hb dX8_runRate_5 rfl (lv_at hl 0 rfl) ?_
  have k16 : u12 x = some (.inr (10, [.ref (A (b + 0)), .ref (A (b2 + 0)), .ref lg, .ref lg_o, .ref tx, .ref rz, .ref ro, .int xea, .int xra, .int xkr])) := fr14 _ _ (by simp) h_x
  refine g_get C0 G k16 rfl hiX8 0 (by decide) mf_X8_10 rfl dX8_runRate_6 ?_
  refine lv_iload_n hx hb dX8_runRate_9 rfl (lv_at hl 1 rfl) ?_
  have k17 : u12 (A (b + 0)) = some (.inr (4, [.ref (A (b + 1)), .int (cm 0), .int (cm 1), .int (cm 2), .int (cm 3), .int (cm 4)])) := hM13 0 (by omega)
  have k18 : u12 (A (b + 1)) = some (.inl (cy 3, 4, .inr (.inr (.inr (.inr q))))) := hM13 1 (by omega)
  refine g_cR C0 G (g_runV C0 G (rest := []) (c_X2_at1 hfl (A := A) (b := b) (ex := (cm 0)) (ov := (cm 1)) (ie := (cm 2)) (fi := (cm 3)) (nu := (cm 4)) (q := q) k17 k18 hAj hQ.1 hQ.2.1 hQ.2.2.1 hQ.2.2.2) k17 rfl hY_X2_at mm_X8_206 mi_X2_at ml_X2_at ⟨(Nat.le_of_ble_eq_true rfl), (Nat.le_of_ble_eq_true rfl)⟩ rfl hl.1 rfl (Nat.le_of_ble_eq_true rfl) dX8_runRate_10 ⟨(Nat.le_of_ble_eq_true rfl), (Nat.le_of_ble_eq_true rfl)⟩) (kx_no rfl) (fun a21 u20 H locs hp19 G => ?_)
  obtain ⟨zr, eu20⟩ := hp19
  replace zr := Eq.symm zr
  subst zr
  rw [eu20] at G
  refine lv_iconst (v := 2) hx hb dX8_runRate_13 (by decide) ?_
  have k22 : u12 (A (b + 15)) = some (.inr (2, [.ref (A (b + 16)), .ref (A (b + 18)), .ref (A (b + 20)), .ref (A (b + 22)), .ref (A (b + 24)), .ref (A (b + 26)), .int (cs 1 6 8), .int (cs 1 6 9), .int (cs 1 6 10), .int (cs 1 6 11), .int (cs 1 6 12)])) := hM13 15 (by omega)
  have k23 : u12 (A (b + 16)) = some (.inr (8, [.int 8, .ref (A (b + 17)), .int 1])) := by have h9 : u12 (A (b + 16)) = some (.inr (8, [.int 8, .ref (A (b + 17)), .int (cs 1 7 0)])) := hM13 16 (by omega); rw [hr0] at h9; exact h9
  have k24 : u12 (A (b + 17)) = some (.inl (cy 0, 8, .inl (cs 1 0))) := hM13 17 (by omega)
  refine g_cI C0 G (g_runV C0 G (rest := []) (c_X0_total hfl 2 k22 k23 k24) k22 rfl hY_X0_total mm_X8_210 mi_X0_total ml_X0_total ⟨(Nat.le_of_ble_eq_true rfl), (Nat.le_of_ble_eq_true rfl)⟩ rfl hl.1 rfl (Nat.le_of_ble_eq_true rfl) dX8_runRate_14 ⟨(Nat.le_of_ble_eq_true rfl), (Nat.le_of_ble_eq_true rfl)⟩) (kx_no rfl) (fun r27 u26 H locs hp25 G => ?_)
  obtain ⟨er28, eu26⟩ := hp25
  rw [eu26] at G
  refine lv_topv (v := (tget 8 1 8 (cs 1 0) 0 2)) er28 ?_
  refine lv_istore_n (lv' := [(2, .int (tget 8 1 8 (cs 1 0) 0 2)), (0, .ref x), (1, .int 1)]) hx hb dX8_runRate_17 rfl hl (by decide) rfl (fun ls hl => ?_)
  refine lv_iload_n hx hb dX8_runRate_18 rfl (lv_at hl 0 rfl) ?_
  refine lv_if_ne (tgt := 33) hx hb dX8_runRate_19 (by decide) (fun _ => ?_) (fun c29 => absurd c29 (v2))
  refine lv_aload_n hx hb dX8_runRate_33 rfl (lv_at hl 1 rfl) ?_
  refine g_get C0 G k16 rfl hiX8 0 (by decide) mf_X8_10 rfl dX8_runRate_34 ?_
  refine lv_iload_n hx hb dX8_runRate_37 rfl (lv_at hl 2 rfl) ?_
  refine g_cR C0 G (g_runV C0 G (rest := []) (c_X2_at1 hfl (A := A) (b := b) (ex := (cm 0)) (ov := (cm 1)) (ie := (cm 2)) (fi := (cm 3)) (nu := (cm 4)) (q := q) k17 k18 hAj hQ.1 hQ.2.1 hQ.2.2.1 hQ.2.2.2) k17 rfl hY_X2_at mm_X8_206 mi_X2_at ml_X2_at ⟨(Nat.le_of_ble_eq_true rfl), (Nat.le_of_ble_eq_true rfl)⟩ rfl hl.1 rfl (Nat.le_of_ble_eq_true rfl) dX8_runRate_38 ⟨(Nat.le_of_ble_eq_true rfl), (Nat.le_of_ble_eq_true rfl)⟩) (kx_no rfl) (fun a32 u31 H locs hp30 G => ?_)
  obtain ⟨zr, eu31⟩ := hp30
  replace zr := Eq.symm zr
  subst zr
  rw [eu31] at G
  refine lv_iconst (v := 0) hx hb dX8_runRate_41 (by decide) ?_
  refine g_cI C0 G (g_runV C0 G (rest := []) (c_X0_total hfl 0 k22 k23 k24) k22 rfl hY_X0_total mm_X8_210 mi_X0_total ml_X0_total ⟨(Nat.le_of_ble_eq_true rfl), (Nat.le_of_ble_eq_true rfl)⟩ rfl hl.1 rfl (Nat.le_of_ble_eq_true rfl) dX8_runRate_42 ⟨(Nat.le_of_ble_eq_true rfl), (Nat.le_of_ble_eq_true rfl)⟩) (kx_no rfl) (fun r35 u34 H locs hp33 G => ?_)
  obtain ⟨er36, eu34⟩ := hp33
  rw [eu34] at G
  refine lv_topv (v := (tget 8 1 8 (cs 1 0) 0 0)) er36 ?_
  refine lv_bipush (v := 6) hx hb dX8_runRate_45 (by decide) ?_
  refine lv_imul hx hb dX8_runRate_47 ?_
  refine lv_i2d hx hb dX8_runRate_48 ?_
  refine lv_iload_n hx hb dX8_runRate_49 rfl (lv_at hl 0 rfl) ?_
  refine lv_i2d hx hb dX8_runRate_50 ?_
  refine lv_ddiv hx hb dX8_runRate_51 (ddiv_n _ _ v2) ?_
  exact g_dret C0 G hr dX8_runRate_52 (Nat.le_of_ble_eq_true rfl) (Nat.le_of_ble_eq_true rfl) (by exact ⟨(by rw [X8_runRateY1_r0] <;> rfl), hM13, (fun a9 e9 h7 h8 => fr14 _ _ (by simp) (h8))⟩)
set_option maxRecDepth 100000 in
theorem c_X8_strikeRateZ1 {l : Launch} (hfl : l.stackTraces = false) {D : va_G} {cy : Nat → ClassId} {f : Hf} {sz : Nat} {x : Nat} {A : Nat → Nat} {b : Nat} {b2 : Nat} {lg : Nat} {lg_o : Nat} {tx : Nat} {rz : Nat} {ro : Nat} {xea : Int32} {xra : Int32} {xkr : Int32} {q : Nat → Option Nat} {cm : Nat → Int32} {cs : Nat → Nat → Nat → Int32} (pl : Int32) (h_x : f x = some (.inr (10, [.ref (A (b + 0)), .ref (A (b2 + 0)), .ref lg, .ref lg_o, .ref tx, .ref rz, .ref ro, .int xea, .int xra, .int xkr]))) (hAj : ∀ i j : Nat, i ≠ j → A i ≠ A j) (hM : MW A b cy q cm cs f) (hQ : HQ A b q) (v0 : ¬ (X2_hasBegun_x2 (cm 0) (cm 4) 1) = 0) (v1 : ¬ (X8_isWithin_x1 pl 0 10) = 0) (hr0 : cs 1 7 1 = 11) (v2 : (tget 6 11 66 (cs 1 1) pl 1) = 0) : hMet l yX8_strikeRate cX8_strikeRate 5 (some .float) { frames := 6, cells := 1, slots := 6, locals := 82 } D (hTy cy) f sz [.ref x, .int 1, .int pl] (hQf (fun r u => False) D f sz) (fun E u => E = "java/lang/ArithmeticException" ∧ MW A b cy q cm cs u ∧ hFrL f u []) := by
  refine h_enter (by decide) hfl (Nat.le_of_ble_eq_true rfl) ?_
  intro p9 e9 s9 m9 b9 t9 c9 hsz C0 hr hnm G ls hl
  have hx := C0.1.1
  have hb := C0.1.2.1
  have hl : lv_has ls 5 [(0, .ref x), (1, .int 1), (2, .int pl)] := hl
  refine lv_aload_n hx hb dX8_strikeRate_0 rfl (lv_at hl 0 rfl) ?_
  refine lv_iload_n hx hb dX8_strikeRate_1 rfl (lv_at hl 1 rfl) ?_
  refine lv_iload_n hx hb dX8_strikeRate_2 rfl (lv_at hl 2 rfl) ?_
  refine g_cV C0 G (g_runV C0 G (rest := []) (c_X8_demandPlayerO hfl (A := A) (b := b) (b2 := b2) (xea := xea) (xra := xra) (xkr := xkr) (cm := cm) (cs := cs) 1 pl h_x hAj hM hQ v0 v1) h_x rfl hY_X8_demandPlayer mm_X8_213 mi_X8_demandPlayer ml_X8_demandPlayer ⟨(Nat.le_of_ble_eq_true rfl), (Nat.le_of_ble_eq_true rfl)⟩ rfl hl.1 rfl (Nat.le_of_ble_eq_true rfl) dX8_strikeRate_3 ⟨(Nat.le_of_ble_eq_true rfl), (Nat.le_of_ble_eq_true rfl)⟩) (kx_no rfl) (fun u12 H locs hp11 G => ?_)
  obtain ⟨hM13, fr14⟩ := hp11
  refine lv_aload_n hx hb dX8_strikeRate_6 rfl (lv_at hl 0 rfl) ?_
  have k16 : u12 x = some (.inr (10, [.ref (A (b + 0)), .ref (A (b2 + 0)), .ref lg, .ref lg_o, .ref tx, .ref rz, .ref ro, .int xea, .int xra, .int xkr])) := fr14 _ _ (by simp) h_x
  refine g_get C0 G k16 rfl hiX8 0 (by decide) mf_X8_10 rfl dX8_strikeRate_7 ?_
  refine lv_iload_n hx hb dX8_strikeRate_10 rfl (lv_at hl 1 rfl) ?_
  have k17 : u12 (A (b + 0)) = some (.inr (4, [.ref (A (b + 1)), .int (cm 0), .int (cm 1), .int (cm 2), .int (cm 3), .int (cm 4)])) := hM13 0 (by omega)
  have k18 : u12 (A (b + 1)) = some (.inl (cy 3, 4, .inr (.inr (.inr (.inr q))))) := hM13 1 (by omega)
  refine g_cR C0 G (g_runV C0 G (rest := []) (c_X2_at1 hfl (A := A) (b := b) (ex := (cm 0)) (ov := (cm 1)) (ie := (cm 2)) (fi := (cm 3)) (nu := (cm 4)) (q := q) k17 k18 hAj hQ.1 hQ.2.1 hQ.2.2.1 hQ.2.2.2) k17 rfl hY_X2_at mm_X8_206 mi_X2_at ml_X2_at ⟨(Nat.le_of_ble_eq_true rfl), (Nat.le_of_ble_eq_true rfl)⟩ rfl hl.1 rfl (Nat.le_of_ble_eq_true rfl) dX8_strikeRate_11 ⟨(Nat.le_of_ble_eq_true rfl), (Nat.le_of_ble_eq_true rfl)⟩) (kx_no rfl) (fun a21 u20 H locs hp19 G => ?_)
  obtain ⟨zr, eu20⟩ := hp19
  replace zr := Eq.symm zr
  subst zr
  rw [eu20] at G
  have k22 : u12 (A (b + 15)) = some (.inr (2, [.ref (A (b + 16)), .ref (A (b + 18)), .ref (A (b + 20)), .ref (A (b + 22)), .ref (A (b + 24)), .ref (A (b + 26)), .int (cs 1 6 8), .int (cs 1 6 9), .int (cs 1 6 10), .int (cs 1 6 11), .int (cs 1 6 12)])) := hM13 15 (by omega)
  refine g_get C0 G k22 rfl hiX0 1 (by decide) mf_X8_217 rfl dX8_strikeRate_14 ?_
  refine lv_astore_n (lv' := [(3, .ref (A (b + 18))), (0, .ref x), (1, .int 1), (2, .int pl)]) hx hb dX8_strikeRate_17 rfl hl (by decide) rfl (fun ls hl => ?_)
  refine lv_aload_n hx hb dX8_strikeRate_18 rfl (lv_at hl 0 rfl) ?_
  refine lv_iload_n hx hb dX8_strikeRate_19 rfl (lv_at hl 3 rfl) ?_
  refine lv_iconst (v := 1) hx hb dX8_strikeRate_20 (by decide) ?_
  have k23 : u12 (A (b + 18)) = some (.inr (8, [.int 6, .ref (A (b + 19)), .int 11])) := by have h9 : u12 (A (b + 18)) = some (.inr (8, [.int 6, .ref (A (b + 19)), .int (cs 1 7 1)])) := hM13 18 (by omega); rw [hr0] at h9; exact h9
  have k24 : u12 (A (b + 19)) = some (.inl (cy 0, 66, .inl (cs 1 1))) := hM13 19 (by omega)
  refine g_cI C0 G (g_runV C0 G (rest := []) (k_X6_get hfl pl 1 k23 k24 (by omega)) k23 rfl hY_X6_get mm_X8_221 mi_X6_get ml_X6_get ⟨(Nat.le_of_ble_eq_true rfl), (Nat.le_of_ble_eq_true rfl)⟩ rfl hl.1 rfl (Nat.le_of_ble_eq_true rfl) dX8_strikeRate_21 ⟨(Nat.le_of_ble_eq_true rfl), (Nat.le_of_ble_eq_true rfl)⟩) (kx_no rfl) (fun r27 u26 H locs hp25 G => ?_)
  obtain ⟨er28, eu26⟩ := hp25
  rw [eu26] at G
  refine lv_topv (v := (tget 6 11 66 (cs 1 1) pl 1)) er28 ?_
  refine lv_istore (lv' := [(4, .int (tget 6 11 66 (cs 1 1) pl 1)), (3, .ref (A (b + 18))), (0, .ref x), (1, .int 1), (2, .int pl)]) hx hb dX8_strikeRate_24 hl (by decide) rfl (fun ls hl => ?_)
  refine lv_iload hx hb dX8_strikeRate_26 (lv_at hl 0 rfl) ?_
  refine lv_if_ne (tgt := 42) hx hb dX8_strikeRate_28 (by decide) (fun c29 => absurd (v2) c29) (fun _ => ?_)
  exact g_throwW C0 G (X := "java/lang/ArithmeticException") (by decide) mk_X8_268 mz_java_lang_ArithmeticException (is := 273) (text := "no balls faced") (by decide) hat_272 hl.1 dX8_strikeRate_31 dX8_strikeRate_34 dX8_strikeRate_35 dX8_strikeRate_38 dX8_strikeRate_41 ⟨(Nat.le_of_ble_eq_true rfl), (Nat.le_of_ble_eq_true rfl)⟩ ⟨(Nat.le_of_ble_eq_true rfl), (Nat.le_of_ble_eq_true rfl)⟩ (Nat.le_of_ble_eq_true rfl) (Nat.le_of_ble_eq_true rfl) (by exact ⟨rfl, hM13, (fun a9 e9 h7 h8 => fr14 _ _ (by simp) (h8))⟩)
def X8_strikeRateY1_r0 (cs : Nat → Nat → Nat → Int32) (pl : Int32) : UInt32 := FP.fdiv (FP.i2f ((tget 6 11 66 (cs 1 1) pl 0) * 100)) (FP.i2f (tget 6 11 66 (cs 1 1) pl 1))
set_option maxRecDepth 100000 in
theorem c_X8_strikeRateY1 {l : Launch} (hfl : l.stackTraces = false) {D : va_G} {cy : Nat → ClassId} {f : Hf} {sz : Nat} {x : Nat} {A : Nat → Nat} {b : Nat} {b2 : Nat} {lg : Nat} {lg_o : Nat} {tx : Nat} {rz : Nat} {ro : Nat} {xea : Int32} {xra : Int32} {xkr : Int32} {q : Nat → Option Nat} {cm : Nat → Int32} {cs : Nat → Nat → Nat → Int32} (pl : Int32) (h_x : f x = some (.inr (10, [.ref (A (b + 0)), .ref (A (b2 + 0)), .ref lg, .ref lg_o, .ref tx, .ref rz, .ref ro, .int xea, .int xra, .int xkr]))) (hAj : ∀ i j : Nat, i ≠ j → A i ≠ A j) (hM : MW A b cy q cm cs f) (hQ : HQ A b q) (v0 : ¬ (X2_hasBegun_x2 (cm 0) (cm 4) 1) = 0) (v1 : ¬ (X8_isWithin_x1 pl 0 10) = 0) (hr0 : cs 1 7 1 = 11) (v2 : ¬ (tget 6 11 66 (cs 1 1) pl 1) = 0) : hMet l yX8_strikeRate cX8_strikeRate 5 (some .float) { frames := 3, cells := 0, slots := 0, locals := 64 } D (hTy cy) f sz [.ref x, .int 1, .int pl] (hQf (fun r u => r = (X8_strikeRateY1_r0 cs pl) ∧ MW A b cy q cm cs u ∧ hFrL f u []) D f sz) hNo := by
  refine h_enter (by decide) hfl (Nat.le_of_ble_eq_true rfl) ?_
  intro p9 e9 s9 m9 b9 t9 c9 hsz C0 hr hnm G ls hl
  have hx := C0.1.1
  have hb := C0.1.2.1
  have hl : lv_has ls 5 [(0, .ref x), (1, .int 1), (2, .int pl)] := hl
  refine lv_aload_n hx hb dX8_strikeRate_0 rfl (lv_at hl 0 rfl) ?_
  refine lv_iload_n hx hb dX8_strikeRate_1 rfl (lv_at hl 1 rfl) ?_
  refine lv_iload_n hx hb dX8_strikeRate_2 rfl (lv_at hl 2 rfl) ?_
  refine g_cV C0 G (g_runV C0 G (rest := []) (c_X8_demandPlayerO hfl (A := A) (b := b) (b2 := b2) (xea := xea) (xra := xra) (xkr := xkr) (cm := cm) (cs := cs) 1 pl h_x hAj hM hQ v0 v1) h_x rfl hY_X8_demandPlayer mm_X8_213 mi_X8_demandPlayer ml_X8_demandPlayer ⟨(Nat.le_of_ble_eq_true rfl), (Nat.le_of_ble_eq_true rfl)⟩ rfl hl.1 rfl (Nat.le_of_ble_eq_true rfl) dX8_strikeRate_3 ⟨(Nat.le_of_ble_eq_true rfl), (Nat.le_of_ble_eq_true rfl)⟩) (kx_no rfl) (fun u12 H locs hp11 G => ?_)
  obtain ⟨hM13, fr14⟩ := hp11
  refine lv_aload_n hx hb dX8_strikeRate_6 rfl (lv_at hl 0 rfl) ?_
  have k16 : u12 x = some (.inr (10, [.ref (A (b + 0)), .ref (A (b2 + 0)), .ref lg, .ref lg_o, .ref tx, .ref rz, .ref ro, .int xea, .int xra, .int xkr])) := fr14 _ _ (by simp) h_x
  refine g_get C0 G k16 rfl hiX8 0 (by decide) mf_X8_10 rfl dX8_strikeRate_7 ?_
  refine lv_iload_n hx hb dX8_strikeRate_10 rfl (lv_at hl 1 rfl) ?_
  have k17 : u12 (A (b + 0)) = some (.inr (4, [.ref (A (b + 1)), .int (cm 0), .int (cm 1), .int (cm 2), .int (cm 3), .int (cm 4)])) := hM13 0 (by omega)
  have k18 : u12 (A (b + 1)) = some (.inl (cy 3, 4, .inr (.inr (.inr (.inr q))))) := hM13 1 (by omega)
  refine g_cR C0 G (g_runV C0 G (rest := []) (c_X2_at1 hfl (A := A) (b := b) (ex := (cm 0)) (ov := (cm 1)) (ie := (cm 2)) (fi := (cm 3)) (nu := (cm 4)) (q := q) k17 k18 hAj hQ.1 hQ.2.1 hQ.2.2.1 hQ.2.2.2) k17 rfl hY_X2_at mm_X8_206 mi_X2_at ml_X2_at ⟨(Nat.le_of_ble_eq_true rfl), (Nat.le_of_ble_eq_true rfl)⟩ rfl hl.1 rfl (Nat.le_of_ble_eq_true rfl) dX8_strikeRate_11 ⟨(Nat.le_of_ble_eq_true rfl), (Nat.le_of_ble_eq_true rfl)⟩) (kx_no rfl) (fun a21 u20 H locs hp19 G => ?_)
  obtain ⟨zr, eu20⟩ := hp19
  replace zr := Eq.symm zr
  subst zr
  rw [eu20] at G
  have k22 : u12 (A (b + 15)) = some (.inr (2, [.ref (A (b + 16)), .ref (A (b + 18)), .ref (A (b + 20)), .ref (A (b + 22)), .ref (A (b + 24)), .ref (A (b + 26)), .int (cs 1 6 8), .int (cs 1 6 9), .int (cs 1 6 10), .int (cs 1 6 11), .int (cs 1 6 12)])) := hM13 15 (by omega)
  refine g_get C0 G k22 rfl hiX0 1 (by decide) mf_X8_217 rfl dX8_strikeRate_14 ?_
  refine lv_astore_n (lv' := [(3, .ref (A (b + 18))), (0, .ref x), (1, .int 1), (2, .int pl)]) hx hb dX8_strikeRate_17 rfl hl (by decide) rfl (fun ls hl => ?_)
  refine lv_aload_n hx hb dX8_strikeRate_18 rfl (lv_at hl 0 rfl) ?_
  refine lv_iload_n hx hb dX8_strikeRate_19 rfl (lv_at hl 3 rfl) ?_
  refine lv_iconst (v := 1) hx hb dX8_strikeRate_20 (by decide) ?_
  have k23 : u12 (A (b + 18)) = some (.inr (8, [.int 6, .ref (A (b + 19)), .int 11])) := by have h9 : u12 (A (b + 18)) = some (.inr (8, [.int 6, .ref (A (b + 19)), .int (cs 1 7 1)])) := hM13 18 (by omega); rw [hr0] at h9; exact h9
  have k24 : u12 (A (b + 19)) = some (.inl (cy 0, 66, .inl (cs 1 1))) := hM13 19 (by omega)
  refine g_cI C0 G (g_runV C0 G (rest := []) (k_X6_get hfl pl 1 k23 k24 (by omega)) k23 rfl hY_X6_get mm_X8_221 mi_X6_get ml_X6_get ⟨(Nat.le_of_ble_eq_true rfl), (Nat.le_of_ble_eq_true rfl)⟩ rfl hl.1 rfl (Nat.le_of_ble_eq_true rfl) dX8_strikeRate_21 ⟨(Nat.le_of_ble_eq_true rfl), (Nat.le_of_ble_eq_true rfl)⟩) (kx_no rfl) (fun r27 u26 H locs hp25 G => ?_)
  obtain ⟨er28, eu26⟩ := hp25
  rw [eu26] at G
  refine lv_topv (v := (tget 6 11 66 (cs 1 1) pl 1)) er28 ?_
  refine lv_istore (lv' := [(4, .int (tget 6 11 66 (cs 1 1) pl 1)), (3, .ref (A (b + 18))), (0, .ref x), (1, .int 1), (2, .int pl)]) hx hb dX8_strikeRate_24 hl (by decide) rfl (fun ls hl => ?_)
  refine lv_iload hx hb dX8_strikeRate_26 (lv_at hl 0 rfl) ?_
  refine lv_if_ne (tgt := 42) hx hb dX8_strikeRate_28 (by decide) (fun _ => ?_) (fun c29 => absurd c29 (v2))
  refine lv_aload_n hx hb dX8_strikeRate_42 rfl (lv_at hl 1 rfl) ?_
  refine lv_iload_n hx hb dX8_strikeRate_43 rfl (lv_at hl 4 rfl) ?_
  refine lv_iconst (v := 0) hx hb dX8_strikeRate_44 (by decide) ?_
  refine g_cI C0 G (g_runV C0 G (rest := []) (k_X6_get hfl pl 0 k23 k24 (by omega)) k23 rfl hY_X6_get mm_X8_221 mi_X6_get ml_X6_get ⟨(Nat.le_of_ble_eq_true rfl), (Nat.le_of_ble_eq_true rfl)⟩ rfl hl.1 rfl (Nat.le_of_ble_eq_true rfl) dX8_strikeRate_45 ⟨(Nat.le_of_ble_eq_true rfl), (Nat.le_of_ble_eq_true rfl)⟩) (kx_no rfl) (fun r32 u31 H locs hp30 G => ?_)
  obtain ⟨er33, eu31⟩ := hp30
  rw [eu31] at G
  refine lv_topv (v := (tget 6 11 66 (cs 1 1) pl 0)) er33 ?_
  refine lv_bipush (v := 100) hx hb dX8_strikeRate_48 (by decide) ?_
  refine lv_imul hx hb dX8_strikeRate_50 ?_
  refine lv_i2f hx hb dX8_strikeRate_51 ?_
  refine lv_iload hx hb dX8_strikeRate_52 (lv_at hl 0 rfl) ?_
  refine lv_i2f hx hb dX8_strikeRate_54 ?_
  refine lv_fdiv hx hb dX8_strikeRate_55 (fdiv_n _ _ v2) ?_
  exact g_fret C0 G hr dX8_strikeRate_56 (Nat.le_of_ble_eq_true rfl) (Nat.le_of_ble_eq_true rfl) (by exact ⟨(by rw [X8_strikeRateY1_r0] <;> rfl), hM13, (fun a9 e9 h7 h8 => fr14 _ _ (by simp) (h8))⟩)
set_option maxRecDepth 100000 in
theorem c_X8_runRateZ2 {l : Launch} (hfl : l.stackTraces = false) {D : va_G} {cy : Nat → ClassId} {f : Hf} {sz : Nat} {x : Nat} {A : Nat → Nat} {b : Nat} {b2 : Nat} {lg : Nat} {lg_o : Nat} {tx : Nat} {rz : Nat} {ro : Nat} {xea : Int32} {xra : Int32} {xkr : Int32} {q : Nat → Option Nat} {cm : Nat → Int32} {cs : Nat → Nat → Nat → Int32} (h_x : f x = some (.inr (10, [.ref (A (b + 0)), .ref (A (b2 + 0)), .ref lg, .ref lg_o, .ref tx, .ref rz, .ref ro, .int xea, .int xra, .int xkr]))) (hAj : ∀ i j : Nat, i ≠ j → A i ≠ A j) (hM : MW A b cy q cm cs f) (hQ : HQ A b q) (v0 : ¬ (X2_hasBegun_x2 (cm 0) (cm 4) 2) = 0) (hr0 : cs 2 7 0 = 1) (v2 : (tget 8 1 8 (cs 2 0) 0 2) = 0) : hMet l yX8_runRate cX8_runRate 3 (some .double) { frames := 6, cells := 1, slots := 6, locals := 82 } D (hTy cy) f sz [.ref x, .int 2] (hQd (fun r u => False) D f sz) (fun E u => E = "java/lang/ArithmeticException" ∧ MW A b cy q cm cs u ∧ hFrL f u []) := by
  refine h_enter (by decide) hfl (Nat.le_of_ble_eq_true rfl) ?_
  intro p9 e9 s9 m9 b9 t9 c9 hsz C0 hr hnm G ls hl
  have hx := C0.1.1
  have hb := C0.1.2.1
  have hl : lv_has ls 3 [(0, .ref x), (1, .int 2)] := hl
  refine lv_aload_n hx hb dX8_runRate_0 rfl (lv_at hl 0 rfl) ?_
  refine lv_iload_n hx hb dX8_runRate_1 rfl (lv_at hl 1 rfl) ?_
  refine g_cV C0 G (g_runV C0 G (rest := []) (c_X8_demandInningsO hfl (A := A) (b := b) (b2 := b2) (xea := xea) (xra := xra) (xkr := xkr) (cm := cm) (cs := cs) 2 h_x hAj hM hQ v0) h_x rfl hY_X8_demandInnings mm_X8_200 mi_X8_demandInnings ml_X8_demandInnings ⟨(Nat.le_of_ble_eq_true rfl), (Nat.le_of_ble_eq_true rfl)⟩ rfl hl.1 rfl (Nat.le_of_ble_eq_true rfl) dX8_runRate_2 ⟨(Nat.le_of_ble_eq_true rfl), (Nat.le_of_ble_eq_true rfl)⟩) (kx_no rfl) (fun u12 H locs hp11 G => ?_)
  obtain ⟨hM13, fr14⟩ := hp11
  refine lv_aload_n hx hb dX8_runRate_5 rfl (lv_at hl 0 rfl) ?_
  have k16 : u12 x = some (.inr (10, [.ref (A (b + 0)), .ref (A (b2 + 0)), .ref lg, .ref lg_o, .ref tx, .ref rz, .ref ro, .int xea, .int xra, .int xkr])) := fr14 _ _ (by simp) h_x
  refine g_get C0 G k16 rfl hiX8 0 (by decide) mf_X8_10 rfl dX8_runRate_6 ?_
  refine lv_iload_n hx hb dX8_runRate_9 rfl (lv_at hl 1 rfl) ?_
  have k17 : u12 (A (b + 0)) = some (.inr (4, [.ref (A (b + 1)), .int (cm 0), .int (cm 1), .int (cm 2), .int (cm 3), .int (cm 4)])) := hM13 0 (by omega)
  have k18 : u12 (A (b + 1)) = some (.inl (cy 3, 4, .inr (.inr (.inr (.inr q))))) := hM13 1 (by omega)
  refine g_cR C0 G (g_runV C0 G (rest := []) (c_X2_at2 hfl (A := A) (b := b) (ex := (cm 0)) (ov := (cm 1)) (ie := (cm 2)) (fi := (cm 3)) (nu := (cm 4)) (q := q) k17 k18 hAj hQ.1 hQ.2.1 hQ.2.2.1 hQ.2.2.2) k17 rfl hY_X2_at mm_X8_206 mi_X2_at ml_X2_at ⟨(Nat.le_of_ble_eq_true rfl), (Nat.le_of_ble_eq_true rfl)⟩ rfl hl.1 rfl (Nat.le_of_ble_eq_true rfl) dX8_runRate_10 ⟨(Nat.le_of_ble_eq_true rfl), (Nat.le_of_ble_eq_true rfl)⟩) (kx_no rfl) (fun a21 u20 H locs hp19 G => ?_)
  obtain ⟨zr, eu20⟩ := hp19
  replace zr := Eq.symm zr
  subst zr
  rw [eu20] at G
  refine lv_iconst (v := 2) hx hb dX8_runRate_13 (by decide) ?_
  have k22 : u12 (A (b + 28)) = some (.inr (2, [.ref (A (b + 29)), .ref (A (b + 31)), .ref (A (b + 33)), .ref (A (b + 35)), .ref (A (b + 37)), .ref (A (b + 39)), .int (cs 2 6 8), .int (cs 2 6 9), .int (cs 2 6 10), .int (cs 2 6 11), .int (cs 2 6 12)])) := hM13 28 (by omega)
  have k23 : u12 (A (b + 29)) = some (.inr (8, [.int 8, .ref (A (b + 30)), .int 1])) := by have h9 : u12 (A (b + 29)) = some (.inr (8, [.int 8, .ref (A (b + 30)), .int (cs 2 7 0)])) := hM13 29 (by omega); rw [hr0] at h9; exact h9
  have k24 : u12 (A (b + 30)) = some (.inl (cy 0, 8, .inl (cs 2 0))) := hM13 30 (by omega)
  refine g_cI C0 G (g_runV C0 G (rest := []) (c_X0_total hfl 2 k22 k23 k24) k22 rfl hY_X0_total mm_X8_210 mi_X0_total ml_X0_total ⟨(Nat.le_of_ble_eq_true rfl), (Nat.le_of_ble_eq_true rfl)⟩ rfl hl.1 rfl (Nat.le_of_ble_eq_true rfl) dX8_runRate_14 ⟨(Nat.le_of_ble_eq_true rfl), (Nat.le_of_ble_eq_true rfl)⟩) (kx_no rfl) (fun r27 u26 H locs hp25 G => ?_)
  obtain ⟨er28, eu26⟩ := hp25
  rw [eu26] at G
  refine lv_topv (v := (tget 8 1 8 (cs 2 0) 0 2)) er28 ?_
  refine lv_istore_n (lv' := [(2, .int (tget 8 1 8 (cs 2 0) 0 2)), (0, .ref x), (1, .int 2)]) hx hb dX8_runRate_17 rfl hl (by decide) rfl (fun ls hl => ?_)
  refine lv_iload_n hx hb dX8_runRate_18 rfl (lv_at hl 0 rfl) ?_
  refine lv_if_ne (tgt := 33) hx hb dX8_runRate_19 (by decide) (fun c29 => absurd (v2) c29) (fun _ => ?_)
  exact g_throwW C0 G (X := "java/lang/ArithmeticException") (by decide) mk_X8_268 mz_java_lang_ArithmeticException (is := 270) (text := "no legal balls") (by decide) hat_272 hl.1 dX8_runRate_22 dX8_runRate_25 dX8_runRate_26 dX8_runRate_29 dX8_runRate_32 ⟨(Nat.le_of_ble_eq_true rfl), (Nat.le_of_ble_eq_true rfl)⟩ ⟨(Nat.le_of_ble_eq_true rfl), (Nat.le_of_ble_eq_true rfl)⟩ (Nat.le_of_ble_eq_true rfl) (Nat.le_of_ble_eq_true rfl) (by exact ⟨rfl, hM13, (fun a9 e9 h7 h8 => fr14 _ _ (by simp) (h8))⟩)
def X8_runRateY2_r0 (cs : Nat → Nat → Nat → Int32) : UInt64 := FP.ddiv (FP.i2d ((tget 8 1 8 (cs 2 0) 0 0) * 6)) (FP.i2d (tget 8 1 8 (cs 2 0) 0 2))
set_option maxRecDepth 100000 in
theorem c_X8_runRateY2 {l : Launch} (hfl : l.stackTraces = false) {D : va_G} {cy : Nat → ClassId} {f : Hf} {sz : Nat} {x : Nat} {A : Nat → Nat} {b : Nat} {b2 : Nat} {lg : Nat} {lg_o : Nat} {tx : Nat} {rz : Nat} {ro : Nat} {xea : Int32} {xra : Int32} {xkr : Int32} {q : Nat → Option Nat} {cm : Nat → Int32} {cs : Nat → Nat → Nat → Int32} (h_x : f x = some (.inr (10, [.ref (A (b + 0)), .ref (A (b2 + 0)), .ref lg, .ref lg_o, .ref tx, .ref rz, .ref ro, .int xea, .int xra, .int xkr]))) (hAj : ∀ i j : Nat, i ≠ j → A i ≠ A j) (hM : MW A b cy q cm cs f) (hQ : HQ A b q) (v0 : ¬ (X2_hasBegun_x2 (cm 0) (cm 4) 2) = 0) (hr0 : cs 2 7 0 = 1) (v2 : ¬ (tget 8 1 8 (cs 2 0) 0 2) = 0) : hMet l yX8_runRate cX8_runRate 3 (some .double) { frames := 2, cells := 0, slots := 0, locals := 45 } D (hTy cy) f sz [.ref x, .int 2] (hQd (fun r u => r = (X8_runRateY2_r0 cs) ∧ MW A b cy q cm cs u ∧ hFrL f u []) D f sz) hNo := by
  refine h_enter (by decide) hfl (Nat.le_of_ble_eq_true rfl) ?_
  intro p9 e9 s9 m9 b9 t9 c9 hsz C0 hr hnm G ls hl
  have hx := C0.1.1
  have hb := C0.1.2.1
  have hl : lv_has ls 3 [(0, .ref x), (1, .int 2)] := hl
  refine lv_aload_n hx hb dX8_runRate_0 rfl (lv_at hl 0 rfl) ?_
  refine lv_iload_n hx hb dX8_runRate_1 rfl (lv_at hl 1 rfl) ?_
  refine g_cV C0 G (g_runV C0 G (rest := []) (c_X8_demandInningsO hfl (A := A) (b := b) (b2 := b2) (xea := xea) (xra := xra) (xkr := xkr) (cm := cm) (cs := cs) 2 h_x hAj hM hQ v0) h_x rfl hY_X8_demandInnings mm_X8_200 mi_X8_demandInnings ml_X8_demandInnings ⟨(Nat.le_of_ble_eq_true rfl), (Nat.le_of_ble_eq_true rfl)⟩ rfl hl.1 rfl (Nat.le_of_ble_eq_true rfl) dX8_runRate_2 ⟨(Nat.le_of_ble_eq_true rfl), (Nat.le_of_ble_eq_true rfl)⟩) (kx_no rfl) (fun u12 H locs hp11 G => ?_)
  obtain ⟨hM13, fr14⟩ := hp11
  refine lv_aload_n hx hb dX8_runRate_5 rfl (lv_at hl 0 rfl) ?_
  have k16 : u12 x = some (.inr (10, [.ref (A (b + 0)), .ref (A (b2 + 0)), .ref lg, .ref lg_o, .ref tx, .ref rz, .ref ro, .int xea, .int xra, .int xkr])) := fr14 _ _ (by simp) h_x
  refine g_get C0 G k16 rfl hiX8 0 (by decide) mf_X8_10 rfl dX8_runRate_6 ?_
  refine lv_iload_n hx hb dX8_runRate_9 rfl (lv_at hl 1 rfl) ?_
  have k17 : u12 (A (b + 0)) = some (.inr (4, [.ref (A (b + 1)), .int (cm 0), .int (cm 1), .int (cm 2), .int (cm 3), .int (cm 4)])) := hM13 0 (by omega)
  have k18 : u12 (A (b + 1)) = some (.inl (cy 3, 4, .inr (.inr (.inr (.inr q))))) := hM13 1 (by omega)
  refine g_cR C0 G (g_runV C0 G (rest := []) (c_X2_at2 hfl (A := A) (b := b) (ex := (cm 0)) (ov := (cm 1)) (ie := (cm 2)) (fi := (cm 3)) (nu := (cm 4)) (q := q) k17 k18 hAj hQ.1 hQ.2.1 hQ.2.2.1 hQ.2.2.2) k17 rfl hY_X2_at mm_X8_206 mi_X2_at ml_X2_at ⟨(Nat.le_of_ble_eq_true rfl), (Nat.le_of_ble_eq_true rfl)⟩ rfl hl.1 rfl (Nat.le_of_ble_eq_true rfl) dX8_runRate_10 ⟨(Nat.le_of_ble_eq_true rfl), (Nat.le_of_ble_eq_true rfl)⟩) (kx_no rfl) (fun a21 u20 H locs hp19 G => ?_)
  obtain ⟨zr, eu20⟩ := hp19
  replace zr := Eq.symm zr
  subst zr
  rw [eu20] at G
  refine lv_iconst (v := 2) hx hb dX8_runRate_13 (by decide) ?_
  have k22 : u12 (A (b + 28)) = some (.inr (2, [.ref (A (b + 29)), .ref (A (b + 31)), .ref (A (b + 33)), .ref (A (b + 35)), .ref (A (b + 37)), .ref (A (b + 39)), .int (cs 2 6 8), .int (cs 2 6 9), .int (cs 2 6 10), .int (cs 2 6 11), .int (cs 2 6 12)])) := hM13 28 (by omega)
  have k23 : u12 (A (b + 29)) = some (.inr (8, [.int 8, .ref (A (b + 30)), .int 1])) := by have h9 : u12 (A (b + 29)) = some (.inr (8, [.int 8, .ref (A (b + 30)), .int (cs 2 7 0)])) := hM13 29 (by omega); rw [hr0] at h9; exact h9
  have k24 : u12 (A (b + 30)) = some (.inl (cy 0, 8, .inl (cs 2 0))) := hM13 30 (by omega)
  refine g_cI C0 G (g_runV C0 G (rest := []) (c_X0_total hfl 2 k22 k23 k24) k22 rfl hY_X0_total mm_X8_210 mi_X0_total ml_X0_total ⟨(Nat.le_of_ble_eq_true rfl), (Nat.le_of_ble_eq_true rfl)⟩ rfl hl.1 rfl (Nat.le_of_ble_eq_true rfl) dX8_runRate_14 ⟨(Nat.le_of_ble_eq_true rfl), (Nat.le_of_ble_eq_true rfl)⟩) (kx_no rfl) (fun r27 u26 H locs hp25 G => ?_)
  obtain ⟨er28, eu26⟩ := hp25
  rw [eu26] at G
  refine lv_topv (v := (tget 8 1 8 (cs 2 0) 0 2)) er28 ?_
  refine lv_istore_n (lv' := [(2, .int (tget 8 1 8 (cs 2 0) 0 2)), (0, .ref x), (1, .int 2)]) hx hb dX8_runRate_17 rfl hl (by decide) rfl (fun ls hl => ?_)
  refine lv_iload_n hx hb dX8_runRate_18 rfl (lv_at hl 0 rfl) ?_
  refine lv_if_ne (tgt := 33) hx hb dX8_runRate_19 (by decide) (fun _ => ?_) (fun c29 => absurd c29 (v2))
  refine lv_aload_n hx hb dX8_runRate_33 rfl (lv_at hl 1 rfl) ?_
  refine g_get C0 G k16 rfl hiX8 0 (by decide) mf_X8_10 rfl dX8_runRate_34 ?_
  refine lv_iload_n hx hb dX8_runRate_37 rfl (lv_at hl 2 rfl) ?_
  refine g_cR C0 G (g_runV C0 G (rest := []) (c_X2_at2 hfl (A := A) (b := b) (ex := (cm 0)) (ov := (cm 1)) (ie := (cm 2)) (fi := (cm 3)) (nu := (cm 4)) (q := q) k17 k18 hAj hQ.1 hQ.2.1 hQ.2.2.1 hQ.2.2.2) k17 rfl hY_X2_at mm_X8_206 mi_X2_at ml_X2_at ⟨(Nat.le_of_ble_eq_true rfl), (Nat.le_of_ble_eq_true rfl)⟩ rfl hl.1 rfl (Nat.le_of_ble_eq_true rfl) dX8_runRate_38 ⟨(Nat.le_of_ble_eq_true rfl), (Nat.le_of_ble_eq_true rfl)⟩) (kx_no rfl) (fun a32 u31 H locs hp30 G => ?_)
  obtain ⟨zr, eu31⟩ := hp30
  replace zr := Eq.symm zr
  subst zr
  rw [eu31] at G
  refine lv_iconst (v := 0) hx hb dX8_runRate_41 (by decide) ?_
  refine g_cI C0 G (g_runV C0 G (rest := []) (c_X0_total hfl 0 k22 k23 k24) k22 rfl hY_X0_total mm_X8_210 mi_X0_total ml_X0_total ⟨(Nat.le_of_ble_eq_true rfl), (Nat.le_of_ble_eq_true rfl)⟩ rfl hl.1 rfl (Nat.le_of_ble_eq_true rfl) dX8_runRate_42 ⟨(Nat.le_of_ble_eq_true rfl), (Nat.le_of_ble_eq_true rfl)⟩) (kx_no rfl) (fun r35 u34 H locs hp33 G => ?_)
  obtain ⟨er36, eu34⟩ := hp33
  rw [eu34] at G
  refine lv_topv (v := (tget 8 1 8 (cs 2 0) 0 0)) er36 ?_
  refine lv_bipush (v := 6) hx hb dX8_runRate_45 (by decide) ?_
  refine lv_imul hx hb dX8_runRate_47 ?_
  refine lv_i2d hx hb dX8_runRate_48 ?_
  refine lv_iload_n hx hb dX8_runRate_49 rfl (lv_at hl 0 rfl) ?_
  refine lv_i2d hx hb dX8_runRate_50 ?_
  refine lv_ddiv hx hb dX8_runRate_51 (ddiv_n _ _ v2) ?_
  exact g_dret C0 G hr dX8_runRate_52 (Nat.le_of_ble_eq_true rfl) (Nat.le_of_ble_eq_true rfl) (by exact ⟨(by rw [X8_runRateY2_r0] <;> rfl), hM13, (fun a9 e9 h7 h8 => fr14 _ _ (by simp) (h8))⟩)
set_option maxRecDepth 100000 in
theorem c_X8_strikeRateZ2 {l : Launch} (hfl : l.stackTraces = false) {D : va_G} {cy : Nat → ClassId} {f : Hf} {sz : Nat} {x : Nat} {A : Nat → Nat} {b : Nat} {b2 : Nat} {lg : Nat} {lg_o : Nat} {tx : Nat} {rz : Nat} {ro : Nat} {xea : Int32} {xra : Int32} {xkr : Int32} {q : Nat → Option Nat} {cm : Nat → Int32} {cs : Nat → Nat → Nat → Int32} (pl : Int32) (h_x : f x = some (.inr (10, [.ref (A (b + 0)), .ref (A (b2 + 0)), .ref lg, .ref lg_o, .ref tx, .ref rz, .ref ro, .int xea, .int xra, .int xkr]))) (hAj : ∀ i j : Nat, i ≠ j → A i ≠ A j) (hM : MW A b cy q cm cs f) (hQ : HQ A b q) (v0 : ¬ (X2_hasBegun_x2 (cm 0) (cm 4) 2) = 0) (v1 : ¬ (X8_isWithin_x1 pl 0 10) = 0) (hr0 : cs 2 7 1 = 11) (v2 : (tget 6 11 66 (cs 2 1) pl 1) = 0) : hMet l yX8_strikeRate cX8_strikeRate 5 (some .float) { frames := 6, cells := 1, slots := 6, locals := 82 } D (hTy cy) f sz [.ref x, .int 2, .int pl] (hQf (fun r u => False) D f sz) (fun E u => E = "java/lang/ArithmeticException" ∧ MW A b cy q cm cs u ∧ hFrL f u []) := by
  refine h_enter (by decide) hfl (Nat.le_of_ble_eq_true rfl) ?_
  intro p9 e9 s9 m9 b9 t9 c9 hsz C0 hr hnm G ls hl
  have hx := C0.1.1
  have hb := C0.1.2.1
  have hl : lv_has ls 5 [(0, .ref x), (1, .int 2), (2, .int pl)] := hl
  refine lv_aload_n hx hb dX8_strikeRate_0 rfl (lv_at hl 0 rfl) ?_
  refine lv_iload_n hx hb dX8_strikeRate_1 rfl (lv_at hl 1 rfl) ?_
  refine lv_iload_n hx hb dX8_strikeRate_2 rfl (lv_at hl 2 rfl) ?_
  refine g_cV C0 G (g_runV C0 G (rest := []) (c_X8_demandPlayerO hfl (A := A) (b := b) (b2 := b2) (xea := xea) (xra := xra) (xkr := xkr) (cm := cm) (cs := cs) 2 pl h_x hAj hM hQ v0 v1) h_x rfl hY_X8_demandPlayer mm_X8_213 mi_X8_demandPlayer ml_X8_demandPlayer ⟨(Nat.le_of_ble_eq_true rfl), (Nat.le_of_ble_eq_true rfl)⟩ rfl hl.1 rfl (Nat.le_of_ble_eq_true rfl) dX8_strikeRate_3 ⟨(Nat.le_of_ble_eq_true rfl), (Nat.le_of_ble_eq_true rfl)⟩) (kx_no rfl) (fun u12 H locs hp11 G => ?_)
  obtain ⟨hM13, fr14⟩ := hp11
  refine lv_aload_n hx hb dX8_strikeRate_6 rfl (lv_at hl 0 rfl) ?_
  have k16 : u12 x = some (.inr (10, [.ref (A (b + 0)), .ref (A (b2 + 0)), .ref lg, .ref lg_o, .ref tx, .ref rz, .ref ro, .int xea, .int xra, .int xkr])) := fr14 _ _ (by simp) h_x
  refine g_get C0 G k16 rfl hiX8 0 (by decide) mf_X8_10 rfl dX8_strikeRate_7 ?_
  refine lv_iload_n hx hb dX8_strikeRate_10 rfl (lv_at hl 1 rfl) ?_
  have k17 : u12 (A (b + 0)) = some (.inr (4, [.ref (A (b + 1)), .int (cm 0), .int (cm 1), .int (cm 2), .int (cm 3), .int (cm 4)])) := hM13 0 (by omega)
  have k18 : u12 (A (b + 1)) = some (.inl (cy 3, 4, .inr (.inr (.inr (.inr q))))) := hM13 1 (by omega)
  refine g_cR C0 G (g_runV C0 G (rest := []) (c_X2_at2 hfl (A := A) (b := b) (ex := (cm 0)) (ov := (cm 1)) (ie := (cm 2)) (fi := (cm 3)) (nu := (cm 4)) (q := q) k17 k18 hAj hQ.1 hQ.2.1 hQ.2.2.1 hQ.2.2.2) k17 rfl hY_X2_at mm_X8_206 mi_X2_at ml_X2_at ⟨(Nat.le_of_ble_eq_true rfl), (Nat.le_of_ble_eq_true rfl)⟩ rfl hl.1 rfl (Nat.le_of_ble_eq_true rfl) dX8_strikeRate_11 ⟨(Nat.le_of_ble_eq_true rfl), (Nat.le_of_ble_eq_true rfl)⟩) (kx_no rfl) (fun a21 u20 H locs hp19 G => ?_)
  obtain ⟨zr, eu20⟩ := hp19
  replace zr := Eq.symm zr
  subst zr
  rw [eu20] at G
  have k22 : u12 (A (b + 28)) = some (.inr (2, [.ref (A (b + 29)), .ref (A (b + 31)), .ref (A (b + 33)), .ref (A (b + 35)), .ref (A (b + 37)), .ref (A (b + 39)), .int (cs 2 6 8), .int (cs 2 6 9), .int (cs 2 6 10), .int (cs 2 6 11), .int (cs 2 6 12)])) := hM13 28 (by omega)
  refine g_get C0 G k22 rfl hiX0 1 (by decide) mf_X8_217 rfl dX8_strikeRate_14 ?_
  refine lv_astore_n (lv' := [(3, .ref (A (b + 31))), (0, .ref x), (1, .int 2), (2, .int pl)]) hx hb dX8_strikeRate_17 rfl hl (by decide) rfl (fun ls hl => ?_)
  refine lv_aload_n hx hb dX8_strikeRate_18 rfl (lv_at hl 0 rfl) ?_
  refine lv_iload_n hx hb dX8_strikeRate_19 rfl (lv_at hl 3 rfl) ?_
  refine lv_iconst (v := 1) hx hb dX8_strikeRate_20 (by decide) ?_
  have k23 : u12 (A (b + 31)) = some (.inr (8, [.int 6, .ref (A (b + 32)), .int 11])) := by have h9 : u12 (A (b + 31)) = some (.inr (8, [.int 6, .ref (A (b + 32)), .int (cs 2 7 1)])) := hM13 31 (by omega); rw [hr0] at h9; exact h9
  have k24 : u12 (A (b + 32)) = some (.inl (cy 0, 66, .inl (cs 2 1))) := hM13 32 (by omega)
  refine g_cI C0 G (g_runV C0 G (rest := []) (k_X6_get hfl pl 1 k23 k24 (by omega)) k23 rfl hY_X6_get mm_X8_221 mi_X6_get ml_X6_get ⟨(Nat.le_of_ble_eq_true rfl), (Nat.le_of_ble_eq_true rfl)⟩ rfl hl.1 rfl (Nat.le_of_ble_eq_true rfl) dX8_strikeRate_21 ⟨(Nat.le_of_ble_eq_true rfl), (Nat.le_of_ble_eq_true rfl)⟩) (kx_no rfl) (fun r27 u26 H locs hp25 G => ?_)
  obtain ⟨er28, eu26⟩ := hp25
  rw [eu26] at G
  refine lv_topv (v := (tget 6 11 66 (cs 2 1) pl 1)) er28 ?_
  refine lv_istore (lv' := [(4, .int (tget 6 11 66 (cs 2 1) pl 1)), (3, .ref (A (b + 31))), (0, .ref x), (1, .int 2), (2, .int pl)]) hx hb dX8_strikeRate_24 hl (by decide) rfl (fun ls hl => ?_)
  refine lv_iload hx hb dX8_strikeRate_26 (lv_at hl 0 rfl) ?_
  refine lv_if_ne (tgt := 42) hx hb dX8_strikeRate_28 (by decide) (fun c29 => absurd (v2) c29) (fun _ => ?_)
  exact g_throwW C0 G (X := "java/lang/ArithmeticException") (by decide) mk_X8_268 mz_java_lang_ArithmeticException (is := 273) (text := "no balls faced") (by decide) hat_272 hl.1 dX8_strikeRate_31 dX8_strikeRate_34 dX8_strikeRate_35 dX8_strikeRate_38 dX8_strikeRate_41 ⟨(Nat.le_of_ble_eq_true rfl), (Nat.le_of_ble_eq_true rfl)⟩ ⟨(Nat.le_of_ble_eq_true rfl), (Nat.le_of_ble_eq_true rfl)⟩ (Nat.le_of_ble_eq_true rfl) (Nat.le_of_ble_eq_true rfl) (by exact ⟨rfl, hM13, (fun a9 e9 h7 h8 => fr14 _ _ (by simp) (h8))⟩)
def X8_strikeRateY2_r0 (cs : Nat → Nat → Nat → Int32) (pl : Int32) : UInt32 := FP.fdiv (FP.i2f ((tget 6 11 66 (cs 2 1) pl 0) * 100)) (FP.i2f (tget 6 11 66 (cs 2 1) pl 1))
set_option maxRecDepth 100000 in
theorem c_X8_strikeRateY2 {l : Launch} (hfl : l.stackTraces = false) {D : va_G} {cy : Nat → ClassId} {f : Hf} {sz : Nat} {x : Nat} {A : Nat → Nat} {b : Nat} {b2 : Nat} {lg : Nat} {lg_o : Nat} {tx : Nat} {rz : Nat} {ro : Nat} {xea : Int32} {xra : Int32} {xkr : Int32} {q : Nat → Option Nat} {cm : Nat → Int32} {cs : Nat → Nat → Nat → Int32} (pl : Int32) (h_x : f x = some (.inr (10, [.ref (A (b + 0)), .ref (A (b2 + 0)), .ref lg, .ref lg_o, .ref tx, .ref rz, .ref ro, .int xea, .int xra, .int xkr]))) (hAj : ∀ i j : Nat, i ≠ j → A i ≠ A j) (hM : MW A b cy q cm cs f) (hQ : HQ A b q) (v0 : ¬ (X2_hasBegun_x2 (cm 0) (cm 4) 2) = 0) (v1 : ¬ (X8_isWithin_x1 pl 0 10) = 0) (hr0 : cs 2 7 1 = 11) (v2 : ¬ (tget 6 11 66 (cs 2 1) pl 1) = 0) : hMet l yX8_strikeRate cX8_strikeRate 5 (some .float) { frames := 3, cells := 0, slots := 0, locals := 64 } D (hTy cy) f sz [.ref x, .int 2, .int pl] (hQf (fun r u => r = (X8_strikeRateY2_r0 cs pl) ∧ MW A b cy q cm cs u ∧ hFrL f u []) D f sz) hNo := by
  refine h_enter (by decide) hfl (Nat.le_of_ble_eq_true rfl) ?_
  intro p9 e9 s9 m9 b9 t9 c9 hsz C0 hr hnm G ls hl
  have hx := C0.1.1
  have hb := C0.1.2.1
  have hl : lv_has ls 5 [(0, .ref x), (1, .int 2), (2, .int pl)] := hl
  refine lv_aload_n hx hb dX8_strikeRate_0 rfl (lv_at hl 0 rfl) ?_
  refine lv_iload_n hx hb dX8_strikeRate_1 rfl (lv_at hl 1 rfl) ?_
  refine lv_iload_n hx hb dX8_strikeRate_2 rfl (lv_at hl 2 rfl) ?_
  refine g_cV C0 G (g_runV C0 G (rest := []) (c_X8_demandPlayerO hfl (A := A) (b := b) (b2 := b2) (xea := xea) (xra := xra) (xkr := xkr) (cm := cm) (cs := cs) 2 pl h_x hAj hM hQ v0 v1) h_x rfl hY_X8_demandPlayer mm_X8_213 mi_X8_demandPlayer ml_X8_demandPlayer ⟨(Nat.le_of_ble_eq_true rfl), (Nat.le_of_ble_eq_true rfl)⟩ rfl hl.1 rfl (Nat.le_of_ble_eq_true rfl) dX8_strikeRate_3 ⟨(Nat.le_of_ble_eq_true rfl), (Nat.le_of_ble_eq_true rfl)⟩) (kx_no rfl) (fun u12 H locs hp11 G => ?_)
  obtain ⟨hM13, fr14⟩ := hp11
  refine lv_aload_n hx hb dX8_strikeRate_6 rfl (lv_at hl 0 rfl) ?_
  have k16 : u12 x = some (.inr (10, [.ref (A (b + 0)), .ref (A (b2 + 0)), .ref lg, .ref lg_o, .ref tx, .ref rz, .ref ro, .int xea, .int xra, .int xkr])) := fr14 _ _ (by simp) h_x
  refine g_get C0 G k16 rfl hiX8 0 (by decide) mf_X8_10 rfl dX8_strikeRate_7 ?_
  refine lv_iload_n hx hb dX8_strikeRate_10 rfl (lv_at hl 1 rfl) ?_
  have k17 : u12 (A (b + 0)) = some (.inr (4, [.ref (A (b + 1)), .int (cm 0), .int (cm 1), .int (cm 2), .int (cm 3), .int (cm 4)])) := hM13 0 (by omega)
  have k18 : u12 (A (b + 1)) = some (.inl (cy 3, 4, .inr (.inr (.inr (.inr q))))) := hM13 1 (by omega)
  refine g_cR C0 G (g_runV C0 G (rest := []) (c_X2_at2 hfl (A := A) (b := b) (ex := (cm 0)) (ov := (cm 1)) (ie := (cm 2)) (fi := (cm 3)) (nu := (cm 4)) (q := q) k17 k18 hAj hQ.1 hQ.2.1 hQ.2.2.1 hQ.2.2.2) k17 rfl hY_X2_at mm_X8_206 mi_X2_at ml_X2_at ⟨(Nat.le_of_ble_eq_true rfl), (Nat.le_of_ble_eq_true rfl)⟩ rfl hl.1 rfl (Nat.le_of_ble_eq_true rfl) dX8_strikeRate_11 ⟨(Nat.le_of_ble_eq_true rfl), (Nat.le_of_ble_eq_true rfl)⟩) (kx_no rfl) (fun a21 u20 H locs hp19 G => ?_)
  obtain ⟨zr, eu20⟩ := hp19
  replace zr := Eq.symm zr
  subst zr
  rw [eu20] at G
  have k22 : u12 (A (b + 28)) = some (.inr (2, [.ref (A (b + 29)), .ref (A (b + 31)), .ref (A (b + 33)), .ref (A (b + 35)), .ref (A (b + 37)), .ref (A (b + 39)), .int (cs 2 6 8), .int (cs 2 6 9), .int (cs 2 6 10), .int (cs 2 6 11), .int (cs 2 6 12)])) := hM13 28 (by omega)
  refine g_get C0 G k22 rfl hiX0 1 (by decide) mf_X8_217 rfl dX8_strikeRate_14 ?_
  refine lv_astore_n (lv' := [(3, .ref (A (b + 31))), (0, .ref x), (1, .int 2), (2, .int pl)]) hx hb dX8_strikeRate_17 rfl hl (by decide) rfl (fun ls hl => ?_)
  refine lv_aload_n hx hb dX8_strikeRate_18 rfl (lv_at hl 0 rfl) ?_
  refine lv_iload_n hx hb dX8_strikeRate_19 rfl (lv_at hl 3 rfl) ?_
  refine lv_iconst (v := 1) hx hb dX8_strikeRate_20 (by decide) ?_
  have k23 : u12 (A (b + 31)) = some (.inr (8, [.int 6, .ref (A (b + 32)), .int 11])) := by have h9 : u12 (A (b + 31)) = some (.inr (8, [.int 6, .ref (A (b + 32)), .int (cs 2 7 1)])) := hM13 31 (by omega); rw [hr0] at h9; exact h9
  have k24 : u12 (A (b + 32)) = some (.inl (cy 0, 66, .inl (cs 2 1))) := hM13 32 (by omega)
  refine g_cI C0 G (g_runV C0 G (rest := []) (k_X6_get hfl pl 1 k23 k24 (by omega)) k23 rfl hY_X6_get mm_X8_221 mi_X6_get ml_X6_get ⟨(Nat.le_of_ble_eq_true rfl), (Nat.le_of_ble_eq_true rfl)⟩ rfl hl.1 rfl (Nat.le_of_ble_eq_true rfl) dX8_strikeRate_21 ⟨(Nat.le_of_ble_eq_true rfl), (Nat.le_of_ble_eq_true rfl)⟩) (kx_no rfl) (fun r27 u26 H locs hp25 G => ?_)
  obtain ⟨er28, eu26⟩ := hp25
  rw [eu26] at G
  refine lv_topv (v := (tget 6 11 66 (cs 2 1) pl 1)) er28 ?_
  refine lv_istore (lv' := [(4, .int (tget 6 11 66 (cs 2 1) pl 1)), (3, .ref (A (b + 31))), (0, .ref x), (1, .int 2), (2, .int pl)]) hx hb dX8_strikeRate_24 hl (by decide) rfl (fun ls hl => ?_)
  refine lv_iload hx hb dX8_strikeRate_26 (lv_at hl 0 rfl) ?_
  refine lv_if_ne (tgt := 42) hx hb dX8_strikeRate_28 (by decide) (fun _ => ?_) (fun c29 => absurd c29 (v2))
  refine lv_aload_n hx hb dX8_strikeRate_42 rfl (lv_at hl 1 rfl) ?_
  refine lv_iload_n hx hb dX8_strikeRate_43 rfl (lv_at hl 4 rfl) ?_
  refine lv_iconst (v := 0) hx hb dX8_strikeRate_44 (by decide) ?_
  refine g_cI C0 G (g_runV C0 G (rest := []) (k_X6_get hfl pl 0 k23 k24 (by omega)) k23 rfl hY_X6_get mm_X8_221 mi_X6_get ml_X6_get ⟨(Nat.le_of_ble_eq_true rfl), (Nat.le_of_ble_eq_true rfl)⟩ rfl hl.1 rfl (Nat.le_of_ble_eq_true rfl) dX8_strikeRate_45 ⟨(Nat.le_of_ble_eq_true rfl), (Nat.le_of_ble_eq_true rfl)⟩) (kx_no rfl) (fun r32 u31 H locs hp30 G => ?_)
  obtain ⟨er33, eu31⟩ := hp30
  rw [eu31] at G
  refine lv_topv (v := (tget 6 11 66 (cs 2 1) pl 0)) er33 ?_
  refine lv_bipush (v := 100) hx hb dX8_strikeRate_48 (by decide) ?_
  refine lv_imul hx hb dX8_strikeRate_50 ?_
  refine lv_i2f hx hb dX8_strikeRate_51 ?_
  refine lv_iload hx hb dX8_strikeRate_52 (lv_at hl 0 rfl) ?_
  refine lv_i2f hx hb dX8_strikeRate_54 ?_
  refine lv_fdiv hx hb dX8_strikeRate_55 (fdiv_n _ _ v2) ?_
  exact g_fret C0 G hr dX8_strikeRate_56 (Nat.le_of_ble_eq_true rfl) (Nat.le_of_ble_eq_true rfl) (by exact ⟨(by rw [X8_strikeRateY2_r0] <;> rfl), hM13, (fun a9 e9 h7 h8 => fr14 _ _ (by simp) (h8))⟩)
set_option maxRecDepth 100000 in
theorem c_X8_runRateZ3 {l : Launch} (hfl : l.stackTraces = false) {D : va_G} {cy : Nat → ClassId} {f : Hf} {sz : Nat} {x : Nat} {A : Nat → Nat} {b : Nat} {b2 : Nat} {lg : Nat} {lg_o : Nat} {tx : Nat} {rz : Nat} {ro : Nat} {xea : Int32} {xra : Int32} {xkr : Int32} {q : Nat → Option Nat} {cm : Nat → Int32} {cs : Nat → Nat → Nat → Int32} (h_x : f x = some (.inr (10, [.ref (A (b + 0)), .ref (A (b2 + 0)), .ref lg, .ref lg_o, .ref tx, .ref rz, .ref ro, .int xea, .int xra, .int xkr]))) (hAj : ∀ i j : Nat, i ≠ j → A i ≠ A j) (hM : MW A b cy q cm cs f) (hQ : HQ A b q) (v0 : ¬ (X2_hasBegun_x2 (cm 0) (cm 4) 3) = 0) (hr0 : cs 3 7 0 = 1) (v2 : (tget 8 1 8 (cs 3 0) 0 2) = 0) : hMet l yX8_runRate cX8_runRate 3 (some .double) { frames := 6, cells := 1, slots := 6, locals := 82 } D (hTy cy) f sz [.ref x, .int 3] (hQd (fun r u => False) D f sz) (fun E u => E = "java/lang/ArithmeticException" ∧ MW A b cy q cm cs u ∧ hFrL f u []) := by
  refine h_enter (by decide) hfl (Nat.le_of_ble_eq_true rfl) ?_
  intro p9 e9 s9 m9 b9 t9 c9 hsz C0 hr hnm G ls hl
  have hx := C0.1.1
  have hb := C0.1.2.1
  have hl : lv_has ls 3 [(0, .ref x), (1, .int 3)] := hl
  refine lv_aload_n hx hb dX8_runRate_0 rfl (lv_at hl 0 rfl) ?_
  refine lv_iload_n hx hb dX8_runRate_1 rfl (lv_at hl 1 rfl) ?_
  refine g_cV C0 G (g_runV C0 G (rest := []) (c_X8_demandInningsO hfl (A := A) (b := b) (b2 := b2) (xea := xea) (xra := xra) (xkr := xkr) (cm := cm) (cs := cs) 3 h_x hAj hM hQ v0) h_x rfl hY_X8_demandInnings mm_X8_200 mi_X8_demandInnings ml_X8_demandInnings ⟨(Nat.le_of_ble_eq_true rfl), (Nat.le_of_ble_eq_true rfl)⟩ rfl hl.1 rfl (Nat.le_of_ble_eq_true rfl) dX8_runRate_2 ⟨(Nat.le_of_ble_eq_true rfl), (Nat.le_of_ble_eq_true rfl)⟩) (kx_no rfl) (fun u12 H locs hp11 G => ?_)
  obtain ⟨hM13, fr14⟩ := hp11
  refine lv_aload_n hx hb dX8_runRate_5 rfl (lv_at hl 0 rfl) ?_
  have k16 : u12 x = some (.inr (10, [.ref (A (b + 0)), .ref (A (b2 + 0)), .ref lg, .ref lg_o, .ref tx, .ref rz, .ref ro, .int xea, .int xra, .int xkr])) := fr14 _ _ (by simp) h_x
  refine g_get C0 G k16 rfl hiX8 0 (by decide) mf_X8_10 rfl dX8_runRate_6 ?_
  refine lv_iload_n hx hb dX8_runRate_9 rfl (lv_at hl 1 rfl) ?_
  have k17 : u12 (A (b + 0)) = some (.inr (4, [.ref (A (b + 1)), .int (cm 0), .int (cm 1), .int (cm 2), .int (cm 3), .int (cm 4)])) := hM13 0 (by omega)
  have k18 : u12 (A (b + 1)) = some (.inl (cy 3, 4, .inr (.inr (.inr (.inr q))))) := hM13 1 (by omega)
  refine g_cR C0 G (g_runV C0 G (rest := []) (c_X2_at3 hfl (A := A) (b := b) (ex := (cm 0)) (ov := (cm 1)) (ie := (cm 2)) (fi := (cm 3)) (nu := (cm 4)) (q := q) k17 k18 hAj hQ.1 hQ.2.1 hQ.2.2.1 hQ.2.2.2) k17 rfl hY_X2_at mm_X8_206 mi_X2_at ml_X2_at ⟨(Nat.le_of_ble_eq_true rfl), (Nat.le_of_ble_eq_true rfl)⟩ rfl hl.1 rfl (Nat.le_of_ble_eq_true rfl) dX8_runRate_10 ⟨(Nat.le_of_ble_eq_true rfl), (Nat.le_of_ble_eq_true rfl)⟩) (kx_no rfl) (fun a21 u20 H locs hp19 G => ?_)
  obtain ⟨zr, eu20⟩ := hp19
  replace zr := Eq.symm zr
  subst zr
  rw [eu20] at G
  refine lv_iconst (v := 2) hx hb dX8_runRate_13 (by decide) ?_
  have k22 : u12 (A (b + 41)) = some (.inr (2, [.ref (A (b + 42)), .ref (A (b + 44)), .ref (A (b + 46)), .ref (A (b + 48)), .ref (A (b + 50)), .ref (A (b + 52)), .int (cs 3 6 8), .int (cs 3 6 9), .int (cs 3 6 10), .int (cs 3 6 11), .int (cs 3 6 12)])) := hM13 41 (by omega)
  have k23 : u12 (A (b + 42)) = some (.inr (8, [.int 8, .ref (A (b + 43)), .int 1])) := by have h9 : u12 (A (b + 42)) = some (.inr (8, [.int 8, .ref (A (b + 43)), .int (cs 3 7 0)])) := hM13 42 (by omega); rw [hr0] at h9; exact h9
  have k24 : u12 (A (b + 43)) = some (.inl (cy 0, 8, .inl (cs 3 0))) := hM13 43 (by omega)
  refine g_cI C0 G (g_runV C0 G (rest := []) (c_X0_total hfl 2 k22 k23 k24) k22 rfl hY_X0_total mm_X8_210 mi_X0_total ml_X0_total ⟨(Nat.le_of_ble_eq_true rfl), (Nat.le_of_ble_eq_true rfl)⟩ rfl hl.1 rfl (Nat.le_of_ble_eq_true rfl) dX8_runRate_14 ⟨(Nat.le_of_ble_eq_true rfl), (Nat.le_of_ble_eq_true rfl)⟩) (kx_no rfl) (fun r27 u26 H locs hp25 G => ?_)
  obtain ⟨er28, eu26⟩ := hp25
  rw [eu26] at G
  refine lv_topv (v := (tget 8 1 8 (cs 3 0) 0 2)) er28 ?_
  refine lv_istore_n (lv' := [(2, .int (tget 8 1 8 (cs 3 0) 0 2)), (0, .ref x), (1, .int 3)]) hx hb dX8_runRate_17 rfl hl (by decide) rfl (fun ls hl => ?_)
  refine lv_iload_n hx hb dX8_runRate_18 rfl (lv_at hl 0 rfl) ?_
  refine lv_if_ne (tgt := 33) hx hb dX8_runRate_19 (by decide) (fun c29 => absurd (v2) c29) (fun _ => ?_)
  exact g_throwW C0 G (X := "java/lang/ArithmeticException") (by decide) mk_X8_268 mz_java_lang_ArithmeticException (is := 270) (text := "no legal balls") (by decide) hat_272 hl.1 dX8_runRate_22 dX8_runRate_25 dX8_runRate_26 dX8_runRate_29 dX8_runRate_32 ⟨(Nat.le_of_ble_eq_true rfl), (Nat.le_of_ble_eq_true rfl)⟩ ⟨(Nat.le_of_ble_eq_true rfl), (Nat.le_of_ble_eq_true rfl)⟩ (Nat.le_of_ble_eq_true rfl) (Nat.le_of_ble_eq_true rfl) (by exact ⟨rfl, hM13, (fun a9 e9 h7 h8 => fr14 _ _ (by simp) (h8))⟩)
def X8_runRateY3_r0 (cs : Nat → Nat → Nat → Int32) : UInt64 := FP.ddiv (FP.i2d ((tget 8 1 8 (cs 3 0) 0 0) * 6)) (FP.i2d (tget 8 1 8 (cs 3 0) 0 2))
set_option maxRecDepth 100000 in
theorem c_X8_runRateY3 {l : Launch} (hfl : l.stackTraces = false) {D : va_G} {cy : Nat → ClassId} {f : Hf} {sz : Nat} {x : Nat} {A : Nat → Nat} {b : Nat} {b2 : Nat} {lg : Nat} {lg_o : Nat} {tx : Nat} {rz : Nat} {ro : Nat} {xea : Int32} {xra : Int32} {xkr : Int32} {q : Nat → Option Nat} {cm : Nat → Int32} {cs : Nat → Nat → Nat → Int32} (h_x : f x = some (.inr (10, [.ref (A (b + 0)), .ref (A (b2 + 0)), .ref lg, .ref lg_o, .ref tx, .ref rz, .ref ro, .int xea, .int xra, .int xkr]))) (hAj : ∀ i j : Nat, i ≠ j → A i ≠ A j) (hM : MW A b cy q cm cs f) (hQ : HQ A b q) (v0 : ¬ (X2_hasBegun_x2 (cm 0) (cm 4) 3) = 0) (hr0 : cs 3 7 0 = 1) (v2 : ¬ (tget 8 1 8 (cs 3 0) 0 2) = 0) : hMet l yX8_runRate cX8_runRate 3 (some .double) { frames := 2, cells := 0, slots := 0, locals := 45 } D (hTy cy) f sz [.ref x, .int 3] (hQd (fun r u => r = (X8_runRateY3_r0 cs) ∧ MW A b cy q cm cs u ∧ hFrL f u []) D f sz) hNo := by
  refine h_enter (by decide) hfl (Nat.le_of_ble_eq_true rfl) ?_
  intro p9 e9 s9 m9 b9 t9 c9 hsz C0 hr hnm G ls hl
  have hx := C0.1.1
  have hb := C0.1.2.1
  have hl : lv_has ls 3 [(0, .ref x), (1, .int 3)] := hl
  refine lv_aload_n hx hb dX8_runRate_0 rfl (lv_at hl 0 rfl) ?_
  refine lv_iload_n hx hb dX8_runRate_1 rfl (lv_at hl 1 rfl) ?_
  refine g_cV C0 G (g_runV C0 G (rest := []) (c_X8_demandInningsO hfl (A := A) (b := b) (b2 := b2) (xea := xea) (xra := xra) (xkr := xkr) (cm := cm) (cs := cs) 3 h_x hAj hM hQ v0) h_x rfl hY_X8_demandInnings mm_X8_200 mi_X8_demandInnings ml_X8_demandInnings ⟨(Nat.le_of_ble_eq_true rfl), (Nat.le_of_ble_eq_true rfl)⟩ rfl hl.1 rfl (Nat.le_of_ble_eq_true rfl) dX8_runRate_2 ⟨(Nat.le_of_ble_eq_true rfl), (Nat.le_of_ble_eq_true rfl)⟩) (kx_no rfl) (fun u12 H locs hp11 G => ?_)
  obtain ⟨hM13, fr14⟩ := hp11
  refine lv_aload_n hx hb dX8_runRate_5 rfl (lv_at hl 0 rfl) ?_
  have k16 : u12 x = some (.inr (10, [.ref (A (b + 0)), .ref (A (b2 + 0)), .ref lg, .ref lg_o, .ref tx, .ref rz, .ref ro, .int xea, .int xra, .int xkr])) := fr14 _ _ (by simp) h_x
  refine g_get C0 G k16 rfl hiX8 0 (by decide) mf_X8_10 rfl dX8_runRate_6 ?_
  refine lv_iload_n hx hb dX8_runRate_9 rfl (lv_at hl 1 rfl) ?_
  have k17 : u12 (A (b + 0)) = some (.inr (4, [.ref (A (b + 1)), .int (cm 0), .int (cm 1), .int (cm 2), .int (cm 3), .int (cm 4)])) := hM13 0 (by omega)
  have k18 : u12 (A (b + 1)) = some (.inl (cy 3, 4, .inr (.inr (.inr (.inr q))))) := hM13 1 (by omega)
  refine g_cR C0 G (g_runV C0 G (rest := []) (c_X2_at3 hfl (A := A) (b := b) (ex := (cm 0)) (ov := (cm 1)) (ie := (cm 2)) (fi := (cm 3)) (nu := (cm 4)) (q := q) k17 k18 hAj hQ.1 hQ.2.1 hQ.2.2.1 hQ.2.2.2) k17 rfl hY_X2_at mm_X8_206 mi_X2_at ml_X2_at ⟨(Nat.le_of_ble_eq_true rfl), (Nat.le_of_ble_eq_true rfl)⟩ rfl hl.1 rfl (Nat.le_of_ble_eq_true rfl) dX8_runRate_10 ⟨(Nat.le_of_ble_eq_true rfl), (Nat.le_of_ble_eq_true rfl)⟩) (kx_no rfl) (fun a21 u20 H locs hp19 G => ?_)
  obtain ⟨zr, eu20⟩ := hp19
  replace zr := Eq.symm zr
  subst zr
  rw [eu20] at G
  refine lv_iconst (v := 2) hx hb dX8_runRate_13 (by decide) ?_
  have k22 : u12 (A (b + 41)) = some (.inr (2, [.ref (A (b + 42)), .ref (A (b + 44)), .ref (A (b + 46)), .ref (A (b + 48)), .ref (A (b + 50)), .ref (A (b + 52)), .int (cs 3 6 8), .int (cs 3 6 9), .int (cs 3 6 10), .int (cs 3 6 11), .int (cs 3 6 12)])) := hM13 41 (by omega)
  have k23 : u12 (A (b + 42)) = some (.inr (8, [.int 8, .ref (A (b + 43)), .int 1])) := by have h9 : u12 (A (b + 42)) = some (.inr (8, [.int 8, .ref (A (b + 43)), .int (cs 3 7 0)])) := hM13 42 (by omega); rw [hr0] at h9; exact h9
  have k24 : u12 (A (b + 43)) = some (.inl (cy 0, 8, .inl (cs 3 0))) := hM13 43 (by omega)
  refine g_cI C0 G (g_runV C0 G (rest := []) (c_X0_total hfl 2 k22 k23 k24) k22 rfl hY_X0_total mm_X8_210 mi_X0_total ml_X0_total ⟨(Nat.le_of_ble_eq_true rfl), (Nat.le_of_ble_eq_true rfl)⟩ rfl hl.1 rfl (Nat.le_of_ble_eq_true rfl) dX8_runRate_14 ⟨(Nat.le_of_ble_eq_true rfl), (Nat.le_of_ble_eq_true rfl)⟩) (kx_no rfl) (fun r27 u26 H locs hp25 G => ?_)
  obtain ⟨er28, eu26⟩ := hp25
  rw [eu26] at G
  refine lv_topv (v := (tget 8 1 8 (cs 3 0) 0 2)) er28 ?_
  refine lv_istore_n (lv' := [(2, .int (tget 8 1 8 (cs 3 0) 0 2)), (0, .ref x), (1, .int 3)]) hx hb dX8_runRate_17 rfl hl (by decide) rfl (fun ls hl => ?_)
  refine lv_iload_n hx hb dX8_runRate_18 rfl (lv_at hl 0 rfl) ?_
  refine lv_if_ne (tgt := 33) hx hb dX8_runRate_19 (by decide) (fun _ => ?_) (fun c29 => absurd c29 (v2))
  refine lv_aload_n hx hb dX8_runRate_33 rfl (lv_at hl 1 rfl) ?_
  refine g_get C0 G k16 rfl hiX8 0 (by decide) mf_X8_10 rfl dX8_runRate_34 ?_
  refine lv_iload_n hx hb dX8_runRate_37 rfl (lv_at hl 2 rfl) ?_
  refine g_cR C0 G (g_runV C0 G (rest := []) (c_X2_at3 hfl (A := A) (b := b) (ex := (cm 0)) (ov := (cm 1)) (ie := (cm 2)) (fi := (cm 3)) (nu := (cm 4)) (q := q) k17 k18 hAj hQ.1 hQ.2.1 hQ.2.2.1 hQ.2.2.2) k17 rfl hY_X2_at mm_X8_206 mi_X2_at ml_X2_at ⟨(Nat.le_of_ble_eq_true rfl), (Nat.le_of_ble_eq_true rfl)⟩ rfl hl.1 rfl (Nat.le_of_ble_eq_true rfl) dX8_runRate_38 ⟨(Nat.le_of_ble_eq_true rfl), (Nat.le_of_ble_eq_true rfl)⟩) (kx_no rfl) (fun a32 u31 H locs hp30 G => ?_)
  obtain ⟨zr, eu31⟩ := hp30
  replace zr := Eq.symm zr
  subst zr
  rw [eu31] at G
  refine lv_iconst (v := 0) hx hb dX8_runRate_41 (by decide) ?_
  refine g_cI C0 G (g_runV C0 G (rest := []) (c_X0_total hfl 0 k22 k23 k24) k22 rfl hY_X0_total mm_X8_210 mi_X0_total ml_X0_total ⟨(Nat.le_of_ble_eq_true rfl), (Nat.le_of_ble_eq_true rfl)⟩ rfl hl.1 rfl (Nat.le_of_ble_eq_true rfl) dX8_runRate_42 ⟨(Nat.le_of_ble_eq_true rfl), (Nat.le_of_ble_eq_true rfl)⟩) (kx_no rfl) (fun r35 u34 H locs hp33 G => ?_)
  obtain ⟨er36, eu34⟩ := hp33
  rw [eu34] at G
  refine lv_topv (v := (tget 8 1 8 (cs 3 0) 0 0)) er36 ?_
  refine lv_bipush (v := 6) hx hb dX8_runRate_45 (by decide) ?_
  refine lv_imul hx hb dX8_runRate_47 ?_
  refine lv_i2d hx hb dX8_runRate_48 ?_
  refine lv_iload_n hx hb dX8_runRate_49 rfl (lv_at hl 0 rfl) ?_
  refine lv_i2d hx hb dX8_runRate_50 ?_
  refine lv_ddiv hx hb dX8_runRate_51 (ddiv_n _ _ v2) ?_
  exact g_dret C0 G hr dX8_runRate_52 (Nat.le_of_ble_eq_true rfl) (Nat.le_of_ble_eq_true rfl) (by exact ⟨(by rw [X8_runRateY3_r0] <;> rfl), hM13, (fun a9 e9 h7 h8 => fr14 _ _ (by simp) (h8))⟩)
set_option maxRecDepth 100000 in
theorem c_X8_strikeRateZ3 {l : Launch} (hfl : l.stackTraces = false) {D : va_G} {cy : Nat → ClassId} {f : Hf} {sz : Nat} {x : Nat} {A : Nat → Nat} {b : Nat} {b2 : Nat} {lg : Nat} {lg_o : Nat} {tx : Nat} {rz : Nat} {ro : Nat} {xea : Int32} {xra : Int32} {xkr : Int32} {q : Nat → Option Nat} {cm : Nat → Int32} {cs : Nat → Nat → Nat → Int32} (pl : Int32) (h_x : f x = some (.inr (10, [.ref (A (b + 0)), .ref (A (b2 + 0)), .ref lg, .ref lg_o, .ref tx, .ref rz, .ref ro, .int xea, .int xra, .int xkr]))) (hAj : ∀ i j : Nat, i ≠ j → A i ≠ A j) (hM : MW A b cy q cm cs f) (hQ : HQ A b q) (v0 : ¬ (X2_hasBegun_x2 (cm 0) (cm 4) 3) = 0) (v1 : ¬ (X8_isWithin_x1 pl 0 10) = 0) (hr0 : cs 3 7 1 = 11) (v2 : (tget 6 11 66 (cs 3 1) pl 1) = 0) : hMet l yX8_strikeRate cX8_strikeRate 5 (some .float) { frames := 6, cells := 1, slots := 6, locals := 82 } D (hTy cy) f sz [.ref x, .int 3, .int pl] (hQf (fun r u => False) D f sz) (fun E u => E = "java/lang/ArithmeticException" ∧ MW A b cy q cm cs u ∧ hFrL f u []) := by
  refine h_enter (by decide) hfl (Nat.le_of_ble_eq_true rfl) ?_
  intro p9 e9 s9 m9 b9 t9 c9 hsz C0 hr hnm G ls hl
  have hx := C0.1.1
  have hb := C0.1.2.1
  have hl : lv_has ls 5 [(0, .ref x), (1, .int 3), (2, .int pl)] := hl
  refine lv_aload_n hx hb dX8_strikeRate_0 rfl (lv_at hl 0 rfl) ?_
  refine lv_iload_n hx hb dX8_strikeRate_1 rfl (lv_at hl 1 rfl) ?_
  refine lv_iload_n hx hb dX8_strikeRate_2 rfl (lv_at hl 2 rfl) ?_
  refine g_cV C0 G (g_runV C0 G (rest := []) (c_X8_demandPlayerO hfl (A := A) (b := b) (b2 := b2) (xea := xea) (xra := xra) (xkr := xkr) (cm := cm) (cs := cs) 3 pl h_x hAj hM hQ v0 v1) h_x rfl hY_X8_demandPlayer mm_X8_213 mi_X8_demandPlayer ml_X8_demandPlayer ⟨(Nat.le_of_ble_eq_true rfl), (Nat.le_of_ble_eq_true rfl)⟩ rfl hl.1 rfl (Nat.le_of_ble_eq_true rfl) dX8_strikeRate_3 ⟨(Nat.le_of_ble_eq_true rfl), (Nat.le_of_ble_eq_true rfl)⟩) (kx_no rfl) (fun u12 H locs hp11 G => ?_)
  obtain ⟨hM13, fr14⟩ := hp11
  refine lv_aload_n hx hb dX8_strikeRate_6 rfl (lv_at hl 0 rfl) ?_
  have k16 : u12 x = some (.inr (10, [.ref (A (b + 0)), .ref (A (b2 + 0)), .ref lg, .ref lg_o, .ref tx, .ref rz, .ref ro, .int xea, .int xra, .int xkr])) := fr14 _ _ (by simp) h_x
  refine g_get C0 G k16 rfl hiX8 0 (by decide) mf_X8_10 rfl dX8_strikeRate_7 ?_
  refine lv_iload_n hx hb dX8_strikeRate_10 rfl (lv_at hl 1 rfl) ?_
  have k17 : u12 (A (b + 0)) = some (.inr (4, [.ref (A (b + 1)), .int (cm 0), .int (cm 1), .int (cm 2), .int (cm 3), .int (cm 4)])) := hM13 0 (by omega)
  have k18 : u12 (A (b + 1)) = some (.inl (cy 3, 4, .inr (.inr (.inr (.inr q))))) := hM13 1 (by omega)
  refine g_cR C0 G (g_runV C0 G (rest := []) (c_X2_at3 hfl (A := A) (b := b) (ex := (cm 0)) (ov := (cm 1)) (ie := (cm 2)) (fi := (cm 3)) (nu := (cm 4)) (q := q) k17 k18 hAj hQ.1 hQ.2.1 hQ.2.2.1 hQ.2.2.2) k17 rfl hY_X2_at mm_X8_206 mi_X2_at ml_X2_at ⟨(Nat.le_of_ble_eq_true rfl), (Nat.le_of_ble_eq_true rfl)⟩ rfl hl.1 rfl (Nat.le_of_ble_eq_true rfl) dX8_strikeRate_11 ⟨(Nat.le_of_ble_eq_true rfl), (Nat.le_of_ble_eq_true rfl)⟩) (kx_no rfl) (fun a21 u20 H locs hp19 G => ?_)
  obtain ⟨zr, eu20⟩ := hp19
  replace zr := Eq.symm zr
  subst zr
  rw [eu20] at G
  have k22 : u12 (A (b + 41)) = some (.inr (2, [.ref (A (b + 42)), .ref (A (b + 44)), .ref (A (b + 46)), .ref (A (b + 48)), .ref (A (b + 50)), .ref (A (b + 52)), .int (cs 3 6 8), .int (cs 3 6 9), .int (cs 3 6 10), .int (cs 3 6 11), .int (cs 3 6 12)])) := hM13 41 (by omega)
  refine g_get C0 G k22 rfl hiX0 1 (by decide) mf_X8_217 rfl dX8_strikeRate_14 ?_
  refine lv_astore_n (lv' := [(3, .ref (A (b + 44))), (0, .ref x), (1, .int 3), (2, .int pl)]) hx hb dX8_strikeRate_17 rfl hl (by decide) rfl (fun ls hl => ?_)
  refine lv_aload_n hx hb dX8_strikeRate_18 rfl (lv_at hl 0 rfl) ?_
  refine lv_iload_n hx hb dX8_strikeRate_19 rfl (lv_at hl 3 rfl) ?_
  refine lv_iconst (v := 1) hx hb dX8_strikeRate_20 (by decide) ?_
  have k23 : u12 (A (b + 44)) = some (.inr (8, [.int 6, .ref (A (b + 45)), .int 11])) := by have h9 : u12 (A (b + 44)) = some (.inr (8, [.int 6, .ref (A (b + 45)), .int (cs 3 7 1)])) := hM13 44 (by omega); rw [hr0] at h9; exact h9
  have k24 : u12 (A (b + 45)) = some (.inl (cy 0, 66, .inl (cs 3 1))) := hM13 45 (by omega)
  refine g_cI C0 G (g_runV C0 G (rest := []) (k_X6_get hfl pl 1 k23 k24 (by omega)) k23 rfl hY_X6_get mm_X8_221 mi_X6_get ml_X6_get ⟨(Nat.le_of_ble_eq_true rfl), (Nat.le_of_ble_eq_true rfl)⟩ rfl hl.1 rfl (Nat.le_of_ble_eq_true rfl) dX8_strikeRate_21 ⟨(Nat.le_of_ble_eq_true rfl), (Nat.le_of_ble_eq_true rfl)⟩) (kx_no rfl) (fun r27 u26 H locs hp25 G => ?_)
  obtain ⟨er28, eu26⟩ := hp25
  rw [eu26] at G
  refine lv_topv (v := (tget 6 11 66 (cs 3 1) pl 1)) er28 ?_
  refine lv_istore (lv' := [(4, .int (tget 6 11 66 (cs 3 1) pl 1)), (3, .ref (A (b + 44))), (0, .ref x), (1, .int 3), (2, .int pl)]) hx hb dX8_strikeRate_24 hl (by decide) rfl (fun ls hl => ?_)
  refine lv_iload hx hb dX8_strikeRate_26 (lv_at hl 0 rfl) ?_
  refine lv_if_ne (tgt := 42) hx hb dX8_strikeRate_28 (by decide) (fun c29 => absurd (v2) c29) (fun _ => ?_)
  exact g_throwW C0 G (X := "java/lang/ArithmeticException") (by decide) mk_X8_268 mz_java_lang_ArithmeticException (is := 273) (text := "no balls faced") (by decide) hat_272 hl.1 dX8_strikeRate_31 dX8_strikeRate_34 dX8_strikeRate_35 dX8_strikeRate_38 dX8_strikeRate_41 ⟨(Nat.le_of_ble_eq_true rfl), (Nat.le_of_ble_eq_true rfl)⟩ ⟨(Nat.le_of_ble_eq_true rfl), (Nat.le_of_ble_eq_true rfl)⟩ (Nat.le_of_ble_eq_true rfl) (Nat.le_of_ble_eq_true rfl) (by exact ⟨rfl, hM13, (fun a9 e9 h7 h8 => fr14 _ _ (by simp) (h8))⟩)
def X8_strikeRateY3_r0 (cs : Nat → Nat → Nat → Int32) (pl : Int32) : UInt32 := FP.fdiv (FP.i2f ((tget 6 11 66 (cs 3 1) pl 0) * 100)) (FP.i2f (tget 6 11 66 (cs 3 1) pl 1))
set_option maxRecDepth 100000 in
theorem c_X8_strikeRateY3 {l : Launch} (hfl : l.stackTraces = false) {D : va_G} {cy : Nat → ClassId} {f : Hf} {sz : Nat} {x : Nat} {A : Nat → Nat} {b : Nat} {b2 : Nat} {lg : Nat} {lg_o : Nat} {tx : Nat} {rz : Nat} {ro : Nat} {xea : Int32} {xra : Int32} {xkr : Int32} {q : Nat → Option Nat} {cm : Nat → Int32} {cs : Nat → Nat → Nat → Int32} (pl : Int32) (h_x : f x = some (.inr (10, [.ref (A (b + 0)), .ref (A (b2 + 0)), .ref lg, .ref lg_o, .ref tx, .ref rz, .ref ro, .int xea, .int xra, .int xkr]))) (hAj : ∀ i j : Nat, i ≠ j → A i ≠ A j) (hM : MW A b cy q cm cs f) (hQ : HQ A b q) (v0 : ¬ (X2_hasBegun_x2 (cm 0) (cm 4) 3) = 0) (v1 : ¬ (X8_isWithin_x1 pl 0 10) = 0) (hr0 : cs 3 7 1 = 11) (v2 : ¬ (tget 6 11 66 (cs 3 1) pl 1) = 0) : hMet l yX8_strikeRate cX8_strikeRate 5 (some .float) { frames := 3, cells := 0, slots := 0, locals := 64 } D (hTy cy) f sz [.ref x, .int 3, .int pl] (hQf (fun r u => r = (X8_strikeRateY3_r0 cs pl) ∧ MW A b cy q cm cs u ∧ hFrL f u []) D f sz) hNo := by
  refine h_enter (by decide) hfl (Nat.le_of_ble_eq_true rfl) ?_
  intro p9 e9 s9 m9 b9 t9 c9 hsz C0 hr hnm G ls hl
  have hx := C0.1.1
  have hb := C0.1.2.1
  have hl : lv_has ls 5 [(0, .ref x), (1, .int 3), (2, .int pl)] := hl
  refine lv_aload_n hx hb dX8_strikeRate_0 rfl (lv_at hl 0 rfl) ?_
  refine lv_iload_n hx hb dX8_strikeRate_1 rfl (lv_at hl 1 rfl) ?_
  refine lv_iload_n hx hb dX8_strikeRate_2 rfl (lv_at hl 2 rfl) ?_
  refine g_cV C0 G (g_runV C0 G (rest := []) (c_X8_demandPlayerO hfl (A := A) (b := b) (b2 := b2) (xea := xea) (xra := xra) (xkr := xkr) (cm := cm) (cs := cs) 3 pl h_x hAj hM hQ v0 v1) h_x rfl hY_X8_demandPlayer mm_X8_213 mi_X8_demandPlayer ml_X8_demandPlayer ⟨(Nat.le_of_ble_eq_true rfl), (Nat.le_of_ble_eq_true rfl)⟩ rfl hl.1 rfl (Nat.le_of_ble_eq_true rfl) dX8_strikeRate_3 ⟨(Nat.le_of_ble_eq_true rfl), (Nat.le_of_ble_eq_true rfl)⟩) (kx_no rfl) (fun u12 H locs hp11 G => ?_)
  obtain ⟨hM13, fr14⟩ := hp11
  refine lv_aload_n hx hb dX8_strikeRate_6 rfl (lv_at hl 0 rfl) ?_
  have k16 : u12 x = some (.inr (10, [.ref (A (b + 0)), .ref (A (b2 + 0)), .ref lg, .ref lg_o, .ref tx, .ref rz, .ref ro, .int xea, .int xra, .int xkr])) := fr14 _ _ (by simp) h_x
  refine g_get C0 G k16 rfl hiX8 0 (by decide) mf_X8_10 rfl dX8_strikeRate_7 ?_
  refine lv_iload_n hx hb dX8_strikeRate_10 rfl (lv_at hl 1 rfl) ?_
  have k17 : u12 (A (b + 0)) = some (.inr (4, [.ref (A (b + 1)), .int (cm 0), .int (cm 1), .int (cm 2), .int (cm 3), .int (cm 4)])) := hM13 0 (by omega)
  have k18 : u12 (A (b + 1)) = some (.inl (cy 3, 4, .inr (.inr (.inr (.inr q))))) := hM13 1 (by omega)
  refine g_cR C0 G (g_runV C0 G (rest := []) (c_X2_at3 hfl (A := A) (b := b) (ex := (cm 0)) (ov := (cm 1)) (ie := (cm 2)) (fi := (cm 3)) (nu := (cm 4)) (q := q) k17 k18 hAj hQ.1 hQ.2.1 hQ.2.2.1 hQ.2.2.2) k17 rfl hY_X2_at mm_X8_206 mi_X2_at ml_X2_at ⟨(Nat.le_of_ble_eq_true rfl), (Nat.le_of_ble_eq_true rfl)⟩ rfl hl.1 rfl (Nat.le_of_ble_eq_true rfl) dX8_strikeRate_11 ⟨(Nat.le_of_ble_eq_true rfl), (Nat.le_of_ble_eq_true rfl)⟩) (kx_no rfl) (fun a21 u20 H locs hp19 G => ?_)
  obtain ⟨zr, eu20⟩ := hp19
  replace zr := Eq.symm zr
  subst zr
  rw [eu20] at G
  have k22 : u12 (A (b + 41)) = some (.inr (2, [.ref (A (b + 42)), .ref (A (b + 44)), .ref (A (b + 46)), .ref (A (b + 48)), .ref (A (b + 50)), .ref (A (b + 52)), .int (cs 3 6 8), .int (cs 3 6 9), .int (cs 3 6 10), .int (cs 3 6 11), .int (cs 3 6 12)])) := hM13 41 (by omega)
  refine g_get C0 G k22 rfl hiX0 1 (by decide) mf_X8_217 rfl dX8_strikeRate_14 ?_
  refine lv_astore_n (lv' := [(3, .ref (A (b + 44))), (0, .ref x), (1, .int 3), (2, .int pl)]) hx hb dX8_strikeRate_17 rfl hl (by decide) rfl (fun ls hl => ?_)
  refine lv_aload_n hx hb dX8_strikeRate_18 rfl (lv_at hl 0 rfl) ?_
  refine lv_iload_n hx hb dX8_strikeRate_19 rfl (lv_at hl 3 rfl) ?_
  refine lv_iconst (v := 1) hx hb dX8_strikeRate_20 (by decide) ?_
  have k23 : u12 (A (b + 44)) = some (.inr (8, [.int 6, .ref (A (b + 45)), .int 11])) := by have h9 : u12 (A (b + 44)) = some (.inr (8, [.int 6, .ref (A (b + 45)), .int (cs 3 7 1)])) := hM13 44 (by omega); rw [hr0] at h9; exact h9
  have k24 : u12 (A (b + 45)) = some (.inl (cy 0, 66, .inl (cs 3 1))) := hM13 45 (by omega)
  refine g_cI C0 G (g_runV C0 G (rest := []) (k_X6_get hfl pl 1 k23 k24 (by omega)) k23 rfl hY_X6_get mm_X8_221 mi_X6_get ml_X6_get ⟨(Nat.le_of_ble_eq_true rfl), (Nat.le_of_ble_eq_true rfl)⟩ rfl hl.1 rfl (Nat.le_of_ble_eq_true rfl) dX8_strikeRate_21 ⟨(Nat.le_of_ble_eq_true rfl), (Nat.le_of_ble_eq_true rfl)⟩) (kx_no rfl) (fun r27 u26 H locs hp25 G => ?_)
  obtain ⟨er28, eu26⟩ := hp25
  rw [eu26] at G
  refine lv_topv (v := (tget 6 11 66 (cs 3 1) pl 1)) er28 ?_
  refine lv_istore (lv' := [(4, .int (tget 6 11 66 (cs 3 1) pl 1)), (3, .ref (A (b + 44))), (0, .ref x), (1, .int 3), (2, .int pl)]) hx hb dX8_strikeRate_24 hl (by decide) rfl (fun ls hl => ?_)
  refine lv_iload hx hb dX8_strikeRate_26 (lv_at hl 0 rfl) ?_
  refine lv_if_ne (tgt := 42) hx hb dX8_strikeRate_28 (by decide) (fun _ => ?_) (fun c29 => absurd c29 (v2))
  refine lv_aload_n hx hb dX8_strikeRate_42 rfl (lv_at hl 1 rfl) ?_
  refine lv_iload_n hx hb dX8_strikeRate_43 rfl (lv_at hl 4 rfl) ?_
  refine lv_iconst (v := 0) hx hb dX8_strikeRate_44 (by decide) ?_
  refine g_cI C0 G (g_runV C0 G (rest := []) (k_X6_get hfl pl 0 k23 k24 (by omega)) k23 rfl hY_X6_get mm_X8_221 mi_X6_get ml_X6_get ⟨(Nat.le_of_ble_eq_true rfl), (Nat.le_of_ble_eq_true rfl)⟩ rfl hl.1 rfl (Nat.le_of_ble_eq_true rfl) dX8_strikeRate_45 ⟨(Nat.le_of_ble_eq_true rfl), (Nat.le_of_ble_eq_true rfl)⟩) (kx_no rfl) (fun r32 u31 H locs hp30 G => ?_)
  obtain ⟨er33, eu31⟩ := hp30
  rw [eu31] at G
  refine lv_topv (v := (tget 6 11 66 (cs 3 1) pl 0)) er33 ?_
  refine lv_bipush (v := 100) hx hb dX8_strikeRate_48 (by decide) ?_
  refine lv_imul hx hb dX8_strikeRate_50 ?_
  refine lv_i2f hx hb dX8_strikeRate_51 ?_
  refine lv_iload hx hb dX8_strikeRate_52 (lv_at hl 0 rfl) ?_
  refine lv_i2f hx hb dX8_strikeRate_54 ?_
  refine lv_fdiv hx hb dX8_strikeRate_55 (fdiv_n _ _ v2) ?_
  exact g_fret C0 G hr dX8_strikeRate_56 (Nat.le_of_ble_eq_true rfl) (Nat.le_of_ble_eq_true rfl) (by exact ⟨(by rw [X8_strikeRateY3_r0] <;> rfl), hM13, (fun a9 e9 h7 h8 => fr14 _ _ (by simp) (h8))⟩)
