set_option maxRecDepth 100000 in
theorem c_X8_bowlB1 {l : Launch} (hfl : l.stackTraces = false) {D : va_G} {cy : Nat → ClassId} {f : Hf} {sz : Nat} {x : Nat} {A : Nat → Nat} {b : Nat} {b2 : Nat} {lg : Nat} {lg_o : Nat} {tx : Nat} {rz : Nat} {ro : Nat} {xea : Int32} {xra : Int32} {xkr : Int32} (p : Int32) (h_x : f x = some (.inr (10, [.ref (A (b + 0)), .ref (A (b2 + 0)), .ref lg, .ref lg_o, .ref tx, .ref rz, .ref ro, .int xea, .int xra, .int xkr]))) (v0 : (X8_isWithin_x1 p 0 10) = 0) : hMet l yX8_bowl cX8_bowl 2 (some .int) { frames := 6, cells := 1, slots := 6, locals := 82 } D (hTy cy) f sz [.ref x, .int p] (hQi (fun r u => False) D f sz) (fun E u => E = "java/lang/IndexOutOfBoundsException" ∧ u = f) := by
  refine h_enter (by decide) hfl (Nat.le_of_ble_eq_true rfl) ?_
  intro p9 e9 s9 m9 b9 t9 c9 hsz C0 hr hnm G ls hl
  have hx := C0.1.1
  have hb := C0.1.2.1
  have hl : lv_has ls 2 [(0, .ref x), (1, .int p)] := hl
  refine lv_iload_n hx hb dX8_bowl_0 rfl (lv_at hl 1 rfl) ?_
  refine g_cI C0 G (g_runS C0 G (rest := []) (c_X8_isPlayer hfl p ) hY_X8_isPlayer mm_X8_81 ms_X8_isPlayer ⟨(Nat.le_of_ble_eq_true rfl), (Nat.le_of_ble_eq_true rfl)⟩ rfl hl.1 rfl (Nat.le_of_ble_eq_true rfl) dX8_bowl_1 ⟨(Nat.le_of_ble_eq_true rfl), (Nat.le_of_ble_eq_true rfl)⟩) (kx_no rfl) (fun r13 u12 H locs hp11 G => ?_)
  obtain ⟨er14, eu12⟩ := hp11
  rw [eu12] at G
  refine lv_topv (v := (X8_isWithin_x1 p 0 10)) er14 ?_
  refine lv_if_ne (tgt := 17) hx hb dX8_bowl_4 (by decide) (fun c15 => absurd (v0) c15) (fun _ => ?_)
  exact g_throw C0 G (X := "java/lang/IndexOutOfBoundsException") (by decide) mk_X8_85 mz_java_lang_IndexOutOfBoundsException (is := 87) (text := "no such player") (by decide) hat_89 hl.1 dX8_bowl_7 dX8_bowl_10 dX8_bowl_11 dX8_bowl_13 dX8_bowl_16 ⟨(Nat.le_of_ble_eq_true rfl), (Nat.le_of_ble_eq_true rfl)⟩ ⟨(Nat.le_of_ble_eq_true rfl), (Nat.le_of_ble_eq_true rfl)⟩ (Nat.le_of_ble_eq_true rfl) (Nat.le_of_ble_eq_true rfl) (by exact ⟨rfl, rfl⟩)
set_option maxRecDepth 100000 in
theorem c_X8_bowlR {l : Launch} (hfl : l.stackTraces = false) {D : va_G} {cy : Nat → ClassId} {f : Hf} {sz : Nat} {x : Nat} {A : Nat → Nat} {b : Nat} {b2 : Nat} {lg : Nat} {lg_o : Nat} {tx : Nat} {rz : Nat} {ro : Nat} {xea : Int32} {xra : Int32} {xkr : Int32} {q : Nat → Option Nat} {cm : Nat → Int32} {cs : Nat → Nat → Nat → Int32} (p : Int32) (h_x : f x = some (.inr (10, [.ref (A (b + 0)), .ref (A (b2 + 0)), .ref lg, .ref lg_o, .ref tx, .ref rz, .ref ro, .int xea, .int xra, .int xkr]))) (hAj : ∀ i j : Nat, i ≠ j → A i ≠ A j) (hM : MW A b cy q cm cs f) (hQ : HQ A b q) (v0 : ¬ (X8_isWithin_x1 p 0 10) = 0) (hPX : cm 0 = 0 ∨ PP cm cs) (hR : ¬ rfR cm cs (mkS 1 p 0 0 0 0 0 0 0) = 0) : hMet l yX8_bowl cX8_bowl 2 (some .int) { frames := 7, cells := 2, slots := 15, locals := 111 } D (hTy cy) f sz [.ref x, .int p] (hQi (fun r u => False) D f sz) (fun E u => E = "java/lang/IllegalStateException" ∧ u x = some (.inr (10, [.ref (A (b + 0)), .ref (A (b2 + 0)), .ref lg, .ref lg_o, .ref tx, .ref rz, .ref ro, .int xea, .int xra, .int (rfR cm cs (mkS 1 p 0 0 0 0 0 0 0))])) ∧ MW A b cy q cm cs u ∧ hFrL f u [x]) := by
  refine h_enter (by decide) hfl (Nat.le_of_ble_eq_true rfl) ?_
  intro p9 e9 s9 m9 b9 t9 c9 hsz C0 hr hnm G ls hl
  have hx := C0.1.1
  have hb := C0.1.2.1
  have hl : lv_has ls 2 [(0, .ref x), (1, .int p)] := hl
  refine lv_iload_n hx hb dX8_bowl_0 rfl (lv_at hl 1 rfl) ?_
  refine g_cI C0 G (g_runS C0 G (rest := []) (c_X8_isPlayer hfl p ) hY_X8_isPlayer mm_X8_81 ms_X8_isPlayer ⟨(Nat.le_of_ble_eq_true rfl), (Nat.le_of_ble_eq_true rfl)⟩ rfl hl.1 rfl (Nat.le_of_ble_eq_true rfl) dX8_bowl_1 ⟨(Nat.le_of_ble_eq_true rfl), (Nat.le_of_ble_eq_true rfl)⟩) (kx_no rfl) (fun r13 u12 H locs hp11 G => ?_)
  obtain ⟨er14, eu12⟩ := hp11
  rw [eu12] at G
  refine lv_topv (v := (X8_isWithin_x1 p 0 10)) er14 ?_
  refine lv_if_ne (tgt := 17) hx hb dX8_bowl_4 (by decide) (fun _ => ?_) (fun c15 => absurd c15 (v0))
  refine lv_aload_n hx hb dX8_bowl_17 rfl (lv_at hl 0 rfl) ?_
  refine lv_iconst (v := 1) hx hb dX8_bowl_18 (by decide) ?_
  refine lv_iload_n hx hb dX8_bowl_19 rfl (lv_at hl 1 rfl) ?_
  refine g_cR C0 G (g_runS C0 G (rest := [.ref x]) (c_X5_ofNumber hfl 1 p ) hY_X5_ofNumber mm_X8_92 ms_X5_ofNumber ⟨(Nat.le_of_ble_eq_true rfl), (Nat.le_of_ble_eq_true rfl)⟩ rfl hl.1 rfl (Nat.le_of_ble_eq_true rfl) dX8_bowl_20 ⟨(Nat.le_of_ble_eq_true rfl), (Nat.le_of_ble_eq_true rfl)⟩) (kx_no rfl) (fun a18 u17 H locs hp16 G => ?_)
  obtain ⟨nn19, k20, fr21⟩ := hp16
  have nin22 : a18 ∉ MA A b := MW_nonew hM nn19
  have k23 : u17 x = some (.inr (10, [.ref (A (b + 0)), .ref (A (b2 + 0)), .ref lg, .ref lg_o, .ref tx, .ref rz, .ref ro, .int xea, .int xra, .int xkr])) := fr21 _ _ (by simp) h_x
  have hM24 := MW_frN hM fr21 (fun y9 hy9 => absurd hy9 (by simp))
  exact g_cI C0 G (g_runV C0 G (rest := []) (c_X8_carryOutR hfl (A := A) (b := b) (b2 := b2) (xea := xea) (xra := xra) (xkr := xkr) (ty := 1) (nu := p) (wy := 0) (kd := 0) (ru := 0) (so := 0) (sb := 0) (sc := 0) (sh := 0) (cm := cm) (cs := cs) k23 k20 hAj hM24 hQ hPX hR) k23 rfl hY_X8_carryOut mm_X8_96 mi_X8_carryOut ml_X8_carryOut ⟨(Nat.le_of_ble_eq_true rfl), (Nat.le_of_ble_eq_true rfl)⟩ rfl hl.1 rfl (Nat.le_of_ble_eq_true rfl) dX8_bowl_23 ⟨(Nat.le_of_ble_eq_true rfl), (Nat.le_of_ble_eq_true rfl)⟩) (kx_out C0 (Nat.le_of_ble_eq_true rfl) (Nat.le_of_ble_eq_true rfl) (fun E9 u9 h9 => by
      obtain ⟨hE9, k25, hM26, fr27⟩ := h9
      exact ⟨hE9, k25, hM26, (fun a9 e9 h7 h8 => fr27 _ _ (fun q => h7 (by simp only [List.mem_cons, List.not_mem_nil, or_false] at q ⊢; first | exact q | (rcases q with q <;> simp [q]) | omega)) (fr21 _ _ (by simp) (h8)))⟩)) (fun _ _ _ _ h9 _ => (h9).elim)
def X8_bowlA_g0 (nS : Nat) (nC : Nat) (ge : Nat → Int32) : Nat → Int32 := (X8_carryOutA_g1 nS nC ge)
set_option maxRecDepth 100000 in
theorem c_X8_bowlA {l : Launch} (hfl : l.stackTraces = false) {D : va_G} {cy : Nat → ClassId} {f : Hf} {sz : Nat} {x : Nat} {lg : Nat} {sa : Nat} {ea : Nat} {A : Nat → Nat} {b : Nat} {b2 : Nat} {lg_o : Nat} {tx : Nat} {rz : Nat} {ro : Nat} {xea : Int32} {xra : Int32} {xkr : Int32} {no : Nat} {lo : Int32} {le : Int32} {lfi : Int32} {nS : Nat} {nC : Nat} {lun : Int32} {qs : Nat → Option Nat} {ge : Nat → Int32} {q : Nat → Option Nat} {cm : Nat → Int32} {cs : Nat → Nat → Nat → Int32} (p : Int32) (h_x : f x = some (.inr (10, [.ref (A (b + 0)), .ref (A (b2 + 0)), .ref lg, .ref lg_o, .ref tx, .ref rz, .ref ro, .int xea, .int xra, .int xkr]))) (h_lg : f lg = some (.inr (3, [.ref no, .ref sa, .ref ea, .int lo, .int le, .int lfi, .int (nI nS), .int (nI nC), .int lun]))) (h_sa : f sa = some (.inl (cy 4, 512, .inr (.inr (.inr (.inr qs)))))) (h_ea : f ea = some (.inl (cy 0, 512, .inl ge))) (hAj : ∀ i j : Nat, i ≠ j → A i ≠ A j) (hM : MW A b cy q cm cs f) (hQ : HQ A b q) (n_sa : sa ∉ MA A b) (n_ea : ea ∉ MA A b) (v0 : ¬ (X8_isWithin_x1 p 0 10) = 0) (hPX : cm 0 = 0 ∨ PP cm cs) (hPP : PP cm cs) (hR : rfR cm cs (mkS 1 p 0 0 0 0 0 0 0) = 0) (hnS : nS < 512) (hnC : nC < 512) (hro : X1_hasRoom_x1 nS nC 1 = 1) : hMet l yX8_bowl cX8_bowl 2 (some .int) { frames := 6, cells := 1, slots := 9, locals := 138 } D (hTy cy) f sz [.ref x, .int p] (hQi (fun r u => ∃ w9 : Nat, f w9 = none ∧ u w9 = some (.inr (7, [.int 1, .int p, .int 0, .int 0, .int 0, .int 0, .int 0, .int 0, .int 0])) ∧ r = (X8_carryOutA_r0 1 p 0 0 0 0 0 0 0 cm cs) ∧ u sa = some (.inl (cy 4, 512, .inr (.inr (.inr (.inr (va_up qs nS (some w9))))))) ∧ u lg = some (.inr (3, [.ref no, .ref sa, .ref ea, .int lo, .int le, .int lfi, .int (nI (nS + 1)), .int (nI (nC + 1)), .int ((if 7 < lun then 7 else lun) + 1)])) ∧ u ea = some (.inl (cy 0, 512, .inl (X8_bowlA_g0 nS nC ge))) ∧ MW A b cy q (pfM cm cs (mkS 1 p 0 0 0 0 0 0 0)) (pfS cm cs (mkS 1 p 0 0 0 0 0 0 0)) u ∧ hFrL f u (MA A b ++ [sa, lg, ea])) D f sz) hNo := by
  refine h_enter (by decide) hfl (Nat.le_of_ble_eq_true rfl) ?_
  intro p9 e9 s9 m9 b9 t9 c9 hsz C0 hr hnm G ls hl
  have hx := C0.1.1
  have hb := C0.1.2.1
  have hl : lv_has ls 2 [(0, .ref x), (1, .int p)] := hl
  refine lv_iload_n hx hb dX8_bowl_0 rfl (lv_at hl 1 rfl) ?_
  refine g_cI C0 G (g_runS C0 G (rest := []) (c_X8_isPlayer hfl p ) hY_X8_isPlayer mm_X8_81 ms_X8_isPlayer ⟨(Nat.le_of_ble_eq_true rfl), (Nat.le_of_ble_eq_true rfl)⟩ rfl hl.1 rfl (Nat.le_of_ble_eq_true rfl) dX8_bowl_1 ⟨(Nat.le_of_ble_eq_true rfl), (Nat.le_of_ble_eq_true rfl)⟩) (kx_no rfl) (fun r13 u12 H locs hp11 G => ?_)
  obtain ⟨er14, eu12⟩ := hp11
  rw [eu12] at G
  refine lv_topv (v := (X8_isWithin_x1 p 0 10)) er14 ?_
  refine lv_if_ne (tgt := 17) hx hb dX8_bowl_4 (by decide) (fun _ => ?_) (fun c15 => absurd c15 (v0))
  refine lv_aload_n hx hb dX8_bowl_17 rfl (lv_at hl 0 rfl) ?_
  refine lv_iconst (v := 1) hx hb dX8_bowl_18 (by decide) ?_
  refine lv_iload_n hx hb dX8_bowl_19 rfl (lv_at hl 1 rfl) ?_
  refine g_cR C0 G (g_runS C0 G (rest := [.ref x]) (c_X5_ofNumber hfl 1 p ) hY_X5_ofNumber mm_X8_92 ms_X5_ofNumber ⟨(Nat.le_of_ble_eq_true rfl), (Nat.le_of_ble_eq_true rfl)⟩ rfl hl.1 rfl (Nat.le_of_ble_eq_true rfl) dX8_bowl_20 ⟨(Nat.le_of_ble_eq_true rfl), (Nat.le_of_ble_eq_true rfl)⟩) (kx_no rfl) (fun a18 u17 H locs hp16 G => ?_)
  obtain ⟨nn19, k20, fr21⟩ := hp16
  have nin22 : a18 ∉ MA A b := MW_nonew hM nn19
  have k23 : u17 x = some (.inr (10, [.ref (A (b + 0)), .ref (A (b2 + 0)), .ref lg, .ref lg_o, .ref tx, .ref rz, .ref ro, .int xea, .int xra, .int xkr])) := fr21 _ _ (by simp) h_x
  have k24 : u17 lg = some (.inr (3, [.ref no, .ref sa, .ref ea, .int lo, .int le, .int lfi, .int (nI nS), .int (nI nC), .int lun])) := fr21 _ _ (by simp) h_lg
  have k25 : u17 sa = some (.inl (cy 4, 512, .inr (.inr (.inr (.inr qs))))) := fr21 _ _ (by simp) h_sa
  have k26 : u17 ea = some (.inl (cy 0, 512, .inl ge)) := fr21 _ _ (by simp) h_ea
  have hM27 := MW_frN hM fr21 (fun y9 hy9 => absurd hy9 (by simp))
  refine g_cI C0 G (g_runV C0 G (rest := []) (c_X8_carryOutA hfl (A := A) (b := b) (b2 := b2) (xea := xea) (xra := xra) (xkr := xkr) (lo := lo) (le := le) (lfi := lfi) (nS := nS) (nC := nC) (lun := lun) (qs := qs) (ge := ge) (ty := 1) (nu := p) (wy := 0) (kd := 0) (ru := 0) (so := 0) (sb := 0) (sc := 0) (sh := 0) (cm := cm) (cs := cs) k23 k24 k25 k26 k20 hAj hM27 hQ n_sa n_ea hPX hPP hR hnS hnC hro) k23 rfl hY_X8_carryOut mm_X8_96 mi_X8_carryOut ml_X8_carryOut ⟨(Nat.le_of_ble_eq_true rfl), (Nat.le_of_ble_eq_true rfl)⟩ rfl hl.1 rfl (Nat.le_of_ble_eq_true rfl) dX8_bowl_23 ⟨(Nat.le_of_ble_eq_true rfl), (Nat.le_of_ble_eq_true rfl)⟩) (kx_no rfl) (fun r30 u29 H locs hp28 G => ?_)
  obtain ⟨er36, k31, k32, k33, hM34, fr35⟩ := hp28
  refine lv_topv (v := (X8_carryOutA_r0 1 p 0 0 0 0 0 0 0 cm cs)) er36 ?_
  have k37 : u29 a18 = some (.inr (7, [.int 1, .int p, .int 0, .int 0, .int 0, .int 0, .int 0, .int 0, .int 0])) := fr35 _ _ (fun q9 => by rcases List.mem_append.mp q9 with q9 | q9; exact nin22 q9; simp only [List.mem_cons, List.not_mem_nil, or_false] at q9; rcases q9 with q9 | q9 | q9; exact (Ne.symm (hneN h_sa nn19)) q9; exact (Ne.symm (hneN h_lg nn19)) q9; exact (Ne.symm (hneN h_ea nn19)) q9) k20
  exact g_iret C0 G hr dX8_bowl_26 (Nat.le_of_ble_eq_true rfl) (Nat.le_of_ble_eq_true rfl) (by exact ⟨a18, nn19, k37, rfl, k31, k32, (by rw [(by rw [X8_bowlA_g0] : (X8_bowlA_g0 nS nC ge) = (X8_carryOutA_g1 nS nC ge))]; exact k33), hM34, (fun a9 e9 h7 h8 => fr35 _ _ (fun q => h7 (by simp only [List.mem_append, List.mem_cons, List.not_mem_nil, or_false] at q ⊢; rcases q with q | q | q | q <;> simp [q])) (fr21 _ _ (by simp) (h8)))⟩)
set_option maxRecDepth 100000 in
theorem c_X8_chooseB1 {l : Launch} (hfl : l.stackTraces = false) {D : va_G} {cy : Nat → ClassId} {f : Hf} {sz : Nat} {x : Nat} {A : Nat → Nat} {b : Nat} {b2 : Nat} {lg : Nat} {lg_o : Nat} {tx : Nat} {rz : Nat} {ro : Nat} {xea : Int32} {xra : Int32} {xkr : Int32} (p : Int32) (h_x : f x = some (.inr (10, [.ref (A (b + 0)), .ref (A (b2 + 0)), .ref lg, .ref lg_o, .ref tx, .ref rz, .ref ro, .int xea, .int xra, .int xkr]))) (v0 : (X8_isWithin_x1 p 0 10) = 0) : hMet l yX8_choose cX8_choose 2 (some .int) { frames := 6, cells := 1, slots := 6, locals := 82 } D (hTy cy) f sz [.ref x, .int p] (hQi (fun r u => False) D f sz) (fun E u => E = "java/lang/IndexOutOfBoundsException" ∧ u = f) := by
  refine h_enter (by decide) hfl (Nat.le_of_ble_eq_true rfl) ?_
  intro p9 e9 s9 m9 b9 t9 c9 hsz C0 hr hnm G ls hl
  have hx := C0.1.1
  have hb := C0.1.2.1
  have hl : lv_has ls 2 [(0, .ref x), (1, .int p)] := hl
  refine lv_iload_n hx hb dX8_choose_0 rfl (lv_at hl 1 rfl) ?_
  refine g_cI C0 G (g_runS C0 G (rest := []) (c_X8_isPlayer hfl p ) hY_X8_isPlayer mm_X8_81 ms_X8_isPlayer ⟨(Nat.le_of_ble_eq_true rfl), (Nat.le_of_ble_eq_true rfl)⟩ rfl hl.1 rfl (Nat.le_of_ble_eq_true rfl) dX8_choose_1 ⟨(Nat.le_of_ble_eq_true rfl), (Nat.le_of_ble_eq_true rfl)⟩) (kx_no rfl) (fun r13 u12 H locs hp11 G => ?_)
  obtain ⟨er14, eu12⟩ := hp11
  rw [eu12] at G
  refine lv_topv (v := (X8_isWithin_x1 p 0 10)) er14 ?_
  refine lv_if_ne (tgt := 17) hx hb dX8_choose_4 (by decide) (fun c15 => absurd (v0) c15) (fun _ => ?_)
  exact g_throw C0 G (X := "java/lang/IndexOutOfBoundsException") (by decide) mk_X8_85 mz_java_lang_IndexOutOfBoundsException (is := 87) (text := "no such player") (by decide) hat_89 hl.1 dX8_choose_7 dX8_choose_10 dX8_choose_11 dX8_choose_13 dX8_choose_16 ⟨(Nat.le_of_ble_eq_true rfl), (Nat.le_of_ble_eq_true rfl)⟩ ⟨(Nat.le_of_ble_eq_true rfl), (Nat.le_of_ble_eq_true rfl)⟩ (Nat.le_of_ble_eq_true rfl) (Nat.le_of_ble_eq_true rfl) (by exact ⟨rfl, rfl⟩)
set_option maxRecDepth 100000 in
theorem c_X8_chooseR {l : Launch} (hfl : l.stackTraces = false) {D : va_G} {cy : Nat → ClassId} {f : Hf} {sz : Nat} {x : Nat} {A : Nat → Nat} {b : Nat} {b2 : Nat} {lg : Nat} {lg_o : Nat} {tx : Nat} {rz : Nat} {ro : Nat} {xea : Int32} {xra : Int32} {xkr : Int32} {q : Nat → Option Nat} {cm : Nat → Int32} {cs : Nat → Nat → Nat → Int32} (p : Int32) (h_x : f x = some (.inr (10, [.ref (A (b + 0)), .ref (A (b2 + 0)), .ref lg, .ref lg_o, .ref tx, .ref rz, .ref ro, .int xea, .int xra, .int xkr]))) (hAj : ∀ i j : Nat, i ≠ j → A i ≠ A j) (hM : MW A b cy q cm cs f) (hQ : HQ A b q) (v0 : ¬ (X8_isWithin_x1 p 0 10) = 0) (hPX : cm 0 = 0 ∨ PP cm cs) (hR : ¬ rfR cm cs (mkS 5 p 0 0 0 0 0 0 0) = 0) : hMet l yX8_choose cX8_choose 2 (some .int) { frames := 7, cells := 2, slots := 15, locals := 111 } D (hTy cy) f sz [.ref x, .int p] (hQi (fun r u => False) D f sz) (fun E u => E = "java/lang/IllegalStateException" ∧ u x = some (.inr (10, [.ref (A (b + 0)), .ref (A (b2 + 0)), .ref lg, .ref lg_o, .ref tx, .ref rz, .ref ro, .int xea, .int xra, .int (rfR cm cs (mkS 5 p 0 0 0 0 0 0 0))])) ∧ MW A b cy q cm cs u ∧ hFrL f u [x]) := by
  refine h_enter (by decide) hfl (Nat.le_of_ble_eq_true rfl) ?_
  intro p9 e9 s9 m9 b9 t9 c9 hsz C0 hr hnm G ls hl
  have hx := C0.1.1
  have hb := C0.1.2.1
  have hl : lv_has ls 2 [(0, .ref x), (1, .int p)] := hl
  refine lv_iload_n hx hb dX8_choose_0 rfl (lv_at hl 1 rfl) ?_
  refine g_cI C0 G (g_runS C0 G (rest := []) (c_X8_isPlayer hfl p ) hY_X8_isPlayer mm_X8_81 ms_X8_isPlayer ⟨(Nat.le_of_ble_eq_true rfl), (Nat.le_of_ble_eq_true rfl)⟩ rfl hl.1 rfl (Nat.le_of_ble_eq_true rfl) dX8_choose_1 ⟨(Nat.le_of_ble_eq_true rfl), (Nat.le_of_ble_eq_true rfl)⟩) (kx_no rfl) (fun r13 u12 H locs hp11 G => ?_)
  obtain ⟨er14, eu12⟩ := hp11
  rw [eu12] at G
  refine lv_topv (v := (X8_isWithin_x1 p 0 10)) er14 ?_
  refine lv_if_ne (tgt := 17) hx hb dX8_choose_4 (by decide) (fun _ => ?_) (fun c15 => absurd c15 (v0))
  refine lv_aload_n hx hb dX8_choose_17 rfl (lv_at hl 0 rfl) ?_
  refine lv_iconst (v := 5) hx hb dX8_choose_18 (by decide) ?_
  refine lv_iload_n hx hb dX8_choose_19 rfl (lv_at hl 1 rfl) ?_
  refine g_cR C0 G (g_runS C0 G (rest := [.ref x]) (c_X5_ofNumber hfl 5 p ) hY_X5_ofNumber mm_X8_92 ms_X5_ofNumber ⟨(Nat.le_of_ble_eq_true rfl), (Nat.le_of_ble_eq_true rfl)⟩ rfl hl.1 rfl (Nat.le_of_ble_eq_true rfl) dX8_choose_20 ⟨(Nat.le_of_ble_eq_true rfl), (Nat.le_of_ble_eq_true rfl)⟩) (kx_no rfl) (fun a18 u17 H locs hp16 G => ?_)
  obtain ⟨nn19, k20, fr21⟩ := hp16
  have nin22 : a18 ∉ MA A b := MW_nonew hM nn19
  have k23 : u17 x = some (.inr (10, [.ref (A (b + 0)), .ref (A (b2 + 0)), .ref lg, .ref lg_o, .ref tx, .ref rz, .ref ro, .int xea, .int xra, .int xkr])) := fr21 _ _ (by simp) h_x
  have hM24 := MW_frN hM fr21 (fun y9 hy9 => absurd hy9 (by simp))
  exact g_cI C0 G (g_runV C0 G (rest := []) (c_X8_carryOutR hfl (A := A) (b := b) (b2 := b2) (xea := xea) (xra := xra) (xkr := xkr) (ty := 5) (nu := p) (wy := 0) (kd := 0) (ru := 0) (so := 0) (sb := 0) (sc := 0) (sh := 0) (cm := cm) (cs := cs) k23 k20 hAj hM24 hQ hPX hR) k23 rfl hY_X8_carryOut mm_X8_96 mi_X8_carryOut ml_X8_carryOut ⟨(Nat.le_of_ble_eq_true rfl), (Nat.le_of_ble_eq_true rfl)⟩ rfl hl.1 rfl (Nat.le_of_ble_eq_true rfl) dX8_choose_23 ⟨(Nat.le_of_ble_eq_true rfl), (Nat.le_of_ble_eq_true rfl)⟩) (kx_out C0 (Nat.le_of_ble_eq_true rfl) (Nat.le_of_ble_eq_true rfl) (fun E9 u9 h9 => by
      obtain ⟨hE9, k25, hM26, fr27⟩ := h9
      exact ⟨hE9, k25, hM26, (fun a9 e9 h7 h8 => fr27 _ _ (fun q => h7 (by simp only [List.mem_cons, List.not_mem_nil, or_false] at q ⊢; first | exact q | (rcases q with q <;> simp [q]) | omega)) (fr21 _ _ (by simp) (h8)))⟩)) (fun _ _ _ _ h9 _ => (h9).elim)
def X8_chooseA_g0 (nS : Nat) (nC : Nat) (ge : Nat → Int32) : Nat → Int32 := (X8_carryOutA_g1 nS nC ge)
set_option maxRecDepth 100000 in
theorem c_X8_chooseA {l : Launch} (hfl : l.stackTraces = false) {D : va_G} {cy : Nat → ClassId} {f : Hf} {sz : Nat} {x : Nat} {lg : Nat} {sa : Nat} {ea : Nat} {A : Nat → Nat} {b : Nat} {b2 : Nat} {lg_o : Nat} {tx : Nat} {rz : Nat} {ro : Nat} {xea : Int32} {xra : Int32} {xkr : Int32} {no : Nat} {lo : Int32} {le : Int32} {lfi : Int32} {nS : Nat} {nC : Nat} {lun : Int32} {qs : Nat → Option Nat} {ge : Nat → Int32} {q : Nat → Option Nat} {cm : Nat → Int32} {cs : Nat → Nat → Nat → Int32} (p : Int32) (h_x : f x = some (.inr (10, [.ref (A (b + 0)), .ref (A (b2 + 0)), .ref lg, .ref lg_o, .ref tx, .ref rz, .ref ro, .int xea, .int xra, .int xkr]))) (h_lg : f lg = some (.inr (3, [.ref no, .ref sa, .ref ea, .int lo, .int le, .int lfi, .int (nI nS), .int (nI nC), .int lun]))) (h_sa : f sa = some (.inl (cy 4, 512, .inr (.inr (.inr (.inr qs)))))) (h_ea : f ea = some (.inl (cy 0, 512, .inl ge))) (hAj : ∀ i j : Nat, i ≠ j → A i ≠ A j) (hM : MW A b cy q cm cs f) (hQ : HQ A b q) (n_sa : sa ∉ MA A b) (n_ea : ea ∉ MA A b) (v0 : ¬ (X8_isWithin_x1 p 0 10) = 0) (hPX : cm 0 = 0 ∨ PP cm cs) (hPP : PP cm cs) (hR : rfR cm cs (mkS 5 p 0 0 0 0 0 0 0) = 0) (hnS : nS < 512) (hnC : nC < 512) (hro : X1_hasRoom_x1 nS nC 1 = 1) : hMet l yX8_choose cX8_choose 2 (some .int) { frames := 6, cells := 1, slots := 9, locals := 138 } D (hTy cy) f sz [.ref x, .int p] (hQi (fun r u => ∃ w9 : Nat, f w9 = none ∧ u w9 = some (.inr (7, [.int 5, .int p, .int 0, .int 0, .int 0, .int 0, .int 0, .int 0, .int 0])) ∧ r = (X8_carryOutA_r0 5 p 0 0 0 0 0 0 0 cm cs) ∧ u sa = some (.inl (cy 4, 512, .inr (.inr (.inr (.inr (va_up qs nS (some w9))))))) ∧ u lg = some (.inr (3, [.ref no, .ref sa, .ref ea, .int lo, .int le, .int lfi, .int (nI (nS + 1)), .int (nI (nC + 1)), .int ((if 7 < lun then 7 else lun) + 1)])) ∧ u ea = some (.inl (cy 0, 512, .inl (X8_chooseA_g0 nS nC ge))) ∧ MW A b cy q (pfM cm cs (mkS 5 p 0 0 0 0 0 0 0)) (pfS cm cs (mkS 5 p 0 0 0 0 0 0 0)) u ∧ hFrL f u (MA A b ++ [sa, lg, ea])) D f sz) hNo := by
  refine h_enter (by decide) hfl (Nat.le_of_ble_eq_true rfl) ?_
  intro p9 e9 s9 m9 b9 t9 c9 hsz C0 hr hnm G ls hl
  have hx := C0.1.1
  have hb := C0.1.2.1
  have hl : lv_has ls 2 [(0, .ref x), (1, .int p)] := hl
  refine lv_iload_n hx hb dX8_choose_0 rfl (lv_at hl 1 rfl) ?_
  refine g_cI C0 G (g_runS C0 G (rest := []) (c_X8_isPlayer hfl p ) hY_X8_isPlayer mm_X8_81 ms_X8_isPlayer ⟨(Nat.le_of_ble_eq_true rfl), (Nat.le_of_ble_eq_true rfl)⟩ rfl hl.1 rfl (Nat.le_of_ble_eq_true rfl) dX8_choose_1 ⟨(Nat.le_of_ble_eq_true rfl), (Nat.le_of_ble_eq_true rfl)⟩) (kx_no rfl) (fun r13 u12 H locs hp11 G => ?_)
  obtain ⟨er14, eu12⟩ := hp11
  rw [eu12] at G
  refine lv_topv (v := (X8_isWithin_x1 p 0 10)) er14 ?_
  refine lv_if_ne (tgt := 17) hx hb dX8_choose_4 (by decide) (fun _ => ?_) (fun c15 => absurd c15 (v0))
  refine lv_aload_n hx hb dX8_choose_17 rfl (lv_at hl 0 rfl) ?_
  refine lv_iconst (v := 5) hx hb dX8_choose_18 (by decide) ?_
  refine lv_iload_n hx hb dX8_choose_19 rfl (lv_at hl 1 rfl) ?_
  refine g_cR C0 G (g_runS C0 G (rest := [.ref x]) (c_X5_ofNumber hfl 5 p ) hY_X5_ofNumber mm_X8_92 ms_X5_ofNumber ⟨(Nat.le_of_ble_eq_true rfl), (Nat.le_of_ble_eq_true rfl)⟩ rfl hl.1 rfl (Nat.le_of_ble_eq_true rfl) dX8_choose_20 ⟨(Nat.le_of_ble_eq_true rfl), (Nat.le_of_ble_eq_true rfl)⟩) (kx_no rfl) (fun a18 u17 H locs hp16 G => ?_)
  obtain ⟨nn19, k20, fr21⟩ := hp16
  have nin22 : a18 ∉ MA A b := MW_nonew hM nn19
  have k23 : u17 x = some (.inr (10, [.ref (A (b + 0)), .ref (A (b2 + 0)), .ref lg, .ref lg_o, .ref tx, .ref rz, .ref ro, .int xea, .int xra, .int xkr])) := fr21 _ _ (by simp) h_x
  have k24 : u17 lg = some (.inr (3, [.ref no, .ref sa, .ref ea, .int lo, .int le, .int lfi, .int (nI nS), .int (nI nC), .int lun])) := fr21 _ _ (by simp) h_lg
  have k25 : u17 sa = some (.inl (cy 4, 512, .inr (.inr (.inr (.inr qs))))) := fr21 _ _ (by simp) h_sa
  have k26 : u17 ea = some (.inl (cy 0, 512, .inl ge)) := fr21 _ _ (by simp) h_ea
  have hM27 := MW_frN hM fr21 (fun y9 hy9 => absurd hy9 (by simp))
  refine g_cI C0 G (g_runV C0 G (rest := []) (c_X8_carryOutA hfl (A := A) (b := b) (b2 := b2) (xea := xea) (xra := xra) (xkr := xkr) (lo := lo) (le := le) (lfi := lfi) (nS := nS) (nC := nC) (lun := lun) (qs := qs) (ge := ge) (ty := 5) (nu := p) (wy := 0) (kd := 0) (ru := 0) (so := 0) (sb := 0) (sc := 0) (sh := 0) (cm := cm) (cs := cs) k23 k24 k25 k26 k20 hAj hM27 hQ n_sa n_ea hPX hPP hR hnS hnC hro) k23 rfl hY_X8_carryOut mm_X8_96 mi_X8_carryOut ml_X8_carryOut ⟨(Nat.le_of_ble_eq_true rfl), (Nat.le_of_ble_eq_true rfl)⟩ rfl hl.1 rfl (Nat.le_of_ble_eq_true rfl) dX8_choose_23 ⟨(Nat.le_of_ble_eq_true rfl), (Nat.le_of_ble_eq_true rfl)⟩) (kx_no rfl) (fun r30 u29 H locs hp28 G => ?_)
  obtain ⟨er36, k31, k32, k33, hM34, fr35⟩ := hp28
  refine lv_topv (v := (X8_carryOutA_r0 5 p 0 0 0 0 0 0 0 cm cs)) er36 ?_
  have k37 : u29 a18 = some (.inr (7, [.int 5, .int p, .int 0, .int 0, .int 0, .int 0, .int 0, .int 0, .int 0])) := fr35 _ _ (fun q9 => by rcases List.mem_append.mp q9 with q9 | q9; exact nin22 q9; simp only [List.mem_cons, List.not_mem_nil, or_false] at q9; rcases q9 with q9 | q9 | q9; exact (Ne.symm (hneN h_sa nn19)) q9; exact (Ne.symm (hneN h_lg nn19)) q9; exact (Ne.symm (hneN h_ea nn19)) q9) k20
  exact g_iret C0 G hr dX8_choose_26 (Nat.le_of_ble_eq_true rfl) (Nat.le_of_ble_eq_true rfl) (by exact ⟨a18, nn19, k37, rfl, k31, k32, (by rw [(by rw [X8_chooseA_g0] : (X8_chooseA_g0 nS nC ge) = (X8_carryOutA_g1 nS nC ge))]; exact k33), hM34, (fun a9 e9 h7 h8 => fr35 _ _ (fun q => h7 (by simp only [List.mem_append, List.mem_cons, List.not_mem_nil, or_false] at q ⊢; rcases q with q | q | q | q <;> simp [q])) (fr21 _ _ (by simp) (h8)))⟩)
set_option maxRecDepth 100000 in
theorem c_X8_declareR {l : Launch} (hfl : l.stackTraces = false) {D : va_G} {cy : Nat → ClassId} {f : Hf} {sz : Nat} {x : Nat} {A : Nat → Nat} {b : Nat} {b2 : Nat} {lg : Nat} {lg_o : Nat} {tx : Nat} {rz : Nat} {ro : Nat} {xea : Int32} {xra : Int32} {xkr : Int32} {q : Nat → Option Nat} {cm : Nat → Int32} {cs : Nat → Nat → Nat → Int32} (h_x : f x = some (.inr (10, [.ref (A (b + 0)), .ref (A (b2 + 0)), .ref lg, .ref lg_o, .ref tx, .ref rz, .ref ro, .int xea, .int xra, .int xkr]))) (hAj : ∀ i j : Nat, i ≠ j → A i ≠ A j) (hM : MW A b cy q cm cs f) (hQ : HQ A b q) (hPX : cm 0 = 0 ∨ PP cm cs) (hR : ¬ rfR cm cs (mkS 6 0 0 0 0 0 0 0 0) = 0) : hMet l yX8_declare cX8_declare 1 (some .int) { frames := 7, cells := 2, slots := 15, locals := 111 } D (hTy cy) f sz [.ref x] (hQi (fun r u => False) D f sz) (fun E u => E = "java/lang/IllegalStateException" ∧ u x = some (.inr (10, [.ref (A (b + 0)), .ref (A (b2 + 0)), .ref lg, .ref lg_o, .ref tx, .ref rz, .ref ro, .int xea, .int xra, .int (rfR cm cs (mkS 6 0 0 0 0 0 0 0 0))])) ∧ MW A b cy q cm cs u ∧ hFrL f u [x]) := by
  refine h_enter (by decide) hfl (Nat.le_of_ble_eq_true rfl) ?_
  intro p9 e9 s9 m9 b9 t9 c9 hsz C0 hr hnm G ls hl
  have hx := C0.1.1
  have hb := C0.1.2.1
  have hl : lv_has ls 1 [(0, .ref x)] := hl
  refine lv_aload_n hx hb dX8_declare_0 rfl (lv_at hl 0 rfl) ?_
  refine lv_bipush (v := 6) hx hb dX8_declare_1 (by decide) ?_
  refine lv_iconst (v := 0) hx hb dX8_declare_3 (by decide) ?_
  refine g_cR C0 G (g_runS C0 G (rest := [.ref x]) (c_X5_ofNumber hfl 6 0 ) hY_X5_ofNumber mm_X8_92 ms_X5_ofNumber ⟨(Nat.le_of_ble_eq_true rfl), (Nat.le_of_ble_eq_true rfl)⟩ rfl hl.1 rfl (Nat.le_of_ble_eq_true rfl) dX8_declare_4 ⟨(Nat.le_of_ble_eq_true rfl), (Nat.le_of_ble_eq_true rfl)⟩) (kx_no rfl) (fun a13 u12 H locs hp11 G => ?_)
  obtain ⟨nn14, k15, fr16⟩ := hp11
  have nin17 : a13 ∉ MA A b := MW_nonew hM nn14
  have k18 : u12 x = some (.inr (10, [.ref (A (b + 0)), .ref (A (b2 + 0)), .ref lg, .ref lg_o, .ref tx, .ref rz, .ref ro, .int xea, .int xra, .int xkr])) := fr16 _ _ (by simp) h_x
  have hM19 := MW_frN hM fr16 (fun y9 hy9 => absurd hy9 (by simp))
  exact g_cI C0 G (g_runV C0 G (rest := []) (c_X8_carryOutR hfl (A := A) (b := b) (b2 := b2) (xea := xea) (xra := xra) (xkr := xkr) (ty := 6) (nu := 0) (wy := 0) (kd := 0) (ru := 0) (so := 0) (sb := 0) (sc := 0) (sh := 0) (cm := cm) (cs := cs) k18 k15 hAj hM19 hQ hPX hR) k18 rfl hY_X8_carryOut mm_X8_96 mi_X8_carryOut ml_X8_carryOut ⟨(Nat.le_of_ble_eq_true rfl), (Nat.le_of_ble_eq_true rfl)⟩ rfl hl.1 rfl (Nat.le_of_ble_eq_true rfl) dX8_declare_7 ⟨(Nat.le_of_ble_eq_true rfl), (Nat.le_of_ble_eq_true rfl)⟩) (kx_out C0 (Nat.le_of_ble_eq_true rfl) (Nat.le_of_ble_eq_true rfl) (fun E9 u9 h9 => by
      obtain ⟨hE9, k20, hM21, fr22⟩ := h9
      exact ⟨hE9, k20, hM21, (fun a9 e9 h7 h8 => fr22 _ _ (fun q => h7 (by simp only [List.mem_cons, List.not_mem_nil, or_false] at q ⊢; first | exact q | (rcases q with q <;> simp [q]) | omega)) (fr16 _ _ (by simp) (h8)))⟩)) (fun _ _ _ _ h9 _ => (h9).elim)
def X8_declareA_g0 (nS : Nat) (nC : Nat) (ge : Nat → Int32) : Nat → Int32 := (X8_carryOutA_g1 nS nC ge)
set_option maxRecDepth 100000 in
theorem c_X8_declareA {l : Launch} (hfl : l.stackTraces = false) {D : va_G} {cy : Nat → ClassId} {f : Hf} {sz : Nat} {x : Nat} {lg : Nat} {sa : Nat} {ea : Nat} {A : Nat → Nat} {b : Nat} {b2 : Nat} {lg_o : Nat} {tx : Nat} {rz : Nat} {ro : Nat} {xea : Int32} {xra : Int32} {xkr : Int32} {no : Nat} {lo : Int32} {le : Int32} {lfi : Int32} {nS : Nat} {nC : Nat} {lun : Int32} {qs : Nat → Option Nat} {ge : Nat → Int32} {q : Nat → Option Nat} {cm : Nat → Int32} {cs : Nat → Nat → Nat → Int32} (h_x : f x = some (.inr (10, [.ref (A (b + 0)), .ref (A (b2 + 0)), .ref lg, .ref lg_o, .ref tx, .ref rz, .ref ro, .int xea, .int xra, .int xkr]))) (h_lg : f lg = some (.inr (3, [.ref no, .ref sa, .ref ea, .int lo, .int le, .int lfi, .int (nI nS), .int (nI nC), .int lun]))) (h_sa : f sa = some (.inl (cy 4, 512, .inr (.inr (.inr (.inr qs)))))) (h_ea : f ea = some (.inl (cy 0, 512, .inl ge))) (hAj : ∀ i j : Nat, i ≠ j → A i ≠ A j) (hM : MW A b cy q cm cs f) (hQ : HQ A b q) (n_sa : sa ∉ MA A b) (n_ea : ea ∉ MA A b) (hPX : cm 0 = 0 ∨ PP cm cs) (hPP : PP cm cs) (hR : rfR cm cs (mkS 6 0 0 0 0 0 0 0 0) = 0) (hnS : nS < 512) (hnC : nC < 512) (hro : X1_hasRoom_x1 nS nC 1 = 1) : hMet l yX8_declare cX8_declare 1 (some .int) { frames := 6, cells := 1, slots := 9, locals := 138 } D (hTy cy) f sz [.ref x] (hQi (fun r u => ∃ w9 : Nat, f w9 = none ∧ u w9 = some (.inr (7, [.int 6, .int 0, .int 0, .int 0, .int 0, .int 0, .int 0, .int 0, .int 0])) ∧ r = (X8_carryOutA_r0 6 0 0 0 0 0 0 0 0 cm cs) ∧ u sa = some (.inl (cy 4, 512, .inr (.inr (.inr (.inr (va_up qs nS (some w9))))))) ∧ u lg = some (.inr (3, [.ref no, .ref sa, .ref ea, .int lo, .int le, .int lfi, .int (nI (nS + 1)), .int (nI (nC + 1)), .int ((if 7 < lun then 7 else lun) + 1)])) ∧ u ea = some (.inl (cy 0, 512, .inl (X8_declareA_g0 nS nC ge))) ∧ MW A b cy q (pfM cm cs (mkS 6 0 0 0 0 0 0 0 0)) (pfS cm cs (mkS 6 0 0 0 0 0 0 0 0)) u ∧ hFrL f u (MA A b ++ [sa, lg, ea])) D f sz) hNo := by
  refine h_enter (by decide) hfl (Nat.le_of_ble_eq_true rfl) ?_
  intro p9 e9 s9 m9 b9 t9 c9 hsz C0 hr hnm G ls hl
  have hx := C0.1.1
  have hb := C0.1.2.1
  have hl : lv_has ls 1 [(0, .ref x)] := hl
  refine lv_aload_n hx hb dX8_declare_0 rfl (lv_at hl 0 rfl) ?_
  refine lv_bipush (v := 6) hx hb dX8_declare_1 (by decide) ?_
  refine lv_iconst (v := 0) hx hb dX8_declare_3 (by decide) ?_
  refine g_cR C0 G (g_runS C0 G (rest := [.ref x]) (c_X5_ofNumber hfl 6 0 ) hY_X5_ofNumber mm_X8_92 ms_X5_ofNumber ⟨(Nat.le_of_ble_eq_true rfl), (Nat.le_of_ble_eq_true rfl)⟩ rfl hl.1 rfl (Nat.le_of_ble_eq_true rfl) dX8_declare_4 ⟨(Nat.le_of_ble_eq_true rfl), (Nat.le_of_ble_eq_true rfl)⟩) (kx_no rfl) (fun a13 u12 H locs hp11 G => ?_)
  obtain ⟨nn14, k15, fr16⟩ := hp11
  have nin17 : a13 ∉ MA A b := MW_nonew hM nn14
  have k18 : u12 x = some (.inr (10, [.ref (A (b + 0)), .ref (A (b2 + 0)), .ref lg, .ref lg_o, .ref tx, .ref rz, .ref ro, .int xea, .int xra, .int xkr])) := fr16 _ _ (by simp) h_x
  have k19 : u12 lg = some (.inr (3, [.ref no, .ref sa, .ref ea, .int lo, .int le, .int lfi, .int (nI nS), .int (nI nC), .int lun])) := fr16 _ _ (by simp) h_lg
  have k20 : u12 sa = some (.inl (cy 4, 512, .inr (.inr (.inr (.inr qs))))) := fr16 _ _ (by simp) h_sa
  have k21 : u12 ea = some (.inl (cy 0, 512, .inl ge)) := fr16 _ _ (by simp) h_ea
  have hM22 := MW_frN hM fr16 (fun y9 hy9 => absurd hy9 (by simp))
  refine g_cI C0 G (g_runV C0 G (rest := []) (c_X8_carryOutA hfl (A := A) (b := b) (b2 := b2) (xea := xea) (xra := xra) (xkr := xkr) (lo := lo) (le := le) (lfi := lfi) (nS := nS) (nC := nC) (lun := lun) (qs := qs) (ge := ge) (ty := 6) (nu := 0) (wy := 0) (kd := 0) (ru := 0) (so := 0) (sb := 0) (sc := 0) (sh := 0) (cm := cm) (cs := cs) k18 k19 k20 k21 k15 hAj hM22 hQ n_sa n_ea hPX hPP hR hnS hnC hro) k18 rfl hY_X8_carryOut mm_X8_96 mi_X8_carryOut ml_X8_carryOut ⟨(Nat.le_of_ble_eq_true rfl), (Nat.le_of_ble_eq_true rfl)⟩ rfl hl.1 rfl (Nat.le_of_ble_eq_true rfl) dX8_declare_7 ⟨(Nat.le_of_ble_eq_true rfl), (Nat.le_of_ble_eq_true rfl)⟩) (kx_no rfl) (fun r25 u24 H locs hp23 G => ?_)
  obtain ⟨er31, k26, k27, k28, hM29, fr30⟩ := hp23
  refine lv_topv (v := (X8_carryOutA_r0 6 0 0 0 0 0 0 0 0 cm cs)) er31 ?_
  have k32 : u24 a13 = some (.inr (7, [.int 6, .int 0, .int 0, .int 0, .int 0, .int 0, .int 0, .int 0, .int 0])) := fr30 _ _ (fun q9 => by rcases List.mem_append.mp q9 with q9 | q9; exact nin17 q9; simp only [List.mem_cons, List.not_mem_nil, or_false] at q9; rcases q9 with q9 | q9 | q9; exact (Ne.symm (hneN h_sa nn14)) q9; exact (Ne.symm (hneN h_lg nn14)) q9; exact (Ne.symm (hneN h_ea nn14)) q9) k15
  exact g_iret C0 G hr dX8_declare_10 (Nat.le_of_ble_eq_true rfl) (Nat.le_of_ble_eq_true rfl) (by exact ⟨a13, nn14, k32, rfl, k26, k27, (by rw [(by rw [X8_declareA_g0] : (X8_declareA_g0 nS nC ge) = (X8_carryOutA_g1 nS nC ge))]; exact k28), hM29, (fun a9 e9 h7 h8 => fr30 _ _ (fun q => h7 (by simp only [List.mem_append, List.mem_cons, List.not_mem_nil, or_false] at q ⊢; rcases q with q | q | q | q <;> simp [q])) (fr16 _ _ (by simp) (h8)))⟩)
set_option maxRecDepth 100000 in
theorem c_X8_loseOversB1 {l : Launch} (hfl : l.stackTraces = false) {D : va_G} {cy : Nat → ClassId} {f : Hf} {sz : Nat} {x : Nat} {A : Nat → Nat} {b : Nat} {b2 : Nat} {lg : Nat} {lg_o : Nat} {tx : Nat} {rz : Nat} {ro : Nat} {xea : Int32} {xra : Int32} {xkr : Int32} (ov : Int32) (h_x : f x = some (.inr (10, [.ref (A (b + 0)), .ref (A (b2 + 0)), .ref lg, .ref lg_o, .ref tx, .ref rz, .ref ro, .int xea, .int xra, .int xkr]))) (v0 : (X8_isWithin_x1 ov 1 19) = 0) : hMet l yX8_loseOvers cX8_loseOvers 2 (some .int) { frames := 6, cells := 1, slots := 6, locals := 82 } D (hTy cy) f sz [.ref x, .int ov] (hQi (fun r u => False) D f sz) (fun E u => E = "java/lang/IllegalArgumentException" ∧ u = f) := by
  refine h_enter (by decide) hfl (Nat.le_of_ble_eq_true rfl) ?_
  intro p9 e9 s9 m9 b9 t9 c9 hsz C0 hr hnm G ls hl
  have hx := C0.1.1
  have hb := C0.1.2.1
  have hl : lv_has ls 2 [(0, .ref x), (1, .int ov)] := hl
  refine lv_iload_n hx hb dX8_loseOvers_0 rfl (lv_at hl 1 rfl) ?_
  refine lv_iconst (v := 1) hx hb dX8_loseOvers_1 (by decide) ?_
  refine lv_bipush (v := 19) hx hb dX8_loseOvers_2 (by decide) ?_
  refine g_cI C0 G (g_runS C0 G (rest := []) (c_X8_isWithin hfl ov 1 19 ) hY_X8_isWithin mm_X8_56 ms_X8_isWithin ⟨(Nat.le_of_ble_eq_true rfl), (Nat.le_of_ble_eq_true rfl)⟩ rfl hl.1 rfl (Nat.le_of_ble_eq_true rfl) dX8_loseOvers_4 ⟨(Nat.le_of_ble_eq_true rfl), (Nat.le_of_ble_eq_true rfl)⟩) (kx_no rfl) (fun r13 u12 H locs hp11 G => ?_)
  obtain ⟨er14, eu12⟩ := hp11
  rw [eu12] at G
  refine lv_topv (v := (X8_isWithin_x1 ov 1 19)) er14 ?_
  refine lv_if_ne (tgt := 20) hx hb dX8_loseOvers_7 (by decide) (fun c15 => absurd (v0) c15) (fun _ => ?_)
  exact g_throw C0 G (X := "java/lang/IllegalArgumentException") (by decide) mk_X8_60 mz_java_lang_IllegalArgumentException (is := 126) (text := "number of overs out of range") (by decide) hat_64 hl.1 dX8_loseOvers_10 dX8_loseOvers_13 dX8_loseOvers_14 dX8_loseOvers_16 dX8_loseOvers_19 ⟨(Nat.le_of_ble_eq_true rfl), (Nat.le_of_ble_eq_true rfl)⟩ ⟨(Nat.le_of_ble_eq_true rfl), (Nat.le_of_ble_eq_true rfl)⟩ (Nat.le_of_ble_eq_true rfl) (Nat.le_of_ble_eq_true rfl) (by exact ⟨rfl, rfl⟩)
set_option maxRecDepth 100000 in
theorem c_X8_loseOversR {l : Launch} (hfl : l.stackTraces = false) {D : va_G} {cy : Nat → ClassId} {f : Hf} {sz : Nat} {x : Nat} {A : Nat → Nat} {b : Nat} {b2 : Nat} {lg : Nat} {lg_o : Nat} {tx : Nat} {rz : Nat} {ro : Nat} {xea : Int32} {xra : Int32} {xkr : Int32} {q : Nat → Option Nat} {cm : Nat → Int32} {cs : Nat → Nat → Nat → Int32} (ov : Int32) (h_x : f x = some (.inr (10, [.ref (A (b + 0)), .ref (A (b2 + 0)), .ref lg, .ref lg_o, .ref tx, .ref rz, .ref ro, .int xea, .int xra, .int xkr]))) (hAj : ∀ i j : Nat, i ≠ j → A i ≠ A j) (hM : MW A b cy q cm cs f) (hQ : HQ A b q) (v0 : ¬ (X8_isWithin_x1 ov 1 19) = 0) (hPX : cm 0 = 0 ∨ PP cm cs) (hR : ¬ rfR cm cs (mkS 7 ov 0 0 0 0 0 0 0) = 0) : hMet l yX8_loseOvers cX8_loseOvers 2 (some .int) { frames := 7, cells := 2, slots := 15, locals := 111 } D (hTy cy) f sz [.ref x, .int ov] (hQi (fun r u => False) D f sz) (fun E u => E = "java/lang/IllegalStateException" ∧ u x = some (.inr (10, [.ref (A (b + 0)), .ref (A (b2 + 0)), .ref lg, .ref lg_o, .ref tx, .ref rz, .ref ro, .int xea, .int xra, .int (rfR cm cs (mkS 7 ov 0 0 0 0 0 0 0))])) ∧ MW A b cy q cm cs u ∧ hFrL f u [x]) := by
  refine h_enter (by decide) hfl (Nat.le_of_ble_eq_true rfl) ?_
  intro p9 e9 s9 m9 b9 t9 c9 hsz C0 hr hnm G ls hl
  have hx := C0.1.1
  have hb := C0.1.2.1
  have hl : lv_has ls 2 [(0, .ref x), (1, .int ov)] := hl
  refine lv_iload_n hx hb dX8_loseOvers_0 rfl (lv_at hl 1 rfl) ?_
  refine lv_iconst (v := 1) hx hb dX8_loseOvers_1 (by decide) ?_
  refine lv_bipush (v := 19) hx hb dX8_loseOvers_2 (by decide) ?_
  refine g_cI C0 G (g_runS C0 G (rest := []) (c_X8_isWithin hfl ov 1 19 ) hY_X8_isWithin mm_X8_56 ms_X8_isWithin ⟨(Nat.le_of_ble_eq_true rfl), (Nat.le_of_ble_eq_true rfl)⟩ rfl hl.1 rfl (Nat.le_of_ble_eq_true rfl) dX8_loseOvers_4 ⟨(Nat.le_of_ble_eq_true rfl), (Nat.le_of_ble_eq_true rfl)⟩) (kx_no rfl) (fun r13 u12 H locs hp11 G => ?_)
  obtain ⟨er14, eu12⟩ := hp11
  rw [eu12] at G
  refine lv_topv (v := (X8_isWithin_x1 ov 1 19)) er14 ?_
  refine lv_if_ne (tgt := 20) hx hb dX8_loseOvers_7 (by decide) (fun _ => ?_) (fun c15 => absurd c15 (v0))
  refine lv_aload_n hx hb dX8_loseOvers_20 rfl (lv_at hl 0 rfl) ?_
  refine lv_bipush (v := 7) hx hb dX8_loseOvers_21 (by decide) ?_
  refine lv_iload_n hx hb dX8_loseOvers_23 rfl (lv_at hl 1 rfl) ?_
  refine g_cR C0 G (g_runS C0 G (rest := [.ref x]) (c_X5_ofNumber hfl 7 ov ) hY_X5_ofNumber mm_X8_92 ms_X5_ofNumber ⟨(Nat.le_of_ble_eq_true rfl), (Nat.le_of_ble_eq_true rfl)⟩ rfl hl.1 rfl (Nat.le_of_ble_eq_true rfl) dX8_loseOvers_24 ⟨(Nat.le_of_ble_eq_true rfl), (Nat.le_of_ble_eq_true rfl)⟩) (kx_no rfl) (fun a18 u17 H locs hp16 G => ?_)
  obtain ⟨nn19, k20, fr21⟩ := hp16
  have nin22 : a18 ∉ MA A b := MW_nonew hM nn19
  have k23 : u17 x = some (.inr (10, [.ref (A (b + 0)), .ref (A (b2 + 0)), .ref lg, .ref lg_o, .ref tx, .ref rz, .ref ro, .int xea, .int xra, .int xkr])) := fr21 _ _ (by simp) h_x
  have hM24 := MW_frN hM fr21 (fun y9 hy9 => absurd hy9 (by simp))
  exact g_cI C0 G (g_runV C0 G (rest := []) (c_X8_carryOutR hfl (A := A) (b := b) (b2 := b2) (xea := xea) (xra := xra) (xkr := xkr) (ty := 7) (nu := ov) (wy := 0) (kd := 0) (ru := 0) (so := 0) (sb := 0) (sc := 0) (sh := 0) (cm := cm) (cs := cs) k23 k20 hAj hM24 hQ hPX hR) k23 rfl hY_X8_carryOut mm_X8_96 mi_X8_carryOut ml_X8_carryOut ⟨(Nat.le_of_ble_eq_true rfl), (Nat.le_of_ble_eq_true rfl)⟩ rfl hl.1 rfl (Nat.le_of_ble_eq_true rfl) dX8_loseOvers_27 ⟨(Nat.le_of_ble_eq_true rfl), (Nat.le_of_ble_eq_true rfl)⟩) (kx_out C0 (Nat.le_of_ble_eq_true rfl) (Nat.le_of_ble_eq_true rfl) (fun E9 u9 h9 => by
      obtain ⟨hE9, k25, hM26, fr27⟩ := h9
      exact ⟨hE9, k25, hM26, (fun a9 e9 h7 h8 => fr27 _ _ (fun q => h7 (by simp only [List.mem_cons, List.not_mem_nil, or_false] at q ⊢; first | exact q | (rcases q with q <;> simp [q]) | omega)) (fr21 _ _ (by simp) (h8)))⟩)) (fun _ _ _ _ h9 _ => (h9).elim)
def X8_loseOversA_g0 (nS : Nat) (nC : Nat) (ge : Nat → Int32) : Nat → Int32 := (X8_carryOutA_g1 nS nC ge)
set_option maxRecDepth 100000 in
theorem c_X8_loseOversA {l : Launch} (hfl : l.stackTraces = false) {D : va_G} {cy : Nat → ClassId} {f : Hf} {sz : Nat} {x : Nat} {lg : Nat} {sa : Nat} {ea : Nat} {A : Nat → Nat} {b : Nat} {b2 : Nat} {lg_o : Nat} {tx : Nat} {rz : Nat} {ro : Nat} {xea : Int32} {xra : Int32} {xkr : Int32} {no : Nat} {lo : Int32} {le : Int32} {lfi : Int32} {nS : Nat} {nC : Nat} {lun : Int32} {qs : Nat → Option Nat} {ge : Nat → Int32} {q : Nat → Option Nat} {cm : Nat → Int32} {cs : Nat → Nat → Nat → Int32} (ov : Int32) (h_x : f x = some (.inr (10, [.ref (A (b + 0)), .ref (A (b2 + 0)), .ref lg, .ref lg_o, .ref tx, .ref rz, .ref ro, .int xea, .int xra, .int xkr]))) (h_lg : f lg = some (.inr (3, [.ref no, .ref sa, .ref ea, .int lo, .int le, .int lfi, .int (nI nS), .int (nI nC), .int lun]))) (h_sa : f sa = some (.inl (cy 4, 512, .inr (.inr (.inr (.inr qs)))))) (h_ea : f ea = some (.inl (cy 0, 512, .inl ge))) (hAj : ∀ i j : Nat, i ≠ j → A i ≠ A j) (hM : MW A b cy q cm cs f) (hQ : HQ A b q) (n_sa : sa ∉ MA A b) (n_ea : ea ∉ MA A b) (v0 : ¬ (X8_isWithin_x1 ov 1 19) = 0) (hPX : cm 0 = 0 ∨ PP cm cs) (hPP : PP cm cs) (hR : rfR cm cs (mkS 7 ov 0 0 0 0 0 0 0) = 0) (hnS : nS < 512) (hnC : nC < 512) (hro : X1_hasRoom_x1 nS nC 1 = 1) : hMet l yX8_loseOvers cX8_loseOvers 2 (some .int) { frames := 6, cells := 1, slots := 9, locals := 138 } D (hTy cy) f sz [.ref x, .int ov] (hQi (fun r u => ∃ w9 : Nat, f w9 = none ∧ u w9 = some (.inr (7, [.int 7, .int ov, .int 0, .int 0, .int 0, .int 0, .int 0, .int 0, .int 0])) ∧ r = (X8_carryOutA_r0 7 ov 0 0 0 0 0 0 0 cm cs) ∧ u sa = some (.inl (cy 4, 512, .inr (.inr (.inr (.inr (va_up qs nS (some w9))))))) ∧ u lg = some (.inr (3, [.ref no, .ref sa, .ref ea, .int lo, .int le, .int lfi, .int (nI (nS + 1)), .int (nI (nC + 1)), .int ((if 7 < lun then 7 else lun) + 1)])) ∧ u ea = some (.inl (cy 0, 512, .inl (X8_loseOversA_g0 nS nC ge))) ∧ MW A b cy q (pfM cm cs (mkS 7 ov 0 0 0 0 0 0 0)) (pfS cm cs (mkS 7 ov 0 0 0 0 0 0 0)) u ∧ hFrL f u (MA A b ++ [sa, lg, ea])) D f sz) hNo := by
  refine h_enter (by decide) hfl (Nat.le_of_ble_eq_true rfl) ?_
  intro p9 e9 s9 m9 b9 t9 c9 hsz C0 hr hnm G ls hl
  have hx := C0.1.1
  have hb := C0.1.2.1
  have hl : lv_has ls 2 [(0, .ref x), (1, .int ov)] := hl
  refine lv_iload_n hx hb dX8_loseOvers_0 rfl (lv_at hl 1 rfl) ?_
  refine lv_iconst (v := 1) hx hb dX8_loseOvers_1 (by decide) ?_
  refine lv_bipush (v := 19) hx hb dX8_loseOvers_2 (by decide) ?_
  refine g_cI C0 G (g_runS C0 G (rest := []) (c_X8_isWithin hfl ov 1 19 ) hY_X8_isWithin mm_X8_56 ms_X8_isWithin ⟨(Nat.le_of_ble_eq_true rfl), (Nat.le_of_ble_eq_true rfl)⟩ rfl hl.1 rfl (Nat.le_of_ble_eq_true rfl) dX8_loseOvers_4 ⟨(Nat.le_of_ble_eq_true rfl), (Nat.le_of_ble_eq_true rfl)⟩) (kx_no rfl) (fun r13 u12 H locs hp11 G => ?_)
  obtain ⟨er14, eu12⟩ := hp11
  rw [eu12] at G
  refine lv_topv (v := (X8_isWithin_x1 ov 1 19)) er14 ?_
  refine lv_if_ne (tgt := 20) hx hb dX8_loseOvers_7 (by decide) (fun _ => ?_) (fun c15 => absurd c15 (v0))
  refine lv_aload_n hx hb dX8_loseOvers_20 rfl (lv_at hl 0 rfl) ?_
  refine lv_bipush (v := 7) hx hb dX8_loseOvers_21 (by decide) ?_
  refine lv_iload_n hx hb dX8_loseOvers_23 rfl (lv_at hl 1 rfl) ?_
  refine g_cR C0 G (g_runS C0 G (rest := [.ref x]) (c_X5_ofNumber hfl 7 ov ) hY_X5_ofNumber mm_X8_92 ms_X5_ofNumber ⟨(Nat.le_of_ble_eq_true rfl), (Nat.le_of_ble_eq_true rfl)⟩ rfl hl.1 rfl (Nat.le_of_ble_eq_true rfl) dX8_loseOvers_24 ⟨(Nat.le_of_ble_eq_true rfl), (Nat.le_of_ble_eq_true rfl)⟩) (kx_no rfl) (fun a18 u17 H locs hp16 G => ?_)
  obtain ⟨nn19, k20, fr21⟩ := hp16
  have nin22 : a18 ∉ MA A b := MW_nonew hM nn19
  have k23 : u17 x = some (.inr (10, [.ref (A (b + 0)), .ref (A (b2 + 0)), .ref lg, .ref lg_o, .ref tx, .ref rz, .ref ro, .int xea, .int xra, .int xkr])) := fr21 _ _ (by simp) h_x
  have k24 : u17 lg = some (.inr (3, [.ref no, .ref sa, .ref ea, .int lo, .int le, .int lfi, .int (nI nS), .int (nI nC), .int lun])) := fr21 _ _ (by simp) h_lg
  have k25 : u17 sa = some (.inl (cy 4, 512, .inr (.inr (.inr (.inr qs))))) := fr21 _ _ (by simp) h_sa
  have k26 : u17 ea = some (.inl (cy 0, 512, .inl ge)) := fr21 _ _ (by simp) h_ea
  have hM27 := MW_frN hM fr21 (fun y9 hy9 => absurd hy9 (by simp))
  refine g_cI C0 G (g_runV C0 G (rest := []) (c_X8_carryOutA hfl (A := A) (b := b) (b2 := b2) (xea := xea) (xra := xra) (xkr := xkr) (lo := lo) (le := le) (lfi := lfi) (nS := nS) (nC := nC) (lun := lun) (qs := qs) (ge := ge) (ty := 7) (nu := ov) (wy := 0) (kd := 0) (ru := 0) (so := 0) (sb := 0) (sc := 0) (sh := 0) (cm := cm) (cs := cs) k23 k24 k25 k26 k20 hAj hM27 hQ n_sa n_ea hPX hPP hR hnS hnC hro) k23 rfl hY_X8_carryOut mm_X8_96 mi_X8_carryOut ml_X8_carryOut ⟨(Nat.le_of_ble_eq_true rfl), (Nat.le_of_ble_eq_true rfl)⟩ rfl hl.1 rfl (Nat.le_of_ble_eq_true rfl) dX8_loseOvers_27 ⟨(Nat.le_of_ble_eq_true rfl), (Nat.le_of_ble_eq_true rfl)⟩) (kx_no rfl) (fun r30 u29 H locs hp28 G => ?_)
  obtain ⟨er36, k31, k32, k33, hM34, fr35⟩ := hp28
  refine lv_topv (v := (X8_carryOutA_r0 7 ov 0 0 0 0 0 0 0 cm cs)) er36 ?_
  have k37 : u29 a18 = some (.inr (7, [.int 7, .int ov, .int 0, .int 0, .int 0, .int 0, .int 0, .int 0, .int 0])) := fr35 _ _ (fun q9 => by rcases List.mem_append.mp q9 with q9 | q9; exact nin22 q9; simp only [List.mem_cons, List.not_mem_nil, or_false] at q9; rcases q9 with q9 | q9 | q9; exact (Ne.symm (hneN h_sa nn19)) q9; exact (Ne.symm (hneN h_lg nn19)) q9; exact (Ne.symm (hneN h_ea nn19)) q9) k20
  exact g_iret C0 G hr dX8_loseOvers_30 (Nat.le_of_ble_eq_true rfl) (Nat.le_of_ble_eq_true rfl) (by exact ⟨a18, nn19, k37, rfl, k31, k32, (by rw [(by rw [X8_loseOversA_g0] : (X8_loseOversA_g0 nS nC ge) = (X8_carryOutA_g1 nS nC ge))]; exact k33), hM34, (fun a9 e9 h7 h8 => fr35 _ _ (fun q => h7 (by simp only [List.mem_append, List.mem_cons, List.not_mem_nil, or_false] at q ⊢; rcases q with q | q | q | q <;> simp [q])) (fr21 _ _ (by simp) (h8)))⟩)
set_option maxRecDepth 100000 in
theorem c_X8_retireR {l : Launch} (hfl : l.stackTraces = false) {D : va_G} {cy : Nat → ClassId} {f : Hf} {sz : Nat} {x : Nat} {A : Nat → Nat} {b : Nat} {b2 : Nat} {lg : Nat} {lg_o : Nat} {tx : Nat} {rz : Nat} {ro : Nat} {xea : Int32} {xra : Int32} {xkr : Int32} {q : Nat → Option Nat} {cm : Nat → Int32} {cs : Nat → Nat → Nat → Int32} (oth : Int32) (hur : Int32) (h_x : f x = some (.inr (10, [.ref (A (b + 0)), .ref (A (b2 + 0)), .ref lg, .ref lg_o, .ref tx, .ref rz, .ref ro, .int xea, .int xra, .int xkr]))) (hAj : ∀ i j : Nat, i ≠ j → A i ≠ A j) (hM : MW A b cy q cm cs f) (hQ : HQ A b q) (hb_oth : oth = 0 ∨ oth = 1) (hb_hur : hur = 0 ∨ hur = 1) (hPX : cm 0 = 0 ∨ PP cm cs) (hR : ¬ rfR cm cs (mkS 4 0 0 0 0 oth 0 0 hur) = 0) : hMet l yX8_retire cX8_retire 3 (some .int) { frames := 7, cells := 2, slots := 15, locals := 111 } D (hTy cy) f sz [.ref x, .int oth, .int hur] (hQi (fun r u => False) D f sz) (fun E u => E = "java/lang/IllegalStateException" ∧ u x = some (.inr (10, [.ref (A (b + 0)), .ref (A (b2 + 0)), .ref lg, .ref lg_o, .ref tx, .ref rz, .ref ro, .int xea, .int xra, .int (rfR cm cs (mkS 4 0 0 0 0 oth 0 0 hur))])) ∧ MW A b cy q cm cs u ∧ hFrL f u [x]) := by
  refine h_enter (by decide) hfl (Nat.le_of_ble_eq_true rfl) ?_
  intro p9 e9 s9 m9 b9 t9 c9 hsz C0 hr hnm G ls hl
  have hx := C0.1.1
  have hb := C0.1.2.1
  have hl : lv_has ls 3 [(0, .ref x), (1, .int oth), (2, .int hur)] := hl
  refine lv_aload_n hx hb dX8_retire_0 rfl (lv_at hl 0 rfl) ?_
  refine lv_iload_n hx hb dX8_retire_1 rfl (lv_at hl 1 rfl) ?_
  refine lv_iload_n hx hb dX8_retire_2 rfl (lv_at hl 2 rfl) ?_
  refine g_cR C0 G (g_runS C0 G (rest := [.ref x]) (c_X5_ofRetirement hfl oth hur  hb_oth hb_hur) hY_X5_ofRetirement mm_X8_122 ms_X5_ofRetirement ⟨(Nat.le_of_ble_eq_true rfl), (Nat.le_of_ble_eq_true rfl)⟩ rfl hl.1 rfl (Nat.le_of_ble_eq_true rfl) dX8_retire_3 ⟨(Nat.le_of_ble_eq_true rfl), (Nat.le_of_ble_eq_true rfl)⟩) (kx_no rfl) (fun a13 u12 H locs hp11 G => ?_)
  obtain ⟨nn14, k15, fr16⟩ := hp11
  have nin17 : a13 ∉ MA A b := MW_nonew hM nn14
  have k18 : u12 x = some (.inr (10, [.ref (A (b + 0)), .ref (A (b2 + 0)), .ref lg, .ref lg_o, .ref tx, .ref rz, .ref ro, .int xea, .int xra, .int xkr])) := fr16 _ _ (by simp) h_x
  have hM19 := MW_frN hM fr16 (fun y9 hy9 => absurd hy9 (by simp))
  exact g_cI C0 G (g_runV C0 G (rest := []) (c_X8_carryOutR hfl (A := A) (b := b) (b2 := b2) (xea := xea) (xra := xra) (xkr := xkr) (ty := 4) (nu := 0) (wy := 0) (kd := 0) (ru := 0) (so := oth) (sb := 0) (sc := 0) (sh := hur) (cm := cm) (cs := cs) k18 k15 hAj hM19 hQ hPX hR) k18 rfl hY_X8_carryOut mm_X8_96 mi_X8_carryOut ml_X8_carryOut ⟨(Nat.le_of_ble_eq_true rfl), (Nat.le_of_ble_eq_true rfl)⟩ rfl hl.1 rfl (Nat.le_of_ble_eq_true rfl) dX8_retire_6 ⟨(Nat.le_of_ble_eq_true rfl), (Nat.le_of_ble_eq_true rfl)⟩) (kx_out C0 (Nat.le_of_ble_eq_true rfl) (Nat.le_of_ble_eq_true rfl) (fun E9 u9 h9 => by
      obtain ⟨hE9, k20, hM21, fr22⟩ := h9
      exact ⟨hE9, k20, hM21, (fun a9 e9 h7 h8 => fr22 _ _ (fun q => h7 (by simp only [List.mem_cons, List.not_mem_nil, or_false] at q ⊢; first | exact q | (rcases q with q <;> simp [q]) | omega)) (fr16 _ _ (by simp) (h8)))⟩)) (fun _ _ _ _ h9 _ => (h9).elim)
def X8_retireA_g0 (nS : Nat) (nC : Nat) (ge : Nat → Int32) : Nat → Int32 := (X8_carryOutA_g1 nS nC ge)
set_option maxRecDepth 100000 in
theorem c_X8_retireA {l : Launch} (hfl : l.stackTraces = false) {D : va_G} {cy : Nat → ClassId} {f : Hf} {sz : Nat} {x : Nat} {lg : Nat} {sa : Nat} {ea : Nat} {A : Nat → Nat} {b : Nat} {b2 : Nat} {lg_o : Nat} {tx : Nat} {rz : Nat} {ro : Nat} {xea : Int32} {xra : Int32} {xkr : Int32} {no : Nat} {lo : Int32} {le : Int32} {lfi : Int32} {nS : Nat} {nC : Nat} {lun : Int32} {qs : Nat → Option Nat} {ge : Nat → Int32} {q : Nat → Option Nat} {cm : Nat → Int32} {cs : Nat → Nat → Nat → Int32} (oth : Int32) (hur : Int32) (h_x : f x = some (.inr (10, [.ref (A (b + 0)), .ref (A (b2 + 0)), .ref lg, .ref lg_o, .ref tx, .ref rz, .ref ro, .int xea, .int xra, .int xkr]))) (h_lg : f lg = some (.inr (3, [.ref no, .ref sa, .ref ea, .int lo, .int le, .int lfi, .int (nI nS), .int (nI nC), .int lun]))) (h_sa : f sa = some (.inl (cy 4, 512, .inr (.inr (.inr (.inr qs)))))) (h_ea : f ea = some (.inl (cy 0, 512, .inl ge))) (hAj : ∀ i j : Nat, i ≠ j → A i ≠ A j) (hM : MW A b cy q cm cs f) (hQ : HQ A b q) (n_sa : sa ∉ MA A b) (n_ea : ea ∉ MA A b) (hb_oth : oth = 0 ∨ oth = 1) (hb_hur : hur = 0 ∨ hur = 1) (hPX : cm 0 = 0 ∨ PP cm cs) (hPP : PP cm cs) (hR : rfR cm cs (mkS 4 0 0 0 0 oth 0 0 hur) = 0) (hnS : nS < 512) (hnC : nC < 512) (hro : X1_hasRoom_x1 nS nC 1 = 1) : hMet l yX8_retire cX8_retire 3 (some .int) { frames := 6, cells := 1, slots := 9, locals := 138 } D (hTy cy) f sz [.ref x, .int oth, .int hur] (hQi (fun r u => ∃ w9 : Nat, f w9 = none ∧ u w9 = some (.inr (7, [.int 4, .int 0, .int 0, .int 0, .int 0, .int oth, .int 0, .int 0, .int hur])) ∧ r = (X8_carryOutA_r0 4 0 0 0 0 oth 0 0 hur cm cs) ∧ u sa = some (.inl (cy 4, 512, .inr (.inr (.inr (.inr (va_up qs nS (some w9))))))) ∧ u lg = some (.inr (3, [.ref no, .ref sa, .ref ea, .int lo, .int le, .int lfi, .int (nI (nS + 1)), .int (nI (nC + 1)), .int ((if 7 < lun then 7 else lun) + 1)])) ∧ u ea = some (.inl (cy 0, 512, .inl (X8_retireA_g0 nS nC ge))) ∧ MW A b cy q (pfM cm cs (mkS 4 0 0 0 0 oth 0 0 hur)) (pfS cm cs (mkS 4 0 0 0 0 oth 0 0 hur)) u ∧ hFrL f u (MA A b ++ [sa, lg, ea])) D f sz) hNo := by
  refine h_enter (by decide) hfl (Nat.le_of_ble_eq_true rfl) ?_
  intro p9 e9 s9 m9 b9 t9 c9 hsz C0 hr hnm G ls hl
  have hx := C0.1.1
  have hb := C0.1.2.1
  have hl : lv_has ls 3 [(0, .ref x), (1, .int oth), (2, .int hur)] := hl
  refine lv_aload_n hx hb dX8_retire_0 rfl (lv_at hl 0 rfl) ?_
  refine lv_iload_n hx hb dX8_retire_1 rfl (lv_at hl 1 rfl) ?_
  refine lv_iload_n hx hb dX8_retire_2 rfl (lv_at hl 2 rfl) ?_
  refine g_cR C0 G (g_runS C0 G (rest := [.ref x]) (c_X5_ofRetirement hfl oth hur  hb_oth hb_hur) hY_X5_ofRetirement mm_X8_122 ms_X5_ofRetirement ⟨(Nat.le_of_ble_eq_true rfl), (Nat.le_of_ble_eq_true rfl)⟩ rfl hl.1 rfl (Nat.le_of_ble_eq_true rfl) dX8_retire_3 ⟨(Nat.le_of_ble_eq_true rfl), (Nat.le_of_ble_eq_true rfl)⟩) (kx_no rfl) (fun a13 u12 H locs hp11 G => ?_)
  obtain ⟨nn14, k15, fr16⟩ := hp11
  have nin17 : a13 ∉ MA A b := MW_nonew hM nn14
  have k18 : u12 x = some (.inr (10, [.ref (A (b + 0)), .ref (A (b2 + 0)), .ref lg, .ref lg_o, .ref tx, .ref rz, .ref ro, .int xea, .int xra, .int xkr])) := fr16 _ _ (by simp) h_x
  have k19 : u12 lg = some (.inr (3, [.ref no, .ref sa, .ref ea, .int lo, .int le, .int lfi, .int (nI nS), .int (nI nC), .int lun])) := fr16 _ _ (by simp) h_lg
  have k20 : u12 sa = some (.inl (cy 4, 512, .inr (.inr (.inr (.inr qs))))) := fr16 _ _ (by simp) h_sa
  have k21 : u12 ea = some (.inl (cy 0, 512, .inl ge)) := fr16 _ _ (by simp) h_ea
  have hM22 := MW_frN hM fr16 (fun y9 hy9 => absurd hy9 (by simp))
  refine g_cI C0 G (g_runV C0 G (rest := []) (c_X8_carryOutA hfl (A := A) (b := b) (b2 := b2) (xea := xea) (xra := xra) (xkr := xkr) (lo := lo) (le := le) (lfi := lfi) (nS := nS) (nC := nC) (lun := lun) (qs := qs) (ge := ge) (ty := 4) (nu := 0) (wy := 0) (kd := 0) (ru := 0) (so := oth) (sb := 0) (sc := 0) (sh := hur) (cm := cm) (cs := cs) k18 k19 k20 k21 k15 hAj hM22 hQ n_sa n_ea hPX hPP hR hnS hnC hro) k18 rfl hY_X8_carryOut mm_X8_96 mi_X8_carryOut ml_X8_carryOut ⟨(Nat.le_of_ble_eq_true rfl), (Nat.le_of_ble_eq_true rfl)⟩ rfl hl.1 rfl (Nat.le_of_ble_eq_true rfl) dX8_retire_6 ⟨(Nat.le_of_ble_eq_true rfl), (Nat.le_of_ble_eq_true rfl)⟩) (kx_no rfl) (fun r25 u24 H locs hp23 G => ?_)
  obtain ⟨er31, k26, k27, k28, hM29, fr30⟩ := hp23
  refine lv_topv (v := (X8_carryOutA_r0 4 0 0 0 0 oth 0 0 hur cm cs)) er31 ?_
  have k32 : u24 a13 = some (.inr (7, [.int 4, .int 0, .int 0, .int 0, .int 0, .int oth, .int 0, .int 0, .int hur])) := fr30 _ _ (fun q9 => by rcases List.mem_append.mp q9 with q9 | q9; exact nin17 q9; simp only [List.mem_cons, List.not_mem_nil, or_false] at q9; rcases q9 with q9 | q9 | q9; exact (Ne.symm (hneN h_sa nn14)) q9; exact (Ne.symm (hneN h_lg nn14)) q9; exact (Ne.symm (hneN h_ea nn14)) q9) k15
  exact g_iret C0 G hr dX8_retire_9 (Nat.le_of_ble_eq_true rfl) (Nat.le_of_ble_eq_true rfl) (by exact ⟨a13, nn14, k32, rfl, k26, k27, (by rw [(by rw [X8_retireA_g0] : (X8_retireA_g0 nS nC ge) = (X8_carryOutA_g1 nS nC ge))]; exact k28), hM29, (fun a9 e9 h7 h8 => fr30 _ _ (fun q => h7 (by simp only [List.mem_append, List.mem_cons, List.not_mem_nil, or_false] at q ⊢; rcases q with q | q | q | q <;> simp [q])) (fr16 _ _ (by simp) (h8)))⟩)
set_option maxRecDepth 100000 in
theorem c_X8_ballB1 {l : Launch} (hfl : l.stackTraces = false) {D : va_G} {cy : Nat → ClassId} {f : Hf} {sz : Nat} {x : Nat} {A : Nat → Nat} {b : Nat} {b2 : Nat} {lg : Nat} {lg_o : Nat} {tx : Nat} {rz : Nat} {ro : Nat} {xea : Int32} {xra : Int32} {xkr : Int32} (bnd : Int32) (kind : Int32) (runs : Int32) (h_x : f x = some (.inr (10, [.ref (A (b + 0)), .ref (A (b2 + 0)), .ref lg, .ref lg_o, .ref tx, .ref rz, .ref ro, .int xea, .int xra, .int xkr]))) (hb_bnd : bnd = 0 ∨ bnd = 1) (v0 : (X8_isWithin_x1 kind 0 4) = 0) : hMet l yX8_ball cX8_ball 4 (some .int) { frames := 6, cells := 1, slots := 6, locals := 82 } D (hTy cy) f sz [.ref x, .int kind, .int runs, .int bnd] (hQi (fun r u => False) D f sz) (fun E u => E = "java/lang/IllegalArgumentException" ∧ u = f) := by
  refine h_enter (by decide) hfl (Nat.le_of_ble_eq_true rfl) ?_
  intro p9 e9 s9 m9 b9 t9 c9 hsz C0 hr hnm G ls hl
  have hx := C0.1.1
  have hb := C0.1.2.1
  have hl : lv_has ls 4 [(0, .ref x), (1, .int kind), (2, .int runs), (3, .int bnd)] := hl
  refine lv_iload_n hx hb dX8_ball_0 rfl (lv_at hl 1 rfl) ?_
  refine lv_iconst (v := 0) hx hb dX8_ball_1 (by decide) ?_
  refine lv_iconst (v := 4) hx hb dX8_ball_2 (by decide) ?_
  refine g_cI C0 G (g_runS C0 G (rest := []) (c_X8_isWithin hfl kind 0 4 ) hY_X8_isWithin mm_X8_56 ms_X8_isWithin ⟨(Nat.le_of_ble_eq_true rfl), (Nat.le_of_ble_eq_true rfl)⟩ rfl hl.1 rfl (Nat.le_of_ble_eq_true rfl) dX8_ball_3 ⟨(Nat.le_of_ble_eq_true rfl), (Nat.le_of_ble_eq_true rfl)⟩) (kx_no rfl) (fun r13 u12 H locs hp11 G => ?_)
  obtain ⟨er14, eu12⟩ := hp11
  rw [eu12] at G
  refine lv_topv (v := (X8_isWithin_x1 kind 0 4)) er14 ?_
  refine lv_if_eq (tgt := 36) hx hb dX8_ball_6 (by decide) (fun _ => ?_) (fun c15 => absurd (v0) c15)
  exact g_throw C0 G (X := "java/lang/IllegalArgumentException") (by decide) mk_X8_60 mz_java_lang_IllegalArgumentException (is := 110) (text := "no such ball") (by decide) hat_64 hl.1 dX8_ball_36 dX8_ball_39 dX8_ball_40 dX8_ball_42 dX8_ball_45 ⟨(Nat.le_of_ble_eq_true rfl), (Nat.le_of_ble_eq_true rfl)⟩ ⟨(Nat.le_of_ble_eq_true rfl), (Nat.le_of_ble_eq_true rfl)⟩ (Nat.le_of_ble_eq_true rfl) (Nat.le_of_ble_eq_true rfl) (by exact ⟨rfl, rfl⟩)
set_option maxRecDepth 100000 in
theorem c_X8_ballB2 {l : Launch} (hfl : l.stackTraces = false) {D : va_G} {cy : Nat → ClassId} {f : Hf} {sz : Nat} {x : Nat} {A : Nat → Nat} {b : Nat} {b2 : Nat} {lg : Nat} {lg_o : Nat} {tx : Nat} {rz : Nat} {ro : Nat} {xea : Int32} {xra : Int32} {xkr : Int32} (bnd : Int32) (kind : Int32) (runs : Int32) (h_x : f x = some (.inr (10, [.ref (A (b + 0)), .ref (A (b2 + 0)), .ref lg, .ref lg_o, .ref tx, .ref rz, .ref ro, .int xea, .int xra, .int xkr]))) (hb_bnd : bnd = 0 ∨ bnd = 1) (v0 : ¬ (X8_isWithin_x1 kind 0 4) = 0) (v1 : (X8_isWithin_x1 runs (X8_leastRuns_x1 kind) (X8_mostRuns_r2 kind)) = 0) : hMet l yX8_ball cX8_ball 4 (some .int) { frames := 6, cells := 1, slots := 6, locals := 82 } D (hTy cy) f sz [.ref x, .int kind, .int runs, .int bnd] (hQi (fun r u => False) D f sz) (fun E u => E = "java/lang/IllegalArgumentException" ∧ u = f) := by
  refine h_enter (by decide) hfl (Nat.le_of_ble_eq_true rfl) ?_
  intro p9 e9 s9 m9 b9 t9 c9 hsz C0 hr hnm G ls hl
  have hx := C0.1.1
  have hb := C0.1.2.1
  have hl : lv_has ls 4 [(0, .ref x), (1, .int kind), (2, .int runs), (3, .int bnd)] := hl
  refine lv_iload_n hx hb dX8_ball_0 rfl (lv_at hl 1 rfl) ?_
  refine lv_iconst (v := 0) hx hb dX8_ball_1 (by decide) ?_
  refine lv_iconst (v := 4) hx hb dX8_ball_2 (by decide) ?_
  refine g_cI C0 G (g_runS C0 G (rest := []) (c_X8_isWithin hfl kind 0 4 ) hY_X8_isWithin mm_X8_56 ms_X8_isWithin ⟨(Nat.le_of_ble_eq_true rfl), (Nat.le_of_ble_eq_true rfl)⟩ rfl hl.1 rfl (Nat.le_of_ble_eq_true rfl) dX8_ball_3 ⟨(Nat.le_of_ble_eq_true rfl), (Nat.le_of_ble_eq_true rfl)⟩) (kx_no rfl) (fun r13 u12 H locs hp11 G => ?_)
  obtain ⟨er14, eu12⟩ := hp11
  rw [eu12] at G
  refine lv_topv (v := (X8_isWithin_x1 kind 0 4)) er14 ?_
  refine lv_if_eq (tgt := 36) hx hb dX8_ball_6 (by decide) (fun c15 => absurd c15 (v0)) (fun _ => ?_)
  refine lv_iload_n hx hb dX8_ball_9 rfl (lv_at hl 2 rfl) ?_
  refine lv_iload_n hx hb dX8_ball_10 rfl (lv_at hl 1 rfl) ?_
  refine g_cI C0 G (g_runS C0 G (rest := [.int runs]) (c_X8_leastRuns hfl kind ) hY_X8_leastRuns mm_X8_100 ms_X8_leastRuns ⟨(Nat.le_of_ble_eq_true rfl), (Nat.le_of_ble_eq_true rfl)⟩ rfl hl.1 rfl (Nat.le_of_ble_eq_true rfl) dX8_ball_11 ⟨(Nat.le_of_ble_eq_true rfl), (Nat.le_of_ble_eq_true rfl)⟩) (kx_no rfl) (fun r18 u17 H locs hp16 G => ?_)
  obtain ⟨er19, eu17⟩ := hp16
  rw [eu17] at G
  refine lv_topv (v := (X8_leastRuns_x1 kind)) er19 ?_
  refine lv_iload_n hx hb dX8_ball_14 rfl (lv_at hl 1 rfl) ?_
  refine g_cI C0 G (g_runS C0 G (rest := [.int (X8_leastRuns_x1 kind), .int runs]) (c_X8_mostRuns hfl kind ) hY_X8_mostRuns mm_X8_103 ms_X8_mostRuns ⟨(Nat.le_of_ble_eq_true rfl), (Nat.le_of_ble_eq_true rfl)⟩ rfl hl.1 rfl (Nat.le_of_ble_eq_true rfl) dX8_ball_15 ⟨(Nat.le_of_ble_eq_true rfl), (Nat.le_of_ble_eq_true rfl)⟩) (kx_no rfl) (fun r22 u21 H locs hp20 G => ?_)
  obtain ⟨er23, eu21⟩ := hp20
  rw [eu21] at G
  refine lv_topv (v := (X8_mostRuns_r2 kind)) er23 ?_
  refine g_cI C0 G (g_runS C0 G (rest := []) (c_X8_isWithin hfl runs (X8_leastRuns_x1 kind) (X8_mostRuns_r2 kind) ) hY_X8_isWithin mm_X8_56 ms_X8_isWithin ⟨(Nat.le_of_ble_eq_true rfl), (Nat.le_of_ble_eq_true rfl)⟩ rfl hl.1 rfl (Nat.le_of_ble_eq_true rfl) dX8_ball_18 ⟨(Nat.le_of_ble_eq_true rfl), (Nat.le_of_ble_eq_true rfl)⟩) (kx_no rfl) (fun r26 u25 H locs hp24 G => ?_)
  obtain ⟨er27, eu25⟩ := hp24
  rw [eu25] at G
  refine lv_topv (v := (X8_isWithin_x1 runs (X8_leastRuns_x1 kind) (X8_mostRuns_r2 kind))) er27 ?_
  refine lv_if_eq (tgt := 36) hx hb dX8_ball_21 (by decide) (fun _ => ?_) (fun c28 => absurd (v1) c28)
  exact g_throw C0 G (X := "java/lang/IllegalArgumentException") (by decide) mk_X8_60 mz_java_lang_IllegalArgumentException (is := 110) (text := "no such ball") (by decide) hat_64 hl.1 dX8_ball_36 dX8_ball_39 dX8_ball_40 dX8_ball_42 dX8_ball_45 ⟨(Nat.le_of_ble_eq_true rfl), (Nat.le_of_ble_eq_true rfl)⟩ ⟨(Nat.le_of_ble_eq_true rfl), (Nat.le_of_ble_eq_true rfl)⟩ (Nat.le_of_ble_eq_true rfl) (Nat.le_of_ble_eq_true rfl) (by exact ⟨rfl, rfl⟩)
set_option maxRecDepth 100000 in
theorem c_X8_ballB3 {l : Launch} (hfl : l.stackTraces = false) {D : va_G} {cy : Nat → ClassId} {f : Hf} {sz : Nat} {x : Nat} {A : Nat → Nat} {b : Nat} {b2 : Nat} {lg : Nat} {lg_o : Nat} {tx : Nat} {rz : Nat} {ro : Nat} {xea : Int32} {xra : Int32} {xkr : Int32} (bnd : Int32) (kind : Int32) (runs : Int32) (h_x : f x = some (.inr (10, [.ref (A (b + 0)), .ref (A (b2 + 0)), .ref lg, .ref lg_o, .ref tx, .ref rz, .ref ro, .int xea, .int xra, .int xkr]))) (hb_bnd : bnd = 0 ∨ bnd = 1) (v0 : ¬ (X8_isWithin_x1 kind 0 4) = 0) (v1 : ¬ (X8_isWithin_x1 runs (X8_leastRuns_x1 kind) (X8_mostRuns_r2 kind)) = 0) (v2 : ¬ bnd = 0) (v3 : (X8_canBeBoundary_x3 kind runs) = 0) : hMet l yX8_ball cX8_ball 4 (some .int) { frames := 6, cells := 1, slots := 6, locals := 82 } D (hTy cy) f sz [.ref x, .int kind, .int runs, .int bnd] (hQi (fun r u => False) D f sz) (fun E u => E = "java/lang/IllegalArgumentException" ∧ u = f) := by
  refine h_enter (by decide) hfl (Nat.le_of_ble_eq_true rfl) ?_
  intro p9 e9 s9 m9 b9 t9 c9 hsz C0 hr hnm G ls hl
  have hx := C0.1.1
  have hb := C0.1.2.1
  have hl : lv_has ls 4 [(0, .ref x), (1, .int kind), (2, .int runs), (3, .int bnd)] := hl
  refine lv_iload_n hx hb dX8_ball_0 rfl (lv_at hl 1 rfl) ?_
  refine lv_iconst (v := 0) hx hb dX8_ball_1 (by decide) ?_
  refine lv_iconst (v := 4) hx hb dX8_ball_2 (by decide) ?_
  refine g_cI C0 G (g_runS C0 G (rest := []) (c_X8_isWithin hfl kind 0 4 ) hY_X8_isWithin mm_X8_56 ms_X8_isWithin ⟨(Nat.le_of_ble_eq_true rfl), (Nat.le_of_ble_eq_true rfl)⟩ rfl hl.1 rfl (Nat.le_of_ble_eq_true rfl) dX8_ball_3 ⟨(Nat.le_of_ble_eq_true rfl), (Nat.le_of_ble_eq_true rfl)⟩) (kx_no rfl) (fun r13 u12 H locs hp11 G => ?_)
  obtain ⟨er14, eu12⟩ := hp11
  rw [eu12] at G
  refine lv_topv (v := (X8_isWithin_x1 kind 0 4)) er14 ?_
  refine lv_if_eq (tgt := 36) hx hb dX8_ball_6 (by decide) (fun c15 => absurd c15 (v0)) (fun _ => ?_)
  refine lv_iload_n hx hb dX8_ball_9 rfl (lv_at hl 2 rfl) ?_
  refine lv_iload_n hx hb dX8_ball_10 rfl (lv_at hl 1 rfl) ?_
  refine g_cI C0 G (g_runS C0 G (rest := [.int runs]) (c_X8_leastRuns hfl kind ) hY_X8_leastRuns mm_X8_100 ms_X8_leastRuns ⟨(Nat.le_of_ble_eq_true rfl), (Nat.le_of_ble_eq_true rfl)⟩ rfl hl.1 rfl (Nat.le_of_ble_eq_true rfl) dX8_ball_11 ⟨(Nat.le_of_ble_eq_true rfl), (Nat.le_of_ble_eq_true rfl)⟩) (kx_no rfl) (fun r18 u17 H locs hp16 G => ?_)
  obtain ⟨er19, eu17⟩ := hp16
  rw [eu17] at G
  refine lv_topv (v := (X8_leastRuns_x1 kind)) er19 ?_
  refine lv_iload_n hx hb dX8_ball_14 rfl (lv_at hl 1 rfl) ?_
  refine g_cI C0 G (g_runS C0 G (rest := [.int (X8_leastRuns_x1 kind), .int runs]) (c_X8_mostRuns hfl kind ) hY_X8_mostRuns mm_X8_103 ms_X8_mostRuns ⟨(Nat.le_of_ble_eq_true rfl), (Nat.le_of_ble_eq_true rfl)⟩ rfl hl.1 rfl (Nat.le_of_ble_eq_true rfl) dX8_ball_15 ⟨(Nat.le_of_ble_eq_true rfl), (Nat.le_of_ble_eq_true rfl)⟩) (kx_no rfl) (fun r22 u21 H locs hp20 G => ?_)
  obtain ⟨er23, eu21⟩ := hp20
  rw [eu21] at G
  refine lv_topv (v := (X8_mostRuns_r2 kind)) er23 ?_
  refine g_cI C0 G (g_runS C0 G (rest := []) (c_X8_isWithin hfl runs (X8_leastRuns_x1 kind) (X8_mostRuns_r2 kind) ) hY_X8_isWithin mm_X8_56 ms_X8_isWithin ⟨(Nat.le_of_ble_eq_true rfl), (Nat.le_of_ble_eq_true rfl)⟩ rfl hl.1 rfl (Nat.le_of_ble_eq_true rfl) dX8_ball_18 ⟨(Nat.le_of_ble_eq_true rfl), (Nat.le_of_ble_eq_true rfl)⟩) (kx_no rfl) (fun r26 u25 H locs hp24 G => ?_)
  obtain ⟨er27, eu25⟩ := hp24
  rw [eu25] at G
  refine lv_topv (v := (X8_isWithin_x1 runs (X8_leastRuns_x1 kind) (X8_mostRuns_r2 kind))) er27 ?_
  refine lv_if_eq (tgt := 36) hx hb dX8_ball_21 (by decide) (fun c28 => absurd c28 (v1)) (fun _ => ?_)
  refine lv_iload_n hx hb dX8_ball_24 rfl (lv_at hl 3 rfl) ?_
  refine lv_if_eq (tgt := 46) hx hb dX8_ball_25 (by decide) (fun c29 => absurd c29 (v2)) (fun _ => ?_)
  refine lv_iload_n hx hb dX8_ball_28 rfl (lv_at hl 1 rfl) ?_
  refine lv_iload_n hx hb dX8_ball_29 rfl (lv_at hl 2 rfl) ?_
  refine g_cI C0 G (g_runS C0 G (rest := []) (c_X8_canBeBoundary hfl kind runs ) hY_X8_canBeBoundary mm_X8_106 ms_X8_canBeBoundary ⟨(Nat.le_of_ble_eq_true rfl), (Nat.le_of_ble_eq_true rfl)⟩ rfl hl.1 rfl (Nat.le_of_ble_eq_true rfl) dX8_ball_30 ⟨(Nat.le_of_ble_eq_true rfl), (Nat.le_of_ble_eq_true rfl)⟩) (kx_no rfl) (fun r32 u31 H locs hp30 G => ?_)
  obtain ⟨er33, eu31⟩ := hp30
  rw [eu31] at G
  refine lv_topv (v := (X8_canBeBoundary_x3 kind runs)) er33 ?_
  refine lv_if_ne (tgt := 46) hx hb dX8_ball_33 (by decide) (fun c34 => absurd (v3) c34) (fun _ => ?_)
  exact g_throw C0 G (X := "java/lang/IllegalArgumentException") (by decide) mk_X8_60 mz_java_lang_IllegalArgumentException (is := 110) (text := "no such ball") (by decide) hat_64 hl.1 dX8_ball_36 dX8_ball_39 dX8_ball_40 dX8_ball_42 dX8_ball_45 ⟨(Nat.le_of_ble_eq_true rfl), (Nat.le_of_ble_eq_true rfl)⟩ ⟨(Nat.le_of_ble_eq_true rfl), (Nat.le_of_ble_eq_true rfl)⟩ (Nat.le_of_ble_eq_true rfl) (Nat.le_of_ble_eq_true rfl) (by exact ⟨rfl, rfl⟩)
set_option maxRecDepth 100000 in
theorem c_X8_ballRa {l : Launch} (hfl : l.stackTraces = false) {D : va_G} {cy : Nat → ClassId} {f : Hf} {sz : Nat} {x : Nat} {A : Nat → Nat} {b : Nat} {b2 : Nat} {lg : Nat} {lg_o : Nat} {tx : Nat} {rz : Nat} {ro : Nat} {xea : Int32} {xra : Int32} {xkr : Int32} {q : Nat → Option Nat} {cm : Nat → Int32} {cs : Nat → Nat → Nat → Int32} (bnd : Int32) (kind : Int32) (runs : Int32) (h_x : f x = some (.inr (10, [.ref (A (b + 0)), .ref (A (b2 + 0)), .ref lg, .ref lg_o, .ref tx, .ref rz, .ref ro, .int xea, .int xra, .int xkr]))) (hAj : ∀ i j : Nat, i ≠ j → A i ≠ A j) (hM : MW A b cy q cm cs f) (hQ : HQ A b q) (hb_bnd : bnd = 0 ∨ bnd = 1) (v0 : ¬ (X8_isWithin_x1 kind 0 4) = 0) (v1 : ¬ (X8_isWithin_x1 runs (X8_leastRuns_x1 kind) (X8_mostRuns_r2 kind)) = 0) (v2 : bnd = 0) (hPX : cm 0 = 0 ∨ PP cm cs) (hR : ¬ rfR cm cs (mkS 2 0 0 kind runs 0 bnd 0 0) = 0) : hMet l yX8_ball cX8_ball 4 (some .int) { frames := 7, cells := 2, slots := 15, locals := 111 } D (hTy cy) f sz [.ref x, .int kind, .int runs, .int bnd] (hQi (fun r u => False) D f sz) (fun E u => E = "java/lang/IllegalStateException" ∧ u x = some (.inr (10, [.ref (A (b + 0)), .ref (A (b2 + 0)), .ref lg, .ref lg_o, .ref tx, .ref rz, .ref ro, .int xea, .int xra, .int (rfR cm cs (mkS 2 0 0 kind runs 0 bnd 0 0))])) ∧ MW A b cy q cm cs u ∧ hFrL f u [x]) := by
  refine h_enter (by decide) hfl (Nat.le_of_ble_eq_true rfl) ?_
  intro p9 e9 s9 m9 b9 t9 c9 hsz C0 hr hnm G ls hl
  have hx := C0.1.1
  have hb := C0.1.2.1
  have hl : lv_has ls 4 [(0, .ref x), (1, .int kind), (2, .int runs), (3, .int bnd)] := hl
  refine lv_iload_n hx hb dX8_ball_0 rfl (lv_at hl 1 rfl) ?_
  refine lv_iconst (v := 0) hx hb dX8_ball_1 (by decide) ?_
  refine lv_iconst (v := 4) hx hb dX8_ball_2 (by decide) ?_
  refine g_cI C0 G (g_runS C0 G (rest := []) (c_X8_isWithin hfl kind 0 4 ) hY_X8_isWithin mm_X8_56 ms_X8_isWithin ⟨(Nat.le_of_ble_eq_true rfl), (Nat.le_of_ble_eq_true rfl)⟩ rfl hl.1 rfl (Nat.le_of_ble_eq_true rfl) dX8_ball_3 ⟨(Nat.le_of_ble_eq_true rfl), (Nat.le_of_ble_eq_true rfl)⟩) (kx_no rfl) (fun r13 u12 H locs hp11 G => ?_)
  obtain ⟨er14, eu12⟩ := hp11
  rw [eu12] at G
  refine lv_topv (v := (X8_isWithin_x1 kind 0 4)) er14 ?_
  refine lv_if_eq (tgt := 36) hx hb dX8_ball_6 (by decide) (fun c15 => absurd c15 (v0)) (fun _ => ?_)
  refine lv_iload_n hx hb dX8_ball_9 rfl (lv_at hl 2 rfl) ?_
  refine lv_iload_n hx hb dX8_ball_10 rfl (lv_at hl 1 rfl) ?_
  refine g_cI C0 G (g_runS C0 G (rest := [.int runs]) (c_X8_leastRuns hfl kind ) hY_X8_leastRuns mm_X8_100 ms_X8_leastRuns ⟨(Nat.le_of_ble_eq_true rfl), (Nat.le_of_ble_eq_true rfl)⟩ rfl hl.1 rfl (Nat.le_of_ble_eq_true rfl) dX8_ball_11 ⟨(Nat.le_of_ble_eq_true rfl), (Nat.le_of_ble_eq_true rfl)⟩) (kx_no rfl) (fun r18 u17 H locs hp16 G => ?_)
  obtain ⟨er19, eu17⟩ := hp16
  rw [eu17] at G
  refine lv_topv (v := (X8_leastRuns_x1 kind)) er19 ?_
  refine lv_iload_n hx hb dX8_ball_14 rfl (lv_at hl 1 rfl) ?_
  refine g_cI C0 G (g_runS C0 G (rest := [.int (X8_leastRuns_x1 kind), .int runs]) (c_X8_mostRuns hfl kind ) hY_X8_mostRuns mm_X8_103 ms_X8_mostRuns ⟨(Nat.le_of_ble_eq_true rfl), (Nat.le_of_ble_eq_true rfl)⟩ rfl hl.1 rfl (Nat.le_of_ble_eq_true rfl) dX8_ball_15 ⟨(Nat.le_of_ble_eq_true rfl), (Nat.le_of_ble_eq_true rfl)⟩) (kx_no rfl) (fun r22 u21 H locs hp20 G => ?_)
  obtain ⟨er23, eu21⟩ := hp20
  rw [eu21] at G
  refine lv_topv (v := (X8_mostRuns_r2 kind)) er23 ?_
  refine g_cI C0 G (g_runS C0 G (rest := []) (c_X8_isWithin hfl runs (X8_leastRuns_x1 kind) (X8_mostRuns_r2 kind) ) hY_X8_isWithin mm_X8_56 ms_X8_isWithin ⟨(Nat.le_of_ble_eq_true rfl), (Nat.le_of_ble_eq_true rfl)⟩ rfl hl.1 rfl (Nat.le_of_ble_eq_true rfl) dX8_ball_18 ⟨(Nat.le_of_ble_eq_true rfl), (Nat.le_of_ble_eq_true rfl)⟩) (kx_no rfl) (fun r26 u25 H locs hp24 G => ?_)
  obtain ⟨er27, eu25⟩ := hp24
  rw [eu25] at G
  refine lv_topv (v := (X8_isWithin_x1 runs (X8_leastRuns_x1 kind) (X8_mostRuns_r2 kind))) er27 ?_
  refine lv_if_eq (tgt := 36) hx hb dX8_ball_21 (by decide) (fun c28 => absurd c28 (v1)) (fun _ => ?_)
  refine lv_iload_n hx hb dX8_ball_24 rfl (lv_at hl 3 rfl) ?_
  refine lv_if_eq (tgt := 46) hx hb dX8_ball_25 (by decide) (fun _ => ?_) (fun c29 => absurd (v2) c29)
  refine lv_aload_n hx hb dX8_ball_46 rfl (lv_at hl 0 rfl) ?_
  refine lv_iload_n hx hb dX8_ball_47 rfl (lv_at hl 1 rfl) ?_
  refine lv_iload_n hx hb dX8_ball_48 rfl (lv_at hl 2 rfl) ?_
  refine lv_iload_n hx hb dX8_ball_49 rfl (lv_at hl 3 rfl) ?_
  refine g_cR C0 G (g_runS C0 G (rest := [.ref x]) (c_X5_ofBall hfl kind runs bnd  hb_bnd) hY_X5_ofBall mm_X8_112 ms_X5_ofBall ⟨(Nat.le_of_ble_eq_true rfl), (Nat.le_of_ble_eq_true rfl)⟩ rfl hl.1 rfl (Nat.le_of_ble_eq_true rfl) dX8_ball_50 ⟨(Nat.le_of_ble_eq_true rfl), (Nat.le_of_ble_eq_true rfl)⟩) (kx_no rfl) (fun a32 u31 H locs hp30 G => ?_)
  obtain ⟨nn33, k34, fr35⟩ := hp30
  have nin36 : a32 ∉ MA A b := MW_nonew hM nn33
  have k37 : u31 x = some (.inr (10, [.ref (A (b + 0)), .ref (A (b2 + 0)), .ref lg, .ref lg_o, .ref tx, .ref rz, .ref ro, .int xea, .int xra, .int xkr])) := fr35 _ _ (by simp) h_x
  have hM38 := MW_frN hM fr35 (fun y9 hy9 => absurd hy9 (by simp))
  exact g_cI C0 G (g_runV C0 G (rest := []) (c_X8_carryOutR hfl (A := A) (b := b) (b2 := b2) (xea := xea) (xra := xra) (xkr := xkr) (ty := 2) (nu := 0) (wy := 0) (kd := kind) (ru := runs) (so := 0) (sb := bnd) (sc := 0) (sh := 0) (cm := cm) (cs := cs) k37 k34 hAj hM38 hQ hPX hR) k37 rfl hY_X8_carryOut mm_X8_96 mi_X8_carryOut ml_X8_carryOut ⟨(Nat.le_of_ble_eq_true rfl), (Nat.le_of_ble_eq_true rfl)⟩ rfl hl.1 rfl (Nat.le_of_ble_eq_true rfl) dX8_ball_53 ⟨(Nat.le_of_ble_eq_true rfl), (Nat.le_of_ble_eq_true rfl)⟩) (kx_out C0 (Nat.le_of_ble_eq_true rfl) (Nat.le_of_ble_eq_true rfl) (fun E9 u9 h9 => by
      obtain ⟨hE9, k39, hM40, fr41⟩ := h9
      exact ⟨hE9, k39, hM40, (fun a9 e9 h7 h8 => fr41 _ _ (fun q => h7 (by simp only [List.mem_cons, List.not_mem_nil, or_false] at q ⊢; first | exact q | (rcases q with q <;> simp [q]) | omega)) (fr35 _ _ (by simp) (h8)))⟩)) (fun _ _ _ _ h9 _ => (h9).elim)
def X8_ballAa_g0 (nS : Nat) (nC : Nat) (ge : Nat → Int32) : Nat → Int32 := (X8_carryOutA_g1 nS nC ge)
set_option maxRecDepth 100000 in
theorem c_X8_ballAa {l : Launch} (hfl : l.stackTraces = false) {D : va_G} {cy : Nat → ClassId} {f : Hf} {sz : Nat} {x : Nat} {lg : Nat} {sa : Nat} {ea : Nat} {A : Nat → Nat} {b : Nat} {b2 : Nat} {lg_o : Nat} {tx : Nat} {rz : Nat} {ro : Nat} {xea : Int32} {xra : Int32} {xkr : Int32} {no : Nat} {lo : Int32} {le : Int32} {lfi : Int32} {nS : Nat} {nC : Nat} {lun : Int32} {qs : Nat → Option Nat} {ge : Nat → Int32} {q : Nat → Option Nat} {cm : Nat → Int32} {cs : Nat → Nat → Nat → Int32} (bnd : Int32) (kind : Int32) (runs : Int32) (h_x : f x = some (.inr (10, [.ref (A (b + 0)), .ref (A (b2 + 0)), .ref lg, .ref lg_o, .ref tx, .ref rz, .ref ro, .int xea, .int xra, .int xkr]))) (h_lg : f lg = some (.inr (3, [.ref no, .ref sa, .ref ea, .int lo, .int le, .int lfi, .int (nI nS), .int (nI nC), .int lun]))) (h_sa : f sa = some (.inl (cy 4, 512, .inr (.inr (.inr (.inr qs)))))) (h_ea : f ea = some (.inl (cy 0, 512, .inl ge))) (hAj : ∀ i j : Nat, i ≠ j → A i ≠ A j) (hM : MW A b cy q cm cs f) (hQ : HQ A b q) (n_sa : sa ∉ MA A b) (n_ea : ea ∉ MA A b) (hb_bnd : bnd = 0 ∨ bnd = 1) (v0 : ¬ (X8_isWithin_x1 kind 0 4) = 0) (v1 : ¬ (X8_isWithin_x1 runs (X8_leastRuns_x1 kind) (X8_mostRuns_r2 kind)) = 0) (v2 : bnd = 0) (hPX : cm 0 = 0 ∨ PP cm cs) (hPP : PP cm cs) (hR : rfR cm cs (mkS 2 0 0 kind runs 0 bnd 0 0) = 0) (hnS : nS < 512) (hnC : nC < 512) (hro : X1_hasRoom_x1 nS nC 1 = 1) : hMet l yX8_ball cX8_ball 4 (some .int) { frames := 6, cells := 1, slots := 9, locals := 138 } D (hTy cy) f sz [.ref x, .int kind, .int runs, .int bnd] (hQi (fun r u => ∃ w9 : Nat, f w9 = none ∧ u w9 = some (.inr (7, [.int 2, .int 0, .int 0, .int kind, .int runs, .int 0, .int bnd, .int 0, .int 0])) ∧ r = (X8_carryOutA_r0 2 0 0 kind runs 0 bnd 0 0 cm cs) ∧ u sa = some (.inl (cy 4, 512, .inr (.inr (.inr (.inr (va_up qs nS (some w9))))))) ∧ u lg = some (.inr (3, [.ref no, .ref sa, .ref ea, .int lo, .int le, .int lfi, .int (nI (nS + 1)), .int (nI (nC + 1)), .int ((if 7 < lun then 7 else lun) + 1)])) ∧ u ea = some (.inl (cy 0, 512, .inl (X8_ballAa_g0 nS nC ge))) ∧ MW A b cy q (pfM cm cs (mkS 2 0 0 kind runs 0 bnd 0 0)) (pfS cm cs (mkS 2 0 0 kind runs 0 bnd 0 0)) u ∧ hFrL f u (MA A b ++ [sa, lg, ea])) D f sz) hNo := by
  refine h_enter (by decide) hfl (Nat.le_of_ble_eq_true rfl) ?_
  intro p9 e9 s9 m9 b9 t9 c9 hsz C0 hr hnm G ls hl
  have hx := C0.1.1
  have hb := C0.1.2.1
  have hl : lv_has ls 4 [(0, .ref x), (1, .int kind), (2, .int runs), (3, .int bnd)] := hl
  refine lv_iload_n hx hb dX8_ball_0 rfl (lv_at hl 1 rfl) ?_
  refine lv_iconst (v := 0) hx hb dX8_ball_1 (by decide) ?_
  refine lv_iconst (v := 4) hx hb dX8_ball_2 (by decide) ?_
  refine g_cI C0 G (g_runS C0 G (rest := []) (c_X8_isWithin hfl kind 0 4 ) hY_X8_isWithin mm_X8_56 ms_X8_isWithin ⟨(Nat.le_of_ble_eq_true rfl), (Nat.le_of_ble_eq_true rfl)⟩ rfl hl.1 rfl (Nat.le_of_ble_eq_true rfl) dX8_ball_3 ⟨(Nat.le_of_ble_eq_true rfl), (Nat.le_of_ble_eq_true rfl)⟩) (kx_no rfl) (fun r13 u12 H locs hp11 G => ?_)
  obtain ⟨er14, eu12⟩ := hp11
  rw [eu12] at G
  refine lv_topv (v := (X8_isWithin_x1 kind 0 4)) er14 ?_
  refine lv_if_eq (tgt := 36) hx hb dX8_ball_6 (by decide) (fun c15 => absurd c15 (v0)) (fun _ => ?_)
  refine lv_iload_n hx hb dX8_ball_9 rfl (lv_at hl 2 rfl) ?_
  refine lv_iload_n hx hb dX8_ball_10 rfl (lv_at hl 1 rfl) ?_
  refine g_cI C0 G (g_runS C0 G (rest := [.int runs]) (c_X8_leastRuns hfl kind ) hY_X8_leastRuns mm_X8_100 ms_X8_leastRuns ⟨(Nat.le_of_ble_eq_true rfl), (Nat.le_of_ble_eq_true rfl)⟩ rfl hl.1 rfl (Nat.le_of_ble_eq_true rfl) dX8_ball_11 ⟨(Nat.le_of_ble_eq_true rfl), (Nat.le_of_ble_eq_true rfl)⟩) (kx_no rfl) (fun r18 u17 H locs hp16 G => ?_)
  obtain ⟨er19, eu17⟩ := hp16
  rw [eu17] at G
  refine lv_topv (v := (X8_leastRuns_x1 kind)) er19 ?_
  refine lv_iload_n hx hb dX8_ball_14 rfl (lv_at hl 1 rfl) ?_
  refine g_cI C0 G (g_runS C0 G (rest := [.int (X8_leastRuns_x1 kind), .int runs]) (c_X8_mostRuns hfl kind ) hY_X8_mostRuns mm_X8_103 ms_X8_mostRuns ⟨(Nat.le_of_ble_eq_true rfl), (Nat.le_of_ble_eq_true rfl)⟩ rfl hl.1 rfl (Nat.le_of_ble_eq_true rfl) dX8_ball_15 ⟨(Nat.le_of_ble_eq_true rfl), (Nat.le_of_ble_eq_true rfl)⟩) (kx_no rfl) (fun r22 u21 H locs hp20 G => ?_)
  obtain ⟨er23, eu21⟩ := hp20
  rw [eu21] at G
  refine lv_topv (v := (X8_mostRuns_r2 kind)) er23 ?_
  refine g_cI C0 G (g_runS C0 G (rest := []) (c_X8_isWithin hfl runs (X8_leastRuns_x1 kind) (X8_mostRuns_r2 kind) ) hY_X8_isWithin mm_X8_56 ms_X8_isWithin ⟨(Nat.le_of_ble_eq_true rfl), (Nat.le_of_ble_eq_true rfl)⟩ rfl hl.1 rfl (Nat.le_of_ble_eq_true rfl) dX8_ball_18 ⟨(Nat.le_of_ble_eq_true rfl), (Nat.le_of_ble_eq_true rfl)⟩) (kx_no rfl) (fun r26 u25 H locs hp24 G => ?_)
  obtain ⟨er27, eu25⟩ := hp24
  rw [eu25] at G
  refine lv_topv (v := (X8_isWithin_x1 runs (X8_leastRuns_x1 kind) (X8_mostRuns_r2 kind))) er27 ?_
  refine lv_if_eq (tgt := 36) hx hb dX8_ball_21 (by decide) (fun c28 => absurd c28 (v1)) (fun _ => ?_)
  refine lv_iload_n hx hb dX8_ball_24 rfl (lv_at hl 3 rfl) ?_
  refine lv_if_eq (tgt := 46) hx hb dX8_ball_25 (by decide) (fun _ => ?_) (fun c29 => absurd (v2) c29)
  refine lv_aload_n hx hb dX8_ball_46 rfl (lv_at hl 0 rfl) ?_
  refine lv_iload_n hx hb dX8_ball_47 rfl (lv_at hl 1 rfl) ?_
  refine lv_iload_n hx hb dX8_ball_48 rfl (lv_at hl 2 rfl) ?_
  refine lv_iload_n hx hb dX8_ball_49 rfl (lv_at hl 3 rfl) ?_
  refine g_cR C0 G (g_runS C0 G (rest := [.ref x]) (c_X5_ofBall hfl kind runs bnd  hb_bnd) hY_X5_ofBall mm_X8_112 ms_X5_ofBall ⟨(Nat.le_of_ble_eq_true rfl), (Nat.le_of_ble_eq_true rfl)⟩ rfl hl.1 rfl (Nat.le_of_ble_eq_true rfl) dX8_ball_50 ⟨(Nat.le_of_ble_eq_true rfl), (Nat.le_of_ble_eq_true rfl)⟩) (kx_no rfl) (fun a32 u31 H locs hp30 G => ?_)
  obtain ⟨nn33, k34, fr35⟩ := hp30
  have nin36 : a32 ∉ MA A b := MW_nonew hM nn33
  have k37 : u31 x = some (.inr (10, [.ref (A (b + 0)), .ref (A (b2 + 0)), .ref lg, .ref lg_o, .ref tx, .ref rz, .ref ro, .int xea, .int xra, .int xkr])) := fr35 _ _ (by simp) h_x
  have k38 : u31 lg = some (.inr (3, [.ref no, .ref sa, .ref ea, .int lo, .int le, .int lfi, .int (nI nS), .int (nI nC), .int lun])) := fr35 _ _ (by simp) h_lg
  have k39 : u31 sa = some (.inl (cy 4, 512, .inr (.inr (.inr (.inr qs))))) := fr35 _ _ (by simp) h_sa
  have k40 : u31 ea = some (.inl (cy 0, 512, .inl ge)) := fr35 _ _ (by simp) h_ea
  have hM41 := MW_frN hM fr35 (fun y9 hy9 => absurd hy9 (by simp))
  refine g_cI C0 G (g_runV C0 G (rest := []) (c_X8_carryOutA hfl (A := A) (b := b) (b2 := b2) (xea := xea) (xra := xra) (xkr := xkr) (lo := lo) (le := le) (lfi := lfi) (nS := nS) (nC := nC) (lun := lun) (qs := qs) (ge := ge) (ty := 2) (nu := 0) (wy := 0) (kd := kind) (ru := runs) (so := 0) (sb := bnd) (sc := 0) (sh := 0) (cm := cm) (cs := cs) k37 k38 k39 k40 k34 hAj hM41 hQ n_sa n_ea hPX hPP hR hnS hnC hro) k37 rfl hY_X8_carryOut mm_X8_96 mi_X8_carryOut ml_X8_carryOut ⟨(Nat.le_of_ble_eq_true rfl), (Nat.le_of_ble_eq_true rfl)⟩ rfl hl.1 rfl (Nat.le_of_ble_eq_true rfl) dX8_ball_53 ⟨(Nat.le_of_ble_eq_true rfl), (Nat.le_of_ble_eq_true rfl)⟩) (kx_no rfl) (fun r44 u43 H locs hp42 G => ?_)
  obtain ⟨er50, k45, k46, k47, hM48, fr49⟩ := hp42
  refine lv_topv (v := (X8_carryOutA_r0 2 0 0 kind runs 0 bnd 0 0 cm cs)) er50 ?_
  have k51 : u43 a32 = some (.inr (7, [.int 2, .int 0, .int 0, .int kind, .int runs, .int 0, .int bnd, .int 0, .int 0])) := fr49 _ _ (fun q9 => by rcases List.mem_append.mp q9 with q9 | q9; exact nin36 q9; simp only [List.mem_cons, List.not_mem_nil, or_false] at q9; rcases q9 with q9 | q9 | q9; exact (Ne.symm (hneN h_sa nn33)) q9; exact (Ne.symm (hneN h_lg nn33)) q9; exact (Ne.symm (hneN h_ea nn33)) q9) k34
  exact g_iret C0 G hr dX8_ball_56 (Nat.le_of_ble_eq_true rfl) (Nat.le_of_ble_eq_true rfl) (by exact ⟨a32, nn33, k51, rfl, k45, k46, (by rw [(by rw [X8_ballAa_g0] : (X8_ballAa_g0 nS nC ge) = (X8_carryOutA_g1 nS nC ge))]; exact k47), hM48, (fun a9 e9 h7 h8 => fr49 _ _ (fun q => h7 (by simp only [List.mem_append, List.mem_cons, List.not_mem_nil, or_false] at q ⊢; rcases q with q | q | q | q <;> simp [q])) (fr35 _ _ (by simp) (h8)))⟩)
set_option maxRecDepth 100000 in
theorem c_X8_ballRb {l : Launch} (hfl : l.stackTraces = false) {D : va_G} {cy : Nat → ClassId} {f : Hf} {sz : Nat} {x : Nat} {A : Nat → Nat} {b : Nat} {b2 : Nat} {lg : Nat} {lg_o : Nat} {tx : Nat} {rz : Nat} {ro : Nat} {xea : Int32} {xra : Int32} {xkr : Int32} {q : Nat → Option Nat} {cm : Nat → Int32} {cs : Nat → Nat → Nat → Int32} (bnd : Int32) (kind : Int32) (runs : Int32) (h_x : f x = some (.inr (10, [.ref (A (b + 0)), .ref (A (b2 + 0)), .ref lg, .ref lg_o, .ref tx, .ref rz, .ref ro, .int xea, .int xra, .int xkr]))) (hAj : ∀ i j : Nat, i ≠ j → A i ≠ A j) (hM : MW A b cy q cm cs f) (hQ : HQ A b q) (hb_bnd : bnd = 0 ∨ bnd = 1) (v0 : ¬ (X8_isWithin_x1 kind 0 4) = 0) (v1 : ¬ (X8_isWithin_x1 runs (X8_leastRuns_x1 kind) (X8_mostRuns_r2 kind)) = 0) (v2 : ¬ bnd = 0) (v3 : ¬ (X8_canBeBoundary_x3 kind runs) = 0) (hPX : cm 0 = 0 ∨ PP cm cs) (hR : ¬ rfR cm cs (mkS 2 0 0 kind runs 0 bnd 0 0) = 0) : hMet l yX8_ball cX8_ball 4 (some .int) { frames := 7, cells := 2, slots := 15, locals := 111 } D (hTy cy) f sz [.ref x, .int kind, .int runs, .int bnd] (hQi (fun r u => False) D f sz) (fun E u => E = "java/lang/IllegalStateException" ∧ u x = some (.inr (10, [.ref (A (b + 0)), .ref (A (b2 + 0)), .ref lg, .ref lg_o, .ref tx, .ref rz, .ref ro, .int xea, .int xra, .int (rfR cm cs (mkS 2 0 0 kind runs 0 bnd 0 0))])) ∧ MW A b cy q cm cs u ∧ hFrL f u [x]) := by
  refine h_enter (by decide) hfl (Nat.le_of_ble_eq_true rfl) ?_
  intro p9 e9 s9 m9 b9 t9 c9 hsz C0 hr hnm G ls hl
  have hx := C0.1.1
  have hb := C0.1.2.1
  have hl : lv_has ls 4 [(0, .ref x), (1, .int kind), (2, .int runs), (3, .int bnd)] := hl
  refine lv_iload_n hx hb dX8_ball_0 rfl (lv_at hl 1 rfl) ?_
  refine lv_iconst (v := 0) hx hb dX8_ball_1 (by decide) ?_
  refine lv_iconst (v := 4) hx hb dX8_ball_2 (by decide) ?_
  refine g_cI C0 G (g_runS C0 G (rest := []) (c_X8_isWithin hfl kind 0 4 ) hY_X8_isWithin mm_X8_56 ms_X8_isWithin ⟨(Nat.le_of_ble_eq_true rfl), (Nat.le_of_ble_eq_true rfl)⟩ rfl hl.1 rfl (Nat.le_of_ble_eq_true rfl) dX8_ball_3 ⟨(Nat.le_of_ble_eq_true rfl), (Nat.le_of_ble_eq_true rfl)⟩) (kx_no rfl) (fun r13 u12 H locs hp11 G => ?_)
  obtain ⟨er14, eu12⟩ := hp11
  rw [eu12] at G
  refine lv_topv (v := (X8_isWithin_x1 kind 0 4)) er14 ?_
  refine lv_if_eq (tgt := 36) hx hb dX8_ball_6 (by decide) (fun c15 => absurd c15 (v0)) (fun _ => ?_)
  refine lv_iload_n hx hb dX8_ball_9 rfl (lv_at hl 2 rfl) ?_
  refine lv_iload_n hx hb dX8_ball_10 rfl (lv_at hl 1 rfl) ?_
  refine g_cI C0 G (g_runS C0 G (rest := [.int runs]) (c_X8_leastRuns hfl kind ) hY_X8_leastRuns mm_X8_100 ms_X8_leastRuns ⟨(Nat.le_of_ble_eq_true rfl), (Nat.le_of_ble_eq_true rfl)⟩ rfl hl.1 rfl (Nat.le_of_ble_eq_true rfl) dX8_ball_11 ⟨(Nat.le_of_ble_eq_true rfl), (Nat.le_of_ble_eq_true rfl)⟩) (kx_no rfl) (fun r18 u17 H locs hp16 G => ?_)
  obtain ⟨er19, eu17⟩ := hp16
  rw [eu17] at G
  refine lv_topv (v := (X8_leastRuns_x1 kind)) er19 ?_
  refine lv_iload_n hx hb dX8_ball_14 rfl (lv_at hl 1 rfl) ?_
  refine g_cI C0 G (g_runS C0 G (rest := [.int (X8_leastRuns_x1 kind), .int runs]) (c_X8_mostRuns hfl kind ) hY_X8_mostRuns mm_X8_103 ms_X8_mostRuns ⟨(Nat.le_of_ble_eq_true rfl), (Nat.le_of_ble_eq_true rfl)⟩ rfl hl.1 rfl (Nat.le_of_ble_eq_true rfl) dX8_ball_15 ⟨(Nat.le_of_ble_eq_true rfl), (Nat.le_of_ble_eq_true rfl)⟩) (kx_no rfl) (fun r22 u21 H locs hp20 G => ?_)
  obtain ⟨er23, eu21⟩ := hp20
  rw [eu21] at G
  refine lv_topv (v := (X8_mostRuns_r2 kind)) er23 ?_
  refine g_cI C0 G (g_runS C0 G (rest := []) (c_X8_isWithin hfl runs (X8_leastRuns_x1 kind) (X8_mostRuns_r2 kind) ) hY_X8_isWithin mm_X8_56 ms_X8_isWithin ⟨(Nat.le_of_ble_eq_true rfl), (Nat.le_of_ble_eq_true rfl)⟩ rfl hl.1 rfl (Nat.le_of_ble_eq_true rfl) dX8_ball_18 ⟨(Nat.le_of_ble_eq_true rfl), (Nat.le_of_ble_eq_true rfl)⟩) (kx_no rfl) (fun r26 u25 H locs hp24 G => ?_)
  obtain ⟨er27, eu25⟩ := hp24
  rw [eu25] at G
  refine lv_topv (v := (X8_isWithin_x1 runs (X8_leastRuns_x1 kind) (X8_mostRuns_r2 kind))) er27 ?_
  refine lv_if_eq (tgt := 36) hx hb dX8_ball_21 (by decide) (fun c28 => absurd c28 (v1)) (fun _ => ?_)
  refine lv_iload_n hx hb dX8_ball_24 rfl (lv_at hl 3 rfl) ?_
  refine lv_if_eq (tgt := 46) hx hb dX8_ball_25 (by decide) (fun c29 => absurd c29 (v2)) (fun _ => ?_)
  refine lv_iload_n hx hb dX8_ball_28 rfl (lv_at hl 1 rfl) ?_
  refine lv_iload_n hx hb dX8_ball_29 rfl (lv_at hl 2 rfl) ?_
  refine g_cI C0 G (g_runS C0 G (rest := []) (c_X8_canBeBoundary hfl kind runs ) hY_X8_canBeBoundary mm_X8_106 ms_X8_canBeBoundary ⟨(Nat.le_of_ble_eq_true rfl), (Nat.le_of_ble_eq_true rfl)⟩ rfl hl.1 rfl (Nat.le_of_ble_eq_true rfl) dX8_ball_30 ⟨(Nat.le_of_ble_eq_true rfl), (Nat.le_of_ble_eq_true rfl)⟩) (kx_no rfl) (fun r32 u31 H locs hp30 G => ?_)
  obtain ⟨er33, eu31⟩ := hp30
  rw [eu31] at G
  refine lv_topv (v := (X8_canBeBoundary_x3 kind runs)) er33 ?_
  refine lv_if_ne (tgt := 46) hx hb dX8_ball_33 (by decide) (fun _ => ?_) (fun c34 => absurd c34 (v3))
  refine lv_aload_n hx hb dX8_ball_46 rfl (lv_at hl 0 rfl) ?_
  refine lv_iload_n hx hb dX8_ball_47 rfl (lv_at hl 1 rfl) ?_
  refine lv_iload_n hx hb dX8_ball_48 rfl (lv_at hl 2 rfl) ?_
  refine lv_iload_n hx hb dX8_ball_49 rfl (lv_at hl 3 rfl) ?_
  refine g_cR C0 G (g_runS C0 G (rest := [.ref x]) (c_X5_ofBall hfl kind runs bnd  hb_bnd) hY_X5_ofBall mm_X8_112 ms_X5_ofBall ⟨(Nat.le_of_ble_eq_true rfl), (Nat.le_of_ble_eq_true rfl)⟩ rfl hl.1 rfl (Nat.le_of_ble_eq_true rfl) dX8_ball_50 ⟨(Nat.le_of_ble_eq_true rfl), (Nat.le_of_ble_eq_true rfl)⟩) (kx_no rfl) (fun a37 u36 H locs hp35 G => ?_)
  obtain ⟨nn38, k39, fr40⟩ := hp35
  have nin41 : a37 ∉ MA A b := MW_nonew hM nn38
  have k42 : u36 x = some (.inr (10, [.ref (A (b + 0)), .ref (A (b2 + 0)), .ref lg, .ref lg_o, .ref tx, .ref rz, .ref ro, .int xea, .int xra, .int xkr])) := fr40 _ _ (by simp) h_x
  have hM43 := MW_frN hM fr40 (fun y9 hy9 => absurd hy9 (by simp))
  exact g_cI C0 G (g_runV C0 G (rest := []) (c_X8_carryOutR hfl (A := A) (b := b) (b2 := b2) (xea := xea) (xra := xra) (xkr := xkr) (ty := 2) (nu := 0) (wy := 0) (kd := kind) (ru := runs) (so := 0) (sb := bnd) (sc := 0) (sh := 0) (cm := cm) (cs := cs) k42 k39 hAj hM43 hQ hPX hR) k42 rfl hY_X8_carryOut mm_X8_96 mi_X8_carryOut ml_X8_carryOut ⟨(Nat.le_of_ble_eq_true rfl), (Nat.le_of_ble_eq_true rfl)⟩ rfl hl.1 rfl (Nat.le_of_ble_eq_true rfl) dX8_ball_53 ⟨(Nat.le_of_ble_eq_true rfl), (Nat.le_of_ble_eq_true rfl)⟩) (kx_out C0 (Nat.le_of_ble_eq_true rfl) (Nat.le_of_ble_eq_true rfl) (fun E9 u9 h9 => by
      obtain ⟨hE9, k44, hM45, fr46⟩ := h9
      exact ⟨hE9, k44, hM45, (fun a9 e9 h7 h8 => fr46 _ _ (fun q => h7 (by simp only [List.mem_cons, List.not_mem_nil, or_false] at q ⊢; first | exact q | (rcases q with q <;> simp [q]) | omega)) (fr40 _ _ (by simp) (h8)))⟩)) (fun _ _ _ _ h9 _ => (h9).elim)
def X8_ballAb_g0 (nS : Nat) (nC : Nat) (ge : Nat → Int32) : Nat → Int32 := (X8_carryOutA_g1 nS nC ge)
set_option maxRecDepth 100000 in
theorem c_X8_ballAb {l : Launch} (hfl : l.stackTraces = false) {D : va_G} {cy : Nat → ClassId} {f : Hf} {sz : Nat} {x : Nat} {lg : Nat} {sa : Nat} {ea : Nat} {A : Nat → Nat} {b : Nat} {b2 : Nat} {lg_o : Nat} {tx : Nat} {rz : Nat} {ro : Nat} {xea : Int32} {xra : Int32} {xkr : Int32} {no : Nat} {lo : Int32} {le : Int32} {lfi : Int32} {nS : Nat} {nC : Nat} {lun : Int32} {qs : Nat → Option Nat} {ge : Nat → Int32} {q : Nat → Option Nat} {cm : Nat → Int32} {cs : Nat → Nat → Nat → Int32} (bnd : Int32) (kind : Int32) (runs : Int32) (h_x : f x = some (.inr (10, [.ref (A (b + 0)), .ref (A (b2 + 0)), .ref lg, .ref lg_o, .ref tx, .ref rz, .ref ro, .int xea, .int xra, .int xkr]))) (h_lg : f lg = some (.inr (3, [.ref no, .ref sa, .ref ea, .int lo, .int le, .int lfi, .int (nI nS), .int (nI nC), .int lun]))) (h_sa : f sa = some (.inl (cy 4, 512, .inr (.inr (.inr (.inr qs)))))) (h_ea : f ea = some (.inl (cy 0, 512, .inl ge))) (hAj : ∀ i j : Nat, i ≠ j → A i ≠ A j) (hM : MW A b cy q cm cs f) (hQ : HQ A b q) (n_sa : sa ∉ MA A b) (n_ea : ea ∉ MA A b) (hb_bnd : bnd = 0 ∨ bnd = 1) (v0 : ¬ (X8_isWithin_x1 kind 0 4) = 0) (v1 : ¬ (X8_isWithin_x1 runs (X8_leastRuns_x1 kind) (X8_mostRuns_r2 kind)) = 0) (v2 : ¬ bnd = 0) (v3 : ¬ (X8_canBeBoundary_x3 kind runs) = 0) (hPX : cm 0 = 0 ∨ PP cm cs) (hPP : PP cm cs) (hR : rfR cm cs (mkS 2 0 0 kind runs 0 bnd 0 0) = 0) (hnS : nS < 512) (hnC : nC < 512) (hro : X1_hasRoom_x1 nS nC 1 = 1) : hMet l yX8_ball cX8_ball 4 (some .int) { frames := 6, cells := 1, slots := 9, locals := 138 } D (hTy cy) f sz [.ref x, .int kind, .int runs, .int bnd] (hQi (fun r u => ∃ w9 : Nat, f w9 = none ∧ u w9 = some (.inr (7, [.int 2, .int 0, .int 0, .int kind, .int runs, .int 0, .int bnd, .int 0, .int 0])) ∧ r = (X8_carryOutA_r0 2 0 0 kind runs 0 bnd 0 0 cm cs) ∧ u sa = some (.inl (cy 4, 512, .inr (.inr (.inr (.inr (va_up qs nS (some w9))))))) ∧ u lg = some (.inr (3, [.ref no, .ref sa, .ref ea, .int lo, .int le, .int lfi, .int (nI (nS + 1)), .int (nI (nC + 1)), .int ((if 7 < lun then 7 else lun) + 1)])) ∧ u ea = some (.inl (cy 0, 512, .inl (X8_ballAb_g0 nS nC ge))) ∧ MW A b cy q (pfM cm cs (mkS 2 0 0 kind runs 0 bnd 0 0)) (pfS cm cs (mkS 2 0 0 kind runs 0 bnd 0 0)) u ∧ hFrL f u (MA A b ++ [sa, lg, ea])) D f sz) hNo := by
  refine h_enter (by decide) hfl (Nat.le_of_ble_eq_true rfl) ?_
  intro p9 e9 s9 m9 b9 t9 c9 hsz C0 hr hnm G ls hl
  have hx := C0.1.1
  have hb := C0.1.2.1
  have hl : lv_has ls 4 [(0, .ref x), (1, .int kind), (2, .int runs), (3, .int bnd)] := hl
  refine lv_iload_n hx hb dX8_ball_0 rfl (lv_at hl 1 rfl) ?_
  refine lv_iconst (v := 0) hx hb dX8_ball_1 (by decide) ?_
  refine lv_iconst (v := 4) hx hb dX8_ball_2 (by decide) ?_
  refine g_cI C0 G (g_runS C0 G (rest := []) (c_X8_isWithin hfl kind 0 4 ) hY_X8_isWithin mm_X8_56 ms_X8_isWithin ⟨(Nat.le_of_ble_eq_true rfl), (Nat.le_of_ble_eq_true rfl)⟩ rfl hl.1 rfl (Nat.le_of_ble_eq_true rfl) dX8_ball_3 ⟨(Nat.le_of_ble_eq_true rfl), (Nat.le_of_ble_eq_true rfl)⟩) (kx_no rfl) (fun r13 u12 H locs hp11 G => ?_)
  obtain ⟨er14, eu12⟩ := hp11
  rw [eu12] at G
  refine lv_topv (v := (X8_isWithin_x1 kind 0 4)) er14 ?_
  refine lv_if_eq (tgt := 36) hx hb dX8_ball_6 (by decide) (fun c15 => absurd c15 (v0)) (fun _ => ?_)
  refine lv_iload_n hx hb dX8_ball_9 rfl (lv_at hl 2 rfl) ?_
  refine lv_iload_n hx hb dX8_ball_10 rfl (lv_at hl 1 rfl) ?_
  refine g_cI C0 G (g_runS C0 G (rest := [.int runs]) (c_X8_leastRuns hfl kind ) hY_X8_leastRuns mm_X8_100 ms_X8_leastRuns ⟨(Nat.le_of_ble_eq_true rfl), (Nat.le_of_ble_eq_true rfl)⟩ rfl hl.1 rfl (Nat.le_of_ble_eq_true rfl) dX8_ball_11 ⟨(Nat.le_of_ble_eq_true rfl), (Nat.le_of_ble_eq_true rfl)⟩) (kx_no rfl) (fun r18 u17 H locs hp16 G => ?_)
  obtain ⟨er19, eu17⟩ := hp16
  rw [eu17] at G
  refine lv_topv (v := (X8_leastRuns_x1 kind)) er19 ?_
  refine lv_iload_n hx hb dX8_ball_14 rfl (lv_at hl 1 rfl) ?_
  refine g_cI C0 G (g_runS C0 G (rest := [.int (X8_leastRuns_x1 kind), .int runs]) (c_X8_mostRuns hfl kind ) hY_X8_mostRuns mm_X8_103 ms_X8_mostRuns ⟨(Nat.le_of_ble_eq_true rfl), (Nat.le_of_ble_eq_true rfl)⟩ rfl hl.1 rfl (Nat.le_of_ble_eq_true rfl) dX8_ball_15 ⟨(Nat.le_of_ble_eq_true rfl), (Nat.le_of_ble_eq_true rfl)⟩) (kx_no rfl) (fun r22 u21 H locs hp20 G => ?_)
  obtain ⟨er23, eu21⟩ := hp20
  rw [eu21] at G
  refine lv_topv (v := (X8_mostRuns_r2 kind)) er23 ?_
  refine g_cI C0 G (g_runS C0 G (rest := []) (c_X8_isWithin hfl runs (X8_leastRuns_x1 kind) (X8_mostRuns_r2 kind) ) hY_X8_isWithin mm_X8_56 ms_X8_isWithin ⟨(Nat.le_of_ble_eq_true rfl), (Nat.le_of_ble_eq_true rfl)⟩ rfl hl.1 rfl (Nat.le_of_ble_eq_true rfl) dX8_ball_18 ⟨(Nat.le_of_ble_eq_true rfl), (Nat.le_of_ble_eq_true rfl)⟩) (kx_no rfl) (fun r26 u25 H locs hp24 G => ?_)
  obtain ⟨er27, eu25⟩ := hp24
  rw [eu25] at G
  refine lv_topv (v := (X8_isWithin_x1 runs (X8_leastRuns_x1 kind) (X8_mostRuns_r2 kind))) er27 ?_
  refine lv_if_eq (tgt := 36) hx hb dX8_ball_21 (by decide) (fun c28 => absurd c28 (v1)) (fun _ => ?_)
  refine lv_iload_n hx hb dX8_ball_24 rfl (lv_at hl 3 rfl) ?_
  refine lv_if_eq (tgt := 46) hx hb dX8_ball_25 (by decide) (fun c29 => absurd c29 (v2)) (fun _ => ?_)
  refine lv_iload_n hx hb dX8_ball_28 rfl (lv_at hl 1 rfl) ?_
  refine lv_iload_n hx hb dX8_ball_29 rfl (lv_at hl 2 rfl) ?_
  refine g_cI C0 G (g_runS C0 G (rest := []) (c_X8_canBeBoundary hfl kind runs ) hY_X8_canBeBoundary mm_X8_106 ms_X8_canBeBoundary ⟨(Nat.le_of_ble_eq_true rfl), (Nat.le_of_ble_eq_true rfl)⟩ rfl hl.1 rfl (Nat.le_of_ble_eq_true rfl) dX8_ball_30 ⟨(Nat.le_of_ble_eq_true rfl), (Nat.le_of_ble_eq_true rfl)⟩) (kx_no rfl) (fun r32 u31 H locs hp30 G => ?_)
  obtain ⟨er33, eu31⟩ := hp30
  rw [eu31] at G
  refine lv_topv (v := (X8_canBeBoundary_x3 kind runs)) er33 ?_
  refine lv_if_ne (tgt := 46) hx hb dX8_ball_33 (by decide) (fun _ => ?_) (fun c34 => absurd c34 (v3))
  refine lv_aload_n hx hb dX8_ball_46 rfl (lv_at hl 0 rfl) ?_
  refine lv_iload_n hx hb dX8_ball_47 rfl (lv_at hl 1 rfl) ?_
  refine lv_iload_n hx hb dX8_ball_48 rfl (lv_at hl 2 rfl) ?_
  refine lv_iload_n hx hb dX8_ball_49 rfl (lv_at hl 3 rfl) ?_
  refine g_cR C0 G (g_runS C0 G (rest := [.ref x]) (c_X5_ofBall hfl kind runs bnd  hb_bnd) hY_X5_ofBall mm_X8_112 ms_X5_ofBall ⟨(Nat.le_of_ble_eq_true rfl), (Nat.le_of_ble_eq_true rfl)⟩ rfl hl.1 rfl (Nat.le_of_ble_eq_true rfl) dX8_ball_50 ⟨(Nat.le_of_ble_eq_true rfl), (Nat.le_of_ble_eq_true rfl)⟩) (kx_no rfl) (fun a37 u36 H locs hp35 G => ?_)
  obtain ⟨nn38, k39, fr40⟩ := hp35
  have nin41 : a37 ∉ MA A b := MW_nonew hM nn38
  have k42 : u36 x = some (.inr (10, [.ref (A (b + 0)), .ref (A (b2 + 0)), .ref lg, .ref lg_o, .ref tx, .ref rz, .ref ro, .int xea, .int xra, .int xkr])) := fr40 _ _ (by simp) h_x
  have k43 : u36 lg = some (.inr (3, [.ref no, .ref sa, .ref ea, .int lo, .int le, .int lfi, .int (nI nS), .int (nI nC), .int lun])) := fr40 _ _ (by simp) h_lg
  have k44 : u36 sa = some (.inl (cy 4, 512, .inr (.inr (.inr (.inr qs))))) := fr40 _ _ (by simp) h_sa
  have k45 : u36 ea = some (.inl (cy 0, 512, .inl ge)) := fr40 _ _ (by simp) h_ea
  have hM46 := MW_frN hM fr40 (fun y9 hy9 => absurd hy9 (by simp))
  refine g_cI C0 G (g_runV C0 G (rest := []) (c_X8_carryOutA hfl (A := A) (b := b) (b2 := b2) (xea := xea) (xra := xra) (xkr := xkr) (lo := lo) (le := le) (lfi := lfi) (nS := nS) (nC := nC) (lun := lun) (qs := qs) (ge := ge) (ty := 2) (nu := 0) (wy := 0) (kd := kind) (ru := runs) (so := 0) (sb := bnd) (sc := 0) (sh := 0) (cm := cm) (cs := cs) k42 k43 k44 k45 k39 hAj hM46 hQ n_sa n_ea hPX hPP hR hnS hnC hro) k42 rfl hY_X8_carryOut mm_X8_96 mi_X8_carryOut ml_X8_carryOut ⟨(Nat.le_of_ble_eq_true rfl), (Nat.le_of_ble_eq_true rfl)⟩ rfl hl.1 rfl (Nat.le_of_ble_eq_true rfl) dX8_ball_53 ⟨(Nat.le_of_ble_eq_true rfl), (Nat.le_of_ble_eq_true rfl)⟩) (kx_no rfl) (fun r49 u48 H locs hp47 G => ?_)
  obtain ⟨er55, k50, k51, k52, hM53, fr54⟩ := hp47
  refine lv_topv (v := (X8_carryOutA_r0 2 0 0 kind runs 0 bnd 0 0 cm cs)) er55 ?_
  have k56 : u48 a37 = some (.inr (7, [.int 2, .int 0, .int 0, .int kind, .int runs, .int 0, .int bnd, .int 0, .int 0])) := fr54 _ _ (fun q9 => by rcases List.mem_append.mp q9 with q9 | q9; exact nin41 q9; simp only [List.mem_cons, List.not_mem_nil, or_false] at q9; rcases q9 with q9 | q9 | q9; exact (Ne.symm (hneN h_sa nn38)) q9; exact (Ne.symm (hneN h_lg nn38)) q9; exact (Ne.symm (hneN h_ea nn38)) q9) k39
  exact g_iret C0 G hr dX8_ball_56 (Nat.le_of_ble_eq_true rfl) (Nat.le_of_ble_eq_true rfl) (by exact ⟨a37, nn38, k56, rfl, k50, k51, (by rw [(by rw [X8_ballAb_g0] : (X8_ballAb_g0 nS nC ge) = (X8_carryOutA_g1 nS nC ge))]; exact k52), hM53, (fun a9 e9 h7 h8 => fr54 _ _ (fun q => h7 (by simp only [List.mem_append, List.mem_cons, List.not_mem_nil, or_false] at q ⊢; rcases q with q | q | q | q <;> simp [q])) (fr40 _ _ (by simp) (h8)))⟩)
set_option maxRecDepth 100000 in
theorem c_X8_wicketB1 {l : Launch} (hfl : l.stackTraces = false) {D : va_G} {cy : Nat → ClassId} {f : Hf} {sz : Nat} {x : Nat} {A : Nat → Nat} {b : Nat} {b2 : Nat} {lg : Nat} {lg_o : Nat} {tx : Nat} {rz : Nat} {ro : Nat} {xea : Int32} {xra : Int32} {xkr : Int32} (oth : Int32) (cro : Int32) (way : Int32) (kind : Int32) (runs : Int32) (h_x : f x = some (.inr (10, [.ref (A (b + 0)), .ref (A (b2 + 0)), .ref lg, .ref lg_o, .ref tx, .ref rz, .ref ro, .int xea, .int xra, .int xkr]))) (hb_oth : oth = 0 ∨ oth = 1) (hb_cro : cro = 0 ∨ cro = 1) (v0 : (X8_isWithin_x1 way 0 5) = 0) : hMet l yX8_wicket cX8_wicket 6 (some .int) { frames := 6, cells := 1, slots := 6, locals := 82 } D (hTy cy) f sz [.ref x, .int way, .int kind, .int oth, .int runs, .int cro] (hQi (fun r u => False) D f sz) (fun E u => E = "java/lang/IllegalArgumentException" ∧ u = f) := by
  refine h_enter (by decide) hfl (Nat.le_of_ble_eq_true rfl) ?_
  intro p9 e9 s9 m9 b9 t9 c9 hsz C0 hr hnm G ls hl
  have hx := C0.1.1
  have hb := C0.1.2.1
  have hl : lv_has ls 6 [(0, .ref x), (1, .int way), (2, .int kind), (3, .int oth), (4, .int runs), (5, .int cro)] := hl
  refine lv_iload_n hx hb dX8_wicket_0 rfl (lv_at hl 1 rfl) ?_
  refine lv_iconst (v := 0) hx hb dX8_wicket_1 (by decide) ?_
  refine lv_iconst (v := 5) hx hb dX8_wicket_2 (by decide) ?_
  refine g_cI C0 G (g_runS C0 G (rest := []) (c_X8_isWithin hfl way 0 5 ) hY_X8_isWithin mm_X8_56 ms_X8_isWithin ⟨(Nat.le_of_ble_eq_true rfl), (Nat.le_of_ble_eq_true rfl)⟩ rfl hl.1 rfl (Nat.le_of_ble_eq_true rfl) dX8_wicket_3 ⟨(Nat.le_of_ble_eq_true rfl), (Nat.le_of_ble_eq_true rfl)⟩) (kx_no rfl) (fun r13 u12 H locs hp11 G => ?_)
  obtain ⟨er14, eu12⟩ := hp11
  rw [eu12] at G
  refine lv_topv (v := (X8_isWithin_x1 way 0 5)) er14 ?_
  refine lv_if_eq (tgt := 28) hx hb dX8_wicket_6 (by decide) (fun _ => ?_) (fun c15 => absurd (v0) c15)
  exact g_throw C0 G (X := "java/lang/IllegalArgumentException") (by decide) mk_X8_60 mz_java_lang_IllegalArgumentException (is := 116) (text := "way, kind or runs out of range") (by decide) hat_64 hl.1 dX8_wicket_28 dX8_wicket_31 dX8_wicket_32 dX8_wicket_34 dX8_wicket_37 ⟨(Nat.le_of_ble_eq_true rfl), (Nat.le_of_ble_eq_true rfl)⟩ ⟨(Nat.le_of_ble_eq_true rfl), (Nat.le_of_ble_eq_true rfl)⟩ (Nat.le_of_ble_eq_true rfl) (Nat.le_of_ble_eq_true rfl) (by exact ⟨rfl, rfl⟩)
set_option maxRecDepth 100000 in
theorem c_X8_wicketB2 {l : Launch} (hfl : l.stackTraces = false) {D : va_G} {cy : Nat → ClassId} {f : Hf} {sz : Nat} {x : Nat} {A : Nat → Nat} {b : Nat} {b2 : Nat} {lg : Nat} {lg_o : Nat} {tx : Nat} {rz : Nat} {ro : Nat} {xea : Int32} {xra : Int32} {xkr : Int32} (oth : Int32) (cro : Int32) (way : Int32) (kind : Int32) (runs : Int32) (h_x : f x = some (.inr (10, [.ref (A (b + 0)), .ref (A (b2 + 0)), .ref lg, .ref lg_o, .ref tx, .ref rz, .ref ro, .int xea, .int xra, .int xkr]))) (hb_oth : oth = 0 ∨ oth = 1) (hb_cro : cro = 0 ∨ cro = 1) (v0 : ¬ (X8_isWithin_x1 way 0 5) = 0) (v1 : (X8_isWithin_x1 kind 0 2) = 0) : hMet l yX8_wicket cX8_wicket 6 (some .int) { frames := 6, cells := 1, slots := 6, locals := 82 } D (hTy cy) f sz [.ref x, .int way, .int kind, .int oth, .int runs, .int cro] (hQi (fun r u => False) D f sz) (fun E u => E = "java/lang/IllegalArgumentException" ∧ u = f) := by
  refine h_enter (by decide) hfl (Nat.le_of_ble_eq_true rfl) ?_
  intro p9 e9 s9 m9 b9 t9 c9 hsz C0 hr hnm G ls hl
  have hx := C0.1.1
  have hb := C0.1.2.1
  have hl : lv_has ls 6 [(0, .ref x), (1, .int way), (2, .int kind), (3, .int oth), (4, .int runs), (5, .int cro)] := hl
  refine lv_iload_n hx hb dX8_wicket_0 rfl (lv_at hl 1 rfl) ?_
  refine lv_iconst (v := 0) hx hb dX8_wicket_1 (by decide) ?_
  refine lv_iconst (v := 5) hx hb dX8_wicket_2 (by decide) ?_
  refine g_cI C0 G (g_runS C0 G (rest := []) (c_X8_isWithin hfl way 0 5 ) hY_X8_isWithin mm_X8_56 ms_X8_isWithin ⟨(Nat.le_of_ble_eq_true rfl), (Nat.le_of_ble_eq_true rfl)⟩ rfl hl.1 rfl (Nat.le_of_ble_eq_true rfl) dX8_wicket_3 ⟨(Nat.le_of_ble_eq_true rfl), (Nat.le_of_ble_eq_true rfl)⟩) (kx_no rfl) (fun r13 u12 H locs hp11 G => ?_)
  obtain ⟨er14, eu12⟩ := hp11
  rw [eu12] at G
  refine lv_topv (v := (X8_isWithin_x1 way 0 5)) er14 ?_
  refine lv_if_eq (tgt := 28) hx hb dX8_wicket_6 (by decide) (fun c15 => absurd c15 (v0)) (fun _ => ?_)
  refine lv_iload_n hx hb dX8_wicket_9 rfl (lv_at hl 2 rfl) ?_
  refine lv_iconst (v := 0) hx hb dX8_wicket_10 (by decide) ?_
  refine lv_iconst (v := 2) hx hb dX8_wicket_11 (by decide) ?_
  refine g_cI C0 G (g_runS C0 G (rest := []) (c_X8_isWithin hfl kind 0 2 ) hY_X8_isWithin mm_X8_56 ms_X8_isWithin ⟨(Nat.le_of_ble_eq_true rfl), (Nat.le_of_ble_eq_true rfl)⟩ rfl hl.1 rfl (Nat.le_of_ble_eq_true rfl) dX8_wicket_12 ⟨(Nat.le_of_ble_eq_true rfl), (Nat.le_of_ble_eq_true rfl)⟩) (kx_no rfl) (fun r18 u17 H locs hp16 G => ?_)
  obtain ⟨er19, eu17⟩ := hp16
  rw [eu17] at G
  refine lv_topv (v := (X8_isWithin_x1 kind 0 2)) er19 ?_
  refine lv_if_eq (tgt := 28) hx hb dX8_wicket_15 (by decide) (fun _ => ?_) (fun c20 => absurd (v1) c20)
  exact g_throw C0 G (X := "java/lang/IllegalArgumentException") (by decide) mk_X8_60 mz_java_lang_IllegalArgumentException (is := 116) (text := "way, kind or runs out of range") (by decide) hat_64 hl.1 dX8_wicket_28 dX8_wicket_31 dX8_wicket_32 dX8_wicket_34 dX8_wicket_37 ⟨(Nat.le_of_ble_eq_true rfl), (Nat.le_of_ble_eq_true rfl)⟩ ⟨(Nat.le_of_ble_eq_true rfl), (Nat.le_of_ble_eq_true rfl)⟩ (Nat.le_of_ble_eq_true rfl) (Nat.le_of_ble_eq_true rfl) (by exact ⟨rfl, rfl⟩)
set_option maxRecDepth 100000 in
theorem c_X8_wicketB3 {l : Launch} (hfl : l.stackTraces = false) {D : va_G} {cy : Nat → ClassId} {f : Hf} {sz : Nat} {x : Nat} {A : Nat → Nat} {b : Nat} {b2 : Nat} {lg : Nat} {lg_o : Nat} {tx : Nat} {rz : Nat} {ro : Nat} {xea : Int32} {xra : Int32} {xkr : Int32} (oth : Int32) (cro : Int32) (way : Int32) (kind : Int32) (runs : Int32) (h_x : f x = some (.inr (10, [.ref (A (b + 0)), .ref (A (b2 + 0)), .ref lg, .ref lg_o, .ref tx, .ref rz, .ref ro, .int xea, .int xra, .int xkr]))) (hb_oth : oth = 0 ∨ oth = 1) (hb_cro : cro = 0 ∨ cro = 1) (v0 : ¬ (X8_isWithin_x1 way 0 5) = 0) (v1 : ¬ (X8_isWithin_x1 kind 0 2) = 0) (v2 : (X8_isWithin_x1 runs 0 3) = 0) : hMet l yX8_wicket cX8_wicket 6 (some .int) { frames := 6, cells := 1, slots := 6, locals := 82 } D (hTy cy) f sz [.ref x, .int way, .int kind, .int oth, .int runs, .int cro] (hQi (fun r u => False) D f sz) (fun E u => E = "java/lang/IllegalArgumentException" ∧ u = f) := by
  refine h_enter (by decide) hfl (Nat.le_of_ble_eq_true rfl) ?_
  intro p9 e9 s9 m9 b9 t9 c9 hsz C0 hr hnm G ls hl
  have hx := C0.1.1
  have hb := C0.1.2.1
  have hl : lv_has ls 6 [(0, .ref x), (1, .int way), (2, .int kind), (3, .int oth), (4, .int runs), (5, .int cro)] := hl
  refine lv_iload_n hx hb dX8_wicket_0 rfl (lv_at hl 1 rfl) ?_
  refine lv_iconst (v := 0) hx hb dX8_wicket_1 (by decide) ?_
  refine lv_iconst (v := 5) hx hb dX8_wicket_2 (by decide) ?_
  refine g_cI C0 G (g_runS C0 G (rest := []) (c_X8_isWithin hfl way 0 5 ) hY_X8_isWithin mm_X8_56 ms_X8_isWithin ⟨(Nat.le_of_ble_eq_true rfl), (Nat.le_of_ble_eq_true rfl)⟩ rfl hl.1 rfl (Nat.le_of_ble_eq_true rfl) dX8_wicket_3 ⟨(Nat.le_of_ble_eq_true rfl), (Nat.le_of_ble_eq_true rfl)⟩) (kx_no rfl) (fun r13 u12 H locs hp11 G => ?_)
  obtain ⟨er14, eu12⟩ := hp11
  rw [eu12] at G
  refine lv_topv (v := (X8_isWithin_x1 way 0 5)) er14 ?_
  refine lv_if_eq (tgt := 28) hx hb dX8_wicket_6 (by decide) (fun c15 => absurd c15 (v0)) (fun _ => ?_)
  refine lv_iload_n hx hb dX8_wicket_9 rfl (lv_at hl 2 rfl) ?_
  refine lv_iconst (v := 0) hx hb dX8_wicket_10 (by decide) ?_
  refine lv_iconst (v := 2) hx hb dX8_wicket_11 (by decide) ?_
  refine g_cI C0 G (g_runS C0 G (rest := []) (c_X8_isWithin hfl kind 0 2 ) hY_X8_isWithin mm_X8_56 ms_X8_isWithin ⟨(Nat.le_of_ble_eq_true rfl), (Nat.le_of_ble_eq_true rfl)⟩ rfl hl.1 rfl (Nat.le_of_ble_eq_true rfl) dX8_wicket_12 ⟨(Nat.le_of_ble_eq_true rfl), (Nat.le_of_ble_eq_true rfl)⟩) (kx_no rfl) (fun r18 u17 H locs hp16 G => ?_)
  obtain ⟨er19, eu17⟩ := hp16
  rw [eu17] at G
  refine lv_topv (v := (X8_isWithin_x1 kind 0 2)) er19 ?_
  refine lv_if_eq (tgt := 28) hx hb dX8_wicket_15 (by decide) (fun c20 => absurd c20 (v1)) (fun _ => ?_)
  refine lv_iload hx hb dX8_wicket_18 (lv_at hl 4 rfl) ?_
  refine lv_iconst (v := 0) hx hb dX8_wicket_20 (by decide) ?_
  refine lv_iconst (v := 3) hx hb dX8_wicket_21 (by decide) ?_
  refine g_cI C0 G (g_runS C0 G (rest := []) (c_X8_isWithin hfl runs 0 3 ) hY_X8_isWithin mm_X8_56 ms_X8_isWithin ⟨(Nat.le_of_ble_eq_true rfl), (Nat.le_of_ble_eq_true rfl)⟩ rfl hl.1 rfl (Nat.le_of_ble_eq_true rfl) dX8_wicket_22 ⟨(Nat.le_of_ble_eq_true rfl), (Nat.le_of_ble_eq_true rfl)⟩) (kx_no rfl) (fun r23 u22 H locs hp21 G => ?_)
  obtain ⟨er24, eu22⟩ := hp21
  rw [eu22] at G
  refine lv_topv (v := (X8_isWithin_x1 runs 0 3)) er24 ?_
  refine lv_if_ne (tgt := 38) hx hb dX8_wicket_25 (by decide) (fun c25 => absurd (v2) c25) (fun _ => ?_)
  exact g_throw C0 G (X := "java/lang/IllegalArgumentException") (by decide) mk_X8_60 mz_java_lang_IllegalArgumentException (is := 116) (text := "way, kind or runs out of range") (by decide) hat_64 hl.1 dX8_wicket_28 dX8_wicket_31 dX8_wicket_32 dX8_wicket_34 dX8_wicket_37 ⟨(Nat.le_of_ble_eq_true rfl), (Nat.le_of_ble_eq_true rfl)⟩ ⟨(Nat.le_of_ble_eq_true rfl), (Nat.le_of_ble_eq_true rfl)⟩ (Nat.le_of_ble_eq_true rfl) (Nat.le_of_ble_eq_true rfl) (by exact ⟨rfl, rfl⟩)
set_option maxRecDepth 100000 in
theorem c_X8_wicketR {l : Launch} (hfl : l.stackTraces = false) {D : va_G} {cy : Nat → ClassId} {f : Hf} {sz : Nat} {x : Nat} {A : Nat → Nat} {b : Nat} {b2 : Nat} {lg : Nat} {lg_o : Nat} {tx : Nat} {rz : Nat} {ro : Nat} {xea : Int32} {xra : Int32} {xkr : Int32} {q : Nat → Option Nat} {cm : Nat → Int32} {cs : Nat → Nat → Nat → Int32} (oth : Int32) (cro : Int32) (way : Int32) (kind : Int32) (runs : Int32) (h_x : f x = some (.inr (10, [.ref (A (b + 0)), .ref (A (b2 + 0)), .ref lg, .ref lg_o, .ref tx, .ref rz, .ref ro, .int xea, .int xra, .int xkr]))) (hAj : ∀ i j : Nat, i ≠ j → A i ≠ A j) (hM : MW A b cy q cm cs f) (hQ : HQ A b q) (hb_oth : oth = 0 ∨ oth = 1) (hb_cro : cro = 0 ∨ cro = 1) (v0 : ¬ (X8_isWithin_x1 way 0 5) = 0) (v1 : ¬ (X8_isWithin_x1 kind 0 2) = 0) (v2 : ¬ (X8_isWithin_x1 runs 0 3) = 0) (hPX : cm 0 = 0 ∨ PP cm cs) (hR : ¬ rfR cm cs (mkS 3 0 way kind runs oth 0 cro 0) = 0) : hMet l yX8_wicket cX8_wicket 6 (some .int) { frames := 7, cells := 2, slots := 15, locals := 111 } D (hTy cy) f sz [.ref x, .int way, .int kind, .int oth, .int runs, .int cro] (hQi (fun r u => False) D f sz) (fun E u => E = "java/lang/IllegalStateException" ∧ u x = some (.inr (10, [.ref (A (b + 0)), .ref (A (b2 + 0)), .ref lg, .ref lg_o, .ref tx, .ref rz, .ref ro, .int xea, .int xra, .int (rfR cm cs (mkS 3 0 way kind runs oth 0 cro 0))])) ∧ MW A b cy q cm cs u ∧ hFrL f u [x]) := by
  refine h_enter (by decide) hfl (Nat.le_of_ble_eq_true rfl) ?_
  intro p9 e9 s9 m9 b9 t9 c9 hsz C0 hr hnm G ls hl
  have hx := C0.1.1
  have hb := C0.1.2.1
  have hl : lv_has ls 6 [(0, .ref x), (1, .int way), (2, .int kind), (3, .int oth), (4, .int runs), (5, .int cro)] := hl
  refine lv_iload_n hx hb dX8_wicket_0 rfl (lv_at hl 1 rfl) ?_
  refine lv_iconst (v := 0) hx hb dX8_wicket_1 (by decide) ?_
  refine lv_iconst (v := 5) hx hb dX8_wicket_2 (by decide) ?_
  refine g_cI C0 G (g_runS C0 G (rest := []) (c_X8_isWithin hfl way 0 5 ) hY_X8_isWithin mm_X8_56 ms_X8_isWithin ⟨(Nat.le_of_ble_eq_true rfl), (Nat.le_of_ble_eq_true rfl)⟩ rfl hl.1 rfl (Nat.le_of_ble_eq_true rfl) dX8_wicket_3 ⟨(Nat.le_of_ble_eq_true rfl), (Nat.le_of_ble_eq_true rfl)⟩) (kx_no rfl) (fun r13 u12 H locs hp11 G => ?_)
  obtain ⟨er14, eu12⟩ := hp11
  rw [eu12] at G
  refine lv_topv (v := (X8_isWithin_x1 way 0 5)) er14 ?_
  refine lv_if_eq (tgt := 28) hx hb dX8_wicket_6 (by decide) (fun c15 => absurd c15 (v0)) (fun _ => ?_)
  refine lv_iload_n hx hb dX8_wicket_9 rfl (lv_at hl 2 rfl) ?_
  refine lv_iconst (v := 0) hx hb dX8_wicket_10 (by decide) ?_
  refine lv_iconst (v := 2) hx hb dX8_wicket_11 (by decide) ?_
  refine g_cI C0 G (g_runS C0 G (rest := []) (c_X8_isWithin hfl kind 0 2 ) hY_X8_isWithin mm_X8_56 ms_X8_isWithin ⟨(Nat.le_of_ble_eq_true rfl), (Nat.le_of_ble_eq_true rfl)⟩ rfl hl.1 rfl (Nat.le_of_ble_eq_true rfl) dX8_wicket_12 ⟨(Nat.le_of_ble_eq_true rfl), (Nat.le_of_ble_eq_true rfl)⟩) (kx_no rfl) (fun r18 u17 H locs hp16 G => ?_)
  obtain ⟨er19, eu17⟩ := hp16
  rw [eu17] at G
  refine lv_topv (v := (X8_isWithin_x1 kind 0 2)) er19 ?_
  refine lv_if_eq (tgt := 28) hx hb dX8_wicket_15 (by decide) (fun c20 => absurd c20 (v1)) (fun _ => ?_)
  refine lv_iload hx hb dX8_wicket_18 (lv_at hl 4 rfl) ?_
  refine lv_iconst (v := 0) hx hb dX8_wicket_20 (by decide) ?_
  refine lv_iconst (v := 3) hx hb dX8_wicket_21 (by decide) ?_
  refine g_cI C0 G (g_runS C0 G (rest := []) (c_X8_isWithin hfl runs 0 3 ) hY_X8_isWithin mm_X8_56 ms_X8_isWithin ⟨(Nat.le_of_ble_eq_true rfl), (Nat.le_of_ble_eq_true rfl)⟩ rfl hl.1 rfl (Nat.le_of_ble_eq_true rfl) dX8_wicket_22 ⟨(Nat.le_of_ble_eq_true rfl), (Nat.le_of_ble_eq_true rfl)⟩) (kx_no rfl) (fun r23 u22 H locs hp21 G => ?_)
  obtain ⟨er24, eu22⟩ := hp21
  rw [eu22] at G
  refine lv_topv (v := (X8_isWithin_x1 runs 0 3)) er24 ?_
  refine lv_if_ne (tgt := 38) hx hb dX8_wicket_25 (by decide) (fun _ => ?_) (fun c25 => absurd c25 (v2))
  refine lv_aload_n hx hb dX8_wicket_38 rfl (lv_at hl 0 rfl) ?_
  refine lv_iload_n hx hb dX8_wicket_39 rfl (lv_at hl 1 rfl) ?_
  refine lv_iload_n hx hb dX8_wicket_40 rfl (lv_at hl 2 rfl) ?_
  refine lv_iload_n hx hb dX8_wicket_41 rfl (lv_at hl 3 rfl) ?_
  refine lv_iload hx hb dX8_wicket_42 (lv_at hl 4 rfl) ?_
  refine lv_iload hx hb dX8_wicket_44 (lv_at hl 5 rfl) ?_
  refine g_cR C0 G (g_runS C0 G (rest := [.ref x]) (c_X5_ofWicket hfl way kind oth runs cro  hb_oth hb_cro) hY_X5_ofWicket mm_X8_118 ms_X5_ofWicket ⟨(Nat.le_of_ble_eq_true rfl), (Nat.le_of_ble_eq_true rfl)⟩ rfl hl.1 rfl (Nat.le_of_ble_eq_true rfl) dX8_wicket_46 ⟨(Nat.le_of_ble_eq_true rfl), (Nat.le_of_ble_eq_true rfl)⟩) (kx_no rfl) (fun a28 u27 H locs hp26 G => ?_)
  obtain ⟨nn29, k30, fr31⟩ := hp26
  have nin32 : a28 ∉ MA A b := MW_nonew hM nn29
  have k33 : u27 x = some (.inr (10, [.ref (A (b + 0)), .ref (A (b2 + 0)), .ref lg, .ref lg_o, .ref tx, .ref rz, .ref ro, .int xea, .int xra, .int xkr])) := fr31 _ _ (by simp) h_x
  have hM34 := MW_frN hM fr31 (fun y9 hy9 => absurd hy9 (by simp))
  exact g_cI C0 G (g_runV C0 G (rest := []) (c_X8_carryOutR hfl (A := A) (b := b) (b2 := b2) (xea := xea) (xra := xra) (xkr := xkr) (ty := 3) (nu := 0) (wy := way) (kd := kind) (ru := runs) (so := oth) (sb := 0) (sc := cro) (sh := 0) (cm := cm) (cs := cs) k33 k30 hAj hM34 hQ hPX hR) k33 rfl hY_X8_carryOut mm_X8_96 mi_X8_carryOut ml_X8_carryOut ⟨(Nat.le_of_ble_eq_true rfl), (Nat.le_of_ble_eq_true rfl)⟩ rfl hl.1 rfl (Nat.le_of_ble_eq_true rfl) dX8_wicket_49 ⟨(Nat.le_of_ble_eq_true rfl), (Nat.le_of_ble_eq_true rfl)⟩) (kx_out C0 (Nat.le_of_ble_eq_true rfl) (Nat.le_of_ble_eq_true rfl) (fun E9 u9 h9 => by
      obtain ⟨hE9, k35, hM36, fr37⟩ := h9
      exact ⟨hE9, k35, hM36, (fun a9 e9 h7 h8 => fr37 _ _ (fun q => h7 (by simp only [List.mem_cons, List.not_mem_nil, or_false] at q ⊢; first | exact q | (rcases q with q <;> simp [q]) | omega)) (fr31 _ _ (by simp) (h8)))⟩)) (fun _ _ _ _ h9 _ => (h9).elim)
def X8_wicketA_g0 (nS : Nat) (nC : Nat) (ge : Nat → Int32) : Nat → Int32 := (X8_carryOutA_g1 nS nC ge)
set_option maxRecDepth 100000 in
theorem c_X8_wicketA {l : Launch} (hfl : l.stackTraces = false) {D : va_G} {cy : Nat → ClassId} {f : Hf} {sz : Nat} {x : Nat} {lg : Nat} {sa : Nat} {ea : Nat} {A : Nat → Nat} {b : Nat} {b2 : Nat} {lg_o : Nat} {tx : Nat} {rz : Nat} {ro : Nat} {xea : Int32} {xra : Int32} {xkr : Int32} {no : Nat} {lo : Int32} {le : Int32} {lfi : Int32} {nS : Nat} {nC : Nat} {lun : Int32} {qs : Nat → Option Nat} {ge : Nat → Int32} {q : Nat → Option Nat} {cm : Nat → Int32} {cs : Nat → Nat → Nat → Int32} (oth : Int32) (cro : Int32) (way : Int32) (kind : Int32) (runs : Int32) (h_x : f x = some (.inr (10, [.ref (A (b + 0)), .ref (A (b2 + 0)), .ref lg, .ref lg_o, .ref tx, .ref rz, .ref ro, .int xea, .int xra, .int xkr]))) (h_lg : f lg = some (.inr (3, [.ref no, .ref sa, .ref ea, .int lo, .int le, .int lfi, .int (nI nS), .int (nI nC), .int lun]))) (h_sa : f sa = some (.inl (cy 4, 512, .inr (.inr (.inr (.inr qs)))))) (h_ea : f ea = some (.inl (cy 0, 512, .inl ge))) (hAj : ∀ i j : Nat, i ≠ j → A i ≠ A j) (hM : MW A b cy q cm cs f) (hQ : HQ A b q) (n_sa : sa ∉ MA A b) (n_ea : ea ∉ MA A b) (hb_oth : oth = 0 ∨ oth = 1) (hb_cro : cro = 0 ∨ cro = 1) (v0 : ¬ (X8_isWithin_x1 way 0 5) = 0) (v1 : ¬ (X8_isWithin_x1 kind 0 2) = 0) (v2 : ¬ (X8_isWithin_x1 runs 0 3) = 0) (hPX : cm 0 = 0 ∨ PP cm cs) (hPP : PP cm cs) (hR : rfR cm cs (mkS 3 0 way kind runs oth 0 cro 0) = 0) (hnS : nS < 512) (hnC : nC < 512) (hro : X1_hasRoom_x1 nS nC 1 = 1) : hMet l yX8_wicket cX8_wicket 6 (some .int) { frames := 6, cells := 1, slots := 9, locals := 138 } D (hTy cy) f sz [.ref x, .int way, .int kind, .int oth, .int runs, .int cro] (hQi (fun r u => ∃ w9 : Nat, f w9 = none ∧ u w9 = some (.inr (7, [.int 3, .int 0, .int way, .int kind, .int runs, .int oth, .int 0, .int cro, .int 0])) ∧ r = (X8_carryOutA_r0 3 0 way kind runs oth 0 cro 0 cm cs) ∧ u sa = some (.inl (cy 4, 512, .inr (.inr (.inr (.inr (va_up qs nS (some w9))))))) ∧ u lg = some (.inr (3, [.ref no, .ref sa, .ref ea, .int lo, .int le, .int lfi, .int (nI (nS + 1)), .int (nI (nC + 1)), .int ((if 7 < lun then 7 else lun) + 1)])) ∧ u ea = some (.inl (cy 0, 512, .inl (X8_wicketA_g0 nS nC ge))) ∧ MW A b cy q (pfM cm cs (mkS 3 0 way kind runs oth 0 cro 0)) (pfS cm cs (mkS 3 0 way kind runs oth 0 cro 0)) u ∧ hFrL f u (MA A b ++ [sa, lg, ea])) D f sz) hNo := by
  refine h_enter (by decide) hfl (Nat.le_of_ble_eq_true rfl) ?_
  intro p9 e9 s9 m9 b9 t9 c9 hsz C0 hr hnm G ls hl
  have hx := C0.1.1
  have hb := C0.1.2.1
  have hl : lv_has ls 6 [(0, .ref x), (1, .int way), (2, .int kind), (3, .int oth), (4, .int runs), (5, .int cro)] := hl
  refine lv_iload_n hx hb dX8_wicket_0 rfl (lv_at hl 1 rfl) ?_
  refine lv_iconst (v := 0) hx hb dX8_wicket_1 (by decide) ?_
  refine lv_iconst (v := 5) hx hb dX8_wicket_2 (by decide) ?_
  refine g_cI C0 G (g_runS C0 G (rest := []) (c_X8_isWithin hfl way 0 5 ) hY_X8_isWithin mm_X8_56 ms_X8_isWithin ⟨(Nat.le_of_ble_eq_true rfl), (Nat.le_of_ble_eq_true rfl)⟩ rfl hl.1 rfl (Nat.le_of_ble_eq_true rfl) dX8_wicket_3 ⟨(Nat.le_of_ble_eq_true rfl), (Nat.le_of_ble_eq_true rfl)⟩) (kx_no rfl) (fun r13 u12 H locs hp11 G => ?_)
  obtain ⟨er14, eu12⟩ := hp11
  rw [eu12] at G
  refine lv_topv (v := (X8_isWithin_x1 way 0 5)) er14 ?_
  refine lv_if_eq (tgt := 28) hx hb dX8_wicket_6 (by decide) (fun c15 => absurd c15 (v0)) (fun _ => ?_)
  refine lv_iload_n hx hb dX8_wicket_9 rfl (lv_at hl 2 rfl) ?_
  refine lv_iconst (v := 0) hx hb dX8_wicket_10 (by decide) ?_
  refine lv_iconst (v := 2) hx hb dX8_wicket_11 (by decide) ?_
  refine g_cI C0 G (g_runS C0 G (rest := []) (c_X8_isWithin hfl kind 0 2 ) hY_X8_isWithin mm_X8_56 ms_X8_isWithin ⟨(Nat.le_of_ble_eq_true rfl), (Nat.le_of_ble_eq_true rfl)⟩ rfl hl.1 rfl (Nat.le_of_ble_eq_true rfl) dX8_wicket_12 ⟨(Nat.le_of_ble_eq_true rfl), (Nat.le_of_ble_eq_true rfl)⟩) (kx_no rfl) (fun r18 u17 H locs hp16 G => ?_)
  obtain ⟨er19, eu17⟩ := hp16
  rw [eu17] at G
  refine lv_topv (v := (X8_isWithin_x1 kind 0 2)) er19 ?_
  refine lv_if_eq (tgt := 28) hx hb dX8_wicket_15 (by decide) (fun c20 => absurd c20 (v1)) (fun _ => ?_)
  refine lv_iload hx hb dX8_wicket_18 (lv_at hl 4 rfl) ?_
  refine lv_iconst (v := 0) hx hb dX8_wicket_20 (by decide) ?_
  refine lv_iconst (v := 3) hx hb dX8_wicket_21 (by decide) ?_
  refine g_cI C0 G (g_runS C0 G (rest := []) (c_X8_isWithin hfl runs 0 3 ) hY_X8_isWithin mm_X8_56 ms_X8_isWithin ⟨(Nat.le_of_ble_eq_true rfl), (Nat.le_of_ble_eq_true rfl)⟩ rfl hl.1 rfl (Nat.le_of_ble_eq_true rfl) dX8_wicket_22 ⟨(Nat.le_of_ble_eq_true rfl), (Nat.le_of_ble_eq_true rfl)⟩) (kx_no rfl) (fun r23 u22 H locs hp21 G => ?_)
  obtain ⟨er24, eu22⟩ := hp21
  rw [eu22] at G
  refine lv_topv (v := (X8_isWithin_x1 runs 0 3)) er24 ?_
  refine lv_if_ne (tgt := 38) hx hb dX8_wicket_25 (by decide) (fun _ => ?_) (fun c25 => absurd c25 (v2))
  refine lv_aload_n hx hb dX8_wicket_38 rfl (lv_at hl 0 rfl) ?_
  refine lv_iload_n hx hb dX8_wicket_39 rfl (lv_at hl 1 rfl) ?_
  refine lv_iload_n hx hb dX8_wicket_40 rfl (lv_at hl 2 rfl) ?_
  refine lv_iload_n hx hb dX8_wicket_41 rfl (lv_at hl 3 rfl) ?_
  refine lv_iload hx hb dX8_wicket_42 (lv_at hl 4 rfl) ?_
  refine lv_iload hx hb dX8_wicket_44 (lv_at hl 5 rfl) ?_
  refine g_cR C0 G (g_runS C0 G (rest := [.ref x]) (c_X5_ofWicket hfl way kind oth runs cro  hb_oth hb_cro) hY_X5_ofWicket mm_X8_118 ms_X5_ofWicket ⟨(Nat.le_of_ble_eq_true rfl), (Nat.le_of_ble_eq_true rfl)⟩ rfl hl.1 rfl (Nat.le_of_ble_eq_true rfl) dX8_wicket_46 ⟨(Nat.le_of_ble_eq_true rfl), (Nat.le_of_ble_eq_true rfl)⟩) (kx_no rfl) (fun a28 u27 H locs hp26 G => ?_)
  obtain ⟨nn29, k30, fr31⟩ := hp26
  have nin32 : a28 ∉ MA A b := MW_nonew hM nn29
  have k33 : u27 x = some (.inr (10, [.ref (A (b + 0)), .ref (A (b2 + 0)), .ref lg, .ref lg_o, .ref tx, .ref rz, .ref ro, .int xea, .int xra, .int xkr])) := fr31 _ _ (by simp) h_x
  have k34 : u27 lg = some (.inr (3, [.ref no, .ref sa, .ref ea, .int lo, .int le, .int lfi, .int (nI nS), .int (nI nC), .int lun])) := fr31 _ _ (by simp) h_lg
  have k35 : u27 sa = some (.inl (cy 4, 512, .inr (.inr (.inr (.inr qs))))) := fr31 _ _ (by simp) h_sa
  have k36 : u27 ea = some (.inl (cy 0, 512, .inl ge)) := fr31 _ _ (by simp) h_ea
  have hM37 := MW_frN hM fr31 (fun y9 hy9 => absurd hy9 (by simp))
  refine g_cI C0 G (g_runV C0 G (rest := []) (c_X8_carryOutA hfl (A := A) (b := b) (b2 := b2) (xea := xea) (xra := xra) (xkr := xkr) (lo := lo) (le := le) (lfi := lfi) (nS := nS) (nC := nC) (lun := lun) (qs := qs) (ge := ge) (ty := 3) (nu := 0) (wy := way) (kd := kind) (ru := runs) (so := oth) (sb := 0) (sc := cro) (sh := 0) (cm := cm) (cs := cs) k33 k34 k35 k36 k30 hAj hM37 hQ n_sa n_ea hPX hPP hR hnS hnC hro) k33 rfl hY_X8_carryOut mm_X8_96 mi_X8_carryOut ml_X8_carryOut ⟨(Nat.le_of_ble_eq_true rfl), (Nat.le_of_ble_eq_true rfl)⟩ rfl hl.1 rfl (Nat.le_of_ble_eq_true rfl) dX8_wicket_49 ⟨(Nat.le_of_ble_eq_true rfl), (Nat.le_of_ble_eq_true rfl)⟩) (kx_no rfl) (fun r40 u39 H locs hp38 G => ?_)
  obtain ⟨er46, k41, k42, k43, hM44, fr45⟩ := hp38
  refine lv_topv (v := (X8_carryOutA_r0 3 0 way kind runs oth 0 cro 0 cm cs)) er46 ?_
  have k47 : u39 a28 = some (.inr (7, [.int 3, .int 0, .int way, .int kind, .int runs, .int oth, .int 0, .int cro, .int 0])) := fr45 _ _ (fun q9 => by rcases List.mem_append.mp q9 with q9 | q9; exact nin32 q9; simp only [List.mem_cons, List.not_mem_nil, or_false] at q9; rcases q9 with q9 | q9 | q9; exact (Ne.symm (hneN h_sa nn29)) q9; exact (Ne.symm (hneN h_lg nn29)) q9; exact (Ne.symm (hneN h_ea nn29)) q9) k30
  exact g_iret C0 G hr dX8_wicket_52 (Nat.le_of_ble_eq_true rfl) (Nat.le_of_ble_eq_true rfl) (by exact ⟨a28, nn29, k47, rfl, k41, k42, (by rw [(by rw [X8_wicketA_g0] : (X8_wicketA_g0 nS nC ge) = (X8_carryOutA_g1 nS nC ge))]; exact k43), hM44, (fun a9 e9 h7 h8 => fr45 _ _ (fun q => h7 (by simp only [List.mem_append, List.mem_cons, List.not_mem_nil, or_false] at q ⊢; rcases q with q | q | q | q <;> simp [q])) (fr31 _ _ (by simp) (h8)))⟩)
set_option maxRecDepth 100000 in
theorem c_X8_appendB {l : Launch} (hfl : l.stackTraces = false) {D : va_G} {cy : Nat → ClassId} {f : Hf} {sz : Nat} {x : Nat} {A : Nat → Nat} {b : Nat} {b2 : Nat} {lg : Nat} {lg_o : Nat} {tx : Nat} {rz : Nat} {ro : Nat} {xea : Int32} {xra : Int32} {xkr : Int32} (ch : Int32) (h_x : f x = some (.inr (10, [.ref (A (b + 0)), .ref (A (b2 + 0)), .ref lg, .ref lg_o, .ref tx, .ref rz, .ref ro, .int xea, .int xra, .int xkr]))) (v0 : (X8_isWithin_x1 ch 32 126) = 0) : hMet l yX8_append cX8_append 2 (some .int) { frames := 6, cells := 1, slots := 6, locals := 82 } D (hTy cy) f sz [.ref x, .int ch] (hQi (fun r u => False) D f sz) (fun E u => E = "java/lang/IllegalArgumentException" ∧ u = f) := by
  refine h_enter (by decide) hfl (Nat.le_of_ble_eq_true rfl) ?_
  intro p9 e9 s9 m9 b9 t9 c9 hsz C0 hr hnm G ls hl
  have hx := C0.1.1
  have hb := C0.1.2.1
  have hl : lv_has ls 2 [(0, .ref x), (1, .int ch)] := hl
  refine lv_iload_n hx hb dX8_append_0 rfl (lv_at hl 1 rfl) ?_
  refine lv_bipush (v := 32) hx hb dX8_append_1 (by decide) ?_
  refine lv_bipush (v := 126) hx hb dX8_append_3 (by decide) ?_
  refine g_cI C0 G (g_runS C0 G (rest := []) (c_X8_isWithin hfl ch 32 126 ) hY_X8_isWithin mm_X8_56 ms_X8_isWithin ⟨(Nat.le_of_ble_eq_true rfl), (Nat.le_of_ble_eq_true rfl)⟩ rfl hl.1 rfl (Nat.le_of_ble_eq_true rfl) dX8_append_5 ⟨(Nat.le_of_ble_eq_true rfl), (Nat.le_of_ble_eq_true rfl)⟩) (kx_no rfl) (fun r13 u12 H locs hp11 G => ?_)
  obtain ⟨er14, eu12⟩ := hp11
  rw [eu12] at G
  refine lv_topv (v := (X8_isWithin_x1 ch 32 126)) er14 ?_
  refine lv_if_ne (tgt := 21) hx hb dX8_append_8 (by decide) (fun c15 => absurd (v0) c15) (fun _ => ?_)
  exact g_throw C0 G (X := "java/lang/IllegalArgumentException") (by decide) mk_X8_60 mz_java_lang_IllegalArgumentException (is := 149) (text := "character out of range") (by decide) hat_64 hl.1 dX8_append_11 dX8_append_14 dX8_append_15 dX8_append_17 dX8_append_20 ⟨(Nat.le_of_ble_eq_true rfl), (Nat.le_of_ble_eq_true rfl)⟩ ⟨(Nat.le_of_ble_eq_true rfl), (Nat.le_of_ble_eq_true rfl)⟩ (Nat.le_of_ble_eq_true rfl) (Nat.le_of_ble_eq_true rfl) (by exact ⟨rfl, rfl⟩)
set_option maxRecDepth 100000 in
theorem c_X8_appendF {l : Launch} (hfl : l.stackTraces = false) {D : va_G} {cy : Nat → ClassId} {f : Hf} {sz : Nat} {x : Nat} {tx : Nat} {bu : Nat} {pd : Nat} {A : Nat → Nat} {b : Nat} {b2 : Nat} {lg : Nat} {lg_o : Nat} {rz : Nat} {ro : Nat} {xea : Int32} {xra : Int32} {xkr : Int32} {nt : Nat} {tl : Nat} {tc : Int32} {gb : Nat → Int32} {qp : Nat → Option Nat} (ch : Int32) (h_x : f x = some (.inr (10, [.ref (A (b + 0)), .ref (A (b2 + 0)), .ref lg, .ref lg_o, .ref tx, .ref rz, .ref ro, .int xea, .int xra, .int xkr]))) (h_tx : f tx = some (.inr (9, [.ref bu, .ref nt, .ref pd, .int (nI tl), .int tc]))) (h_bu : f bu = some (.inl (cy 1, 60, .inl gb))) (h_pd : f pd = some (.inl (cy 4, 60, .inr (.inr (.inr (.inr qp)))))) (v0 : ¬ (X8_isWithin_x1 ch 32 126) = 0) (htl : tl ≤ 60) (hfull : ¬ (X7_isFull_x0 tl) = 0) : hMet l yX8_append cX8_append 2 (some .int) { frames := 6, cells := 1, slots := 6, locals := 82 } D (hTy cy) f sz [.ref x, .int ch] (hQi (fun r u => False) D f sz) (fun E u => E = "java/lang/UnsupportedOperationException" ∧ u = f) := by
  refine h_enter (by decide) hfl (Nat.le_of_ble_eq_true rfl) ?_
  intro p9 e9 s9 m9 b9 t9 c9 hsz C0 hr hnm G ls hl
  have hx := C0.1.1
  have hb := C0.1.2.1
  have hl : lv_has ls 2 [(0, .ref x), (1, .int ch)] := hl
  refine lv_iload_n hx hb dX8_append_0 rfl (lv_at hl 1 rfl) ?_
  refine lv_bipush (v := 32) hx hb dX8_append_1 (by decide) ?_
  refine lv_bipush (v := 126) hx hb dX8_append_3 (by decide) ?_
  refine g_cI C0 G (g_runS C0 G (rest := []) (c_X8_isWithin hfl ch 32 126 ) hY_X8_isWithin mm_X8_56 ms_X8_isWithin ⟨(Nat.le_of_ble_eq_true rfl), (Nat.le_of_ble_eq_true rfl)⟩ rfl hl.1 rfl (Nat.le_of_ble_eq_true rfl) dX8_append_5 ⟨(Nat.le_of_ble_eq_true rfl), (Nat.le_of_ble_eq_true rfl)⟩) (kx_no rfl) (fun r13 u12 H locs hp11 G => ?_)
  obtain ⟨er14, eu12⟩ := hp11
  rw [eu12] at G
  refine lv_topv (v := (X8_isWithin_x1 ch 32 126)) er14 ?_
  refine lv_if_ne (tgt := 21) hx hb dX8_append_8 (by decide) (fun _ => ?_) (fun c15 => absurd c15 (v0))
  refine lv_aload_n hx hb dX8_append_21 rfl (lv_at hl 0 rfl) ?_
  refine g_get C0 G h_x rfl hiX8 4 (by decide) mf_X8_32 rfl dX8_append_22 ?_
  refine g_cI C0 G (g_runV C0 G (rest := []) (c_X7_isFull hfl (tc := tc) (tl := tl) (gb := gb) h_tx h_bu htl) h_tx rfl hY_X7_isFull mm_X8_151 mi_X7_isFull ml_X7_isFull ⟨(Nat.le_of_ble_eq_true rfl), (Nat.le_of_ble_eq_true rfl)⟩ rfl hl.1 rfl (Nat.le_of_ble_eq_true rfl) dX8_append_25 ⟨(Nat.le_of_ble_eq_true rfl), (Nat.le_of_ble_eq_true rfl)⟩) (kx_no rfl) (fun r18 u17 H locs hp16 G => ?_)
  obtain ⟨er19, eu17⟩ := hp16
  rw [eu17] at G
  refine lv_topv (v := (X7_isFull_x0 tl)) er19 ?_
  refine lv_if_eq (tgt := 41) hx hb dX8_append_28 (by decide) (fun c20 => absurd c20 (hfull)) (fun _ => ?_)
  exact g_throw C0 G (X := "java/lang/UnsupportedOperationException") (by decide) mk_X8_155 mz_java_lang_UnsupportedOperationException (is := 157) (text := "the buffer is full") (by decide) hat_159 hl.1 dX8_append_31 dX8_append_34 dX8_append_35 dX8_append_37 dX8_append_40 ⟨(Nat.le_of_ble_eq_true rfl), (Nat.le_of_ble_eq_true rfl)⟩ ⟨(Nat.le_of_ble_eq_true rfl), (Nat.le_of_ble_eq_true rfl)⟩ (Nat.le_of_ble_eq_true rfl) (Nat.le_of_ble_eq_true rfl) (by exact ⟨rfl, rfl⟩)
def X8_appendA_g0 (tl : Nat) (gb : Nat → Int32) (ch : Int32) : Nat → Int32 := (X7_put_g0 tl gb ch)
set_option maxRecDepth 100000 in
theorem c_X8_appendA {l : Launch} (hfl : l.stackTraces = false) {D : va_G} {cy : Nat → ClassId} {f : Hf} {sz : Nat} {x : Nat} {tx : Nat} {bu : Nat} {pd : Nat} {A : Nat → Nat} {b : Nat} {b2 : Nat} {lg : Nat} {lg_o : Nat} {rz : Nat} {ro : Nat} {xea : Int32} {xra : Int32} {xkr : Int32} {nt : Nat} {tl : Nat} {tc : Int32} {gb : Nat → Int32} {qp : Nat → Option Nat} (ch : Int32) (h_x : f x = some (.inr (10, [.ref (A (b + 0)), .ref (A (b2 + 0)), .ref lg, .ref lg_o, .ref tx, .ref rz, .ref ro, .int xea, .int xra, .int xkr]))) (h_tx : f tx = some (.inr (9, [.ref bu, .ref nt, .ref pd, .int (nI tl), .int tc]))) (h_bu : f bu = some (.inl (cy 1, 60, .inl gb))) (h_pd : f pd = some (.inl (cy 4, 60, .inr (.inr (.inr (.inr qp)))))) (v0 : ¬ (X8_isWithin_x1 ch 32 126) = 0) (htl : tl < 60) (hfull : (X7_isFull_x0 tl) = 0) : hMet l yX8_append cX8_append 2 (some .int) { frames := 1, cells := 0, slots := 0, locals := 22 } D (hTy cy) f sz [.ref x, .int ch] (hQi (fun r u => r = (X7_put_r1 tl) ∧ u bu = some (.inl (cy 1, 60, .inl (X8_appendA_g0 tl gb ch))) ∧ u tx = some (.inr (9, [.ref bu, .ref nt, .ref pd, .int (nI (tl + 1)), .int tc])) ∧ hFrL f u [bu, tx]) D f sz) hNo := by
  refine h_enter (by decide) hfl (Nat.le_of_ble_eq_true rfl) ?_
  intro p9 e9 s9 m9 b9 t9 c9 hsz C0 hr hnm G ls hl
  have hx := C0.1.1
  have hb := C0.1.2.1
  have hl : lv_has ls 2 [(0, .ref x), (1, .int ch)] := hl
  refine lv_iload_n hx hb dX8_append_0 rfl (lv_at hl 1 rfl) ?_
  refine lv_bipush (v := 32) hx hb dX8_append_1 (by decide) ?_
  refine lv_bipush (v := 126) hx hb dX8_append_3 (by decide) ?_
  refine g_cI C0 G (g_runS C0 G (rest := []) (c_X8_isWithin hfl ch 32 126 ) hY_X8_isWithin mm_X8_56 ms_X8_isWithin ⟨(Nat.le_of_ble_eq_true rfl), (Nat.le_of_ble_eq_true rfl)⟩ rfl hl.1 rfl (Nat.le_of_ble_eq_true rfl) dX8_append_5 ⟨(Nat.le_of_ble_eq_true rfl), (Nat.le_of_ble_eq_true rfl)⟩) (kx_no rfl) (fun r13 u12 H locs hp11 G => ?_)
  obtain ⟨er14, eu12⟩ := hp11
  rw [eu12] at G
  refine lv_topv (v := (X8_isWithin_x1 ch 32 126)) er14 ?_
  refine lv_if_ne (tgt := 21) hx hb dX8_append_8 (by decide) (fun _ => ?_) (fun c15 => absurd c15 (v0))
  refine lv_aload_n hx hb dX8_append_21 rfl (lv_at hl 0 rfl) ?_
  refine g_get C0 G h_x rfl hiX8 4 (by decide) mf_X8_32 rfl dX8_append_22 ?_
  refine g_cI C0 G (g_runV C0 G (rest := []) (c_X7_isFull hfl (tc := tc) (tl := tl) (gb := gb) h_tx h_bu (by omega)) h_tx rfl hY_X7_isFull mm_X8_151 mi_X7_isFull ml_X7_isFull ⟨(Nat.le_of_ble_eq_true rfl), (Nat.le_of_ble_eq_true rfl)⟩ rfl hl.1 rfl (Nat.le_of_ble_eq_true rfl) dX8_append_25 ⟨(Nat.le_of_ble_eq_true rfl), (Nat.le_of_ble_eq_true rfl)⟩) (kx_no rfl) (fun r18 u17 H locs hp16 G => ?_)
  obtain ⟨er19, eu17⟩ := hp16
  rw [eu17] at G
  refine lv_topv (v := (X7_isFull_x0 tl)) er19 ?_
  refine lv_if_eq (tgt := 41) hx hb dX8_append_28 (by decide) (fun _ => ?_) (fun c20 => absurd (hfull) c20)
  refine lv_aload_n hx hb dX8_append_41 rfl (lv_at hl 0 rfl) ?_
  refine g_get C0 G h_x rfl hiX8 4 (by decide) mf_X8_32 rfl dX8_append_42 ?_
  refine lv_iload_n hx hb dX8_append_45 rfl (lv_at hl 1 rfl) ?_
  refine g_cI C0 G (g_runV C0 G (rest := []) (c_X7_put hfl (tl := tl) (tc := tc) (gb := gb) ch h_tx h_bu htl) h_tx rfl hY_X7_put mm_X8_160 mi_X7_put ml_X7_put ⟨(Nat.le_of_ble_eq_true rfl), (Nat.le_of_ble_eq_true rfl)⟩ rfl hl.1 rfl (Nat.le_of_ble_eq_true rfl) dX8_append_46 ⟨(Nat.le_of_ble_eq_true rfl), (Nat.le_of_ble_eq_true rfl)⟩) (kx_no rfl) (fun r23 u22 H locs hp21 G => ?_)
  obtain ⟨er24, k25, k26, fr27⟩ := hp21
  refine lv_topv (v := (X7_put_r1 tl)) er24 ?_
  exact g_iret C0 G hr dX8_append_49 (Nat.le_of_ble_eq_true rfl) (Nat.le_of_ble_eq_true rfl) (by exact ⟨rfl, (by rw [(by rw [X8_appendA_g0] : (X8_appendA_g0 tl gb ch) = (X7_put_g0 tl gb ch))]; exact k25), k26, (fun a9 e9 h7 h8 => fr27 _ _ (fun q => h7 (by simp only [List.mem_cons, List.not_mem_nil, or_false] at q ⊢; first | exact q | (rcases q with q | q <;> simp [q]) | omega)) (h8))⟩)
set_option maxRecDepth 100000 in
theorem c_X8_errorPositionN {l : Launch} (hfl : l.stackTraces = false) {D : va_G} {cy : Nat → ClassId} {f : Hf} {sz : Nat} {x : Nat} {A : Nat → Nat} {b : Nat} {b2 : Nat} {lg : Nat} {lg_o : Nat} {tx : Nat} {rz : Nat} {ro : Nat} {xea : Int32} {xra : Int32} {xkr : Int32} (h_x : f x = some (.inr (10, [.ref (A (b + 0)), .ref (A (b2 + 0)), .ref lg, .ref lg_o, .ref tx, .ref rz, .ref ro, .int xea, .int xra, .int xkr]))) (v0 : xea < 0) : hMet l yX8_errorPosition cX8_errorPosition 1 (some .int) { frames := 6, cells := 1, slots := 6, locals := 82 } D (hTy cy) f sz [.ref x] (hQi (fun r u => False) D f sz) (fun E u => E = "java/util/NoSuchElementException" ∧ u = f) := by
  refine h_enter (by decide) hfl (Nat.le_of_ble_eq_true rfl) ?_
  intro p9 e9 s9 m9 b9 t9 c9 hsz C0 hr hnm G ls hl
  have hx := C0.1.1
  have hb := C0.1.2.1
  have hl : lv_has ls 1 [(0, .ref x)] := hl
  refine lv_aload_n hx hb dX8_errorPosition_0 rfl (lv_at hl 0 rfl) ?_
  refine g_get C0 G h_x rfl hiX8 7 (by decide) mf_X8_46 rfl dX8_errorPosition_1 ?_
  refine lv_if_ge (tgt := 17) hx hb dX8_errorPosition_4 (by decide) (fun c11 => absurd c11 ((fun q => (Int32.not_lt.mpr q) v0))) (fun _ => ?_)
  exact g_throwN C0 G mk_X8_185 mz_java_util_NoSuchElementException (is := 187) (text := "no text was malformed") (by decide) hl.1 dX8_errorPosition_7 dX8_errorPosition_10 ⟨dX8_errorPosition_11, dX8_errorPosition_13, dX8_errorPosition_16⟩ ⟨(Nat.le_of_ble_eq_true rfl), (Nat.le_of_ble_eq_true rfl)⟩ ⟨(Nat.le_of_ble_eq_true rfl), (Nat.le_of_ble_eq_true rfl)⟩ (Nat.le_of_ble_eq_true rfl) (Nat.le_of_ble_eq_true rfl) (by exact ⟨rfl, rfl⟩)
set_option maxRecDepth 100000 in
theorem c_X8_errorPositionY {l : Launch} (hfl : l.stackTraces = false) {D : va_G} {cy : Nat → ClassId} {f : Hf} {sz : Nat} {x : Nat} {A : Nat → Nat} {b : Nat} {b2 : Nat} {lg : Nat} {lg_o : Nat} {tx : Nat} {rz : Nat} {ro : Nat} {xea : Int32} {xra : Int32} {xkr : Int32} (h_x : f x = some (.inr (10, [.ref (A (b + 0)), .ref (A (b2 + 0)), .ref lg, .ref lg_o, .ref tx, .ref rz, .ref ro, .int xea, .int xra, .int xkr]))) (v0 : 0 ≤ xea) : hMet l yX8_errorPosition cX8_errorPosition 1 (some .int) { frames := 0, cells := 0, slots := 0, locals := 0 } D (hTy cy) f sz [.ref x] (hQi (fun r u => r = xea ∧ u = f) D f sz) hNo := by
  refine h_enter (by decide) hfl (Nat.le_of_ble_eq_true rfl) ?_
  intro p9 e9 s9 m9 b9 t9 c9 hsz C0 hr hnm G ls hl
  have hx := C0.1.1
  have hb := C0.1.2.1
  have hl : lv_has ls 1 [(0, .ref x)] := hl
  refine lv_aload_n hx hb dX8_errorPosition_0 rfl (lv_at hl 0 rfl) ?_
  refine g_get C0 G h_x rfl hiX8 7 (by decide) mf_X8_46 rfl dX8_errorPosition_1 ?_
  refine lv_if_ge (tgt := 17) hx hb dX8_errorPosition_4 (by decide) (fun _ => ?_) (fun c11 => absurd (v0) c11)
  refine lv_aload_n hx hb dX8_errorPosition_17 rfl (lv_at hl 0 rfl) ?_
  refine g_get C0 G h_x rfl hiX8 7 (by decide) mf_X8_46 rfl dX8_errorPosition_18 ?_
  exact g_iret C0 G hr dX8_errorPosition_21 (Nat.le_of_ble_eq_true rfl) (Nat.le_of_ble_eq_true rfl) (by exact ⟨rfl, rfl⟩)
set_option maxRecDepth 100000 in
theorem c_X8_refusedN {l : Launch} (hfl : l.stackTraces = false) {D : va_G} {cy : Nat → ClassId} {f : Hf} {sz : Nat} {x : Nat} {A : Nat → Nat} {b : Nat} {b2 : Nat} {lg : Nat} {lg_o : Nat} {tx : Nat} {rz : Nat} {ro : Nat} {xea : Int32} {xra : Int32} {xkr : Int32} (h_x : f x = some (.inr (10, [.ref (A (b + 0)), .ref (A (b2 + 0)), .ref lg, .ref lg_o, .ref tx, .ref rz, .ref ro, .int xea, .int xra, .int xkr]))) (v0 : ¬ 0 ≤ xra) : hMet l yX8_refused cX8_refused 1 (some .int) { frames := 6, cells := 1, slots := 6, locals := 82 } D (hTy cy) f sz [.ref x] (hQi (fun r u => False) D f sz) (fun E u => E = "java/util/NoSuchElementException" ∧ u = f) := by
  refine h_enter (by decide) hfl (Nat.le_of_ble_eq_true rfl) ?_
  intro p9 e9 s9 m9 b9 t9 c9 hsz C0 hr hnm G ls hl
  have hx := C0.1.1
  have hb := C0.1.2.1
  have hl : lv_has ls 1 [(0, .ref x)] := hl
  refine lv_aload_n hx hb dX8_refused_0 rfl (lv_at hl 0 rfl) ?_
  refine g_get C0 G h_x rfl hiX8 8 (by decide) mf_X8_50 rfl dX8_refused_1 ?_
  refine lv_if_ge (tgt := 17) hx hb dX8_refused_4 (by decide) (fun c11 => absurd c11 (v0)) (fun _ => ?_)
  exact g_throwN C0 G mk_X8_185 mz_java_util_NoSuchElementException (is := 190) (text := "no element was refused") (by decide) hl.1 dX8_refused_7 dX8_refused_10 ⟨dX8_refused_11, dX8_refused_13, dX8_refused_16⟩ ⟨(Nat.le_of_ble_eq_true rfl), (Nat.le_of_ble_eq_true rfl)⟩ ⟨(Nat.le_of_ble_eq_true rfl), (Nat.le_of_ble_eq_true rfl)⟩ (Nat.le_of_ble_eq_true rfl) (Nat.le_of_ble_eq_true rfl) (by exact ⟨rfl, rfl⟩)
set_option maxRecDepth 100000 in
theorem c_X8_refusedY {l : Launch} (hfl : l.stackTraces = false) {D : va_G} {cy : Nat → ClassId} {f : Hf} {sz : Nat} {x : Nat} {A : Nat → Nat} {b : Nat} {b2 : Nat} {lg : Nat} {lg_o : Nat} {tx : Nat} {rz : Nat} {ro : Nat} {xea : Int32} {xra : Int32} {xkr : Int32} (h_x : f x = some (.inr (10, [.ref (A (b + 0)), .ref (A (b2 + 0)), .ref lg, .ref lg_o, .ref tx, .ref rz, .ref ro, .int xea, .int xra, .int xkr]))) (v0 : 0 ≤ xra) : hMet l yX8_refused cX8_refused 1 (some .int) { frames := 0, cells := 0, slots := 0, locals := 0 } D (hTy cy) f sz [.ref x] (hQi (fun r u => r = xra ∧ u = f) D f sz) hNo := by
  refine h_enter (by decide) hfl (Nat.le_of_ble_eq_true rfl) ?_
  intro p9 e9 s9 m9 b9 t9 c9 hsz C0 hr hnm G ls hl
  have hx := C0.1.1
  have hb := C0.1.2.1
  have hl : lv_has ls 1 [(0, .ref x)] := hl
  refine lv_aload_n hx hb dX8_refused_0 rfl (lv_at hl 0 rfl) ?_
  refine g_get C0 G h_x rfl hiX8 8 (by decide) mf_X8_50 rfl dX8_refused_1 ?_
  refine lv_if_ge (tgt := 17) hx hb dX8_refused_4 (by decide) (fun _ => ?_) (fun c11 => absurd (v0) c11)
  refine lv_aload_n hx hb dX8_refused_17 rfl (lv_at hl 0 rfl) ?_
  refine g_get C0 G h_x rfl hiX8 8 (by decide) mf_X8_50 rfl dX8_refused_18 ?_
  exact g_iret C0 G hr dX8_refused_21 (Nat.le_of_ble_eq_true rfl) (Nat.le_of_ble_eq_true rfl) (by exact ⟨rfl, rfl⟩)
set_option maxRecDepth 100000 in
theorem c_X8_reason {l : Launch} (hfl : l.stackTraces = false) {D : va_G} {cy : Nat → ClassId} {f : Hf} {sz : Nat} {x : Nat} {A : Nat → Nat} {b : Nat} {b2 : Nat} {lg : Nat} {lg_o : Nat} {tx : Nat} {rz : Nat} {ro : Nat} {xea : Int32} {xra : Int32} {xkr : Int32} (h_x : f x = some (.inr (10, [.ref (A (b + 0)), .ref (A (b2 + 0)), .ref lg, .ref lg_o, .ref tx, .ref rz, .ref ro, .int xea, .int xra, .int xkr])))  : hMet l yX8_reason cX8_reason 1 (some .int) { frames := 0, cells := 0, slots := 0, locals := 0 } D (hTy cy) f sz [.ref x] (hQi (fun r u => r = xkr ∧ u = f) D f sz) hNo := by
  refine h_enter (by decide) hfl (Nat.le_of_ble_eq_true rfl) ?_
  intro p9 e9 s9 m9 b9 t9 c9 hsz C0 hr hnm G ls hl
  have hx := C0.1.1
  have hb := C0.1.2.1
  have hl : lv_has ls 1 [(0, .ref x)] := hl
  refine lv_aload_n hx hb dX8_reason_0 rfl (lv_at hl 0 rfl) ?_
  refine g_get C0 G h_x rfl hiX8 9 (by decide) mf_X8_53 rfl dX8_reason_1 ?_
  exact g_iret C0 G hr dX8_reason_4 (Nat.le_of_ble_eq_true rfl) (Nat.le_of_ble_eq_true rfl) (by exact ⟨rfl, rfl⟩)
def X8_commandCount_r0 (nC : Nat) : Int32 := nI nC
set_option maxRecDepth 100000 in
theorem c_X8_commandCount {l : Launch} (hfl : l.stackTraces = false) {D : va_G} {cy : Nat → ClassId} {f : Hf} {sz : Nat} {x : Nat} {lg : Nat} {sa : Nat} {ea : Nat} {A : Nat → Nat} {b : Nat} {b2 : Nat} {lg_o : Nat} {tx : Nat} {rz : Nat} {ro : Nat} {xea : Int32} {xra : Int32} {xkr : Int32} {no : Nat} {lo : Int32} {le : Int32} {lfi : Int32} {nS : Nat} {nC : Nat} {lun : Int32} {qs : Nat → Option Nat} {ge : Nat → Int32} (h_x : f x = some (.inr (10, [.ref (A (b + 0)), .ref (A (b2 + 0)), .ref lg, .ref lg_o, .ref tx, .ref rz, .ref ro, .int xea, .int xra, .int xkr]))) (h_lg : f lg = some (.inr (3, [.ref no, .ref sa, .ref ea, .int lo, .int le, .int lfi, .int (nI nS), .int (nI nC), .int lun]))) (h_sa : f sa = some (.inl (cy 4, 512, .inr (.inr (.inr (.inr qs)))))) (h_ea : f ea = some (.inl (cy 0, 512, .inl ge)))  : hMet l yX8_commandCount cX8_commandCount 1 (some .int) { frames := 0, cells := 0, slots := 0, locals := 0 } D (hTy cy) f sz [.ref x] (hQi (fun r u => r = (X8_commandCount_r0 nC) ∧ u = f) D f sz) hNo := by
  refine h_enter (by decide) hfl (Nat.le_of_ble_eq_true rfl) ?_
  intro p9 e9 s9 m9 b9 t9 c9 hsz C0 hr hnm G ls hl
  have hx := C0.1.1
  have hb := C0.1.2.1
  have hl : lv_has ls 1 [(0, .ref x)] := hl
  refine lv_aload_n hx hb dX8_commandCount_0 rfl (lv_at hl 0 rfl) ?_
  refine g_get C0 G h_x rfl hiX8 2 (by decide) mf_X8_22 rfl dX8_commandCount_1 ?_
  refine g_get C0 G h_lg rfl hiX1 7 (by decide) mf_X8_314 rfl dX8_commandCount_4 ?_
  exact g_iret C0 G hr dX8_commandCount_7 (Nat.le_of_ble_eq_true rfl) (Nat.le_of_ble_eq_true rfl) (by exact ⟨(by rw [X8_commandCount_r0]), rfl⟩)
