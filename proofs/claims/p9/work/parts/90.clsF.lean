theorem mcl_X2_164 : Cond.constantLong RX2 164 150 ∈ lw_tbl := hin2 (List.mem_of_getElem? (i := 147) rfl)
theorem mcl_X2_166 : Cond.constantLong RX2 166 144000 ∈ lw_tbl := hin2 (List.mem_of_getElem? (i := 148) rfl)
def X2_revisedTarget_x0 (rn : Int64) (bf : Int64) (af : Int64) : Int32 := if (lg_cmp bf 0) ≤ 0 then 1 else ((((rn * af) / bf).toInt32) + 1)
def X2_revisedTarget_r1 (rn : Int64) (bf : Int64) (af : Int64) : Int32 := if (lg_cmp af bf) ≤ 0 then (X2_revisedTarget_x0 rn bf af) else (((rn + ((150 * (af - bf)) / 144000)).toInt32) + 1)
set_option maxRecDepth 100000 in
theorem c_X2_revisedTarget {l : Launch} (hfl : l.stackTraces = false) {D : va_G} {cy : Nat → ClassId} {f : Hf} {sz : Nat} (rn : Int64) (bf : Int64) (af : Int64)   : hMet l yX2_revisedTarget cX2_revisedTarget 6 (some .int) { frames := 0, cells := 0, slots := 0, locals := 0 } D (hTy cy) f sz [.long rn, .long bf, .long af] (hQi (fun r u => r = (X2_revisedTarget_r1 rn bf af) ∧ u = f) D f sz) hNo := by
  refine h_enter (by decide) hfl (Nat.le_of_ble_eq_true rfl) ?_
  intro p9 e9 s9 m9 b9 t9 c9 hsz C0 hr hnm G ls hl
  have hx := C0.1.1
  have hb := C0.1.2.1
  have hl : lv_has ls 6 [(0, .long rn), (2, .long bf), (4, .long af)] := hl
  refine lv_lload hx hb dX2_revisedTarget_0 (lv_at hl 2 rfl) ?_
  refine lv_lload_n hx hb dX2_revisedTarget_2 rfl (lv_at hl 1 rfl) ?_
  refine W.lcmp hx hb dX2_revisedTarget_3 ?_
  refine lv_if_le (tgt := 25) hx hb dX2_revisedTarget_4 (by decide) (fun c11 => ?_) (fun c11 => ?_)
  · refine lv_lload_n hx hb dX2_revisedTarget_25 rfl (lv_at hl 1 rfl) ?_
    refine lv_lconst (v := 0) hx hb dX2_revisedTarget_26 (by decide) ?_
    refine W.lcmp hx hb dX2_revisedTarget_27 ?_
    have J14 : ∀ (y13 : Int32) (_ : y13 = (X2_revisedTarget_x0 rn bf af)) (H : Heap) (locs : List Loc) (ls : Array Slot), hG D (hA f sz) f s9 H locs → lv_has ls 6 [(0, .long rn), (2, .long bf), (4, .long af)] → W p9 l e9 ({ frames := 0, cells := 0, slots := 0, locals := 0 } : Room) s9 m9 ([.long rn, .long bf, .long af] : List Value).toArray b9 t9 c9 H locs 0 0 (vx_MQ b9 (hQi (fun r u => r = (X2_revisedTarget_r1 rn bf af) ∧ u = f) D f sz) (hPx hNo D f sz) ([.long rn, .long bf, .long af] : List Value).toArray s9 0 0 (hA f sz)) (F0 m9 44 ls [.int y13]) := by
      intro y13 ey13 H locs ls G hl
      replace ey13 := Eq.symm ey13
      subst ey13
      exact g_iret C0 G hr dX2_revisedTarget_44 (Nat.le_of_ble_eq_true rfl) (Nat.le_of_ble_eq_true rfl) (by exact ⟨(by rw [X2_revisedTarget_r1, if_pos c11]), rfl⟩)
    refine lv_if_le (tgt := 43) hx hb dX2_revisedTarget_28 (by decide) (fun c12 => ?_) (fun c12 => ?_)
    · refine lv_iconst (v := 1) hx hb dX2_revisedTarget_43 (by decide) ?_
      exact J14 1 (by rw [X2_revisedTarget_x0, if_pos c12]) _ _ _ G (lv_sub hl [0, 1, 2] rfl)
    · refine lv_lload_n hx hb dX2_revisedTarget_31 rfl (lv_at hl 0 rfl) ?_
      refine lv_lload hx hb dX2_revisedTarget_32 (lv_at hl 2 rfl) ?_
      refine lv_lmul hx hb dX2_revisedTarget_34 ?_
      refine lv_lload_n hx hb dX2_revisedTarget_35 rfl (lv_at hl 1 rfl) ?_
      refine lv_ldiv hx hb dX2_revisedTarget_36 (by intro q; apply c12; rw [q]; decide) ?_
      refine lv_l2i (v := ((rn * af) / bf).toInt32) hx hb dX2_revisedTarget_37 rfl ?_
      refine lv_iconst (v := 1) hx hb dX2_revisedTarget_38 (by decide) ?_
      refine lv_iadd hx hb dX2_revisedTarget_39 ?_
      refine lv_goto (tgt := 44) hx hb dX2_revisedTarget_40 (by decide) ?_
      exact J14 ((((rn * af) / bf).toInt32) + 1) (by rw [X2_revisedTarget_x0, if_neg c12]) _ _ _ G (lv_sub hl [0, 1, 2] rfl)
  · refine lv_lload_n hx hb dX2_revisedTarget_7 rfl (lv_at hl 0 rfl) ?_
    refine lv_ldc2 (v := 150) hx hb C0.1.2.2.2.1 (C0.2.2.2.1.1 _ mcl_X2_164 rfl _) dX2_revisedTarget_8 ?_
    refine lv_lload hx hb dX2_revisedTarget_11 (lv_at hl 2 rfl) ?_
    refine lv_lload_n hx hb dX2_revisedTarget_13 rfl (lv_at hl 1 rfl) ?_
    refine lv_lsub hx hb dX2_revisedTarget_14 ?_
    refine lv_lmul hx hb dX2_revisedTarget_15 ?_
    refine lv_ldc2 (v := 144000) hx hb C0.1.2.2.2.1 (C0.2.2.2.1.1 _ mcl_X2_166 rfl _) dX2_revisedTarget_16 ?_
    refine lv_ldiv hx hb dX2_revisedTarget_19 (by decide) ?_
    refine lv_ladd hx hb dX2_revisedTarget_20 ?_
    refine lv_l2i (v := (rn + ((150 * (af - bf)) / 144000)).toInt32) hx hb dX2_revisedTarget_21 rfl ?_
    refine lv_iconst (v := 1) hx hb dX2_revisedTarget_22 (by decide) ?_
    refine lv_iadd hx hb dX2_revisedTarget_23 ?_
    exact g_iret C0 G hr dX2_revisedTarget_24 (Nat.le_of_ble_eq_true rfl) (Nat.le_of_ble_eq_true rfl) (by exact ⟨(by rw [X2_revisedTarget_r1, if_neg c11]), rfl⟩)
def X2_target1_x0 (rs_a : Int32) (g0_a : Nat → Int32) (rs_b : Int32) : Int32 := (X2_revisedTarget_r1 (((tget 8 1 8 g0_a 0 0)).toInt64) ((rs_a).toInt64) ((rs_b).toInt64))
set_option maxRecDepth 100000 in
theorem c_X2_target1 {l : Launch} (hfl : l.stackTraces = false) {D : va_G} {cy : Nat → ClassId} {f : Hf} {sz : Nat} {A : Nat → Nat} {b : Nat} {ex : Int32} {ov : Int32} {fi : Int32} {nu : Int32} {q : Nat → Option Nat} {rs_a : Int32} {sk_a : Int32} {ot_a : Int32} {ch_a : Int32} {nc_a : Int32} {g0_a : Nat → Int32} {rs_b : Int32} {sk_b : Int32} {ot_b : Int32} {ch_b : Int32} {nc_b : Int32} (h_mt : f (A (b + 0)) = some (.inr (4, [.ref (A (b + 1)), .int ex, .int ov, .int 1, .int fi, .int nu]))) (h_al : f (A (b + 1)) = some (.inl (cy 3, 4, .inr (.inr (.inr (.inr q)))))) (h_ij0 : f (A (b + 2)) = some (.inr (2, [.ref (A (b + 3)), .ref (A (b + 5)), .ref (A (b + 7)), .ref (A (b + 9)), .ref (A (b + 11)), .ref (A (b + 13)), .int rs_a, .int sk_a, .int ot_a, .int ch_a, .int nc_a]))) (h_t0j0 : f (A (b + 3)) = some (.inr (8, [.int 8, .ref (A (b + 4)), .int 1]))) (h_a0j0 : f (A (b + 4)) = some (.inl (cy 0, 8, .inl g0_a))) (h_ij1 : f (A (b + 15)) = some (.inr (2, [.ref (A (b + 16)), .ref (A (b + 18)), .ref (A (b + 20)), .ref (A (b + 22)), .ref (A (b + 24)), .ref (A (b + 26)), .int rs_b, .int sk_b, .int ot_b, .int ch_b, .int nc_b]))) (hAj : ∀ i j : Nat, i ≠ j → A i ≠ A j) (hq0 : q 0 = some (A (b + 2))) (hq1 : q 1 = some (A (b + 15))) (hq2 : q 2 = some (A (b + 28))) (hq3 : q 3 = some (A (b + 41))) : hMet l yX2_target cX2_target 2 (some .int) { frames := 2, cells := 0, slots := 0, locals := 45 } D (hTy cy) f sz [.ref (A (b + 0))] (hQi (fun r u => r = (X2_target1_x0 rs_a g0_a rs_b) ∧ u = f) D f sz) hNo := by
  refine h_enter (by decide) hfl (Nat.le_of_ble_eq_true rfl) ?_
  intro p9 e9 s9 m9 b9 t9 c9 hsz C0 hr hnm G ls hl
  have hx := C0.1.1
  have hb := C0.1.2.1
  have hl : lv_has ls 2 [(0, .ref (A (b + 0)))] := hl
  refine lv_aload_n hx hb dX2_target_0 rfl (lv_at hl 0 rfl) ?_
  refine lv_iconst (v := 0) hx hb dX2_target_1 (by decide) ?_
  refine g_cR C0 G (g_runV C0 G (rest := []) (c_X2_at0 hfl (A := A) (b := b) (ex := ex) (ov := ov) (ie := 1) (fi := fi) (nu := nu) (q := q) h_mt h_al hAj hq0 hq1 hq2 hq3) h_mt rfl hY_X2_at mm_X2_77 mi_X2_at ml_X2_at ⟨(Nat.le_of_ble_eq_true rfl), (Nat.le_of_ble_eq_true rfl)⟩ rfl hl.1 rfl (Nat.le_of_ble_eq_true rfl) dX2_target_2 ⟨(Nat.le_of_ble_eq_true rfl), (Nat.le_of_ble_eq_true rfl)⟩) (kx_no rfl) (fun a13 u12 H locs hp11 G => ?_)
  obtain ⟨zr, eu12⟩ := hp11
  replace zr := Eq.symm zr
  subst zr
  rw [eu12] at G
  refine lv_iconst (v := 0) hx hb dX2_target_5 (by decide) ?_
  refine g_cI C0 G (g_runV C0 G (rest := []) (c_X0_total hfl 0 h_ij0 h_t0j0 h_a0j0) h_ij0 rfl hY_X0_total mm_X2_128 mi_X0_total ml_X0_total ⟨(Nat.le_of_ble_eq_true rfl), (Nat.le_of_ble_eq_true rfl)⟩ rfl hl.1 rfl (Nat.le_of_ble_eq_true rfl) dX2_target_6 ⟨(Nat.le_of_ble_eq_true rfl), (Nat.le_of_ble_eq_true rfl)⟩) (kx_no rfl) (fun r16 u15 H locs hp14 G => ?_)
  obtain ⟨er17, eu15⟩ := hp14
  rw [eu15] at G
  refine lv_topv (v := (tget 8 1 8 g0_a 0 0)) er17 ?_
  refine lv_istore_n (lv' := [(1, .int (tget 8 1 8 g0_a 0 0)), (0, .ref (A (b + 0)))]) hx hb dX2_target_9 rfl hl (by decide) rfl (fun ls hl => ?_)
  refine lv_aload_n hx hb dX2_target_10 rfl (lv_at hl 1 rfl) ?_
  refine g_cI C0 G (g_runV C0 G (rest := []) (c_X2_hasResources hfl (A := A) (b := b) (ex := ex) (ov := ov) (ie := 1) (fi := fi) (nu := nu) (q := q) h_mt h_al hAj hq0 hq1 hq2 hq3) h_mt rfl hY_X2_hasResources mm_X2_50 mi_X2_hasResources ml_X2_hasResources ⟨(Nat.le_of_ble_eq_true rfl), (Nat.le_of_ble_eq_true rfl)⟩ rfl hl.1 rfl (Nat.le_of_ble_eq_true rfl) dX2_target_11 ⟨(Nat.le_of_ble_eq_true rfl), (Nat.le_of_ble_eq_true rfl)⟩) (kx_no rfl) (fun r20 u19 H locs hp18 G => ?_)
  obtain ⟨er21, eu19⟩ := hp18
  rw [eu19] at G
  refine lv_topv (v := (X2_hasResources_x0 1)) er21 ?_
  refine lv_topv (v := 1) (by decide) ?_
  refine lv_if_eq (tgt := 41) hx hb dX2_target_14 (by decide) (fun c22 => absurd c22 (by decide)) (fun _ => ?_)
  refine lv_iload_n hx hb dX2_target_17 rfl (lv_at hl 0 rfl) ?_
  refine lv_i2l (v := ((tget 8 1 8 g0_a 0 0)).toInt64) hx hb dX2_target_18 rfl ?_
  refine lv_aload_n hx hb dX2_target_19 rfl (lv_at hl 1 rfl) ?_
  refine lv_iconst (v := 0) hx hb dX2_target_20 (by decide) ?_
  refine g_cR C0 G (g_runV C0 G (rest := [.long (((tget 8 1 8 g0_a 0 0)).toInt64)]) (c_X2_at0 hfl (A := A) (b := b) (ex := ex) (ov := ov) (ie := 1) (fi := fi) (nu := nu) (q := q) h_mt h_al hAj hq0 hq1 hq2 hq3) h_mt rfl hY_X2_at mm_X2_77 mi_X2_at ml_X2_at ⟨(Nat.le_of_ble_eq_true rfl), (Nat.le_of_ble_eq_true rfl)⟩ rfl hl.1 rfl (Nat.le_of_ble_eq_true rfl) dX2_target_21 ⟨(Nat.le_of_ble_eq_true rfl), (Nat.le_of_ble_eq_true rfl)⟩) (kx_no rfl) (fun a25 u24 H locs hp23 G => ?_)
  obtain ⟨zr, eu24⟩ := hp23
  replace zr := Eq.symm zr
  subst zr
  rw [eu24] at G
  refine g_get C0 G h_ij0 rfl hiX0 6 (by decide) mf_X2_157 rfl dX2_target_24 ?_
  refine lv_i2l (v := (rs_a).toInt64) hx hb dX2_target_27 rfl ?_
  refine lv_aload_n hx hb dX2_target_28 rfl (lv_at hl 1 rfl) ?_
  refine lv_iconst (v := 1) hx hb dX2_target_29 (by decide) ?_
  refine g_cR C0 G (g_runV C0 G (rest := [.long ((rs_a).toInt64), .long (((tget 8 1 8 g0_a 0 0)).toInt64)]) (c_X2_at1 hfl (A := A) (b := b) (ex := ex) (ov := ov) (ie := 1) (fi := fi) (nu := nu) (q := q) h_mt h_al hAj hq0 hq1 hq2 hq3) h_mt rfl hY_X2_at mm_X2_77 mi_X2_at ml_X2_at ⟨(Nat.le_of_ble_eq_true rfl), (Nat.le_of_ble_eq_true rfl)⟩ rfl hl.1 rfl (Nat.le_of_ble_eq_true rfl) dX2_target_30 ⟨(Nat.le_of_ble_eq_true rfl), (Nat.le_of_ble_eq_true rfl)⟩) (kx_no rfl) (fun a28 u27 H locs hp26 G => ?_)
  obtain ⟨zr, eu27⟩ := hp26
  replace zr := Eq.symm zr
  subst zr
  rw [eu27] at G
  refine g_get C0 G h_ij1 rfl hiX0 6 (by decide) mf_X2_157 rfl dX2_target_33 ?_
  refine lv_i2l (v := (rs_b).toInt64) hx hb dX2_target_36 rfl ?_
  refine g_cI C0 G (g_runS C0 G (rest := []) (c_X2_revisedTarget hfl (((tget 8 1 8 g0_a 0 0)).toInt64) ((rs_a).toInt64) ((rs_b).toInt64) ) hY_X2_revisedTarget mm_X2_160 ms_X2_revisedTarget ⟨(Nat.le_of_ble_eq_true rfl), (Nat.le_of_ble_eq_true rfl)⟩ rfl hl.1 rfl (Nat.le_of_ble_eq_true rfl) dX2_target_37 ⟨(Nat.le_of_ble_eq_true rfl), (Nat.le_of_ble_eq_true rfl)⟩) (kx_no rfl) (fun r31 u30 H locs hp29 G => ?_)
  obtain ⟨er32, eu30⟩ := hp29
  rw [eu30] at G
  refine lv_topv (v := (X2_revisedTarget_r1 (((tget 8 1 8 g0_a 0 0)).toInt64) ((rs_a).toInt64) ((rs_b).toInt64))) er32 ?_
  refine lv_topv (v := (X2_target1_x0 rs_a g0_a rs_b)) rfl ?_
  exact g_iret C0 G hr dX2_target_40 (Nat.le_of_ble_eq_true rfl) (Nat.le_of_ble_eq_true rfl) (by exact ⟨rfl, rfl⟩)
def X2_target2_r0 (g0_a : Nat → Int32) (g0_b : Nat → Int32) (g0_c : Nat → Int32) : Int32 := (((tget 8 1 8 g0_a 0 0) + (tget 8 1 8 g0_c 0 0)) - (tget 8 1 8 g0_b 0 0)) + 1
set_option maxRecDepth 100000 in
theorem c_X2_target2 {l : Launch} (hfl : l.stackTraces = false) {D : va_G} {cy : Nat → ClassId} {f : Hf} {sz : Nat} {A : Nat → Nat} {b : Nat} {ex : Int32} {ov : Int32} {fi : Int32} {nu : Int32} {q : Nat → Option Nat} {rs_a : Int32} {sk_a : Int32} {ot_a : Int32} {ch_a : Int32} {nc_a : Int32} {g0_a : Nat → Int32} {rs_b : Int32} {sk_b : Int32} {ot_b : Int32} {ch_b : Int32} {nc_b : Int32} {g0_b : Nat → Int32} {rs_c : Int32} {sk_c : Int32} {ot_c : Int32} {ch_c : Int32} {nc_c : Int32} {g0_c : Nat → Int32} (h_mt : f (A (b + 0)) = some (.inr (4, [.ref (A (b + 1)), .int ex, .int ov, .int 2, .int fi, .int nu]))) (h_al : f (A (b + 1)) = some (.inl (cy 3, 4, .inr (.inr (.inr (.inr q)))))) (h_ij0 : f (A (b + 2)) = some (.inr (2, [.ref (A (b + 3)), .ref (A (b + 5)), .ref (A (b + 7)), .ref (A (b + 9)), .ref (A (b + 11)), .ref (A (b + 13)), .int rs_a, .int sk_a, .int ot_a, .int ch_a, .int nc_a]))) (h_t0j0 : f (A (b + 3)) = some (.inr (8, [.int 8, .ref (A (b + 4)), .int 1]))) (h_a0j0 : f (A (b + 4)) = some (.inl (cy 0, 8, .inl g0_a))) (h_ij1 : f (A (b + 15)) = some (.inr (2, [.ref (A (b + 16)), .ref (A (b + 18)), .ref (A (b + 20)), .ref (A (b + 22)), .ref (A (b + 24)), .ref (A (b + 26)), .int rs_b, .int sk_b, .int ot_b, .int ch_b, .int nc_b]))) (h_t0j1 : f (A (b + 16)) = some (.inr (8, [.int 8, .ref (A (b + 17)), .int 1]))) (h_a0j1 : f (A (b + 17)) = some (.inl (cy 0, 8, .inl g0_b))) (h_ij2 : f (A (b + 28)) = some (.inr (2, [.ref (A (b + 29)), .ref (A (b + 31)), .ref (A (b + 33)), .ref (A (b + 35)), .ref (A (b + 37)), .ref (A (b + 39)), .int rs_c, .int sk_c, .int ot_c, .int ch_c, .int nc_c]))) (h_t0j2 : f (A (b + 29)) = some (.inr (8, [.int 8, .ref (A (b + 30)), .int 1]))) (h_a0j2 : f (A (b + 30)) = some (.inl (cy 0, 8, .inl g0_c))) (hAj : ∀ i j : Nat, i ≠ j → A i ≠ A j) (hq0 : q 0 = some (A (b + 2))) (hq1 : q 1 = some (A (b + 15))) (hq2 : q 2 = some (A (b + 28))) (hq3 : q 3 = some (A (b + 41))) : hMet l yX2_target cX2_target 2 (some .int) { frames := 2, cells := 0, slots := 0, locals := 45 } D (hTy cy) f sz [.ref (A (b + 0))] (hQi (fun r u => r = (X2_target2_r0 g0_a g0_b g0_c) ∧ u = f) D f sz) hNo := by
  refine h_enter (by decide) hfl (Nat.le_of_ble_eq_true rfl) ?_
  intro p9 e9 s9 m9 b9 t9 c9 hsz C0 hr hnm G ls hl
  have hx := C0.1.1
  have hb := C0.1.2.1
  have hl : lv_has ls 2 [(0, .ref (A (b + 0)))] := hl
  refine lv_aload_n hx hb dX2_target_0 rfl (lv_at hl 0 rfl) ?_
  refine lv_iconst (v := 0) hx hb dX2_target_1 (by decide) ?_
  refine g_cR C0 G (g_runV C0 G (rest := []) (c_X2_at0 hfl (A := A) (b := b) (ex := ex) (ov := ov) (ie := 2) (fi := fi) (nu := nu) (q := q) h_mt h_al hAj hq0 hq1 hq2 hq3) h_mt rfl hY_X2_at mm_X2_77 mi_X2_at ml_X2_at ⟨(Nat.le_of_ble_eq_true rfl), (Nat.le_of_ble_eq_true rfl)⟩ rfl hl.1 rfl (Nat.le_of_ble_eq_true rfl) dX2_target_2 ⟨(Nat.le_of_ble_eq_true rfl), (Nat.le_of_ble_eq_true rfl)⟩) (kx_no rfl) (fun a13 u12 H locs hp11 G => ?_)
  obtain ⟨zr, eu12⟩ := hp11
  replace zr := Eq.symm zr
  subst zr
  rw [eu12] at G
  refine lv_iconst (v := 0) hx hb dX2_target_5 (by decide) ?_
  refine g_cI C0 G (g_runV C0 G (rest := []) (c_X0_total hfl 0 h_ij0 h_t0j0 h_a0j0) h_ij0 rfl hY_X0_total mm_X2_128 mi_X0_total ml_X0_total ⟨(Nat.le_of_ble_eq_true rfl), (Nat.le_of_ble_eq_true rfl)⟩ rfl hl.1 rfl (Nat.le_of_ble_eq_true rfl) dX2_target_6 ⟨(Nat.le_of_ble_eq_true rfl), (Nat.le_of_ble_eq_true rfl)⟩) (kx_no rfl) (fun r16 u15 H locs hp14 G => ?_)
  obtain ⟨er17, eu15⟩ := hp14
  rw [eu15] at G
  refine lv_topv (v := (tget 8 1 8 g0_a 0 0)) er17 ?_
  refine lv_istore_n (lv' := [(1, .int (tget 8 1 8 g0_a 0 0)), (0, .ref (A (b + 0)))]) hx hb dX2_target_9 rfl hl (by decide) rfl (fun ls hl => ?_)
  refine lv_aload_n hx hb dX2_target_10 rfl (lv_at hl 1 rfl) ?_
  refine g_cI C0 G (g_runV C0 G (rest := []) (c_X2_hasResources hfl (A := A) (b := b) (ex := ex) (ov := ov) (ie := 2) (fi := fi) (nu := nu) (q := q) h_mt h_al hAj hq0 hq1 hq2 hq3) h_mt rfl hY_X2_hasResources mm_X2_50 mi_X2_hasResources ml_X2_hasResources ⟨(Nat.le_of_ble_eq_true rfl), (Nat.le_of_ble_eq_true rfl)⟩ rfl hl.1 rfl (Nat.le_of_ble_eq_true rfl) dX2_target_11 ⟨(Nat.le_of_ble_eq_true rfl), (Nat.le_of_ble_eq_true rfl)⟩) (kx_no rfl) (fun r20 u19 H locs hp18 G => ?_)
  obtain ⟨er21, eu19⟩ := hp18
  rw [eu19] at G
  refine lv_topv (v := (X2_hasResources_x0 2)) er21 ?_
  refine lv_topv (v := 0) (by decide) ?_
  refine lv_if_eq (tgt := 41) hx hb dX2_target_14 (by decide) (fun _ => ?_) (fun c22 => absurd (by decide) c22)
  refine lv_iload_n hx hb dX2_target_41 rfl (lv_at hl 0 rfl) ?_
  refine lv_aload_n hx hb dX2_target_42 rfl (lv_at hl 1 rfl) ?_
  refine lv_iconst (v := 2) hx hb dX2_target_43 (by decide) ?_
  refine g_cR C0 G (g_runV C0 G (rest := [.int (tget 8 1 8 g0_a 0 0)]) (c_X2_at2 hfl (A := A) (b := b) (ex := ex) (ov := ov) (ie := 2) (fi := fi) (nu := nu) (q := q) h_mt h_al hAj hq0 hq1 hq2 hq3) h_mt rfl hY_X2_at mm_X2_77 mi_X2_at ml_X2_at ⟨(Nat.le_of_ble_eq_true rfl), (Nat.le_of_ble_eq_true rfl)⟩ rfl hl.1 rfl (Nat.le_of_ble_eq_true rfl) dX2_target_44 ⟨(Nat.le_of_ble_eq_true rfl), (Nat.le_of_ble_eq_true rfl)⟩) (kx_no rfl) (fun a25 u24 H locs hp23 G => ?_)
  obtain ⟨zr, eu24⟩ := hp23
  replace zr := Eq.symm zr
  subst zr
  rw [eu24] at G
  refine lv_iconst (v := 0) hx hb dX2_target_47 (by decide) ?_
  refine g_cI C0 G (g_runV C0 G (rest := [.int (tget 8 1 8 g0_a 0 0)]) (c_X0_total hfl 0 h_ij2 h_t0j2 h_a0j2) h_ij2 rfl hY_X0_total mm_X2_128 mi_X0_total ml_X0_total ⟨(Nat.le_of_ble_eq_true rfl), (Nat.le_of_ble_eq_true rfl)⟩ rfl hl.1 rfl (Nat.le_of_ble_eq_true rfl) dX2_target_48 ⟨(Nat.le_of_ble_eq_true rfl), (Nat.le_of_ble_eq_true rfl)⟩) (kx_no rfl) (fun r28 u27 H locs hp26 G => ?_)
  obtain ⟨er29, eu27⟩ := hp26
  rw [eu27] at G
  refine lv_topv (v := (tget 8 1 8 g0_c 0 0)) er29 ?_
  refine lv_iadd hx hb dX2_target_51 ?_
  refine lv_aload_n hx hb dX2_target_52 rfl (lv_at hl 1 rfl) ?_
  refine lv_iconst (v := 1) hx hb dX2_target_53 (by decide) ?_
  refine g_cR C0 G (g_runV C0 G (rest := [.int ((tget 8 1 8 g0_a 0 0) + (tget 8 1 8 g0_c 0 0))]) (c_X2_at1 hfl (A := A) (b := b) (ex := ex) (ov := ov) (ie := 2) (fi := fi) (nu := nu) (q := q) h_mt h_al hAj hq0 hq1 hq2 hq3) h_mt rfl hY_X2_at mm_X2_77 mi_X2_at ml_X2_at ⟨(Nat.le_of_ble_eq_true rfl), (Nat.le_of_ble_eq_true rfl)⟩ rfl hl.1 rfl (Nat.le_of_ble_eq_true rfl) dX2_target_54 ⟨(Nat.le_of_ble_eq_true rfl), (Nat.le_of_ble_eq_true rfl)⟩) (kx_no rfl) (fun a32 u31 H locs hp30 G => ?_)
  obtain ⟨zr, eu31⟩ := hp30
  replace zr := Eq.symm zr
  subst zr
  rw [eu31] at G
  refine lv_iconst (v := 0) hx hb dX2_target_57 (by decide) ?_
  refine g_cI C0 G (g_runV C0 G (rest := [.int ((tget 8 1 8 g0_a 0 0) + (tget 8 1 8 g0_c 0 0))]) (c_X0_total hfl 0 h_ij1 h_t0j1 h_a0j1) h_ij1 rfl hY_X0_total mm_X2_128 mi_X0_total ml_X0_total ⟨(Nat.le_of_ble_eq_true rfl), (Nat.le_of_ble_eq_true rfl)⟩ rfl hl.1 rfl (Nat.le_of_ble_eq_true rfl) dX2_target_58 ⟨(Nat.le_of_ble_eq_true rfl), (Nat.le_of_ble_eq_true rfl)⟩) (kx_no rfl) (fun r35 u34 H locs hp33 G => ?_)
  obtain ⟨er36, eu34⟩ := hp33
  rw [eu34] at G
  refine lv_topv (v := (tget 8 1 8 g0_b 0 0)) er36 ?_
  refine lv_isub hx hb dX2_target_61 ?_
  refine lv_iconst (v := 1) hx hb dX2_target_62 (by decide) ?_
  refine lv_iadd hx hb dX2_target_63 ?_
  exact g_iret C0 G hr dX2_target_64 (Nat.le_of_ble_eq_true rfl) (Nat.le_of_ble_eq_true rfl) (by exact ⟨(by rw [X2_target2_r0]), rfl⟩)
def X2_refusal01_n0 (bw : Int32) : Nat := if bw = (-1) then 3 else 0
def X2_refusal01_n1 (wy : Int32) (kd : Int32) (ru : Int32) (so : Int32) (sc : Int32) : Nat := if (X5_isPossibleWicket_r8 wy kd ru so sc) = 0 then 6 else 0
def X2_refusal01_n2 (g1 : Nat → Int32) (nu : Int32) : Nat := if (X0_canComeIn_x1 g1 nu) = 0 then 5 else 0
def X2_refusal01_n3 (lm : Int32) (oc : Int32) (hbg : Int32) (nu : Int32) : Nat := if (X0_canLose_x0 lm oc hbg nu) = 0 then 8 else 0
def X2_refusal01_r4 (ex : Int32) (ov : Int32) (g1 : Nat → Int32) (g2 : Nat → Int32) (lm : Int32) (lf : Int32) (oc : Int32) (bw : Int32) (bb : Int32) (hbg : Int32) (ty : Int32) (nu : Int32) (wy : Int32) (kd : Int32) (ru : Int32) (so : Int32) (sc : Int32) : Int32 := if ex = 0 then 1 else (if ov = 0 then (if ty = 1 then (X0_bowlRefusal_r3 g2 lf bw bb nu) else (if ty = 2 then (nI (X2_refusal01_n0 bw)) else (if ty = 3 then (if bw = (-1) then 3 else (nI (X2_refusal01_n1 wy kd ru so sc))) else (if ty = 4 then 0 else (if ty = 5 then (nI (X2_refusal01_n2 g1 nu)) else (if ty = 6 then 0 else (if ty = 7 then (nI (X2_refusal01_n3 lm oc hbg nu)) else 0))))))) else 1)
set_option maxRecDepth 100000 in
theorem c_X2_refusal01 {l : Launch} (hfl : l.stackTraces = false) {D : va_G} {cy : Nat → ClassId} {f : Hf} {sz : Nat} {A : Nat → Nat} {b : Nat} {st : Nat} {ex : Int32} {ov : Int32} {fi : Int32} {q : Nat → Option Nat} {rs : Int32} {sk : Int32} {ot : Int32} {ch : Int32} {nc : Int32} {g1 : Nat → Int32} {g2 : Nat → Int32} {lm : Int32} {lf : Int32} {oc : Int32} {bw : Int32} {bb : Int32} {bl : Int32} {cd : Int32} {hbg : Int32} {go : Nat → Int32} {ty : Int32} {nu : Int32} {wy : Int32} {kd : Int32} {ru : Int32} {so : Int32} {sb : Int32} {sc : Int32} {sh : Int32} (h_mt : f (A (b + 0)) = some (.inr (4, [.ref (A (b + 1)), .int ex, .int ov, .int 1, .int fi, .int 0]))) (h_al : f (A (b + 1)) = some (.inl (cy 3, 4, .inr (.inr (.inr (.inr q)))))) (h_ij0 : f (A (b + 2)) = some (.inr (2, [.ref (A (b + 3)), .ref (A (b + 5)), .ref (A (b + 7)), .ref (A (b + 9)), .ref (A (b + 11)), .ref (A (b + 13)), .int rs, .int sk, .int ot, .int ch, .int nc]))) (h_t1j0 : f (A (b + 5)) = some (.inr (8, [.int 6, .ref (A (b + 6)), .int 11]))) (h_a1j0 : f (A (b + 6)) = some (.inl (cy 0, 66, .inl g1))) (h_t2j0 : f (A (b + 7)) = some (.inr (8, [.int 7, .ref (A (b + 8)), .int 11]))) (h_a2j0 : f (A (b + 8)) = some (.inl (cy 0, 77, .inl g2))) (h_oj0 : f (A (b + 13)) = some (.inr (5, [.ref (A (b + 14)), .int lm, .int lf, .int oc, .int bw, .int bb, .int bl, .int cd, .int hbg]))) (h_oaj0 : f (A (b + 14)) = some (.inl (cy 0, 20, .inl go))) (h_st : f st = some (.inr (7, [.int ty, .int nu, .int wy, .int kd, .int ru, .int so, .int sb, .int sc, .int sh]))) (hAj : ∀ i j : Nat, i ≠ j → A i ≠ A j) (hq0 : q 0 = some (A (b + 2))) (hq1 : q 1 = some (A (b + 15))) (hq2 : q 2 = some (A (b + 28))) (hq3 : q 3 = some (A (b + 41))) : hMet l yX2_refusal cX2_refusal 3 (some .int) { frames := 3, cells := 0, slots := 0, locals := 67 } D (hTy cy) f sz [.ref (A (b + 0)), .ref st] (hQi (fun r u => r = (X2_refusal01_r4 ex ov g1 g2 lm lf oc bw bb hbg ty nu wy kd ru so sc) ∧ u = f) D f sz) hNo := by
  refine h_enter (by decide) hfl (Nat.le_of_ble_eq_true rfl) ?_
  intro p9 e9 s9 m9 b9 t9 c9 hsz C0 hr hnm G ls hl
  have hx := C0.1.1
  have hb := C0.1.2.1
  have hl : lv_has ls 3 [(0, .ref (A (b + 0))), (1, .ref st)] := hl
  refine lv_aload_n hx hb dX2_refusal_0 rfl (lv_at hl 0 rfl) ?_
  refine g_get C0 G h_mt rfl hiX2 1 (by decide) mf_X2_17 rfl dX2_refusal_1 ?_
  refine lv_if_eq (tgt := 14) hx hb dX2_refusal_4 (by decide) (fun c11 => ?_) (fun c11 => ?_)
  · refine lv_iconst (v := 1) hx hb dX2_refusal_14 (by decide) ?_
    exact g_iret C0 G hr dX2_refusal_15 (Nat.le_of_ble_eq_true rfl) (Nat.le_of_ble_eq_true rfl) (by exact ⟨(by rw [X2_refusal01_r4, if_pos c11]), rfl⟩)
  · refine lv_aload_n hx hb dX2_refusal_7 rfl (lv_at hl 0 rfl) ?_
    refine g_get C0 G h_mt rfl hiX2 2 (by decide) mf_X2_21 rfl dX2_refusal_8 ?_
    refine lv_if_eq (tgt := 16) hx hb dX2_refusal_11 (by decide) (fun c12 => ?_) (fun c12 => ?_)
    · refine lv_aload_n hx hb dX2_refusal_16 rfl (lv_at hl 0 rfl) ?_
      refine g_cR C0 G (g_runV C0 G (rest := []) (c_X2_present0 hfl (A := A) (b := b) (ex := ex) (ov := ov) (ie := 1) (fi := fi) (q := q) h_mt h_al hAj hq0 hq1 hq2 hq3) h_mt rfl hY_X2_present mm_X2_43 mi_X2_present ml_X2_present ⟨(Nat.le_of_ble_eq_true rfl), (Nat.le_of_ble_eq_true rfl)⟩ rfl hl.1 rfl (Nat.le_of_ble_eq_true rfl) dX2_refusal_17 ⟨(Nat.le_of_ble_eq_true rfl), (Nat.le_of_ble_eq_true rfl)⟩) (kx_no rfl) (fun a15 u14 H locs hp13 G => ?_)
      obtain ⟨zr, eu14⟩ := hp13
      replace zr := Eq.symm zr
      subst zr
      rw [eu14] at G
      refine lv_astore_n (lv' := [(2, .ref (A (b + 2))), (0, .ref (A (b + 0))), (1, .ref st)]) hx hb dX2_refusal_20 rfl hl (by decide) rfl (fun ls hl => ?_)
      refine lv_aload_n hx hb dX2_refusal_21 rfl (lv_at hl 2 rfl) ?_
      refine g_get C0 G h_st rfl hiX5 0 (by decide) mf_X2_85 rfl dX2_refusal_22 ?_
      have sw23 : (ty = 1) ∨ (¬ ty = 1 ∧ ty = 2) ∨ (¬ ty = 1 ∧ ¬ ty = 2 ∧ ty = 3) ∨ (¬ ty = 1 ∧ ¬ ty = 2 ∧ ¬ ty = 3 ∧ ty = 4) ∨ (¬ ty = 1 ∧ ¬ ty = 2 ∧ ¬ ty = 3 ∧ ¬ ty = 4 ∧ ty = 5) ∨ (¬ ty = 1 ∧ ¬ ty = 2 ∧ ¬ ty = 3 ∧ ¬ ty = 4 ∧ ¬ ty = 5 ∧ ty = 6) ∨ (¬ ty = 1 ∧ ¬ ty = 2 ∧ ¬ ty = 3 ∧ ¬ ty = 4 ∧ ¬ ty = 5 ∧ ¬ ty = 6 ∧ ty = 7) ∨ (¬ ty = 1 ∧ ¬ ty = 2 ∧ ¬ ty = 3 ∧ ¬ ty = 4 ∧ ¬ ty = 5 ∧ ¬ ty = 6 ∧ ¬ ty = 7) := by
        by_cases w16 : ty = 1
        · exact Or.inl w16
        rename ¬ ty = 1 => nw16
        by_cases w17 : ty = 2
        · exact Or.inr (Or.inl ⟨nw16, w17⟩)
        rename ¬ ty = 2 => nw17
        by_cases w18 : ty = 3
        · exact Or.inr (Or.inr (Or.inl ⟨nw16, nw17, w18⟩))
        rename ¬ ty = 3 => nw18
        by_cases w19 : ty = 4
        · exact Or.inr (Or.inr (Or.inr (Or.inl ⟨nw16, nw17, nw18, w19⟩)))
        rename ¬ ty = 4 => nw19
        by_cases w20 : ty = 5
        · exact Or.inr (Or.inr (Or.inr (Or.inr (Or.inl ⟨nw16, nw17, nw18, nw19, w20⟩))))
        rename ¬ ty = 5 => nw20
        by_cases w21 : ty = 6
        · exact Or.inr (Or.inr (Or.inr (Or.inr (Or.inr (Or.inl ⟨nw16, nw17, nw18, nw19, nw20, w21⟩)))))
        rename ¬ ty = 6 => nw21
        by_cases w22 : ty = 7
        · exact Or.inr (Or.inr (Or.inr (Or.inr (Or.inr (Or.inr (Or.inl ⟨nw16, nw17, nw18, nw19, nw20, nw21, w22⟩))))))
        rename ¬ ty = 7 => nw22
        exact Or.inr (Or.inr (Or.inr (Or.inr (Or.inr (Or.inr (Or.inr (⟨nw16, nw17, nw18, nw19, nw20, nw21, nw22⟩)))))))
      rcases sw23 with w16 | ⟨nw16, w17⟩ | ⟨nw16, nw17, w18⟩ | ⟨nw16, nw17, nw18, w19⟩ | ⟨nw16, nw17, nw18, nw19, w20⟩ | ⟨nw16, nw17, nw18, nw19, nw20, w21⟩ | ⟨nw16, nw17, nw18, nw19, nw20, nw21, w22⟩ | ⟨nw16, nw17, nw18, nw19, nw20, nw21, nw22⟩
      · refine lv_tableIn (off := 43) (tgt := 68) hx hb dX2_refusal_25 (by rw [w16]; decide) (by rw [w16]; decide) (by rw [w16]; rfl) (by decide) ?_
        refine lv_aload_n hx hb dX2_refusal_68 rfl (lv_at hl 0 rfl) ?_
        refine lv_aload_n hx hb dX2_refusal_69 rfl (lv_at hl 2 rfl) ?_
        refine g_get C0 G h_st rfl hiX5 1 (by decide) mf_X2_90 rfl dX2_refusal_70 ?_
        refine g_cI C0 G (g_runV C0 G (rest := []) (c_X0_bowlRefusal hfl nu h_ij0 h_t2j0 h_a2j0 h_oj0) h_ij0 rfl hY_X0_bowlRefusal mm_X2_91 mi_X0_bowlRefusal ml_X0_bowlRefusal ⟨(Nat.le_of_ble_eq_true rfl), (Nat.le_of_ble_eq_true rfl)⟩ rfl hl.1 rfl (Nat.le_of_ble_eq_true rfl) dX2_refusal_73 ⟨(Nat.le_of_ble_eq_true rfl), (Nat.le_of_ble_eq_true rfl)⟩) (kx_no rfl) (fun r26 u25 H locs hp24 G => ?_)
        obtain ⟨er27, eu25⟩ := hp24
        rw [eu25] at G
        refine lv_topv (v := (X0_bowlRefusal_r3 g2 lf bw bb nu)) er27 ?_
        exact g_iret C0 G hr dX2_refusal_76 (Nat.le_of_ble_eq_true rfl) (Nat.le_of_ble_eq_true rfl) (by exact ⟨(by rw [X2_refusal01_r4, if_neg c11, if_pos c12, if_pos w16]), rfl⟩)
      · refine lv_tableIn (off := 52) (tgt := 77) hx hb dX2_refusal_25 (by rw [w17]; decide) (by rw [w17]; decide) (by rw [w17]; rfl) (by decide) ?_
        refine lv_aload_n hx hb dX2_refusal_77 rfl (lv_at hl 0 rfl) ?_
        refine g_get C0 G h_ij0 rfl hiX0 5 (by decide) mf_X2_95 rfl dX2_refusal_78 ?_
        refine g_get C0 G h_oj0 rfl hiX3 4 (by decide) mf_X2_98 rfl dX2_refusal_81 ?_
        refine lv_iconst (v := (-1)) hx hb dX2_refusal_84 (by decide) ?_
        have J30 : ∀ (y29 : Int32) (_ : y29 = nI (X2_refusal01_n0 bw)) (H : Heap) (locs : List Loc) (ls : Array Slot), hG D (hA f sz) f s9 H locs → lv_has ls 3 [(2, .ref (A (b + 2))), (0, .ref (A (b + 0))), (1, .ref st)] → W p9 l e9 ({ frames := 3, cells := 0, slots := 0, locals := 67 } : Room) s9 m9 ([.ref (A (b + 0)), .ref st] : List Value).toArray b9 t9 c9 H locs 0 0 (vx_MQ b9 (hQi (fun r u => r = (X2_refusal01_r4 ex ov g1 g2 lm lf oc bw bb hbg ty nu wy kd ru so sc) ∧ u = f) D f sz) (hPx hNo D f sz) ([.ref (A (b + 0)), .ref st] : List Value).toArray s9 0 0 (hA f sz)) (F0 m9 93 ls [.int y29]) := by
          intro y29 ey29 H locs ls G hl
          replace ey29 := Eq.symm ey29
          subst ey29
          have bd32 : (X2_refusal01_n0 bw) ≤ 3 := by unfold X2_refusal01_n0; repeat (first | omega | split)
          exact g_iret C0 G hr dX2_refusal_93 (Nat.le_of_ble_eq_true rfl) (Nat.le_of_ble_eq_true rfl) (by exact ⟨(by rw [X2_refusal01_r4, if_neg c11, if_pos c12, if_neg nw16, if_pos w17]), rfl⟩)
        refine lv_icmp_ne (tgt := 92) hx hb dX2_refusal_85 (by decide) (fun c28 => ?_) (fun c28 => ?_)
        · refine lv_iconst (v := 0) hx hb dX2_refusal_92 (by decide) ?_
          exact J30 0 (by rw [X2_refusal01_n0, if_neg c28] <;> rfl) _ _ _ G (lv_sub hl [0, 1, 2] rfl)
        · refine lv_iconst (v := 3) hx hb dX2_refusal_88 (by decide) ?_
          refine lv_goto (tgt := 93) hx hb dX2_refusal_89 (by decide) ?_
          exact J30 3 (by rw [X2_refusal01_n0, if_pos c28] <;> rfl) _ _ _ G (lv_sub hl [0, 1, 2] rfl)
      · refine lv_tableIn (off := 69) (tgt := 94) hx hb dX2_refusal_25 (by rw [w18]; decide) (by rw [w18]; decide) (by rw [w18]; rfl) (by decide) ?_
        refine lv_aload_n hx hb dX2_refusal_94 rfl (lv_at hl 0 rfl) ?_
        refine g_get C0 G h_ij0 rfl hiX0 5 (by decide) mf_X2_95 rfl dX2_refusal_95 ?_
        refine g_get C0 G h_oj0 rfl hiX3 4 (by decide) mf_X2_98 rfl dX2_refusal_98 ?_
        refine lv_iconst (v := (-1)) hx hb dX2_refusal_101 (by decide) ?_
        refine lv_icmp_ne (tgt := 107) hx hb dX2_refusal_102 (by decide) (fun c33 => ?_) (fun c33 => ?_)
        · refine lv_aload_n hx hb dX2_refusal_107 rfl (lv_at hl 2 rfl) ?_
          refine g_cI C0 G (g_runV C0 G (rest := []) (c_X5_isPossibleWicket hfl h_st) h_st rfl hY_X5_isPossibleWicket mm_X2_103 mi_X5_isPossibleWicket ml_X5_isPossibleWicket ⟨(Nat.le_of_ble_eq_true rfl), (Nat.le_of_ble_eq_true rfl)⟩ rfl hl.1 rfl (Nat.le_of_ble_eq_true rfl) dX2_refusal_108 ⟨(Nat.le_of_ble_eq_true rfl), (Nat.le_of_ble_eq_true rfl)⟩) (kx_no rfl) (fun r36 u35 H locs hp34 G => ?_)
          obtain ⟨er37, eu35⟩ := hp34
          rw [eu35] at G
          refine lv_topv (v := (X5_isPossibleWicket_r8 wy kd ru so sc)) er37 ?_
          have J40 : ∀ (y39 : Int32) (_ : y39 = nI (X2_refusal01_n1 wy kd ru so sc)) (H : Heap) (locs : List Loc) (ls : Array Slot), hG D (hA f sz) f s9 H locs → lv_has ls 3 [(2, .ref (A (b + 2))), (0, .ref (A (b + 0))), (1, .ref st)] → W p9 l e9 ({ frames := 3, cells := 0, slots := 0, locals := 67 } : Room) s9 m9 ([.ref (A (b + 0)), .ref st] : List Value).toArray b9 t9 c9 H locs 0 0 (vx_MQ b9 (hQi (fun r u => r = (X2_refusal01_r4 ex ov g1 g2 lm lf oc bw bb hbg ty nu wy kd ru so sc) ∧ u = f) D f sz) (hPx hNo D f sz) ([.ref (A (b + 0)), .ref st] : List Value).toArray s9 0 0 (hA f sz)) (F0 m9 120 ls [.int y39]) := by
            intro y39 ey39 H locs ls G hl
            replace ey39 := Eq.symm ey39
            subst ey39
            have bd42 : (X2_refusal01_n1 wy kd ru so sc) ≤ 6 := by unfold X2_refusal01_n1; repeat (first | omega | split)
            exact g_iret C0 G hr dX2_refusal_120 (Nat.le_of_ble_eq_true rfl) (Nat.le_of_ble_eq_true rfl) (by exact ⟨(by rw [X2_refusal01_r4, if_neg c11, if_pos c12, if_neg nw16, if_neg nw17, if_pos w18, if_neg c33]), rfl⟩)
          refine lv_if_eq (tgt := 118) hx hb dX2_refusal_111 (by decide) (fun c38 => ?_) (fun c38 => ?_)
          · refine lv_bipush (v := 6) hx hb dX2_refusal_118 (by decide) ?_
            exact J40 6 (by rw [X2_refusal01_n1, if_pos c38] <;> rfl) _ _ _ G (lv_sub hl [0, 1, 2] rfl)
          · refine lv_iconst (v := 0) hx hb dX2_refusal_114 (by decide) ?_
            refine lv_goto (tgt := 120) hx hb dX2_refusal_115 (by decide) ?_
            exact J40 0 (by rw [X2_refusal01_n1, if_neg c38] <;> rfl) _ _ _ G (lv_sub hl [0, 1, 2] rfl)
        · refine lv_iconst (v := 3) hx hb dX2_refusal_105 (by decide) ?_
          exact g_iret C0 G hr dX2_refusal_106 (Nat.le_of_ble_eq_true rfl) (Nat.le_of_ble_eq_true rfl) (by exact ⟨(by rw [X2_refusal01_r4, if_neg c11, if_pos c12, if_neg nw16, if_neg nw17, if_pos w18, if_pos c33]), rfl⟩)
      · refine lv_tableIn (off := 138) (tgt := 163) hx hb dX2_refusal_25 (by rw [w19]; decide) (by rw [w19]; decide) (by rw [w19]; rfl) (by decide) ?_
        refine lv_iconst (v := 0) hx hb dX2_refusal_163 (by decide) ?_
        exact g_iret C0 G hr dX2_refusal_164 (Nat.le_of_ble_eq_true rfl) (Nat.le_of_ble_eq_true rfl) (by exact ⟨(by rw [X2_refusal01_r4, if_neg c11, if_pos c12, if_neg nw16, if_neg nw17, if_neg nw18, if_pos w19]), rfl⟩)
      · refine lv_tableIn (off := 96) (tgt := 121) hx hb dX2_refusal_25 (by rw [w20]; decide) (by rw [w20]; decide) (by rw [w20]; rfl) (by decide) ?_
        refine lv_aload_n hx hb dX2_refusal_121 rfl (lv_at hl 0 rfl) ?_
        refine lv_aload_n hx hb dX2_refusal_122 rfl (lv_at hl 2 rfl) ?_
        refine g_get C0 G h_st rfl hiX5 1 (by decide) mf_X2_90 rfl dX2_refusal_123 ?_
        refine g_cI C0 G (g_runV C0 G (rest := []) (c_X0_canComeIn hfl nu h_ij0 h_t1j0 h_a1j0) h_ij0 rfl hY_X0_canComeIn mm_X2_106 mi_X0_canComeIn ml_X0_canComeIn ⟨(Nat.le_of_ble_eq_true rfl), (Nat.le_of_ble_eq_true rfl)⟩ rfl hl.1 rfl (Nat.le_of_ble_eq_true rfl) dX2_refusal_126 ⟨(Nat.le_of_ble_eq_true rfl), (Nat.le_of_ble_eq_true rfl)⟩) (kx_no rfl) (fun r45 u44 H locs hp43 G => ?_)
        obtain ⟨er46, eu44⟩ := hp43
        rw [eu44] at G
        refine lv_topv (v := (X0_canComeIn_x1 g1 nu)) er46 ?_
        have J49 : ∀ (y48 : Int32) (_ : y48 = nI (X2_refusal01_n2 g1 nu)) (H : Heap) (locs : List Loc) (ls : Array Slot), hG D (hA f sz) f s9 H locs → lv_has ls 3 [(2, .ref (A (b + 2))), (0, .ref (A (b + 0))), (1, .ref st)] → W p9 l e9 ({ frames := 3, cells := 0, slots := 0, locals := 67 } : Room) s9 m9 ([.ref (A (b + 0)), .ref st] : List Value).toArray b9 t9 c9 H locs 0 0 (vx_MQ b9 (hQi (fun r u => r = (X2_refusal01_r4 ex ov g1 g2 lm lf oc bw bb hbg ty nu wy kd ru so sc) ∧ u = f) D f sz) (hPx hNo D f sz) ([.ref (A (b + 0)), .ref st] : List Value).toArray s9 0 0 (hA f sz)) (F0 m9 137 ls [.int y48]) := by
          intro y48 ey48 H locs ls G hl
          replace ey48 := Eq.symm ey48
          subst ey48
          have bd51 : (X2_refusal01_n2 g1 nu) ≤ 5 := by unfold X2_refusal01_n2; repeat (first | omega | split)
          exact g_iret C0 G hr dX2_refusal_137 (Nat.le_of_ble_eq_true rfl) (Nat.le_of_ble_eq_true rfl) (by exact ⟨(by rw [X2_refusal01_r4, if_neg c11, if_pos c12, if_neg nw16, if_neg nw17, if_neg nw18, if_neg nw19, if_pos w20]), rfl⟩)
        refine lv_if_eq (tgt := 136) hx hb dX2_refusal_129 (by decide) (fun c47 => ?_) (fun c47 => ?_)
        · refine lv_iconst (v := 5) hx hb dX2_refusal_136 (by decide) ?_
          exact J49 5 (by rw [X2_refusal01_n2, if_pos c47] <;> rfl) _ _ _ G (lv_sub hl [0, 1, 2] rfl)
        · refine lv_iconst (v := 0) hx hb dX2_refusal_132 (by decide) ?_
          refine lv_goto (tgt := 137) hx hb dX2_refusal_133 (by decide) ?_
          exact J49 0 (by rw [X2_refusal01_n2, if_neg c47] <;> rfl) _ _ _ G (lv_sub hl [0, 1, 2] rfl)
      · refine lv_tableIn (off := 138) (tgt := 163) hx hb dX2_refusal_25 (by rw [w21]; decide) (by rw [w21]; decide) (by rw [w21]; rfl) (by decide) ?_
        refine lv_iconst (v := 0) hx hb dX2_refusal_163 (by decide) ?_
        exact g_iret C0 G hr dX2_refusal_164 (Nat.le_of_ble_eq_true rfl) (Nat.le_of_ble_eq_true rfl) (by exact ⟨(by rw [X2_refusal01_r4, if_neg c11, if_pos c12, if_neg nw16, if_neg nw17, if_neg nw18, if_neg nw19, if_neg nw20, if_pos w21]), rfl⟩)
      · refine lv_tableIn (off := 113) (tgt := 138) hx hb dX2_refusal_25 (by rw [w22]; decide) (by rw [w22]; decide) (by rw [w22]; rfl) (by decide) ?_
        refine lv_aload_n hx hb dX2_refusal_138 rfl (lv_at hl 1 rfl) ?_
        refine g_cI C0 G (g_runV C0 G (rest := []) (c_X2_hasResources hfl (A := A) (b := b) (ex := ex) (ov := ov) (ie := 1) (fi := fi) (nu := 0) (q := q) h_mt h_al hAj hq0 hq1 hq2 hq3) h_mt rfl hY_X2_hasResources mm_X2_50 mi_X2_hasResources ml_X2_hasResources ⟨(Nat.le_of_ble_eq_true rfl), (Nat.le_of_ble_eq_true rfl)⟩ rfl hl.1 rfl (Nat.le_of_ble_eq_true rfl) dX2_refusal_139 ⟨(Nat.le_of_ble_eq_true rfl), (Nat.le_of_ble_eq_true rfl)⟩) (kx_no rfl) (fun r54 u53 H locs hp52 G => ?_)
        obtain ⟨er55, eu53⟩ := hp52
        rw [eu53] at G
        refine lv_topv (v := (X2_hasResources_x0 1)) er55 ?_
        refine lv_topv (v := 1) (by decide) ?_
        refine lv_if_eq (tgt := 160) hx hb dX2_refusal_142 (by decide) (fun c56 => absurd c56 (by decide)) (fun _ => ?_)
        refine lv_aload_n hx hb dX2_refusal_145 rfl (lv_at hl 0 rfl) ?_
        refine lv_aload_n hx hb dX2_refusal_146 rfl (lv_at hl 2 rfl) ?_
        refine g_get C0 G h_st rfl hiX5 1 (by decide) mf_X2_90 rfl dX2_refusal_147 ?_
        refine g_cI C0 G (g_runV C0 G (rest := []) (c_X0_canLose hfl nu h_ij0 h_oj0) h_ij0 rfl hY_X0_canLose mm_X2_110 mi_X0_canLose ml_X0_canLose ⟨(Nat.le_of_ble_eq_true rfl), (Nat.le_of_ble_eq_true rfl)⟩ rfl hl.1 rfl (Nat.le_of_ble_eq_true rfl) dX2_refusal_150 ⟨(Nat.le_of_ble_eq_true rfl), (Nat.le_of_ble_eq_true rfl)⟩) (kx_no rfl) (fun r59 u58 H locs hp57 G => ?_)
        obtain ⟨er60, eu58⟩ := hp57
        rw [eu58] at G
        refine lv_topv (v := (X0_canLose_x0 lm oc hbg nu)) er60 ?_
        have J63 : ∀ (y62 : Int32) (_ : y62 = nI (X2_refusal01_n3 lm oc hbg nu)) (H : Heap) (locs : List Loc) (ls : Array Slot), hG D (hA f sz) f s9 H locs → lv_has ls 3 [(2, .ref (A (b + 2))), (0, .ref (A (b + 0))), (1, .ref st)] → W p9 l e9 ({ frames := 3, cells := 0, slots := 0, locals := 67 } : Room) s9 m9 ([.ref (A (b + 0)), .ref st] : List Value).toArray b9 t9 c9 H locs 0 0 (vx_MQ b9 (hQi (fun r u => r = (X2_refusal01_r4 ex ov g1 g2 lm lf oc bw bb hbg ty nu wy kd ru so sc) ∧ u = f) D f sz) (hPx hNo D f sz) ([.ref (A (b + 0)), .ref st] : List Value).toArray s9 0 0 (hA f sz)) (F0 m9 162 ls [.int y62]) := by
          intro y62 ey62 H locs ls G hl
          replace ey62 := Eq.symm ey62
          subst ey62
          have bd65 : (X2_refusal01_n3 lm oc hbg nu) ≤ 8 := by unfold X2_refusal01_n3; repeat (first | omega | split)
          exact g_iret C0 G hr dX2_refusal_162 (Nat.le_of_ble_eq_true rfl) (Nat.le_of_ble_eq_true rfl) (by exact ⟨(by rw [X2_refusal01_r4, if_neg c11, if_pos c12, if_neg nw16, if_neg nw17, if_neg nw18, if_neg nw19, if_neg nw20, if_neg nw21, if_pos w22]), rfl⟩)
        refine lv_if_eq (tgt := 160) hx hb dX2_refusal_153 (by decide) (fun c61 => ?_) (fun c61 => ?_)
        · refine lv_bipush (v := 8) hx hb dX2_refusal_160 (by decide) ?_
          exact J63 8 (by rw [X2_refusal01_n3, if_pos c61] <;> rfl) _ _ _ G (lv_sub hl [0, 1, 2] rfl)
        · refine lv_iconst (v := 0) hx hb dX2_refusal_156 (by decide) ?_
          refine lv_goto (tgt := 162) hx hb dX2_refusal_157 (by decide) ?_
          exact J63 0 (by rw [X2_refusal01_n3, if_neg c61] <;> rfl) _ _ _ G (lv_sub hl [0, 1, 2] rfl)
      · have q66 : ty.toInt < 1 ∨ 7 < ty.toInt := by
          have tw16 : ty.toInt ≠ 1 := fun z => nw16 (Int32.toInt_inj.mp z)
          have tw17 : ty.toInt ≠ 2 := fun z => nw17 (Int32.toInt_inj.mp z)
          have tw18 : ty.toInt ≠ 3 := fun z => nw18 (Int32.toInt_inj.mp z)
          have tw19 : ty.toInt ≠ 4 := fun z => nw19 (Int32.toInt_inj.mp z)
          have tw20 : ty.toInt ≠ 5 := fun z => nw20 (Int32.toInt_inj.mp z)
          have tw21 : ty.toInt ≠ 6 := fun z => nw21 (Int32.toInt_inj.mp z)
          have tw22 : ty.toInt ≠ 7 := fun z => nw22 (Int32.toInt_inj.mp z)
          omega
        refine lv_tableOut (tgt := 163) hx hb dX2_refusal_25 q66 (by decide) ?_
        refine lv_iconst (v := 0) hx hb dX2_refusal_163 (by decide) ?_
        exact g_iret C0 G hr dX2_refusal_164 (Nat.le_of_ble_eq_true rfl) (Nat.le_of_ble_eq_true rfl) (by exact ⟨(by rw [X2_refusal01_r4, if_neg c11, if_pos c12, if_neg nw16, if_neg nw17, if_neg nw18, if_neg nw19, if_neg nw20, if_neg nw21, if_neg nw22]), rfl⟩)
    · refine lv_iconst (v := 1) hx hb dX2_refusal_14 (by decide) ?_
      exact g_iret C0 G hr dX2_refusal_15 (Nat.le_of_ble_eq_true rfl) (Nat.le_of_ble_eq_true rfl) (by exact ⟨(by rw [X2_refusal01_r4, if_neg c11, if_neg c12]), rfl⟩)
def X2_dueEnd01_x0 (nc : Int32) (lm : Int32) (oc : Int32) (dl : Int32) : Int32 := if dl = 0 then (X0_ending_r1 lm oc nc) else 3
set_option maxRecDepth 100000 in
theorem c_X2_dueEnd01 {l : Launch} (hfl : l.stackTraces = false) {D : va_G} {cy : Nat → ClassId} {f : Hf} {sz : Nat} {A : Nat → Nat} {b : Nat} {ex : Int32} {ov : Int32} {fi : Int32} {q : Nat → Option Nat} {rs : Int32} {sk : Int32} {ot : Int32} {ch : Int32} {nc : Int32} {g0 : Nat → Int32} {lm : Int32} {lf : Int32} {oc : Int32} {bw : Int32} {bb : Int32} {bl : Int32} {cd : Int32} {hbg : Int32} {go : Nat → Int32} (dl : Int32) (h_mt : f (A (b + 0)) = some (.inr (4, [.ref (A (b + 1)), .int ex, .int ov, .int 1, .int fi, .int 0]))) (h_al : f (A (b + 1)) = some (.inl (cy 3, 4, .inr (.inr (.inr (.inr q)))))) (h_ij0 : f (A (b + 2)) = some (.inr (2, [.ref (A (b + 3)), .ref (A (b + 5)), .ref (A (b + 7)), .ref (A (b + 9)), .ref (A (b + 11)), .ref (A (b + 13)), .int rs, .int sk, .int ot, .int ch, .int nc]))) (h_t0j0 : f (A (b + 3)) = some (.inr (8, [.int 8, .ref (A (b + 4)), .int 1]))) (h_a0j0 : f (A (b + 4)) = some (.inl (cy 0, 8, .inl g0))) (h_oj0 : f (A (b + 13)) = some (.inr (5, [.ref (A (b + 14)), .int lm, .int lf, .int oc, .int bw, .int bb, .int bl, .int cd, .int hbg]))) (h_oaj0 : f (A (b + 14)) = some (.inl (cy 0, 20, .inl go))) (hAj : ∀ i j : Nat, i ≠ j → A i ≠ A j) (hq0 : q 0 = some (A (b + 2))) (hq1 : q 1 = some (A (b + 15))) (hq2 : q 2 = some (A (b + 28))) (hq3 : q 3 = some (A (b + 41))) : hMet l yX2_dueEnd cX2_dueEnd 3 (some .int) { frames := 3, cells := 0, slots := 0, locals := 56 } D (hTy cy) f sz [.ref (A (b + 0)), .int dl] (hQi (fun r u => r = (X2_dueEnd01_x0 nc lm oc dl) ∧ u = f) D f sz) hNo := by
  refine h_enter (by decide) hfl (Nat.le_of_ble_eq_true rfl) ?_
  intro p9 e9 s9 m9 b9 t9 c9 hsz C0 hr hnm G ls hl
  have hx := C0.1.1
  have hb := C0.1.2.1
  have hl : lv_has ls 3 [(0, .ref (A (b + 0))), (1, .int dl)] := hl
  refine lv_aload_n hx hb dX2_dueEnd_0 rfl (lv_at hl 0 rfl) ?_
  refine g_cR C0 G (g_runV C0 G (rest := []) (c_X2_present0 hfl (A := A) (b := b) (ex := ex) (ov := ov) (ie := 1) (fi := fi) (q := q) h_mt h_al hAj hq0 hq1 hq2 hq3) h_mt rfl hY_X2_present mm_X2_43 mi_X2_present ml_X2_present ⟨(Nat.le_of_ble_eq_true rfl), (Nat.le_of_ble_eq_true rfl)⟩ rfl hl.1 rfl (Nat.le_of_ble_eq_true rfl) dX2_dueEnd_1 ⟨(Nat.le_of_ble_eq_true rfl), (Nat.le_of_ble_eq_true rfl)⟩) (kx_no rfl) (fun a13 u12 H locs hp11 G => ?_)
  obtain ⟨zr, eu12⟩ := hp11
  replace zr := Eq.symm zr
  subst zr
  rw [eu12] at G
  refine lv_astore_n (lv' := [(2, .ref (A (b + 2))), (0, .ref (A (b + 0))), (1, .int dl)]) hx hb dX2_dueEnd_4 rfl hl (by decide) rfl (fun ls hl => ?_)
  refine lv_aload_n hx hb dX2_dueEnd_5 rfl (lv_at hl 1 rfl) ?_
  refine g_cI C0 G (g_runV C0 G (rest := []) (c_X2_isLastPlayed hfl (A := A) (b := b) (ex := ex) (ov := ov) (ie := 1) (fi := fi) (nu := 0) (q := q) h_mt h_al hAj hq0 hq1 hq2 hq3) h_mt rfl hY_X2_isLastPlayed mm_X2_145 mi_X2_isLastPlayed ml_X2_isLastPlayed ⟨(Nat.le_of_ble_eq_true rfl), (Nat.le_of_ble_eq_true rfl)⟩ rfl hl.1 rfl (Nat.le_of_ble_eq_true rfl) dX2_dueEnd_6 ⟨(Nat.le_of_ble_eq_true rfl), (Nat.le_of_ble_eq_true rfl)⟩) (kx_no rfl) (fun r16 u15 H locs hp14 G => ?_)
  obtain ⟨er17, eu15⟩ := hp14
  rw [eu15] at G
  refine lv_topv (v := (X2_isLastPlayed_x0 1 0)) er17 ?_
  refine lv_topv (v := 0) (by decide) ?_
  refine lv_if_eq (tgt := 26) hx hb dX2_dueEnd_9 (by decide) (fun _ => ?_) (fun c18 => absurd (by decide) c18)
  refine lv_iload_n hx hb dX2_dueEnd_26 rfl (lv_at hl 2 rfl) ?_
  have J21 : ∀ (y20 : Int32) (_ : y20 = (X2_dueEnd01_x0 nc lm oc dl)) (H : Heap) (locs : List Loc) (ls : Array Slot), hG D (hA f sz) f s9 H locs → lv_has ls 3 [(2, .ref (A (b + 2))), (0, .ref (A (b + 0))), (1, .int dl)] → W p9 l e9 ({ frames := 3, cells := 0, slots := 0, locals := 56 } : Room) s9 m9 ([.ref (A (b + 0)), .int dl] : List Value).toArray b9 t9 c9 H locs 0 0 (vx_MQ b9 (hQi (fun r u => r = (X2_dueEnd01_x0 nc lm oc dl) ∧ u = f) D f sz) (hPx hNo D f sz) ([.ref (A (b + 0)), .int dl] : List Value).toArray s9 0 0 (hA f sz)) (F0 m9 38 ls [.int y20]) := by
    intro y20 ey20 H locs ls G hl
    replace ey20 := Eq.symm ey20
    subst ey20
    exact g_iret C0 G hr dX2_dueEnd_38 (Nat.le_of_ble_eq_true rfl) (Nat.le_of_ble_eq_true rfl) (by exact ⟨rfl, rfl⟩)
  refine lv_if_eq (tgt := 34) hx hb dX2_dueEnd_27 (by decide) (fun c19 => ?_) (fun c19 => ?_)
  · refine lv_aload_n hx hb dX2_dueEnd_34 rfl (lv_at hl 0 rfl) ?_
    refine g_cI C0 G (g_runV C0 G (rest := []) (c_X0_ending hfl h_ij0 h_oj0) h_ij0 rfl hY_X0_ending mm_X2_151 mi_X0_ending ml_X0_ending ⟨(Nat.le_of_ble_eq_true rfl), (Nat.le_of_ble_eq_true rfl)⟩ rfl hl.1 rfl (Nat.le_of_ble_eq_true rfl) dX2_dueEnd_35 ⟨(Nat.le_of_ble_eq_true rfl), (Nat.le_of_ble_eq_true rfl)⟩) (kx_no rfl) (fun r25 u24 H locs hp23 G => ?_)
    obtain ⟨er26, eu24⟩ := hp23
    rw [eu24] at G
    refine lv_topv (v := (X0_ending_r1 lm oc nc)) er26 ?_
    exact J21 (X0_ending_r1 lm oc nc) (by rw [X2_dueEnd01_x0, if_pos c19]) _ _ _ G (lv_sub hl [0, 1, 2] rfl)
  · refine lv_iconst (v := 3) hx hb dX2_dueEnd_30 (by decide) ?_
    refine lv_goto (tgt := 38) hx hb dX2_dueEnd_31 (by decide) ?_
    exact J21 3 (by rw [X2_dueEnd01_x0, if_neg c19]) _ _ _ G (lv_sub hl [0, 1, 2] rfl)
def X2_goOn01_g0 (g0_n : Nat → Int32) : Nat → Int32 := (X0_start_g12 g0_n)
def X2_goOn01_g1 (g1_n : Nat → Int32) : Nat → Int32 := (X0_start_g10 g1_n)
def X2_goOn01_g2 (g2_n : Nat → Int32) : Nat → Int32 := (X0_start_g13 g2_n)
def X2_goOn01_g3 (g3_n : Nat → Int32) : Nat → Int32 := (X0_start_g14 g3_n)
def X2_goOn01_g4 (g4_n : Nat → Int32) : Nat → Int32 := (X0_start_g15 g4_n)
set_option maxRecDepth 100000 in
theorem c_X2_goOn01 {l : Launch} (hfl : l.stackTraces = false) {D : va_G} {cy : Nat → ClassId} {f : Hf} {sz : Nat} {A : Nat → Nat} {b : Nat} {ex : Int32} {ov : Int32} {fi : Int32} {q : Nat → Option Nat} {rs : Int32} {sk : Int32} {ot : Int32} {ch : Int32} {nc : Int32} {g0 : Nat → Int32} {lm : Int32} {lf : Int32} {oc : Int32} {bw : Int32} {bb : Int32} {bl : Int32} {cd : Int32} {hbg : Int32} {go : Nat → Int32} {rs_n : Int32} {sk_n : Int32} {ot_n : Int32} {ch_n : Int32} {nc_n : Int32} {r0_n : Int32} {g0_n : Nat → Int32} {r1_n : Int32} {g1_n : Nat → Int32} {r2_n : Int32} {g2_n : Nat → Int32} {r3_n : Int32} {g3_n : Nat → Int32} {r4_n : Int32} {g4_n : Nat → Int32} {lm_n : Int32} {lf_n : Int32} {oc_n : Int32} {bw_n : Int32} {bb_n : Int32} {bl_n : Int32} {cd_n : Int32} {hbg_n : Int32} {go_n : Nat → Int32} (h_mt : f (A (b + 0)) = some (.inr (4, [.ref (A (b + 1)), .int ex, .int ov, .int 1, .int fi, .int 0]))) (h_al : f (A (b + 1)) = some (.inl (cy 3, 4, .inr (.inr (.inr (.inr q)))))) (h_ij0 : f (A (b + 2)) = some (.inr (2, [.ref (A (b + 3)), .ref (A (b + 5)), .ref (A (b + 7)), .ref (A (b + 9)), .ref (A (b + 11)), .ref (A (b + 13)), .int rs, .int sk, .int ot, .int ch, .int nc]))) (h_t0j0 : f (A (b + 3)) = some (.inr (8, [.int 8, .ref (A (b + 4)), .int 1]))) (h_a0j0 : f (A (b + 4)) = some (.inl (cy 0, 8, .inl g0))) (h_oj0 : f (A (b + 13)) = some (.inr (5, [.ref (A (b + 14)), .int lm, .int lf, .int oc, .int bw, .int bb, .int bl, .int cd, .int hbg]))) (h_oaj0 : f (A (b + 14)) = some (.inl (cy 0, 20, .inl go))) (h_ij1 : f (A (b + 15)) = some (.inr (2, [.ref (A (b + 16)), .ref (A (b + 18)), .ref (A (b + 20)), .ref (A (b + 22)), .ref (A (b + 24)), .ref (A (b + 26)), .int rs_n, .int sk_n, .int ot_n, .int ch_n, .int nc_n]))) (h_t0j1 : f (A (b + 16)) = some (.inr (8, [.int 8, .ref (A (b + 17)), .int r0_n]))) (h_a0j1 : f (A (b + 17)) = some (.inl (cy 0, 8, .inl g0_n))) (h_t1j1 : f (A (b + 18)) = some (.inr (8, [.int 6, .ref (A (b + 19)), .int r1_n]))) (h_a1j1 : f (A (b + 19)) = some (.inl (cy 0, 66, .inl g1_n))) (h_t2j1 : f (A (b + 20)) = some (.inr (8, [.int 7, .ref (A (b + 21)), .int r2_n]))) (h_a2j1 : f (A (b + 21)) = some (.inl (cy 0, 77, .inl g2_n))) (h_t3j1 : f (A (b + 22)) = some (.inr (8, [.int 8, .ref (A (b + 23)), .int r3_n]))) (h_a3j1 : f (A (b + 23)) = some (.inl (cy 0, 4104, .inl g3_n))) (h_t4j1 : f (A (b + 24)) = some (.inr (8, [.int 3, .ref (A (b + 25)), .int r4_n]))) (h_a4j1 : f (A (b + 25)) = some (.inl (cy 0, 33, .inl g4_n))) (h_oj1 : f (A (b + 26)) = some (.inr (5, [.ref (A (b + 27)), .int lm_n, .int lf_n, .int oc_n, .int bw_n, .int bb_n, .int bl_n, .int cd_n, .int hbg_n]))) (h_oaj1 : f (A (b + 27)) = some (.inl (cy 0, 20, .inl go_n))) (hAj : ∀ i j : Nat, i ≠ j → A i ≠ A j) (hq0 : q 0 = some (A (b + 2))) (hq1 : q 1 = some (A (b + 15))) (hq2 : q 2 = some (A (b + 28))) (hq3 : q 3 = some (A (b + 41))) : hMet l yX2_goOn cX2_goOn 3 none { frames := 3, cells := 0, slots := 0, locals := 69 } D (hTy cy) f sz [.ref (A (b + 0))] (hQv (fun u => u (A (b + 0)) = some (.inr (4, [.ref (A (b + 1)), .int ex, .int ov, .int 1, .int fi, .int 1])) ∧ u (A (b + 16)) = some (.inr (8, [.int 8, .ref (A (b + 17)), .int 1])) ∧ u (A (b + 17)) = some (.inl (cy 0, 8, .inl (X2_goOn01_g0 g0_n))) ∧ u (A (b + 18)) = some (.inr (8, [.int 6, .ref (A (b + 19)), .int 11])) ∧ u (A (b + 19)) = some (.inl (cy 0, 66, .inl (X2_goOn01_g1 g1_n))) ∧ u (A (b + 20)) = some (.inr (8, [.int 7, .ref (A (b + 21)), .int 11])) ∧ u (A (b + 21)) = some (.inl (cy 0, 77, .inl (X2_goOn01_g2 g2_n))) ∧ u (A (b + 22)) = some (.inr (8, [.int 8, .ref (A (b + 23)), .int 1])) ∧ u (A (b + 23)) = some (.inl (cy 0, 4104, .inl (X2_goOn01_g3 g3_n))) ∧ u (A (b + 24)) = some (.inr (8, [.int 3, .ref (A (b + 25)), .int 0])) ∧ u (A (b + 25)) = some (.inl (cy 0, 33, .inl (X2_goOn01_g4 g4_n))) ∧ u (A (b + 26)) = some (.inr (5, [.ref (A (b + 27)), .int lm, .int lm, .int 0, .int (-1), .int (-1), .int 0, .int 0, .int 0])) ∧ u (A (b + 15)) = some (.inr (2, [.ref (A (b + 16)), .ref (A (b + 18)), .ref (A (b + 20)), .ref (A (b + 22)), .ref (A (b + 24)), .ref (A (b + 26)), .int (X0_start_x11 g0_n lm 1), .int 0, .int 1, .int (-1), .int 0])) ∧ hFrL f u [(A (b + 0)), (A (b + 16)), (A (b + 17)), (A (b + 18)), (A (b + 19)), (A (b + 20)), (A (b + 21)), (A (b + 22)), (A (b + 23)), (A (b + 24)), (A (b + 25)), (A (b + 26)), (A (b + 15))]) D f sz) hNo := by
  refine h_enter (by decide) hfl (Nat.le_of_ble_eq_true rfl) ?_
  intro p9 e9 s9 m9 b9 t9 c9 hsz C0 hr hnm G ls hl
  have hx := C0.1.1
  have hb := C0.1.2.1
  have hl : lv_has ls 3 [(0, .ref (A (b + 0)))] := hl
  refine lv_aload_n hx hb dX2_goOn_0 rfl (lv_at hl 0 rfl) ?_
  refine g_get C0 G h_mt rfl hiX2 5 (by decide) mf_X2_31 rfl dX2_goOn_1 ?_
  refine lv_iconst (v := 1) hx hb dX2_goOn_4 (by decide) ?_
  refine lv_iadd hx hb dX2_goOn_5 ?_
  refine lv_topv (v := 1) (by decide) ?_
  refine lv_aload_n hx hb dX2_goOn_6 rfl (lv_at hl 0 rfl) ?_
  refine g_cI C0 G (g_runV C0 G (rest := [.int 1]) (c_X2_lastNumber hfl (A := A) (b := b) (ex := ex) (ov := ov) (ie := 1) (fi := fi) (nu := 0) (q := q) h_mt h_al hAj hq0 hq1 hq2 hq3) h_mt rfl hY_X2_lastNumber mm_X2_81 mi_X2_lastNumber ml_X2_lastNumber ⟨(Nat.le_of_ble_eq_true rfl), (Nat.le_of_ble_eq_true rfl)⟩ rfl hl.1 rfl (Nat.le_of_ble_eq_true rfl) dX2_goOn_7 ⟨(Nat.le_of_ble_eq_true rfl), (Nat.le_of_ble_eq_true rfl)⟩) (kx_no rfl) (fun r13 u12 H locs hp11 G => ?_)
  obtain ⟨er14, eu12⟩ := hp11
  rw [eu12] at G
  refine lv_topv (v := (X2_lastNumber_r0 1)) er14 ?_
  refine lv_topv (v := 1) (by decide) ?_
  refine lv_icmp_ne (tgt := 17) hx hb dX2_goOn_10 (by decide) (fun c15 => absurd (by decide) c15) (fun _ => ?_)
  refine lv_iconst (v := 1) hx hb dX2_goOn_13 (by decide) ?_
  refine lv_goto (tgt := 18) hx hb dX2_goOn_14 (by decide) ?_
  refine lv_istore_n (lv' := [(1, .int 1), (0, .ref (A (b + 0)))]) hx hb dX2_goOn_18 rfl hl (by decide) rfl (fun ls hl => ?_)
  refine lv_aload_n hx hb dX2_goOn_19 rfl (lv_at hl 1 rfl) ?_
  refine g_cI C0 G (g_runV C0 G (rest := []) (c_X2_isLastPlayed hfl (A := A) (b := b) (ex := ex) (ov := ov) (ie := 1) (fi := fi) (nu := 0) (q := q) h_mt h_al hAj hq0 hq1 hq2 hq3) h_mt rfl hY_X2_isLastPlayed mm_X2_145 mi_X2_isLastPlayed ml_X2_isLastPlayed ⟨(Nat.le_of_ble_eq_true rfl), (Nat.le_of_ble_eq_true rfl)⟩ rfl hl.1 rfl (Nat.le_of_ble_eq_true rfl) dX2_goOn_20 ⟨(Nat.le_of_ble_eq_true rfl), (Nat.le_of_ble_eq_true rfl)⟩) (kx_no rfl) (fun r18 u17 H locs hp16 G => ?_)
  obtain ⟨er19, eu17⟩ := hp16
  rw [eu17] at G
  refine lv_topv (v := (X2_isLastPlayed_x0 1 0)) er19 ?_
  refine lv_topv (v := 0) (by decide) ?_
  refine lv_if_ne (tgt := 44) hx hb dX2_goOn_23 (by decide) (fun c20 => absurd (by decide) c20) (fun _ => ?_)
  refine lv_iload_n hx hb dX2_goOn_26 rfl (lv_at hl 0 rfl) ?_
  refine lv_if_eq (tgt := 50) hx hb dX2_goOn_27 (by decide) (fun c21 => absurd c21 (by decide)) (fun _ => ?_)
  refine lv_aload_n hx hb dX2_goOn_30 rfl (lv_at hl 1 rfl) ?_
  refine g_cI C0 G (g_runV C0 G (rest := []) (c_X2_hasResources hfl (A := A) (b := b) (ex := ex) (ov := ov) (ie := 1) (fi := fi) (nu := 0) (q := q) h_mt h_al hAj hq0 hq1 hq2 hq3) h_mt rfl hY_X2_hasResources mm_X2_50 mi_X2_hasResources ml_X2_hasResources ⟨(Nat.le_of_ble_eq_true rfl), (Nat.le_of_ble_eq_true rfl)⟩ rfl hl.1 rfl (Nat.le_of_ble_eq_true rfl) dX2_goOn_31 ⟨(Nat.le_of_ble_eq_true rfl), (Nat.le_of_ble_eq_true rfl)⟩) (kx_no rfl) (fun r24 u23 H locs hp22 G => ?_)
  obtain ⟨er25, eu23⟩ := hp22
  rw [eu23] at G
  refine lv_topv (v := (X2_hasResources_x0 1)) er25 ?_
  refine lv_topv (v := 1) (by decide) ?_
  refine lv_if_ne (tgt := 50) hx hb dX2_goOn_34 (by decide) (fun _ => ?_) (fun c26 => absurd c26 (by decide))
  refine lv_aload_n hx hb dX2_goOn_50 rfl (lv_at hl 1 rfl) ?_
  refine g_cR C0 G (g_runV C0 G (rest := []) (c_X2_present0 hfl (A := A) (b := b) (ex := ex) (ov := ov) (ie := 1) (fi := fi) (q := q) h_mt h_al hAj hq0 hq1 hq2 hq3) h_mt rfl hY_X2_present mm_X2_43 mi_X2_present ml_X2_present ⟨(Nat.le_of_ble_eq_true rfl), (Nat.le_of_ble_eq_true rfl)⟩ rfl hl.1 rfl (Nat.le_of_ble_eq_true rfl) dX2_goOn_51 ⟨(Nat.le_of_ble_eq_true rfl), (Nat.le_of_ble_eq_true rfl)⟩) (kx_no rfl) (fun a29 u28 H locs hp27 G => ?_)
  obtain ⟨zr, eu28⟩ := hp27
  replace zr := Eq.symm zr
  subst zr
  rw [eu28] at G
  refine g_get C0 G h_ij0 rfl hiX0 5 (by decide) mf_X2_95 rfl dX2_goOn_54 ?_
  refine g_get C0 G h_oj0 rfl hiX3 1 (by decide) mf_X2_154 rfl dX2_goOn_57 ?_
  refine lv_istore_n (lv' := [(2, .int lm), (1, .int 1), (0, .ref (A (b + 0)))]) hx hb dX2_goOn_60 rfl hl (by decide) rfl (fun ls hl => ?_)
  refine lv_aload_n hx hb dX2_goOn_61 rfl (lv_at hl 2 rfl) ?_
  refine lv_dup hx hb dX2_goOn_62 rfl ?_
  refine g_get C0 G h_mt rfl hiX2 5 (by decide) mf_X2_31 rfl dX2_goOn_63 ?_
  refine lv_iconst (v := 1) hx hb dX2_goOn_66 (by decide) ?_
  refine lv_iadd hx hb dX2_goOn_67 ?_
  refine lv_topv (v := 1) (by decide) ?_
  refine g_put C0 G h_mt rfl hiX2 tyX2 tyX2_ok nmX2 5 (by decide) mf_X2_31 rfl rfl rfl rfl (Nat.le_of_ble_eq_true rfl) dX2_goOn_68 (fun H locs f30 hf30 G => ?_)
  have k31 : f30 (A (b + 0)) = some (.inr (4, [.ref (A (b + 1)), .int ex, .int ov, .int 1, .int fi, .int 1])) := hus hf30
  refine lv_aload_n hx hb dX2_goOn_71 rfl (lv_at hl 2 rfl) ?_
  have k32 : f30 (A (b + 1)) = some (.inl (cy 3, 4, .inr (.inr (.inr (.inr q))))) := hup hf30 (hAj _ _ (by omega)) h_al
  refine g_cR C0 G (g_runV C0 G (rest := []) (c_X2_present1 hfl (A := A) (b := b) (ex := ex) (ov := ov) (ie := 1) (fi := fi) (q := q) k31 k32 hAj hq0 hq1 hq2 hq3) k31 rfl hY_X2_present mm_X2_43 mi_X2_present ml_X2_present ⟨(Nat.le_of_ble_eq_true rfl), (Nat.le_of_ble_eq_true rfl)⟩ rfl hl.1 rfl (Nat.le_of_ble_eq_true rfl) dX2_goOn_72 ⟨(Nat.le_of_ble_eq_true rfl), (Nat.le_of_ble_eq_true rfl)⟩) (kx_no rfl) (fun a35 u34 H locs hp33 G => ?_)
  obtain ⟨zr, eu34⟩ := hp33
  replace zr := Eq.symm zr
  subst zr
  rw [eu34] at G
  refine lv_iload_n hx hb dX2_goOn_75 rfl (lv_at hl 0 rfl) ?_
  refine lv_aload_n hx hb dX2_goOn_76 rfl (lv_at hl 2 rfl) ?_
  refine g_cI C0 G (g_runV C0 G (rest := [.int lm, .ref (A (b + 15))]) (c_X2_hasResources hfl (A := A) (b := b) (ex := ex) (ov := ov) (ie := 1) (fi := fi) (nu := 1) (q := q) k31 k32 hAj hq0 hq1 hq2 hq3) k31 rfl hY_X2_hasResources mm_X2_50 mi_X2_hasResources ml_X2_hasResources ⟨(Nat.le_of_ble_eq_true rfl), (Nat.le_of_ble_eq_true rfl)⟩ rfl hl.1 rfl (Nat.le_of_ble_eq_true rfl) dX2_goOn_77 ⟨(Nat.le_of_ble_eq_true rfl), (Nat.le_of_ble_eq_true rfl)⟩) (kx_no rfl) (fun r38 u37 H locs hp36 G => ?_)
  obtain ⟨er39, eu37⟩ := hp36
  rw [eu37] at G
  refine lv_topv (v := (X2_hasResources_x0 1)) er39 ?_
  refine lv_topv (v := 1) (by decide) ?_
  have k40 : f30 (A (b + 15)) = some (.inr (2, [.ref (A (b + 16)), .ref (A (b + 18)), .ref (A (b + 20)), .ref (A (b + 22)), .ref (A (b + 24)), .ref (A (b + 26)), .int rs_n, .int sk_n, .int ot_n, .int ch_n, .int nc_n])) := hup hf30 (hAj _ _ (by omega)) h_ij1
  have k41 : f30 (A (b + 16)) = some (.inr (8, [.int 8, .ref (A (b + 17)), .int r0_n])) := hup hf30 (hAj _ _ (by omega)) h_t0j1
  have k42 : f30 (A (b + 17)) = some (.inl (cy 0, 8, .inl g0_n)) := hup hf30 (hAj _ _ (by omega)) h_a0j1
  have k43 : f30 (A (b + 18)) = some (.inr (8, [.int 6, .ref (A (b + 19)), .int r1_n])) := hup hf30 (hAj _ _ (by omega)) h_t1j1
  have k44 : f30 (A (b + 19)) = some (.inl (cy 0, 66, .inl g1_n)) := hup hf30 (hAj _ _ (by omega)) h_a1j1
  have k45 : f30 (A (b + 20)) = some (.inr (8, [.int 7, .ref (A (b + 21)), .int r2_n])) := hup hf30 (hAj _ _ (by omega)) h_t2j1
  have k46 : f30 (A (b + 21)) = some (.inl (cy 0, 77, .inl g2_n)) := hup hf30 (hAj _ _ (by omega)) h_a2j1
  have k47 : f30 (A (b + 22)) = some (.inr (8, [.int 8, .ref (A (b + 23)), .int r3_n])) := hup hf30 (hAj _ _ (by omega)) h_t3j1
  have k48 : f30 (A (b + 23)) = some (.inl (cy 0, 4104, .inl g3_n)) := hup hf30 (hAj _ _ (by omega)) h_a3j1
  have k49 : f30 (A (b + 24)) = some (.inr (8, [.int 3, .ref (A (b + 25)), .int r4_n])) := hup hf30 (hAj _ _ (by omega)) h_t4j1
  have k50 : f30 (A (b + 25)) = some (.inl (cy 0, 33, .inl g4_n)) := hup hf30 (hAj _ _ (by omega)) h_a4j1
  have k51 : f30 (A (b + 26)) = some (.inr (5, [.ref (A (b + 27)), .int lm_n, .int lf_n, .int oc_n, .int bw_n, .int bb_n, .int bl_n, .int cd_n, .int hbg_n])) := hup hf30 (hAj _ _ (by omega)) h_oj1
  have k52 : f30 (A (b + 27)) = some (.inl (cy 0, 20, .inl go_n)) := hup hf30 (hAj _ _ (by omega)) h_oaj1
  refine g_cV C0 G (g_runV C0 G (rest := []) (c_X0_start hfl lm 1 k40 k41 k42 k43 k44 k45 k46 k47 k48 k49 k50 k51 k52 (hAj _ _ (by omega))) k40 rfl hY_X0_start mm_X2_53 mi_X0_start ml_X0_start ⟨(Nat.le_of_ble_eq_true rfl), (Nat.le_of_ble_eq_true rfl)⟩ rfl hl.1 rfl (Nat.le_of_ble_eq_true rfl) dX2_goOn_80 ⟨(Nat.le_of_ble_eq_true rfl), (Nat.le_of_ble_eq_true rfl)⟩) (kx_no rfl) (fun u54 H locs hp53 G => ?_)
  obtain ⟨k55, k56, k57, k58, k59, k60, k61, k62, k63, k64, k65, k66, fr67⟩ := hp53
  have k68 : u54 (A (b + 0)) = some (.inr (4, [.ref (A (b + 1)), .int ex, .int ov, .int 1, .int fi, .int 1])) := fr67 _ _ (nm_c (hAb hAj rfl) (nm_c (hAb hAj rfl) (nm_c (hAb hAj rfl) (nm_c (hAb hAj rfl) (nm_c (hAb hAj rfl) (nm_c (hAb hAj rfl) (nm_c (hAb hAj rfl) (nm_c (hAb hAj rfl) (nm_c (hAb hAj rfl) (nm_c (hAb hAj rfl) (nm_c (hAb hAj rfl) (nm_c (hAb hAj rfl) nm_0)))))))))))) k31
  exact g_vret C0 G hr dX2_goOn_83 (Nat.le_of_ble_eq_true rfl) (Nat.le_of_ble_eq_true rfl) (by exact ⟨k68, k55, (by rw [(by rw [X2_goOn01_g0] : (X2_goOn01_g0 g0_n) = (X0_start_g12 g0_n))]; exact k56), k57, (by rw [(by rw [X2_goOn01_g1] : (X2_goOn01_g1 g1_n) = (X0_start_g10 g1_n))]; exact k58), k59, (by rw [(by rw [X2_goOn01_g2] : (X2_goOn01_g2 g2_n) = (X0_start_g13 g2_n))]; exact k60), k61, (by rw [(by rw [X2_goOn01_g3] : (X2_goOn01_g3 g3_n) = (X0_start_g14 g3_n))]; exact k62), k63, (by rw [(by rw [X2_goOn01_g4] : (X2_goOn01_g4 g4_n) = (X0_start_g15 g4_n))]; exact k64), k65, k66, (fun a9 e9 h7 h8 => fr67 _ _ (fun q => h7 (by simp only [List.mem_cons, List.not_mem_nil, or_false] at q ⊢; first | exact q | (rcases q with q | q | q | q | q | q | q | q | q | q | q | q <;> simp [q]) | omega)) (hup hf30 (fun q => h7 (by rw [q]; simp)) (h8)))⟩)
def X2_refusal11_n0 (bw : Int32) : Nat := if bw = (-1) then 3 else 0
def X2_refusal11_n1 (wy : Int32) (kd : Int32) (ru : Int32) (so : Int32) (sc : Int32) : Nat := if (X5_isPossibleWicket_r8 wy kd ru so sc) = 0 then 6 else 0
def X2_refusal11_n2 (g1 : Nat → Int32) (nu : Int32) : Nat := if (X0_canComeIn_x1 g1 nu) = 0 then 5 else 0
def X2_refusal11_n3 (lm : Int32) (oc : Int32) (hbg : Int32) (nu : Int32) : Nat := if (X0_canLose_x0 lm oc hbg nu) = 0 then 8 else 0
def X2_refusal11_r4 (ex : Int32) (ov : Int32) (g1 : Nat → Int32) (g2 : Nat → Int32) (lm : Int32) (lf : Int32) (oc : Int32) (bw : Int32) (bb : Int32) (hbg : Int32) (ty : Int32) (nu : Int32) (wy : Int32) (kd : Int32) (ru : Int32) (so : Int32) (sc : Int32) : Int32 := if ex = 0 then 1 else (if ov = 0 then (if ty = 1 then (X0_bowlRefusal_r3 g2 lf bw bb nu) else (if ty = 2 then (nI (X2_refusal11_n0 bw)) else (if ty = 3 then (if bw = (-1) then 3 else (nI (X2_refusal11_n1 wy kd ru so sc))) else (if ty = 4 then 0 else (if ty = 5 then (nI (X2_refusal11_n2 g1 nu)) else (if ty = 6 then 0 else (if ty = 7 then (nI (X2_refusal11_n3 lm oc hbg nu)) else 0))))))) else 1)
set_option maxRecDepth 100000 in
theorem c_X2_refusal11 {l : Launch} (hfl : l.stackTraces = false) {D : va_G} {cy : Nat → ClassId} {f : Hf} {sz : Nat} {A : Nat → Nat} {b : Nat} {st : Nat} {ex : Int32} {ov : Int32} {fi : Int32} {q : Nat → Option Nat} {rs : Int32} {sk : Int32} {ot : Int32} {ch : Int32} {nc : Int32} {g1 : Nat → Int32} {g2 : Nat → Int32} {lm : Int32} {lf : Int32} {oc : Int32} {bw : Int32} {bb : Int32} {bl : Int32} {cd : Int32} {hbg : Int32} {go : Nat → Int32} {ty : Int32} {nu : Int32} {wy : Int32} {kd : Int32} {ru : Int32} {so : Int32} {sb : Int32} {sc : Int32} {sh : Int32} (h_mt : f (A (b + 0)) = some (.inr (4, [.ref (A (b + 1)), .int ex, .int ov, .int 1, .int fi, .int 1]))) (h_al : f (A (b + 1)) = some (.inl (cy 3, 4, .inr (.inr (.inr (.inr q)))))) (h_ij1 : f (A (b + 15)) = some (.inr (2, [.ref (A (b + 16)), .ref (A (b + 18)), .ref (A (b + 20)), .ref (A (b + 22)), .ref (A (b + 24)), .ref (A (b + 26)), .int rs, .int sk, .int ot, .int ch, .int nc]))) (h_t1j1 : f (A (b + 18)) = some (.inr (8, [.int 6, .ref (A (b + 19)), .int 11]))) (h_a1j1 : f (A (b + 19)) = some (.inl (cy 0, 66, .inl g1))) (h_t2j1 : f (A (b + 20)) = some (.inr (8, [.int 7, .ref (A (b + 21)), .int 11]))) (h_a2j1 : f (A (b + 21)) = some (.inl (cy 0, 77, .inl g2))) (h_oj1 : f (A (b + 26)) = some (.inr (5, [.ref (A (b + 27)), .int lm, .int lf, .int oc, .int bw, .int bb, .int bl, .int cd, .int hbg]))) (h_oaj1 : f (A (b + 27)) = some (.inl (cy 0, 20, .inl go))) (h_st : f st = some (.inr (7, [.int ty, .int nu, .int wy, .int kd, .int ru, .int so, .int sb, .int sc, .int sh]))) (hAj : ∀ i j : Nat, i ≠ j → A i ≠ A j) (hq0 : q 0 = some (A (b + 2))) (hq1 : q 1 = some (A (b + 15))) (hq2 : q 2 = some (A (b + 28))) (hq3 : q 3 = some (A (b + 41))) : hMet l yX2_refusal cX2_refusal 3 (some .int) { frames := 3, cells := 0, slots := 0, locals := 67 } D (hTy cy) f sz [.ref (A (b + 0)), .ref st] (hQi (fun r u => r = (X2_refusal11_r4 ex ov g1 g2 lm lf oc bw bb hbg ty nu wy kd ru so sc) ∧ u = f) D f sz) hNo := by
  refine h_enter (by decide) hfl (Nat.le_of_ble_eq_true rfl) ?_
  intro p9 e9 s9 m9 b9 t9 c9 hsz C0 hr hnm G ls hl
  have hx := C0.1.1
  have hb := C0.1.2.1
  have hl : lv_has ls 3 [(0, .ref (A (b + 0))), (1, .ref st)] := hl
  refine lv_aload_n hx hb dX2_refusal_0 rfl (lv_at hl 0 rfl) ?_
  refine g_get C0 G h_mt rfl hiX2 1 (by decide) mf_X2_17 rfl dX2_refusal_1 ?_
  refine lv_if_eq (tgt := 14) hx hb dX2_refusal_4 (by decide) (fun c11 => ?_) (fun c11 => ?_)
  · refine lv_iconst (v := 1) hx hb dX2_refusal_14 (by decide) ?_
    exact g_iret C0 G hr dX2_refusal_15 (Nat.le_of_ble_eq_true rfl) (Nat.le_of_ble_eq_true rfl) (by exact ⟨(by rw [X2_refusal11_r4, if_pos c11]), rfl⟩)
  · refine lv_aload_n hx hb dX2_refusal_7 rfl (lv_at hl 0 rfl) ?_
    refine g_get C0 G h_mt rfl hiX2 2 (by decide) mf_X2_21 rfl dX2_refusal_8 ?_
    refine lv_if_eq (tgt := 16) hx hb dX2_refusal_11 (by decide) (fun c12 => ?_) (fun c12 => ?_)
    · refine lv_aload_n hx hb dX2_refusal_16 rfl (lv_at hl 0 rfl) ?_
      refine g_cR C0 G (g_runV C0 G (rest := []) (c_X2_present1 hfl (A := A) (b := b) (ex := ex) (ov := ov) (ie := 1) (fi := fi) (q := q) h_mt h_al hAj hq0 hq1 hq2 hq3) h_mt rfl hY_X2_present mm_X2_43 mi_X2_present ml_X2_present ⟨(Nat.le_of_ble_eq_true rfl), (Nat.le_of_ble_eq_true rfl)⟩ rfl hl.1 rfl (Nat.le_of_ble_eq_true rfl) dX2_refusal_17 ⟨(Nat.le_of_ble_eq_true rfl), (Nat.le_of_ble_eq_true rfl)⟩) (kx_no rfl) (fun a15 u14 H locs hp13 G => ?_)
      obtain ⟨zr, eu14⟩ := hp13
      replace zr := Eq.symm zr
      subst zr
      rw [eu14] at G
      refine lv_astore_n (lv' := [(2, .ref (A (b + 15))), (0, .ref (A (b + 0))), (1, .ref st)]) hx hb dX2_refusal_20 rfl hl (by decide) rfl (fun ls hl => ?_)
      refine lv_aload_n hx hb dX2_refusal_21 rfl (lv_at hl 2 rfl) ?_
      refine g_get C0 G h_st rfl hiX5 0 (by decide) mf_X2_85 rfl dX2_refusal_22 ?_
      have sw23 : (ty = 1) ∨ (¬ ty = 1 ∧ ty = 2) ∨ (¬ ty = 1 ∧ ¬ ty = 2 ∧ ty = 3) ∨ (¬ ty = 1 ∧ ¬ ty = 2 ∧ ¬ ty = 3 ∧ ty = 4) ∨ (¬ ty = 1 ∧ ¬ ty = 2 ∧ ¬ ty = 3 ∧ ¬ ty = 4 ∧ ty = 5) ∨ (¬ ty = 1 ∧ ¬ ty = 2 ∧ ¬ ty = 3 ∧ ¬ ty = 4 ∧ ¬ ty = 5 ∧ ty = 6) ∨ (¬ ty = 1 ∧ ¬ ty = 2 ∧ ¬ ty = 3 ∧ ¬ ty = 4 ∧ ¬ ty = 5 ∧ ¬ ty = 6 ∧ ty = 7) ∨ (¬ ty = 1 ∧ ¬ ty = 2 ∧ ¬ ty = 3 ∧ ¬ ty = 4 ∧ ¬ ty = 5 ∧ ¬ ty = 6 ∧ ¬ ty = 7) := by
        by_cases w16 : ty = 1
        · exact Or.inl w16
        rename ¬ ty = 1 => nw16
        by_cases w17 : ty = 2
        · exact Or.inr (Or.inl ⟨nw16, w17⟩)
        rename ¬ ty = 2 => nw17
        by_cases w18 : ty = 3
        · exact Or.inr (Or.inr (Or.inl ⟨nw16, nw17, w18⟩))
        rename ¬ ty = 3 => nw18
        by_cases w19 : ty = 4
        · exact Or.inr (Or.inr (Or.inr (Or.inl ⟨nw16, nw17, nw18, w19⟩)))
        rename ¬ ty = 4 => nw19
        by_cases w20 : ty = 5
        · exact Or.inr (Or.inr (Or.inr (Or.inr (Or.inl ⟨nw16, nw17, nw18, nw19, w20⟩))))
        rename ¬ ty = 5 => nw20
        by_cases w21 : ty = 6
        · exact Or.inr (Or.inr (Or.inr (Or.inr (Or.inr (Or.inl ⟨nw16, nw17, nw18, nw19, nw20, w21⟩)))))
        rename ¬ ty = 6 => nw21
        by_cases w22 : ty = 7
        · exact Or.inr (Or.inr (Or.inr (Or.inr (Or.inr (Or.inr (Or.inl ⟨nw16, nw17, nw18, nw19, nw20, nw21, w22⟩))))))
        rename ¬ ty = 7 => nw22
        exact Or.inr (Or.inr (Or.inr (Or.inr (Or.inr (Or.inr (Or.inr (⟨nw16, nw17, nw18, nw19, nw20, nw21, nw22⟩)))))))
      rcases sw23 with w16 | ⟨nw16, w17⟩ | ⟨nw16, nw17, w18⟩ | ⟨nw16, nw17, nw18, w19⟩ | ⟨nw16, nw17, nw18, nw19, w20⟩ | ⟨nw16, nw17, nw18, nw19, nw20, w21⟩ | ⟨nw16, nw17, nw18, nw19, nw20, nw21, w22⟩ | ⟨nw16, nw17, nw18, nw19, nw20, nw21, nw22⟩
      · refine lv_tableIn (off := 43) (tgt := 68) hx hb dX2_refusal_25 (by rw [w16]; decide) (by rw [w16]; decide) (by rw [w16]; rfl) (by decide) ?_
        refine lv_aload_n hx hb dX2_refusal_68 rfl (lv_at hl 0 rfl) ?_
        refine lv_aload_n hx hb dX2_refusal_69 rfl (lv_at hl 2 rfl) ?_
        refine g_get C0 G h_st rfl hiX5 1 (by decide) mf_X2_90 rfl dX2_refusal_70 ?_
        refine g_cI C0 G (g_runV C0 G (rest := []) (c_X0_bowlRefusal hfl nu h_ij1 h_t2j1 h_a2j1 h_oj1) h_ij1 rfl hY_X0_bowlRefusal mm_X2_91 mi_X0_bowlRefusal ml_X0_bowlRefusal ⟨(Nat.le_of_ble_eq_true rfl), (Nat.le_of_ble_eq_true rfl)⟩ rfl hl.1 rfl (Nat.le_of_ble_eq_true rfl) dX2_refusal_73 ⟨(Nat.le_of_ble_eq_true rfl), (Nat.le_of_ble_eq_true rfl)⟩) (kx_no rfl) (fun r26 u25 H locs hp24 G => ?_)
        obtain ⟨er27, eu25⟩ := hp24
        rw [eu25] at G
        refine lv_topv (v := (X0_bowlRefusal_r3 g2 lf bw bb nu)) er27 ?_
        exact g_iret C0 G hr dX2_refusal_76 (Nat.le_of_ble_eq_true rfl) (Nat.le_of_ble_eq_true rfl) (by exact ⟨(by rw [X2_refusal11_r4, if_neg c11, if_pos c12, if_pos w16]), rfl⟩)
      · refine lv_tableIn (off := 52) (tgt := 77) hx hb dX2_refusal_25 (by rw [w17]; decide) (by rw [w17]; decide) (by rw [w17]; rfl) (by decide) ?_
        refine lv_aload_n hx hb dX2_refusal_77 rfl (lv_at hl 0 rfl) ?_
        refine g_get C0 G h_ij1 rfl hiX0 5 (by decide) mf_X2_95 rfl dX2_refusal_78 ?_
        refine g_get C0 G h_oj1 rfl hiX3 4 (by decide) mf_X2_98 rfl dX2_refusal_81 ?_
        refine lv_iconst (v := (-1)) hx hb dX2_refusal_84 (by decide) ?_
        have J30 : ∀ (y29 : Int32) (_ : y29 = nI (X2_refusal11_n0 bw)) (H : Heap) (locs : List Loc) (ls : Array Slot), hG D (hA f sz) f s9 H locs → lv_has ls 3 [(2, .ref (A (b + 15))), (0, .ref (A (b + 0))), (1, .ref st)] → W p9 l e9 ({ frames := 3, cells := 0, slots := 0, locals := 67 } : Room) s9 m9 ([.ref (A (b + 0)), .ref st] : List Value).toArray b9 t9 c9 H locs 0 0 (vx_MQ b9 (hQi (fun r u => r = (X2_refusal11_r4 ex ov g1 g2 lm lf oc bw bb hbg ty nu wy kd ru so sc) ∧ u = f) D f sz) (hPx hNo D f sz) ([.ref (A (b + 0)), .ref st] : List Value).toArray s9 0 0 (hA f sz)) (F0 m9 93 ls [.int y29]) := by
          intro y29 ey29 H locs ls G hl
          replace ey29 := Eq.symm ey29
          subst ey29
          have bd32 : (X2_refusal11_n0 bw) ≤ 3 := by unfold X2_refusal11_n0; repeat (first | omega | split)
          exact g_iret C0 G hr dX2_refusal_93 (Nat.le_of_ble_eq_true rfl) (Nat.le_of_ble_eq_true rfl) (by exact ⟨(by rw [X2_refusal11_r4, if_neg c11, if_pos c12, if_neg nw16, if_pos w17]), rfl⟩)
        refine lv_icmp_ne (tgt := 92) hx hb dX2_refusal_85 (by decide) (fun c28 => ?_) (fun c28 => ?_)
        · refine lv_iconst (v := 0) hx hb dX2_refusal_92 (by decide) ?_
          exact J30 0 (by rw [X2_refusal11_n0, if_neg c28] <;> rfl) _ _ _ G (lv_sub hl [0, 1, 2] rfl)
        · refine lv_iconst (v := 3) hx hb dX2_refusal_88 (by decide) ?_
          refine lv_goto (tgt := 93) hx hb dX2_refusal_89 (by decide) ?_
          exact J30 3 (by rw [X2_refusal11_n0, if_pos c28] <;> rfl) _ _ _ G (lv_sub hl [0, 1, 2] rfl)
      · refine lv_tableIn (off := 69) (tgt := 94) hx hb dX2_refusal_25 (by rw [w18]; decide) (by rw [w18]; decide) (by rw [w18]; rfl) (by decide) ?_
        refine lv_aload_n hx hb dX2_refusal_94 rfl (lv_at hl 0 rfl) ?_
        refine g_get C0 G h_ij1 rfl hiX0 5 (by decide) mf_X2_95 rfl dX2_refusal_95 ?_
        refine g_get C0 G h_oj1 rfl hiX3 4 (by decide) mf_X2_98 rfl dX2_refusal_98 ?_
        refine lv_iconst (v := (-1)) hx hb dX2_refusal_101 (by decide) ?_
        refine lv_icmp_ne (tgt := 107) hx hb dX2_refusal_102 (by decide) (fun c33 => ?_) (fun c33 => ?_)
        · refine lv_aload_n hx hb dX2_refusal_107 rfl (lv_at hl 2 rfl) ?_
          refine g_cI C0 G (g_runV C0 G (rest := []) (c_X5_isPossibleWicket hfl h_st) h_st rfl hY_X5_isPossibleWicket mm_X2_103 mi_X5_isPossibleWicket ml_X5_isPossibleWicket ⟨(Nat.le_of_ble_eq_true rfl), (Nat.le_of_ble_eq_true rfl)⟩ rfl hl.1 rfl (Nat.le_of_ble_eq_true rfl) dX2_refusal_108 ⟨(Nat.le_of_ble_eq_true rfl), (Nat.le_of_ble_eq_true rfl)⟩) (kx_no rfl) (fun r36 u35 H locs hp34 G => ?_)
          obtain ⟨er37, eu35⟩ := hp34
          rw [eu35] at G
          refine lv_topv (v := (X5_isPossibleWicket_r8 wy kd ru so sc)) er37 ?_
          have J40 : ∀ (y39 : Int32) (_ : y39 = nI (X2_refusal11_n1 wy kd ru so sc)) (H : Heap) (locs : List Loc) (ls : Array Slot), hG D (hA f sz) f s9 H locs → lv_has ls 3 [(2, .ref (A (b + 15))), (0, .ref (A (b + 0))), (1, .ref st)] → W p9 l e9 ({ frames := 3, cells := 0, slots := 0, locals := 67 } : Room) s9 m9 ([.ref (A (b + 0)), .ref st] : List Value).toArray b9 t9 c9 H locs 0 0 (vx_MQ b9 (hQi (fun r u => r = (X2_refusal11_r4 ex ov g1 g2 lm lf oc bw bb hbg ty nu wy kd ru so sc) ∧ u = f) D f sz) (hPx hNo D f sz) ([.ref (A (b + 0)), .ref st] : List Value).toArray s9 0 0 (hA f sz)) (F0 m9 120 ls [.int y39]) := by
            intro y39 ey39 H locs ls G hl
            replace ey39 := Eq.symm ey39
            subst ey39
            have bd42 : (X2_refusal11_n1 wy kd ru so sc) ≤ 6 := by unfold X2_refusal11_n1; repeat (first | omega | split)
            exact g_iret C0 G hr dX2_refusal_120 (Nat.le_of_ble_eq_true rfl) (Nat.le_of_ble_eq_true rfl) (by exact ⟨(by rw [X2_refusal11_r4, if_neg c11, if_pos c12, if_neg nw16, if_neg nw17, if_pos w18, if_neg c33]), rfl⟩)
          refine lv_if_eq (tgt := 118) hx hb dX2_refusal_111 (by decide) (fun c38 => ?_) (fun c38 => ?_)
          · refine lv_bipush (v := 6) hx hb dX2_refusal_118 (by decide) ?_
            exact J40 6 (by rw [X2_refusal11_n1, if_pos c38] <;> rfl) _ _ _ G (lv_sub hl [0, 1, 2] rfl)
          · refine lv_iconst (v := 0) hx hb dX2_refusal_114 (by decide) ?_
            refine lv_goto (tgt := 120) hx hb dX2_refusal_115 (by decide) ?_
            exact J40 0 (by rw [X2_refusal11_n1, if_neg c38] <;> rfl) _ _ _ G (lv_sub hl [0, 1, 2] rfl)
        · refine lv_iconst (v := 3) hx hb dX2_refusal_105 (by decide) ?_
          exact g_iret C0 G hr dX2_refusal_106 (Nat.le_of_ble_eq_true rfl) (Nat.le_of_ble_eq_true rfl) (by exact ⟨(by rw [X2_refusal11_r4, if_neg c11, if_pos c12, if_neg nw16, if_neg nw17, if_pos w18, if_pos c33]), rfl⟩)
      · refine lv_tableIn (off := 138) (tgt := 163) hx hb dX2_refusal_25 (by rw [w19]; decide) (by rw [w19]; decide) (by rw [w19]; rfl) (by decide) ?_
        refine lv_iconst (v := 0) hx hb dX2_refusal_163 (by decide) ?_
        exact g_iret C0 G hr dX2_refusal_164 (Nat.le_of_ble_eq_true rfl) (Nat.le_of_ble_eq_true rfl) (by exact ⟨(by rw [X2_refusal11_r4, if_neg c11, if_pos c12, if_neg nw16, if_neg nw17, if_neg nw18, if_pos w19]), rfl⟩)
      · refine lv_tableIn (off := 96) (tgt := 121) hx hb dX2_refusal_25 (by rw [w20]; decide) (by rw [w20]; decide) (by rw [w20]; rfl) (by decide) ?_
        refine lv_aload_n hx hb dX2_refusal_121 rfl (lv_at hl 0 rfl) ?_
        refine lv_aload_n hx hb dX2_refusal_122 rfl (lv_at hl 2 rfl) ?_
        refine g_get C0 G h_st rfl hiX5 1 (by decide) mf_X2_90 rfl dX2_refusal_123 ?_
        refine g_cI C0 G (g_runV C0 G (rest := []) (c_X0_canComeIn hfl nu h_ij1 h_t1j1 h_a1j1) h_ij1 rfl hY_X0_canComeIn mm_X2_106 mi_X0_canComeIn ml_X0_canComeIn ⟨(Nat.le_of_ble_eq_true rfl), (Nat.le_of_ble_eq_true rfl)⟩ rfl hl.1 rfl (Nat.le_of_ble_eq_true rfl) dX2_refusal_126 ⟨(Nat.le_of_ble_eq_true rfl), (Nat.le_of_ble_eq_true rfl)⟩) (kx_no rfl) (fun r45 u44 H locs hp43 G => ?_)
        obtain ⟨er46, eu44⟩ := hp43
        rw [eu44] at G
        refine lv_topv (v := (X0_canComeIn_x1 g1 nu)) er46 ?_
        have J49 : ∀ (y48 : Int32) (_ : y48 = nI (X2_refusal11_n2 g1 nu)) (H : Heap) (locs : List Loc) (ls : Array Slot), hG D (hA f sz) f s9 H locs → lv_has ls 3 [(2, .ref (A (b + 15))), (0, .ref (A (b + 0))), (1, .ref st)] → W p9 l e9 ({ frames := 3, cells := 0, slots := 0, locals := 67 } : Room) s9 m9 ([.ref (A (b + 0)), .ref st] : List Value).toArray b9 t9 c9 H locs 0 0 (vx_MQ b9 (hQi (fun r u => r = (X2_refusal11_r4 ex ov g1 g2 lm lf oc bw bb hbg ty nu wy kd ru so sc) ∧ u = f) D f sz) (hPx hNo D f sz) ([.ref (A (b + 0)), .ref st] : List Value).toArray s9 0 0 (hA f sz)) (F0 m9 137 ls [.int y48]) := by
          intro y48 ey48 H locs ls G hl
          replace ey48 := Eq.symm ey48
          subst ey48
          have bd51 : (X2_refusal11_n2 g1 nu) ≤ 5 := by unfold X2_refusal11_n2; repeat (first | omega | split)
          exact g_iret C0 G hr dX2_refusal_137 (Nat.le_of_ble_eq_true rfl) (Nat.le_of_ble_eq_true rfl) (by exact ⟨(by rw [X2_refusal11_r4, if_neg c11, if_pos c12, if_neg nw16, if_neg nw17, if_neg nw18, if_neg nw19, if_pos w20]), rfl⟩)
        refine lv_if_eq (tgt := 136) hx hb dX2_refusal_129 (by decide) (fun c47 => ?_) (fun c47 => ?_)
        · refine lv_iconst (v := 5) hx hb dX2_refusal_136 (by decide) ?_
          exact J49 5 (by rw [X2_refusal11_n2, if_pos c47] <;> rfl) _ _ _ G (lv_sub hl [0, 1, 2] rfl)
        · refine lv_iconst (v := 0) hx hb dX2_refusal_132 (by decide) ?_
          refine lv_goto (tgt := 137) hx hb dX2_refusal_133 (by decide) ?_
          exact J49 0 (by rw [X2_refusal11_n2, if_neg c47] <;> rfl) _ _ _ G (lv_sub hl [0, 1, 2] rfl)
      · refine lv_tableIn (off := 138) (tgt := 163) hx hb dX2_refusal_25 (by rw [w21]; decide) (by rw [w21]; decide) (by rw [w21]; rfl) (by decide) ?_
        refine lv_iconst (v := 0) hx hb dX2_refusal_163 (by decide) ?_
        exact g_iret C0 G hr dX2_refusal_164 (Nat.le_of_ble_eq_true rfl) (Nat.le_of_ble_eq_true rfl) (by exact ⟨(by rw [X2_refusal11_r4, if_neg c11, if_pos c12, if_neg nw16, if_neg nw17, if_neg nw18, if_neg nw19, if_neg nw20, if_pos w21]), rfl⟩)
      · refine lv_tableIn (off := 113) (tgt := 138) hx hb dX2_refusal_25 (by rw [w22]; decide) (by rw [w22]; decide) (by rw [w22]; rfl) (by decide) ?_
        refine lv_aload_n hx hb dX2_refusal_138 rfl (lv_at hl 1 rfl) ?_
        refine g_cI C0 G (g_runV C0 G (rest := []) (c_X2_hasResources hfl (A := A) (b := b) (ex := ex) (ov := ov) (ie := 1) (fi := fi) (nu := 1) (q := q) h_mt h_al hAj hq0 hq1 hq2 hq3) h_mt rfl hY_X2_hasResources mm_X2_50 mi_X2_hasResources ml_X2_hasResources ⟨(Nat.le_of_ble_eq_true rfl), (Nat.le_of_ble_eq_true rfl)⟩ rfl hl.1 rfl (Nat.le_of_ble_eq_true rfl) dX2_refusal_139 ⟨(Nat.le_of_ble_eq_true rfl), (Nat.le_of_ble_eq_true rfl)⟩) (kx_no rfl) (fun r54 u53 H locs hp52 G => ?_)
        obtain ⟨er55, eu53⟩ := hp52
        rw [eu53] at G
        refine lv_topv (v := (X2_hasResources_x0 1)) er55 ?_
        refine lv_topv (v := 1) (by decide) ?_
        refine lv_if_eq (tgt := 160) hx hb dX2_refusal_142 (by decide) (fun c56 => absurd c56 (by decide)) (fun _ => ?_)
        refine lv_aload_n hx hb dX2_refusal_145 rfl (lv_at hl 0 rfl) ?_
        refine lv_aload_n hx hb dX2_refusal_146 rfl (lv_at hl 2 rfl) ?_
        refine g_get C0 G h_st rfl hiX5 1 (by decide) mf_X2_90 rfl dX2_refusal_147 ?_
        refine g_cI C0 G (g_runV C0 G (rest := []) (c_X0_canLose hfl nu h_ij1 h_oj1) h_ij1 rfl hY_X0_canLose mm_X2_110 mi_X0_canLose ml_X0_canLose ⟨(Nat.le_of_ble_eq_true rfl), (Nat.le_of_ble_eq_true rfl)⟩ rfl hl.1 rfl (Nat.le_of_ble_eq_true rfl) dX2_refusal_150 ⟨(Nat.le_of_ble_eq_true rfl), (Nat.le_of_ble_eq_true rfl)⟩) (kx_no rfl) (fun r59 u58 H locs hp57 G => ?_)
        obtain ⟨er60, eu58⟩ := hp57
        rw [eu58] at G
        refine lv_topv (v := (X0_canLose_x0 lm oc hbg nu)) er60 ?_
        have J63 : ∀ (y62 : Int32) (_ : y62 = nI (X2_refusal11_n3 lm oc hbg nu)) (H : Heap) (locs : List Loc) (ls : Array Slot), hG D (hA f sz) f s9 H locs → lv_has ls 3 [(2, .ref (A (b + 15))), (0, .ref (A (b + 0))), (1, .ref st)] → W p9 l e9 ({ frames := 3, cells := 0, slots := 0, locals := 67 } : Room) s9 m9 ([.ref (A (b + 0)), .ref st] : List Value).toArray b9 t9 c9 H locs 0 0 (vx_MQ b9 (hQi (fun r u => r = (X2_refusal11_r4 ex ov g1 g2 lm lf oc bw bb hbg ty nu wy kd ru so sc) ∧ u = f) D f sz) (hPx hNo D f sz) ([.ref (A (b + 0)), .ref st] : List Value).toArray s9 0 0 (hA f sz)) (F0 m9 162 ls [.int y62]) := by
          intro y62 ey62 H locs ls G hl
          replace ey62 := Eq.symm ey62
          subst ey62
          have bd65 : (X2_refusal11_n3 lm oc hbg nu) ≤ 8 := by unfold X2_refusal11_n3; repeat (first | omega | split)
          exact g_iret C0 G hr dX2_refusal_162 (Nat.le_of_ble_eq_true rfl) (Nat.le_of_ble_eq_true rfl) (by exact ⟨(by rw [X2_refusal11_r4, if_neg c11, if_pos c12, if_neg nw16, if_neg nw17, if_neg nw18, if_neg nw19, if_neg nw20, if_neg nw21, if_pos w22]), rfl⟩)
        refine lv_if_eq (tgt := 160) hx hb dX2_refusal_153 (by decide) (fun c61 => ?_) (fun c61 => ?_)
        · refine lv_bipush (v := 8) hx hb dX2_refusal_160 (by decide) ?_
          exact J63 8 (by rw [X2_refusal11_n3, if_pos c61] <;> rfl) _ _ _ G (lv_sub hl [0, 1, 2] rfl)
        · refine lv_iconst (v := 0) hx hb dX2_refusal_156 (by decide) ?_
          refine lv_goto (tgt := 162) hx hb dX2_refusal_157 (by decide) ?_
          exact J63 0 (by rw [X2_refusal11_n3, if_neg c61] <;> rfl) _ _ _ G (lv_sub hl [0, 1, 2] rfl)
      · have q66 : ty.toInt < 1 ∨ 7 < ty.toInt := by
          have tw16 : ty.toInt ≠ 1 := fun z => nw16 (Int32.toInt_inj.mp z)
          have tw17 : ty.toInt ≠ 2 := fun z => nw17 (Int32.toInt_inj.mp z)
          have tw18 : ty.toInt ≠ 3 := fun z => nw18 (Int32.toInt_inj.mp z)
          have tw19 : ty.toInt ≠ 4 := fun z => nw19 (Int32.toInt_inj.mp z)
          have tw20 : ty.toInt ≠ 5 := fun z => nw20 (Int32.toInt_inj.mp z)
          have tw21 : ty.toInt ≠ 6 := fun z => nw21 (Int32.toInt_inj.mp z)
          have tw22 : ty.toInt ≠ 7 := fun z => nw22 (Int32.toInt_inj.mp z)
          omega
        refine lv_tableOut (tgt := 163) hx hb dX2_refusal_25 q66 (by decide) ?_
        refine lv_iconst (v := 0) hx hb dX2_refusal_163 (by decide) ?_
        exact g_iret C0 G hr dX2_refusal_164 (Nat.le_of_ble_eq_true rfl) (Nat.le_of_ble_eq_true rfl) (by exact ⟨(by rw [X2_refusal11_r4, if_neg c11, if_pos c12, if_neg nw16, if_neg nw17, if_neg nw18, if_neg nw19, if_neg nw20, if_neg nw21, if_neg nw22]), rfl⟩)
    · refine lv_iconst (v := 1) hx hb dX2_refusal_14 (by decide) ?_
      exact g_iret C0 G hr dX2_refusal_15 (Nat.le_of_ble_eq_true rfl) (Nat.le_of_ble_eq_true rfl) (by exact ⟨(by rw [X2_refusal11_r4, if_neg c11, if_neg c12]), rfl⟩)
def X2_dueEnd11_x0 (nc : Int32) (lm : Int32) (oc : Int32) (dl : Int32) : Int32 := if dl = 0 then (X0_ending_r1 lm oc nc) else 3
def X2_dueEnd11_r1 (rs : Int32) (nc : Int32) (g0 : Nat → Int32) (lm : Int32) (oc : Int32) (rs_a : Int32) (g0_a : Nat → Int32) (dl : Int32) : Int32 := if (tget 8 1 8 g0 0 0) < (X2_target1_x0 rs_a g0_a rs) then (X2_dueEnd11_x0 nc lm oc dl) else 4
set_option maxRecDepth 100000 in
theorem c_X2_dueEnd11 {l : Launch} (hfl : l.stackTraces = false) {D : va_G} {cy : Nat → ClassId} {f : Hf} {sz : Nat} {A : Nat → Nat} {b : Nat} {ex : Int32} {ov : Int32} {fi : Int32} {q : Nat → Option Nat} {rs : Int32} {sk : Int32} {ot : Int32} {ch : Int32} {nc : Int32} {g0 : Nat → Int32} {lm : Int32} {lf : Int32} {oc : Int32} {bw : Int32} {bb : Int32} {bl : Int32} {cd : Int32} {hbg : Int32} {go : Nat → Int32} {rs_a : Int32} {sk_a : Int32} {ot_a : Int32} {ch_a : Int32} {nc_a : Int32} {g0_a : Nat → Int32} (dl : Int32) (h_mt : f (A (b + 0)) = some (.inr (4, [.ref (A (b + 1)), .int ex, .int ov, .int 1, .int fi, .int 1]))) (h_al : f (A (b + 1)) = some (.inl (cy 3, 4, .inr (.inr (.inr (.inr q)))))) (h_ij1 : f (A (b + 15)) = some (.inr (2, [.ref (A (b + 16)), .ref (A (b + 18)), .ref (A (b + 20)), .ref (A (b + 22)), .ref (A (b + 24)), .ref (A (b + 26)), .int rs, .int sk, .int ot, .int ch, .int nc]))) (h_t0j1 : f (A (b + 16)) = some (.inr (8, [.int 8, .ref (A (b + 17)), .int 1]))) (h_a0j1 : f (A (b + 17)) = some (.inl (cy 0, 8, .inl g0))) (h_oj1 : f (A (b + 26)) = some (.inr (5, [.ref (A (b + 27)), .int lm, .int lf, .int oc, .int bw, .int bb, .int bl, .int cd, .int hbg]))) (h_oaj1 : f (A (b + 27)) = some (.inl (cy 0, 20, .inl go))) (h_ij0 : f (A (b + 2)) = some (.inr (2, [.ref (A (b + 3)), .ref (A (b + 5)), .ref (A (b + 7)), .ref (A (b + 9)), .ref (A (b + 11)), .ref (A (b + 13)), .int rs_a, .int sk_a, .int ot_a, .int ch_a, .int nc_a]))) (h_t0j0 : f (A (b + 3)) = some (.inr (8, [.int 8, .ref (A (b + 4)), .int 1]))) (h_a0j0 : f (A (b + 4)) = some (.inl (cy 0, 8, .inl g0_a))) (hAj : ∀ i j : Nat, i ≠ j → A i ≠ A j) (hq0 : q 0 = some (A (b + 2))) (hq1 : q 1 = some (A (b + 15))) (hq2 : q 2 = some (A (b + 28))) (hq3 : q 3 = some (A (b + 41))) : hMet l yX2_dueEnd cX2_dueEnd 3 (some .int) { frames := 3, cells := 0, slots := 0, locals := 66 } D (hTy cy) f sz [.ref (A (b + 0)), .int dl] (hQi (fun r u => r = (X2_dueEnd11_r1 rs nc g0 lm oc rs_a g0_a dl) ∧ u = f) D f sz) hNo := by
  refine h_enter (by decide) hfl (Nat.le_of_ble_eq_true rfl) ?_
  intro p9 e9 s9 m9 b9 t9 c9 hsz C0 hr hnm G ls hl
  have hx := C0.1.1
  have hb := C0.1.2.1
  have hl : lv_has ls 3 [(0, .ref (A (b + 0))), (1, .int dl)] := hl
  refine lv_aload_n hx hb dX2_dueEnd_0 rfl (lv_at hl 0 rfl) ?_
  refine g_cR C0 G (g_runV C0 G (rest := []) (c_X2_present1 hfl (A := A) (b := b) (ex := ex) (ov := ov) (ie := 1) (fi := fi) (q := q) h_mt h_al hAj hq0 hq1 hq2 hq3) h_mt rfl hY_X2_present mm_X2_43 mi_X2_present ml_X2_present ⟨(Nat.le_of_ble_eq_true rfl), (Nat.le_of_ble_eq_true rfl)⟩ rfl hl.1 rfl (Nat.le_of_ble_eq_true rfl) dX2_dueEnd_1 ⟨(Nat.le_of_ble_eq_true rfl), (Nat.le_of_ble_eq_true rfl)⟩) (kx_no rfl) (fun a13 u12 H locs hp11 G => ?_)
  obtain ⟨zr, eu12⟩ := hp11
  replace zr := Eq.symm zr
  subst zr
  rw [eu12] at G
  refine lv_astore_n (lv' := [(2, .ref (A (b + 15))), (0, .ref (A (b + 0))), (1, .int dl)]) hx hb dX2_dueEnd_4 rfl hl (by decide) rfl (fun ls hl => ?_)
  refine lv_aload_n hx hb dX2_dueEnd_5 rfl (lv_at hl 1 rfl) ?_
  refine g_cI C0 G (g_runV C0 G (rest := []) (c_X2_isLastPlayed hfl (A := A) (b := b) (ex := ex) (ov := ov) (ie := 1) (fi := fi) (nu := 1) (q := q) h_mt h_al hAj hq0 hq1 hq2 hq3) h_mt rfl hY_X2_isLastPlayed mm_X2_145 mi_X2_isLastPlayed ml_X2_isLastPlayed ⟨(Nat.le_of_ble_eq_true rfl), (Nat.le_of_ble_eq_true rfl)⟩ rfl hl.1 rfl (Nat.le_of_ble_eq_true rfl) dX2_dueEnd_6 ⟨(Nat.le_of_ble_eq_true rfl), (Nat.le_of_ble_eq_true rfl)⟩) (kx_no rfl) (fun r16 u15 H locs hp14 G => ?_)
  obtain ⟨er17, eu15⟩ := hp14
  rw [eu15] at G
  refine lv_topv (v := (X2_isLastPlayed_x0 1 1)) er17 ?_
  refine lv_topv (v := 1) (by decide) ?_
  refine lv_if_eq (tgt := 26) hx hb dX2_dueEnd_9 (by decide) (fun c18 => absurd c18 (by decide)) (fun _ => ?_)
  refine lv_aload_n hx hb dX2_dueEnd_12 rfl (lv_at hl 0 rfl) ?_
  refine lv_iconst (v := 0) hx hb dX2_dueEnd_13 (by decide) ?_
  refine g_cI C0 G (g_runV C0 G (rest := []) (c_X0_total hfl 0 h_ij1 h_t0j1 h_a0j1) h_ij1 rfl hY_X0_total mm_X2_128 mi_X0_total ml_X0_total ⟨(Nat.le_of_ble_eq_true rfl), (Nat.le_of_ble_eq_true rfl)⟩ rfl hl.1 rfl (Nat.le_of_ble_eq_true rfl) dX2_dueEnd_14 ⟨(Nat.le_of_ble_eq_true rfl), (Nat.le_of_ble_eq_true rfl)⟩) (kx_no rfl) (fun r21 u20 H locs hp19 G => ?_)
  obtain ⟨er22, eu20⟩ := hp19
  rw [eu20] at G
  refine lv_topv (v := (tget 8 1 8 g0 0 0)) er22 ?_
  refine lv_aload_n hx hb dX2_dueEnd_17 rfl (lv_at hl 1 rfl) ?_
  refine g_cI C0 G (g_runV C0 G (rest := [.int (tget 8 1 8 g0 0 0)]) (c_X2_target1 hfl (A := A) (b := b) (ex := ex) (ov := ov) (fi := fi) (nu := 1) (q := q) (rs_a := rs_a) (sk_a := sk_a) (ot_a := ot_a) (ch_a := ch_a) (nc_a := nc_a) (g0_a := g0_a) (rs_b := rs) (sk_b := sk) (ot_b := ot) (ch_b := ch) (nc_b := nc) h_mt h_al h_ij0 h_t0j0 h_a0j0 h_ij1 hAj hq0 hq1 hq2 hq3) h_mt rfl hY_X2_target mm_X2_148 mi_X2_target ml_X2_target ⟨(Nat.le_of_ble_eq_true rfl), (Nat.le_of_ble_eq_true rfl)⟩ rfl hl.1 rfl (Nat.le_of_ble_eq_true rfl) dX2_dueEnd_18 ⟨(Nat.le_of_ble_eq_true rfl), (Nat.le_of_ble_eq_true rfl)⟩) (kx_no rfl) (fun r25 u24 H locs hp23 G => ?_)
  obtain ⟨er26, eu24⟩ := hp23
  rw [eu24] at G
  refine lv_topv (v := (X2_target1_x0 rs_a g0_a rs)) er26 ?_
  refine lv_icmp_lt (tgt := 26) hx hb dX2_dueEnd_21 (by decide) (fun c27 => ?_) (fun c27 => ?_)
  · refine lv_iload_n hx hb dX2_dueEnd_26 rfl (lv_at hl 2 rfl) ?_
    have J30 : ∀ (y29 : Int32) (_ : y29 = (X2_dueEnd11_x0 nc lm oc dl)) (H : Heap) (locs : List Loc) (ls : Array Slot), hG D (hA f sz) f s9 H locs → lv_has ls 3 [(2, .ref (A (b + 15))), (0, .ref (A (b + 0))), (1, .int dl)] → W p9 l e9 ({ frames := 3, cells := 0, slots := 0, locals := 66 } : Room) s9 m9 ([.ref (A (b + 0)), .int dl] : List Value).toArray b9 t9 c9 H locs 0 0 (vx_MQ b9 (hQi (fun r u => r = (X2_dueEnd11_r1 rs nc g0 lm oc rs_a g0_a dl) ∧ u = f) D f sz) (hPx hNo D f sz) ([.ref (A (b + 0)), .int dl] : List Value).toArray s9 0 0 (hA f sz)) (F0 m9 38 ls [.int y29]) := by
      intro y29 ey29 H locs ls G hl
      replace ey29 := Eq.symm ey29
      subst ey29
      exact g_iret C0 G hr dX2_dueEnd_38 (Nat.le_of_ble_eq_true rfl) (Nat.le_of_ble_eq_true rfl) (by exact ⟨(by rw [X2_dueEnd11_r1, if_pos c27]), rfl⟩)
    refine lv_if_eq (tgt := 34) hx hb dX2_dueEnd_27 (by decide) (fun c28 => ?_) (fun c28 => ?_)
    · refine lv_aload_n hx hb dX2_dueEnd_34 rfl (lv_at hl 0 rfl) ?_
      refine g_cI C0 G (g_runV C0 G (rest := []) (c_X0_ending hfl h_ij1 h_oj1) h_ij1 rfl hY_X0_ending mm_X2_151 mi_X0_ending ml_X0_ending ⟨(Nat.le_of_ble_eq_true rfl), (Nat.le_of_ble_eq_true rfl)⟩ rfl hl.1 rfl (Nat.le_of_ble_eq_true rfl) dX2_dueEnd_35 ⟨(Nat.le_of_ble_eq_true rfl), (Nat.le_of_ble_eq_true rfl)⟩) (kx_no rfl) (fun r34 u33 H locs hp32 G => ?_)
      obtain ⟨er35, eu33⟩ := hp32
      rw [eu33] at G
      refine lv_topv (v := (X0_ending_r1 lm oc nc)) er35 ?_
      exact J30 (X0_ending_r1 lm oc nc) (by rw [X2_dueEnd11_x0, if_pos c28]) _ _ _ G (lv_sub hl [0, 1, 2] rfl)
    · refine lv_iconst (v := 3) hx hb dX2_dueEnd_30 (by decide) ?_
      refine lv_goto (tgt := 38) hx hb dX2_dueEnd_31 (by decide) ?_
      exact J30 3 (by rw [X2_dueEnd11_x0, if_neg c28]) _ _ _ G (lv_sub hl [0, 1, 2] rfl)
  · refine lv_iconst (v := 4) hx hb dX2_dueEnd_24 (by decide) ?_
    exact g_iret C0 G hr dX2_dueEnd_25 (Nat.le_of_ble_eq_true rfl) (Nat.le_of_ble_eq_true rfl) (by exact ⟨(by rw [X2_dueEnd11_r1, if_neg c27]), rfl⟩)
set_option maxRecDepth 100000 in
theorem c_X2_goOn11 {l : Launch} (hfl : l.stackTraces = false) {D : va_G} {cy : Nat → ClassId} {f : Hf} {sz : Nat} {A : Nat → Nat} {b : Nat} {ex : Int32} {ov : Int32} {fi : Int32} {q : Nat → Option Nat} {rs : Int32} {sk : Int32} {ot : Int32} {ch : Int32} {nc : Int32} {g0 : Nat → Int32} {lm : Int32} {lf : Int32} {oc : Int32} {bw : Int32} {bb : Int32} {bl : Int32} {cd : Int32} {hbg : Int32} {go : Nat → Int32} (h_mt : f (A (b + 0)) = some (.inr (4, [.ref (A (b + 1)), .int ex, .int ov, .int 1, .int fi, .int 1]))) (h_al : f (A (b + 1)) = some (.inl (cy 3, 4, .inr (.inr (.inr (.inr q)))))) (h_ij1 : f (A (b + 15)) = some (.inr (2, [.ref (A (b + 16)), .ref (A (b + 18)), .ref (A (b + 20)), .ref (A (b + 22)), .ref (A (b + 24)), .ref (A (b + 26)), .int rs, .int sk, .int ot, .int ch, .int nc]))) (h_t0j1 : f (A (b + 16)) = some (.inr (8, [.int 8, .ref (A (b + 17)), .int 1]))) (h_a0j1 : f (A (b + 17)) = some (.inl (cy 0, 8, .inl g0))) (h_oj1 : f (A (b + 26)) = some (.inr (5, [.ref (A (b + 27)), .int lm, .int lf, .int oc, .int bw, .int bb, .int bl, .int cd, .int hbg]))) (h_oaj1 : f (A (b + 27)) = some (.inl (cy 0, 20, .inl go))) (hAj : ∀ i j : Nat, i ≠ j → A i ≠ A j) (hq0 : q 0 = some (A (b + 2))) (hq1 : q 1 = some (A (b + 15))) (hq2 : q 2 = some (A (b + 28))) (hq3 : q 3 = some (A (b + 41))) : hMet l yX2_goOn cX2_goOn 3 none { frames := 2, cells := 0, slots := 0, locals := 40 } D (hTy cy) f sz [.ref (A (b + 0))] (hQv (fun u => u (A (b + 0)) = some (.inr (4, [.ref (A (b + 1)), .int ex, .int 1, .int 1, .int fi, .int 1])) ∧ hFrL f u [(A (b + 0))]) D f sz) hNo := by
  refine h_enter (by decide) hfl (Nat.le_of_ble_eq_true rfl) ?_
  intro p9 e9 s9 m9 b9 t9 c9 hsz C0 hr hnm G ls hl
  have hx := C0.1.1
  have hb := C0.1.2.1
  have hl : lv_has ls 3 [(0, .ref (A (b + 0)))] := hl
  refine lv_aload_n hx hb dX2_goOn_0 rfl (lv_at hl 0 rfl) ?_
  refine g_get C0 G h_mt rfl hiX2 5 (by decide) mf_X2_31 rfl dX2_goOn_1 ?_
  refine lv_iconst (v := 1) hx hb dX2_goOn_4 (by decide) ?_
  refine lv_iadd hx hb dX2_goOn_5 ?_
  refine lv_topv (v := 2) (by decide) ?_
  refine lv_aload_n hx hb dX2_goOn_6 rfl (lv_at hl 0 rfl) ?_
  refine g_cI C0 G (g_runV C0 G (rest := [.int 2]) (c_X2_lastNumber hfl (A := A) (b := b) (ex := ex) (ov := ov) (ie := 1) (fi := fi) (nu := 1) (q := q) h_mt h_al hAj hq0 hq1 hq2 hq3) h_mt rfl hY_X2_lastNumber mm_X2_81 mi_X2_lastNumber ml_X2_lastNumber ⟨(Nat.le_of_ble_eq_true rfl), (Nat.le_of_ble_eq_true rfl)⟩ rfl hl.1 rfl (Nat.le_of_ble_eq_true rfl) dX2_goOn_7 ⟨(Nat.le_of_ble_eq_true rfl), (Nat.le_of_ble_eq_true rfl)⟩) (kx_no rfl) (fun r13 u12 H locs hp11 G => ?_)
  obtain ⟨er14, eu12⟩ := hp11
  rw [eu12] at G
  refine lv_topv (v := (X2_lastNumber_r0 1)) er14 ?_
  refine lv_topv (v := 1) (by decide) ?_
  refine lv_icmp_ne (tgt := 17) hx hb dX2_goOn_10 (by decide) (fun _ => ?_) (fun c15 => absurd c15 (by decide))
  refine lv_iconst (v := 0) hx hb dX2_goOn_17 (by decide) ?_
  refine lv_istore_n (lv' := [(1, .int 0), (0, .ref (A (b + 0)))]) hx hb dX2_goOn_18 rfl hl (by decide) rfl (fun ls hl => ?_)
  refine lv_aload_n hx hb dX2_goOn_19 rfl (lv_at hl 1 rfl) ?_
  refine g_cI C0 G (g_runV C0 G (rest := []) (c_X2_isLastPlayed hfl (A := A) (b := b) (ex := ex) (ov := ov) (ie := 1) (fi := fi) (nu := 1) (q := q) h_mt h_al hAj hq0 hq1 hq2 hq3) h_mt rfl hY_X2_isLastPlayed mm_X2_145 mi_X2_isLastPlayed ml_X2_isLastPlayed ⟨(Nat.le_of_ble_eq_true rfl), (Nat.le_of_ble_eq_true rfl)⟩ rfl hl.1 rfl (Nat.le_of_ble_eq_true rfl) dX2_goOn_20 ⟨(Nat.le_of_ble_eq_true rfl), (Nat.le_of_ble_eq_true rfl)⟩) (kx_no rfl) (fun r18 u17 H locs hp16 G => ?_)
  obtain ⟨er19, eu17⟩ := hp16
  rw [eu17] at G
  refine lv_topv (v := (X2_isLastPlayed_x0 1 1)) er19 ?_
  refine lv_topv (v := 1) (by decide) ?_
  refine lv_if_ne (tgt := 44) hx hb dX2_goOn_23 (by decide) (fun _ => ?_) (fun c20 => absurd c20 (by decide))
  refine lv_aload_n hx hb dX2_goOn_44 rfl (lv_at hl 1 rfl) ?_
  refine lv_iconst (v := 1) hx hb dX2_goOn_45 (by decide) ?_
  refine g_put C0 G h_mt rfl hiX2 tyX2 tyX2_ok nmX2 2 (by decide) mf_X2_21 rfl rfl rfl rfl (Nat.le_of_ble_eq_true rfl) dX2_goOn_46 (fun H locs f21 hf21 G => ?_)
  have k22 : f21 (A (b + 0)) = some (.inr (4, [.ref (A (b + 1)), .int ex, .int 1, .int 1, .int fi, .int 1])) := hus hf21
  exact g_vret C0 G hr dX2_goOn_49 (Nat.le_of_ble_eq_true rfl) (Nat.le_of_ble_eq_true rfl) (by exact ⟨k22, (fun a9 e9 h7 h8 => hup hf21 (fun q => h7 (by rw [q]; simp)) (h8))⟩)
def X2_refusal02_n0 (bw : Int32) : Nat := if bw = (-1) then 3 else 0
def X2_refusal02_n1 (wy : Int32) (kd : Int32) (ru : Int32) (so : Int32) (sc : Int32) : Nat := if (X5_isPossibleWicket_r8 wy kd ru so sc) = 0 then 6 else 0
def X2_refusal02_n2 (g1 : Nat → Int32) (nu : Int32) : Nat := if (X0_canComeIn_x1 g1 nu) = 0 then 5 else 0
def X2_refusal02_r3 (ex : Int32) (ov : Int32) (g1 : Nat → Int32) (g2 : Nat → Int32) (lf : Int32) (bw : Int32) (bb : Int32) (ty : Int32) (nu : Int32) (wy : Int32) (kd : Int32) (ru : Int32) (so : Int32) (sc : Int32) : Int32 := if ex = 0 then 1 else (if ov = 0 then (if ty = 1 then (X0_bowlRefusal_r3 g2 lf bw bb nu) else (if ty = 2 then (nI (X2_refusal02_n0 bw)) else (if ty = 3 then (if bw = (-1) then 3 else (nI (X2_refusal02_n1 wy kd ru so sc))) else (if ty = 4 then 0 else (if ty = 5 then (nI (X2_refusal02_n2 g1 nu)) else (if ty = 6 then 0 else (if ty = 7 then 8 else 0))))))) else 1)
set_option maxRecDepth 100000 in
theorem c_X2_refusal02 {l : Launch} (hfl : l.stackTraces = false) {D : va_G} {cy : Nat → ClassId} {f : Hf} {sz : Nat} {A : Nat → Nat} {b : Nat} {st : Nat} {ex : Int32} {ov : Int32} {fi : Int32} {q : Nat → Option Nat} {rs : Int32} {sk : Int32} {ot : Int32} {ch : Int32} {nc : Int32} {g1 : Nat → Int32} {g2 : Nat → Int32} {lm : Int32} {lf : Int32} {oc : Int32} {bw : Int32} {bb : Int32} {bl : Int32} {cd : Int32} {hbg : Int32} {go : Nat → Int32} {ty : Int32} {nu : Int32} {wy : Int32} {kd : Int32} {ru : Int32} {so : Int32} {sb : Int32} {sc : Int32} {sh : Int32} (h_mt : f (A (b + 0)) = some (.inr (4, [.ref (A (b + 1)), .int ex, .int ov, .int 2, .int fi, .int 0]))) (h_al : f (A (b + 1)) = some (.inl (cy 3, 4, .inr (.inr (.inr (.inr q)))))) (h_ij0 : f (A (b + 2)) = some (.inr (2, [.ref (A (b + 3)), .ref (A (b + 5)), .ref (A (b + 7)), .ref (A (b + 9)), .ref (A (b + 11)), .ref (A (b + 13)), .int rs, .int sk, .int ot, .int ch, .int nc]))) (h_t1j0 : f (A (b + 5)) = some (.inr (8, [.int 6, .ref (A (b + 6)), .int 11]))) (h_a1j0 : f (A (b + 6)) = some (.inl (cy 0, 66, .inl g1))) (h_t2j0 : f (A (b + 7)) = some (.inr (8, [.int 7, .ref (A (b + 8)), .int 11]))) (h_a2j0 : f (A (b + 8)) = some (.inl (cy 0, 77, .inl g2))) (h_oj0 : f (A (b + 13)) = some (.inr (5, [.ref (A (b + 14)), .int lm, .int lf, .int oc, .int bw, .int bb, .int bl, .int cd, .int hbg]))) (h_oaj0 : f (A (b + 14)) = some (.inl (cy 0, 20, .inl go))) (h_st : f st = some (.inr (7, [.int ty, .int nu, .int wy, .int kd, .int ru, .int so, .int sb, .int sc, .int sh]))) (hAj : ∀ i j : Nat, i ≠ j → A i ≠ A j) (hq0 : q 0 = some (A (b + 2))) (hq1 : q 1 = some (A (b + 15))) (hq2 : q 2 = some (A (b + 28))) (hq3 : q 3 = some (A (b + 41))) : hMet l yX2_refusal cX2_refusal 3 (some .int) { frames := 3, cells := 0, slots := 0, locals := 67 } D (hTy cy) f sz [.ref (A (b + 0)), .ref st] (hQi (fun r u => r = (X2_refusal02_r3 ex ov g1 g2 lf bw bb ty nu wy kd ru so sc) ∧ u = f) D f sz) hNo := by
  refine h_enter (by decide) hfl (Nat.le_of_ble_eq_true rfl) ?_
  intro p9 e9 s9 m9 b9 t9 c9 hsz C0 hr hnm G ls hl
  have hx := C0.1.1
  have hb := C0.1.2.1
  have hl : lv_has ls 3 [(0, .ref (A (b + 0))), (1, .ref st)] := hl
  refine lv_aload_n hx hb dX2_refusal_0 rfl (lv_at hl 0 rfl) ?_
  refine g_get C0 G h_mt rfl hiX2 1 (by decide) mf_X2_17 rfl dX2_refusal_1 ?_
  refine lv_if_eq (tgt := 14) hx hb dX2_refusal_4 (by decide) (fun c11 => ?_) (fun c11 => ?_)
  · refine lv_iconst (v := 1) hx hb dX2_refusal_14 (by decide) ?_
    exact g_iret C0 G hr dX2_refusal_15 (Nat.le_of_ble_eq_true rfl) (Nat.le_of_ble_eq_true rfl) (by exact ⟨(by rw [X2_refusal02_r3, if_pos c11]), rfl⟩)
  · refine lv_aload_n hx hb dX2_refusal_7 rfl (lv_at hl 0 rfl) ?_
    refine g_get C0 G h_mt rfl hiX2 2 (by decide) mf_X2_21 rfl dX2_refusal_8 ?_
    refine lv_if_eq (tgt := 16) hx hb dX2_refusal_11 (by decide) (fun c12 => ?_) (fun c12 => ?_)
    · refine lv_aload_n hx hb dX2_refusal_16 rfl (lv_at hl 0 rfl) ?_
      refine g_cR C0 G (g_runV C0 G (rest := []) (c_X2_present0 hfl (A := A) (b := b) (ex := ex) (ov := ov) (ie := 2) (fi := fi) (q := q) h_mt h_al hAj hq0 hq1 hq2 hq3) h_mt rfl hY_X2_present mm_X2_43 mi_X2_present ml_X2_present ⟨(Nat.le_of_ble_eq_true rfl), (Nat.le_of_ble_eq_true rfl)⟩ rfl hl.1 rfl (Nat.le_of_ble_eq_true rfl) dX2_refusal_17 ⟨(Nat.le_of_ble_eq_true rfl), (Nat.le_of_ble_eq_true rfl)⟩) (kx_no rfl) (fun a15 u14 H locs hp13 G => ?_)
      obtain ⟨zr, eu14⟩ := hp13
      replace zr := Eq.symm zr
      subst zr
      rw [eu14] at G
      refine lv_astore_n (lv' := [(2, .ref (A (b + 2))), (0, .ref (A (b + 0))), (1, .ref st)]) hx hb dX2_refusal_20 rfl hl (by decide) rfl (fun ls hl => ?_)
      refine lv_aload_n hx hb dX2_refusal_21 rfl (lv_at hl 2 rfl) ?_
      refine g_get C0 G h_st rfl hiX5 0 (by decide) mf_X2_85 rfl dX2_refusal_22 ?_
      have sw23 : (ty = 1) ∨ (¬ ty = 1 ∧ ty = 2) ∨ (¬ ty = 1 ∧ ¬ ty = 2 ∧ ty = 3) ∨ (¬ ty = 1 ∧ ¬ ty = 2 ∧ ¬ ty = 3 ∧ ty = 4) ∨ (¬ ty = 1 ∧ ¬ ty = 2 ∧ ¬ ty = 3 ∧ ¬ ty = 4 ∧ ty = 5) ∨ (¬ ty = 1 ∧ ¬ ty = 2 ∧ ¬ ty = 3 ∧ ¬ ty = 4 ∧ ¬ ty = 5 ∧ ty = 6) ∨ (¬ ty = 1 ∧ ¬ ty = 2 ∧ ¬ ty = 3 ∧ ¬ ty = 4 ∧ ¬ ty = 5 ∧ ¬ ty = 6 ∧ ty = 7) ∨ (¬ ty = 1 ∧ ¬ ty = 2 ∧ ¬ ty = 3 ∧ ¬ ty = 4 ∧ ¬ ty = 5 ∧ ¬ ty = 6 ∧ ¬ ty = 7) := by
        by_cases w16 : ty = 1
        · exact Or.inl w16
        rename ¬ ty = 1 => nw16
        by_cases w17 : ty = 2
        · exact Or.inr (Or.inl ⟨nw16, w17⟩)
        rename ¬ ty = 2 => nw17
        by_cases w18 : ty = 3
        · exact Or.inr (Or.inr (Or.inl ⟨nw16, nw17, w18⟩))
        rename ¬ ty = 3 => nw18
        by_cases w19 : ty = 4
        · exact Or.inr (Or.inr (Or.inr (Or.inl ⟨nw16, nw17, nw18, w19⟩)))
        rename ¬ ty = 4 => nw19
        by_cases w20 : ty = 5
        · exact Or.inr (Or.inr (Or.inr (Or.inr (Or.inl ⟨nw16, nw17, nw18, nw19, w20⟩))))
        rename ¬ ty = 5 => nw20
        by_cases w21 : ty = 6
        · exact Or.inr (Or.inr (Or.inr (Or.inr (Or.inr (Or.inl ⟨nw16, nw17, nw18, nw19, nw20, w21⟩)))))
        rename ¬ ty = 6 => nw21
        by_cases w22 : ty = 7
        · exact Or.inr (Or.inr (Or.inr (Or.inr (Or.inr (Or.inr (Or.inl ⟨nw16, nw17, nw18, nw19, nw20, nw21, w22⟩))))))
        rename ¬ ty = 7 => nw22
        exact Or.inr (Or.inr (Or.inr (Or.inr (Or.inr (Or.inr (Or.inr (⟨nw16, nw17, nw18, nw19, nw20, nw21, nw22⟩)))))))
      rcases sw23 with w16 | ⟨nw16, w17⟩ | ⟨nw16, nw17, w18⟩ | ⟨nw16, nw17, nw18, w19⟩ | ⟨nw16, nw17, nw18, nw19, w20⟩ | ⟨nw16, nw17, nw18, nw19, nw20, w21⟩ | ⟨nw16, nw17, nw18, nw19, nw20, nw21, w22⟩ | ⟨nw16, nw17, nw18, nw19, nw20, nw21, nw22⟩
      · refine lv_tableIn (off := 43) (tgt := 68) hx hb dX2_refusal_25 (by rw [w16]; decide) (by rw [w16]; decide) (by rw [w16]; rfl) (by decide) ?_
        refine lv_aload_n hx hb dX2_refusal_68 rfl (lv_at hl 0 rfl) ?_
        refine lv_aload_n hx hb dX2_refusal_69 rfl (lv_at hl 2 rfl) ?_
        refine g_get C0 G h_st rfl hiX5 1 (by decide) mf_X2_90 rfl dX2_refusal_70 ?_
        refine g_cI C0 G (g_runV C0 G (rest := []) (c_X0_bowlRefusal hfl nu h_ij0 h_t2j0 h_a2j0 h_oj0) h_ij0 rfl hY_X0_bowlRefusal mm_X2_91 mi_X0_bowlRefusal ml_X0_bowlRefusal ⟨(Nat.le_of_ble_eq_true rfl), (Nat.le_of_ble_eq_true rfl)⟩ rfl hl.1 rfl (Nat.le_of_ble_eq_true rfl) dX2_refusal_73 ⟨(Nat.le_of_ble_eq_true rfl), (Nat.le_of_ble_eq_true rfl)⟩) (kx_no rfl) (fun r26 u25 H locs hp24 G => ?_)
        obtain ⟨er27, eu25⟩ := hp24
        rw [eu25] at G
        refine lv_topv (v := (X0_bowlRefusal_r3 g2 lf bw bb nu)) er27 ?_
        exact g_iret C0 G hr dX2_refusal_76 (Nat.le_of_ble_eq_true rfl) (Nat.le_of_ble_eq_true rfl) (by exact ⟨(by rw [X2_refusal02_r3, if_neg c11, if_pos c12, if_pos w16]), rfl⟩)
      · refine lv_tableIn (off := 52) (tgt := 77) hx hb dX2_refusal_25 (by rw [w17]; decide) (by rw [w17]; decide) (by rw [w17]; rfl) (by decide) ?_
        refine lv_aload_n hx hb dX2_refusal_77 rfl (lv_at hl 0 rfl) ?_
        refine g_get C0 G h_ij0 rfl hiX0 5 (by decide) mf_X2_95 rfl dX2_refusal_78 ?_
        refine g_get C0 G h_oj0 rfl hiX3 4 (by decide) mf_X2_98 rfl dX2_refusal_81 ?_
        refine lv_iconst (v := (-1)) hx hb dX2_refusal_84 (by decide) ?_
        have J30 : ∀ (y29 : Int32) (_ : y29 = nI (X2_refusal02_n0 bw)) (H : Heap) (locs : List Loc) (ls : Array Slot), hG D (hA f sz) f s9 H locs → lv_has ls 3 [(2, .ref (A (b + 2))), (0, .ref (A (b + 0))), (1, .ref st)] → W p9 l e9 ({ frames := 3, cells := 0, slots := 0, locals := 67 } : Room) s9 m9 ([.ref (A (b + 0)), .ref st] : List Value).toArray b9 t9 c9 H locs 0 0 (vx_MQ b9 (hQi (fun r u => r = (X2_refusal02_r3 ex ov g1 g2 lf bw bb ty nu wy kd ru so sc) ∧ u = f) D f sz) (hPx hNo D f sz) ([.ref (A (b + 0)), .ref st] : List Value).toArray s9 0 0 (hA f sz)) (F0 m9 93 ls [.int y29]) := by
          intro y29 ey29 H locs ls G hl
          replace ey29 := Eq.symm ey29
          subst ey29
          have bd32 : (X2_refusal02_n0 bw) ≤ 3 := by unfold X2_refusal02_n0; repeat (first | omega | split)
          exact g_iret C0 G hr dX2_refusal_93 (Nat.le_of_ble_eq_true rfl) (Nat.le_of_ble_eq_true rfl) (by exact ⟨(by rw [X2_refusal02_r3, if_neg c11, if_pos c12, if_neg nw16, if_pos w17]), rfl⟩)
        refine lv_icmp_ne (tgt := 92) hx hb dX2_refusal_85 (by decide) (fun c28 => ?_) (fun c28 => ?_)
        · refine lv_iconst (v := 0) hx hb dX2_refusal_92 (by decide) ?_
          exact J30 0 (by rw [X2_refusal02_n0, if_neg c28] <;> rfl) _ _ _ G (lv_sub hl [0, 1, 2] rfl)
        · refine lv_iconst (v := 3) hx hb dX2_refusal_88 (by decide) ?_
          refine lv_goto (tgt := 93) hx hb dX2_refusal_89 (by decide) ?_
          exact J30 3 (by rw [X2_refusal02_n0, if_pos c28] <;> rfl) _ _ _ G (lv_sub hl [0, 1, 2] rfl)
      · refine lv_tableIn (off := 69) (tgt := 94) hx hb dX2_refusal_25 (by rw [w18]; decide) (by rw [w18]; decide) (by rw [w18]; rfl) (by decide) ?_
        refine lv_aload_n hx hb dX2_refusal_94 rfl (lv_at hl 0 rfl) ?_
        refine g_get C0 G h_ij0 rfl hiX0 5 (by decide) mf_X2_95 rfl dX2_refusal_95 ?_
        refine g_get C0 G h_oj0 rfl hiX3 4 (by decide) mf_X2_98 rfl dX2_refusal_98 ?_
        refine lv_iconst (v := (-1)) hx hb dX2_refusal_101 (by decide) ?_
        refine lv_icmp_ne (tgt := 107) hx hb dX2_refusal_102 (by decide) (fun c33 => ?_) (fun c33 => ?_)
        · refine lv_aload_n hx hb dX2_refusal_107 rfl (lv_at hl 2 rfl) ?_
          refine g_cI C0 G (g_runV C0 G (rest := []) (c_X5_isPossibleWicket hfl h_st) h_st rfl hY_X5_isPossibleWicket mm_X2_103 mi_X5_isPossibleWicket ml_X5_isPossibleWicket ⟨(Nat.le_of_ble_eq_true rfl), (Nat.le_of_ble_eq_true rfl)⟩ rfl hl.1 rfl (Nat.le_of_ble_eq_true rfl) dX2_refusal_108 ⟨(Nat.le_of_ble_eq_true rfl), (Nat.le_of_ble_eq_true rfl)⟩) (kx_no rfl) (fun r36 u35 H locs hp34 G => ?_)
          obtain ⟨er37, eu35⟩ := hp34
          rw [eu35] at G
          refine lv_topv (v := (X5_isPossibleWicket_r8 wy kd ru so sc)) er37 ?_
          have J40 : ∀ (y39 : Int32) (_ : y39 = nI (X2_refusal02_n1 wy kd ru so sc)) (H : Heap) (locs : List Loc) (ls : Array Slot), hG D (hA f sz) f s9 H locs → lv_has ls 3 [(2, .ref (A (b + 2))), (0, .ref (A (b + 0))), (1, .ref st)] → W p9 l e9 ({ frames := 3, cells := 0, slots := 0, locals := 67 } : Room) s9 m9 ([.ref (A (b + 0)), .ref st] : List Value).toArray b9 t9 c9 H locs 0 0 (vx_MQ b9 (hQi (fun r u => r = (X2_refusal02_r3 ex ov g1 g2 lf bw bb ty nu wy kd ru so sc) ∧ u = f) D f sz) (hPx hNo D f sz) ([.ref (A (b + 0)), .ref st] : List Value).toArray s9 0 0 (hA f sz)) (F0 m9 120 ls [.int y39]) := by
            intro y39 ey39 H locs ls G hl
            replace ey39 := Eq.symm ey39
            subst ey39
            have bd42 : (X2_refusal02_n1 wy kd ru so sc) ≤ 6 := by unfold X2_refusal02_n1; repeat (first | omega | split)
            exact g_iret C0 G hr dX2_refusal_120 (Nat.le_of_ble_eq_true rfl) (Nat.le_of_ble_eq_true rfl) (by exact ⟨(by rw [X2_refusal02_r3, if_neg c11, if_pos c12, if_neg nw16, if_neg nw17, if_pos w18, if_neg c33]), rfl⟩)
          refine lv_if_eq (tgt := 118) hx hb dX2_refusal_111 (by decide) (fun c38 => ?_) (fun c38 => ?_)
          · refine lv_bipush (v := 6) hx hb dX2_refusal_118 (by decide) ?_
            exact J40 6 (by rw [X2_refusal02_n1, if_pos c38] <;> rfl) _ _ _ G (lv_sub hl [0, 1, 2] rfl)
          · refine lv_iconst (v := 0) hx hb dX2_refusal_114 (by decide) ?_
            refine lv_goto (tgt := 120) hx hb dX2_refusal_115 (by decide) ?_
            exact J40 0 (by rw [X2_refusal02_n1, if_neg c38] <;> rfl) _ _ _ G (lv_sub hl [0, 1, 2] rfl)
        · refine lv_iconst (v := 3) hx hb dX2_refusal_105 (by decide) ?_
          exact g_iret C0 G hr dX2_refusal_106 (Nat.le_of_ble_eq_true rfl) (Nat.le_of_ble_eq_true rfl) (by exact ⟨(by rw [X2_refusal02_r3, if_neg c11, if_pos c12, if_neg nw16, if_neg nw17, if_pos w18, if_pos c33]), rfl⟩)
      · refine lv_tableIn (off := 138) (tgt := 163) hx hb dX2_refusal_25 (by rw [w19]; decide) (by rw [w19]; decide) (by rw [w19]; rfl) (by decide) ?_
        refine lv_iconst (v := 0) hx hb dX2_refusal_163 (by decide) ?_
        exact g_iret C0 G hr dX2_refusal_164 (Nat.le_of_ble_eq_true rfl) (Nat.le_of_ble_eq_true rfl) (by exact ⟨(by rw [X2_refusal02_r3, if_neg c11, if_pos c12, if_neg nw16, if_neg nw17, if_neg nw18, if_pos w19]), rfl⟩)
      · refine lv_tableIn (off := 96) (tgt := 121) hx hb dX2_refusal_25 (by rw [w20]; decide) (by rw [w20]; decide) (by rw [w20]; rfl) (by decide) ?_
        refine lv_aload_n hx hb dX2_refusal_121 rfl (lv_at hl 0 rfl) ?_
        refine lv_aload_n hx hb dX2_refusal_122 rfl (lv_at hl 2 rfl) ?_
        refine g_get C0 G h_st rfl hiX5 1 (by decide) mf_X2_90 rfl dX2_refusal_123 ?_
        refine g_cI C0 G (g_runV C0 G (rest := []) (c_X0_canComeIn hfl nu h_ij0 h_t1j0 h_a1j0) h_ij0 rfl hY_X0_canComeIn mm_X2_106 mi_X0_canComeIn ml_X0_canComeIn ⟨(Nat.le_of_ble_eq_true rfl), (Nat.le_of_ble_eq_true rfl)⟩ rfl hl.1 rfl (Nat.le_of_ble_eq_true rfl) dX2_refusal_126 ⟨(Nat.le_of_ble_eq_true rfl), (Nat.le_of_ble_eq_true rfl)⟩) (kx_no rfl) (fun r45 u44 H locs hp43 G => ?_)
        obtain ⟨er46, eu44⟩ := hp43
        rw [eu44] at G
        refine lv_topv (v := (X0_canComeIn_x1 g1 nu)) er46 ?_
        have J49 : ∀ (y48 : Int32) (_ : y48 = nI (X2_refusal02_n2 g1 nu)) (H : Heap) (locs : List Loc) (ls : Array Slot), hG D (hA f sz) f s9 H locs → lv_has ls 3 [(2, .ref (A (b + 2))), (0, .ref (A (b + 0))), (1, .ref st)] → W p9 l e9 ({ frames := 3, cells := 0, slots := 0, locals := 67 } : Room) s9 m9 ([.ref (A (b + 0)), .ref st] : List Value).toArray b9 t9 c9 H locs 0 0 (vx_MQ b9 (hQi (fun r u => r = (X2_refusal02_r3 ex ov g1 g2 lf bw bb ty nu wy kd ru so sc) ∧ u = f) D f sz) (hPx hNo D f sz) ([.ref (A (b + 0)), .ref st] : List Value).toArray s9 0 0 (hA f sz)) (F0 m9 137 ls [.int y48]) := by
          intro y48 ey48 H locs ls G hl
          replace ey48 := Eq.symm ey48
          subst ey48
          have bd51 : (X2_refusal02_n2 g1 nu) ≤ 5 := by unfold X2_refusal02_n2; repeat (first | omega | split)
          exact g_iret C0 G hr dX2_refusal_137 (Nat.le_of_ble_eq_true rfl) (Nat.le_of_ble_eq_true rfl) (by exact ⟨(by rw [X2_refusal02_r3, if_neg c11, if_pos c12, if_neg nw16, if_neg nw17, if_neg nw18, if_neg nw19, if_pos w20]), rfl⟩)
        refine lv_if_eq (tgt := 136) hx hb dX2_refusal_129 (by decide) (fun c47 => ?_) (fun c47 => ?_)
        · refine lv_iconst (v := 5) hx hb dX2_refusal_136 (by decide) ?_
          exact J49 5 (by rw [X2_refusal02_n2, if_pos c47] <;> rfl) _ _ _ G (lv_sub hl [0, 1, 2] rfl)
        · refine lv_iconst (v := 0) hx hb dX2_refusal_132 (by decide) ?_
          refine lv_goto (tgt := 137) hx hb dX2_refusal_133 (by decide) ?_
          exact J49 0 (by rw [X2_refusal02_n2, if_neg c47] <;> rfl) _ _ _ G (lv_sub hl [0, 1, 2] rfl)
      · refine lv_tableIn (off := 138) (tgt := 163) hx hb dX2_refusal_25 (by rw [w21]; decide) (by rw [w21]; decide) (by rw [w21]; rfl) (by decide) ?_
        refine lv_iconst (v := 0) hx hb dX2_refusal_163 (by decide) ?_
        exact g_iret C0 G hr dX2_refusal_164 (Nat.le_of_ble_eq_true rfl) (Nat.le_of_ble_eq_true rfl) (by exact ⟨(by rw [X2_refusal02_r3, if_neg c11, if_pos c12, if_neg nw16, if_neg nw17, if_neg nw18, if_neg nw19, if_neg nw20, if_pos w21]), rfl⟩)
      · refine lv_tableIn (off := 113) (tgt := 138) hx hb dX2_refusal_25 (by rw [w22]; decide) (by rw [w22]; decide) (by rw [w22]; rfl) (by decide) ?_
        refine lv_aload_n hx hb dX2_refusal_138 rfl (lv_at hl 1 rfl) ?_
        refine g_cI C0 G (g_runV C0 G (rest := []) (c_X2_hasResources hfl (A := A) (b := b) (ex := ex) (ov := ov) (ie := 2) (fi := fi) (nu := 0) (q := q) h_mt h_al hAj hq0 hq1 hq2 hq3) h_mt rfl hY_X2_hasResources mm_X2_50 mi_X2_hasResources ml_X2_hasResources ⟨(Nat.le_of_ble_eq_true rfl), (Nat.le_of_ble_eq_true rfl)⟩ rfl hl.1 rfl (Nat.le_of_ble_eq_true rfl) dX2_refusal_139 ⟨(Nat.le_of_ble_eq_true rfl), (Nat.le_of_ble_eq_true rfl)⟩) (kx_no rfl) (fun r54 u53 H locs hp52 G => ?_)
        obtain ⟨er55, eu53⟩ := hp52
        rw [eu53] at G
        refine lv_topv (v := (X2_hasResources_x0 2)) er55 ?_
        refine lv_topv (v := 0) (by decide) ?_
        refine lv_if_eq (tgt := 160) hx hb dX2_refusal_142 (by decide) (fun _ => ?_) (fun c56 => absurd (by decide) c56)
        refine lv_bipush (v := 8) hx hb dX2_refusal_160 (by decide) ?_
        exact g_iret C0 G hr dX2_refusal_162 (Nat.le_of_ble_eq_true rfl) (Nat.le_of_ble_eq_true rfl) (by exact ⟨(by rw [X2_refusal02_r3, if_neg c11, if_pos c12, if_neg nw16, if_neg nw17, if_neg nw18, if_neg nw19, if_neg nw20, if_neg nw21, if_pos w22]), rfl⟩)
      · have q57 : ty.toInt < 1 ∨ 7 < ty.toInt := by
          have tw16 : ty.toInt ≠ 1 := fun z => nw16 (Int32.toInt_inj.mp z)
          have tw17 : ty.toInt ≠ 2 := fun z => nw17 (Int32.toInt_inj.mp z)
          have tw18 : ty.toInt ≠ 3 := fun z => nw18 (Int32.toInt_inj.mp z)
          have tw19 : ty.toInt ≠ 4 := fun z => nw19 (Int32.toInt_inj.mp z)
          have tw20 : ty.toInt ≠ 5 := fun z => nw20 (Int32.toInt_inj.mp z)
          have tw21 : ty.toInt ≠ 6 := fun z => nw21 (Int32.toInt_inj.mp z)
          have tw22 : ty.toInt ≠ 7 := fun z => nw22 (Int32.toInt_inj.mp z)
          omega
        refine lv_tableOut (tgt := 163) hx hb dX2_refusal_25 q57 (by decide) ?_
        refine lv_iconst (v := 0) hx hb dX2_refusal_163 (by decide) ?_
        exact g_iret C0 G hr dX2_refusal_164 (Nat.le_of_ble_eq_true rfl) (Nat.le_of_ble_eq_true rfl) (by exact ⟨(by rw [X2_refusal02_r3, if_neg c11, if_pos c12, if_neg nw16, if_neg nw17, if_neg nw18, if_neg nw19, if_neg nw20, if_neg nw21, if_neg nw22]), rfl⟩)
    · refine lv_iconst (v := 1) hx hb dX2_refusal_14 (by decide) ?_
      exact g_iret C0 G hr dX2_refusal_15 (Nat.le_of_ble_eq_true rfl) (Nat.le_of_ble_eq_true rfl) (by exact ⟨(by rw [X2_refusal02_r3, if_neg c11, if_neg c12]), rfl⟩)
def X2_dueEnd02_x0 (nc : Int32) (lm : Int32) (oc : Int32) (dl : Int32) : Int32 := if dl = 0 then (X0_ending_r1 lm oc nc) else 3
set_option maxRecDepth 100000 in
theorem c_X2_dueEnd02 {l : Launch} (hfl : l.stackTraces = false) {D : va_G} {cy : Nat → ClassId} {f : Hf} {sz : Nat} {A : Nat → Nat} {b : Nat} {ex : Int32} {ov : Int32} {fi : Int32} {q : Nat → Option Nat} {rs : Int32} {sk : Int32} {ot : Int32} {ch : Int32} {nc : Int32} {g0 : Nat → Int32} {lm : Int32} {lf : Int32} {oc : Int32} {bw : Int32} {bb : Int32} {bl : Int32} {cd : Int32} {hbg : Int32} {go : Nat → Int32} (dl : Int32) (h_mt : f (A (b + 0)) = some (.inr (4, [.ref (A (b + 1)), .int ex, .int ov, .int 2, .int fi, .int 0]))) (h_al : f (A (b + 1)) = some (.inl (cy 3, 4, .inr (.inr (.inr (.inr q)))))) (h_ij0 : f (A (b + 2)) = some (.inr (2, [.ref (A (b + 3)), .ref (A (b + 5)), .ref (A (b + 7)), .ref (A (b + 9)), .ref (A (b + 11)), .ref (A (b + 13)), .int rs, .int sk, .int ot, .int ch, .int nc]))) (h_t0j0 : f (A (b + 3)) = some (.inr (8, [.int 8, .ref (A (b + 4)), .int 1]))) (h_a0j0 : f (A (b + 4)) = some (.inl (cy 0, 8, .inl g0))) (h_oj0 : f (A (b + 13)) = some (.inr (5, [.ref (A (b + 14)), .int lm, .int lf, .int oc, .int bw, .int bb, .int bl, .int cd, .int hbg]))) (h_oaj0 : f (A (b + 14)) = some (.inl (cy 0, 20, .inl go))) (hAj : ∀ i j : Nat, i ≠ j → A i ≠ A j) (hq0 : q 0 = some (A (b + 2))) (hq1 : q 1 = some (A (b + 15))) (hq2 : q 2 = some (A (b + 28))) (hq3 : q 3 = some (A (b + 41))) : hMet l yX2_dueEnd cX2_dueEnd 3 (some .int) { frames := 3, cells := 0, slots := 0, locals := 56 } D (hTy cy) f sz [.ref (A (b + 0)), .int dl] (hQi (fun r u => r = (X2_dueEnd02_x0 nc lm oc dl) ∧ u = f) D f sz) hNo := by
  refine h_enter (by decide) hfl (Nat.le_of_ble_eq_true rfl) ?_
  intro p9 e9 s9 m9 b9 t9 c9 hsz C0 hr hnm G ls hl
  have hx := C0.1.1
  have hb := C0.1.2.1
  have hl : lv_has ls 3 [(0, .ref (A (b + 0))), (1, .int dl)] := hl
  refine lv_aload_n hx hb dX2_dueEnd_0 rfl (lv_at hl 0 rfl) ?_
  refine g_cR C0 G (g_runV C0 G (rest := []) (c_X2_present0 hfl (A := A) (b := b) (ex := ex) (ov := ov) (ie := 2) (fi := fi) (q := q) h_mt h_al hAj hq0 hq1 hq2 hq3) h_mt rfl hY_X2_present mm_X2_43 mi_X2_present ml_X2_present ⟨(Nat.le_of_ble_eq_true rfl), (Nat.le_of_ble_eq_true rfl)⟩ rfl hl.1 rfl (Nat.le_of_ble_eq_true rfl) dX2_dueEnd_1 ⟨(Nat.le_of_ble_eq_true rfl), (Nat.le_of_ble_eq_true rfl)⟩) (kx_no rfl) (fun a13 u12 H locs hp11 G => ?_)
  obtain ⟨zr, eu12⟩ := hp11
  replace zr := Eq.symm zr
  subst zr
  rw [eu12] at G
  refine lv_astore_n (lv' := [(2, .ref (A (b + 2))), (0, .ref (A (b + 0))), (1, .int dl)]) hx hb dX2_dueEnd_4 rfl hl (by decide) rfl (fun ls hl => ?_)
  refine lv_aload_n hx hb dX2_dueEnd_5 rfl (lv_at hl 1 rfl) ?_
  refine g_cI C0 G (g_runV C0 G (rest := []) (c_X2_isLastPlayed hfl (A := A) (b := b) (ex := ex) (ov := ov) (ie := 2) (fi := fi) (nu := 0) (q := q) h_mt h_al hAj hq0 hq1 hq2 hq3) h_mt rfl hY_X2_isLastPlayed mm_X2_145 mi_X2_isLastPlayed ml_X2_isLastPlayed ⟨(Nat.le_of_ble_eq_true rfl), (Nat.le_of_ble_eq_true rfl)⟩ rfl hl.1 rfl (Nat.le_of_ble_eq_true rfl) dX2_dueEnd_6 ⟨(Nat.le_of_ble_eq_true rfl), (Nat.le_of_ble_eq_true rfl)⟩) (kx_no rfl) (fun r16 u15 H locs hp14 G => ?_)
  obtain ⟨er17, eu15⟩ := hp14
  rw [eu15] at G
  refine lv_topv (v := (X2_isLastPlayed_x0 2 0)) er17 ?_
  refine lv_topv (v := 0) (by decide) ?_
  refine lv_if_eq (tgt := 26) hx hb dX2_dueEnd_9 (by decide) (fun _ => ?_) (fun c18 => absurd (by decide) c18)
  refine lv_iload_n hx hb dX2_dueEnd_26 rfl (lv_at hl 2 rfl) ?_
  have J21 : ∀ (y20 : Int32) (_ : y20 = (X2_dueEnd02_x0 nc lm oc dl)) (H : Heap) (locs : List Loc) (ls : Array Slot), hG D (hA f sz) f s9 H locs → lv_has ls 3 [(2, .ref (A (b + 2))), (0, .ref (A (b + 0))), (1, .int dl)] → W p9 l e9 ({ frames := 3, cells := 0, slots := 0, locals := 56 } : Room) s9 m9 ([.ref (A (b + 0)), .int dl] : List Value).toArray b9 t9 c9 H locs 0 0 (vx_MQ b9 (hQi (fun r u => r = (X2_dueEnd02_x0 nc lm oc dl) ∧ u = f) D f sz) (hPx hNo D f sz) ([.ref (A (b + 0)), .int dl] : List Value).toArray s9 0 0 (hA f sz)) (F0 m9 38 ls [.int y20]) := by
    intro y20 ey20 H locs ls G hl
    replace ey20 := Eq.symm ey20
    subst ey20
    exact g_iret C0 G hr dX2_dueEnd_38 (Nat.le_of_ble_eq_true rfl) (Nat.le_of_ble_eq_true rfl) (by exact ⟨rfl, rfl⟩)
  refine lv_if_eq (tgt := 34) hx hb dX2_dueEnd_27 (by decide) (fun c19 => ?_) (fun c19 => ?_)
  · refine lv_aload_n hx hb dX2_dueEnd_34 rfl (lv_at hl 0 rfl) ?_
    refine g_cI C0 G (g_runV C0 G (rest := []) (c_X0_ending hfl h_ij0 h_oj0) h_ij0 rfl hY_X0_ending mm_X2_151 mi_X0_ending ml_X0_ending ⟨(Nat.le_of_ble_eq_true rfl), (Nat.le_of_ble_eq_true rfl)⟩ rfl hl.1 rfl (Nat.le_of_ble_eq_true rfl) dX2_dueEnd_35 ⟨(Nat.le_of_ble_eq_true rfl), (Nat.le_of_ble_eq_true rfl)⟩) (kx_no rfl) (fun r25 u24 H locs hp23 G => ?_)
    obtain ⟨er26, eu24⟩ := hp23
    rw [eu24] at G
    refine lv_topv (v := (X0_ending_r1 lm oc nc)) er26 ?_
    exact J21 (X0_ending_r1 lm oc nc) (by rw [X2_dueEnd02_x0, if_pos c19]) _ _ _ G (lv_sub hl [0, 1, 2] rfl)
  · refine lv_iconst (v := 3) hx hb dX2_dueEnd_30 (by decide) ?_
    refine lv_goto (tgt := 38) hx hb dX2_dueEnd_31 (by decide) ?_
    exact J21 3 (by rw [X2_dueEnd02_x0, if_neg c19]) _ _ _ G (lv_sub hl [0, 1, 2] rfl)
def X2_goOn02_g0 (g0_n : Nat → Int32) : Nat → Int32 := (X0_start_g12 g0_n)
def X2_goOn02_g1 (g1_n : Nat → Int32) : Nat → Int32 := (X0_start_g10 g1_n)
def X2_goOn02_g2 (g2_n : Nat → Int32) : Nat → Int32 := (X0_start_g13 g2_n)
def X2_goOn02_g3 (g3_n : Nat → Int32) : Nat → Int32 := (X0_start_g14 g3_n)
def X2_goOn02_g4 (g4_n : Nat → Int32) : Nat → Int32 := (X0_start_g15 g4_n)
set_option maxRecDepth 100000 in
theorem c_X2_goOn02 {l : Launch} (hfl : l.stackTraces = false) {D : va_G} {cy : Nat → ClassId} {f : Hf} {sz : Nat} {A : Nat → Nat} {b : Nat} {ex : Int32} {ov : Int32} {fi : Int32} {q : Nat → Option Nat} {rs : Int32} {sk : Int32} {ot : Int32} {ch : Int32} {nc : Int32} {g0 : Nat → Int32} {lm : Int32} {lf : Int32} {oc : Int32} {bw : Int32} {bb : Int32} {bl : Int32} {cd : Int32} {hbg : Int32} {go : Nat → Int32} {rs_n : Int32} {sk_n : Int32} {ot_n : Int32} {ch_n : Int32} {nc_n : Int32} {r0_n : Int32} {g0_n : Nat → Int32} {r1_n : Int32} {g1_n : Nat → Int32} {r2_n : Int32} {g2_n : Nat → Int32} {r3_n : Int32} {g3_n : Nat → Int32} {r4_n : Int32} {g4_n : Nat → Int32} {lm_n : Int32} {lf_n : Int32} {oc_n : Int32} {bw_n : Int32} {bb_n : Int32} {bl_n : Int32} {cd_n : Int32} {hbg_n : Int32} {go_n : Nat → Int32} (h_mt : f (A (b + 0)) = some (.inr (4, [.ref (A (b + 1)), .int ex, .int ov, .int 2, .int fi, .int 0]))) (h_al : f (A (b + 1)) = some (.inl (cy 3, 4, .inr (.inr (.inr (.inr q)))))) (h_ij0 : f (A (b + 2)) = some (.inr (2, [.ref (A (b + 3)), .ref (A (b + 5)), .ref (A (b + 7)), .ref (A (b + 9)), .ref (A (b + 11)), .ref (A (b + 13)), .int rs, .int sk, .int ot, .int ch, .int nc]))) (h_t0j0 : f (A (b + 3)) = some (.inr (8, [.int 8, .ref (A (b + 4)), .int 1]))) (h_a0j0 : f (A (b + 4)) = some (.inl (cy 0, 8, .inl g0))) (h_oj0 : f (A (b + 13)) = some (.inr (5, [.ref (A (b + 14)), .int lm, .int lf, .int oc, .int bw, .int bb, .int bl, .int cd, .int hbg]))) (h_oaj0 : f (A (b + 14)) = some (.inl (cy 0, 20, .inl go))) (h_ij1 : f (A (b + 15)) = some (.inr (2, [.ref (A (b + 16)), .ref (A (b + 18)), .ref (A (b + 20)), .ref (A (b + 22)), .ref (A (b + 24)), .ref (A (b + 26)), .int rs_n, .int sk_n, .int ot_n, .int ch_n, .int nc_n]))) (h_t0j1 : f (A (b + 16)) = some (.inr (8, [.int 8, .ref (A (b + 17)), .int r0_n]))) (h_a0j1 : f (A (b + 17)) = some (.inl (cy 0, 8, .inl g0_n))) (h_t1j1 : f (A (b + 18)) = some (.inr (8, [.int 6, .ref (A (b + 19)), .int r1_n]))) (h_a1j1 : f (A (b + 19)) = some (.inl (cy 0, 66, .inl g1_n))) (h_t2j1 : f (A (b + 20)) = some (.inr (8, [.int 7, .ref (A (b + 21)), .int r2_n]))) (h_a2j1 : f (A (b + 21)) = some (.inl (cy 0, 77, .inl g2_n))) (h_t3j1 : f (A (b + 22)) = some (.inr (8, [.int 8, .ref (A (b + 23)), .int r3_n]))) (h_a3j1 : f (A (b + 23)) = some (.inl (cy 0, 4104, .inl g3_n))) (h_t4j1 : f (A (b + 24)) = some (.inr (8, [.int 3, .ref (A (b + 25)), .int r4_n]))) (h_a4j1 : f (A (b + 25)) = some (.inl (cy 0, 33, .inl g4_n))) (h_oj1 : f (A (b + 26)) = some (.inr (5, [.ref (A (b + 27)), .int lm_n, .int lf_n, .int oc_n, .int bw_n, .int bb_n, .int bl_n, .int cd_n, .int hbg_n]))) (h_oaj1 : f (A (b + 27)) = some (.inl (cy 0, 20, .inl go_n))) (hAj : ∀ i j : Nat, i ≠ j → A i ≠ A j) (hq0 : q 0 = some (A (b + 2))) (hq1 : q 1 = some (A (b + 15))) (hq2 : q 2 = some (A (b + 28))) (hq3 : q 3 = some (A (b + 41))) : hMet l yX2_goOn cX2_goOn 3 none { frames := 3, cells := 0, slots := 0, locals := 69 } D (hTy cy) f sz [.ref (A (b + 0))] (hQv (fun u => u (A (b + 0)) = some (.inr (4, [.ref (A (b + 1)), .int ex, .int ov, .int 2, .int fi, .int 1])) ∧ u (A (b + 16)) = some (.inr (8, [.int 8, .ref (A (b + 17)), .int 1])) ∧ u (A (b + 17)) = some (.inl (cy 0, 8, .inl (X2_goOn02_g0 g0_n))) ∧ u (A (b + 18)) = some (.inr (8, [.int 6, .ref (A (b + 19)), .int 11])) ∧ u (A (b + 19)) = some (.inl (cy 0, 66, .inl (X2_goOn02_g1 g1_n))) ∧ u (A (b + 20)) = some (.inr (8, [.int 7, .ref (A (b + 21)), .int 11])) ∧ u (A (b + 21)) = some (.inl (cy 0, 77, .inl (X2_goOn02_g2 g2_n))) ∧ u (A (b + 22)) = some (.inr (8, [.int 8, .ref (A (b + 23)), .int 1])) ∧ u (A (b + 23)) = some (.inl (cy 0, 4104, .inl (X2_goOn02_g3 g3_n))) ∧ u (A (b + 24)) = some (.inr (8, [.int 3, .ref (A (b + 25)), .int 0])) ∧ u (A (b + 25)) = some (.inl (cy 0, 33, .inl (X2_goOn02_g4 g4_n))) ∧ u (A (b + 26)) = some (.inr (5, [.ref (A (b + 27)), .int lm, .int lm, .int 0, .int (-1), .int (-1), .int 0, .int 0, .int 0])) ∧ u (A (b + 15)) = some (.inr (2, [.ref (A (b + 16)), .ref (A (b + 18)), .ref (A (b + 20)), .ref (A (b + 22)), .ref (A (b + 24)), .ref (A (b + 26)), .int (X0_start_x11 g0_n lm 0), .int 0, .int 1, .int (-1), .int 0])) ∧ hFrL f u [(A (b + 0)), (A (b + 16)), (A (b + 17)), (A (b + 18)), (A (b + 19)), (A (b + 20)), (A (b + 21)), (A (b + 22)), (A (b + 23)), (A (b + 24)), (A (b + 25)), (A (b + 26)), (A (b + 15))]) D f sz) hNo := by
  refine h_enter (by decide) hfl (Nat.le_of_ble_eq_true rfl) ?_
  intro p9 e9 s9 m9 b9 t9 c9 hsz C0 hr hnm G ls hl
  have hx := C0.1.1
  have hb := C0.1.2.1
  have hl : lv_has ls 3 [(0, .ref (A (b + 0)))] := hl
  refine lv_aload_n hx hb dX2_goOn_0 rfl (lv_at hl 0 rfl) ?_
  refine g_get C0 G h_mt rfl hiX2 5 (by decide) mf_X2_31 rfl dX2_goOn_1 ?_
  refine lv_iconst (v := 1) hx hb dX2_goOn_4 (by decide) ?_
  refine lv_iadd hx hb dX2_goOn_5 ?_
  refine lv_topv (v := 1) (by decide) ?_
  refine lv_aload_n hx hb dX2_goOn_6 rfl (lv_at hl 0 rfl) ?_
  refine g_cI C0 G (g_runV C0 G (rest := [.int 1]) (c_X2_lastNumber hfl (A := A) (b := b) (ex := ex) (ov := ov) (ie := 2) (fi := fi) (nu := 0) (q := q) h_mt h_al hAj hq0 hq1 hq2 hq3) h_mt rfl hY_X2_lastNumber mm_X2_81 mi_X2_lastNumber ml_X2_lastNumber ⟨(Nat.le_of_ble_eq_true rfl), (Nat.le_of_ble_eq_true rfl)⟩ rfl hl.1 rfl (Nat.le_of_ble_eq_true rfl) dX2_goOn_7 ⟨(Nat.le_of_ble_eq_true rfl), (Nat.le_of_ble_eq_true rfl)⟩) (kx_no rfl) (fun r13 u12 H locs hp11 G => ?_)
  obtain ⟨er14, eu12⟩ := hp11
  rw [eu12] at G
  refine lv_topv (v := (X2_lastNumber_r0 2)) er14 ?_
  refine lv_topv (v := 3) (by decide) ?_
  refine lv_icmp_ne (tgt := 17) hx hb dX2_goOn_10 (by decide) (fun _ => ?_) (fun c15 => absurd c15 (by decide))
  refine lv_iconst (v := 0) hx hb dX2_goOn_17 (by decide) ?_
  refine lv_istore_n (lv' := [(1, .int 0), (0, .ref (A (b + 0)))]) hx hb dX2_goOn_18 rfl hl (by decide) rfl (fun ls hl => ?_)
  refine lv_aload_n hx hb dX2_goOn_19 rfl (lv_at hl 1 rfl) ?_
  refine g_cI C0 G (g_runV C0 G (rest := []) (c_X2_isLastPlayed hfl (A := A) (b := b) (ex := ex) (ov := ov) (ie := 2) (fi := fi) (nu := 0) (q := q) h_mt h_al hAj hq0 hq1 hq2 hq3) h_mt rfl hY_X2_isLastPlayed mm_X2_145 mi_X2_isLastPlayed ml_X2_isLastPlayed ⟨(Nat.le_of_ble_eq_true rfl), (Nat.le_of_ble_eq_true rfl)⟩ rfl hl.1 rfl (Nat.le_of_ble_eq_true rfl) dX2_goOn_20 ⟨(Nat.le_of_ble_eq_true rfl), (Nat.le_of_ble_eq_true rfl)⟩) (kx_no rfl) (fun r18 u17 H locs hp16 G => ?_)
  obtain ⟨er19, eu17⟩ := hp16
  rw [eu17] at G
  refine lv_topv (v := (X2_isLastPlayed_x0 2 0)) er19 ?_
  refine lv_topv (v := 0) (by decide) ?_
  refine lv_if_ne (tgt := 44) hx hb dX2_goOn_23 (by decide) (fun c20 => absurd (by decide) c20) (fun _ => ?_)
  refine lv_iload_n hx hb dX2_goOn_26 rfl (lv_at hl 0 rfl) ?_
  refine lv_if_eq (tgt := 50) hx hb dX2_goOn_27 (by decide) (fun _ => ?_) (fun c21 => absurd (by decide) c21)
  refine lv_aload_n hx hb dX2_goOn_50 rfl (lv_at hl 1 rfl) ?_
  refine g_cR C0 G (g_runV C0 G (rest := []) (c_X2_present0 hfl (A := A) (b := b) (ex := ex) (ov := ov) (ie := 2) (fi := fi) (q := q) h_mt h_al hAj hq0 hq1 hq2 hq3) h_mt rfl hY_X2_present mm_X2_43 mi_X2_present ml_X2_present ⟨(Nat.le_of_ble_eq_true rfl), (Nat.le_of_ble_eq_true rfl)⟩ rfl hl.1 rfl (Nat.le_of_ble_eq_true rfl) dX2_goOn_51 ⟨(Nat.le_of_ble_eq_true rfl), (Nat.le_of_ble_eq_true rfl)⟩) (kx_no rfl) (fun a24 u23 H locs hp22 G => ?_)
  obtain ⟨zr, eu23⟩ := hp22
  replace zr := Eq.symm zr
  subst zr
  rw [eu23] at G
  refine g_get C0 G h_ij0 rfl hiX0 5 (by decide) mf_X2_95 rfl dX2_goOn_54 ?_
  refine g_get C0 G h_oj0 rfl hiX3 1 (by decide) mf_X2_154 rfl dX2_goOn_57 ?_
  refine lv_istore_n (lv' := [(2, .int lm), (1, .int 0), (0, .ref (A (b + 0)))]) hx hb dX2_goOn_60 rfl hl (by decide) rfl (fun ls hl => ?_)
  refine lv_aload_n hx hb dX2_goOn_61 rfl (lv_at hl 2 rfl) ?_
  refine lv_dup hx hb dX2_goOn_62 rfl ?_
  refine g_get C0 G h_mt rfl hiX2 5 (by decide) mf_X2_31 rfl dX2_goOn_63 ?_
  refine lv_iconst (v := 1) hx hb dX2_goOn_66 (by decide) ?_
  refine lv_iadd hx hb dX2_goOn_67 ?_
  refine lv_topv (v := 1) (by decide) ?_
  refine g_put C0 G h_mt rfl hiX2 tyX2 tyX2_ok nmX2 5 (by decide) mf_X2_31 rfl rfl rfl rfl (Nat.le_of_ble_eq_true rfl) dX2_goOn_68 (fun H locs f25 hf25 G => ?_)
  have k26 : f25 (A (b + 0)) = some (.inr (4, [.ref (A (b + 1)), .int ex, .int ov, .int 2, .int fi, .int 1])) := hus hf25
  refine lv_aload_n hx hb dX2_goOn_71 rfl (lv_at hl 2 rfl) ?_
  have k27 : f25 (A (b + 1)) = some (.inl (cy 3, 4, .inr (.inr (.inr (.inr q))))) := hup hf25 (hAj _ _ (by omega)) h_al
  refine g_cR C0 G (g_runV C0 G (rest := []) (c_X2_present1 hfl (A := A) (b := b) (ex := ex) (ov := ov) (ie := 2) (fi := fi) (q := q) k26 k27 hAj hq0 hq1 hq2 hq3) k26 rfl hY_X2_present mm_X2_43 mi_X2_present ml_X2_present ⟨(Nat.le_of_ble_eq_true rfl), (Nat.le_of_ble_eq_true rfl)⟩ rfl hl.1 rfl (Nat.le_of_ble_eq_true rfl) dX2_goOn_72 ⟨(Nat.le_of_ble_eq_true rfl), (Nat.le_of_ble_eq_true rfl)⟩) (kx_no rfl) (fun a30 u29 H locs hp28 G => ?_)
  obtain ⟨zr, eu29⟩ := hp28
  replace zr := Eq.symm zr
  subst zr
  rw [eu29] at G
  refine lv_iload_n hx hb dX2_goOn_75 rfl (lv_at hl 0 rfl) ?_
  refine lv_aload_n hx hb dX2_goOn_76 rfl (lv_at hl 2 rfl) ?_
  refine g_cI C0 G (g_runV C0 G (rest := [.int lm, .ref (A (b + 15))]) (c_X2_hasResources hfl (A := A) (b := b) (ex := ex) (ov := ov) (ie := 2) (fi := fi) (nu := 1) (q := q) k26 k27 hAj hq0 hq1 hq2 hq3) k26 rfl hY_X2_hasResources mm_X2_50 mi_X2_hasResources ml_X2_hasResources ⟨(Nat.le_of_ble_eq_true rfl), (Nat.le_of_ble_eq_true rfl)⟩ rfl hl.1 rfl (Nat.le_of_ble_eq_true rfl) dX2_goOn_77 ⟨(Nat.le_of_ble_eq_true rfl), (Nat.le_of_ble_eq_true rfl)⟩) (kx_no rfl) (fun r33 u32 H locs hp31 G => ?_)
  obtain ⟨er34, eu32⟩ := hp31
  rw [eu32] at G
  refine lv_topv (v := (X2_hasResources_x0 2)) er34 ?_
  refine lv_topv (v := 0) (by decide) ?_
  have k35 : f25 (A (b + 15)) = some (.inr (2, [.ref (A (b + 16)), .ref (A (b + 18)), .ref (A (b + 20)), .ref (A (b + 22)), .ref (A (b + 24)), .ref (A (b + 26)), .int rs_n, .int sk_n, .int ot_n, .int ch_n, .int nc_n])) := hup hf25 (hAj _ _ (by omega)) h_ij1
  have k36 : f25 (A (b + 16)) = some (.inr (8, [.int 8, .ref (A (b + 17)), .int r0_n])) := hup hf25 (hAj _ _ (by omega)) h_t0j1
  have k37 : f25 (A (b + 17)) = some (.inl (cy 0, 8, .inl g0_n)) := hup hf25 (hAj _ _ (by omega)) h_a0j1
  have k38 : f25 (A (b + 18)) = some (.inr (8, [.int 6, .ref (A (b + 19)), .int r1_n])) := hup hf25 (hAj _ _ (by omega)) h_t1j1
  have k39 : f25 (A (b + 19)) = some (.inl (cy 0, 66, .inl g1_n)) := hup hf25 (hAj _ _ (by omega)) h_a1j1
  have k40 : f25 (A (b + 20)) = some (.inr (8, [.int 7, .ref (A (b + 21)), .int r2_n])) := hup hf25 (hAj _ _ (by omega)) h_t2j1
  have k41 : f25 (A (b + 21)) = some (.inl (cy 0, 77, .inl g2_n)) := hup hf25 (hAj _ _ (by omega)) h_a2j1
  have k42 : f25 (A (b + 22)) = some (.inr (8, [.int 8, .ref (A (b + 23)), .int r3_n])) := hup hf25 (hAj _ _ (by omega)) h_t3j1
  have k43 : f25 (A (b + 23)) = some (.inl (cy 0, 4104, .inl g3_n)) := hup hf25 (hAj _ _ (by omega)) h_a3j1
  have k44 : f25 (A (b + 24)) = some (.inr (8, [.int 3, .ref (A (b + 25)), .int r4_n])) := hup hf25 (hAj _ _ (by omega)) h_t4j1
  have k45 : f25 (A (b + 25)) = some (.inl (cy 0, 33, .inl g4_n)) := hup hf25 (hAj _ _ (by omega)) h_a4j1
  have k46 : f25 (A (b + 26)) = some (.inr (5, [.ref (A (b + 27)), .int lm_n, .int lf_n, .int oc_n, .int bw_n, .int bb_n, .int bl_n, .int cd_n, .int hbg_n])) := hup hf25 (hAj _ _ (by omega)) h_oj1
  have k47 : f25 (A (b + 27)) = some (.inl (cy 0, 20, .inl go_n)) := hup hf25 (hAj _ _ (by omega)) h_oaj1
  refine g_cV C0 G (g_runV C0 G (rest := []) (c_X0_start hfl lm 0 k35 k36 k37 k38 k39 k40 k41 k42 k43 k44 k45 k46 k47 (hAj _ _ (by omega))) k35 rfl hY_X0_start mm_X2_53 mi_X0_start ml_X0_start ⟨(Nat.le_of_ble_eq_true rfl), (Nat.le_of_ble_eq_true rfl)⟩ rfl hl.1 rfl (Nat.le_of_ble_eq_true rfl) dX2_goOn_80 ⟨(Nat.le_of_ble_eq_true rfl), (Nat.le_of_ble_eq_true rfl)⟩) (kx_no rfl) (fun u49 H locs hp48 G => ?_)
  obtain ⟨k50, k51, k52, k53, k54, k55, k56, k57, k58, k59, k60, k61, fr62⟩ := hp48
  have k63 : u49 (A (b + 0)) = some (.inr (4, [.ref (A (b + 1)), .int ex, .int ov, .int 2, .int fi, .int 1])) := fr62 _ _ (nm_c (hAb hAj rfl) (nm_c (hAb hAj rfl) (nm_c (hAb hAj rfl) (nm_c (hAb hAj rfl) (nm_c (hAb hAj rfl) (nm_c (hAb hAj rfl) (nm_c (hAb hAj rfl) (nm_c (hAb hAj rfl) (nm_c (hAb hAj rfl) (nm_c (hAb hAj rfl) (nm_c (hAb hAj rfl) (nm_c (hAb hAj rfl) nm_0)))))))))))) k26
  exact g_vret C0 G hr dX2_goOn_83 (Nat.le_of_ble_eq_true rfl) (Nat.le_of_ble_eq_true rfl) (by exact ⟨k63, k50, (by rw [(by rw [X2_goOn02_g0] : (X2_goOn02_g0 g0_n) = (X0_start_g12 g0_n))]; exact k51), k52, (by rw [(by rw [X2_goOn02_g1] : (X2_goOn02_g1 g1_n) = (X0_start_g10 g1_n))]; exact k53), k54, (by rw [(by rw [X2_goOn02_g2] : (X2_goOn02_g2 g2_n) = (X0_start_g13 g2_n))]; exact k55), k56, (by rw [(by rw [X2_goOn02_g3] : (X2_goOn02_g3 g3_n) = (X0_start_g14 g3_n))]; exact k57), k58, (by rw [(by rw [X2_goOn02_g4] : (X2_goOn02_g4 g4_n) = (X0_start_g15 g4_n))]; exact k59), k60, k61, (fun a9 e9 h7 h8 => fr62 _ _ (fun q => h7 (by simp only [List.mem_cons, List.not_mem_nil, or_false] at q ⊢; first | exact q | (rcases q with q | q | q | q | q | q | q | q | q | q | q | q <;> simp [q]) | omega)) (hup hf25 (fun q => h7 (by rw [q]; simp)) (h8)))⟩)
def X2_refusal12_n0 (bw : Int32) : Nat := if bw = (-1) then 3 else 0
def X2_refusal12_n1 (wy : Int32) (kd : Int32) (ru : Int32) (so : Int32) (sc : Int32) : Nat := if (X5_isPossibleWicket_r8 wy kd ru so sc) = 0 then 6 else 0
def X2_refusal12_n2 (g1 : Nat → Int32) (nu : Int32) : Nat := if (X0_canComeIn_x1 g1 nu) = 0 then 5 else 0
def X2_refusal12_r3 (ex : Int32) (ov : Int32) (g1 : Nat → Int32) (g2 : Nat → Int32) (lf : Int32) (bw : Int32) (bb : Int32) (ty : Int32) (nu : Int32) (wy : Int32) (kd : Int32) (ru : Int32) (so : Int32) (sc : Int32) : Int32 := if ex = 0 then 1 else (if ov = 0 then (if ty = 1 then (X0_bowlRefusal_r3 g2 lf bw bb nu) else (if ty = 2 then (nI (X2_refusal12_n0 bw)) else (if ty = 3 then (if bw = (-1) then 3 else (nI (X2_refusal12_n1 wy kd ru so sc))) else (if ty = 4 then 0 else (if ty = 5 then (nI (X2_refusal12_n2 g1 nu)) else (if ty = 6 then 0 else (if ty = 7 then 8 else 0))))))) else 1)
set_option maxRecDepth 100000 in
theorem c_X2_refusal12 {l : Launch} (hfl : l.stackTraces = false) {D : va_G} {cy : Nat → ClassId} {f : Hf} {sz : Nat} {A : Nat → Nat} {b : Nat} {st : Nat} {ex : Int32} {ov : Int32} {fi : Int32} {q : Nat → Option Nat} {rs : Int32} {sk : Int32} {ot : Int32} {ch : Int32} {nc : Int32} {g1 : Nat → Int32} {g2 : Nat → Int32} {lm : Int32} {lf : Int32} {oc : Int32} {bw : Int32} {bb : Int32} {bl : Int32} {cd : Int32} {hbg : Int32} {go : Nat → Int32} {ty : Int32} {nu : Int32} {wy : Int32} {kd : Int32} {ru : Int32} {so : Int32} {sb : Int32} {sc : Int32} {sh : Int32} (h_mt : f (A (b + 0)) = some (.inr (4, [.ref (A (b + 1)), .int ex, .int ov, .int 2, .int fi, .int 1]))) (h_al : f (A (b + 1)) = some (.inl (cy 3, 4, .inr (.inr (.inr (.inr q)))))) (h_ij1 : f (A (b + 15)) = some (.inr (2, [.ref (A (b + 16)), .ref (A (b + 18)), .ref (A (b + 20)), .ref (A (b + 22)), .ref (A (b + 24)), .ref (A (b + 26)), .int rs, .int sk, .int ot, .int ch, .int nc]))) (h_t1j1 : f (A (b + 18)) = some (.inr (8, [.int 6, .ref (A (b + 19)), .int 11]))) (h_a1j1 : f (A (b + 19)) = some (.inl (cy 0, 66, .inl g1))) (h_t2j1 : f (A (b + 20)) = some (.inr (8, [.int 7, .ref (A (b + 21)), .int 11]))) (h_a2j1 : f (A (b + 21)) = some (.inl (cy 0, 77, .inl g2))) (h_oj1 : f (A (b + 26)) = some (.inr (5, [.ref (A (b + 27)), .int lm, .int lf, .int oc, .int bw, .int bb, .int bl, .int cd, .int hbg]))) (h_oaj1 : f (A (b + 27)) = some (.inl (cy 0, 20, .inl go))) (h_st : f st = some (.inr (7, [.int ty, .int nu, .int wy, .int kd, .int ru, .int so, .int sb, .int sc, .int sh]))) (hAj : ∀ i j : Nat, i ≠ j → A i ≠ A j) (hq0 : q 0 = some (A (b + 2))) (hq1 : q 1 = some (A (b + 15))) (hq2 : q 2 = some (A (b + 28))) (hq3 : q 3 = some (A (b + 41))) : hMet l yX2_refusal cX2_refusal 3 (some .int) { frames := 3, cells := 0, slots := 0, locals := 67 } D (hTy cy) f sz [.ref (A (b + 0)), .ref st] (hQi (fun r u => r = (X2_refusal12_r3 ex ov g1 g2 lf bw bb ty nu wy kd ru so sc) ∧ u = f) D f sz) hNo := by
  refine h_enter (by decide) hfl (Nat.le_of_ble_eq_true rfl) ?_
  intro p9 e9 s9 m9 b9 t9 c9 hsz C0 hr hnm G ls hl
  have hx := C0.1.1
  have hb := C0.1.2.1
  have hl : lv_has ls 3 [(0, .ref (A (b + 0))), (1, .ref st)] := hl
  refine lv_aload_n hx hb dX2_refusal_0 rfl (lv_at hl 0 rfl) ?_
  refine g_get C0 G h_mt rfl hiX2 1 (by decide) mf_X2_17 rfl dX2_refusal_1 ?_
  refine lv_if_eq (tgt := 14) hx hb dX2_refusal_4 (by decide) (fun c11 => ?_) (fun c11 => ?_)
  · refine lv_iconst (v := 1) hx hb dX2_refusal_14 (by decide) ?_
    exact g_iret C0 G hr dX2_refusal_15 (Nat.le_of_ble_eq_true rfl) (Nat.le_of_ble_eq_true rfl) (by exact ⟨(by rw [X2_refusal12_r3, if_pos c11]), rfl⟩)
  · refine lv_aload_n hx hb dX2_refusal_7 rfl (lv_at hl 0 rfl) ?_
    refine g_get C0 G h_mt rfl hiX2 2 (by decide) mf_X2_21 rfl dX2_refusal_8 ?_
    refine lv_if_eq (tgt := 16) hx hb dX2_refusal_11 (by decide) (fun c12 => ?_) (fun c12 => ?_)
    · refine lv_aload_n hx hb dX2_refusal_16 rfl (lv_at hl 0 rfl) ?_
      refine g_cR C0 G (g_runV C0 G (rest := []) (c_X2_present1 hfl (A := A) (b := b) (ex := ex) (ov := ov) (ie := 2) (fi := fi) (q := q) h_mt h_al hAj hq0 hq1 hq2 hq3) h_mt rfl hY_X2_present mm_X2_43 mi_X2_present ml_X2_present ⟨(Nat.le_of_ble_eq_true rfl), (Nat.le_of_ble_eq_true rfl)⟩ rfl hl.1 rfl (Nat.le_of_ble_eq_true rfl) dX2_refusal_17 ⟨(Nat.le_of_ble_eq_true rfl), (Nat.le_of_ble_eq_true rfl)⟩) (kx_no rfl) (fun a15 u14 H locs hp13 G => ?_)
      obtain ⟨zr, eu14⟩ := hp13
      replace zr := Eq.symm zr
      subst zr
      rw [eu14] at G
      refine lv_astore_n (lv' := [(2, .ref (A (b + 15))), (0, .ref (A (b + 0))), (1, .ref st)]) hx hb dX2_refusal_20 rfl hl (by decide) rfl (fun ls hl => ?_)
      refine lv_aload_n hx hb dX2_refusal_21 rfl (lv_at hl 2 rfl) ?_
      refine g_get C0 G h_st rfl hiX5 0 (by decide) mf_X2_85 rfl dX2_refusal_22 ?_
      have sw23 : (ty = 1) ∨ (¬ ty = 1 ∧ ty = 2) ∨ (¬ ty = 1 ∧ ¬ ty = 2 ∧ ty = 3) ∨ (¬ ty = 1 ∧ ¬ ty = 2 ∧ ¬ ty = 3 ∧ ty = 4) ∨ (¬ ty = 1 ∧ ¬ ty = 2 ∧ ¬ ty = 3 ∧ ¬ ty = 4 ∧ ty = 5) ∨ (¬ ty = 1 ∧ ¬ ty = 2 ∧ ¬ ty = 3 ∧ ¬ ty = 4 ∧ ¬ ty = 5 ∧ ty = 6) ∨ (¬ ty = 1 ∧ ¬ ty = 2 ∧ ¬ ty = 3 ∧ ¬ ty = 4 ∧ ¬ ty = 5 ∧ ¬ ty = 6 ∧ ty = 7) ∨ (¬ ty = 1 ∧ ¬ ty = 2 ∧ ¬ ty = 3 ∧ ¬ ty = 4 ∧ ¬ ty = 5 ∧ ¬ ty = 6 ∧ ¬ ty = 7) := by
        by_cases w16 : ty = 1
        · exact Or.inl w16
        rename ¬ ty = 1 => nw16
        by_cases w17 : ty = 2
        · exact Or.inr (Or.inl ⟨nw16, w17⟩)
        rename ¬ ty = 2 => nw17
        by_cases w18 : ty = 3
        · exact Or.inr (Or.inr (Or.inl ⟨nw16, nw17, w18⟩))
        rename ¬ ty = 3 => nw18
        by_cases w19 : ty = 4
        · exact Or.inr (Or.inr (Or.inr (Or.inl ⟨nw16, nw17, nw18, w19⟩)))
        rename ¬ ty = 4 => nw19
        by_cases w20 : ty = 5
        · exact Or.inr (Or.inr (Or.inr (Or.inr (Or.inl ⟨nw16, nw17, nw18, nw19, w20⟩))))
        rename ¬ ty = 5 => nw20
        by_cases w21 : ty = 6
        · exact Or.inr (Or.inr (Or.inr (Or.inr (Or.inr (Or.inl ⟨nw16, nw17, nw18, nw19, nw20, w21⟩)))))
        rename ¬ ty = 6 => nw21
        by_cases w22 : ty = 7
        · exact Or.inr (Or.inr (Or.inr (Or.inr (Or.inr (Or.inr (Or.inl ⟨nw16, nw17, nw18, nw19, nw20, nw21, w22⟩))))))
        rename ¬ ty = 7 => nw22
        exact Or.inr (Or.inr (Or.inr (Or.inr (Or.inr (Or.inr (Or.inr (⟨nw16, nw17, nw18, nw19, nw20, nw21, nw22⟩)))))))
      rcases sw23 with w16 | ⟨nw16, w17⟩ | ⟨nw16, nw17, w18⟩ | ⟨nw16, nw17, nw18, w19⟩ | ⟨nw16, nw17, nw18, nw19, w20⟩ | ⟨nw16, nw17, nw18, nw19, nw20, w21⟩ | ⟨nw16, nw17, nw18, nw19, nw20, nw21, w22⟩ | ⟨nw16, nw17, nw18, nw19, nw20, nw21, nw22⟩
      · refine lv_tableIn (off := 43) (tgt := 68) hx hb dX2_refusal_25 (by rw [w16]; decide) (by rw [w16]; decide) (by rw [w16]; rfl) (by decide) ?_
        refine lv_aload_n hx hb dX2_refusal_68 rfl (lv_at hl 0 rfl) ?_
        refine lv_aload_n hx hb dX2_refusal_69 rfl (lv_at hl 2 rfl) ?_
        refine g_get C0 G h_st rfl hiX5 1 (by decide) mf_X2_90 rfl dX2_refusal_70 ?_
        refine g_cI C0 G (g_runV C0 G (rest := []) (c_X0_bowlRefusal hfl nu h_ij1 h_t2j1 h_a2j1 h_oj1) h_ij1 rfl hY_X0_bowlRefusal mm_X2_91 mi_X0_bowlRefusal ml_X0_bowlRefusal ⟨(Nat.le_of_ble_eq_true rfl), (Nat.le_of_ble_eq_true rfl)⟩ rfl hl.1 rfl (Nat.le_of_ble_eq_true rfl) dX2_refusal_73 ⟨(Nat.le_of_ble_eq_true rfl), (Nat.le_of_ble_eq_true rfl)⟩) (kx_no rfl) (fun r26 u25 H locs hp24 G => ?_)
        obtain ⟨er27, eu25⟩ := hp24
        rw [eu25] at G
        refine lv_topv (v := (X0_bowlRefusal_r3 g2 lf bw bb nu)) er27 ?_
        exact g_iret C0 G hr dX2_refusal_76 (Nat.le_of_ble_eq_true rfl) (Nat.le_of_ble_eq_true rfl) (by exact ⟨(by rw [X2_refusal12_r3, if_neg c11, if_pos c12, if_pos w16]), rfl⟩)
      · refine lv_tableIn (off := 52) (tgt := 77) hx hb dX2_refusal_25 (by rw [w17]; decide) (by rw [w17]; decide) (by rw [w17]; rfl) (by decide) ?_
        refine lv_aload_n hx hb dX2_refusal_77 rfl (lv_at hl 0 rfl) ?_
        refine g_get C0 G h_ij1 rfl hiX0 5 (by decide) mf_X2_95 rfl dX2_refusal_78 ?_
        refine g_get C0 G h_oj1 rfl hiX3 4 (by decide) mf_X2_98 rfl dX2_refusal_81 ?_
        refine lv_iconst (v := (-1)) hx hb dX2_refusal_84 (by decide) ?_
        have J30 : ∀ (y29 : Int32) (_ : y29 = nI (X2_refusal12_n0 bw)) (H : Heap) (locs : List Loc) (ls : Array Slot), hG D (hA f sz) f s9 H locs → lv_has ls 3 [(2, .ref (A (b + 15))), (0, .ref (A (b + 0))), (1, .ref st)] → W p9 l e9 ({ frames := 3, cells := 0, slots := 0, locals := 67 } : Room) s9 m9 ([.ref (A (b + 0)), .ref st] : List Value).toArray b9 t9 c9 H locs 0 0 (vx_MQ b9 (hQi (fun r u => r = (X2_refusal12_r3 ex ov g1 g2 lf bw bb ty nu wy kd ru so sc) ∧ u = f) D f sz) (hPx hNo D f sz) ([.ref (A (b + 0)), .ref st] : List Value).toArray s9 0 0 (hA f sz)) (F0 m9 93 ls [.int y29]) := by
          intro y29 ey29 H locs ls G hl
          replace ey29 := Eq.symm ey29
          subst ey29
          have bd32 : (X2_refusal12_n0 bw) ≤ 3 := by unfold X2_refusal12_n0; repeat (first | omega | split)
          exact g_iret C0 G hr dX2_refusal_93 (Nat.le_of_ble_eq_true rfl) (Nat.le_of_ble_eq_true rfl) (by exact ⟨(by rw [X2_refusal12_r3, if_neg c11, if_pos c12, if_neg nw16, if_pos w17]), rfl⟩)
        refine lv_icmp_ne (tgt := 92) hx hb dX2_refusal_85 (by decide) (fun c28 => ?_) (fun c28 => ?_)
        · refine lv_iconst (v := 0) hx hb dX2_refusal_92 (by decide) ?_
          exact J30 0 (by rw [X2_refusal12_n0, if_neg c28] <;> rfl) _ _ _ G (lv_sub hl [0, 1, 2] rfl)
        · refine lv_iconst (v := 3) hx hb dX2_refusal_88 (by decide) ?_
          refine lv_goto (tgt := 93) hx hb dX2_refusal_89 (by decide) ?_
          exact J30 3 (by rw [X2_refusal12_n0, if_pos c28] <;> rfl) _ _ _ G (lv_sub hl [0, 1, 2] rfl)
      · refine lv_tableIn (off := 69) (tgt := 94) hx hb dX2_refusal_25 (by rw [w18]; decide) (by rw [w18]; decide) (by rw [w18]; rfl) (by decide) ?_
        refine lv_aload_n hx hb dX2_refusal_94 rfl (lv_at hl 0 rfl) ?_
        refine g_get C0 G h_ij1 rfl hiX0 5 (by decide) mf_X2_95 rfl dX2_refusal_95 ?_
        refine g_get C0 G h_oj1 rfl hiX3 4 (by decide) mf_X2_98 rfl dX2_refusal_98 ?_
        refine lv_iconst (v := (-1)) hx hb dX2_refusal_101 (by decide) ?_
        refine lv_icmp_ne (tgt := 107) hx hb dX2_refusal_102 (by decide) (fun c33 => ?_) (fun c33 => ?_)
        · refine lv_aload_n hx hb dX2_refusal_107 rfl (lv_at hl 2 rfl) ?_
          refine g_cI C0 G (g_runV C0 G (rest := []) (c_X5_isPossibleWicket hfl h_st) h_st rfl hY_X5_isPossibleWicket mm_X2_103 mi_X5_isPossibleWicket ml_X5_isPossibleWicket ⟨(Nat.le_of_ble_eq_true rfl), (Nat.le_of_ble_eq_true rfl)⟩ rfl hl.1 rfl (Nat.le_of_ble_eq_true rfl) dX2_refusal_108 ⟨(Nat.le_of_ble_eq_true rfl), (Nat.le_of_ble_eq_true rfl)⟩) (kx_no rfl) (fun r36 u35 H locs hp34 G => ?_)
          obtain ⟨er37, eu35⟩ := hp34
          rw [eu35] at G
          refine lv_topv (v := (X5_isPossibleWicket_r8 wy kd ru so sc)) er37 ?_
          have J40 : ∀ (y39 : Int32) (_ : y39 = nI (X2_refusal12_n1 wy kd ru so sc)) (H : Heap) (locs : List Loc) (ls : Array Slot), hG D (hA f sz) f s9 H locs → lv_has ls 3 [(2, .ref (A (b + 15))), (0, .ref (A (b + 0))), (1, .ref st)] → W p9 l e9 ({ frames := 3, cells := 0, slots := 0, locals := 67 } : Room) s9 m9 ([.ref (A (b + 0)), .ref st] : List Value).toArray b9 t9 c9 H locs 0 0 (vx_MQ b9 (hQi (fun r u => r = (X2_refusal12_r3 ex ov g1 g2 lf bw bb ty nu wy kd ru so sc) ∧ u = f) D f sz) (hPx hNo D f sz) ([.ref (A (b + 0)), .ref st] : List Value).toArray s9 0 0 (hA f sz)) (F0 m9 120 ls [.int y39]) := by
            intro y39 ey39 H locs ls G hl
            replace ey39 := Eq.symm ey39
            subst ey39
            have bd42 : (X2_refusal12_n1 wy kd ru so sc) ≤ 6 := by unfold X2_refusal12_n1; repeat (first | omega | split)
            exact g_iret C0 G hr dX2_refusal_120 (Nat.le_of_ble_eq_true rfl) (Nat.le_of_ble_eq_true rfl) (by exact ⟨(by rw [X2_refusal12_r3, if_neg c11, if_pos c12, if_neg nw16, if_neg nw17, if_pos w18, if_neg c33]), rfl⟩)
          refine lv_if_eq (tgt := 118) hx hb dX2_refusal_111 (by decide) (fun c38 => ?_) (fun c38 => ?_)
          · refine lv_bipush (v := 6) hx hb dX2_refusal_118 (by decide) ?_
            exact J40 6 (by rw [X2_refusal12_n1, if_pos c38] <;> rfl) _ _ _ G (lv_sub hl [0, 1, 2] rfl)
          · refine lv_iconst (v := 0) hx hb dX2_refusal_114 (by decide) ?_
            refine lv_goto (tgt := 120) hx hb dX2_refusal_115 (by decide) ?_
            exact J40 0 (by rw [X2_refusal12_n1, if_neg c38] <;> rfl) _ _ _ G (lv_sub hl [0, 1, 2] rfl)
        · refine lv_iconst (v := 3) hx hb dX2_refusal_105 (by decide) ?_
          exact g_iret C0 G hr dX2_refusal_106 (Nat.le_of_ble_eq_true rfl) (Nat.le_of_ble_eq_true rfl) (by exact ⟨(by rw [X2_refusal12_r3, if_neg c11, if_pos c12, if_neg nw16, if_neg nw17, if_pos w18, if_pos c33]), rfl⟩)
      · refine lv_tableIn (off := 138) (tgt := 163) hx hb dX2_refusal_25 (by rw [w19]; decide) (by rw [w19]; decide) (by rw [w19]; rfl) (by decide) ?_
        refine lv_iconst (v := 0) hx hb dX2_refusal_163 (by decide) ?_
        exact g_iret C0 G hr dX2_refusal_164 (Nat.le_of_ble_eq_true rfl) (Nat.le_of_ble_eq_true rfl) (by exact ⟨(by rw [X2_refusal12_r3, if_neg c11, if_pos c12, if_neg nw16, if_neg nw17, if_neg nw18, if_pos w19]), rfl⟩)
      · refine lv_tableIn (off := 96) (tgt := 121) hx hb dX2_refusal_25 (by rw [w20]; decide) (by rw [w20]; decide) (by rw [w20]; rfl) (by decide) ?_
        refine lv_aload_n hx hb dX2_refusal_121 rfl (lv_at hl 0 rfl) ?_
        refine lv_aload_n hx hb dX2_refusal_122 rfl (lv_at hl 2 rfl) ?_
        refine g_get C0 G h_st rfl hiX5 1 (by decide) mf_X2_90 rfl dX2_refusal_123 ?_
        refine g_cI C0 G (g_runV C0 G (rest := []) (c_X0_canComeIn hfl nu h_ij1 h_t1j1 h_a1j1) h_ij1 rfl hY_X0_canComeIn mm_X2_106 mi_X0_canComeIn ml_X0_canComeIn ⟨(Nat.le_of_ble_eq_true rfl), (Nat.le_of_ble_eq_true rfl)⟩ rfl hl.1 rfl (Nat.le_of_ble_eq_true rfl) dX2_refusal_126 ⟨(Nat.le_of_ble_eq_true rfl), (Nat.le_of_ble_eq_true rfl)⟩) (kx_no rfl) (fun r45 u44 H locs hp43 G => ?_)
        obtain ⟨er46, eu44⟩ := hp43
        rw [eu44] at G
        refine lv_topv (v := (X0_canComeIn_x1 g1 nu)) er46 ?_
        have J49 : ∀ (y48 : Int32) (_ : y48 = nI (X2_refusal12_n2 g1 nu)) (H : Heap) (locs : List Loc) (ls : Array Slot), hG D (hA f sz) f s9 H locs → lv_has ls 3 [(2, .ref (A (b + 15))), (0, .ref (A (b + 0))), (1, .ref st)] → W p9 l e9 ({ frames := 3, cells := 0, slots := 0, locals := 67 } : Room) s9 m9 ([.ref (A (b + 0)), .ref st] : List Value).toArray b9 t9 c9 H locs 0 0 (vx_MQ b9 (hQi (fun r u => r = (X2_refusal12_r3 ex ov g1 g2 lf bw bb ty nu wy kd ru so sc) ∧ u = f) D f sz) (hPx hNo D f sz) ([.ref (A (b + 0)), .ref st] : List Value).toArray s9 0 0 (hA f sz)) (F0 m9 137 ls [.int y48]) := by
          intro y48 ey48 H locs ls G hl
          replace ey48 := Eq.symm ey48
          subst ey48
          have bd51 : (X2_refusal12_n2 g1 nu) ≤ 5 := by unfold X2_refusal12_n2; repeat (first | omega | split)
          exact g_iret C0 G hr dX2_refusal_137 (Nat.le_of_ble_eq_true rfl) (Nat.le_of_ble_eq_true rfl) (by exact ⟨(by rw [X2_refusal12_r3, if_neg c11, if_pos c12, if_neg nw16, if_neg nw17, if_neg nw18, if_neg nw19, if_pos w20]), rfl⟩)
        refine lv_if_eq (tgt := 136) hx hb dX2_refusal_129 (by decide) (fun c47 => ?_) (fun c47 => ?_)
        · refine lv_iconst (v := 5) hx hb dX2_refusal_136 (by decide) ?_
          exact J49 5 (by rw [X2_refusal12_n2, if_pos c47] <;> rfl) _ _ _ G (lv_sub hl [0, 1, 2] rfl)
        · refine lv_iconst (v := 0) hx hb dX2_refusal_132 (by decide) ?_
          refine lv_goto (tgt := 137) hx hb dX2_refusal_133 (by decide) ?_
          exact J49 0 (by rw [X2_refusal12_n2, if_neg c47] <;> rfl) _ _ _ G (lv_sub hl [0, 1, 2] rfl)
      · refine lv_tableIn (off := 138) (tgt := 163) hx hb dX2_refusal_25 (by rw [w21]; decide) (by rw [w21]; decide) (by rw [w21]; rfl) (by decide) ?_
        refine lv_iconst (v := 0) hx hb dX2_refusal_163 (by decide) ?_
        exact g_iret C0 G hr dX2_refusal_164 (Nat.le_of_ble_eq_true rfl) (Nat.le_of_ble_eq_true rfl) (by exact ⟨(by rw [X2_refusal12_r3, if_neg c11, if_pos c12, if_neg nw16, if_neg nw17, if_neg nw18, if_neg nw19, if_neg nw20, if_pos w21]), rfl⟩)
      · refine lv_tableIn (off := 113) (tgt := 138) hx hb dX2_refusal_25 (by rw [w22]; decide) (by rw [w22]; decide) (by rw [w22]; rfl) (by decide) ?_
        refine lv_aload_n hx hb dX2_refusal_138 rfl (lv_at hl 1 rfl) ?_
        refine g_cI C0 G (g_runV C0 G (rest := []) (c_X2_hasResources hfl (A := A) (b := b) (ex := ex) (ov := ov) (ie := 2) (fi := fi) (nu := 1) (q := q) h_mt h_al hAj hq0 hq1 hq2 hq3) h_mt rfl hY_X2_hasResources mm_X2_50 mi_X2_hasResources ml_X2_hasResources ⟨(Nat.le_of_ble_eq_true rfl), (Nat.le_of_ble_eq_true rfl)⟩ rfl hl.1 rfl (Nat.le_of_ble_eq_true rfl) dX2_refusal_139 ⟨(Nat.le_of_ble_eq_true rfl), (Nat.le_of_ble_eq_true rfl)⟩) (kx_no rfl) (fun r54 u53 H locs hp52 G => ?_)
        obtain ⟨er55, eu53⟩ := hp52
        rw [eu53] at G
        refine lv_topv (v := (X2_hasResources_x0 2)) er55 ?_
        refine lv_topv (v := 0) (by decide) ?_
        refine lv_if_eq (tgt := 160) hx hb dX2_refusal_142 (by decide) (fun _ => ?_) (fun c56 => absurd (by decide) c56)
        refine lv_bipush (v := 8) hx hb dX2_refusal_160 (by decide) ?_
        exact g_iret C0 G hr dX2_refusal_162 (Nat.le_of_ble_eq_true rfl) (Nat.le_of_ble_eq_true rfl) (by exact ⟨(by rw [X2_refusal12_r3, if_neg c11, if_pos c12, if_neg nw16, if_neg nw17, if_neg nw18, if_neg nw19, if_neg nw20, if_neg nw21, if_pos w22]), rfl⟩)
      · have q57 : ty.toInt < 1 ∨ 7 < ty.toInt := by
          have tw16 : ty.toInt ≠ 1 := fun z => nw16 (Int32.toInt_inj.mp z)
          have tw17 : ty.toInt ≠ 2 := fun z => nw17 (Int32.toInt_inj.mp z)
          have tw18 : ty.toInt ≠ 3 := fun z => nw18 (Int32.toInt_inj.mp z)
          have tw19 : ty.toInt ≠ 4 := fun z => nw19 (Int32.toInt_inj.mp z)
          have tw20 : ty.toInt ≠ 5 := fun z => nw20 (Int32.toInt_inj.mp z)
          have tw21 : ty.toInt ≠ 6 := fun z => nw21 (Int32.toInt_inj.mp z)
          have tw22 : ty.toInt ≠ 7 := fun z => nw22 (Int32.toInt_inj.mp z)
          omega
        refine lv_tableOut (tgt := 163) hx hb dX2_refusal_25 q57 (by decide) ?_
        refine lv_iconst (v := 0) hx hb dX2_refusal_163 (by decide) ?_
        exact g_iret C0 G hr dX2_refusal_164 (Nat.le_of_ble_eq_true rfl) (Nat.le_of_ble_eq_true rfl) (by exact ⟨(by rw [X2_refusal12_r3, if_neg c11, if_pos c12, if_neg nw16, if_neg nw17, if_neg nw18, if_neg nw19, if_neg nw20, if_neg nw21, if_neg nw22]), rfl⟩)
    · refine lv_iconst (v := 1) hx hb dX2_refusal_14 (by decide) ?_
      exact g_iret C0 G hr dX2_refusal_15 (Nat.le_of_ble_eq_true rfl) (Nat.le_of_ble_eq_true rfl) (by exact ⟨(by rw [X2_refusal12_r3, if_neg c11, if_neg c12]), rfl⟩)
def X2_dueEnd12_x0 (nc : Int32) (lm : Int32) (oc : Int32) (dl : Int32) : Int32 := if dl = 0 then (X0_ending_r1 lm oc nc) else 3
set_option maxRecDepth 100000 in
theorem c_X2_dueEnd12 {l : Launch} (hfl : l.stackTraces = false) {D : va_G} {cy : Nat → ClassId} {f : Hf} {sz : Nat} {A : Nat → Nat} {b : Nat} {ex : Int32} {ov : Int32} {fi : Int32} {q : Nat → Option Nat} {rs : Int32} {sk : Int32} {ot : Int32} {ch : Int32} {nc : Int32} {g0 : Nat → Int32} {lm : Int32} {lf : Int32} {oc : Int32} {bw : Int32} {bb : Int32} {bl : Int32} {cd : Int32} {hbg : Int32} {go : Nat → Int32} (dl : Int32) (h_mt : f (A (b + 0)) = some (.inr (4, [.ref (A (b + 1)), .int ex, .int ov, .int 2, .int fi, .int 1]))) (h_al : f (A (b + 1)) = some (.inl (cy 3, 4, .inr (.inr (.inr (.inr q)))))) (h_ij1 : f (A (b + 15)) = some (.inr (2, [.ref (A (b + 16)), .ref (A (b + 18)), .ref (A (b + 20)), .ref (A (b + 22)), .ref (A (b + 24)), .ref (A (b + 26)), .int rs, .int sk, .int ot, .int ch, .int nc]))) (h_t0j1 : f (A (b + 16)) = some (.inr (8, [.int 8, .ref (A (b + 17)), .int 1]))) (h_a0j1 : f (A (b + 17)) = some (.inl (cy 0, 8, .inl g0))) (h_oj1 : f (A (b + 26)) = some (.inr (5, [.ref (A (b + 27)), .int lm, .int lf, .int oc, .int bw, .int bb, .int bl, .int cd, .int hbg]))) (h_oaj1 : f (A (b + 27)) = some (.inl (cy 0, 20, .inl go))) (hAj : ∀ i j : Nat, i ≠ j → A i ≠ A j) (hq0 : q 0 = some (A (b + 2))) (hq1 : q 1 = some (A (b + 15))) (hq2 : q 2 = some (A (b + 28))) (hq3 : q 3 = some (A (b + 41))) : hMet l yX2_dueEnd cX2_dueEnd 3 (some .int) { frames := 3, cells := 0, slots := 0, locals := 56 } D (hTy cy) f sz [.ref (A (b + 0)), .int dl] (hQi (fun r u => r = (X2_dueEnd12_x0 nc lm oc dl) ∧ u = f) D f sz) hNo := by
  refine h_enter (by decide) hfl (Nat.le_of_ble_eq_true rfl) ?_
  intro p9 e9 s9 m9 b9 t9 c9 hsz C0 hr hnm G ls hl
  have hx := C0.1.1
  have hb := C0.1.2.1
  have hl : lv_has ls 3 [(0, .ref (A (b + 0))), (1, .int dl)] := hl
  refine lv_aload_n hx hb dX2_dueEnd_0 rfl (lv_at hl 0 rfl) ?_
  refine g_cR C0 G (g_runV C0 G (rest := []) (c_X2_present1 hfl (A := A) (b := b) (ex := ex) (ov := ov) (ie := 2) (fi := fi) (q := q) h_mt h_al hAj hq0 hq1 hq2 hq3) h_mt rfl hY_X2_present mm_X2_43 mi_X2_present ml_X2_present ⟨(Nat.le_of_ble_eq_true rfl), (Nat.le_of_ble_eq_true rfl)⟩ rfl hl.1 rfl (Nat.le_of_ble_eq_true rfl) dX2_dueEnd_1 ⟨(Nat.le_of_ble_eq_true rfl), (Nat.le_of_ble_eq_true rfl)⟩) (kx_no rfl) (fun a13 u12 H locs hp11 G => ?_)
  obtain ⟨zr, eu12⟩ := hp11
  replace zr := Eq.symm zr
  subst zr
  rw [eu12] at G
  refine lv_astore_n (lv' := [(2, .ref (A (b + 15))), (0, .ref (A (b + 0))), (1, .int dl)]) hx hb dX2_dueEnd_4 rfl hl (by decide) rfl (fun ls hl => ?_)
  refine lv_aload_n hx hb dX2_dueEnd_5 rfl (lv_at hl 1 rfl) ?_
  refine g_cI C0 G (g_runV C0 G (rest := []) (c_X2_isLastPlayed hfl (A := A) (b := b) (ex := ex) (ov := ov) (ie := 2) (fi := fi) (nu := 1) (q := q) h_mt h_al hAj hq0 hq1 hq2 hq3) h_mt rfl hY_X2_isLastPlayed mm_X2_145 mi_X2_isLastPlayed ml_X2_isLastPlayed ⟨(Nat.le_of_ble_eq_true rfl), (Nat.le_of_ble_eq_true rfl)⟩ rfl hl.1 rfl (Nat.le_of_ble_eq_true rfl) dX2_dueEnd_6 ⟨(Nat.le_of_ble_eq_true rfl), (Nat.le_of_ble_eq_true rfl)⟩) (kx_no rfl) (fun r16 u15 H locs hp14 G => ?_)
  obtain ⟨er17, eu15⟩ := hp14
  rw [eu15] at G
  refine lv_topv (v := (X2_isLastPlayed_x0 2 1)) er17 ?_
  refine lv_topv (v := 0) (by decide) ?_
  refine lv_if_eq (tgt := 26) hx hb dX2_dueEnd_9 (by decide) (fun _ => ?_) (fun c18 => absurd (by decide) c18)
  refine lv_iload_n hx hb dX2_dueEnd_26 rfl (lv_at hl 2 rfl) ?_
  have J21 : ∀ (y20 : Int32) (_ : y20 = (X2_dueEnd12_x0 nc lm oc dl)) (H : Heap) (locs : List Loc) (ls : Array Slot), hG D (hA f sz) f s9 H locs → lv_has ls 3 [(2, .ref (A (b + 15))), (0, .ref (A (b + 0))), (1, .int dl)] → W p9 l e9 ({ frames := 3, cells := 0, slots := 0, locals := 56 } : Room) s9 m9 ([.ref (A (b + 0)), .int dl] : List Value).toArray b9 t9 c9 H locs 0 0 (vx_MQ b9 (hQi (fun r u => r = (X2_dueEnd12_x0 nc lm oc dl) ∧ u = f) D f sz) (hPx hNo D f sz) ([.ref (A (b + 0)), .int dl] : List Value).toArray s9 0 0 (hA f sz)) (F0 m9 38 ls [.int y20]) := by
    intro y20 ey20 H locs ls G hl
    replace ey20 := Eq.symm ey20
    subst ey20
    exact g_iret C0 G hr dX2_dueEnd_38 (Nat.le_of_ble_eq_true rfl) (Nat.le_of_ble_eq_true rfl) (by exact ⟨rfl, rfl⟩)
  refine lv_if_eq (tgt := 34) hx hb dX2_dueEnd_27 (by decide) (fun c19 => ?_) (fun c19 => ?_)
  · refine lv_aload_n hx hb dX2_dueEnd_34 rfl (lv_at hl 0 rfl) ?_
    refine g_cI C0 G (g_runV C0 G (rest := []) (c_X0_ending hfl h_ij1 h_oj1) h_ij1 rfl hY_X0_ending mm_X2_151 mi_X0_ending ml_X0_ending ⟨(Nat.le_of_ble_eq_true rfl), (Nat.le_of_ble_eq_true rfl)⟩ rfl hl.1 rfl (Nat.le_of_ble_eq_true rfl) dX2_dueEnd_35 ⟨(Nat.le_of_ble_eq_true rfl), (Nat.le_of_ble_eq_true rfl)⟩) (kx_no rfl) (fun r25 u24 H locs hp23 G => ?_)
    obtain ⟨er26, eu24⟩ := hp23
    rw [eu24] at G
    refine lv_topv (v := (X0_ending_r1 lm oc nc)) er26 ?_
    exact J21 (X0_ending_r1 lm oc nc) (by rw [X2_dueEnd12_x0, if_pos c19]) _ _ _ G (lv_sub hl [0, 1, 2] rfl)
  · refine lv_iconst (v := 3) hx hb dX2_dueEnd_30 (by decide) ?_
    refine lv_goto (tgt := 38) hx hb dX2_dueEnd_31 (by decide) ?_
    exact J21 3 (by rw [X2_dueEnd12_x0, if_neg c19]) _ _ _ G (lv_sub hl [0, 1, 2] rfl)
def X2_goOn12_g0 (g0_n : Nat → Int32) : Nat → Int32 := (X0_start_g12 g0_n)
def X2_goOn12_g1 (g1_n : Nat → Int32) : Nat → Int32 := (X0_start_g10 g1_n)
def X2_goOn12_g2 (g2_n : Nat → Int32) : Nat → Int32 := (X0_start_g13 g2_n)
def X2_goOn12_g3 (g3_n : Nat → Int32) : Nat → Int32 := (X0_start_g14 g3_n)
def X2_goOn12_g4 (g4_n : Nat → Int32) : Nat → Int32 := (X0_start_g15 g4_n)
set_option maxRecDepth 100000 in
theorem c_X2_goOn12 {l : Launch} (hfl : l.stackTraces = false) {D : va_G} {cy : Nat → ClassId} {f : Hf} {sz : Nat} {A : Nat → Nat} {b : Nat} {ex : Int32} {ov : Int32} {fi : Int32} {q : Nat → Option Nat} {rs : Int32} {sk : Int32} {ot : Int32} {ch : Int32} {nc : Int32} {g0 : Nat → Int32} {lm : Int32} {lf : Int32} {oc : Int32} {bw : Int32} {bb : Int32} {bl : Int32} {cd : Int32} {hbg : Int32} {go : Nat → Int32} {rs_n : Int32} {sk_n : Int32} {ot_n : Int32} {ch_n : Int32} {nc_n : Int32} {r0_n : Int32} {g0_n : Nat → Int32} {r1_n : Int32} {g1_n : Nat → Int32} {r2_n : Int32} {g2_n : Nat → Int32} {r3_n : Int32} {g3_n : Nat → Int32} {r4_n : Int32} {g4_n : Nat → Int32} {lm_n : Int32} {lf_n : Int32} {oc_n : Int32} {bw_n : Int32} {bb_n : Int32} {bl_n : Int32} {cd_n : Int32} {hbg_n : Int32} {go_n : Nat → Int32} (h_mt : f (A (b + 0)) = some (.inr (4, [.ref (A (b + 1)), .int ex, .int ov, .int 2, .int fi, .int 1]))) (h_al : f (A (b + 1)) = some (.inl (cy 3, 4, .inr (.inr (.inr (.inr q)))))) (h_ij1 : f (A (b + 15)) = some (.inr (2, [.ref (A (b + 16)), .ref (A (b + 18)), .ref (A (b + 20)), .ref (A (b + 22)), .ref (A (b + 24)), .ref (A (b + 26)), .int rs, .int sk, .int ot, .int ch, .int nc]))) (h_t0j1 : f (A (b + 16)) = some (.inr (8, [.int 8, .ref (A (b + 17)), .int 1]))) (h_a0j1 : f (A (b + 17)) = some (.inl (cy 0, 8, .inl g0))) (h_oj1 : f (A (b + 26)) = some (.inr (5, [.ref (A (b + 27)), .int lm, .int lf, .int oc, .int bw, .int bb, .int bl, .int cd, .int hbg]))) (h_oaj1 : f (A (b + 27)) = some (.inl (cy 0, 20, .inl go))) (h_ij2 : f (A (b + 28)) = some (.inr (2, [.ref (A (b + 29)), .ref (A (b + 31)), .ref (A (b + 33)), .ref (A (b + 35)), .ref (A (b + 37)), .ref (A (b + 39)), .int rs_n, .int sk_n, .int ot_n, .int ch_n, .int nc_n]))) (h_t0j2 : f (A (b + 29)) = some (.inr (8, [.int 8, .ref (A (b + 30)), .int r0_n]))) (h_a0j2 : f (A (b + 30)) = some (.inl (cy 0, 8, .inl g0_n))) (h_t1j2 : f (A (b + 31)) = some (.inr (8, [.int 6, .ref (A (b + 32)), .int r1_n]))) (h_a1j2 : f (A (b + 32)) = some (.inl (cy 0, 66, .inl g1_n))) (h_t2j2 : f (A (b + 33)) = some (.inr (8, [.int 7, .ref (A (b + 34)), .int r2_n]))) (h_a2j2 : f (A (b + 34)) = some (.inl (cy 0, 77, .inl g2_n))) (h_t3j2 : f (A (b + 35)) = some (.inr (8, [.int 8, .ref (A (b + 36)), .int r3_n]))) (h_a3j2 : f (A (b + 36)) = some (.inl (cy 0, 4104, .inl g3_n))) (h_t4j2 : f (A (b + 37)) = some (.inr (8, [.int 3, .ref (A (b + 38)), .int r4_n]))) (h_a4j2 : f (A (b + 38)) = some (.inl (cy 0, 33, .inl g4_n))) (h_oj2 : f (A (b + 39)) = some (.inr (5, [.ref (A (b + 40)), .int lm_n, .int lf_n, .int oc_n, .int bw_n, .int bb_n, .int bl_n, .int cd_n, .int hbg_n]))) (h_oaj2 : f (A (b + 40)) = some (.inl (cy 0, 20, .inl go_n))) (hAj : ∀ i j : Nat, i ≠ j → A i ≠ A j) (hq0 : q 0 = some (A (b + 2))) (hq1 : q 1 = some (A (b + 15))) (hq2 : q 2 = some (A (b + 28))) (hq3 : q 3 = some (A (b + 41))) : hMet l yX2_goOn cX2_goOn 3 none { frames := 3, cells := 0, slots := 0, locals := 69 } D (hTy cy) f sz [.ref (A (b + 0))] (hQv (fun u => u (A (b + 0)) = some (.inr (4, [.ref (A (b + 1)), .int ex, .int ov, .int 2, .int fi, .int 2])) ∧ u (A (b + 29)) = some (.inr (8, [.int 8, .ref (A (b + 30)), .int 1])) ∧ u (A (b + 30)) = some (.inl (cy 0, 8, .inl (X2_goOn12_g0 g0_n))) ∧ u (A (b + 31)) = some (.inr (8, [.int 6, .ref (A (b + 32)), .int 11])) ∧ u (A (b + 32)) = some (.inl (cy 0, 66, .inl (X2_goOn12_g1 g1_n))) ∧ u (A (b + 33)) = some (.inr (8, [.int 7, .ref (A (b + 34)), .int 11])) ∧ u (A (b + 34)) = some (.inl (cy 0, 77, .inl (X2_goOn12_g2 g2_n))) ∧ u (A (b + 35)) = some (.inr (8, [.int 8, .ref (A (b + 36)), .int 1])) ∧ u (A (b + 36)) = some (.inl (cy 0, 4104, .inl (X2_goOn12_g3 g3_n))) ∧ u (A (b + 37)) = some (.inr (8, [.int 3, .ref (A (b + 38)), .int 0])) ∧ u (A (b + 38)) = some (.inl (cy 0, 33, .inl (X2_goOn12_g4 g4_n))) ∧ u (A (b + 39)) = some (.inr (5, [.ref (A (b + 40)), .int lm, .int lm, .int 0, .int (-1), .int (-1), .int 0, .int 0, .int 0])) ∧ u (A (b + 28)) = some (.inr (2, [.ref (A (b + 29)), .ref (A (b + 31)), .ref (A (b + 33)), .ref (A (b + 35)), .ref (A (b + 37)), .ref (A (b + 39)), .int (X0_start_x11 g0_n lm 0), .int 0, .int 1, .int (-1), .int 0])) ∧ hFrL f u [(A (b + 0)), (A (b + 29)), (A (b + 30)), (A (b + 31)), (A (b + 32)), (A (b + 33)), (A (b + 34)), (A (b + 35)), (A (b + 36)), (A (b + 37)), (A (b + 38)), (A (b + 39)), (A (b + 28))]) D f sz) hNo := by
  refine h_enter (by decide) hfl (Nat.le_of_ble_eq_true rfl) ?_
  intro p9 e9 s9 m9 b9 t9 c9 hsz C0 hr hnm G ls hl
  have hx := C0.1.1
  have hb := C0.1.2.1
  have hl : lv_has ls 3 [(0, .ref (A (b + 0)))] := hl
  refine lv_aload_n hx hb dX2_goOn_0 rfl (lv_at hl 0 rfl) ?_
  refine g_get C0 G h_mt rfl hiX2 5 (by decide) mf_X2_31 rfl dX2_goOn_1 ?_
  refine lv_iconst (v := 1) hx hb dX2_goOn_4 (by decide) ?_
  refine lv_iadd hx hb dX2_goOn_5 ?_
  refine lv_topv (v := 2) (by decide) ?_
  refine lv_aload_n hx hb dX2_goOn_6 rfl (lv_at hl 0 rfl) ?_
  refine g_cI C0 G (g_runV C0 G (rest := [.int 2]) (c_X2_lastNumber hfl (A := A) (b := b) (ex := ex) (ov := ov) (ie := 2) (fi := fi) (nu := 1) (q := q) h_mt h_al hAj hq0 hq1 hq2 hq3) h_mt rfl hY_X2_lastNumber mm_X2_81 mi_X2_lastNumber ml_X2_lastNumber ⟨(Nat.le_of_ble_eq_true rfl), (Nat.le_of_ble_eq_true rfl)⟩ rfl hl.1 rfl (Nat.le_of_ble_eq_true rfl) dX2_goOn_7 ⟨(Nat.le_of_ble_eq_true rfl), (Nat.le_of_ble_eq_true rfl)⟩) (kx_no rfl) (fun r13 u12 H locs hp11 G => ?_)
  obtain ⟨er14, eu12⟩ := hp11
  rw [eu12] at G
  refine lv_topv (v := (X2_lastNumber_r0 2)) er14 ?_
  refine lv_topv (v := 3) (by decide) ?_
  refine lv_icmp_ne (tgt := 17) hx hb dX2_goOn_10 (by decide) (fun _ => ?_) (fun c15 => absurd c15 (by decide))
  refine lv_iconst (v := 0) hx hb dX2_goOn_17 (by decide) ?_
  refine lv_istore_n (lv' := [(1, .int 0), (0, .ref (A (b + 0)))]) hx hb dX2_goOn_18 rfl hl (by decide) rfl (fun ls hl => ?_)
  refine lv_aload_n hx hb dX2_goOn_19 rfl (lv_at hl 1 rfl) ?_
  refine g_cI C0 G (g_runV C0 G (rest := []) (c_X2_isLastPlayed hfl (A := A) (b := b) (ex := ex) (ov := ov) (ie := 2) (fi := fi) (nu := 1) (q := q) h_mt h_al hAj hq0 hq1 hq2 hq3) h_mt rfl hY_X2_isLastPlayed mm_X2_145 mi_X2_isLastPlayed ml_X2_isLastPlayed ⟨(Nat.le_of_ble_eq_true rfl), (Nat.le_of_ble_eq_true rfl)⟩ rfl hl.1 rfl (Nat.le_of_ble_eq_true rfl) dX2_goOn_20 ⟨(Nat.le_of_ble_eq_true rfl), (Nat.le_of_ble_eq_true rfl)⟩) (kx_no rfl) (fun r18 u17 H locs hp16 G => ?_)
  obtain ⟨er19, eu17⟩ := hp16
  rw [eu17] at G
  refine lv_topv (v := (X2_isLastPlayed_x0 2 1)) er19 ?_
  refine lv_topv (v := 0) (by decide) ?_
  refine lv_if_ne (tgt := 44) hx hb dX2_goOn_23 (by decide) (fun c20 => absurd (by decide) c20) (fun _ => ?_)
  refine lv_iload_n hx hb dX2_goOn_26 rfl (lv_at hl 0 rfl) ?_
  refine lv_if_eq (tgt := 50) hx hb dX2_goOn_27 (by decide) (fun _ => ?_) (fun c21 => absurd (by decide) c21)
  refine lv_aload_n hx hb dX2_goOn_50 rfl (lv_at hl 1 rfl) ?_
  refine g_cR C0 G (g_runV C0 G (rest := []) (c_X2_present1 hfl (A := A) (b := b) (ex := ex) (ov := ov) (ie := 2) (fi := fi) (q := q) h_mt h_al hAj hq0 hq1 hq2 hq3) h_mt rfl hY_X2_present mm_X2_43 mi_X2_present ml_X2_present ⟨(Nat.le_of_ble_eq_true rfl), (Nat.le_of_ble_eq_true rfl)⟩ rfl hl.1 rfl (Nat.le_of_ble_eq_true rfl) dX2_goOn_51 ⟨(Nat.le_of_ble_eq_true rfl), (Nat.le_of_ble_eq_true rfl)⟩) (kx_no rfl) (fun a24 u23 H locs hp22 G => ?_)
  obtain ⟨zr, eu23⟩ := hp22
  replace zr := Eq.symm zr
  subst zr
  rw [eu23] at G
  refine g_get C0 G h_ij1 rfl hiX0 5 (by decide) mf_X2_95 rfl dX2_goOn_54 ?_
  refine g_get C0 G h_oj1 rfl hiX3 1 (by decide) mf_X2_154 rfl dX2_goOn_57 ?_
  refine lv_istore_n (lv' := [(2, .int lm), (1, .int 0), (0, .ref (A (b + 0)))]) hx hb dX2_goOn_60 rfl hl (by decide) rfl (fun ls hl => ?_)
  refine lv_aload_n hx hb dX2_goOn_61 rfl (lv_at hl 2 rfl) ?_
  refine lv_dup hx hb dX2_goOn_62 rfl ?_
  refine g_get C0 G h_mt rfl hiX2 5 (by decide) mf_X2_31 rfl dX2_goOn_63 ?_
  refine lv_iconst (v := 1) hx hb dX2_goOn_66 (by decide) ?_
  refine lv_iadd hx hb dX2_goOn_67 ?_
  refine lv_topv (v := 2) (by decide) ?_
  refine g_put C0 G h_mt rfl hiX2 tyX2 tyX2_ok nmX2 5 (by decide) mf_X2_31 rfl rfl rfl rfl (Nat.le_of_ble_eq_true rfl) dX2_goOn_68 (fun H locs f25 hf25 G => ?_)
  have k26 : f25 (A (b + 0)) = some (.inr (4, [.ref (A (b + 1)), .int ex, .int ov, .int 2, .int fi, .int 2])) := hus hf25
  refine lv_aload_n hx hb dX2_goOn_71 rfl (lv_at hl 2 rfl) ?_
  have k27 : f25 (A (b + 1)) = some (.inl (cy 3, 4, .inr (.inr (.inr (.inr q))))) := hup hf25 (hAj _ _ (by omega)) h_al
  refine g_cR C0 G (g_runV C0 G (rest := []) (c_X2_present2 hfl (A := A) (b := b) (ex := ex) (ov := ov) (ie := 2) (fi := fi) (q := q) k26 k27 hAj hq0 hq1 hq2 hq3) k26 rfl hY_X2_present mm_X2_43 mi_X2_present ml_X2_present ⟨(Nat.le_of_ble_eq_true rfl), (Nat.le_of_ble_eq_true rfl)⟩ rfl hl.1 rfl (Nat.le_of_ble_eq_true rfl) dX2_goOn_72 ⟨(Nat.le_of_ble_eq_true rfl), (Nat.le_of_ble_eq_true rfl)⟩) (kx_no rfl) (fun a30 u29 H locs hp28 G => ?_)
  obtain ⟨zr, eu29⟩ := hp28
  replace zr := Eq.symm zr
  subst zr
  rw [eu29] at G
  refine lv_iload_n hx hb dX2_goOn_75 rfl (lv_at hl 0 rfl) ?_
  refine lv_aload_n hx hb dX2_goOn_76 rfl (lv_at hl 2 rfl) ?_
  refine g_cI C0 G (g_runV C0 G (rest := [.int lm, .ref (A (b + 28))]) (c_X2_hasResources hfl (A := A) (b := b) (ex := ex) (ov := ov) (ie := 2) (fi := fi) (nu := 2) (q := q) k26 k27 hAj hq0 hq1 hq2 hq3) k26 rfl hY_X2_hasResources mm_X2_50 mi_X2_hasResources ml_X2_hasResources ⟨(Nat.le_of_ble_eq_true rfl), (Nat.le_of_ble_eq_true rfl)⟩ rfl hl.1 rfl (Nat.le_of_ble_eq_true rfl) dX2_goOn_77 ⟨(Nat.le_of_ble_eq_true rfl), (Nat.le_of_ble_eq_true rfl)⟩) (kx_no rfl) (fun r33 u32 H locs hp31 G => ?_)
  obtain ⟨er34, eu32⟩ := hp31
  rw [eu32] at G
  refine lv_topv (v := (X2_hasResources_x0 2)) er34 ?_
  refine lv_topv (v := 0) (by decide) ?_
  have k35 : f25 (A (b + 28)) = some (.inr (2, [.ref (A (b + 29)), .ref (A (b + 31)), .ref (A (b + 33)), .ref (A (b + 35)), .ref (A (b + 37)), .ref (A (b + 39)), .int rs_n, .int sk_n, .int ot_n, .int ch_n, .int nc_n])) := hup hf25 (hAj _ _ (by omega)) h_ij2
  have k36 : f25 (A (b + 29)) = some (.inr (8, [.int 8, .ref (A (b + 30)), .int r0_n])) := hup hf25 (hAj _ _ (by omega)) h_t0j2
  have k37 : f25 (A (b + 30)) = some (.inl (cy 0, 8, .inl g0_n)) := hup hf25 (hAj _ _ (by omega)) h_a0j2
  have k38 : f25 (A (b + 31)) = some (.inr (8, [.int 6, .ref (A (b + 32)), .int r1_n])) := hup hf25 (hAj _ _ (by omega)) h_t1j2
  have k39 : f25 (A (b + 32)) = some (.inl (cy 0, 66, .inl g1_n)) := hup hf25 (hAj _ _ (by omega)) h_a1j2
  have k40 : f25 (A (b + 33)) = some (.inr (8, [.int 7, .ref (A (b + 34)), .int r2_n])) := hup hf25 (hAj _ _ (by omega)) h_t2j2
  have k41 : f25 (A (b + 34)) = some (.inl (cy 0, 77, .inl g2_n)) := hup hf25 (hAj _ _ (by omega)) h_a2j2
  have k42 : f25 (A (b + 35)) = some (.inr (8, [.int 8, .ref (A (b + 36)), .int r3_n])) := hup hf25 (hAj _ _ (by omega)) h_t3j2
  have k43 : f25 (A (b + 36)) = some (.inl (cy 0, 4104, .inl g3_n)) := hup hf25 (hAj _ _ (by omega)) h_a3j2
  have k44 : f25 (A (b + 37)) = some (.inr (8, [.int 3, .ref (A (b + 38)), .int r4_n])) := hup hf25 (hAj _ _ (by omega)) h_t4j2
  have k45 : f25 (A (b + 38)) = some (.inl (cy 0, 33, .inl g4_n)) := hup hf25 (hAj _ _ (by omega)) h_a4j2
  have k46 : f25 (A (b + 39)) = some (.inr (5, [.ref (A (b + 40)), .int lm_n, .int lf_n, .int oc_n, .int bw_n, .int bb_n, .int bl_n, .int cd_n, .int hbg_n])) := hup hf25 (hAj _ _ (by omega)) h_oj2
  have k47 : f25 (A (b + 40)) = some (.inl (cy 0, 20, .inl go_n)) := hup hf25 (hAj _ _ (by omega)) h_oaj2
  refine g_cV C0 G (g_runV C0 G (rest := []) (c_X0_start hfl lm 0 k35 k36 k37 k38 k39 k40 k41 k42 k43 k44 k45 k46 k47 (hAj _ _ (by omega))) k35 rfl hY_X0_start mm_X2_53 mi_X0_start ml_X0_start ⟨(Nat.le_of_ble_eq_true rfl), (Nat.le_of_ble_eq_true rfl)⟩ rfl hl.1 rfl (Nat.le_of_ble_eq_true rfl) dX2_goOn_80 ⟨(Nat.le_of_ble_eq_true rfl), (Nat.le_of_ble_eq_true rfl)⟩) (kx_no rfl) (fun u49 H locs hp48 G => ?_)
  obtain ⟨k50, k51, k52, k53, k54, k55, k56, k57, k58, k59, k60, k61, fr62⟩ := hp48
  have k63 : u49 (A (b + 0)) = some (.inr (4, [.ref (A (b + 1)), .int ex, .int ov, .int 2, .int fi, .int 2])) := fr62 _ _ (nm_c (hAb hAj rfl) (nm_c (hAb hAj rfl) (nm_c (hAb hAj rfl) (nm_c (hAb hAj rfl) (nm_c (hAb hAj rfl) (nm_c (hAb hAj rfl) (nm_c (hAb hAj rfl) (nm_c (hAb hAj rfl) (nm_c (hAb hAj rfl) (nm_c (hAb hAj rfl) (nm_c (hAb hAj rfl) (nm_c (hAb hAj rfl) nm_0)))))))))))) k26
  exact g_vret C0 G hr dX2_goOn_83 (Nat.le_of_ble_eq_true rfl) (Nat.le_of_ble_eq_true rfl) (by exact ⟨k63, k50, (by rw [(by rw [X2_goOn12_g0] : (X2_goOn12_g0 g0_n) = (X0_start_g12 g0_n))]; exact k51), k52, (by rw [(by rw [X2_goOn12_g1] : (X2_goOn12_g1 g1_n) = (X0_start_g10 g1_n))]; exact k53), k54, (by rw [(by rw [X2_goOn12_g2] : (X2_goOn12_g2 g2_n) = (X0_start_g13 g2_n))]; exact k55), k56, (by rw [(by rw [X2_goOn12_g3] : (X2_goOn12_g3 g3_n) = (X0_start_g14 g3_n))]; exact k57), k58, (by rw [(by rw [X2_goOn12_g4] : (X2_goOn12_g4 g4_n) = (X0_start_g15 g4_n))]; exact k59), k60, k61, (fun a9 e9 h7 h8 => fr62 _ _ (fun q => h7 (by simp only [List.mem_cons, List.not_mem_nil, or_false] at q ⊢; first | exact q | (rcases q with q | q | q | q | q | q | q | q | q | q | q | q <;> simp [q]) | omega)) (hup hf25 (fun q => h7 (by rw [q]; simp)) (h8)))⟩)
def X2_refusal22_n0 (bw : Int32) : Nat := if bw = (-1) then 3 else 0
def X2_refusal22_n1 (wy : Int32) (kd : Int32) (ru : Int32) (so : Int32) (sc : Int32) : Nat := if (X5_isPossibleWicket_r8 wy kd ru so sc) = 0 then 6 else 0
def X2_refusal22_n2 (g1 : Nat → Int32) (nu : Int32) : Nat := if (X0_canComeIn_x1 g1 nu) = 0 then 5 else 0
def X2_refusal22_r3 (ex : Int32) (ov : Int32) (g1 : Nat → Int32) (g2 : Nat → Int32) (lf : Int32) (bw : Int32) (bb : Int32) (ty : Int32) (nu : Int32) (wy : Int32) (kd : Int32) (ru : Int32) (so : Int32) (sc : Int32) : Int32 := if ex = 0 then 1 else (if ov = 0 then (if ty = 1 then (X0_bowlRefusal_r3 g2 lf bw bb nu) else (if ty = 2 then (nI (X2_refusal22_n0 bw)) else (if ty = 3 then (if bw = (-1) then 3 else (nI (X2_refusal22_n1 wy kd ru so sc))) else (if ty = 4 then 0 else (if ty = 5 then (nI (X2_refusal22_n2 g1 nu)) else (if ty = 6 then 0 else (if ty = 7 then 8 else 0))))))) else 1)
set_option maxRecDepth 100000 in
theorem c_X2_refusal22 {l : Launch} (hfl : l.stackTraces = false) {D : va_G} {cy : Nat → ClassId} {f : Hf} {sz : Nat} {A : Nat → Nat} {b : Nat} {st : Nat} {ex : Int32} {ov : Int32} {fi : Int32} {q : Nat → Option Nat} {rs : Int32} {sk : Int32} {ot : Int32} {ch : Int32} {nc : Int32} {g1 : Nat → Int32} {g2 : Nat → Int32} {lm : Int32} {lf : Int32} {oc : Int32} {bw : Int32} {bb : Int32} {bl : Int32} {cd : Int32} {hbg : Int32} {go : Nat → Int32} {ty : Int32} {nu : Int32} {wy : Int32} {kd : Int32} {ru : Int32} {so : Int32} {sb : Int32} {sc : Int32} {sh : Int32} (h_mt : f (A (b + 0)) = some (.inr (4, [.ref (A (b + 1)), .int ex, .int ov, .int 2, .int fi, .int 2]))) (h_al : f (A (b + 1)) = some (.inl (cy 3, 4, .inr (.inr (.inr (.inr q)))))) (h_ij2 : f (A (b + 28)) = some (.inr (2, [.ref (A (b + 29)), .ref (A (b + 31)), .ref (A (b + 33)), .ref (A (b + 35)), .ref (A (b + 37)), .ref (A (b + 39)), .int rs, .int sk, .int ot, .int ch, .int nc]))) (h_t1j2 : f (A (b + 31)) = some (.inr (8, [.int 6, .ref (A (b + 32)), .int 11]))) (h_a1j2 : f (A (b + 32)) = some (.inl (cy 0, 66, .inl g1))) (h_t2j2 : f (A (b + 33)) = some (.inr (8, [.int 7, .ref (A (b + 34)), .int 11]))) (h_a2j2 : f (A (b + 34)) = some (.inl (cy 0, 77, .inl g2))) (h_oj2 : f (A (b + 39)) = some (.inr (5, [.ref (A (b + 40)), .int lm, .int lf, .int oc, .int bw, .int bb, .int bl, .int cd, .int hbg]))) (h_oaj2 : f (A (b + 40)) = some (.inl (cy 0, 20, .inl go))) (h_st : f st = some (.inr (7, [.int ty, .int nu, .int wy, .int kd, .int ru, .int so, .int sb, .int sc, .int sh]))) (hAj : ∀ i j : Nat, i ≠ j → A i ≠ A j) (hq0 : q 0 = some (A (b + 2))) (hq1 : q 1 = some (A (b + 15))) (hq2 : q 2 = some (A (b + 28))) (hq3 : q 3 = some (A (b + 41))) : hMet l yX2_refusal cX2_refusal 3 (some .int) { frames := 3, cells := 0, slots := 0, locals := 67 } D (hTy cy) f sz [.ref (A (b + 0)), .ref st] (hQi (fun r u => r = (X2_refusal22_r3 ex ov g1 g2 lf bw bb ty nu wy kd ru so sc) ∧ u = f) D f sz) hNo := by
  refine h_enter (by decide) hfl (Nat.le_of_ble_eq_true rfl) ?_
  intro p9 e9 s9 m9 b9 t9 c9 hsz C0 hr hnm G ls hl
  have hx := C0.1.1
  have hb := C0.1.2.1
  have hl : lv_has ls 3 [(0, .ref (A (b + 0))), (1, .ref st)] := hl
  refine lv_aload_n hx hb dX2_refusal_0 rfl (lv_at hl 0 rfl) ?_
  refine g_get C0 G h_mt rfl hiX2 1 (by decide) mf_X2_17 rfl dX2_refusal_1 ?_
  refine lv_if_eq (tgt := 14) hx hb dX2_refusal_4 (by decide) (fun c11 => ?_) (fun c11 => ?_)
  · refine lv_iconst (v := 1) hx hb dX2_refusal_14 (by decide) ?_
    exact g_iret C0 G hr dX2_refusal_15 (Nat.le_of_ble_eq_true rfl) (Nat.le_of_ble_eq_true rfl) (by exact ⟨(by rw [X2_refusal22_r3, if_pos c11]), rfl⟩)
  · refine lv_aload_n hx hb dX2_refusal_7 rfl (lv_at hl 0 rfl) ?_
    refine g_get C0 G h_mt rfl hiX2 2 (by decide) mf_X2_21 rfl dX2_refusal_8 ?_
    refine lv_if_eq (tgt := 16) hx hb dX2_refusal_11 (by decide) (fun c12 => ?_) (fun c12 => ?_)
    · refine lv_aload_n hx hb dX2_refusal_16 rfl (lv_at hl 0 rfl) ?_
      refine g_cR C0 G (g_runV C0 G (rest := []) (c_X2_present2 hfl (A := A) (b := b) (ex := ex) (ov := ov) (ie := 2) (fi := fi) (q := q) h_mt h_al hAj hq0 hq1 hq2 hq3) h_mt rfl hY_X2_present mm_X2_43 mi_X2_present ml_X2_present ⟨(Nat.le_of_ble_eq_true rfl), (Nat.le_of_ble_eq_true rfl)⟩ rfl hl.1 rfl (Nat.le_of_ble_eq_true rfl) dX2_refusal_17 ⟨(Nat.le_of_ble_eq_true rfl), (Nat.le_of_ble_eq_true rfl)⟩) (kx_no rfl) (fun a15 u14 H locs hp13 G => ?_)
      obtain ⟨zr, eu14⟩ := hp13
      replace zr := Eq.symm zr
      subst zr
      rw [eu14] at G
      refine lv_astore_n (lv' := [(2, .ref (A (b + 28))), (0, .ref (A (b + 0))), (1, .ref st)]) hx hb dX2_refusal_20 rfl hl (by decide) rfl (fun ls hl => ?_)
      refine lv_aload_n hx hb dX2_refusal_21 rfl (lv_at hl 2 rfl) ?_
      refine g_get C0 G h_st rfl hiX5 0 (by decide) mf_X2_85 rfl dX2_refusal_22 ?_
      have sw23 : (ty = 1) ∨ (¬ ty = 1 ∧ ty = 2) ∨ (¬ ty = 1 ∧ ¬ ty = 2 ∧ ty = 3) ∨ (¬ ty = 1 ∧ ¬ ty = 2 ∧ ¬ ty = 3 ∧ ty = 4) ∨ (¬ ty = 1 ∧ ¬ ty = 2 ∧ ¬ ty = 3 ∧ ¬ ty = 4 ∧ ty = 5) ∨ (¬ ty = 1 ∧ ¬ ty = 2 ∧ ¬ ty = 3 ∧ ¬ ty = 4 ∧ ¬ ty = 5 ∧ ty = 6) ∨ (¬ ty = 1 ∧ ¬ ty = 2 ∧ ¬ ty = 3 ∧ ¬ ty = 4 ∧ ¬ ty = 5 ∧ ¬ ty = 6 ∧ ty = 7) ∨ (¬ ty = 1 ∧ ¬ ty = 2 ∧ ¬ ty = 3 ∧ ¬ ty = 4 ∧ ¬ ty = 5 ∧ ¬ ty = 6 ∧ ¬ ty = 7) := by
        by_cases w16 : ty = 1
        · exact Or.inl w16
        rename ¬ ty = 1 => nw16
        by_cases w17 : ty = 2
        · exact Or.inr (Or.inl ⟨nw16, w17⟩)
        rename ¬ ty = 2 => nw17
        by_cases w18 : ty = 3
        · exact Or.inr (Or.inr (Or.inl ⟨nw16, nw17, w18⟩))
        rename ¬ ty = 3 => nw18
        by_cases w19 : ty = 4
        · exact Or.inr (Or.inr (Or.inr (Or.inl ⟨nw16, nw17, nw18, w19⟩)))
        rename ¬ ty = 4 => nw19
        by_cases w20 : ty = 5
        · exact Or.inr (Or.inr (Or.inr (Or.inr (Or.inl ⟨nw16, nw17, nw18, nw19, w20⟩))))
        rename ¬ ty = 5 => nw20
        by_cases w21 : ty = 6
        · exact Or.inr (Or.inr (Or.inr (Or.inr (Or.inr (Or.inl ⟨nw16, nw17, nw18, nw19, nw20, w21⟩)))))
        rename ¬ ty = 6 => nw21
        by_cases w22 : ty = 7
        · exact Or.inr (Or.inr (Or.inr (Or.inr (Or.inr (Or.inr (Or.inl ⟨nw16, nw17, nw18, nw19, nw20, nw21, w22⟩))))))
        rename ¬ ty = 7 => nw22
        exact Or.inr (Or.inr (Or.inr (Or.inr (Or.inr (Or.inr (Or.inr (⟨nw16, nw17, nw18, nw19, nw20, nw21, nw22⟩)))))))
      rcases sw23 with w16 | ⟨nw16, w17⟩ | ⟨nw16, nw17, w18⟩ | ⟨nw16, nw17, nw18, w19⟩ | ⟨nw16, nw17, nw18, nw19, w20⟩ | ⟨nw16, nw17, nw18, nw19, nw20, w21⟩ | ⟨nw16, nw17, nw18, nw19, nw20, nw21, w22⟩ | ⟨nw16, nw17, nw18, nw19, nw20, nw21, nw22⟩
      · refine lv_tableIn (off := 43) (tgt := 68) hx hb dX2_refusal_25 (by rw [w16]; decide) (by rw [w16]; decide) (by rw [w16]; rfl) (by decide) ?_
        refine lv_aload_n hx hb dX2_refusal_68 rfl (lv_at hl 0 rfl) ?_
        refine lv_aload_n hx hb dX2_refusal_69 rfl (lv_at hl 2 rfl) ?_
        refine g_get C0 G h_st rfl hiX5 1 (by decide) mf_X2_90 rfl dX2_refusal_70 ?_
        refine g_cI C0 G (g_runV C0 G (rest := []) (c_X0_bowlRefusal hfl nu h_ij2 h_t2j2 h_a2j2 h_oj2) h_ij2 rfl hY_X0_bowlRefusal mm_X2_91 mi_X0_bowlRefusal ml_X0_bowlRefusal ⟨(Nat.le_of_ble_eq_true rfl), (Nat.le_of_ble_eq_true rfl)⟩ rfl hl.1 rfl (Nat.le_of_ble_eq_true rfl) dX2_refusal_73 ⟨(Nat.le_of_ble_eq_true rfl), (Nat.le_of_ble_eq_true rfl)⟩) (kx_no rfl) (fun r26 u25 H locs hp24 G => ?_)
        obtain ⟨er27, eu25⟩ := hp24
        rw [eu25] at G
        refine lv_topv (v := (X0_bowlRefusal_r3 g2 lf bw bb nu)) er27 ?_
        exact g_iret C0 G hr dX2_refusal_76 (Nat.le_of_ble_eq_true rfl) (Nat.le_of_ble_eq_true rfl) (by exact ⟨(by rw [X2_refusal22_r3, if_neg c11, if_pos c12, if_pos w16]), rfl⟩)
      · refine lv_tableIn (off := 52) (tgt := 77) hx hb dX2_refusal_25 (by rw [w17]; decide) (by rw [w17]; decide) (by rw [w17]; rfl) (by decide) ?_
        refine lv_aload_n hx hb dX2_refusal_77 rfl (lv_at hl 0 rfl) ?_
        refine g_get C0 G h_ij2 rfl hiX0 5 (by decide) mf_X2_95 rfl dX2_refusal_78 ?_
        refine g_get C0 G h_oj2 rfl hiX3 4 (by decide) mf_X2_98 rfl dX2_refusal_81 ?_
        refine lv_iconst (v := (-1)) hx hb dX2_refusal_84 (by decide) ?_
        have J30 : ∀ (y29 : Int32) (_ : y29 = nI (X2_refusal22_n0 bw)) (H : Heap) (locs : List Loc) (ls : Array Slot), hG D (hA f sz) f s9 H locs → lv_has ls 3 [(2, .ref (A (b + 28))), (0, .ref (A (b + 0))), (1, .ref st)] → W p9 l e9 ({ frames := 3, cells := 0, slots := 0, locals := 67 } : Room) s9 m9 ([.ref (A (b + 0)), .ref st] : List Value).toArray b9 t9 c9 H locs 0 0 (vx_MQ b9 (hQi (fun r u => r = (X2_refusal22_r3 ex ov g1 g2 lf bw bb ty nu wy kd ru so sc) ∧ u = f) D f sz) (hPx hNo D f sz) ([.ref (A (b + 0)), .ref st] : List Value).toArray s9 0 0 (hA f sz)) (F0 m9 93 ls [.int y29]) := by
          intro y29 ey29 H locs ls G hl
          replace ey29 := Eq.symm ey29
          subst ey29
          have bd32 : (X2_refusal22_n0 bw) ≤ 3 := by unfold X2_refusal22_n0; repeat (first | omega | split)
          exact g_iret C0 G hr dX2_refusal_93 (Nat.le_of_ble_eq_true rfl) (Nat.le_of_ble_eq_true rfl) (by exact ⟨(by rw [X2_refusal22_r3, if_neg c11, if_pos c12, if_neg nw16, if_pos w17]), rfl⟩)
        refine lv_icmp_ne (tgt := 92) hx hb dX2_refusal_85 (by decide) (fun c28 => ?_) (fun c28 => ?_)
        · refine lv_iconst (v := 0) hx hb dX2_refusal_92 (by decide) ?_
          exact J30 0 (by rw [X2_refusal22_n0, if_neg c28] <;> rfl) _ _ _ G (lv_sub hl [0, 1, 2] rfl)
        · refine lv_iconst (v := 3) hx hb dX2_refusal_88 (by decide) ?_
          refine lv_goto (tgt := 93) hx hb dX2_refusal_89 (by decide) ?_
          exact J30 3 (by rw [X2_refusal22_n0, if_pos c28] <;> rfl) _ _ _ G (lv_sub hl [0, 1, 2] rfl)
      · refine lv_tableIn (off := 69) (tgt := 94) hx hb dX2_refusal_25 (by rw [w18]; decide) (by rw [w18]; decide) (by rw [w18]; rfl) (by decide) ?_
        refine lv_aload_n hx hb dX2_refusal_94 rfl (lv_at hl 0 rfl) ?_
        refine g_get C0 G h_ij2 rfl hiX0 5 (by decide) mf_X2_95 rfl dX2_refusal_95 ?_
        refine g_get C0 G h_oj2 rfl hiX3 4 (by decide) mf_X2_98 rfl dX2_refusal_98 ?_
        refine lv_iconst (v := (-1)) hx hb dX2_refusal_101 (by decide) ?_
        refine lv_icmp_ne (tgt := 107) hx hb dX2_refusal_102 (by decide) (fun c33 => ?_) (fun c33 => ?_)
        · refine lv_aload_n hx hb dX2_refusal_107 rfl (lv_at hl 2 rfl) ?_
          refine g_cI C0 G (g_runV C0 G (rest := []) (c_X5_isPossibleWicket hfl h_st) h_st rfl hY_X5_isPossibleWicket mm_X2_103 mi_X5_isPossibleWicket ml_X5_isPossibleWicket ⟨(Nat.le_of_ble_eq_true rfl), (Nat.le_of_ble_eq_true rfl)⟩ rfl hl.1 rfl (Nat.le_of_ble_eq_true rfl) dX2_refusal_108 ⟨(Nat.le_of_ble_eq_true rfl), (Nat.le_of_ble_eq_true rfl)⟩) (kx_no rfl) (fun r36 u35 H locs hp34 G => ?_)
          obtain ⟨er37, eu35⟩ := hp34
          rw [eu35] at G
          refine lv_topv (v := (X5_isPossibleWicket_r8 wy kd ru so sc)) er37 ?_
          have J40 : ∀ (y39 : Int32) (_ : y39 = nI (X2_refusal22_n1 wy kd ru so sc)) (H : Heap) (locs : List Loc) (ls : Array Slot), hG D (hA f sz) f s9 H locs → lv_has ls 3 [(2, .ref (A (b + 28))), (0, .ref (A (b + 0))), (1, .ref st)] → W p9 l e9 ({ frames := 3, cells := 0, slots := 0, locals := 67 } : Room) s9 m9 ([.ref (A (b + 0)), .ref st] : List Value).toArray b9 t9 c9 H locs 0 0 (vx_MQ b9 (hQi (fun r u => r = (X2_refusal22_r3 ex ov g1 g2 lf bw bb ty nu wy kd ru so sc) ∧ u = f) D f sz) (hPx hNo D f sz) ([.ref (A (b + 0)), .ref st] : List Value).toArray s9 0 0 (hA f sz)) (F0 m9 120 ls [.int y39]) := by
            intro y39 ey39 H locs ls G hl
            replace ey39 := Eq.symm ey39
            subst ey39
            have bd42 : (X2_refusal22_n1 wy kd ru so sc) ≤ 6 := by unfold X2_refusal22_n1; repeat (first | omega | split)
            exact g_iret C0 G hr dX2_refusal_120 (Nat.le_of_ble_eq_true rfl) (Nat.le_of_ble_eq_true rfl) (by exact ⟨(by rw [X2_refusal22_r3, if_neg c11, if_pos c12, if_neg nw16, if_neg nw17, if_pos w18, if_neg c33]), rfl⟩)
          refine lv_if_eq (tgt := 118) hx hb dX2_refusal_111 (by decide) (fun c38 => ?_) (fun c38 => ?_)
          · refine lv_bipush (v := 6) hx hb dX2_refusal_118 (by decide) ?_
            exact J40 6 (by rw [X2_refusal22_n1, if_pos c38] <;> rfl) _ _ _ G (lv_sub hl [0, 1, 2] rfl)
          · refine lv_iconst (v := 0) hx hb dX2_refusal_114 (by decide) ?_
            refine lv_goto (tgt := 120) hx hb dX2_refusal_115 (by decide) ?_
            exact J40 0 (by rw [X2_refusal22_n1, if_neg c38] <;> rfl) _ _ _ G (lv_sub hl [0, 1, 2] rfl)
        · refine lv_iconst (v := 3) hx hb dX2_refusal_105 (by decide) ?_
          exact g_iret C0 G hr dX2_refusal_106 (Nat.le_of_ble_eq_true rfl) (Nat.le_of_ble_eq_true rfl) (by exact ⟨(by rw [X2_refusal22_r3, if_neg c11, if_pos c12, if_neg nw16, if_neg nw17, if_pos w18, if_pos c33]), rfl⟩)
      · refine lv_tableIn (off := 138) (tgt := 163) hx hb dX2_refusal_25 (by rw [w19]; decide) (by rw [w19]; decide) (by rw [w19]; rfl) (by decide) ?_
        refine lv_iconst (v := 0) hx hb dX2_refusal_163 (by decide) ?_
        exact g_iret C0 G hr dX2_refusal_164 (Nat.le_of_ble_eq_true rfl) (Nat.le_of_ble_eq_true rfl) (by exact ⟨(by rw [X2_refusal22_r3, if_neg c11, if_pos c12, if_neg nw16, if_neg nw17, if_neg nw18, if_pos w19]), rfl⟩)
      · refine lv_tableIn (off := 96) (tgt := 121) hx hb dX2_refusal_25 (by rw [w20]; decide) (by rw [w20]; decide) (by rw [w20]; rfl) (by decide) ?_
        refine lv_aload_n hx hb dX2_refusal_121 rfl (lv_at hl 0 rfl) ?_
        refine lv_aload_n hx hb dX2_refusal_122 rfl (lv_at hl 2 rfl) ?_
        refine g_get C0 G h_st rfl hiX5 1 (by decide) mf_X2_90 rfl dX2_refusal_123 ?_
        refine g_cI C0 G (g_runV C0 G (rest := []) (c_X0_canComeIn hfl nu h_ij2 h_t1j2 h_a1j2) h_ij2 rfl hY_X0_canComeIn mm_X2_106 mi_X0_canComeIn ml_X0_canComeIn ⟨(Nat.le_of_ble_eq_true rfl), (Nat.le_of_ble_eq_true rfl)⟩ rfl hl.1 rfl (Nat.le_of_ble_eq_true rfl) dX2_refusal_126 ⟨(Nat.le_of_ble_eq_true rfl), (Nat.le_of_ble_eq_true rfl)⟩) (kx_no rfl) (fun r45 u44 H locs hp43 G => ?_)
        obtain ⟨er46, eu44⟩ := hp43
        rw [eu44] at G
        refine lv_topv (v := (X0_canComeIn_x1 g1 nu)) er46 ?_
        have J49 : ∀ (y48 : Int32) (_ : y48 = nI (X2_refusal22_n2 g1 nu)) (H : Heap) (locs : List Loc) (ls : Array Slot), hG D (hA f sz) f s9 H locs → lv_has ls 3 [(2, .ref (A (b + 28))), (0, .ref (A (b + 0))), (1, .ref st)] → W p9 l e9 ({ frames := 3, cells := 0, slots := 0, locals := 67 } : Room) s9 m9 ([.ref (A (b + 0)), .ref st] : List Value).toArray b9 t9 c9 H locs 0 0 (vx_MQ b9 (hQi (fun r u => r = (X2_refusal22_r3 ex ov g1 g2 lf bw bb ty nu wy kd ru so sc) ∧ u = f) D f sz) (hPx hNo D f sz) ([.ref (A (b + 0)), .ref st] : List Value).toArray s9 0 0 (hA f sz)) (F0 m9 137 ls [.int y48]) := by
          intro y48 ey48 H locs ls G hl
          replace ey48 := Eq.symm ey48
          subst ey48
          have bd51 : (X2_refusal22_n2 g1 nu) ≤ 5 := by unfold X2_refusal22_n2; repeat (first | omega | split)
          exact g_iret C0 G hr dX2_refusal_137 (Nat.le_of_ble_eq_true rfl) (Nat.le_of_ble_eq_true rfl) (by exact ⟨(by rw [X2_refusal22_r3, if_neg c11, if_pos c12, if_neg nw16, if_neg nw17, if_neg nw18, if_neg nw19, if_pos w20]), rfl⟩)
        refine lv_if_eq (tgt := 136) hx hb dX2_refusal_129 (by decide) (fun c47 => ?_) (fun c47 => ?_)
        · refine lv_iconst (v := 5) hx hb dX2_refusal_136 (by decide) ?_
          exact J49 5 (by rw [X2_refusal22_n2, if_pos c47] <;> rfl) _ _ _ G (lv_sub hl [0, 1, 2] rfl)
        · refine lv_iconst (v := 0) hx hb dX2_refusal_132 (by decide) ?_
          refine lv_goto (tgt := 137) hx hb dX2_refusal_133 (by decide) ?_
          exact J49 0 (by rw [X2_refusal22_n2, if_neg c47] <;> rfl) _ _ _ G (lv_sub hl [0, 1, 2] rfl)
      · refine lv_tableIn (off := 138) (tgt := 163) hx hb dX2_refusal_25 (by rw [w21]; decide) (by rw [w21]; decide) (by rw [w21]; rfl) (by decide) ?_
        refine lv_iconst (v := 0) hx hb dX2_refusal_163 (by decide) ?_
        exact g_iret C0 G hr dX2_refusal_164 (Nat.le_of_ble_eq_true rfl) (Nat.le_of_ble_eq_true rfl) (by exact ⟨(by rw [X2_refusal22_r3, if_neg c11, if_pos c12, if_neg nw16, if_neg nw17, if_neg nw18, if_neg nw19, if_neg nw20, if_pos w21]), rfl⟩)
      · refine lv_tableIn (off := 113) (tgt := 138) hx hb dX2_refusal_25 (by rw [w22]; decide) (by rw [w22]; decide) (by rw [w22]; rfl) (by decide) ?_
        refine lv_aload_n hx hb dX2_refusal_138 rfl (lv_at hl 1 rfl) ?_
        refine g_cI C0 G (g_runV C0 G (rest := []) (c_X2_hasResources hfl (A := A) (b := b) (ex := ex) (ov := ov) (ie := 2) (fi := fi) (nu := 2) (q := q) h_mt h_al hAj hq0 hq1 hq2 hq3) h_mt rfl hY_X2_hasResources mm_X2_50 mi_X2_hasResources ml_X2_hasResources ⟨(Nat.le_of_ble_eq_true rfl), (Nat.le_of_ble_eq_true rfl)⟩ rfl hl.1 rfl (Nat.le_of_ble_eq_true rfl) dX2_refusal_139 ⟨(Nat.le_of_ble_eq_true rfl), (Nat.le_of_ble_eq_true rfl)⟩) (kx_no rfl) (fun r54 u53 H locs hp52 G => ?_)
        obtain ⟨er55, eu53⟩ := hp52
        rw [eu53] at G
        refine lv_topv (v := (X2_hasResources_x0 2)) er55 ?_
        refine lv_topv (v := 0) (by decide) ?_
        refine lv_if_eq (tgt := 160) hx hb dX2_refusal_142 (by decide) (fun _ => ?_) (fun c56 => absurd (by decide) c56)
        refine lv_bipush (v := 8) hx hb dX2_refusal_160 (by decide) ?_
        exact g_iret C0 G hr dX2_refusal_162 (Nat.le_of_ble_eq_true rfl) (Nat.le_of_ble_eq_true rfl) (by exact ⟨(by rw [X2_refusal22_r3, if_neg c11, if_pos c12, if_neg nw16, if_neg nw17, if_neg nw18, if_neg nw19, if_neg nw20, if_neg nw21, if_pos w22]), rfl⟩)
      · have q57 : ty.toInt < 1 ∨ 7 < ty.toInt := by
          have tw16 : ty.toInt ≠ 1 := fun z => nw16 (Int32.toInt_inj.mp z)
          have tw17 : ty.toInt ≠ 2 := fun z => nw17 (Int32.toInt_inj.mp z)
          have tw18 : ty.toInt ≠ 3 := fun z => nw18 (Int32.toInt_inj.mp z)
          have tw19 : ty.toInt ≠ 4 := fun z => nw19 (Int32.toInt_inj.mp z)
          have tw20 : ty.toInt ≠ 5 := fun z => nw20 (Int32.toInt_inj.mp z)
          have tw21 : ty.toInt ≠ 6 := fun z => nw21 (Int32.toInt_inj.mp z)
          have tw22 : ty.toInt ≠ 7 := fun z => nw22 (Int32.toInt_inj.mp z)
          omega
        refine lv_tableOut (tgt := 163) hx hb dX2_refusal_25 q57 (by decide) ?_
        refine lv_iconst (v := 0) hx hb dX2_refusal_163 (by decide) ?_
        exact g_iret C0 G hr dX2_refusal_164 (Nat.le_of_ble_eq_true rfl) (Nat.le_of_ble_eq_true rfl) (by exact ⟨(by rw [X2_refusal22_r3, if_neg c11, if_pos c12, if_neg nw16, if_neg nw17, if_neg nw18, if_neg nw19, if_neg nw20, if_neg nw21, if_neg nw22]), rfl⟩)
    · refine lv_iconst (v := 1) hx hb dX2_refusal_14 (by decide) ?_
      exact g_iret C0 G hr dX2_refusal_15 (Nat.le_of_ble_eq_true rfl) (Nat.le_of_ble_eq_true rfl) (by exact ⟨(by rw [X2_refusal22_r3, if_neg c11, if_neg c12]), rfl⟩)
def X2_dueEnd22_x0 (nc : Int32) (lm : Int32) (oc : Int32) (dl : Int32) : Int32 := if dl = 0 then (X0_ending_r1 lm oc nc) else 3
set_option maxRecDepth 100000 in
theorem c_X2_dueEnd22 {l : Launch} (hfl : l.stackTraces = false) {D : va_G} {cy : Nat → ClassId} {f : Hf} {sz : Nat} {A : Nat → Nat} {b : Nat} {ex : Int32} {ov : Int32} {fi : Int32} {q : Nat → Option Nat} {rs : Int32} {sk : Int32} {ot : Int32} {ch : Int32} {nc : Int32} {g0 : Nat → Int32} {lm : Int32} {lf : Int32} {oc : Int32} {bw : Int32} {bb : Int32} {bl : Int32} {cd : Int32} {hbg : Int32} {go : Nat → Int32} (dl : Int32) (h_mt : f (A (b + 0)) = some (.inr (4, [.ref (A (b + 1)), .int ex, .int ov, .int 2, .int fi, .int 2]))) (h_al : f (A (b + 1)) = some (.inl (cy 3, 4, .inr (.inr (.inr (.inr q)))))) (h_ij2 : f (A (b + 28)) = some (.inr (2, [.ref (A (b + 29)), .ref (A (b + 31)), .ref (A (b + 33)), .ref (A (b + 35)), .ref (A (b + 37)), .ref (A (b + 39)), .int rs, .int sk, .int ot, .int ch, .int nc]))) (h_t0j2 : f (A (b + 29)) = some (.inr (8, [.int 8, .ref (A (b + 30)), .int 1]))) (h_a0j2 : f (A (b + 30)) = some (.inl (cy 0, 8, .inl g0))) (h_oj2 : f (A (b + 39)) = some (.inr (5, [.ref (A (b + 40)), .int lm, .int lf, .int oc, .int bw, .int bb, .int bl, .int cd, .int hbg]))) (h_oaj2 : f (A (b + 40)) = some (.inl (cy 0, 20, .inl go))) (hAj : ∀ i j : Nat, i ≠ j → A i ≠ A j) (hq0 : q 0 = some (A (b + 2))) (hq1 : q 1 = some (A (b + 15))) (hq2 : q 2 = some (A (b + 28))) (hq3 : q 3 = some (A (b + 41))) : hMet l yX2_dueEnd cX2_dueEnd 3 (some .int) { frames := 3, cells := 0, slots := 0, locals := 56 } D (hTy cy) f sz [.ref (A (b + 0)), .int dl] (hQi (fun r u => r = (X2_dueEnd22_x0 nc lm oc dl) ∧ u = f) D f sz) hNo := by
  refine h_enter (by decide) hfl (Nat.le_of_ble_eq_true rfl) ?_
  intro p9 e9 s9 m9 b9 t9 c9 hsz C0 hr hnm G ls hl
  have hx := C0.1.1
  have hb := C0.1.2.1
  have hl : lv_has ls 3 [(0, .ref (A (b + 0))), (1, .int dl)] := hl
  refine lv_aload_n hx hb dX2_dueEnd_0 rfl (lv_at hl 0 rfl) ?_
  refine g_cR C0 G (g_runV C0 G (rest := []) (c_X2_present2 hfl (A := A) (b := b) (ex := ex) (ov := ov) (ie := 2) (fi := fi) (q := q) h_mt h_al hAj hq0 hq1 hq2 hq3) h_mt rfl hY_X2_present mm_X2_43 mi_X2_present ml_X2_present ⟨(Nat.le_of_ble_eq_true rfl), (Nat.le_of_ble_eq_true rfl)⟩ rfl hl.1 rfl (Nat.le_of_ble_eq_true rfl) dX2_dueEnd_1 ⟨(Nat.le_of_ble_eq_true rfl), (Nat.le_of_ble_eq_true rfl)⟩) (kx_no rfl) (fun a13 u12 H locs hp11 G => ?_)
  obtain ⟨zr, eu12⟩ := hp11
  replace zr := Eq.symm zr
  subst zr
  rw [eu12] at G
  refine lv_astore_n (lv' := [(2, .ref (A (b + 28))), (0, .ref (A (b + 0))), (1, .int dl)]) hx hb dX2_dueEnd_4 rfl hl (by decide) rfl (fun ls hl => ?_)
  refine lv_aload_n hx hb dX2_dueEnd_5 rfl (lv_at hl 1 rfl) ?_
  refine g_cI C0 G (g_runV C0 G (rest := []) (c_X2_isLastPlayed hfl (A := A) (b := b) (ex := ex) (ov := ov) (ie := 2) (fi := fi) (nu := 2) (q := q) h_mt h_al hAj hq0 hq1 hq2 hq3) h_mt rfl hY_X2_isLastPlayed mm_X2_145 mi_X2_isLastPlayed ml_X2_isLastPlayed ⟨(Nat.le_of_ble_eq_true rfl), (Nat.le_of_ble_eq_true rfl)⟩ rfl hl.1 rfl (Nat.le_of_ble_eq_true rfl) dX2_dueEnd_6 ⟨(Nat.le_of_ble_eq_true rfl), (Nat.le_of_ble_eq_true rfl)⟩) (kx_no rfl) (fun r16 u15 H locs hp14 G => ?_)
  obtain ⟨er17, eu15⟩ := hp14
  rw [eu15] at G
  refine lv_topv (v := (X2_isLastPlayed_x0 2 2)) er17 ?_
  refine lv_topv (v := 0) (by decide) ?_
  refine lv_if_eq (tgt := 26) hx hb dX2_dueEnd_9 (by decide) (fun _ => ?_) (fun c18 => absurd (by decide) c18)
  refine lv_iload_n hx hb dX2_dueEnd_26 rfl (lv_at hl 2 rfl) ?_
  have J21 : ∀ (y20 : Int32) (_ : y20 = (X2_dueEnd22_x0 nc lm oc dl)) (H : Heap) (locs : List Loc) (ls : Array Slot), hG D (hA f sz) f s9 H locs → lv_has ls 3 [(2, .ref (A (b + 28))), (0, .ref (A (b + 0))), (1, .int dl)] → W p9 l e9 ({ frames := 3, cells := 0, slots := 0, locals := 56 } : Room) s9 m9 ([.ref (A (b + 0)), .int dl] : List Value).toArray b9 t9 c9 H locs 0 0 (vx_MQ b9 (hQi (fun r u => r = (X2_dueEnd22_x0 nc lm oc dl) ∧ u = f) D f sz) (hPx hNo D f sz) ([.ref (A (b + 0)), .int dl] : List Value).toArray s9 0 0 (hA f sz)) (F0 m9 38 ls [.int y20]) := by
    intro y20 ey20 H locs ls G hl
    replace ey20 := Eq.symm ey20
    subst ey20
    exact g_iret C0 G hr dX2_dueEnd_38 (Nat.le_of_ble_eq_true rfl) (Nat.le_of_ble_eq_true rfl) (by exact ⟨rfl, rfl⟩)
  refine lv_if_eq (tgt := 34) hx hb dX2_dueEnd_27 (by decide) (fun c19 => ?_) (fun c19 => ?_)
  · refine lv_aload_n hx hb dX2_dueEnd_34 rfl (lv_at hl 0 rfl) ?_
    refine g_cI C0 G (g_runV C0 G (rest := []) (c_X0_ending hfl h_ij2 h_oj2) h_ij2 rfl hY_X0_ending mm_X2_151 mi_X0_ending ml_X0_ending ⟨(Nat.le_of_ble_eq_true rfl), (Nat.le_of_ble_eq_true rfl)⟩ rfl hl.1 rfl (Nat.le_of_ble_eq_true rfl) dX2_dueEnd_35 ⟨(Nat.le_of_ble_eq_true rfl), (Nat.le_of_ble_eq_true rfl)⟩) (kx_no rfl) (fun r25 u24 H locs hp23 G => ?_)
    obtain ⟨er26, eu24⟩ := hp23
    rw [eu24] at G
    refine lv_topv (v := (X0_ending_r1 lm oc nc)) er26 ?_
    exact J21 (X0_ending_r1 lm oc nc) (by rw [X2_dueEnd22_x0, if_pos c19]) _ _ _ G (lv_sub hl [0, 1, 2] rfl)
  · refine lv_iconst (v := 3) hx hb dX2_dueEnd_30 (by decide) ?_
    refine lv_goto (tgt := 38) hx hb dX2_dueEnd_31 (by decide) ?_
    exact J21 3 (by rw [X2_dueEnd22_x0, if_neg c19]) _ _ _ G (lv_sub hl [0, 1, 2] rfl)
def X2_goOn22_x0 (ov : Int32) (g0 : Nat → Int32) (g0_a : Nat → Int32) (g0_b : Nat → Int32) : Int32 := if 0 < (X2_target2_r0 g0_a g0_b g0) then ov else 1
def X2_goOn22_x1 (g0 : Nat → Int32) (g0_a : Nat → Int32) (g0_b : Nat → Int32) : Int32 := if 0 < (X2_target2_r0 g0_a g0_b g0) then 3 else 2
def X2_goOn22_x2 (g0 : Nat → Int32) (g0_a : Nat → Int32) (g0_b : Nat → Int32) (r0_n : Int32) : Int32 := if 0 < (X2_target2_r0 g0_a g0_b g0) then 1 else r0_n
def X2_goOn22_g3 (g0 : Nat → Int32) (g0_a : Nat → Int32) (g0_b : Nat → Int32) (g0_n : Nat → Int32) : Nat → Int32 := if 0 < (X2_target2_r0 g0_a g0_b g0) then (X0_start_g12 g0_n) else g0_n
def X2_goOn22_x4 (g0 : Nat → Int32) (g0_a : Nat → Int32) (g0_b : Nat → Int32) (r1_n : Int32) : Int32 := if 0 < (X2_target2_r0 g0_a g0_b g0) then 11 else r1_n
def X2_goOn22_g5 (g0 : Nat → Int32) (g0_a : Nat → Int32) (g0_b : Nat → Int32) (g1_n : Nat → Int32) : Nat → Int32 := if 0 < (X2_target2_r0 g0_a g0_b g0) then (X0_start_g10 g1_n) else g1_n
def X2_goOn22_x6 (g0 : Nat → Int32) (g0_a : Nat → Int32) (g0_b : Nat → Int32) (r2_n : Int32) : Int32 := if 0 < (X2_target2_r0 g0_a g0_b g0) then 11 else r2_n
def X2_goOn22_g7 (g0 : Nat → Int32) (g0_a : Nat → Int32) (g0_b : Nat → Int32) (g2_n : Nat → Int32) : Nat → Int32 := if 0 < (X2_target2_r0 g0_a g0_b g0) then (X0_start_g13 g2_n) else g2_n
def X2_goOn22_x8 (g0 : Nat → Int32) (g0_a : Nat → Int32) (g0_b : Nat → Int32) (r3_n : Int32) : Int32 := if 0 < (X2_target2_r0 g0_a g0_b g0) then 1 else r3_n
def X2_goOn22_g9 (g0 : Nat → Int32) (g0_a : Nat → Int32) (g0_b : Nat → Int32) (g3_n : Nat → Int32) : Nat → Int32 := if 0 < (X2_target2_r0 g0_a g0_b g0) then (X0_start_g14 g3_n) else g3_n
def X2_goOn22_x10 (g0 : Nat → Int32) (g0_a : Nat → Int32) (g0_b : Nat → Int32) (r4_n : Int32) : Int32 := if 0 < (X2_target2_r0 g0_a g0_b g0) then 0 else r4_n
def X2_goOn22_g11 (g0 : Nat → Int32) (g0_a : Nat → Int32) (g0_b : Nat → Int32) (g4_n : Nat → Int32) : Nat → Int32 := if 0 < (X2_target2_r0 g0_a g0_b g0) then (X0_start_g15 g4_n) else g4_n
def X2_goOn22_x12 (g0 : Nat → Int32) (lm : Int32) (g0_a : Nat → Int32) (g0_b : Nat → Int32) (lm_n : Int32) : Int32 := if 0 < (X2_target2_r0 g0_a g0_b g0) then lm else lm_n
def X2_goOn22_x13 (g0 : Nat → Int32) (lm : Int32) (g0_a : Nat → Int32) (g0_b : Nat → Int32) (lf_n : Int32) : Int32 := if 0 < (X2_target2_r0 g0_a g0_b g0) then lm else lf_n
def X2_goOn22_x14 (g0 : Nat → Int32) (g0_a : Nat → Int32) (g0_b : Nat → Int32) (oc_n : Int32) : Int32 := if 0 < (X2_target2_r0 g0_a g0_b g0) then 0 else oc_n
def X2_goOn22_x15 (g0 : Nat → Int32) (g0_a : Nat → Int32) (g0_b : Nat → Int32) (bw_n : Int32) : Int32 := if 0 < (X2_target2_r0 g0_a g0_b g0) then (-1) else bw_n
def X2_goOn22_x16 (g0 : Nat → Int32) (g0_a : Nat → Int32) (g0_b : Nat → Int32) (bb_n : Int32) : Int32 := if 0 < (X2_target2_r0 g0_a g0_b g0) then (-1) else bb_n
def X2_goOn22_x17 (g0 : Nat → Int32) (g0_a : Nat → Int32) (g0_b : Nat → Int32) (bl_n : Int32) : Int32 := if 0 < (X2_target2_r0 g0_a g0_b g0) then 0 else bl_n
def X2_goOn22_x18 (g0 : Nat → Int32) (g0_a : Nat → Int32) (g0_b : Nat → Int32) (cd_n : Int32) : Int32 := if 0 < (X2_target2_r0 g0_a g0_b g0) then 0 else cd_n
def X2_goOn22_x19 (g0 : Nat → Int32) (g0_a : Nat → Int32) (g0_b : Nat → Int32) (hbg_n : Int32) : Int32 := if 0 < (X2_target2_r0 g0_a g0_b g0) then 0 else hbg_n
def X2_goOn22_x20 (g0 : Nat → Int32) (lm : Int32) (g0_a : Nat → Int32) (g0_b : Nat → Int32) (rs_n : Int32) (g0_n : Nat → Int32) : Int32 := if 0 < (X2_target2_r0 g0_a g0_b g0) then (X0_start_x11 g0_n lm 0) else rs_n
def X2_goOn22_x21 (g0 : Nat → Int32) (g0_a : Nat → Int32) (g0_b : Nat → Int32) (sk_n : Int32) : Int32 := if 0 < (X2_target2_r0 g0_a g0_b g0) then 0 else sk_n
def X2_goOn22_x22 (g0 : Nat → Int32) (g0_a : Nat → Int32) (g0_b : Nat → Int32) (ot_n : Int32) : Int32 := if 0 < (X2_target2_r0 g0_a g0_b g0) then 1 else ot_n
def X2_goOn22_x23 (g0 : Nat → Int32) (g0_a : Nat → Int32) (g0_b : Nat → Int32) (ch_n : Int32) : Int32 := if 0 < (X2_target2_r0 g0_a g0_b g0) then (-1) else ch_n
def X2_goOn22_x24 (g0 : Nat → Int32) (g0_a : Nat → Int32) (g0_b : Nat → Int32) (nc_n : Int32) : Int32 := if 0 < (X2_target2_r0 g0_a g0_b g0) then 0 else nc_n
set_option maxRecDepth 100000 in
theorem c_X2_goOn22 {l : Launch} (hfl : l.stackTraces = false) {D : va_G} {cy : Nat → ClassId} {f : Hf} {sz : Nat} {A : Nat → Nat} {b : Nat} {ex : Int32} {ov : Int32} {fi : Int32} {q : Nat → Option Nat} {rs : Int32} {sk : Int32} {ot : Int32} {ch : Int32} {nc : Int32} {g0 : Nat → Int32} {lm : Int32} {lf : Int32} {oc : Int32} {bw : Int32} {bb : Int32} {bl : Int32} {cd : Int32} {hbg : Int32} {go : Nat → Int32} {rs_a : Int32} {sk_a : Int32} {ot_a : Int32} {ch_a : Int32} {nc_a : Int32} {g0_a : Nat → Int32} {rs_b : Int32} {sk_b : Int32} {ot_b : Int32} {ch_b : Int32} {nc_b : Int32} {g0_b : Nat → Int32} {rs_n : Int32} {sk_n : Int32} {ot_n : Int32} {ch_n : Int32} {nc_n : Int32} {r0_n : Int32} {g0_n : Nat → Int32} {r1_n : Int32} {g1_n : Nat → Int32} {r2_n : Int32} {g2_n : Nat → Int32} {r3_n : Int32} {g3_n : Nat → Int32} {r4_n : Int32} {g4_n : Nat → Int32} {lm_n : Int32} {lf_n : Int32} {oc_n : Int32} {bw_n : Int32} {bb_n : Int32} {bl_n : Int32} {cd_n : Int32} {hbg_n : Int32} {go_n : Nat → Int32} (h_mt : f (A (b + 0)) = some (.inr (4, [.ref (A (b + 1)), .int ex, .int ov, .int 2, .int fi, .int 2]))) (h_al : f (A (b + 1)) = some (.inl (cy 3, 4, .inr (.inr (.inr (.inr q)))))) (h_ij2 : f (A (b + 28)) = some (.inr (2, [.ref (A (b + 29)), .ref (A (b + 31)), .ref (A (b + 33)), .ref (A (b + 35)), .ref (A (b + 37)), .ref (A (b + 39)), .int rs, .int sk, .int ot, .int ch, .int nc]))) (h_t0j2 : f (A (b + 29)) = some (.inr (8, [.int 8, .ref (A (b + 30)), .int 1]))) (h_a0j2 : f (A (b + 30)) = some (.inl (cy 0, 8, .inl g0))) (h_oj2 : f (A (b + 39)) = some (.inr (5, [.ref (A (b + 40)), .int lm, .int lf, .int oc, .int bw, .int bb, .int bl, .int cd, .int hbg]))) (h_oaj2 : f (A (b + 40)) = some (.inl (cy 0, 20, .inl go))) (h_ij0 : f (A (b + 2)) = some (.inr (2, [.ref (A (b + 3)), .ref (A (b + 5)), .ref (A (b + 7)), .ref (A (b + 9)), .ref (A (b + 11)), .ref (A (b + 13)), .int rs_a, .int sk_a, .int ot_a, .int ch_a, .int nc_a]))) (h_t0j0 : f (A (b + 3)) = some (.inr (8, [.int 8, .ref (A (b + 4)), .int 1]))) (h_a0j0 : f (A (b + 4)) = some (.inl (cy 0, 8, .inl g0_a))) (h_ij1 : f (A (b + 15)) = some (.inr (2, [.ref (A (b + 16)), .ref (A (b + 18)), .ref (A (b + 20)), .ref (A (b + 22)), .ref (A (b + 24)), .ref (A (b + 26)), .int rs_b, .int sk_b, .int ot_b, .int ch_b, .int nc_b]))) (h_t0j1 : f (A (b + 16)) = some (.inr (8, [.int 8, .ref (A (b + 17)), .int 1]))) (h_a0j1 : f (A (b + 17)) = some (.inl (cy 0, 8, .inl g0_b))) (h_ij3 : f (A (b + 41)) = some (.inr (2, [.ref (A (b + 42)), .ref (A (b + 44)), .ref (A (b + 46)), .ref (A (b + 48)), .ref (A (b + 50)), .ref (A (b + 52)), .int rs_n, .int sk_n, .int ot_n, .int ch_n, .int nc_n]))) (h_t0j3 : f (A (b + 42)) = some (.inr (8, [.int 8, .ref (A (b + 43)), .int r0_n]))) (h_a0j3 : f (A (b + 43)) = some (.inl (cy 0, 8, .inl g0_n))) (h_t1j3 : f (A (b + 44)) = some (.inr (8, [.int 6, .ref (A (b + 45)), .int r1_n]))) (h_a1j3 : f (A (b + 45)) = some (.inl (cy 0, 66, .inl g1_n))) (h_t2j3 : f (A (b + 46)) = some (.inr (8, [.int 7, .ref (A (b + 47)), .int r2_n]))) (h_a2j3 : f (A (b + 47)) = some (.inl (cy 0, 77, .inl g2_n))) (h_t3j3 : f (A (b + 48)) = some (.inr (8, [.int 8, .ref (A (b + 49)), .int r3_n]))) (h_a3j3 : f (A (b + 49)) = some (.inl (cy 0, 4104, .inl g3_n))) (h_t4j3 : f (A (b + 50)) = some (.inr (8, [.int 3, .ref (A (b + 51)), .int r4_n]))) (h_a4j3 : f (A (b + 51)) = some (.inl (cy 0, 33, .inl g4_n))) (h_oj3 : f (A (b + 52)) = some (.inr (5, [.ref (A (b + 53)), .int lm_n, .int lf_n, .int oc_n, .int bw_n, .int bb_n, .int bl_n, .int cd_n, .int hbg_n]))) (h_oaj3 : f (A (b + 53)) = some (.inl (cy 0, 20, .inl go_n))) (hAj : ∀ i j : Nat, i ≠ j → A i ≠ A j) (hq0 : q 0 = some (A (b + 2))) (hq1 : q 1 = some (A (b + 15))) (hq2 : q 2 = some (A (b + 28))) (hq3 : q 3 = some (A (b + 41))) : hMet l yX2_goOn cX2_goOn 3 none { frames := 3, cells := 0, slots := 0, locals := 69 } D (hTy cy) f sz [.ref (A (b + 0))] (hQv (fun u => u (A (b + 0)) = some (.inr (4, [.ref (A (b + 1)), .int ex, .int (X2_goOn22_x0 ov g0 g0_a g0_b), .int 2, .int fi, .int (X2_goOn22_x1 g0 g0_a g0_b)])) ∧ u (A (b + 42)) = some (.inr (8, [.int 8, .ref (A (b + 43)), .int (X2_goOn22_x2 g0 g0_a g0_b r0_n)])) ∧ u (A (b + 43)) = some (.inl (cy 0, 8, .inl (X2_goOn22_g3 g0 g0_a g0_b g0_n))) ∧ u (A (b + 44)) = some (.inr (8, [.int 6, .ref (A (b + 45)), .int (X2_goOn22_x4 g0 g0_a g0_b r1_n)])) ∧ u (A (b + 45)) = some (.inl (cy 0, 66, .inl (X2_goOn22_g5 g0 g0_a g0_b g1_n))) ∧ u (A (b + 46)) = some (.inr (8, [.int 7, .ref (A (b + 47)), .int (X2_goOn22_x6 g0 g0_a g0_b r2_n)])) ∧ u (A (b + 47)) = some (.inl (cy 0, 77, .inl (X2_goOn22_g7 g0 g0_a g0_b g2_n))) ∧ u (A (b + 48)) = some (.inr (8, [.int 8, .ref (A (b + 49)), .int (X2_goOn22_x8 g0 g0_a g0_b r3_n)])) ∧ u (A (b + 49)) = some (.inl (cy 0, 4104, .inl (X2_goOn22_g9 g0 g0_a g0_b g3_n))) ∧ u (A (b + 50)) = some (.inr (8, [.int 3, .ref (A (b + 51)), .int (X2_goOn22_x10 g0 g0_a g0_b r4_n)])) ∧ u (A (b + 51)) = some (.inl (cy 0, 33, .inl (X2_goOn22_g11 g0 g0_a g0_b g4_n))) ∧ u (A (b + 52)) = some (.inr (5, [.ref (A (b + 53)), .int (X2_goOn22_x12 g0 lm g0_a g0_b lm_n), .int (X2_goOn22_x13 g0 lm g0_a g0_b lf_n), .int (X2_goOn22_x14 g0 g0_a g0_b oc_n), .int (X2_goOn22_x15 g0 g0_a g0_b bw_n), .int (X2_goOn22_x16 g0 g0_a g0_b bb_n), .int (X2_goOn22_x17 g0 g0_a g0_b bl_n), .int (X2_goOn22_x18 g0 g0_a g0_b cd_n), .int (X2_goOn22_x19 g0 g0_a g0_b hbg_n)])) ∧ u (A (b + 41)) = some (.inr (2, [.ref (A (b + 42)), .ref (A (b + 44)), .ref (A (b + 46)), .ref (A (b + 48)), .ref (A (b + 50)), .ref (A (b + 52)), .int (X2_goOn22_x20 g0 lm g0_a g0_b rs_n g0_n), .int (X2_goOn22_x21 g0 g0_a g0_b sk_n), .int (X2_goOn22_x22 g0 g0_a g0_b ot_n), .int (X2_goOn22_x23 g0 g0_a g0_b ch_n), .int (X2_goOn22_x24 g0 g0_a g0_b nc_n)])) ∧ hFrL f u [(A (b + 0)), (A (b + 42)), (A (b + 43)), (A (b + 44)), (A (b + 45)), (A (b + 46)), (A (b + 47)), (A (b + 48)), (A (b + 49)), (A (b + 50)), (A (b + 51)), (A (b + 52)), (A (b + 41))]) D f sz) hNo := by
  refine h_enter (by decide) hfl (Nat.le_of_ble_eq_true rfl) ?_
  intro p9 e9 s9 m9 b9 t9 c9 hsz C0 hr hnm G ls hl
  have hx := C0.1.1
  have hb := C0.1.2.1
  have hl : lv_has ls 3 [(0, .ref (A (b + 0)))] := hl
  refine lv_aload_n hx hb dX2_goOn_0 rfl (lv_at hl 0 rfl) ?_
  refine g_get C0 G h_mt rfl hiX2 5 (by decide) mf_X2_31 rfl dX2_goOn_1 ?_
  refine lv_iconst (v := 1) hx hb dX2_goOn_4 (by decide) ?_
  refine lv_iadd hx hb dX2_goOn_5 ?_
  refine lv_topv (v := 3) (by decide) ?_
  refine lv_aload_n hx hb dX2_goOn_6 rfl (lv_at hl 0 rfl) ?_
  refine g_cI C0 G (g_runV C0 G (rest := [.int 3]) (c_X2_lastNumber hfl (A := A) (b := b) (ex := ex) (ov := ov) (ie := 2) (fi := fi) (nu := 2) (q := q) h_mt h_al hAj hq0 hq1 hq2 hq3) h_mt rfl hY_X2_lastNumber mm_X2_81 mi_X2_lastNumber ml_X2_lastNumber ⟨(Nat.le_of_ble_eq_true rfl), (Nat.le_of_ble_eq_true rfl)⟩ rfl hl.1 rfl (Nat.le_of_ble_eq_true rfl) dX2_goOn_7 ⟨(Nat.le_of_ble_eq_true rfl), (Nat.le_of_ble_eq_true rfl)⟩) (kx_no rfl) (fun r13 u12 H locs hp11 G => ?_)
  obtain ⟨er14, eu12⟩ := hp11
  rw [eu12] at G
  refine lv_topv (v := (X2_lastNumber_r0 2)) er14 ?_
  refine lv_topv (v := 3) (by decide) ?_
  refine lv_icmp_ne (tgt := 17) hx hb dX2_goOn_10 (by decide) (fun c15 => absurd (by decide) c15) (fun _ => ?_)
  refine lv_iconst (v := 1) hx hb dX2_goOn_13 (by decide) ?_
  refine lv_goto (tgt := 18) hx hb dX2_goOn_14 (by decide) ?_
  refine lv_istore_n (lv' := [(1, .int 1), (0, .ref (A (b + 0)))]) hx hb dX2_goOn_18 rfl hl (by decide) rfl (fun ls hl => ?_)
  refine lv_aload_n hx hb dX2_goOn_19 rfl (lv_at hl 1 rfl) ?_
  refine g_cI C0 G (g_runV C0 G (rest := []) (c_X2_isLastPlayed hfl (A := A) (b := b) (ex := ex) (ov := ov) (ie := 2) (fi := fi) (nu := 2) (q := q) h_mt h_al hAj hq0 hq1 hq2 hq3) h_mt rfl hY_X2_isLastPlayed mm_X2_145 mi_X2_isLastPlayed ml_X2_isLastPlayed ⟨(Nat.le_of_ble_eq_true rfl), (Nat.le_of_ble_eq_true rfl)⟩ rfl hl.1 rfl (Nat.le_of_ble_eq_true rfl) dX2_goOn_20 ⟨(Nat.le_of_ble_eq_true rfl), (Nat.le_of_ble_eq_true rfl)⟩) (kx_no rfl) (fun r18 u17 H locs hp16 G => ?_)
  obtain ⟨er19, eu17⟩ := hp16
  rw [eu17] at G
  refine lv_topv (v := (X2_isLastPlayed_x0 2 2)) er19 ?_
  refine lv_topv (v := 0) (by decide) ?_
  refine lv_if_ne (tgt := 44) hx hb dX2_goOn_23 (by decide) (fun c20 => absurd (by decide) c20) (fun _ => ?_)
  refine lv_iload_n hx hb dX2_goOn_26 rfl (lv_at hl 0 rfl) ?_
  refine lv_if_eq (tgt := 50) hx hb dX2_goOn_27 (by decide) (fun c21 => absurd c21 (by decide)) (fun _ => ?_)
  refine lv_aload_n hx hb dX2_goOn_30 rfl (lv_at hl 1 rfl) ?_
  refine g_cI C0 G (g_runV C0 G (rest := []) (c_X2_hasResources hfl (A := A) (b := b) (ex := ex) (ov := ov) (ie := 2) (fi := fi) (nu := 2) (q := q) h_mt h_al hAj hq0 hq1 hq2 hq3) h_mt rfl hY_X2_hasResources mm_X2_50 mi_X2_hasResources ml_X2_hasResources ⟨(Nat.le_of_ble_eq_true rfl), (Nat.le_of_ble_eq_true rfl)⟩ rfl hl.1 rfl (Nat.le_of_ble_eq_true rfl) dX2_goOn_31 ⟨(Nat.le_of_ble_eq_true rfl), (Nat.le_of_ble_eq_true rfl)⟩) (kx_no rfl) (fun r24 u23 H locs hp22 G => ?_)
  obtain ⟨er25, eu23⟩ := hp22
  rw [eu23] at G
  refine lv_topv (v := (X2_hasResources_x0 2)) er25 ?_
  refine lv_topv (v := 0) (by decide) ?_
  refine lv_if_ne (tgt := 50) hx hb dX2_goOn_34 (by decide) (fun c26 => absurd (by decide) c26) (fun _ => ?_)
  refine lv_aload_n hx hb dX2_goOn_37 rfl (lv_at hl 1 rfl) ?_
  refine g_cI C0 G (g_runV C0 G (rest := []) (c_X2_target2 hfl (A := A) (b := b) (ex := ex) (ov := ov) (fi := fi) (nu := 2) (q := q) (rs_a := rs_a) (sk_a := sk_a) (ot_a := ot_a) (ch_a := ch_a) (nc_a := nc_a) (g0_a := g0_a) (rs_b := rs_b) (sk_b := sk_b) (ot_b := ot_b) (ch_b := ch_b) (nc_b := nc_b) (g0_b := g0_b) (rs_c := rs) (sk_c := sk) (ot_c := ot) (ch_c := ch) (nc_c := nc) (g0_c := g0) h_mt h_al h_ij0 h_t0j0 h_a0j0 h_ij1 h_t0j1 h_a0j1 h_ij2 h_t0j2 h_a0j2 hAj hq0 hq1 hq2 hq3) h_mt rfl hY_X2_target mm_X2_148 mi_X2_target ml_X2_target ⟨(Nat.le_of_ble_eq_true rfl), (Nat.le_of_ble_eq_true rfl)⟩ rfl hl.1 rfl (Nat.le_of_ble_eq_true rfl) dX2_goOn_38 ⟨(Nat.le_of_ble_eq_true rfl), (Nat.le_of_ble_eq_true rfl)⟩) (kx_no rfl) (fun r29 u28 H locs hp27 G => ?_)
  obtain ⟨er30, eu28⟩ := hp27
  rw [eu28] at G
  refine lv_topv (v := (X2_target2_r0 g0_a g0_b g0)) er30 ?_
  refine lv_if_gt (tgt := 50) hx hb dX2_goOn_41 (by decide) (fun c31 => ?_) (fun c31 => ?_)
  · refine lv_aload_n hx hb dX2_goOn_50 rfl (lv_at hl 1 rfl) ?_
    refine g_cR C0 G (g_runV C0 G (rest := []) (c_X2_present2 hfl (A := A) (b := b) (ex := ex) (ov := ov) (ie := 2) (fi := fi) (q := q) h_mt h_al hAj hq0 hq1 hq2 hq3) h_mt rfl hY_X2_present mm_X2_43 mi_X2_present ml_X2_present ⟨(Nat.le_of_ble_eq_true rfl), (Nat.le_of_ble_eq_true rfl)⟩ rfl hl.1 rfl (Nat.le_of_ble_eq_true rfl) dX2_goOn_51 ⟨(Nat.le_of_ble_eq_true rfl), (Nat.le_of_ble_eq_true rfl)⟩) (kx_no rfl) (fun a34 u33 H locs hp32 G => ?_)
    obtain ⟨zr, eu33⟩ := hp32
    replace zr := Eq.symm zr
    subst zr
    rw [eu33] at G
    refine g_get C0 G h_ij2 rfl hiX0 5 (by decide) mf_X2_95 rfl dX2_goOn_54 ?_
    refine g_get C0 G h_oj2 rfl hiX3 1 (by decide) mf_X2_154 rfl dX2_goOn_57 ?_
    refine lv_istore_n (lv' := [(2, .int lm), (1, .int 1), (0, .ref (A (b + 0)))]) hx hb dX2_goOn_60 rfl hl (by decide) rfl (fun ls hl => ?_)
    refine lv_aload_n hx hb dX2_goOn_61 rfl (lv_at hl 2 rfl) ?_
    refine lv_dup hx hb dX2_goOn_62 rfl ?_
    refine g_get C0 G h_mt rfl hiX2 5 (by decide) mf_X2_31 rfl dX2_goOn_63 ?_
    refine lv_iconst (v := 1) hx hb dX2_goOn_66 (by decide) ?_
    refine lv_iadd hx hb dX2_goOn_67 ?_
    refine lv_topv (v := 3) (by decide) ?_
    refine g_put C0 G h_mt rfl hiX2 tyX2 tyX2_ok nmX2 5 (by decide) mf_X2_31 rfl rfl rfl rfl (Nat.le_of_ble_eq_true rfl) dX2_goOn_68 (fun H locs f35 hf35 G => ?_)
    have k36 : f35 (A (b + 0)) = some (.inr (4, [.ref (A (b + 1)), .int ex, .int ov, .int 2, .int fi, .int 3])) := hus hf35
    refine lv_aload_n hx hb dX2_goOn_71 rfl (lv_at hl 2 rfl) ?_
    have k37 : f35 (A (b + 1)) = some (.inl (cy 3, 4, .inr (.inr (.inr (.inr q))))) := hup hf35 (hAj _ _ (by omega)) h_al
    refine g_cR C0 G (g_runV C0 G (rest := []) (c_X2_present3 hfl (A := A) (b := b) (ex := ex) (ov := ov) (ie := 2) (fi := fi) (q := q) k36 k37 hAj hq0 hq1 hq2 hq3) k36 rfl hY_X2_present mm_X2_43 mi_X2_present ml_X2_present ⟨(Nat.le_of_ble_eq_true rfl), (Nat.le_of_ble_eq_true rfl)⟩ rfl hl.1 rfl (Nat.le_of_ble_eq_true rfl) dX2_goOn_72 ⟨(Nat.le_of_ble_eq_true rfl), (Nat.le_of_ble_eq_true rfl)⟩) (kx_no rfl) (fun a40 u39 H locs hp38 G => ?_)
    obtain ⟨zr, eu39⟩ := hp38
    replace zr := Eq.symm zr
    subst zr
    rw [eu39] at G
    refine lv_iload_n hx hb dX2_goOn_75 rfl (lv_at hl 0 rfl) ?_
    refine lv_aload_n hx hb dX2_goOn_76 rfl (lv_at hl 2 rfl) ?_
    refine g_cI C0 G (g_runV C0 G (rest := [.int lm, .ref (A (b + 41))]) (c_X2_hasResources hfl (A := A) (b := b) (ex := ex) (ov := ov) (ie := 2) (fi := fi) (nu := 3) (q := q) k36 k37 hAj hq0 hq1 hq2 hq3) k36 rfl hY_X2_hasResources mm_X2_50 mi_X2_hasResources ml_X2_hasResources ⟨(Nat.le_of_ble_eq_true rfl), (Nat.le_of_ble_eq_true rfl)⟩ rfl hl.1 rfl (Nat.le_of_ble_eq_true rfl) dX2_goOn_77 ⟨(Nat.le_of_ble_eq_true rfl), (Nat.le_of_ble_eq_true rfl)⟩) (kx_no rfl) (fun r43 u42 H locs hp41 G => ?_)
    obtain ⟨er44, eu42⟩ := hp41
    rw [eu42] at G
    refine lv_topv (v := (X2_hasResources_x0 2)) er44 ?_
    refine lv_topv (v := 0) (by decide) ?_
    have k45 : f35 (A (b + 41)) = some (.inr (2, [.ref (A (b + 42)), .ref (A (b + 44)), .ref (A (b + 46)), .ref (A (b + 48)), .ref (A (b + 50)), .ref (A (b + 52)), .int rs_n, .int sk_n, .int ot_n, .int ch_n, .int nc_n])) := hup hf35 (hAj _ _ (by omega)) h_ij3
    have k46 : f35 (A (b + 42)) = some (.inr (8, [.int 8, .ref (A (b + 43)), .int r0_n])) := hup hf35 (hAj _ _ (by omega)) h_t0j3
    have k47 : f35 (A (b + 43)) = some (.inl (cy 0, 8, .inl g0_n)) := hup hf35 (hAj _ _ (by omega)) h_a0j3
    have k48 : f35 (A (b + 44)) = some (.inr (8, [.int 6, .ref (A (b + 45)), .int r1_n])) := hup hf35 (hAj _ _ (by omega)) h_t1j3
    have k49 : f35 (A (b + 45)) = some (.inl (cy 0, 66, .inl g1_n)) := hup hf35 (hAj _ _ (by omega)) h_a1j3
    have k50 : f35 (A (b + 46)) = some (.inr (8, [.int 7, .ref (A (b + 47)), .int r2_n])) := hup hf35 (hAj _ _ (by omega)) h_t2j3
    have k51 : f35 (A (b + 47)) = some (.inl (cy 0, 77, .inl g2_n)) := hup hf35 (hAj _ _ (by omega)) h_a2j3
    have k52 : f35 (A (b + 48)) = some (.inr (8, [.int 8, .ref (A (b + 49)), .int r3_n])) := hup hf35 (hAj _ _ (by omega)) h_t3j3
    have k53 : f35 (A (b + 49)) = some (.inl (cy 0, 4104, .inl g3_n)) := hup hf35 (hAj _ _ (by omega)) h_a3j3
    have k54 : f35 (A (b + 50)) = some (.inr (8, [.int 3, .ref (A (b + 51)), .int r4_n])) := hup hf35 (hAj _ _ (by omega)) h_t4j3
    have k55 : f35 (A (b + 51)) = some (.inl (cy 0, 33, .inl g4_n)) := hup hf35 (hAj _ _ (by omega)) h_a4j3
    have k56 : f35 (A (b + 52)) = some (.inr (5, [.ref (A (b + 53)), .int lm_n, .int lf_n, .int oc_n, .int bw_n, .int bb_n, .int bl_n, .int cd_n, .int hbg_n])) := hup hf35 (hAj _ _ (by omega)) h_oj3
    have k57 : f35 (A (b + 53)) = some (.inl (cy 0, 20, .inl go_n)) := hup hf35 (hAj _ _ (by omega)) h_oaj3
    refine g_cV C0 G (g_runV C0 G (rest := []) (c_X0_start hfl lm 0 k45 k46 k47 k48 k49 k50 k51 k52 k53 k54 k55 k56 k57 (hAj _ _ (by omega))) k45 rfl hY_X0_start mm_X2_53 mi_X0_start ml_X0_start ⟨(Nat.le_of_ble_eq_true rfl), (Nat.le_of_ble_eq_true rfl)⟩ rfl hl.1 rfl (Nat.le_of_ble_eq_true rfl) dX2_goOn_80 ⟨(Nat.le_of_ble_eq_true rfl), (Nat.le_of_ble_eq_true rfl)⟩) (kx_no rfl) (fun u59 H locs hp58 G => ?_)
    obtain ⟨k60, k61, k62, k63, k64, k65, k66, k67, k68, k69, k70, k71, fr72⟩ := hp58
    have k73 : u59 (A (b + 0)) = some (.inr (4, [.ref (A (b + 1)), .int ex, .int ov, .int 2, .int fi, .int 3])) := fr72 _ _ (nm_c (hAb hAj rfl) (nm_c (hAb hAj rfl) (nm_c (hAb hAj rfl) (nm_c (hAb hAj rfl) (nm_c (hAb hAj rfl) (nm_c (hAb hAj rfl) (nm_c (hAb hAj rfl) (nm_c (hAb hAj rfl) (nm_c (hAb hAj rfl) (nm_c (hAb hAj rfl) (nm_c (hAb hAj rfl) (nm_c (hAb hAj rfl) nm_0)))))))))))) k36
    exact g_vret C0 G hr dX2_goOn_83 (Nat.le_of_ble_eq_true rfl) (Nat.le_of_ble_eq_true rfl) (by exact ⟨(by rw [(by rw [X2_goOn22_x0, if_pos c31] : (X2_goOn22_x0 ov g0 g0_a g0_b) = ov), (by rw [X2_goOn22_x1, if_pos c31] : (X2_goOn22_x1 g0 g0_a g0_b) = 3)]; exact k73), (by rw [(by rw [X2_goOn22_x2, if_pos c31] : (X2_goOn22_x2 g0 g0_a g0_b r0_n) = 1)]; exact k60), (by rw [(by rw [X2_goOn22_g3, if_pos c31] : (X2_goOn22_g3 g0 g0_a g0_b g0_n) = (X0_start_g12 g0_n))]; exact k61), (by rw [(by rw [X2_goOn22_x4, if_pos c31] : (X2_goOn22_x4 g0 g0_a g0_b r1_n) = 11)]; exact k62), (by rw [(by rw [X2_goOn22_g5, if_pos c31] : (X2_goOn22_g5 g0 g0_a g0_b g1_n) = (X0_start_g10 g1_n))]; exact k63), (by rw [(by rw [X2_goOn22_x6, if_pos c31] : (X2_goOn22_x6 g0 g0_a g0_b r2_n) = 11)]; exact k64), (by rw [(by rw [X2_goOn22_g7, if_pos c31] : (X2_goOn22_g7 g0 g0_a g0_b g2_n) = (X0_start_g13 g2_n))]; exact k65), (by rw [(by rw [X2_goOn22_x8, if_pos c31] : (X2_goOn22_x8 g0 g0_a g0_b r3_n) = 1)]; exact k66), (by rw [(by rw [X2_goOn22_g9, if_pos c31] : (X2_goOn22_g9 g0 g0_a g0_b g3_n) = (X0_start_g14 g3_n))]; exact k67), (by rw [(by rw [X2_goOn22_x10, if_pos c31] : (X2_goOn22_x10 g0 g0_a g0_b r4_n) = 0)]; exact k68), (by rw [(by rw [X2_goOn22_g11, if_pos c31] : (X2_goOn22_g11 g0 g0_a g0_b g4_n) = (X0_start_g15 g4_n))]; exact k69), (by rw [(by rw [X2_goOn22_x12, if_pos c31] : (X2_goOn22_x12 g0 lm g0_a g0_b lm_n) = lm), (by rw [X2_goOn22_x13, if_pos c31] : (X2_goOn22_x13 g0 lm g0_a g0_b lf_n) = lm), (by rw [X2_goOn22_x14, if_pos c31] : (X2_goOn22_x14 g0 g0_a g0_b oc_n) = 0), (by rw [X2_goOn22_x15, if_pos c31] : (X2_goOn22_x15 g0 g0_a g0_b bw_n) = (-1)), (by rw [X2_goOn22_x16, if_pos c31] : (X2_goOn22_x16 g0 g0_a g0_b bb_n) = (-1)), (by rw [X2_goOn22_x17, if_pos c31] : (X2_goOn22_x17 g0 g0_a g0_b bl_n) = 0), (by rw [X2_goOn22_x18, if_pos c31] : (X2_goOn22_x18 g0 g0_a g0_b cd_n) = 0), (by rw [X2_goOn22_x19, if_pos c31] : (X2_goOn22_x19 g0 g0_a g0_b hbg_n) = 0)]; exact k70), (by rw [(by rw [X2_goOn22_x20, if_pos c31] : (X2_goOn22_x20 g0 lm g0_a g0_b rs_n g0_n) = (X0_start_x11 g0_n lm 0)), (by rw [X2_goOn22_x21, if_pos c31] : (X2_goOn22_x21 g0 g0_a g0_b sk_n) = 0), (by rw [X2_goOn22_x22, if_pos c31] : (X2_goOn22_x22 g0 g0_a g0_b ot_n) = 1), (by rw [X2_goOn22_x23, if_pos c31] : (X2_goOn22_x23 g0 g0_a g0_b ch_n) = (-1)), (by rw [X2_goOn22_x24, if_pos c31] : (X2_goOn22_x24 g0 g0_a g0_b nc_n) = 0)]; exact k71), (fun a9 e9 h7 h8 => fr72 _ _ (fun q => h7 (by simp only [List.mem_cons, List.not_mem_nil, or_false] at q ⊢; first | exact q | (rcases q with q | q | q | q | q | q | q | q | q | q | q | q <;> simp [q]) | omega)) (hup hf35 (fun q => h7 (by rw [q]; simp)) (h8)))⟩)
  · refine lv_aload_n hx hb dX2_goOn_44 rfl (lv_at hl 1 rfl) ?_
    refine lv_iconst (v := 1) hx hb dX2_goOn_45 (by decide) ?_
    refine g_put C0 G h_mt rfl hiX2 tyX2 tyX2_ok nmX2 2 (by decide) mf_X2_21 rfl rfl rfl rfl (Nat.le_of_ble_eq_true rfl) dX2_goOn_46 (fun H locs f74 hf74 G => ?_)
    have k75 : f74 (A (b + 0)) = some (.inr (4, [.ref (A (b + 1)), .int ex, .int 1, .int 2, .int fi, .int 2])) := hus hf74
    have k76 : f74 (A (b + 42)) = some (.inr (8, [.int 8, .ref (A (b + 43)), .int r0_n])) := hup hf74 (hAj _ _ (by omega)) h_t0j3
    have k77 : f74 (A (b + 43)) = some (.inl (cy 0, 8, .inl g0_n)) := hup hf74 (hAj _ _ (by omega)) h_a0j3
    have k78 : f74 (A (b + 44)) = some (.inr (8, [.int 6, .ref (A (b + 45)), .int r1_n])) := hup hf74 (hAj _ _ (by omega)) h_t1j3
    have k79 : f74 (A (b + 45)) = some (.inl (cy 0, 66, .inl g1_n)) := hup hf74 (hAj _ _ (by omega)) h_a1j3
    have k80 : f74 (A (b + 46)) = some (.inr (8, [.int 7, .ref (A (b + 47)), .int r2_n])) := hup hf74 (hAj _ _ (by omega)) h_t2j3
    have k81 : f74 (A (b + 47)) = some (.inl (cy 0, 77, .inl g2_n)) := hup hf74 (hAj _ _ (by omega)) h_a2j3
    have k82 : f74 (A (b + 48)) = some (.inr (8, [.int 8, .ref (A (b + 49)), .int r3_n])) := hup hf74 (hAj _ _ (by omega)) h_t3j3
    have k83 : f74 (A (b + 49)) = some (.inl (cy 0, 4104, .inl g3_n)) := hup hf74 (hAj _ _ (by omega)) h_a3j3
    have k84 : f74 (A (b + 50)) = some (.inr (8, [.int 3, .ref (A (b + 51)), .int r4_n])) := hup hf74 (hAj _ _ (by omega)) h_t4j3
    have k85 : f74 (A (b + 51)) = some (.inl (cy 0, 33, .inl g4_n)) := hup hf74 (hAj _ _ (by omega)) h_a4j3
    have k86 : f74 (A (b + 52)) = some (.inr (5, [.ref (A (b + 53)), .int lm_n, .int lf_n, .int oc_n, .int bw_n, .int bb_n, .int bl_n, .int cd_n, .int hbg_n])) := hup hf74 (hAj _ _ (by omega)) h_oj3
    have k87 : f74 (A (b + 41)) = some (.inr (2, [.ref (A (b + 42)), .ref (A (b + 44)), .ref (A (b + 46)), .ref (A (b + 48)), .ref (A (b + 50)), .ref (A (b + 52)), .int rs_n, .int sk_n, .int ot_n, .int ch_n, .int nc_n])) := hup hf74 (hAj _ _ (by omega)) h_ij3
    exact g_vret C0 G hr dX2_goOn_49 (Nat.le_of_ble_eq_true rfl) (Nat.le_of_ble_eq_true rfl) (by exact ⟨(by rw [(by rw [X2_goOn22_x0, if_neg c31] : (X2_goOn22_x0 ov g0 g0_a g0_b) = 1), (by rw [X2_goOn22_x1, if_neg c31] : (X2_goOn22_x1 g0 g0_a g0_b) = 2)]; exact k75), (by rw [(by rw [X2_goOn22_x2, if_neg c31] : (X2_goOn22_x2 g0 g0_a g0_b r0_n) = r0_n)]; exact k76), (by rw [(by rw [X2_goOn22_g3, if_neg c31] : (X2_goOn22_g3 g0 g0_a g0_b g0_n) = g0_n)]; exact k77), (by rw [(by rw [X2_goOn22_x4, if_neg c31] : (X2_goOn22_x4 g0 g0_a g0_b r1_n) = r1_n)]; exact k78), (by rw [(by rw [X2_goOn22_g5, if_neg c31] : (X2_goOn22_g5 g0 g0_a g0_b g1_n) = g1_n)]; exact k79), (by rw [(by rw [X2_goOn22_x6, if_neg c31] : (X2_goOn22_x6 g0 g0_a g0_b r2_n) = r2_n)]; exact k80), (by rw [(by rw [X2_goOn22_g7, if_neg c31] : (X2_goOn22_g7 g0 g0_a g0_b g2_n) = g2_n)]; exact k81), (by rw [(by rw [X2_goOn22_x8, if_neg c31] : (X2_goOn22_x8 g0 g0_a g0_b r3_n) = r3_n)]; exact k82), (by rw [(by rw [X2_goOn22_g9, if_neg c31] : (X2_goOn22_g9 g0 g0_a g0_b g3_n) = g3_n)]; exact k83), (by rw [(by rw [X2_goOn22_x10, if_neg c31] : (X2_goOn22_x10 g0 g0_a g0_b r4_n) = r4_n)]; exact k84), (by rw [(by rw [X2_goOn22_g11, if_neg c31] : (X2_goOn22_g11 g0 g0_a g0_b g4_n) = g4_n)]; exact k85), (by rw [(by rw [X2_goOn22_x12, if_neg c31] : (X2_goOn22_x12 g0 lm g0_a g0_b lm_n) = lm_n), (by rw [X2_goOn22_x13, if_neg c31] : (X2_goOn22_x13 g0 lm g0_a g0_b lf_n) = lf_n), (by rw [X2_goOn22_x14, if_neg c31] : (X2_goOn22_x14 g0 g0_a g0_b oc_n) = oc_n), (by rw [X2_goOn22_x15, if_neg c31] : (X2_goOn22_x15 g0 g0_a g0_b bw_n) = bw_n), (by rw [X2_goOn22_x16, if_neg c31] : (X2_goOn22_x16 g0 g0_a g0_b bb_n) = bb_n), (by rw [X2_goOn22_x17, if_neg c31] : (X2_goOn22_x17 g0 g0_a g0_b bl_n) = bl_n), (by rw [X2_goOn22_x18, if_neg c31] : (X2_goOn22_x18 g0 g0_a g0_b cd_n) = cd_n), (by rw [X2_goOn22_x19, if_neg c31] : (X2_goOn22_x19 g0 g0_a g0_b hbg_n) = hbg_n)]; exact k86), (by rw [(by rw [X2_goOn22_x20, if_neg c31] : (X2_goOn22_x20 g0 lm g0_a g0_b rs_n g0_n) = rs_n), (by rw [X2_goOn22_x21, if_neg c31] : (X2_goOn22_x21 g0 g0_a g0_b sk_n) = sk_n), (by rw [X2_goOn22_x22, if_neg c31] : (X2_goOn22_x22 g0 g0_a g0_b ot_n) = ot_n), (by rw [X2_goOn22_x23, if_neg c31] : (X2_goOn22_x23 g0 g0_a g0_b ch_n) = ch_n), (by rw [X2_goOn22_x24, if_neg c31] : (X2_goOn22_x24 g0 g0_a g0_b nc_n) = nc_n)]; exact k87), (fun a9 e9 h7 h8 => hup hf74 (fun q => h7 (by rw [q]; simp)) (h8))⟩)
def X2_refusal32_n0 (bw : Int32) : Nat := if bw = (-1) then 3 else 0
def X2_refusal32_n1 (wy : Int32) (kd : Int32) (ru : Int32) (so : Int32) (sc : Int32) : Nat := if (X5_isPossibleWicket_r8 wy kd ru so sc) = 0 then 6 else 0
def X2_refusal32_n2 (g1 : Nat → Int32) (nu : Int32) : Nat := if (X0_canComeIn_x1 g1 nu) = 0 then 5 else 0
def X2_refusal32_r3 (ex : Int32) (ov : Int32) (g1 : Nat → Int32) (g2 : Nat → Int32) (lf : Int32) (bw : Int32) (bb : Int32) (ty : Int32) (nu : Int32) (wy : Int32) (kd : Int32) (ru : Int32) (so : Int32) (sc : Int32) : Int32 := if ex = 0 then 1 else (if ov = 0 then (if ty = 1 then (X0_bowlRefusal_r3 g2 lf bw bb nu) else (if ty = 2 then (nI (X2_refusal32_n0 bw)) else (if ty = 3 then (if bw = (-1) then 3 else (nI (X2_refusal32_n1 wy kd ru so sc))) else (if ty = 4 then 0 else (if ty = 5 then (nI (X2_refusal32_n2 g1 nu)) else (if ty = 6 then 0 else (if ty = 7 then 8 else 0))))))) else 1)
set_option maxRecDepth 100000 in
theorem c_X2_refusal32 {l : Launch} (hfl : l.stackTraces = false) {D : va_G} {cy : Nat → ClassId} {f : Hf} {sz : Nat} {A : Nat → Nat} {b : Nat} {st : Nat} {ex : Int32} {ov : Int32} {fi : Int32} {q : Nat → Option Nat} {rs : Int32} {sk : Int32} {ot : Int32} {ch : Int32} {nc : Int32} {g1 : Nat → Int32} {g2 : Nat → Int32} {lm : Int32} {lf : Int32} {oc : Int32} {bw : Int32} {bb : Int32} {bl : Int32} {cd : Int32} {hbg : Int32} {go : Nat → Int32} {ty : Int32} {nu : Int32} {wy : Int32} {kd : Int32} {ru : Int32} {so : Int32} {sb : Int32} {sc : Int32} {sh : Int32} (h_mt : f (A (b + 0)) = some (.inr (4, [.ref (A (b + 1)), .int ex, .int ov, .int 2, .int fi, .int 3]))) (h_al : f (A (b + 1)) = some (.inl (cy 3, 4, .inr (.inr (.inr (.inr q)))))) (h_ij3 : f (A (b + 41)) = some (.inr (2, [.ref (A (b + 42)), .ref (A (b + 44)), .ref (A (b + 46)), .ref (A (b + 48)), .ref (A (b + 50)), .ref (A (b + 52)), .int rs, .int sk, .int ot, .int ch, .int nc]))) (h_t1j3 : f (A (b + 44)) = some (.inr (8, [.int 6, .ref (A (b + 45)), .int 11]))) (h_a1j3 : f (A (b + 45)) = some (.inl (cy 0, 66, .inl g1))) (h_t2j3 : f (A (b + 46)) = some (.inr (8, [.int 7, .ref (A (b + 47)), .int 11]))) (h_a2j3 : f (A (b + 47)) = some (.inl (cy 0, 77, .inl g2))) (h_oj3 : f (A (b + 52)) = some (.inr (5, [.ref (A (b + 53)), .int lm, .int lf, .int oc, .int bw, .int bb, .int bl, .int cd, .int hbg]))) (h_oaj3 : f (A (b + 53)) = some (.inl (cy 0, 20, .inl go))) (h_st : f st = some (.inr (7, [.int ty, .int nu, .int wy, .int kd, .int ru, .int so, .int sb, .int sc, .int sh]))) (hAj : ∀ i j : Nat, i ≠ j → A i ≠ A j) (hq0 : q 0 = some (A (b + 2))) (hq1 : q 1 = some (A (b + 15))) (hq2 : q 2 = some (A (b + 28))) (hq3 : q 3 = some (A (b + 41))) : hMet l yX2_refusal cX2_refusal 3 (some .int) { frames := 3, cells := 0, slots := 0, locals := 67 } D (hTy cy) f sz [.ref (A (b + 0)), .ref st] (hQi (fun r u => r = (X2_refusal32_r3 ex ov g1 g2 lf bw bb ty nu wy kd ru so sc) ∧ u = f) D f sz) hNo := by
  refine h_enter (by decide) hfl (Nat.le_of_ble_eq_true rfl) ?_
  intro p9 e9 s9 m9 b9 t9 c9 hsz C0 hr hnm G ls hl
  have hx := C0.1.1
  have hb := C0.1.2.1
  have hl : lv_has ls 3 [(0, .ref (A (b + 0))), (1, .ref st)] := hl
  refine lv_aload_n hx hb dX2_refusal_0 rfl (lv_at hl 0 rfl) ?_
  refine g_get C0 G h_mt rfl hiX2 1 (by decide) mf_X2_17 rfl dX2_refusal_1 ?_
  refine lv_if_eq (tgt := 14) hx hb dX2_refusal_4 (by decide) (fun c11 => ?_) (fun c11 => ?_)
  · refine lv_iconst (v := 1) hx hb dX2_refusal_14 (by decide) ?_
    exact g_iret C0 G hr dX2_refusal_15 (Nat.le_of_ble_eq_true rfl) (Nat.le_of_ble_eq_true rfl) (by exact ⟨(by rw [X2_refusal32_r3, if_pos c11]), rfl⟩)
  · refine lv_aload_n hx hb dX2_refusal_7 rfl (lv_at hl 0 rfl) ?_
    refine g_get C0 G h_mt rfl hiX2 2 (by decide) mf_X2_21 rfl dX2_refusal_8 ?_
    refine lv_if_eq (tgt := 16) hx hb dX2_refusal_11 (by decide) (fun c12 => ?_) (fun c12 => ?_)
    · refine lv_aload_n hx hb dX2_refusal_16 rfl (lv_at hl 0 rfl) ?_
      refine g_cR C0 G (g_runV C0 G (rest := []) (c_X2_present3 hfl (A := A) (b := b) (ex := ex) (ov := ov) (ie := 2) (fi := fi) (q := q) h_mt h_al hAj hq0 hq1 hq2 hq3) h_mt rfl hY_X2_present mm_X2_43 mi_X2_present ml_X2_present ⟨(Nat.le_of_ble_eq_true rfl), (Nat.le_of_ble_eq_true rfl)⟩ rfl hl.1 rfl (Nat.le_of_ble_eq_true rfl) dX2_refusal_17 ⟨(Nat.le_of_ble_eq_true rfl), (Nat.le_of_ble_eq_true rfl)⟩) (kx_no rfl) (fun a15 u14 H locs hp13 G => ?_)
      obtain ⟨zr, eu14⟩ := hp13
      replace zr := Eq.symm zr
      subst zr
      rw [eu14] at G
      refine lv_astore_n (lv' := [(2, .ref (A (b + 41))), (0, .ref (A (b + 0))), (1, .ref st)]) hx hb dX2_refusal_20 rfl hl (by decide) rfl (fun ls hl => ?_)
      refine lv_aload_n hx hb dX2_refusal_21 rfl (lv_at hl 2 rfl) ?_
      refine g_get C0 G h_st rfl hiX5 0 (by decide) mf_X2_85 rfl dX2_refusal_22 ?_
      have sw23 : (ty = 1) ∨ (¬ ty = 1 ∧ ty = 2) ∨ (¬ ty = 1 ∧ ¬ ty = 2 ∧ ty = 3) ∨ (¬ ty = 1 ∧ ¬ ty = 2 ∧ ¬ ty = 3 ∧ ty = 4) ∨ (¬ ty = 1 ∧ ¬ ty = 2 ∧ ¬ ty = 3 ∧ ¬ ty = 4 ∧ ty = 5) ∨ (¬ ty = 1 ∧ ¬ ty = 2 ∧ ¬ ty = 3 ∧ ¬ ty = 4 ∧ ¬ ty = 5 ∧ ty = 6) ∨ (¬ ty = 1 ∧ ¬ ty = 2 ∧ ¬ ty = 3 ∧ ¬ ty = 4 ∧ ¬ ty = 5 ∧ ¬ ty = 6 ∧ ty = 7) ∨ (¬ ty = 1 ∧ ¬ ty = 2 ∧ ¬ ty = 3 ∧ ¬ ty = 4 ∧ ¬ ty = 5 ∧ ¬ ty = 6 ∧ ¬ ty = 7) := by
        by_cases w16 : ty = 1
        · exact Or.inl w16
        rename ¬ ty = 1 => nw16
        by_cases w17 : ty = 2
        · exact Or.inr (Or.inl ⟨nw16, w17⟩)
        rename ¬ ty = 2 => nw17
        by_cases w18 : ty = 3
        · exact Or.inr (Or.inr (Or.inl ⟨nw16, nw17, w18⟩))
        rename ¬ ty = 3 => nw18
        by_cases w19 : ty = 4
        · exact Or.inr (Or.inr (Or.inr (Or.inl ⟨nw16, nw17, nw18, w19⟩)))
        rename ¬ ty = 4 => nw19
        by_cases w20 : ty = 5
        · exact Or.inr (Or.inr (Or.inr (Or.inr (Or.inl ⟨nw16, nw17, nw18, nw19, w20⟩))))
        rename ¬ ty = 5 => nw20
        by_cases w21 : ty = 6
        · exact Or.inr (Or.inr (Or.inr (Or.inr (Or.inr (Or.inl ⟨nw16, nw17, nw18, nw19, nw20, w21⟩)))))
        rename ¬ ty = 6 => nw21
        by_cases w22 : ty = 7
        · exact Or.inr (Or.inr (Or.inr (Or.inr (Or.inr (Or.inr (Or.inl ⟨nw16, nw17, nw18, nw19, nw20, nw21, w22⟩))))))
        rename ¬ ty = 7 => nw22
        exact Or.inr (Or.inr (Or.inr (Or.inr (Or.inr (Or.inr (Or.inr (⟨nw16, nw17, nw18, nw19, nw20, nw21, nw22⟩)))))))
      rcases sw23 with w16 | ⟨nw16, w17⟩ | ⟨nw16, nw17, w18⟩ | ⟨nw16, nw17, nw18, w19⟩ | ⟨nw16, nw17, nw18, nw19, w20⟩ | ⟨nw16, nw17, nw18, nw19, nw20, w21⟩ | ⟨nw16, nw17, nw18, nw19, nw20, nw21, w22⟩ | ⟨nw16, nw17, nw18, nw19, nw20, nw21, nw22⟩
      · refine lv_tableIn (off := 43) (tgt := 68) hx hb dX2_refusal_25 (by rw [w16]; decide) (by rw [w16]; decide) (by rw [w16]; rfl) (by decide) ?_
        refine lv_aload_n hx hb dX2_refusal_68 rfl (lv_at hl 0 rfl) ?_
        refine lv_aload_n hx hb dX2_refusal_69 rfl (lv_at hl 2 rfl) ?_
        refine g_get C0 G h_st rfl hiX5 1 (by decide) mf_X2_90 rfl dX2_refusal_70 ?_
        refine g_cI C0 G (g_runV C0 G (rest := []) (c_X0_bowlRefusal hfl nu h_ij3 h_t2j3 h_a2j3 h_oj3) h_ij3 rfl hY_X0_bowlRefusal mm_X2_91 mi_X0_bowlRefusal ml_X0_bowlRefusal ⟨(Nat.le_of_ble_eq_true rfl), (Nat.le_of_ble_eq_true rfl)⟩ rfl hl.1 rfl (Nat.le_of_ble_eq_true rfl) dX2_refusal_73 ⟨(Nat.le_of_ble_eq_true rfl), (Nat.le_of_ble_eq_true rfl)⟩) (kx_no rfl) (fun r26 u25 H locs hp24 G => ?_)
        obtain ⟨er27, eu25⟩ := hp24
        rw [eu25] at G
        refine lv_topv (v := (X0_bowlRefusal_r3 g2 lf bw bb nu)) er27 ?_
        exact g_iret C0 G hr dX2_refusal_76 (Nat.le_of_ble_eq_true rfl) (Nat.le_of_ble_eq_true rfl) (by exact ⟨(by rw [X2_refusal32_r3, if_neg c11, if_pos c12, if_pos w16]), rfl⟩)
      · refine lv_tableIn (off := 52) (tgt := 77) hx hb dX2_refusal_25 (by rw [w17]; decide) (by rw [w17]; decide) (by rw [w17]; rfl) (by decide) ?_
        refine lv_aload_n hx hb dX2_refusal_77 rfl (lv_at hl 0 rfl) ?_
        refine g_get C0 G h_ij3 rfl hiX0 5 (by decide) mf_X2_95 rfl dX2_refusal_78 ?_
        refine g_get C0 G h_oj3 rfl hiX3 4 (by decide) mf_X2_98 rfl dX2_refusal_81 ?_
        refine lv_iconst (v := (-1)) hx hb dX2_refusal_84 (by decide) ?_
        have J30 : ∀ (y29 : Int32) (_ : y29 = nI (X2_refusal32_n0 bw)) (H : Heap) (locs : List Loc) (ls : Array Slot), hG D (hA f sz) f s9 H locs → lv_has ls 3 [(2, .ref (A (b + 41))), (0, .ref (A (b + 0))), (1, .ref st)] → W p9 l e9 ({ frames := 3, cells := 0, slots := 0, locals := 67 } : Room) s9 m9 ([.ref (A (b + 0)), .ref st] : List Value).toArray b9 t9 c9 H locs 0 0 (vx_MQ b9 (hQi (fun r u => r = (X2_refusal32_r3 ex ov g1 g2 lf bw bb ty nu wy kd ru so sc) ∧ u = f) D f sz) (hPx hNo D f sz) ([.ref (A (b + 0)), .ref st] : List Value).toArray s9 0 0 (hA f sz)) (F0 m9 93 ls [.int y29]) := by
          intro y29 ey29 H locs ls G hl
          replace ey29 := Eq.symm ey29
          subst ey29
          have bd32 : (X2_refusal32_n0 bw) ≤ 3 := by unfold X2_refusal32_n0; repeat (first | omega | split)
          exact g_iret C0 G hr dX2_refusal_93 (Nat.le_of_ble_eq_true rfl) (Nat.le_of_ble_eq_true rfl) (by exact ⟨(by rw [X2_refusal32_r3, if_neg c11, if_pos c12, if_neg nw16, if_pos w17]), rfl⟩)
        refine lv_icmp_ne (tgt := 92) hx hb dX2_refusal_85 (by decide) (fun c28 => ?_) (fun c28 => ?_)
        · refine lv_iconst (v := 0) hx hb dX2_refusal_92 (by decide) ?_
          exact J30 0 (by rw [X2_refusal32_n0, if_neg c28] <;> rfl) _ _ _ G (lv_sub hl [0, 1, 2] rfl)
        · refine lv_iconst (v := 3) hx hb dX2_refusal_88 (by decide) ?_
          refine lv_goto (tgt := 93) hx hb dX2_refusal_89 (by decide) ?_
          exact J30 3 (by rw [X2_refusal32_n0, if_pos c28] <;> rfl) _ _ _ G (lv_sub hl [0, 1, 2] rfl)
      · refine lv_tableIn (off := 69) (tgt := 94) hx hb dX2_refusal_25 (by rw [w18]; decide) (by rw [w18]; decide) (by rw [w18]; rfl) (by decide) ?_
        refine lv_aload_n hx hb dX2_refusal_94 rfl (lv_at hl 0 rfl) ?_
        refine g_get C0 G h_ij3 rfl hiX0 5 (by decide) mf_X2_95 rfl dX2_refusal_95 ?_
        refine g_get C0 G h_oj3 rfl hiX3 4 (by decide) mf_X2_98 rfl dX2_refusal_98 ?_
        refine lv_iconst (v := (-1)) hx hb dX2_refusal_101 (by decide) ?_
        refine lv_icmp_ne (tgt := 107) hx hb dX2_refusal_102 (by decide) (fun c33 => ?_) (fun c33 => ?_)
        · refine lv_aload_n hx hb dX2_refusal_107 rfl (lv_at hl 2 rfl) ?_
          refine g_cI C0 G (g_runV C0 G (rest := []) (c_X5_isPossibleWicket hfl h_st) h_st rfl hY_X5_isPossibleWicket mm_X2_103 mi_X5_isPossibleWicket ml_X5_isPossibleWicket ⟨(Nat.le_of_ble_eq_true rfl), (Nat.le_of_ble_eq_true rfl)⟩ rfl hl.1 rfl (Nat.le_of_ble_eq_true rfl) dX2_refusal_108 ⟨(Nat.le_of_ble_eq_true rfl), (Nat.le_of_ble_eq_true rfl)⟩) (kx_no rfl) (fun r36 u35 H locs hp34 G => ?_)
          obtain ⟨er37, eu35⟩ := hp34
          rw [eu35] at G
          refine lv_topv (v := (X5_isPossibleWicket_r8 wy kd ru so sc)) er37 ?_
          have J40 : ∀ (y39 : Int32) (_ : y39 = nI (X2_refusal32_n1 wy kd ru so sc)) (H : Heap) (locs : List Loc) (ls : Array Slot), hG D (hA f sz) f s9 H locs → lv_has ls 3 [(2, .ref (A (b + 41))), (0, .ref (A (b + 0))), (1, .ref st)] → W p9 l e9 ({ frames := 3, cells := 0, slots := 0, locals := 67 } : Room) s9 m9 ([.ref (A (b + 0)), .ref st] : List Value).toArray b9 t9 c9 H locs 0 0 (vx_MQ b9 (hQi (fun r u => r = (X2_refusal32_r3 ex ov g1 g2 lf bw bb ty nu wy kd ru so sc) ∧ u = f) D f sz) (hPx hNo D f sz) ([.ref (A (b + 0)), .ref st] : List Value).toArray s9 0 0 (hA f sz)) (F0 m9 120 ls [.int y39]) := by
            intro y39 ey39 H locs ls G hl
            replace ey39 := Eq.symm ey39
            subst ey39
            have bd42 : (X2_refusal32_n1 wy kd ru so sc) ≤ 6 := by unfold X2_refusal32_n1; repeat (first | omega | split)
            exact g_iret C0 G hr dX2_refusal_120 (Nat.le_of_ble_eq_true rfl) (Nat.le_of_ble_eq_true rfl) (by exact ⟨(by rw [X2_refusal32_r3, if_neg c11, if_pos c12, if_neg nw16, if_neg nw17, if_pos w18, if_neg c33]), rfl⟩)
          refine lv_if_eq (tgt := 118) hx hb dX2_refusal_111 (by decide) (fun c38 => ?_) (fun c38 => ?_)
          · refine lv_bipush (v := 6) hx hb dX2_refusal_118 (by decide) ?_
            exact J40 6 (by rw [X2_refusal32_n1, if_pos c38] <;> rfl) _ _ _ G (lv_sub hl [0, 1, 2] rfl)
          · refine lv_iconst (v := 0) hx hb dX2_refusal_114 (by decide) ?_
            refine lv_goto (tgt := 120) hx hb dX2_refusal_115 (by decide) ?_
            exact J40 0 (by rw [X2_refusal32_n1, if_neg c38] <;> rfl) _ _ _ G (lv_sub hl [0, 1, 2] rfl)
        · refine lv_iconst (v := 3) hx hb dX2_refusal_105 (by decide) ?_
          exact g_iret C0 G hr dX2_refusal_106 (Nat.le_of_ble_eq_true rfl) (Nat.le_of_ble_eq_true rfl) (by exact ⟨(by rw [X2_refusal32_r3, if_neg c11, if_pos c12, if_neg nw16, if_neg nw17, if_pos w18, if_pos c33]), rfl⟩)
      · refine lv_tableIn (off := 138) (tgt := 163) hx hb dX2_refusal_25 (by rw [w19]; decide) (by rw [w19]; decide) (by rw [w19]; rfl) (by decide) ?_
        refine lv_iconst (v := 0) hx hb dX2_refusal_163 (by decide) ?_
        exact g_iret C0 G hr dX2_refusal_164 (Nat.le_of_ble_eq_true rfl) (Nat.le_of_ble_eq_true rfl) (by exact ⟨(by rw [X2_refusal32_r3, if_neg c11, if_pos c12, if_neg nw16, if_neg nw17, if_neg nw18, if_pos w19]), rfl⟩)
      · refine lv_tableIn (off := 96) (tgt := 121) hx hb dX2_refusal_25 (by rw [w20]; decide) (by rw [w20]; decide) (by rw [w20]; rfl) (by decide) ?_
        refine lv_aload_n hx hb dX2_refusal_121 rfl (lv_at hl 0 rfl) ?_
        refine lv_aload_n hx hb dX2_refusal_122 rfl (lv_at hl 2 rfl) ?_
        refine g_get C0 G h_st rfl hiX5 1 (by decide) mf_X2_90 rfl dX2_refusal_123 ?_
        refine g_cI C0 G (g_runV C0 G (rest := []) (c_X0_canComeIn hfl nu h_ij3 h_t1j3 h_a1j3) h_ij3 rfl hY_X0_canComeIn mm_X2_106 mi_X0_canComeIn ml_X0_canComeIn ⟨(Nat.le_of_ble_eq_true rfl), (Nat.le_of_ble_eq_true rfl)⟩ rfl hl.1 rfl (Nat.le_of_ble_eq_true rfl) dX2_refusal_126 ⟨(Nat.le_of_ble_eq_true rfl), (Nat.le_of_ble_eq_true rfl)⟩) (kx_no rfl) (fun r45 u44 H locs hp43 G => ?_)
        obtain ⟨er46, eu44⟩ := hp43
        rw [eu44] at G
        refine lv_topv (v := (X0_canComeIn_x1 g1 nu)) er46 ?_
        have J49 : ∀ (y48 : Int32) (_ : y48 = nI (X2_refusal32_n2 g1 nu)) (H : Heap) (locs : List Loc) (ls : Array Slot), hG D (hA f sz) f s9 H locs → lv_has ls 3 [(2, .ref (A (b + 41))), (0, .ref (A (b + 0))), (1, .ref st)] → W p9 l e9 ({ frames := 3, cells := 0, slots := 0, locals := 67 } : Room) s9 m9 ([.ref (A (b + 0)), .ref st] : List Value).toArray b9 t9 c9 H locs 0 0 (vx_MQ b9 (hQi (fun r u => r = (X2_refusal32_r3 ex ov g1 g2 lf bw bb ty nu wy kd ru so sc) ∧ u = f) D f sz) (hPx hNo D f sz) ([.ref (A (b + 0)), .ref st] : List Value).toArray s9 0 0 (hA f sz)) (F0 m9 137 ls [.int y48]) := by
          intro y48 ey48 H locs ls G hl
          replace ey48 := Eq.symm ey48
          subst ey48
          have bd51 : (X2_refusal32_n2 g1 nu) ≤ 5 := by unfold X2_refusal32_n2; repeat (first | omega | split)
          exact g_iret C0 G hr dX2_refusal_137 (Nat.le_of_ble_eq_true rfl) (Nat.le_of_ble_eq_true rfl) (by exact ⟨(by rw [X2_refusal32_r3, if_neg c11, if_pos c12, if_neg nw16, if_neg nw17, if_neg nw18, if_neg nw19, if_pos w20]), rfl⟩)
        refine lv_if_eq (tgt := 136) hx hb dX2_refusal_129 (by decide) (fun c47 => ?_) (fun c47 => ?_)
        · refine lv_iconst (v := 5) hx hb dX2_refusal_136 (by decide) ?_
          exact J49 5 (by rw [X2_refusal32_n2, if_pos c47] <;> rfl) _ _ _ G (lv_sub hl [0, 1, 2] rfl)
        · refine lv_iconst (v := 0) hx hb dX2_refusal_132 (by decide) ?_
          refine lv_goto (tgt := 137) hx hb dX2_refusal_133 (by decide) ?_
          exact J49 0 (by rw [X2_refusal32_n2, if_neg c47] <;> rfl) _ _ _ G (lv_sub hl [0, 1, 2] rfl)
      · refine lv_tableIn (off := 138) (tgt := 163) hx hb dX2_refusal_25 (by rw [w21]; decide) (by rw [w21]; decide) (by rw [w21]; rfl) (by decide) ?_
        refine lv_iconst (v := 0) hx hb dX2_refusal_163 (by decide) ?_
        exact g_iret C0 G hr dX2_refusal_164 (Nat.le_of_ble_eq_true rfl) (Nat.le_of_ble_eq_true rfl) (by exact ⟨(by rw [X2_refusal32_r3, if_neg c11, if_pos c12, if_neg nw16, if_neg nw17, if_neg nw18, if_neg nw19, if_neg nw20, if_pos w21]), rfl⟩)
      · refine lv_tableIn (off := 113) (tgt := 138) hx hb dX2_refusal_25 (by rw [w22]; decide) (by rw [w22]; decide) (by rw [w22]; rfl) (by decide) ?_
        refine lv_aload_n hx hb dX2_refusal_138 rfl (lv_at hl 1 rfl) ?_
        refine g_cI C0 G (g_runV C0 G (rest := []) (c_X2_hasResources hfl (A := A) (b := b) (ex := ex) (ov := ov) (ie := 2) (fi := fi) (nu := 3) (q := q) h_mt h_al hAj hq0 hq1 hq2 hq3) h_mt rfl hY_X2_hasResources mm_X2_50 mi_X2_hasResources ml_X2_hasResources ⟨(Nat.le_of_ble_eq_true rfl), (Nat.le_of_ble_eq_true rfl)⟩ rfl hl.1 rfl (Nat.le_of_ble_eq_true rfl) dX2_refusal_139 ⟨(Nat.le_of_ble_eq_true rfl), (Nat.le_of_ble_eq_true rfl)⟩) (kx_no rfl) (fun r54 u53 H locs hp52 G => ?_)
        obtain ⟨er55, eu53⟩ := hp52
        rw [eu53] at G
        refine lv_topv (v := (X2_hasResources_x0 2)) er55 ?_
        refine lv_topv (v := 0) (by decide) ?_
        refine lv_if_eq (tgt := 160) hx hb dX2_refusal_142 (by decide) (fun _ => ?_) (fun c56 => absurd (by decide) c56)
        refine lv_bipush (v := 8) hx hb dX2_refusal_160 (by decide) ?_
        exact g_iret C0 G hr dX2_refusal_162 (Nat.le_of_ble_eq_true rfl) (Nat.le_of_ble_eq_true rfl) (by exact ⟨(by rw [X2_refusal32_r3, if_neg c11, if_pos c12, if_neg nw16, if_neg nw17, if_neg nw18, if_neg nw19, if_neg nw20, if_neg nw21, if_pos w22]), rfl⟩)
      · have q57 : ty.toInt < 1 ∨ 7 < ty.toInt := by
          have tw16 : ty.toInt ≠ 1 := fun z => nw16 (Int32.toInt_inj.mp z)
          have tw17 : ty.toInt ≠ 2 := fun z => nw17 (Int32.toInt_inj.mp z)
          have tw18 : ty.toInt ≠ 3 := fun z => nw18 (Int32.toInt_inj.mp z)
          have tw19 : ty.toInt ≠ 4 := fun z => nw19 (Int32.toInt_inj.mp z)
          have tw20 : ty.toInt ≠ 5 := fun z => nw20 (Int32.toInt_inj.mp z)
          have tw21 : ty.toInt ≠ 6 := fun z => nw21 (Int32.toInt_inj.mp z)
          have tw22 : ty.toInt ≠ 7 := fun z => nw22 (Int32.toInt_inj.mp z)
          omega
        refine lv_tableOut (tgt := 163) hx hb dX2_refusal_25 q57 (by decide) ?_
        refine lv_iconst (v := 0) hx hb dX2_refusal_163 (by decide) ?_
        exact g_iret C0 G hr dX2_refusal_164 (Nat.le_of_ble_eq_true rfl) (Nat.le_of_ble_eq_true rfl) (by exact ⟨(by rw [X2_refusal32_r3, if_neg c11, if_pos c12, if_neg nw16, if_neg nw17, if_neg nw18, if_neg nw19, if_neg nw20, if_neg nw21, if_neg nw22]), rfl⟩)
    · refine lv_iconst (v := 1) hx hb dX2_refusal_14 (by decide) ?_
      exact g_iret C0 G hr dX2_refusal_15 (Nat.le_of_ble_eq_true rfl) (Nat.le_of_ble_eq_true rfl) (by exact ⟨(by rw [X2_refusal32_r3, if_neg c11, if_neg c12]), rfl⟩)
def X2_dueEnd32_x0 (nc : Int32) (lm : Int32) (oc : Int32) (dl : Int32) : Int32 := if dl = 0 then (X0_ending_r1 lm oc nc) else 3
def X2_dueEnd32_r1 (nc : Int32) (g0 : Nat → Int32) (lm : Int32) (oc : Int32) (g0_a : Nat → Int32) (g0_b : Nat → Int32) (g0_c : Nat → Int32) (dl : Int32) : Int32 := if (tget 8 1 8 g0 0 0) < (X2_target2_r0 g0_a g0_b g0_c) then (X2_dueEnd32_x0 nc lm oc dl) else 4
set_option maxRecDepth 100000 in
theorem c_X2_dueEnd32 {l : Launch} (hfl : l.stackTraces = false) {D : va_G} {cy : Nat → ClassId} {f : Hf} {sz : Nat} {A : Nat → Nat} {b : Nat} {ex : Int32} {ov : Int32} {fi : Int32} {q : Nat → Option Nat} {rs : Int32} {sk : Int32} {ot : Int32} {ch : Int32} {nc : Int32} {g0 : Nat → Int32} {lm : Int32} {lf : Int32} {oc : Int32} {bw : Int32} {bb : Int32} {bl : Int32} {cd : Int32} {hbg : Int32} {go : Nat → Int32} {rs_a : Int32} {sk_a : Int32} {ot_a : Int32} {ch_a : Int32} {nc_a : Int32} {g0_a : Nat → Int32} {rs_b : Int32} {sk_b : Int32} {ot_b : Int32} {ch_b : Int32} {nc_b : Int32} {g0_b : Nat → Int32} {rs_c : Int32} {sk_c : Int32} {ot_c : Int32} {ch_c : Int32} {nc_c : Int32} {g0_c : Nat → Int32} (dl : Int32) (h_mt : f (A (b + 0)) = some (.inr (4, [.ref (A (b + 1)), .int ex, .int ov, .int 2, .int fi, .int 3]))) (h_al : f (A (b + 1)) = some (.inl (cy 3, 4, .inr (.inr (.inr (.inr q)))))) (h_ij3 : f (A (b + 41)) = some (.inr (2, [.ref (A (b + 42)), .ref (A (b + 44)), .ref (A (b + 46)), .ref (A (b + 48)), .ref (A (b + 50)), .ref (A (b + 52)), .int rs, .int sk, .int ot, .int ch, .int nc]))) (h_t0j3 : f (A (b + 42)) = some (.inr (8, [.int 8, .ref (A (b + 43)), .int 1]))) (h_a0j3 : f (A (b + 43)) = some (.inl (cy 0, 8, .inl g0))) (h_oj3 : f (A (b + 52)) = some (.inr (5, [.ref (A (b + 53)), .int lm, .int lf, .int oc, .int bw, .int bb, .int bl, .int cd, .int hbg]))) (h_oaj3 : f (A (b + 53)) = some (.inl (cy 0, 20, .inl go))) (h_ij0 : f (A (b + 2)) = some (.inr (2, [.ref (A (b + 3)), .ref (A (b + 5)), .ref (A (b + 7)), .ref (A (b + 9)), .ref (A (b + 11)), .ref (A (b + 13)), .int rs_a, .int sk_a, .int ot_a, .int ch_a, .int nc_a]))) (h_t0j0 : f (A (b + 3)) = some (.inr (8, [.int 8, .ref (A (b + 4)), .int 1]))) (h_a0j0 : f (A (b + 4)) = some (.inl (cy 0, 8, .inl g0_a))) (h_ij1 : f (A (b + 15)) = some (.inr (2, [.ref (A (b + 16)), .ref (A (b + 18)), .ref (A (b + 20)), .ref (A (b + 22)), .ref (A (b + 24)), .ref (A (b + 26)), .int rs_b, .int sk_b, .int ot_b, .int ch_b, .int nc_b]))) (h_t0j1 : f (A (b + 16)) = some (.inr (8, [.int 8, .ref (A (b + 17)), .int 1]))) (h_a0j1 : f (A (b + 17)) = some (.inl (cy 0, 8, .inl g0_b))) (h_ij2 : f (A (b + 28)) = some (.inr (2, [.ref (A (b + 29)), .ref (A (b + 31)), .ref (A (b + 33)), .ref (A (b + 35)), .ref (A (b + 37)), .ref (A (b + 39)), .int rs_c, .int sk_c, .int ot_c, .int ch_c, .int nc_c]))) (h_t0j2 : f (A (b + 29)) = some (.inr (8, [.int 8, .ref (A (b + 30)), .int 1]))) (h_a0j2 : f (A (b + 30)) = some (.inl (cy 0, 8, .inl g0_c))) (hAj : ∀ i j : Nat, i ≠ j → A i ≠ A j) (hq0 : q 0 = some (A (b + 2))) (hq1 : q 1 = some (A (b + 15))) (hq2 : q 2 = some (A (b + 28))) (hq3 : q 3 = some (A (b + 41))) : hMet l yX2_dueEnd cX2_dueEnd 3 (some .int) { frames := 3, cells := 0, slots := 0, locals := 66 } D (hTy cy) f sz [.ref (A (b + 0)), .int dl] (hQi (fun r u => r = (X2_dueEnd32_r1 nc g0 lm oc g0_a g0_b g0_c dl) ∧ u = f) D f sz) hNo := by
  refine h_enter (by decide) hfl (Nat.le_of_ble_eq_true rfl) ?_
  intro p9 e9 s9 m9 b9 t9 c9 hsz C0 hr hnm G ls hl
  have hx := C0.1.1
  have hb := C0.1.2.1
  have hl : lv_has ls 3 [(0, .ref (A (b + 0))), (1, .int dl)] := hl
  refine lv_aload_n hx hb dX2_dueEnd_0 rfl (lv_at hl 0 rfl) ?_
  refine g_cR C0 G (g_runV C0 G (rest := []) (c_X2_present3 hfl (A := A) (b := b) (ex := ex) (ov := ov) (ie := 2) (fi := fi) (q := q) h_mt h_al hAj hq0 hq1 hq2 hq3) h_mt rfl hY_X2_present mm_X2_43 mi_X2_present ml_X2_present ⟨(Nat.le_of_ble_eq_true rfl), (Nat.le_of_ble_eq_true rfl)⟩ rfl hl.1 rfl (Nat.le_of_ble_eq_true rfl) dX2_dueEnd_1 ⟨(Nat.le_of_ble_eq_true rfl), (Nat.le_of_ble_eq_true rfl)⟩) (kx_no rfl) (fun a13 u12 H locs hp11 G => ?_)
  obtain ⟨zr, eu12⟩ := hp11
  replace zr := Eq.symm zr
  subst zr
  rw [eu12] at G
  refine lv_astore_n (lv' := [(2, .ref (A (b + 41))), (0, .ref (A (b + 0))), (1, .int dl)]) hx hb dX2_dueEnd_4 rfl hl (by decide) rfl (fun ls hl => ?_)
  refine lv_aload_n hx hb dX2_dueEnd_5 rfl (lv_at hl 1 rfl) ?_
  refine g_cI C0 G (g_runV C0 G (rest := []) (c_X2_isLastPlayed hfl (A := A) (b := b) (ex := ex) (ov := ov) (ie := 2) (fi := fi) (nu := 3) (q := q) h_mt h_al hAj hq0 hq1 hq2 hq3) h_mt rfl hY_X2_isLastPlayed mm_X2_145 mi_X2_isLastPlayed ml_X2_isLastPlayed ⟨(Nat.le_of_ble_eq_true rfl), (Nat.le_of_ble_eq_true rfl)⟩ rfl hl.1 rfl (Nat.le_of_ble_eq_true rfl) dX2_dueEnd_6 ⟨(Nat.le_of_ble_eq_true rfl), (Nat.le_of_ble_eq_true rfl)⟩) (kx_no rfl) (fun r16 u15 H locs hp14 G => ?_)
  obtain ⟨er17, eu15⟩ := hp14
  rw [eu15] at G
  refine lv_topv (v := (X2_isLastPlayed_x0 2 3)) er17 ?_
  refine lv_topv (v := 1) (by decide) ?_
  refine lv_if_eq (tgt := 26) hx hb dX2_dueEnd_9 (by decide) (fun c18 => absurd c18 (by decide)) (fun _ => ?_)
  refine lv_aload_n hx hb dX2_dueEnd_12 rfl (lv_at hl 0 rfl) ?_
  refine lv_iconst (v := 0) hx hb dX2_dueEnd_13 (by decide) ?_
  refine g_cI C0 G (g_runV C0 G (rest := []) (c_X0_total hfl 0 h_ij3 h_t0j3 h_a0j3) h_ij3 rfl hY_X0_total mm_X2_128 mi_X0_total ml_X0_total ⟨(Nat.le_of_ble_eq_true rfl), (Nat.le_of_ble_eq_true rfl)⟩ rfl hl.1 rfl (Nat.le_of_ble_eq_true rfl) dX2_dueEnd_14 ⟨(Nat.le_of_ble_eq_true rfl), (Nat.le_of_ble_eq_true rfl)⟩) (kx_no rfl) (fun r21 u20 H locs hp19 G => ?_)
  obtain ⟨er22, eu20⟩ := hp19
  rw [eu20] at G
  refine lv_topv (v := (tget 8 1 8 g0 0 0)) er22 ?_
  refine lv_aload_n hx hb dX2_dueEnd_17 rfl (lv_at hl 1 rfl) ?_
  refine g_cI C0 G (g_runV C0 G (rest := [.int (tget 8 1 8 g0 0 0)]) (c_X2_target2 hfl (A := A) (b := b) (ex := ex) (ov := ov) (fi := fi) (nu := 3) (q := q) (rs_a := rs_a) (sk_a := sk_a) (ot_a := ot_a) (ch_a := ch_a) (nc_a := nc_a) (g0_a := g0_a) (rs_b := rs_b) (sk_b := sk_b) (ot_b := ot_b) (ch_b := ch_b) (nc_b := nc_b) (g0_b := g0_b) (rs_c := rs_c) (sk_c := sk_c) (ot_c := ot_c) (ch_c := ch_c) (nc_c := nc_c) (g0_c := g0_c) h_mt h_al h_ij0 h_t0j0 h_a0j0 h_ij1 h_t0j1 h_a0j1 h_ij2 h_t0j2 h_a0j2 hAj hq0 hq1 hq2 hq3) h_mt rfl hY_X2_target mm_X2_148 mi_X2_target ml_X2_target ⟨(Nat.le_of_ble_eq_true rfl), (Nat.le_of_ble_eq_true rfl)⟩ rfl hl.1 rfl (Nat.le_of_ble_eq_true rfl) dX2_dueEnd_18 ⟨(Nat.le_of_ble_eq_true rfl), (Nat.le_of_ble_eq_true rfl)⟩) (kx_no rfl) (fun r25 u24 H locs hp23 G => ?_)
  obtain ⟨er26, eu24⟩ := hp23
  rw [eu24] at G
  refine lv_topv (v := (X2_target2_r0 g0_a g0_b g0_c)) er26 ?_
  refine lv_icmp_lt (tgt := 26) hx hb dX2_dueEnd_21 (by decide) (fun c27 => ?_) (fun c27 => ?_)
  · refine lv_iload_n hx hb dX2_dueEnd_26 rfl (lv_at hl 2 rfl) ?_
    have J30 : ∀ (y29 : Int32) (_ : y29 = (X2_dueEnd32_x0 nc lm oc dl)) (H : Heap) (locs : List Loc) (ls : Array Slot), hG D (hA f sz) f s9 H locs → lv_has ls 3 [(2, .ref (A (b + 41))), (0, .ref (A (b + 0))), (1, .int dl)] → W p9 l e9 ({ frames := 3, cells := 0, slots := 0, locals := 66 } : Room) s9 m9 ([.ref (A (b + 0)), .int dl] : List Value).toArray b9 t9 c9 H locs 0 0 (vx_MQ b9 (hQi (fun r u => r = (X2_dueEnd32_r1 nc g0 lm oc g0_a g0_b g0_c dl) ∧ u = f) D f sz) (hPx hNo D f sz) ([.ref (A (b + 0)), .int dl] : List Value).toArray s9 0 0 (hA f sz)) (F0 m9 38 ls [.int y29]) := by
      intro y29 ey29 H locs ls G hl
      replace ey29 := Eq.symm ey29
      subst ey29
      exact g_iret C0 G hr dX2_dueEnd_38 (Nat.le_of_ble_eq_true rfl) (Nat.le_of_ble_eq_true rfl) (by exact ⟨(by rw [X2_dueEnd32_r1, if_pos c27]), rfl⟩)
    refine lv_if_eq (tgt := 34) hx hb dX2_dueEnd_27 (by decide) (fun c28 => ?_) (fun c28 => ?_)
    · refine lv_aload_n hx hb dX2_dueEnd_34 rfl (lv_at hl 0 rfl) ?_
      refine g_cI C0 G (g_runV C0 G (rest := []) (c_X0_ending hfl h_ij3 h_oj3) h_ij3 rfl hY_X0_ending mm_X2_151 mi_X0_ending ml_X0_ending ⟨(Nat.le_of_ble_eq_true rfl), (Nat.le_of_ble_eq_true rfl)⟩ rfl hl.1 rfl (Nat.le_of_ble_eq_true rfl) dX2_dueEnd_35 ⟨(Nat.le_of_ble_eq_true rfl), (Nat.le_of_ble_eq_true rfl)⟩) (kx_no rfl) (fun r34 u33 H locs hp32 G => ?_)
      obtain ⟨er35, eu33⟩ := hp32
      rw [eu33] at G
      refine lv_topv (v := (X0_ending_r1 lm oc nc)) er35 ?_
      exact J30 (X0_ending_r1 lm oc nc) (by rw [X2_dueEnd32_x0, if_pos c28]) _ _ _ G (lv_sub hl [0, 1, 2] rfl)
    · refine lv_iconst (v := 3) hx hb dX2_dueEnd_30 (by decide) ?_
      refine lv_goto (tgt := 38) hx hb dX2_dueEnd_31 (by decide) ?_
      exact J30 3 (by rw [X2_dueEnd32_x0, if_neg c28]) _ _ _ G (lv_sub hl [0, 1, 2] rfl)
  · refine lv_iconst (v := 4) hx hb dX2_dueEnd_24 (by decide) ?_
    exact g_iret C0 G hr dX2_dueEnd_25 (Nat.le_of_ble_eq_true rfl) (Nat.le_of_ble_eq_true rfl) (by exact ⟨(by rw [X2_dueEnd32_r1, if_neg c27]), rfl⟩)
set_option maxRecDepth 100000 in
theorem c_X2_goOn32 {l : Launch} (hfl : l.stackTraces = false) {D : va_G} {cy : Nat → ClassId} {f : Hf} {sz : Nat} {A : Nat → Nat} {b : Nat} {ex : Int32} {ov : Int32} {fi : Int32} {q : Nat → Option Nat} {rs : Int32} {sk : Int32} {ot : Int32} {ch : Int32} {nc : Int32} {g0 : Nat → Int32} {lm : Int32} {lf : Int32} {oc : Int32} {bw : Int32} {bb : Int32} {bl : Int32} {cd : Int32} {hbg : Int32} {go : Nat → Int32} (h_mt : f (A (b + 0)) = some (.inr (4, [.ref (A (b + 1)), .int ex, .int ov, .int 2, .int fi, .int 3]))) (h_al : f (A (b + 1)) = some (.inl (cy 3, 4, .inr (.inr (.inr (.inr q)))))) (h_ij3 : f (A (b + 41)) = some (.inr (2, [.ref (A (b + 42)), .ref (A (b + 44)), .ref (A (b + 46)), .ref (A (b + 48)), .ref (A (b + 50)), .ref (A (b + 52)), .int rs, .int sk, .int ot, .int ch, .int nc]))) (h_t0j3 : f (A (b + 42)) = some (.inr (8, [.int 8, .ref (A (b + 43)), .int 1]))) (h_a0j3 : f (A (b + 43)) = some (.inl (cy 0, 8, .inl g0))) (h_oj3 : f (A (b + 52)) = some (.inr (5, [.ref (A (b + 53)), .int lm, .int lf, .int oc, .int bw, .int bb, .int bl, .int cd, .int hbg]))) (h_oaj3 : f (A (b + 53)) = some (.inl (cy 0, 20, .inl go))) (hAj : ∀ i j : Nat, i ≠ j → A i ≠ A j) (hq0 : q 0 = some (A (b + 2))) (hq1 : q 1 = some (A (b + 15))) (hq2 : q 2 = some (A (b + 28))) (hq3 : q 3 = some (A (b + 41))) : hMet l yX2_goOn cX2_goOn 3 none { frames := 2, cells := 0, slots := 0, locals := 40 } D (hTy cy) f sz [.ref (A (b + 0))] (hQv (fun u => u (A (b + 0)) = some (.inr (4, [.ref (A (b + 1)), .int ex, .int 1, .int 2, .int fi, .int 3])) ∧ hFrL f u [(A (b + 0))]) D f sz) hNo := by
  refine h_enter (by decide) hfl (Nat.le_of_ble_eq_true rfl) ?_
  intro p9 e9 s9 m9 b9 t9 c9 hsz C0 hr hnm G ls hl
  have hx := C0.1.1
  have hb := C0.1.2.1
  have hl : lv_has ls 3 [(0, .ref (A (b + 0)))] := hl
  refine lv_aload_n hx hb dX2_goOn_0 rfl (lv_at hl 0 rfl) ?_
  refine g_get C0 G h_mt rfl hiX2 5 (by decide) mf_X2_31 rfl dX2_goOn_1 ?_
  refine lv_iconst (v := 1) hx hb dX2_goOn_4 (by decide) ?_
  refine lv_iadd hx hb dX2_goOn_5 ?_
  refine lv_topv (v := 4) (by decide) ?_
  refine lv_aload_n hx hb dX2_goOn_6 rfl (lv_at hl 0 rfl) ?_
  refine g_cI C0 G (g_runV C0 G (rest := [.int 4]) (c_X2_lastNumber hfl (A := A) (b := b) (ex := ex) (ov := ov) (ie := 2) (fi := fi) (nu := 3) (q := q) h_mt h_al hAj hq0 hq1 hq2 hq3) h_mt rfl hY_X2_lastNumber mm_X2_81 mi_X2_lastNumber ml_X2_lastNumber ⟨(Nat.le_of_ble_eq_true rfl), (Nat.le_of_ble_eq_true rfl)⟩ rfl hl.1 rfl (Nat.le_of_ble_eq_true rfl) dX2_goOn_7 ⟨(Nat.le_of_ble_eq_true rfl), (Nat.le_of_ble_eq_true rfl)⟩) (kx_no rfl) (fun r13 u12 H locs hp11 G => ?_)
  obtain ⟨er14, eu12⟩ := hp11
  rw [eu12] at G
  refine lv_topv (v := (X2_lastNumber_r0 2)) er14 ?_
  refine lv_topv (v := 3) (by decide) ?_
  refine lv_icmp_ne (tgt := 17) hx hb dX2_goOn_10 (by decide) (fun _ => ?_) (fun c15 => absurd c15 (by decide))
  refine lv_iconst (v := 0) hx hb dX2_goOn_17 (by decide) ?_
  refine lv_istore_n (lv' := [(1, .int 0), (0, .ref (A (b + 0)))]) hx hb dX2_goOn_18 rfl hl (by decide) rfl (fun ls hl => ?_)
  refine lv_aload_n hx hb dX2_goOn_19 rfl (lv_at hl 1 rfl) ?_
  refine g_cI C0 G (g_runV C0 G (rest := []) (c_X2_isLastPlayed hfl (A := A) (b := b) (ex := ex) (ov := ov) (ie := 2) (fi := fi) (nu := 3) (q := q) h_mt h_al hAj hq0 hq1 hq2 hq3) h_mt rfl hY_X2_isLastPlayed mm_X2_145 mi_X2_isLastPlayed ml_X2_isLastPlayed ⟨(Nat.le_of_ble_eq_true rfl), (Nat.le_of_ble_eq_true rfl)⟩ rfl hl.1 rfl (Nat.le_of_ble_eq_true rfl) dX2_goOn_20 ⟨(Nat.le_of_ble_eq_true rfl), (Nat.le_of_ble_eq_true rfl)⟩) (kx_no rfl) (fun r18 u17 H locs hp16 G => ?_)
  obtain ⟨er19, eu17⟩ := hp16
  rw [eu17] at G
  refine lv_topv (v := (X2_isLastPlayed_x0 2 3)) er19 ?_
  refine lv_topv (v := 1) (by decide) ?_
  refine lv_if_ne (tgt := 44) hx hb dX2_goOn_23 (by decide) (fun _ => ?_) (fun c20 => absurd c20 (by decide))
  refine lv_aload_n hx hb dX2_goOn_44 rfl (lv_at hl 1 rfl) ?_
  refine lv_iconst (v := 1) hx hb dX2_goOn_45 (by decide) ?_
  refine g_put C0 G h_mt rfl hiX2 tyX2 tyX2_ok nmX2 2 (by decide) mf_X2_21 rfl rfl rfl rfl (Nat.le_of_ble_eq_true rfl) dX2_goOn_46 (fun H locs f21 hf21 G => ?_)
  have k22 : f21 (A (b + 0)) = some (.inr (4, [.ref (A (b + 1)), .int ex, .int 1, .int 2, .int fi, .int 3])) := hus hf21
  exact g_vret C0 G hr dX2_goOn_49 (Nat.le_of_ble_eq_true rfl) (Nat.le_of_ble_eq_true rfl) (by exact ⟨k22, (fun a9 e9 h7 h8 => hup hf21 (fun q => h7 (by rw [q]; simp)) (h8))⟩)
def X2_numberOfPresent0_x0 (bw : Int32) (hbg : Int32) : Int32 := if hbg = 0 then (-1) else bw
def X2_numberOfPresent0_x1 (ov : Int32) (bw : Int32) (hbg : Int32) : Int32 := if ov = 0 then bw else (X2_numberOfPresent0_x0 bw hbg)
def X2_numberOfPresent0_r2 (ov : Int32) (fi : Int32) (rs : Int32) (sk : Int32) (ot : Int32) (ch : Int32) (g1 : Nat → Int32) (lm : Int32) (bw : Int32) (bl : Int32) (hbg : Int32) (what : Int32) : Int32 := if what = 0 then 0 else (if what = 1 then (X2_battingTeam_x0 fi 0) else (if what = 2 then sk else (if what = 3 then ot else (if what = 4 then (X2_numberOfPresent0_x1 ov bw hbg) else (if what = 5 then bl else (if what = 6 then (X0_nextBatter_r1 g1 ch) else (if what = 7 then lm else rs)))))))
set_option maxRecDepth 100000 in
theorem c_X2_numberOfPresent0 {l : Launch} (hfl : l.stackTraces = false) {D : va_G} {cy : Nat → ClassId} {f : Hf} {sz : Nat} {A : Nat → Nat} {b : Nat} {ex : Int32} {ov : Int32} {ie : Int32} {fi : Int32} {q : Nat → Option Nat} {rs : Int32} {sk : Int32} {ot : Int32} {ch : Int32} {nc : Int32} {g1 : Nat → Int32} {lm : Int32} {lf : Int32} {oc : Int32} {bw : Int32} {bb : Int32} {bl : Int32} {cd : Int32} {hbg : Int32} {go : Nat → Int32} (what : Int32) (h_mt : f (A (b + 0)) = some (.inr (4, [.ref (A (b + 1)), .int ex, .int ov, .int ie, .int fi, .int 0]))) (h_al : f (A (b + 1)) = some (.inl (cy 3, 4, .inr (.inr (.inr (.inr q)))))) (h_ij0 : f (A (b + 2)) = some (.inr (2, [.ref (A (b + 3)), .ref (A (b + 5)), .ref (A (b + 7)), .ref (A (b + 9)), .ref (A (b + 11)), .ref (A (b + 13)), .int rs, .int sk, .int ot, .int ch, .int nc]))) (h_t1j0 : f (A (b + 5)) = some (.inr (8, [.int 6, .ref (A (b + 6)), .int 11]))) (h_a1j0 : f (A (b + 6)) = some (.inl (cy 0, 66, .inl g1))) (h_oj0 : f (A (b + 13)) = some (.inr (5, [.ref (A (b + 14)), .int lm, .int lf, .int oc, .int bw, .int bb, .int bl, .int cd, .int hbg]))) (h_oaj0 : f (A (b + 14)) = some (.inl (cy 0, 20, .inl go))) (hAj : ∀ i j : Nat, i ≠ j → A i ≠ A j) (hq0 : q 0 = some (A (b + 2))) (hq1 : q 1 = some (A (b + 15))) (hq2 : q 2 = some (A (b + 28))) (hq3 : q 3 = some (A (b + 41))) : hMet l yX2_numberOfPresent cX2_numberOfPresent 3 (some .int) { frames := 3, cells := 0, slots := 0, locals := 67 } D (hTy cy) f sz [.ref (A (b + 0)), .int what] (hQi (fun r u => r = (X2_numberOfPresent0_r2 ov fi rs sk ot ch g1 lm bw bl hbg what) ∧ u = f) D f sz) hNo := by
  refine h_enter (by decide) hfl (Nat.le_of_ble_eq_true rfl) ?_
  intro p9 e9 s9 m9 b9 t9 c9 hsz C0 hr hnm G ls hl
  have hx := C0.1.1
  have hb := C0.1.2.1
  have hl : lv_has ls 3 [(0, .ref (A (b + 0))), (1, .int what)] := hl
  refine lv_aload_n hx hb dX2_numberOfPresent_0 rfl (lv_at hl 0 rfl) ?_
  refine g_cR C0 G (g_runV C0 G (rest := []) (c_X2_present0 hfl (A := A) (b := b) (ex := ex) (ov := ov) (ie := ie) (fi := fi) (q := q) h_mt h_al hAj hq0 hq1 hq2 hq3) h_mt rfl hY_X2_present mm_X2_43 mi_X2_present ml_X2_present ⟨(Nat.le_of_ble_eq_true rfl), (Nat.le_of_ble_eq_true rfl)⟩ rfl hl.1 rfl (Nat.le_of_ble_eq_true rfl) dX2_numberOfPresent_1 ⟨(Nat.le_of_ble_eq_true rfl), (Nat.le_of_ble_eq_true rfl)⟩) (kx_no rfl) (fun a13 u12 H locs hp11 G => ?_)
  obtain ⟨zr, eu12⟩ := hp11
  replace zr := Eq.symm zr
  subst zr
  rw [eu12] at G
  refine lv_astore_n (lv' := [(2, .ref (A (b + 2))), (0, .ref (A (b + 0))), (1, .int what)]) hx hb dX2_numberOfPresent_4 rfl hl (by decide) rfl (fun ls hl => ?_)
  refine lv_iload_n hx hb dX2_numberOfPresent_5 rfl (lv_at hl 2 rfl) ?_
  have sw22 : (what = 0) ∨ (¬ what = 0 ∧ what = 1) ∨ (¬ what = 0 ∧ ¬ what = 1 ∧ what = 2) ∨ (¬ what = 0 ∧ ¬ what = 1 ∧ ¬ what = 2 ∧ what = 3) ∨ (¬ what = 0 ∧ ¬ what = 1 ∧ ¬ what = 2 ∧ ¬ what = 3 ∧ what = 4) ∨ (¬ what = 0 ∧ ¬ what = 1 ∧ ¬ what = 2 ∧ ¬ what = 3 ∧ ¬ what = 4 ∧ what = 5) ∨ (¬ what = 0 ∧ ¬ what = 1 ∧ ¬ what = 2 ∧ ¬ what = 3 ∧ ¬ what = 4 ∧ ¬ what = 5 ∧ what = 6) ∨ (¬ what = 0 ∧ ¬ what = 1 ∧ ¬ what = 2 ∧ ¬ what = 3 ∧ ¬ what = 4 ∧ ¬ what = 5 ∧ ¬ what = 6 ∧ what = 7) ∨ (¬ what = 0 ∧ ¬ what = 1 ∧ ¬ what = 2 ∧ ¬ what = 3 ∧ ¬ what = 4 ∧ ¬ what = 5 ∧ ¬ what = 6 ∧ ¬ what = 7) := by
    by_cases w14 : what = 0
    · exact Or.inl w14
    rename ¬ what = 0 => nw14
    by_cases w15 : what = 1
    · exact Or.inr (Or.inl ⟨nw14, w15⟩)
    rename ¬ what = 1 => nw15
    by_cases w16 : what = 2
    · exact Or.inr (Or.inr (Or.inl ⟨nw14, nw15, w16⟩))
    rename ¬ what = 2 => nw16
    by_cases w17 : what = 3
    · exact Or.inr (Or.inr (Or.inr (Or.inl ⟨nw14, nw15, nw16, w17⟩)))
    rename ¬ what = 3 => nw17
    by_cases w18 : what = 4
    · exact Or.inr (Or.inr (Or.inr (Or.inr (Or.inl ⟨nw14, nw15, nw16, nw17, w18⟩))))
    rename ¬ what = 4 => nw18
    by_cases w19 : what = 5
    · exact Or.inr (Or.inr (Or.inr (Or.inr (Or.inr (Or.inl ⟨nw14, nw15, nw16, nw17, nw18, w19⟩)))))
    rename ¬ what = 5 => nw19
    by_cases w20 : what = 6
    · exact Or.inr (Or.inr (Or.inr (Or.inr (Or.inr (Or.inr (Or.inl ⟨nw14, nw15, nw16, nw17, nw18, nw19, w20⟩))))))
    rename ¬ what = 6 => nw20
    by_cases w21 : what = 7
    · exact Or.inr (Or.inr (Or.inr (Or.inr (Or.inr (Or.inr (Or.inr (Or.inl ⟨nw14, nw15, nw16, nw17, nw18, nw19, nw20, w21⟩)))))))
    rename ¬ what = 7 => nw21
    exact Or.inr (Or.inr (Or.inr (Or.inr (Or.inr (Or.inr (Or.inr (Or.inr (⟨nw14, nw15, nw16, nw17, nw18, nw19, nw20, nw21⟩))))))))
  rcases sw22 with w14 | ⟨nw14, w15⟩ | ⟨nw14, nw15, w16⟩ | ⟨nw14, nw15, nw16, w17⟩ | ⟨nw14, nw15, nw16, nw17, w18⟩ | ⟨nw14, nw15, nw16, nw17, nw18, w19⟩ | ⟨nw14, nw15, nw16, nw17, nw18, nw19, w20⟩ | ⟨nw14, nw15, nw16, nw17, nw18, nw19, nw20, w21⟩ | ⟨nw14, nw15, nw16, nw17, nw18, nw19, nw20, nw21⟩
  · refine lv_tableIn (off := 46) (tgt := 52) hx hb dX2_numberOfPresent_6 (by rw [w14]; decide) (by rw [w14]; decide) (by rw [w14]; rfl) (by decide) ?_
    refine lv_aload_n hx hb dX2_numberOfPresent_52 rfl (lv_at hl 1 rfl) ?_
    refine g_get C0 G h_mt rfl hiX2 5 (by decide) mf_X2_31 rfl dX2_numberOfPresent_53 ?_
    exact g_iret C0 G hr dX2_numberOfPresent_56 (Nat.le_of_ble_eq_true rfl) (Nat.le_of_ble_eq_true rfl) (by exact ⟨(by rw [X2_numberOfPresent0_r2, if_pos w14]), rfl⟩)
  · refine lv_tableIn (off := 51) (tgt := 57) hx hb dX2_numberOfPresent_6 (by rw [w15]; decide) (by rw [w15]; decide) (by rw [w15]; rfl) (by decide) ?_
    refine lv_aload_n hx hb dX2_numberOfPresent_57 rfl (lv_at hl 1 rfl) ?_
    refine lv_aload_n hx hb dX2_numberOfPresent_58 rfl (lv_at hl 1 rfl) ?_
    refine g_get C0 G h_mt rfl hiX2 5 (by decide) mf_X2_31 rfl dX2_numberOfPresent_59 ?_
    refine g_cI C0 G (g_runV C0 G (rest := []) (c_X2_battingTeam hfl (A := A) (b := b) (ex := ex) (ov := ov) (ie := ie) (fi := fi) (nu := 0) (q := q) 0 h_mt h_al hAj hq0 hq1 hq2 hq3) h_mt rfl hY_X2_battingTeam mm_X2_168 mi_X2_battingTeam ml_X2_battingTeam ⟨(Nat.le_of_ble_eq_true rfl), (Nat.le_of_ble_eq_true rfl)⟩ rfl hl.1 rfl (Nat.le_of_ble_eq_true rfl) dX2_numberOfPresent_62 ⟨(Nat.le_of_ble_eq_true rfl), (Nat.le_of_ble_eq_true rfl)⟩) (kx_no rfl) (fun r25 u24 H locs hp23 G => ?_)
    obtain ⟨er26, eu24⟩ := hp23
    rw [eu24] at G
    refine lv_topv (v := (X2_battingTeam_x0 fi 0)) er26 ?_
    exact g_iret C0 G hr dX2_numberOfPresent_65 (Nat.le_of_ble_eq_true rfl) (Nat.le_of_ble_eq_true rfl) (by exact ⟨(by rw [X2_numberOfPresent0_r2, if_neg nw14, if_pos w15]), rfl⟩)
  · refine lv_tableIn (off := 60) (tgt := 66) hx hb dX2_numberOfPresent_6 (by rw [w16]; decide) (by rw [w16]; decide) (by rw [w16]; rfl) (by decide) ?_
    refine lv_aload_n hx hb dX2_numberOfPresent_66 rfl (lv_at hl 0 rfl) ?_
    refine g_get C0 G h_ij0 rfl hiX0 7 (by decide) mf_X2_171 rfl dX2_numberOfPresent_67 ?_
    exact g_iret C0 G hr dX2_numberOfPresent_70 (Nat.le_of_ble_eq_true rfl) (Nat.le_of_ble_eq_true rfl) (by exact ⟨(by rw [X2_numberOfPresent0_r2, if_neg nw14, if_neg nw15, if_pos w16]), rfl⟩)
  · refine lv_tableIn (off := 65) (tgt := 71) hx hb dX2_numberOfPresent_6 (by rw [w17]; decide) (by rw [w17]; decide) (by rw [w17]; rfl) (by decide) ?_
    refine lv_aload_n hx hb dX2_numberOfPresent_71 rfl (lv_at hl 0 rfl) ?_
    refine g_get C0 G h_ij0 rfl hiX0 8 (by decide) mf_X2_174 rfl dX2_numberOfPresent_72 ?_
    exact g_iret C0 G hr dX2_numberOfPresent_75 (Nat.le_of_ble_eq_true rfl) (Nat.le_of_ble_eq_true rfl) (by exact ⟨(by rw [X2_numberOfPresent0_r2, if_neg nw14, if_neg nw15, if_neg nw16, if_pos w17]), rfl⟩)
  · refine lv_tableIn (off := 70) (tgt := 76) hx hb dX2_numberOfPresent_6 (by rw [w18]; decide) (by rw [w18]; decide) (by rw [w18]; rfl) (by decide) ?_
    refine lv_aload_n hx hb dX2_numberOfPresent_76 rfl (lv_at hl 1 rfl) ?_
    refine g_get C0 G h_mt rfl hiX2 2 (by decide) mf_X2_21 rfl dX2_numberOfPresent_77 ?_
    have J29 : ∀ (y28 : Int32) (_ : y28 = (X2_numberOfPresent0_x1 ov bw hbg)) (H : Heap) (locs : List Loc) (ls : Array Slot), hG D (hA f sz) f s9 H locs → lv_has ls 3 [(2, .ref (A (b + 2))), (0, .ref (A (b + 0))), (1, .int what)] → W p9 l e9 ({ frames := 3, cells := 0, slots := 0, locals := 67 } : Room) s9 m9 ([.ref (A (b + 0)), .int what] : List Value).toArray b9 t9 c9 H locs 0 0 (vx_MQ b9 (hQi (fun r u => r = (X2_numberOfPresent0_r2 ov fi rs sk ot ch g1 lm bw bl hbg what) ∧ u = f) D f sz) (hPx hNo D f sz) ([.ref (A (b + 0)), .int what] : List Value).toArray s9 0 0 (hA f sz)) (F0 m9 104 ls [.int y28]) := by
      intro y28 ey28 H locs ls G hl
      replace ey28 := Eq.symm ey28
      subst ey28
      exact g_iret C0 G hr dX2_numberOfPresent_104 (Nat.le_of_ble_eq_true rfl) (Nat.le_of_ble_eq_true rfl) (by exact ⟨(by rw [X2_numberOfPresent0_r2, if_neg nw14, if_neg nw15, if_neg nw16, if_neg nw17, if_pos w18]), rfl⟩)
    refine lv_if_eq (tgt := 97) hx hb dX2_numberOfPresent_80 (by decide) (fun c27 => ?_) (fun c27 => ?_)
    · refine lv_aload_n hx hb dX2_numberOfPresent_97 rfl (lv_at hl 0 rfl) ?_
      refine g_get C0 G h_ij0 rfl hiX0 5 (by decide) mf_X2_95 rfl dX2_numberOfPresent_98 ?_
      refine g_get C0 G h_oj0 rfl hiX3 4 (by decide) mf_X2_98 rfl dX2_numberOfPresent_101 ?_
      exact J29 bw (by rw [X2_numberOfPresent0_x1, if_pos c27]) _ _ _ G (lv_sub hl [0, 1, 2] rfl)
    · refine lv_aload_n hx hb dX2_numberOfPresent_83 rfl (lv_at hl 0 rfl) ?_
      refine g_get C0 G h_ij0 rfl hiX0 5 (by decide) mf_X2_95 rfl dX2_numberOfPresent_84 ?_
      refine g_get C0 G h_oj0 rfl hiX3 8 (by decide) mf_X2_177 rfl dX2_numberOfPresent_87 ?_
      have J33 : ∀ (y32 : Int32) (_ : y32 = (X2_numberOfPresent0_x0 bw hbg)) (H : Heap) (locs : List Loc) (ls : Array Slot), hG D (hA f sz) f s9 H locs → lv_has ls 3 [(2, .ref (A (b + 2))), (0, .ref (A (b + 0))), (1, .int what)] → W p9 l e9 ({ frames := 3, cells := 0, slots := 0, locals := 67 } : Room) s9 m9 ([.ref (A (b + 0)), .int what] : List Value).toArray b9 t9 c9 H locs 0 0 (vx_MQ b9 (hQi (fun r u => r = (X2_numberOfPresent0_r2 ov fi rs sk ot ch g1 lm bw bl hbg what) ∧ u = f) D f sz) (hPx hNo D f sz) ([.ref (A (b + 0)), .int what] : List Value).toArray s9 0 0 (hA f sz)) (F0 m9 104 ls [.int y32]) := by
        intro y32 ey32 H locs ls G hl
        replace ey32 := Eq.symm ey32
        subst ey32
        exact J29 (X2_numberOfPresent0_x0 bw hbg) (by rw [X2_numberOfPresent0_x1, if_neg c27]) _ _ _ G (lv_sub hl [0, 1, 2] rfl)
      refine lv_if_ne (tgt := 97) hx hb dX2_numberOfPresent_90 (by decide) (fun c31 => ?_) (fun c31 => ?_)
      · refine lv_aload_n hx hb dX2_numberOfPresent_97 rfl (lv_at hl 0 rfl) ?_
        refine g_get C0 G h_ij0 rfl hiX0 5 (by decide) mf_X2_95 rfl dX2_numberOfPresent_98 ?_
        refine g_get C0 G h_oj0 rfl hiX3 4 (by decide) mf_X2_98 rfl dX2_numberOfPresent_101 ?_
        exact J33 bw (by rw [X2_numberOfPresent0_x0, if_neg c31]) _ _ _ G (lv_sub hl [0, 1, 2] rfl)
      · refine lv_iconst (v := (-1)) hx hb dX2_numberOfPresent_93 (by decide) ?_
        refine lv_goto (tgt := 104) hx hb dX2_numberOfPresent_94 (by decide) ?_
        exact J33 (-1) (by rw [X2_numberOfPresent0_x0, if_pos c31]) _ _ _ G (lv_sub hl [0, 1, 2] rfl)
  · refine lv_tableIn (off := 99) (tgt := 105) hx hb dX2_numberOfPresent_6 (by rw [w19]; decide) (by rw [w19]; decide) (by rw [w19]; rfl) (by decide) ?_
    refine lv_aload_n hx hb dX2_numberOfPresent_105 rfl (lv_at hl 0 rfl) ?_
    refine g_get C0 G h_ij0 rfl hiX0 5 (by decide) mf_X2_95 rfl dX2_numberOfPresent_106 ?_
    refine g_get C0 G h_oj0 rfl hiX3 6 (by decide) mf_X2_180 rfl dX2_numberOfPresent_109 ?_
    exact g_iret C0 G hr dX2_numberOfPresent_112 (Nat.le_of_ble_eq_true rfl) (Nat.le_of_ble_eq_true rfl) (by exact ⟨(by rw [X2_numberOfPresent0_r2, if_neg nw14, if_neg nw15, if_neg nw16, if_neg nw17, if_neg nw18, if_pos w19]), rfl⟩)
  · refine lv_tableIn (off := 107) (tgt := 113) hx hb dX2_numberOfPresent_6 (by rw [w20]; decide) (by rw [w20]; decide) (by rw [w20]; rfl) (by decide) ?_
    refine lv_aload_n hx hb dX2_numberOfPresent_113 rfl (lv_at hl 0 rfl) ?_
    refine g_cI C0 G (g_runV C0 G (rest := []) (c_X0_nextBatter hfl h_ij0 h_t1j0 h_a1j0) h_ij0 rfl hY_X0_nextBatter mm_X2_183 mi_X0_nextBatter ml_X0_nextBatter ⟨(Nat.le_of_ble_eq_true rfl), (Nat.le_of_ble_eq_true rfl)⟩ rfl hl.1 rfl (Nat.le_of_ble_eq_true rfl) dX2_numberOfPresent_114 ⟨(Nat.le_of_ble_eq_true rfl), (Nat.le_of_ble_eq_true rfl)⟩) (kx_no rfl) (fun r37 u36 H locs hp35 G => ?_)
    obtain ⟨er38, eu36⟩ := hp35
    rw [eu36] at G
    refine lv_topv (v := (X0_nextBatter_r1 g1 ch)) er38 ?_
    exact g_iret C0 G hr dX2_numberOfPresent_117 (Nat.le_of_ble_eq_true rfl) (Nat.le_of_ble_eq_true rfl) (by exact ⟨(by rw [X2_numberOfPresent0_r2, if_neg nw14, if_neg nw15, if_neg nw16, if_neg nw17, if_neg nw18, if_neg nw19, if_pos w20]), rfl⟩)
  · refine lv_tableIn (off := 112) (tgt := 118) hx hb dX2_numberOfPresent_6 (by rw [w21]; decide) (by rw [w21]; decide) (by rw [w21]; rfl) (by decide) ?_
    refine lv_aload_n hx hb dX2_numberOfPresent_118 rfl (lv_at hl 0 rfl) ?_
    refine g_get C0 G h_ij0 rfl hiX0 5 (by decide) mf_X2_95 rfl dX2_numberOfPresent_119 ?_
    refine g_get C0 G h_oj0 rfl hiX3 1 (by decide) mf_X2_154 rfl dX2_numberOfPresent_122 ?_
    exact g_iret C0 G hr dX2_numberOfPresent_125 (Nat.le_of_ble_eq_true rfl) (Nat.le_of_ble_eq_true rfl) (by exact ⟨(by rw [X2_numberOfPresent0_r2, if_neg nw14, if_neg nw15, if_neg nw16, if_neg nw17, if_neg nw18, if_neg nw19, if_neg nw20, if_pos w21]), rfl⟩)
  · have q39 : what.toInt < 0 ∨ 7 < what.toInt := by
      have tw14 : what.toInt ≠ 0 := fun z => nw14 (Int32.toInt_inj.mp z)
      have tw15 : what.toInt ≠ 1 := fun z => nw15 (Int32.toInt_inj.mp z)
      have tw16 : what.toInt ≠ 2 := fun z => nw16 (Int32.toInt_inj.mp z)
      have tw17 : what.toInt ≠ 3 := fun z => nw17 (Int32.toInt_inj.mp z)
      have tw18 : what.toInt ≠ 4 := fun z => nw18 (Int32.toInt_inj.mp z)
      have tw19 : what.toInt ≠ 5 := fun z => nw19 (Int32.toInt_inj.mp z)
      have tw20 : what.toInt ≠ 6 := fun z => nw20 (Int32.toInt_inj.mp z)
      have tw21 : what.toInt ≠ 7 := fun z => nw21 (Int32.toInt_inj.mp z)
      omega
    refine lv_tableOut (tgt := 126) hx hb dX2_numberOfPresent_6 q39 (by decide) ?_
    refine lv_aload_n hx hb dX2_numberOfPresent_126 rfl (lv_at hl 0 rfl) ?_
    refine g_get C0 G h_ij0 rfl hiX0 6 (by decide) mf_X2_157 rfl dX2_numberOfPresent_127 ?_
    exact g_iret C0 G hr dX2_numberOfPresent_130 (Nat.le_of_ble_eq_true rfl) (Nat.le_of_ble_eq_true rfl) (by exact ⟨(by rw [X2_numberOfPresent0_r2, if_neg nw14, if_neg nw15, if_neg nw16, if_neg nw17, if_neg nw18, if_neg nw19, if_neg nw20, if_neg nw21]), rfl⟩)
def X2_numberOfPresent1_x0 (bw : Int32) (hbg : Int32) : Int32 := if hbg = 0 then (-1) else bw
def X2_numberOfPresent1_x1 (ov : Int32) (bw : Int32) (hbg : Int32) : Int32 := if ov = 0 then bw else (X2_numberOfPresent1_x0 bw hbg)
def X2_numberOfPresent1_r2 (ov : Int32) (fi : Int32) (rs : Int32) (sk : Int32) (ot : Int32) (ch : Int32) (g1 : Nat → Int32) (lm : Int32) (bw : Int32) (bl : Int32) (hbg : Int32) (what : Int32) : Int32 := if what = 0 then 1 else (if what = 1 then (X2_battingTeam_x0 fi 1) else (if what = 2 then sk else (if what = 3 then ot else (if what = 4 then (X2_numberOfPresent1_x1 ov bw hbg) else (if what = 5 then bl else (if what = 6 then (X0_nextBatter_r1 g1 ch) else (if what = 7 then lm else rs)))))))
set_option maxRecDepth 100000 in
theorem c_X2_numberOfPresent1 {l : Launch} (hfl : l.stackTraces = false) {D : va_G} {cy : Nat → ClassId} {f : Hf} {sz : Nat} {A : Nat → Nat} {b : Nat} {ex : Int32} {ov : Int32} {ie : Int32} {fi : Int32} {q : Nat → Option Nat} {rs : Int32} {sk : Int32} {ot : Int32} {ch : Int32} {nc : Int32} {g1 : Nat → Int32} {lm : Int32} {lf : Int32} {oc : Int32} {bw : Int32} {bb : Int32} {bl : Int32} {cd : Int32} {hbg : Int32} {go : Nat → Int32} (what : Int32) (h_mt : f (A (b + 0)) = some (.inr (4, [.ref (A (b + 1)), .int ex, .int ov, .int ie, .int fi, .int 1]))) (h_al : f (A (b + 1)) = some (.inl (cy 3, 4, .inr (.inr (.inr (.inr q)))))) (h_ij1 : f (A (b + 15)) = some (.inr (2, [.ref (A (b + 16)), .ref (A (b + 18)), .ref (A (b + 20)), .ref (A (b + 22)), .ref (A (b + 24)), .ref (A (b + 26)), .int rs, .int sk, .int ot, .int ch, .int nc]))) (h_t1j1 : f (A (b + 18)) = some (.inr (8, [.int 6, .ref (A (b + 19)), .int 11]))) (h_a1j1 : f (A (b + 19)) = some (.inl (cy 0, 66, .inl g1))) (h_oj1 : f (A (b + 26)) = some (.inr (5, [.ref (A (b + 27)), .int lm, .int lf, .int oc, .int bw, .int bb, .int bl, .int cd, .int hbg]))) (h_oaj1 : f (A (b + 27)) = some (.inl (cy 0, 20, .inl go))) (hAj : ∀ i j : Nat, i ≠ j → A i ≠ A j) (hq0 : q 0 = some (A (b + 2))) (hq1 : q 1 = some (A (b + 15))) (hq2 : q 2 = some (A (b + 28))) (hq3 : q 3 = some (A (b + 41))) : hMet l yX2_numberOfPresent cX2_numberOfPresent 3 (some .int) { frames := 3, cells := 0, slots := 0, locals := 67 } D (hTy cy) f sz [.ref (A (b + 0)), .int what] (hQi (fun r u => r = (X2_numberOfPresent1_r2 ov fi rs sk ot ch g1 lm bw bl hbg what) ∧ u = f) D f sz) hNo := by
  refine h_enter (by decide) hfl (Nat.le_of_ble_eq_true rfl) ?_
  intro p9 e9 s9 m9 b9 t9 c9 hsz C0 hr hnm G ls hl
  have hx := C0.1.1
  have hb := C0.1.2.1
  have hl : lv_has ls 3 [(0, .ref (A (b + 0))), (1, .int what)] := hl
  refine lv_aload_n hx hb dX2_numberOfPresent_0 rfl (lv_at hl 0 rfl) ?_
  refine g_cR C0 G (g_runV C0 G (rest := []) (c_X2_present1 hfl (A := A) (b := b) (ex := ex) (ov := ov) (ie := ie) (fi := fi) (q := q) h_mt h_al hAj hq0 hq1 hq2 hq3) h_mt rfl hY_X2_present mm_X2_43 mi_X2_present ml_X2_present ⟨(Nat.le_of_ble_eq_true rfl), (Nat.le_of_ble_eq_true rfl)⟩ rfl hl.1 rfl (Nat.le_of_ble_eq_true rfl) dX2_numberOfPresent_1 ⟨(Nat.le_of_ble_eq_true rfl), (Nat.le_of_ble_eq_true rfl)⟩) (kx_no rfl) (fun a13 u12 H locs hp11 G => ?_)
  obtain ⟨zr, eu12⟩ := hp11
  replace zr := Eq.symm zr
  subst zr
  rw [eu12] at G
  refine lv_astore_n (lv' := [(2, .ref (A (b + 15))), (0, .ref (A (b + 0))), (1, .int what)]) hx hb dX2_numberOfPresent_4 rfl hl (by decide) rfl (fun ls hl => ?_)
  refine lv_iload_n hx hb dX2_numberOfPresent_5 rfl (lv_at hl 2 rfl) ?_
  have sw22 : (what = 0) ∨ (¬ what = 0 ∧ what = 1) ∨ (¬ what = 0 ∧ ¬ what = 1 ∧ what = 2) ∨ (¬ what = 0 ∧ ¬ what = 1 ∧ ¬ what = 2 ∧ what = 3) ∨ (¬ what = 0 ∧ ¬ what = 1 ∧ ¬ what = 2 ∧ ¬ what = 3 ∧ what = 4) ∨ (¬ what = 0 ∧ ¬ what = 1 ∧ ¬ what = 2 ∧ ¬ what = 3 ∧ ¬ what = 4 ∧ what = 5) ∨ (¬ what = 0 ∧ ¬ what = 1 ∧ ¬ what = 2 ∧ ¬ what = 3 ∧ ¬ what = 4 ∧ ¬ what = 5 ∧ what = 6) ∨ (¬ what = 0 ∧ ¬ what = 1 ∧ ¬ what = 2 ∧ ¬ what = 3 ∧ ¬ what = 4 ∧ ¬ what = 5 ∧ ¬ what = 6 ∧ what = 7) ∨ (¬ what = 0 ∧ ¬ what = 1 ∧ ¬ what = 2 ∧ ¬ what = 3 ∧ ¬ what = 4 ∧ ¬ what = 5 ∧ ¬ what = 6 ∧ ¬ what = 7) := by
    by_cases w14 : what = 0
    · exact Or.inl w14
    rename ¬ what = 0 => nw14
    by_cases w15 : what = 1
    · exact Or.inr (Or.inl ⟨nw14, w15⟩)
    rename ¬ what = 1 => nw15
    by_cases w16 : what = 2
    · exact Or.inr (Or.inr (Or.inl ⟨nw14, nw15, w16⟩))
    rename ¬ what = 2 => nw16
    by_cases w17 : what = 3
    · exact Or.inr (Or.inr (Or.inr (Or.inl ⟨nw14, nw15, nw16, w17⟩)))
    rename ¬ what = 3 => nw17
    by_cases w18 : what = 4
    · exact Or.inr (Or.inr (Or.inr (Or.inr (Or.inl ⟨nw14, nw15, nw16, nw17, w18⟩))))
    rename ¬ what = 4 => nw18
    by_cases w19 : what = 5
    · exact Or.inr (Or.inr (Or.inr (Or.inr (Or.inr (Or.inl ⟨nw14, nw15, nw16, nw17, nw18, w19⟩)))))
    rename ¬ what = 5 => nw19
    by_cases w20 : what = 6
    · exact Or.inr (Or.inr (Or.inr (Or.inr (Or.inr (Or.inr (Or.inl ⟨nw14, nw15, nw16, nw17, nw18, nw19, w20⟩))))))
    rename ¬ what = 6 => nw20
    by_cases w21 : what = 7
    · exact Or.inr (Or.inr (Or.inr (Or.inr (Or.inr (Or.inr (Or.inr (Or.inl ⟨nw14, nw15, nw16, nw17, nw18, nw19, nw20, w21⟩)))))))
    rename ¬ what = 7 => nw21
    exact Or.inr (Or.inr (Or.inr (Or.inr (Or.inr (Or.inr (Or.inr (Or.inr (⟨nw14, nw15, nw16, nw17, nw18, nw19, nw20, nw21⟩))))))))
  rcases sw22 with w14 | ⟨nw14, w15⟩ | ⟨nw14, nw15, w16⟩ | ⟨nw14, nw15, nw16, w17⟩ | ⟨nw14, nw15, nw16, nw17, w18⟩ | ⟨nw14, nw15, nw16, nw17, nw18, w19⟩ | ⟨nw14, nw15, nw16, nw17, nw18, nw19, w20⟩ | ⟨nw14, nw15, nw16, nw17, nw18, nw19, nw20, w21⟩ | ⟨nw14, nw15, nw16, nw17, nw18, nw19, nw20, nw21⟩
  · refine lv_tableIn (off := 46) (tgt := 52) hx hb dX2_numberOfPresent_6 (by rw [w14]; decide) (by rw [w14]; decide) (by rw [w14]; rfl) (by decide) ?_
    refine lv_aload_n hx hb dX2_numberOfPresent_52 rfl (lv_at hl 1 rfl) ?_
    refine g_get C0 G h_mt rfl hiX2 5 (by decide) mf_X2_31 rfl dX2_numberOfPresent_53 ?_
    exact g_iret C0 G hr dX2_numberOfPresent_56 (Nat.le_of_ble_eq_true rfl) (Nat.le_of_ble_eq_true rfl) (by exact ⟨(by rw [X2_numberOfPresent1_r2, if_pos w14]), rfl⟩)
  · refine lv_tableIn (off := 51) (tgt := 57) hx hb dX2_numberOfPresent_6 (by rw [w15]; decide) (by rw [w15]; decide) (by rw [w15]; rfl) (by decide) ?_
    refine lv_aload_n hx hb dX2_numberOfPresent_57 rfl (lv_at hl 1 rfl) ?_
    refine lv_aload_n hx hb dX2_numberOfPresent_58 rfl (lv_at hl 1 rfl) ?_
    refine g_get C0 G h_mt rfl hiX2 5 (by decide) mf_X2_31 rfl dX2_numberOfPresent_59 ?_
    refine g_cI C0 G (g_runV C0 G (rest := []) (c_X2_battingTeam hfl (A := A) (b := b) (ex := ex) (ov := ov) (ie := ie) (fi := fi) (nu := 1) (q := q) 1 h_mt h_al hAj hq0 hq1 hq2 hq3) h_mt rfl hY_X2_battingTeam mm_X2_168 mi_X2_battingTeam ml_X2_battingTeam ⟨(Nat.le_of_ble_eq_true rfl), (Nat.le_of_ble_eq_true rfl)⟩ rfl hl.1 rfl (Nat.le_of_ble_eq_true rfl) dX2_numberOfPresent_62 ⟨(Nat.le_of_ble_eq_true rfl), (Nat.le_of_ble_eq_true rfl)⟩) (kx_no rfl) (fun r25 u24 H locs hp23 G => ?_)
    obtain ⟨er26, eu24⟩ := hp23
    rw [eu24] at G
    refine lv_topv (v := (X2_battingTeam_x0 fi 1)) er26 ?_
    exact g_iret C0 G hr dX2_numberOfPresent_65 (Nat.le_of_ble_eq_true rfl) (Nat.le_of_ble_eq_true rfl) (by exact ⟨(by rw [X2_numberOfPresent1_r2, if_neg nw14, if_pos w15]), rfl⟩)
  · refine lv_tableIn (off := 60) (tgt := 66) hx hb dX2_numberOfPresent_6 (by rw [w16]; decide) (by rw [w16]; decide) (by rw [w16]; rfl) (by decide) ?_
    refine lv_aload_n hx hb dX2_numberOfPresent_66 rfl (lv_at hl 0 rfl) ?_
    refine g_get C0 G h_ij1 rfl hiX0 7 (by decide) mf_X2_171 rfl dX2_numberOfPresent_67 ?_
    exact g_iret C0 G hr dX2_numberOfPresent_70 (Nat.le_of_ble_eq_true rfl) (Nat.le_of_ble_eq_true rfl) (by exact ⟨(by rw [X2_numberOfPresent1_r2, if_neg nw14, if_neg nw15, if_pos w16]), rfl⟩)
  · refine lv_tableIn (off := 65) (tgt := 71) hx hb dX2_numberOfPresent_6 (by rw [w17]; decide) (by rw [w17]; decide) (by rw [w17]; rfl) (by decide) ?_
    refine lv_aload_n hx hb dX2_numberOfPresent_71 rfl (lv_at hl 0 rfl) ?_
    refine g_get C0 G h_ij1 rfl hiX0 8 (by decide) mf_X2_174 rfl dX2_numberOfPresent_72 ?_
    exact g_iret C0 G hr dX2_numberOfPresent_75 (Nat.le_of_ble_eq_true rfl) (Nat.le_of_ble_eq_true rfl) (by exact ⟨(by rw [X2_numberOfPresent1_r2, if_neg nw14, if_neg nw15, if_neg nw16, if_pos w17]), rfl⟩)
  · refine lv_tableIn (off := 70) (tgt := 76) hx hb dX2_numberOfPresent_6 (by rw [w18]; decide) (by rw [w18]; decide) (by rw [w18]; rfl) (by decide) ?_
    refine lv_aload_n hx hb dX2_numberOfPresent_76 rfl (lv_at hl 1 rfl) ?_
    refine g_get C0 G h_mt rfl hiX2 2 (by decide) mf_X2_21 rfl dX2_numberOfPresent_77 ?_
    have J29 : ∀ (y28 : Int32) (_ : y28 = (X2_numberOfPresent1_x1 ov bw hbg)) (H : Heap) (locs : List Loc) (ls : Array Slot), hG D (hA f sz) f s9 H locs → lv_has ls 3 [(2, .ref (A (b + 15))), (0, .ref (A (b + 0))), (1, .int what)] → W p9 l e9 ({ frames := 3, cells := 0, slots := 0, locals := 67 } : Room) s9 m9 ([.ref (A (b + 0)), .int what] : List Value).toArray b9 t9 c9 H locs 0 0 (vx_MQ b9 (hQi (fun r u => r = (X2_numberOfPresent1_r2 ov fi rs sk ot ch g1 lm bw bl hbg what) ∧ u = f) D f sz) (hPx hNo D f sz) ([.ref (A (b + 0)), .int what] : List Value).toArray s9 0 0 (hA f sz)) (F0 m9 104 ls [.int y28]) := by
      intro y28 ey28 H locs ls G hl
      replace ey28 := Eq.symm ey28
      subst ey28
      exact g_iret C0 G hr dX2_numberOfPresent_104 (Nat.le_of_ble_eq_true rfl) (Nat.le_of_ble_eq_true rfl) (by exact ⟨(by rw [X2_numberOfPresent1_r2, if_neg nw14, if_neg nw15, if_neg nw16, if_neg nw17, if_pos w18]), rfl⟩)
    refine lv_if_eq (tgt := 97) hx hb dX2_numberOfPresent_80 (by decide) (fun c27 => ?_) (fun c27 => ?_)
    · refine lv_aload_n hx hb dX2_numberOfPresent_97 rfl (lv_at hl 0 rfl) ?_
      refine g_get C0 G h_ij1 rfl hiX0 5 (by decide) mf_X2_95 rfl dX2_numberOfPresent_98 ?_
      refine g_get C0 G h_oj1 rfl hiX3 4 (by decide) mf_X2_98 rfl dX2_numberOfPresent_101 ?_
      exact J29 bw (by rw [X2_numberOfPresent1_x1, if_pos c27]) _ _ _ G (lv_sub hl [0, 1, 2] rfl)
    · refine lv_aload_n hx hb dX2_numberOfPresent_83 rfl (lv_at hl 0 rfl) ?_
      refine g_get C0 G h_ij1 rfl hiX0 5 (by decide) mf_X2_95 rfl dX2_numberOfPresent_84 ?_
      refine g_get C0 G h_oj1 rfl hiX3 8 (by decide) mf_X2_177 rfl dX2_numberOfPresent_87 ?_
      have J33 : ∀ (y32 : Int32) (_ : y32 = (X2_numberOfPresent1_x0 bw hbg)) (H : Heap) (locs : List Loc) (ls : Array Slot), hG D (hA f sz) f s9 H locs → lv_has ls 3 [(2, .ref (A (b + 15))), (0, .ref (A (b + 0))), (1, .int what)] → W p9 l e9 ({ frames := 3, cells := 0, slots := 0, locals := 67 } : Room) s9 m9 ([.ref (A (b + 0)), .int what] : List Value).toArray b9 t9 c9 H locs 0 0 (vx_MQ b9 (hQi (fun r u => r = (X2_numberOfPresent1_r2 ov fi rs sk ot ch g1 lm bw bl hbg what) ∧ u = f) D f sz) (hPx hNo D f sz) ([.ref (A (b + 0)), .int what] : List Value).toArray s9 0 0 (hA f sz)) (F0 m9 104 ls [.int y32]) := by
        intro y32 ey32 H locs ls G hl
        replace ey32 := Eq.symm ey32
        subst ey32
        exact J29 (X2_numberOfPresent1_x0 bw hbg) (by rw [X2_numberOfPresent1_x1, if_neg c27]) _ _ _ G (lv_sub hl [0, 1, 2] rfl)
      refine lv_if_ne (tgt := 97) hx hb dX2_numberOfPresent_90 (by decide) (fun c31 => ?_) (fun c31 => ?_)
      · refine lv_aload_n hx hb dX2_numberOfPresent_97 rfl (lv_at hl 0 rfl) ?_
        refine g_get C0 G h_ij1 rfl hiX0 5 (by decide) mf_X2_95 rfl dX2_numberOfPresent_98 ?_
        refine g_get C0 G h_oj1 rfl hiX3 4 (by decide) mf_X2_98 rfl dX2_numberOfPresent_101 ?_
        exact J33 bw (by rw [X2_numberOfPresent1_x0, if_neg c31]) _ _ _ G (lv_sub hl [0, 1, 2] rfl)
      · refine lv_iconst (v := (-1)) hx hb dX2_numberOfPresent_93 (by decide) ?_
        refine lv_goto (tgt := 104) hx hb dX2_numberOfPresent_94 (by decide) ?_
        exact J33 (-1) (by rw [X2_numberOfPresent1_x0, if_pos c31]) _ _ _ G (lv_sub hl [0, 1, 2] rfl)
  · refine lv_tableIn (off := 99) (tgt := 105) hx hb dX2_numberOfPresent_6 (by rw [w19]; decide) (by rw [w19]; decide) (by rw [w19]; rfl) (by decide) ?_
    refine lv_aload_n hx hb dX2_numberOfPresent_105 rfl (lv_at hl 0 rfl) ?_
    refine g_get C0 G h_ij1 rfl hiX0 5 (by decide) mf_X2_95 rfl dX2_numberOfPresent_106 ?_
    refine g_get C0 G h_oj1 rfl hiX3 6 (by decide) mf_X2_180 rfl dX2_numberOfPresent_109 ?_
    exact g_iret C0 G hr dX2_numberOfPresent_112 (Nat.le_of_ble_eq_true rfl) (Nat.le_of_ble_eq_true rfl) (by exact ⟨(by rw [X2_numberOfPresent1_r2, if_neg nw14, if_neg nw15, if_neg nw16, if_neg nw17, if_neg nw18, if_pos w19]), rfl⟩)
  · refine lv_tableIn (off := 107) (tgt := 113) hx hb dX2_numberOfPresent_6 (by rw [w20]; decide) (by rw [w20]; decide) (by rw [w20]; rfl) (by decide) ?_
    refine lv_aload_n hx hb dX2_numberOfPresent_113 rfl (lv_at hl 0 rfl) ?_
    refine g_cI C0 G (g_runV C0 G (rest := []) (c_X0_nextBatter hfl h_ij1 h_t1j1 h_a1j1) h_ij1 rfl hY_X0_nextBatter mm_X2_183 mi_X0_nextBatter ml_X0_nextBatter ⟨(Nat.le_of_ble_eq_true rfl), (Nat.le_of_ble_eq_true rfl)⟩ rfl hl.1 rfl (Nat.le_of_ble_eq_true rfl) dX2_numberOfPresent_114 ⟨(Nat.le_of_ble_eq_true rfl), (Nat.le_of_ble_eq_true rfl)⟩) (kx_no rfl) (fun r37 u36 H locs hp35 G => ?_)
    obtain ⟨er38, eu36⟩ := hp35
    rw [eu36] at G
    refine lv_topv (v := (X0_nextBatter_r1 g1 ch)) er38 ?_
    exact g_iret C0 G hr dX2_numberOfPresent_117 (Nat.le_of_ble_eq_true rfl) (Nat.le_of_ble_eq_true rfl) (by exact ⟨(by rw [X2_numberOfPresent1_r2, if_neg nw14, if_neg nw15, if_neg nw16, if_neg nw17, if_neg nw18, if_neg nw19, if_pos w20]), rfl⟩)
  · refine lv_tableIn (off := 112) (tgt := 118) hx hb dX2_numberOfPresent_6 (by rw [w21]; decide) (by rw [w21]; decide) (by rw [w21]; rfl) (by decide) ?_
    refine lv_aload_n hx hb dX2_numberOfPresent_118 rfl (lv_at hl 0 rfl) ?_
    refine g_get C0 G h_ij1 rfl hiX0 5 (by decide) mf_X2_95 rfl dX2_numberOfPresent_119 ?_
    refine g_get C0 G h_oj1 rfl hiX3 1 (by decide) mf_X2_154 rfl dX2_numberOfPresent_122 ?_
    exact g_iret C0 G hr dX2_numberOfPresent_125 (Nat.le_of_ble_eq_true rfl) (Nat.le_of_ble_eq_true rfl) (by exact ⟨(by rw [X2_numberOfPresent1_r2, if_neg nw14, if_neg nw15, if_neg nw16, if_neg nw17, if_neg nw18, if_neg nw19, if_neg nw20, if_pos w21]), rfl⟩)
  · have q39 : what.toInt < 0 ∨ 7 < what.toInt := by
      have tw14 : what.toInt ≠ 0 := fun z => nw14 (Int32.toInt_inj.mp z)
      have tw15 : what.toInt ≠ 1 := fun z => nw15 (Int32.toInt_inj.mp z)
      have tw16 : what.toInt ≠ 2 := fun z => nw16 (Int32.toInt_inj.mp z)
      have tw17 : what.toInt ≠ 3 := fun z => nw17 (Int32.toInt_inj.mp z)
      have tw18 : what.toInt ≠ 4 := fun z => nw18 (Int32.toInt_inj.mp z)
      have tw19 : what.toInt ≠ 5 := fun z => nw19 (Int32.toInt_inj.mp z)
      have tw20 : what.toInt ≠ 6 := fun z => nw20 (Int32.toInt_inj.mp z)
      have tw21 : what.toInt ≠ 7 := fun z => nw21 (Int32.toInt_inj.mp z)
      omega
    refine lv_tableOut (tgt := 126) hx hb dX2_numberOfPresent_6 q39 (by decide) ?_
    refine lv_aload_n hx hb dX2_numberOfPresent_126 rfl (lv_at hl 0 rfl) ?_
    refine g_get C0 G h_ij1 rfl hiX0 6 (by decide) mf_X2_157 rfl dX2_numberOfPresent_127 ?_
    exact g_iret C0 G hr dX2_numberOfPresent_130 (Nat.le_of_ble_eq_true rfl) (Nat.le_of_ble_eq_true rfl) (by exact ⟨(by rw [X2_numberOfPresent1_r2, if_neg nw14, if_neg nw15, if_neg nw16, if_neg nw17, if_neg nw18, if_neg nw19, if_neg nw20, if_neg nw21]), rfl⟩)
def X2_numberOfPresent2_x0 (bw : Int32) (hbg : Int32) : Int32 := if hbg = 0 then (-1) else bw
def X2_numberOfPresent2_x1 (ov : Int32) (bw : Int32) (hbg : Int32) : Int32 := if ov = 0 then bw else (X2_numberOfPresent2_x0 bw hbg)
def X2_numberOfPresent2_r2 (ov : Int32) (fi : Int32) (rs : Int32) (sk : Int32) (ot : Int32) (ch : Int32) (g1 : Nat → Int32) (lm : Int32) (bw : Int32) (bl : Int32) (hbg : Int32) (what : Int32) : Int32 := if what = 0 then 2 else (if what = 1 then (X2_battingTeam_x0 fi 2) else (if what = 2 then sk else (if what = 3 then ot else (if what = 4 then (X2_numberOfPresent2_x1 ov bw hbg) else (if what = 5 then bl else (if what = 6 then (X0_nextBatter_r1 g1 ch) else (if what = 7 then lm else rs)))))))
set_option maxRecDepth 100000 in
theorem c_X2_numberOfPresent2 {l : Launch} (hfl : l.stackTraces = false) {D : va_G} {cy : Nat → ClassId} {f : Hf} {sz : Nat} {A : Nat → Nat} {b : Nat} {ex : Int32} {ov : Int32} {ie : Int32} {fi : Int32} {q : Nat → Option Nat} {rs : Int32} {sk : Int32} {ot : Int32} {ch : Int32} {nc : Int32} {g1 : Nat → Int32} {lm : Int32} {lf : Int32} {oc : Int32} {bw : Int32} {bb : Int32} {bl : Int32} {cd : Int32} {hbg : Int32} {go : Nat → Int32} (what : Int32) (h_mt : f (A (b + 0)) = some (.inr (4, [.ref (A (b + 1)), .int ex, .int ov, .int ie, .int fi, .int 2]))) (h_al : f (A (b + 1)) = some (.inl (cy 3, 4, .inr (.inr (.inr (.inr q)))))) (h_ij2 : f (A (b + 28)) = some (.inr (2, [.ref (A (b + 29)), .ref (A (b + 31)), .ref (A (b + 33)), .ref (A (b + 35)), .ref (A (b + 37)), .ref (A (b + 39)), .int rs, .int sk, .int ot, .int ch, .int nc]))) (h_t1j2 : f (A (b + 31)) = some (.inr (8, [.int 6, .ref (A (b + 32)), .int 11]))) (h_a1j2 : f (A (b + 32)) = some (.inl (cy 0, 66, .inl g1))) (h_oj2 : f (A (b + 39)) = some (.inr (5, [.ref (A (b + 40)), .int lm, .int lf, .int oc, .int bw, .int bb, .int bl, .int cd, .int hbg]))) (h_oaj2 : f (A (b + 40)) = some (.inl (cy 0, 20, .inl go))) (hAj : ∀ i j : Nat, i ≠ j → A i ≠ A j) (hq0 : q 0 = some (A (b + 2))) (hq1 : q 1 = some (A (b + 15))) (hq2 : q 2 = some (A (b + 28))) (hq3 : q 3 = some (A (b + 41))) : hMet l yX2_numberOfPresent cX2_numberOfPresent 3 (some .int) { frames := 3, cells := 0, slots := 0, locals := 67 } D (hTy cy) f sz [.ref (A (b + 0)), .int what] (hQi (fun r u => r = (X2_numberOfPresent2_r2 ov fi rs sk ot ch g1 lm bw bl hbg what) ∧ u = f) D f sz) hNo := by
  refine h_enter (by decide) hfl (Nat.le_of_ble_eq_true rfl) ?_
  intro p9 e9 s9 m9 b9 t9 c9 hsz C0 hr hnm G ls hl
  have hx := C0.1.1
  have hb := C0.1.2.1
  have hl : lv_has ls 3 [(0, .ref (A (b + 0))), (1, .int what)] := hl
  refine lv_aload_n hx hb dX2_numberOfPresent_0 rfl (lv_at hl 0 rfl) ?_
  refine g_cR C0 G (g_runV C0 G (rest := []) (c_X2_present2 hfl (A := A) (b := b) (ex := ex) (ov := ov) (ie := ie) (fi := fi) (q := q) h_mt h_al hAj hq0 hq1 hq2 hq3) h_mt rfl hY_X2_present mm_X2_43 mi_X2_present ml_X2_present ⟨(Nat.le_of_ble_eq_true rfl), (Nat.le_of_ble_eq_true rfl)⟩ rfl hl.1 rfl (Nat.le_of_ble_eq_true rfl) dX2_numberOfPresent_1 ⟨(Nat.le_of_ble_eq_true rfl), (Nat.le_of_ble_eq_true rfl)⟩) (kx_no rfl) (fun a13 u12 H locs hp11 G => ?_)
  obtain ⟨zr, eu12⟩ := hp11
  replace zr := Eq.symm zr
  subst zr
  rw [eu12] at G
  refine lv_astore_n (lv' := [(2, .ref (A (b + 28))), (0, .ref (A (b + 0))), (1, .int what)]) hx hb dX2_numberOfPresent_4 rfl hl (by decide) rfl (fun ls hl => ?_)
  refine lv_iload_n hx hb dX2_numberOfPresent_5 rfl (lv_at hl 2 rfl) ?_
  have sw22 : (what = 0) ∨ (¬ what = 0 ∧ what = 1) ∨ (¬ what = 0 ∧ ¬ what = 1 ∧ what = 2) ∨ (¬ what = 0 ∧ ¬ what = 1 ∧ ¬ what = 2 ∧ what = 3) ∨ (¬ what = 0 ∧ ¬ what = 1 ∧ ¬ what = 2 ∧ ¬ what = 3 ∧ what = 4) ∨ (¬ what = 0 ∧ ¬ what = 1 ∧ ¬ what = 2 ∧ ¬ what = 3 ∧ ¬ what = 4 ∧ what = 5) ∨ (¬ what = 0 ∧ ¬ what = 1 ∧ ¬ what = 2 ∧ ¬ what = 3 ∧ ¬ what = 4 ∧ ¬ what = 5 ∧ what = 6) ∨ (¬ what = 0 ∧ ¬ what = 1 ∧ ¬ what = 2 ∧ ¬ what = 3 ∧ ¬ what = 4 ∧ ¬ what = 5 ∧ ¬ what = 6 ∧ what = 7) ∨ (¬ what = 0 ∧ ¬ what = 1 ∧ ¬ what = 2 ∧ ¬ what = 3 ∧ ¬ what = 4 ∧ ¬ what = 5 ∧ ¬ what = 6 ∧ ¬ what = 7) := by
    by_cases w14 : what = 0
    · exact Or.inl w14
    rename ¬ what = 0 => nw14
    by_cases w15 : what = 1
    · exact Or.inr (Or.inl ⟨nw14, w15⟩)
    rename ¬ what = 1 => nw15
    by_cases w16 : what = 2
    · exact Or.inr (Or.inr (Or.inl ⟨nw14, nw15, w16⟩))
    rename ¬ what = 2 => nw16
    by_cases w17 : what = 3
    · exact Or.inr (Or.inr (Or.inr (Or.inl ⟨nw14, nw15, nw16, w17⟩)))
    rename ¬ what = 3 => nw17
    by_cases w18 : what = 4
    · exact Or.inr (Or.inr (Or.inr (Or.inr (Or.inl ⟨nw14, nw15, nw16, nw17, w18⟩))))
    rename ¬ what = 4 => nw18
    by_cases w19 : what = 5
    · exact Or.inr (Or.inr (Or.inr (Or.inr (Or.inr (Or.inl ⟨nw14, nw15, nw16, nw17, nw18, w19⟩)))))
    rename ¬ what = 5 => nw19
    by_cases w20 : what = 6
    · exact Or.inr (Or.inr (Or.inr (Or.inr (Or.inr (Or.inr (Or.inl ⟨nw14, nw15, nw16, nw17, nw18, nw19, w20⟩))))))
    rename ¬ what = 6 => nw20
    by_cases w21 : what = 7
    · exact Or.inr (Or.inr (Or.inr (Or.inr (Or.inr (Or.inr (Or.inr (Or.inl ⟨nw14, nw15, nw16, nw17, nw18, nw19, nw20, w21⟩)))))))
    rename ¬ what = 7 => nw21
    exact Or.inr (Or.inr (Or.inr (Or.inr (Or.inr (Or.inr (Or.inr (Or.inr (⟨nw14, nw15, nw16, nw17, nw18, nw19, nw20, nw21⟩))))))))
  rcases sw22 with w14 | ⟨nw14, w15⟩ | ⟨nw14, nw15, w16⟩ | ⟨nw14, nw15, nw16, w17⟩ | ⟨nw14, nw15, nw16, nw17, w18⟩ | ⟨nw14, nw15, nw16, nw17, nw18, w19⟩ | ⟨nw14, nw15, nw16, nw17, nw18, nw19, w20⟩ | ⟨nw14, nw15, nw16, nw17, nw18, nw19, nw20, w21⟩ | ⟨nw14, nw15, nw16, nw17, nw18, nw19, nw20, nw21⟩
  · refine lv_tableIn (off := 46) (tgt := 52) hx hb dX2_numberOfPresent_6 (by rw [w14]; decide) (by rw [w14]; decide) (by rw [w14]; rfl) (by decide) ?_
    refine lv_aload_n hx hb dX2_numberOfPresent_52 rfl (lv_at hl 1 rfl) ?_
    refine g_get C0 G h_mt rfl hiX2 5 (by decide) mf_X2_31 rfl dX2_numberOfPresent_53 ?_
    exact g_iret C0 G hr dX2_numberOfPresent_56 (Nat.le_of_ble_eq_true rfl) (Nat.le_of_ble_eq_true rfl) (by exact ⟨(by rw [X2_numberOfPresent2_r2, if_pos w14]), rfl⟩)
  · refine lv_tableIn (off := 51) (tgt := 57) hx hb dX2_numberOfPresent_6 (by rw [w15]; decide) (by rw [w15]; decide) (by rw [w15]; rfl) (by decide) ?_
    refine lv_aload_n hx hb dX2_numberOfPresent_57 rfl (lv_at hl 1 rfl) ?_
    refine lv_aload_n hx hb dX2_numberOfPresent_58 rfl (lv_at hl 1 rfl) ?_
    refine g_get C0 G h_mt rfl hiX2 5 (by decide) mf_X2_31 rfl dX2_numberOfPresent_59 ?_
    refine g_cI C0 G (g_runV C0 G (rest := []) (c_X2_battingTeam hfl (A := A) (b := b) (ex := ex) (ov := ov) (ie := ie) (fi := fi) (nu := 2) (q := q) 2 h_mt h_al hAj hq0 hq1 hq2 hq3) h_mt rfl hY_X2_battingTeam mm_X2_168 mi_X2_battingTeam ml_X2_battingTeam ⟨(Nat.le_of_ble_eq_true rfl), (Nat.le_of_ble_eq_true rfl)⟩ rfl hl.1 rfl (Nat.le_of_ble_eq_true rfl) dX2_numberOfPresent_62 ⟨(Nat.le_of_ble_eq_true rfl), (Nat.le_of_ble_eq_true rfl)⟩) (kx_no rfl) (fun r25 u24 H locs hp23 G => ?_)
    obtain ⟨er26, eu24⟩ := hp23
    rw [eu24] at G
    refine lv_topv (v := (X2_battingTeam_x0 fi 2)) er26 ?_
    exact g_iret C0 G hr dX2_numberOfPresent_65 (Nat.le_of_ble_eq_true rfl) (Nat.le_of_ble_eq_true rfl) (by exact ⟨(by rw [X2_numberOfPresent2_r2, if_neg nw14, if_pos w15]), rfl⟩)
  · refine lv_tableIn (off := 60) (tgt := 66) hx hb dX2_numberOfPresent_6 (by rw [w16]; decide) (by rw [w16]; decide) (by rw [w16]; rfl) (by decide) ?_
    refine lv_aload_n hx hb dX2_numberOfPresent_66 rfl (lv_at hl 0 rfl) ?_
    refine g_get C0 G h_ij2 rfl hiX0 7 (by decide) mf_X2_171 rfl dX2_numberOfPresent_67 ?_
    exact g_iret C0 G hr dX2_numberOfPresent_70 (Nat.le_of_ble_eq_true rfl) (Nat.le_of_ble_eq_true rfl) (by exact ⟨(by rw [X2_numberOfPresent2_r2, if_neg nw14, if_neg nw15, if_pos w16]), rfl⟩)
  · refine lv_tableIn (off := 65) (tgt := 71) hx hb dX2_numberOfPresent_6 (by rw [w17]; decide) (by rw [w17]; decide) (by rw [w17]; rfl) (by decide) ?_
    refine lv_aload_n hx hb dX2_numberOfPresent_71 rfl (lv_at hl 0 rfl) ?_
    refine g_get C0 G h_ij2 rfl hiX0 8 (by decide) mf_X2_174 rfl dX2_numberOfPresent_72 ?_
    exact g_iret C0 G hr dX2_numberOfPresent_75 (Nat.le_of_ble_eq_true rfl) (Nat.le_of_ble_eq_true rfl) (by exact ⟨(by rw [X2_numberOfPresent2_r2, if_neg nw14, if_neg nw15, if_neg nw16, if_pos w17]), rfl⟩)
  · refine lv_tableIn (off := 70) (tgt := 76) hx hb dX2_numberOfPresent_6 (by rw [w18]; decide) (by rw [w18]; decide) (by rw [w18]; rfl) (by decide) ?_
    refine lv_aload_n hx hb dX2_numberOfPresent_76 rfl (lv_at hl 1 rfl) ?_
    refine g_get C0 G h_mt rfl hiX2 2 (by decide) mf_X2_21 rfl dX2_numberOfPresent_77 ?_
    have J29 : ∀ (y28 : Int32) (_ : y28 = (X2_numberOfPresent2_x1 ov bw hbg)) (H : Heap) (locs : List Loc) (ls : Array Slot), hG D (hA f sz) f s9 H locs → lv_has ls 3 [(2, .ref (A (b + 28))), (0, .ref (A (b + 0))), (1, .int what)] → W p9 l e9 ({ frames := 3, cells := 0, slots := 0, locals := 67 } : Room) s9 m9 ([.ref (A (b + 0)), .int what] : List Value).toArray b9 t9 c9 H locs 0 0 (vx_MQ b9 (hQi (fun r u => r = (X2_numberOfPresent2_r2 ov fi rs sk ot ch g1 lm bw bl hbg what) ∧ u = f) D f sz) (hPx hNo D f sz) ([.ref (A (b + 0)), .int what] : List Value).toArray s9 0 0 (hA f sz)) (F0 m9 104 ls [.int y28]) := by
      intro y28 ey28 H locs ls G hl
      replace ey28 := Eq.symm ey28
      subst ey28
      exact g_iret C0 G hr dX2_numberOfPresent_104 (Nat.le_of_ble_eq_true rfl) (Nat.le_of_ble_eq_true rfl) (by exact ⟨(by rw [X2_numberOfPresent2_r2, if_neg nw14, if_neg nw15, if_neg nw16, if_neg nw17, if_pos w18]), rfl⟩)
    refine lv_if_eq (tgt := 97) hx hb dX2_numberOfPresent_80 (by decide) (fun c27 => ?_) (fun c27 => ?_)
    · refine lv_aload_n hx hb dX2_numberOfPresent_97 rfl (lv_at hl 0 rfl) ?_
      refine g_get C0 G h_ij2 rfl hiX0 5 (by decide) mf_X2_95 rfl dX2_numberOfPresent_98 ?_
      refine g_get C0 G h_oj2 rfl hiX3 4 (by decide) mf_X2_98 rfl dX2_numberOfPresent_101 ?_
      exact J29 bw (by rw [X2_numberOfPresent2_x1, if_pos c27]) _ _ _ G (lv_sub hl [0, 1, 2] rfl)
    · refine lv_aload_n hx hb dX2_numberOfPresent_83 rfl (lv_at hl 0 rfl) ?_
      refine g_get C0 G h_ij2 rfl hiX0 5 (by decide) mf_X2_95 rfl dX2_numberOfPresent_84 ?_
      refine g_get C0 G h_oj2 rfl hiX3 8 (by decide) mf_X2_177 rfl dX2_numberOfPresent_87 ?_
      have J33 : ∀ (y32 : Int32) (_ : y32 = (X2_numberOfPresent2_x0 bw hbg)) (H : Heap) (locs : List Loc) (ls : Array Slot), hG D (hA f sz) f s9 H locs → lv_has ls 3 [(2, .ref (A (b + 28))), (0, .ref (A (b + 0))), (1, .int what)] → W p9 l e9 ({ frames := 3, cells := 0, slots := 0, locals := 67 } : Room) s9 m9 ([.ref (A (b + 0)), .int what] : List Value).toArray b9 t9 c9 H locs 0 0 (vx_MQ b9 (hQi (fun r u => r = (X2_numberOfPresent2_r2 ov fi rs sk ot ch g1 lm bw bl hbg what) ∧ u = f) D f sz) (hPx hNo D f sz) ([.ref (A (b + 0)), .int what] : List Value).toArray s9 0 0 (hA f sz)) (F0 m9 104 ls [.int y32]) := by
        intro y32 ey32 H locs ls G hl
        replace ey32 := Eq.symm ey32
        subst ey32
        exact J29 (X2_numberOfPresent2_x0 bw hbg) (by rw [X2_numberOfPresent2_x1, if_neg c27]) _ _ _ G (lv_sub hl [0, 1, 2] rfl)
      refine lv_if_ne (tgt := 97) hx hb dX2_numberOfPresent_90 (by decide) (fun c31 => ?_) (fun c31 => ?_)
      · refine lv_aload_n hx hb dX2_numberOfPresent_97 rfl (lv_at hl 0 rfl) ?_
        refine g_get C0 G h_ij2 rfl hiX0 5 (by decide) mf_X2_95 rfl dX2_numberOfPresent_98 ?_
        refine g_get C0 G h_oj2 rfl hiX3 4 (by decide) mf_X2_98 rfl dX2_numberOfPresent_101 ?_
        exact J33 bw (by rw [X2_numberOfPresent2_x0, if_neg c31]) _ _ _ G (lv_sub hl [0, 1, 2] rfl)
      · refine lv_iconst (v := (-1)) hx hb dX2_numberOfPresent_93 (by decide) ?_
        refine lv_goto (tgt := 104) hx hb dX2_numberOfPresent_94 (by decide) ?_
        exact J33 (-1) (by rw [X2_numberOfPresent2_x0, if_pos c31]) _ _ _ G (lv_sub hl [0, 1, 2] rfl)
  · refine lv_tableIn (off := 99) (tgt := 105) hx hb dX2_numberOfPresent_6 (by rw [w19]; decide) (by rw [w19]; decide) (by rw [w19]; rfl) (by decide) ?_
    refine lv_aload_n hx hb dX2_numberOfPresent_105 rfl (lv_at hl 0 rfl) ?_
    refine g_get C0 G h_ij2 rfl hiX0 5 (by decide) mf_X2_95 rfl dX2_numberOfPresent_106 ?_
    refine g_get C0 G h_oj2 rfl hiX3 6 (by decide) mf_X2_180 rfl dX2_numberOfPresent_109 ?_
    exact g_iret C0 G hr dX2_numberOfPresent_112 (Nat.le_of_ble_eq_true rfl) (Nat.le_of_ble_eq_true rfl) (by exact ⟨(by rw [X2_numberOfPresent2_r2, if_neg nw14, if_neg nw15, if_neg nw16, if_neg nw17, if_neg nw18, if_pos w19]), rfl⟩)
  · refine lv_tableIn (off := 107) (tgt := 113) hx hb dX2_numberOfPresent_6 (by rw [w20]; decide) (by rw [w20]; decide) (by rw [w20]; rfl) (by decide) ?_
    refine lv_aload_n hx hb dX2_numberOfPresent_113 rfl (lv_at hl 0 rfl) ?_
    refine g_cI C0 G (g_runV C0 G (rest := []) (c_X0_nextBatter hfl h_ij2 h_t1j2 h_a1j2) h_ij2 rfl hY_X0_nextBatter mm_X2_183 mi_X0_nextBatter ml_X0_nextBatter ⟨(Nat.le_of_ble_eq_true rfl), (Nat.le_of_ble_eq_true rfl)⟩ rfl hl.1 rfl (Nat.le_of_ble_eq_true rfl) dX2_numberOfPresent_114 ⟨(Nat.le_of_ble_eq_true rfl), (Nat.le_of_ble_eq_true rfl)⟩) (kx_no rfl) (fun r37 u36 H locs hp35 G => ?_)
    obtain ⟨er38, eu36⟩ := hp35
    rw [eu36] at G
    refine lv_topv (v := (X0_nextBatter_r1 g1 ch)) er38 ?_
    exact g_iret C0 G hr dX2_numberOfPresent_117 (Nat.le_of_ble_eq_true rfl) (Nat.le_of_ble_eq_true rfl) (by exact ⟨(by rw [X2_numberOfPresent2_r2, if_neg nw14, if_neg nw15, if_neg nw16, if_neg nw17, if_neg nw18, if_neg nw19, if_pos w20]), rfl⟩)
  · refine lv_tableIn (off := 112) (tgt := 118) hx hb dX2_numberOfPresent_6 (by rw [w21]; decide) (by rw [w21]; decide) (by rw [w21]; rfl) (by decide) ?_
    refine lv_aload_n hx hb dX2_numberOfPresent_118 rfl (lv_at hl 0 rfl) ?_
    refine g_get C0 G h_ij2 rfl hiX0 5 (by decide) mf_X2_95 rfl dX2_numberOfPresent_119 ?_
    refine g_get C0 G h_oj2 rfl hiX3 1 (by decide) mf_X2_154 rfl dX2_numberOfPresent_122 ?_
    exact g_iret C0 G hr dX2_numberOfPresent_125 (Nat.le_of_ble_eq_true rfl) (Nat.le_of_ble_eq_true rfl) (by exact ⟨(by rw [X2_numberOfPresent2_r2, if_neg nw14, if_neg nw15, if_neg nw16, if_neg nw17, if_neg nw18, if_neg nw19, if_neg nw20, if_pos w21]), rfl⟩)
  · have q39 : what.toInt < 0 ∨ 7 < what.toInt := by
      have tw14 : what.toInt ≠ 0 := fun z => nw14 (Int32.toInt_inj.mp z)
      have tw15 : what.toInt ≠ 1 := fun z => nw15 (Int32.toInt_inj.mp z)
      have tw16 : what.toInt ≠ 2 := fun z => nw16 (Int32.toInt_inj.mp z)
      have tw17 : what.toInt ≠ 3 := fun z => nw17 (Int32.toInt_inj.mp z)
      have tw18 : what.toInt ≠ 4 := fun z => nw18 (Int32.toInt_inj.mp z)
      have tw19 : what.toInt ≠ 5 := fun z => nw19 (Int32.toInt_inj.mp z)
      have tw20 : what.toInt ≠ 6 := fun z => nw20 (Int32.toInt_inj.mp z)
      have tw21 : what.toInt ≠ 7 := fun z => nw21 (Int32.toInt_inj.mp z)
      omega
    refine lv_tableOut (tgt := 126) hx hb dX2_numberOfPresent_6 q39 (by decide) ?_
    refine lv_aload_n hx hb dX2_numberOfPresent_126 rfl (lv_at hl 0 rfl) ?_
    refine g_get C0 G h_ij2 rfl hiX0 6 (by decide) mf_X2_157 rfl dX2_numberOfPresent_127 ?_
    exact g_iret C0 G hr dX2_numberOfPresent_130 (Nat.le_of_ble_eq_true rfl) (Nat.le_of_ble_eq_true rfl) (by exact ⟨(by rw [X2_numberOfPresent2_r2, if_neg nw14, if_neg nw15, if_neg nw16, if_neg nw17, if_neg nw18, if_neg nw19, if_neg nw20, if_neg nw21]), rfl⟩)
def X2_numberOfPresent3_x0 (bw : Int32) (hbg : Int32) : Int32 := if hbg = 0 then (-1) else bw
def X2_numberOfPresent3_x1 (ov : Int32) (bw : Int32) (hbg : Int32) : Int32 := if ov = 0 then bw else (X2_numberOfPresent3_x0 bw hbg)
def X2_numberOfPresent3_r2 (ov : Int32) (fi : Int32) (rs : Int32) (sk : Int32) (ot : Int32) (ch : Int32) (g1 : Nat → Int32) (lm : Int32) (bw : Int32) (bl : Int32) (hbg : Int32) (what : Int32) : Int32 := if what = 0 then 3 else (if what = 1 then (X2_battingTeam_x0 fi 3) else (if what = 2 then sk else (if what = 3 then ot else (if what = 4 then (X2_numberOfPresent3_x1 ov bw hbg) else (if what = 5 then bl else (if what = 6 then (X0_nextBatter_r1 g1 ch) else (if what = 7 then lm else rs)))))))
set_option maxRecDepth 100000 in
theorem c_X2_numberOfPresent3 {l : Launch} (hfl : l.stackTraces = false) {D : va_G} {cy : Nat → ClassId} {f : Hf} {sz : Nat} {A : Nat → Nat} {b : Nat} {ex : Int32} {ov : Int32} {ie : Int32} {fi : Int32} {q : Nat → Option Nat} {rs : Int32} {sk : Int32} {ot : Int32} {ch : Int32} {nc : Int32} {g1 : Nat → Int32} {lm : Int32} {lf : Int32} {oc : Int32} {bw : Int32} {bb : Int32} {bl : Int32} {cd : Int32} {hbg : Int32} {go : Nat → Int32} (what : Int32) (h_mt : f (A (b + 0)) = some (.inr (4, [.ref (A (b + 1)), .int ex, .int ov, .int ie, .int fi, .int 3]))) (h_al : f (A (b + 1)) = some (.inl (cy 3, 4, .inr (.inr (.inr (.inr q)))))) (h_ij3 : f (A (b + 41)) = some (.inr (2, [.ref (A (b + 42)), .ref (A (b + 44)), .ref (A (b + 46)), .ref (A (b + 48)), .ref (A (b + 50)), .ref (A (b + 52)), .int rs, .int sk, .int ot, .int ch, .int nc]))) (h_t1j3 : f (A (b + 44)) = some (.inr (8, [.int 6, .ref (A (b + 45)), .int 11]))) (h_a1j3 : f (A (b + 45)) = some (.inl (cy 0, 66, .inl g1))) (h_oj3 : f (A (b + 52)) = some (.inr (5, [.ref (A (b + 53)), .int lm, .int lf, .int oc, .int bw, .int bb, .int bl, .int cd, .int hbg]))) (h_oaj3 : f (A (b + 53)) = some (.inl (cy 0, 20, .inl go))) (hAj : ∀ i j : Nat, i ≠ j → A i ≠ A j) (hq0 : q 0 = some (A (b + 2))) (hq1 : q 1 = some (A (b + 15))) (hq2 : q 2 = some (A (b + 28))) (hq3 : q 3 = some (A (b + 41))) : hMet l yX2_numberOfPresent cX2_numberOfPresent 3 (some .int) { frames := 3, cells := 0, slots := 0, locals := 67 } D (hTy cy) f sz [.ref (A (b + 0)), .int what] (hQi (fun r u => r = (X2_numberOfPresent3_r2 ov fi rs sk ot ch g1 lm bw bl hbg what) ∧ u = f) D f sz) hNo := by
  refine h_enter (by decide) hfl (Nat.le_of_ble_eq_true rfl) ?_
  intro p9 e9 s9 m9 b9 t9 c9 hsz C0 hr hnm G ls hl
  have hx := C0.1.1
  have hb := C0.1.2.1
  have hl : lv_has ls 3 [(0, .ref (A (b + 0))), (1, .int what)] := hl
  refine lv_aload_n hx hb dX2_numberOfPresent_0 rfl (lv_at hl 0 rfl) ?_
  refine g_cR C0 G (g_runV C0 G (rest := []) (c_X2_present3 hfl (A := A) (b := b) (ex := ex) (ov := ov) (ie := ie) (fi := fi) (q := q) h_mt h_al hAj hq0 hq1 hq2 hq3) h_mt rfl hY_X2_present mm_X2_43 mi_X2_present ml_X2_present ⟨(Nat.le_of_ble_eq_true rfl), (Nat.le_of_ble_eq_true rfl)⟩ rfl hl.1 rfl (Nat.le_of_ble_eq_true rfl) dX2_numberOfPresent_1 ⟨(Nat.le_of_ble_eq_true rfl), (Nat.le_of_ble_eq_true rfl)⟩) (kx_no rfl) (fun a13 u12 H locs hp11 G => ?_)
  obtain ⟨zr, eu12⟩ := hp11
  replace zr := Eq.symm zr
  subst zr
  rw [eu12] at G
  refine lv_astore_n (lv' := [(2, .ref (A (b + 41))), (0, .ref (A (b + 0))), (1, .int what)]) hx hb dX2_numberOfPresent_4 rfl hl (by decide) rfl (fun ls hl => ?_)
  refine lv_iload_n hx hb dX2_numberOfPresent_5 rfl (lv_at hl 2 rfl) ?_
  have sw22 : (what = 0) ∨ (¬ what = 0 ∧ what = 1) ∨ (¬ what = 0 ∧ ¬ what = 1 ∧ what = 2) ∨ (¬ what = 0 ∧ ¬ what = 1 ∧ ¬ what = 2 ∧ what = 3) ∨ (¬ what = 0 ∧ ¬ what = 1 ∧ ¬ what = 2 ∧ ¬ what = 3 ∧ what = 4) ∨ (¬ what = 0 ∧ ¬ what = 1 ∧ ¬ what = 2 ∧ ¬ what = 3 ∧ ¬ what = 4 ∧ what = 5) ∨ (¬ what = 0 ∧ ¬ what = 1 ∧ ¬ what = 2 ∧ ¬ what = 3 ∧ ¬ what = 4 ∧ ¬ what = 5 ∧ what = 6) ∨ (¬ what = 0 ∧ ¬ what = 1 ∧ ¬ what = 2 ∧ ¬ what = 3 ∧ ¬ what = 4 ∧ ¬ what = 5 ∧ ¬ what = 6 ∧ what = 7) ∨ (¬ what = 0 ∧ ¬ what = 1 ∧ ¬ what = 2 ∧ ¬ what = 3 ∧ ¬ what = 4 ∧ ¬ what = 5 ∧ ¬ what = 6 ∧ ¬ what = 7) := by
    by_cases w14 : what = 0
    · exact Or.inl w14
    rename ¬ what = 0 => nw14
    by_cases w15 : what = 1
    · exact Or.inr (Or.inl ⟨nw14, w15⟩)
    rename ¬ what = 1 => nw15
    by_cases w16 : what = 2
    · exact Or.inr (Or.inr (Or.inl ⟨nw14, nw15, w16⟩))
    rename ¬ what = 2 => nw16
    by_cases w17 : what = 3
    · exact Or.inr (Or.inr (Or.inr (Or.inl ⟨nw14, nw15, nw16, w17⟩)))
    rename ¬ what = 3 => nw17
    by_cases w18 : what = 4
    · exact Or.inr (Or.inr (Or.inr (Or.inr (Or.inl ⟨nw14, nw15, nw16, nw17, w18⟩))))
    rename ¬ what = 4 => nw18
    by_cases w19 : what = 5
    · exact Or.inr (Or.inr (Or.inr (Or.inr (Or.inr (Or.inl ⟨nw14, nw15, nw16, nw17, nw18, w19⟩)))))
    rename ¬ what = 5 => nw19
    by_cases w20 : what = 6
    · exact Or.inr (Or.inr (Or.inr (Or.inr (Or.inr (Or.inr (Or.inl ⟨nw14, nw15, nw16, nw17, nw18, nw19, w20⟩))))))
    rename ¬ what = 6 => nw20
    by_cases w21 : what = 7
    · exact Or.inr (Or.inr (Or.inr (Or.inr (Or.inr (Or.inr (Or.inr (Or.inl ⟨nw14, nw15, nw16, nw17, nw18, nw19, nw20, w21⟩)))))))
    rename ¬ what = 7 => nw21
    exact Or.inr (Or.inr (Or.inr (Or.inr (Or.inr (Or.inr (Or.inr (Or.inr (⟨nw14, nw15, nw16, nw17, nw18, nw19, nw20, nw21⟩))))))))
  rcases sw22 with w14 | ⟨nw14, w15⟩ | ⟨nw14, nw15, w16⟩ | ⟨nw14, nw15, nw16, w17⟩ | ⟨nw14, nw15, nw16, nw17, w18⟩ | ⟨nw14, nw15, nw16, nw17, nw18, w19⟩ | ⟨nw14, nw15, nw16, nw17, nw18, nw19, w20⟩ | ⟨nw14, nw15, nw16, nw17, nw18, nw19, nw20, w21⟩ | ⟨nw14, nw15, nw16, nw17, nw18, nw19, nw20, nw21⟩
  · refine lv_tableIn (off := 46) (tgt := 52) hx hb dX2_numberOfPresent_6 (by rw [w14]; decide) (by rw [w14]; decide) (by rw [w14]; rfl) (by decide) ?_
    refine lv_aload_n hx hb dX2_numberOfPresent_52 rfl (lv_at hl 1 rfl) ?_
    refine g_get C0 G h_mt rfl hiX2 5 (by decide) mf_X2_31 rfl dX2_numberOfPresent_53 ?_
    exact g_iret C0 G hr dX2_numberOfPresent_56 (Nat.le_of_ble_eq_true rfl) (Nat.le_of_ble_eq_true rfl) (by exact ⟨(by rw [X2_numberOfPresent3_r2, if_pos w14]), rfl⟩)
  · refine lv_tableIn (off := 51) (tgt := 57) hx hb dX2_numberOfPresent_6 (by rw [w15]; decide) (by rw [w15]; decide) (by rw [w15]; rfl) (by decide) ?_
    refine lv_aload_n hx hb dX2_numberOfPresent_57 rfl (lv_at hl 1 rfl) ?_
    refine lv_aload_n hx hb dX2_numberOfPresent_58 rfl (lv_at hl 1 rfl) ?_
    refine g_get C0 G h_mt rfl hiX2 5 (by decide) mf_X2_31 rfl dX2_numberOfPresent_59 ?_
    refine g_cI C0 G (g_runV C0 G (rest := []) (c_X2_battingTeam hfl (A := A) (b := b) (ex := ex) (ov := ov) (ie := ie) (fi := fi) (nu := 3) (q := q) 3 h_mt h_al hAj hq0 hq1 hq2 hq3) h_mt rfl hY_X2_battingTeam mm_X2_168 mi_X2_battingTeam ml_X2_battingTeam ⟨(Nat.le_of_ble_eq_true rfl), (Nat.le_of_ble_eq_true rfl)⟩ rfl hl.1 rfl (Nat.le_of_ble_eq_true rfl) dX2_numberOfPresent_62 ⟨(Nat.le_of_ble_eq_true rfl), (Nat.le_of_ble_eq_true rfl)⟩) (kx_no rfl) (fun r25 u24 H locs hp23 G => ?_)
    obtain ⟨er26, eu24⟩ := hp23
    rw [eu24] at G
    refine lv_topv (v := (X2_battingTeam_x0 fi 3)) er26 ?_
    exact g_iret C0 G hr dX2_numberOfPresent_65 (Nat.le_of_ble_eq_true rfl) (Nat.le_of_ble_eq_true rfl) (by exact ⟨(by rw [X2_numberOfPresent3_r2, if_neg nw14, if_pos w15]), rfl⟩)
  · refine lv_tableIn (off := 60) (tgt := 66) hx hb dX2_numberOfPresent_6 (by rw [w16]; decide) (by rw [w16]; decide) (by rw [w16]; rfl) (by decide) ?_
    refine lv_aload_n hx hb dX2_numberOfPresent_66 rfl (lv_at hl 0 rfl) ?_
    refine g_get C0 G h_ij3 rfl hiX0 7 (by decide) mf_X2_171 rfl dX2_numberOfPresent_67 ?_
    exact g_iret C0 G hr dX2_numberOfPresent_70 (Nat.le_of_ble_eq_true rfl) (Nat.le_of_ble_eq_true rfl) (by exact ⟨(by rw [X2_numberOfPresent3_r2, if_neg nw14, if_neg nw15, if_pos w16]), rfl⟩)
  · refine lv_tableIn (off := 65) (tgt := 71) hx hb dX2_numberOfPresent_6 (by rw [w17]; decide) (by rw [w17]; decide) (by rw [w17]; rfl) (by decide) ?_
    refine lv_aload_n hx hb dX2_numberOfPresent_71 rfl (lv_at hl 0 rfl) ?_
    refine g_get C0 G h_ij3 rfl hiX0 8 (by decide) mf_X2_174 rfl dX2_numberOfPresent_72 ?_
    exact g_iret C0 G hr dX2_numberOfPresent_75 (Nat.le_of_ble_eq_true rfl) (Nat.le_of_ble_eq_true rfl) (by exact ⟨(by rw [X2_numberOfPresent3_r2, if_neg nw14, if_neg nw15, if_neg nw16, if_pos w17]), rfl⟩)
  · refine lv_tableIn (off := 70) (tgt := 76) hx hb dX2_numberOfPresent_6 (by rw [w18]; decide) (by rw [w18]; decide) (by rw [w18]; rfl) (by decide) ?_
    refine lv_aload_n hx hb dX2_numberOfPresent_76 rfl (lv_at hl 1 rfl) ?_
    refine g_get C0 G h_mt rfl hiX2 2 (by decide) mf_X2_21 rfl dX2_numberOfPresent_77 ?_
    have J29 : ∀ (y28 : Int32) (_ : y28 = (X2_numberOfPresent3_x1 ov bw hbg)) (H : Heap) (locs : List Loc) (ls : Array Slot), hG D (hA f sz) f s9 H locs → lv_has ls 3 [(2, .ref (A (b + 41))), (0, .ref (A (b + 0))), (1, .int what)] → W p9 l e9 ({ frames := 3, cells := 0, slots := 0, locals := 67 } : Room) s9 m9 ([.ref (A (b + 0)), .int what] : List Value).toArray b9 t9 c9 H locs 0 0 (vx_MQ b9 (hQi (fun r u => r = (X2_numberOfPresent3_r2 ov fi rs sk ot ch g1 lm bw bl hbg what) ∧ u = f) D f sz) (hPx hNo D f sz) ([.ref (A (b + 0)), .int what] : List Value).toArray s9 0 0 (hA f sz)) (F0 m9 104 ls [.int y28]) := by
      intro y28 ey28 H locs ls G hl
      replace ey28 := Eq.symm ey28
      subst ey28
      exact g_iret C0 G hr dX2_numberOfPresent_104 (Nat.le_of_ble_eq_true rfl) (Nat.le_of_ble_eq_true rfl) (by exact ⟨(by rw [X2_numberOfPresent3_r2, if_neg nw14, if_neg nw15, if_neg nw16, if_neg nw17, if_pos w18]), rfl⟩)
    refine lv_if_eq (tgt := 97) hx hb dX2_numberOfPresent_80 (by decide) (fun c27 => ?_) (fun c27 => ?_)
    · refine lv_aload_n hx hb dX2_numberOfPresent_97 rfl (lv_at hl 0 rfl) ?_
      refine g_get C0 G h_ij3 rfl hiX0 5 (by decide) mf_X2_95 rfl dX2_numberOfPresent_98 ?_
      refine g_get C0 G h_oj3 rfl hiX3 4 (by decide) mf_X2_98 rfl dX2_numberOfPresent_101 ?_
      exact J29 bw (by rw [X2_numberOfPresent3_x1, if_pos c27]) _ _ _ G (lv_sub hl [0, 1, 2] rfl)
    · refine lv_aload_n hx hb dX2_numberOfPresent_83 rfl (lv_at hl 0 rfl) ?_
      refine g_get C0 G h_ij3 rfl hiX0 5 (by decide) mf_X2_95 rfl dX2_numberOfPresent_84 ?_
      refine g_get C0 G h_oj3 rfl hiX3 8 (by decide) mf_X2_177 rfl dX2_numberOfPresent_87 ?_
      have J33 : ∀ (y32 : Int32) (_ : y32 = (X2_numberOfPresent3_x0 bw hbg)) (H : Heap) (locs : List Loc) (ls : Array Slot), hG D (hA f sz) f s9 H locs → lv_has ls 3 [(2, .ref (A (b + 41))), (0, .ref (A (b + 0))), (1, .int what)] → W p9 l e9 ({ frames := 3, cells := 0, slots := 0, locals := 67 } : Room) s9 m9 ([.ref (A (b + 0)), .int what] : List Value).toArray b9 t9 c9 H locs 0 0 (vx_MQ b9 (hQi (fun r u => r = (X2_numberOfPresent3_r2 ov fi rs sk ot ch g1 lm bw bl hbg what) ∧ u = f) D f sz) (hPx hNo D f sz) ([.ref (A (b + 0)), .int what] : List Value).toArray s9 0 0 (hA f sz)) (F0 m9 104 ls [.int y32]) := by
        intro y32 ey32 H locs ls G hl
        replace ey32 := Eq.symm ey32
        subst ey32
        exact J29 (X2_numberOfPresent3_x0 bw hbg) (by rw [X2_numberOfPresent3_x1, if_neg c27]) _ _ _ G (lv_sub hl [0, 1, 2] rfl)
      refine lv_if_ne (tgt := 97) hx hb dX2_numberOfPresent_90 (by decide) (fun c31 => ?_) (fun c31 => ?_)
      · refine lv_aload_n hx hb dX2_numberOfPresent_97 rfl (lv_at hl 0 rfl) ?_
        refine g_get C0 G h_ij3 rfl hiX0 5 (by decide) mf_X2_95 rfl dX2_numberOfPresent_98 ?_
        refine g_get C0 G h_oj3 rfl hiX3 4 (by decide) mf_X2_98 rfl dX2_numberOfPresent_101 ?_
        exact J33 bw (by rw [X2_numberOfPresent3_x0, if_neg c31]) _ _ _ G (lv_sub hl [0, 1, 2] rfl)
      · refine lv_iconst (v := (-1)) hx hb dX2_numberOfPresent_93 (by decide) ?_
        refine lv_goto (tgt := 104) hx hb dX2_numberOfPresent_94 (by decide) ?_
        exact J33 (-1) (by rw [X2_numberOfPresent3_x0, if_pos c31]) _ _ _ G (lv_sub hl [0, 1, 2] rfl)
  · refine lv_tableIn (off := 99) (tgt := 105) hx hb dX2_numberOfPresent_6 (by rw [w19]; decide) (by rw [w19]; decide) (by rw [w19]; rfl) (by decide) ?_
    refine lv_aload_n hx hb dX2_numberOfPresent_105 rfl (lv_at hl 0 rfl) ?_
    refine g_get C0 G h_ij3 rfl hiX0 5 (by decide) mf_X2_95 rfl dX2_numberOfPresent_106 ?_
    refine g_get C0 G h_oj3 rfl hiX3 6 (by decide) mf_X2_180 rfl dX2_numberOfPresent_109 ?_
    exact g_iret C0 G hr dX2_numberOfPresent_112 (Nat.le_of_ble_eq_true rfl) (Nat.le_of_ble_eq_true rfl) (by exact ⟨(by rw [X2_numberOfPresent3_r2, if_neg nw14, if_neg nw15, if_neg nw16, if_neg nw17, if_neg nw18, if_pos w19]), rfl⟩)
  · refine lv_tableIn (off := 107) (tgt := 113) hx hb dX2_numberOfPresent_6 (by rw [w20]; decide) (by rw [w20]; decide) (by rw [w20]; rfl) (by decide) ?_
    refine lv_aload_n hx hb dX2_numberOfPresent_113 rfl (lv_at hl 0 rfl) ?_
    refine g_cI C0 G (g_runV C0 G (rest := []) (c_X0_nextBatter hfl h_ij3 h_t1j3 h_a1j3) h_ij3 rfl hY_X0_nextBatter mm_X2_183 mi_X0_nextBatter ml_X0_nextBatter ⟨(Nat.le_of_ble_eq_true rfl), (Nat.le_of_ble_eq_true rfl)⟩ rfl hl.1 rfl (Nat.le_of_ble_eq_true rfl) dX2_numberOfPresent_114 ⟨(Nat.le_of_ble_eq_true rfl), (Nat.le_of_ble_eq_true rfl)⟩) (kx_no rfl) (fun r37 u36 H locs hp35 G => ?_)
    obtain ⟨er38, eu36⟩ := hp35
    rw [eu36] at G
    refine lv_topv (v := (X0_nextBatter_r1 g1 ch)) er38 ?_
    exact g_iret C0 G hr dX2_numberOfPresent_117 (Nat.le_of_ble_eq_true rfl) (Nat.le_of_ble_eq_true rfl) (by exact ⟨(by rw [X2_numberOfPresent3_r2, if_neg nw14, if_neg nw15, if_neg nw16, if_neg nw17, if_neg nw18, if_neg nw19, if_pos w20]), rfl⟩)
  · refine lv_tableIn (off := 112) (tgt := 118) hx hb dX2_numberOfPresent_6 (by rw [w21]; decide) (by rw [w21]; decide) (by rw [w21]; rfl) (by decide) ?_
    refine lv_aload_n hx hb dX2_numberOfPresent_118 rfl (lv_at hl 0 rfl) ?_
    refine g_get C0 G h_ij3 rfl hiX0 5 (by decide) mf_X2_95 rfl dX2_numberOfPresent_119 ?_
    refine g_get C0 G h_oj3 rfl hiX3 1 (by decide) mf_X2_154 rfl dX2_numberOfPresent_122 ?_
    exact g_iret C0 G hr dX2_numberOfPresent_125 (Nat.le_of_ble_eq_true rfl) (Nat.le_of_ble_eq_true rfl) (by exact ⟨(by rw [X2_numberOfPresent3_r2, if_neg nw14, if_neg nw15, if_neg nw16, if_neg nw17, if_neg nw18, if_neg nw19, if_neg nw20, if_pos w21]), rfl⟩)
  · have q39 : what.toInt < 0 ∨ 7 < what.toInt := by
      have tw14 : what.toInt ≠ 0 := fun z => nw14 (Int32.toInt_inj.mp z)
      have tw15 : what.toInt ≠ 1 := fun z => nw15 (Int32.toInt_inj.mp z)
      have tw16 : what.toInt ≠ 2 := fun z => nw16 (Int32.toInt_inj.mp z)
      have tw17 : what.toInt ≠ 3 := fun z => nw17 (Int32.toInt_inj.mp z)
      have tw18 : what.toInt ≠ 4 := fun z => nw18 (Int32.toInt_inj.mp z)
      have tw19 : what.toInt ≠ 5 := fun z => nw19 (Int32.toInt_inj.mp z)
      have tw20 : what.toInt ≠ 6 := fun z => nw20 (Int32.toInt_inj.mp z)
      have tw21 : what.toInt ≠ 7 := fun z => nw21 (Int32.toInt_inj.mp z)
      omega
    refine lv_tableOut (tgt := 126) hx hb dX2_numberOfPresent_6 q39 (by decide) ?_
    refine lv_aload_n hx hb dX2_numberOfPresent_126 rfl (lv_at hl 0 rfl) ?_
    refine g_get C0 G h_ij3 rfl hiX0 6 (by decide) mf_X2_157 rfl dX2_numberOfPresent_127 ?_
    exact g_iret C0 G hr dX2_numberOfPresent_130 (Nat.le_of_ble_eq_true rfl) (Nat.le_of_ble_eq_true rfl) (by exact ⟨(by rw [X2_numberOfPresent3_r2, if_neg nw14, if_neg nw15, if_neg nw16, if_neg nw17, if_neg nw18, if_neg nw19, if_neg nw20, if_neg nw21]), rfl⟩)
def X2_outcome01_r0 (ex : Int32) (ov : Int32) (fi : Int32) : Int32 := if ex = 0 then 0 else (if ov = 0 then 0 else (1 + (X2_battingTeam_x0 fi 1)))
set_option maxRecDepth 100000 in
theorem c_X2_outcome01 {l : Launch} (hfl : l.stackTraces = false) {D : va_G} {cy : Nat → ClassId} {f : Hf} {sz : Nat} {A : Nat → Nat} {b : Nat} {ex : Int32} {ov : Int32} {fi : Int32} {q : Nat → Option Nat} {rs : Int32} {sk : Int32} {ot : Int32} {ch : Int32} {nc : Int32} {g0 : Nat → Int32} (h_mt : f (A (b + 0)) = some (.inr (4, [.ref (A (b + 1)), .int ex, .int ov, .int 1, .int fi, .int 0]))) (h_al : f (A (b + 1)) = some (.inl (cy 3, 4, .inr (.inr (.inr (.inr q)))))) (h_ij0 : f (A (b + 2)) = some (.inr (2, [.ref (A (b + 3)), .ref (A (b + 5)), .ref (A (b + 7)), .ref (A (b + 9)), .ref (A (b + 11)), .ref (A (b + 13)), .int rs, .int sk, .int ot, .int ch, .int nc]))) (h_t0j0 : f (A (b + 3)) = some (.inr (8, [.int 8, .ref (A (b + 4)), .int 1]))) (h_a0j0 : f (A (b + 4)) = some (.inl (cy 0, 8, .inl g0))) (hAj : ∀ i j : Nat, i ≠ j → A i ≠ A j) (hq0 : q 0 = some (A (b + 2))) (hq1 : q 1 = some (A (b + 15))) (hq2 : q 2 = some (A (b + 28))) (hq3 : q 3 = some (A (b + 41))) : hMet l yX2_outcome cX2_outcome 2 (some .int) { frames := 2, cells := 0, slots := 0, locals := 40 } D (hTy cy) f sz [.ref (A (b + 0))] (hQi (fun r u => r = (X2_outcome01_r0 ex ov fi) ∧ u = f) D f sz) hNo := by
  refine h_enter (by decide) hfl (Nat.le_of_ble_eq_true rfl) ?_
  intro p9 e9 s9 m9 b9 t9 c9 hsz C0 hr hnm G ls hl
  have hx := C0.1.1
  have hb := C0.1.2.1
  have hl : lv_has ls 2 [(0, .ref (A (b + 0)))] := hl
  refine lv_aload_n hx hb dX2_outcome_0 rfl (lv_at hl 0 rfl) ?_
  refine g_get C0 G h_mt rfl hiX2 1 (by decide) mf_X2_17 rfl dX2_outcome_1 ?_
  refine lv_if_eq (tgt := 14) hx hb dX2_outcome_4 (by decide) (fun c11 => ?_) (fun c11 => ?_)
  · refine lv_iconst (v := 0) hx hb dX2_outcome_14 (by decide) ?_
    exact g_iret C0 G hr dX2_outcome_15 (Nat.le_of_ble_eq_true rfl) (Nat.le_of_ble_eq_true rfl) (by exact ⟨(by rw [X2_outcome01_r0, if_pos c11]), rfl⟩)
  · refine lv_aload_n hx hb dX2_outcome_7 rfl (lv_at hl 0 rfl) ?_
    refine g_get C0 G h_mt rfl hiX2 2 (by decide) mf_X2_21 rfl dX2_outcome_8 ?_
    refine lv_if_ne (tgt := 16) hx hb dX2_outcome_11 (by decide) (fun c12 => ?_) (fun c12 => ?_)
    · refine lv_aload_n hx hb dX2_outcome_16 rfl (lv_at hl 0 rfl) ?_
      refine lv_aload_n hx hb dX2_outcome_17 rfl (lv_at hl 0 rfl) ?_
      refine g_cI C0 G (g_runV C0 G (rest := [.ref (A (b + 0))]) (c_X2_lastNumber hfl (A := A) (b := b) (ex := ex) (ov := ov) (ie := 1) (fi := fi) (nu := 0) (q := q) h_mt h_al hAj hq0 hq1 hq2 hq3) h_mt rfl hY_X2_lastNumber mm_X2_81 mi_X2_lastNumber ml_X2_lastNumber ⟨(Nat.le_of_ble_eq_true rfl), (Nat.le_of_ble_eq_true rfl)⟩ rfl hl.1 rfl (Nat.le_of_ble_eq_true rfl) dX2_outcome_18 ⟨(Nat.le_of_ble_eq_true rfl), (Nat.le_of_ble_eq_true rfl)⟩) (kx_no rfl) (fun r15 u14 H locs hp13 G => ?_)
      obtain ⟨er16, eu14⟩ := hp13
      rw [eu14] at G
      refine lv_topv (v := (X2_lastNumber_r0 1)) er16 ?_
      refine lv_topv (v := 1) (by decide) ?_
      refine g_cI C0 G (g_runV C0 G (rest := []) (c_X2_battingTeam hfl (A := A) (b := b) (ex := ex) (ov := ov) (ie := 1) (fi := fi) (nu := 0) (q := q) 1 h_mt h_al hAj hq0 hq1 hq2 hq3) h_mt rfl hY_X2_battingTeam mm_X2_168 mi_X2_battingTeam ml_X2_battingTeam ⟨(Nat.le_of_ble_eq_true rfl), (Nat.le_of_ble_eq_true rfl)⟩ rfl hl.1 rfl (Nat.le_of_ble_eq_true rfl) dX2_outcome_21 ⟨(Nat.le_of_ble_eq_true rfl), (Nat.le_of_ble_eq_true rfl)⟩) (kx_no rfl) (fun r19 u18 H locs hp17 G => ?_)
      obtain ⟨er20, eu18⟩ := hp17
      rw [eu18] at G
      refine lv_topv (v := (X2_battingTeam_x0 fi 1)) er20 ?_
      refine lv_istore_n (lv' := [(1, .int (X2_battingTeam_x0 fi 1)), (0, .ref (A (b + 0)))]) hx hb dX2_outcome_24 rfl hl (by decide) rfl (fun ls hl => ?_)
      refine lv_aload_n hx hb dX2_outcome_25 rfl (lv_at hl 1 rfl) ?_
      refine g_cI C0 G (g_runV C0 G (rest := []) (c_X2_isLastPlayed hfl (A := A) (b := b) (ex := ex) (ov := ov) (ie := 1) (fi := fi) (nu := 0) (q := q) h_mt h_al hAj hq0 hq1 hq2 hq3) h_mt rfl hY_X2_isLastPlayed mm_X2_145 mi_X2_isLastPlayed ml_X2_isLastPlayed ⟨(Nat.le_of_ble_eq_true rfl), (Nat.le_of_ble_eq_true rfl)⟩ rfl hl.1 rfl (Nat.le_of_ble_eq_true rfl) dX2_outcome_26 ⟨(Nat.le_of_ble_eq_true rfl), (Nat.le_of_ble_eq_true rfl)⟩) (kx_no rfl) (fun r23 u22 H locs hp21 G => ?_)
      obtain ⟨er24, eu22⟩ := hp21
      rw [eu22] at G
      refine lv_topv (v := (X2_isLastPlayed_x0 1 0)) er24 ?_
      refine lv_topv (v := 0) (by decide) ?_
      refine lv_if_eq (tgt := 47) hx hb dX2_outcome_29 (by decide) (fun _ => ?_) (fun c25 => absurd (by decide) c25)
      refine lv_iconst (v := 1) hx hb dX2_outcome_47 (by decide) ?_
      refine lv_iload_n hx hb dX2_outcome_48 rfl (lv_at hl 0 rfl) ?_
      refine lv_iadd hx hb dX2_outcome_49 ?_
      exact g_iret C0 G hr dX2_outcome_50 (Nat.le_of_ble_eq_true rfl) (Nat.le_of_ble_eq_true rfl) (by exact ⟨(by rw [X2_outcome01_r0, if_neg c11, if_neg c12]), rfl⟩)
    · refine lv_iconst (v := 0) hx hb dX2_outcome_14 (by decide) ?_
      exact g_iret C0 G hr dX2_outcome_15 (Nat.le_of_ble_eq_true rfl) (Nat.le_of_ble_eq_true rfl) (by exact ⟨(by rw [X2_outcome01_r0, if_neg c11, if_pos c12]), rfl⟩)
def X2_outcome11_x0 (fi : Int32) (rs : Int32) (g0 : Nat → Int32) (rs_a : Int32) (g0_a : Nat → Int32) : Int32 := if (tget 8 1 8 g0 0 0) = ((X2_target1_x0 rs_a g0_a rs) - 1) then 3 else (2 - (X2_battingTeam_x0 fi 1))
def X2_outcome11_r1 (ex : Int32) (ov : Int32) (fi : Int32) (rs : Int32) (g0 : Nat → Int32) (rs_a : Int32) (g0_a : Nat → Int32) : Int32 := if ex = 0 then 0 else (if ov = 0 then 0 else (if (tget 8 1 8 g0 0 0) < (X2_target1_x0 rs_a g0_a rs) then (X2_outcome11_x0 fi rs g0 rs_a g0_a) else (1 + (X2_battingTeam_x0 fi 1))))
set_option maxRecDepth 100000 in
theorem c_X2_outcome11 {l : Launch} (hfl : l.stackTraces = false) {D : va_G} {cy : Nat → ClassId} {f : Hf} {sz : Nat} {A : Nat → Nat} {b : Nat} {ex : Int32} {ov : Int32} {fi : Int32} {q : Nat → Option Nat} {rs : Int32} {sk : Int32} {ot : Int32} {ch : Int32} {nc : Int32} {g0 : Nat → Int32} {rs_a : Int32} {sk_a : Int32} {ot_a : Int32} {ch_a : Int32} {nc_a : Int32} {g0_a : Nat → Int32} (h_mt : f (A (b + 0)) = some (.inr (4, [.ref (A (b + 1)), .int ex, .int ov, .int 1, .int fi, .int 1]))) (h_al : f (A (b + 1)) = some (.inl (cy 3, 4, .inr (.inr (.inr (.inr q)))))) (h_ij1 : f (A (b + 15)) = some (.inr (2, [.ref (A (b + 16)), .ref (A (b + 18)), .ref (A (b + 20)), .ref (A (b + 22)), .ref (A (b + 24)), .ref (A (b + 26)), .int rs, .int sk, .int ot, .int ch, .int nc]))) (h_t0j1 : f (A (b + 16)) = some (.inr (8, [.int 8, .ref (A (b + 17)), .int 1]))) (h_a0j1 : f (A (b + 17)) = some (.inl (cy 0, 8, .inl g0))) (h_ij0 : f (A (b + 2)) = some (.inr (2, [.ref (A (b + 3)), .ref (A (b + 5)), .ref (A (b + 7)), .ref (A (b + 9)), .ref (A (b + 11)), .ref (A (b + 13)), .int rs_a, .int sk_a, .int ot_a, .int ch_a, .int nc_a]))) (h_t0j0 : f (A (b + 3)) = some (.inr (8, [.int 8, .ref (A (b + 4)), .int 1]))) (h_a0j0 : f (A (b + 4)) = some (.inl (cy 0, 8, .inl g0_a))) (hAj : ∀ i j : Nat, i ≠ j → A i ≠ A j) (hq0 : q 0 = some (A (b + 2))) (hq1 : q 1 = some (A (b + 15))) (hq2 : q 2 = some (A (b + 28))) (hq3 : q 3 = some (A (b + 41))) : hMet l yX2_outcome cX2_outcome 2 (some .int) { frames := 3, cells := 0, slots := 0, locals := 66 } D (hTy cy) f sz [.ref (A (b + 0))] (hQi (fun r u => r = (X2_outcome11_r1 ex ov fi rs g0 rs_a g0_a) ∧ u = f) D f sz) hNo := by
  refine h_enter (by decide) hfl (Nat.le_of_ble_eq_true rfl) ?_
  intro p9 e9 s9 m9 b9 t9 c9 hsz C0 hr hnm G ls hl
  have hx := C0.1.1
  have hb := C0.1.2.1
  have hl : lv_has ls 2 [(0, .ref (A (b + 0)))] := hl
  refine lv_aload_n hx hb dX2_outcome_0 rfl (lv_at hl 0 rfl) ?_
  refine g_get C0 G h_mt rfl hiX2 1 (by decide) mf_X2_17 rfl dX2_outcome_1 ?_
  refine lv_if_eq (tgt := 14) hx hb dX2_outcome_4 (by decide) (fun c11 => ?_) (fun c11 => ?_)
  · refine lv_iconst (v := 0) hx hb dX2_outcome_14 (by decide) ?_
    exact g_iret C0 G hr dX2_outcome_15 (Nat.le_of_ble_eq_true rfl) (Nat.le_of_ble_eq_true rfl) (by exact ⟨(by rw [X2_outcome11_r1, if_pos c11]), rfl⟩)
  · refine lv_aload_n hx hb dX2_outcome_7 rfl (lv_at hl 0 rfl) ?_
    refine g_get C0 G h_mt rfl hiX2 2 (by decide) mf_X2_21 rfl dX2_outcome_8 ?_
    refine lv_if_ne (tgt := 16) hx hb dX2_outcome_11 (by decide) (fun c12 => ?_) (fun c12 => ?_)
    · refine lv_aload_n hx hb dX2_outcome_16 rfl (lv_at hl 0 rfl) ?_
      refine lv_aload_n hx hb dX2_outcome_17 rfl (lv_at hl 0 rfl) ?_
      refine g_cI C0 G (g_runV C0 G (rest := [.ref (A (b + 0))]) (c_X2_lastNumber hfl (A := A) (b := b) (ex := ex) (ov := ov) (ie := 1) (fi := fi) (nu := 1) (q := q) h_mt h_al hAj hq0 hq1 hq2 hq3) h_mt rfl hY_X2_lastNumber mm_X2_81 mi_X2_lastNumber ml_X2_lastNumber ⟨(Nat.le_of_ble_eq_true rfl), (Nat.le_of_ble_eq_true rfl)⟩ rfl hl.1 rfl (Nat.le_of_ble_eq_true rfl) dX2_outcome_18 ⟨(Nat.le_of_ble_eq_true rfl), (Nat.le_of_ble_eq_true rfl)⟩) (kx_no rfl) (fun r15 u14 H locs hp13 G => ?_)
      obtain ⟨er16, eu14⟩ := hp13
      rw [eu14] at G
      refine lv_topv (v := (X2_lastNumber_r0 1)) er16 ?_
      refine lv_topv (v := 1) (by decide) ?_
      refine g_cI C0 G (g_runV C0 G (rest := []) (c_X2_battingTeam hfl (A := A) (b := b) (ex := ex) (ov := ov) (ie := 1) (fi := fi) (nu := 1) (q := q) 1 h_mt h_al hAj hq0 hq1 hq2 hq3) h_mt rfl hY_X2_battingTeam mm_X2_168 mi_X2_battingTeam ml_X2_battingTeam ⟨(Nat.le_of_ble_eq_true rfl), (Nat.le_of_ble_eq_true rfl)⟩ rfl hl.1 rfl (Nat.le_of_ble_eq_true rfl) dX2_outcome_21 ⟨(Nat.le_of_ble_eq_true rfl), (Nat.le_of_ble_eq_true rfl)⟩) (kx_no rfl) (fun r19 u18 H locs hp17 G => ?_)
      obtain ⟨er20, eu18⟩ := hp17
      rw [eu18] at G
      refine lv_topv (v := (X2_battingTeam_x0 fi 1)) er20 ?_
      refine lv_istore_n (lv' := [(1, .int (X2_battingTeam_x0 fi 1)), (0, .ref (A (b + 0)))]) hx hb dX2_outcome_24 rfl hl (by decide) rfl (fun ls hl => ?_)
      refine lv_aload_n hx hb dX2_outcome_25 rfl (lv_at hl 1 rfl) ?_
      refine g_cI C0 G (g_runV C0 G (rest := []) (c_X2_isLastPlayed hfl (A := A) (b := b) (ex := ex) (ov := ov) (ie := 1) (fi := fi) (nu := 1) (q := q) h_mt h_al hAj hq0 hq1 hq2 hq3) h_mt rfl hY_X2_isLastPlayed mm_X2_145 mi_X2_isLastPlayed ml_X2_isLastPlayed ⟨(Nat.le_of_ble_eq_true rfl), (Nat.le_of_ble_eq_true rfl)⟩ rfl hl.1 rfl (Nat.le_of_ble_eq_true rfl) dX2_outcome_26 ⟨(Nat.le_of_ble_eq_true rfl), (Nat.le_of_ble_eq_true rfl)⟩) (kx_no rfl) (fun r23 u22 H locs hp21 G => ?_)
      obtain ⟨er24, eu22⟩ := hp21
      rw [eu22] at G
      refine lv_topv (v := (X2_isLastPlayed_x0 1 1)) er24 ?_
      refine lv_topv (v := 1) (by decide) ?_
      refine lv_if_eq (tgt := 47) hx hb dX2_outcome_29 (by decide) (fun c25 => absurd c25 (by decide)) (fun _ => ?_)
      refine lv_aload_n hx hb dX2_outcome_32 rfl (lv_at hl 1 rfl) ?_
      refine g_cR C0 G (g_runV C0 G (rest := []) (c_X2_present1 hfl (A := A) (b := b) (ex := ex) (ov := ov) (ie := 1) (fi := fi) (q := q) h_mt h_al hAj hq0 hq1 hq2 hq3) h_mt rfl hY_X2_present mm_X2_43 mi_X2_present ml_X2_present ⟨(Nat.le_of_ble_eq_true rfl), (Nat.le_of_ble_eq_true rfl)⟩ rfl hl.1 rfl (Nat.le_of_ble_eq_true rfl) dX2_outcome_33 ⟨(Nat.le_of_ble_eq_true rfl), (Nat.le_of_ble_eq_true rfl)⟩) (kx_no rfl) (fun a28 u27 H locs hp26 G => ?_)
      obtain ⟨zr, eu27⟩ := hp26
      replace zr := Eq.symm zr
      subst zr
      rw [eu27] at G
      refine lv_iconst (v := 0) hx hb dX2_outcome_36 (by decide) ?_
      refine g_cI C0 G (g_runV C0 G (rest := []) (c_X0_total hfl 0 h_ij1 h_t0j1 h_a0j1) h_ij1 rfl hY_X0_total mm_X2_128 mi_X0_total ml_X0_total ⟨(Nat.le_of_ble_eq_true rfl), (Nat.le_of_ble_eq_true rfl)⟩ rfl hl.1 rfl (Nat.le_of_ble_eq_true rfl) dX2_outcome_37 ⟨(Nat.le_of_ble_eq_true rfl), (Nat.le_of_ble_eq_true rfl)⟩) (kx_no rfl) (fun r31 u30 H locs hp29 G => ?_)
      obtain ⟨er32, eu30⟩ := hp29
      rw [eu30] at G
      refine lv_topv (v := (tget 8 1 8 g0 0 0)) er32 ?_
      refine lv_aload_n hx hb dX2_outcome_40 rfl (lv_at hl 1 rfl) ?_
      refine g_cI C0 G (g_runV C0 G (rest := [.int (tget 8 1 8 g0 0 0)]) (c_X2_target1 hfl (A := A) (b := b) (ex := ex) (ov := ov) (fi := fi) (nu := 1) (q := q) (rs_a := rs_a) (sk_a := sk_a) (ot_a := ot_a) (ch_a := ch_a) (nc_a := nc_a) (g0_a := g0_a) (rs_b := rs) (sk_b := sk) (ot_b := ot) (ch_b := ch) (nc_b := nc) h_mt h_al h_ij0 h_t0j0 h_a0j0 h_ij1 hAj hq0 hq1 hq2 hq3) h_mt rfl hY_X2_target mm_X2_148 mi_X2_target ml_X2_target ⟨(Nat.le_of_ble_eq_true rfl), (Nat.le_of_ble_eq_true rfl)⟩ rfl hl.1 rfl (Nat.le_of_ble_eq_true rfl) dX2_outcome_41 ⟨(Nat.le_of_ble_eq_true rfl), (Nat.le_of_ble_eq_true rfl)⟩) (kx_no rfl) (fun r35 u34 H locs hp33 G => ?_)
      obtain ⟨er36, eu34⟩ := hp33
      rw [eu34] at G
      refine lv_topv (v := (X2_target1_x0 rs_a g0_a rs)) er36 ?_
      refine lv_icmp_lt (tgt := 51) hx hb dX2_outcome_44 (by decide) (fun c37 => ?_) (fun c37 => ?_)
      · refine lv_aload_n hx hb dX2_outcome_51 rfl (lv_at hl 1 rfl) ?_
        refine g_cR C0 G (g_runV C0 G (rest := []) (c_X2_present1 hfl (A := A) (b := b) (ex := ex) (ov := ov) (ie := 1) (fi := fi) (q := q) h_mt h_al hAj hq0 hq1 hq2 hq3) h_mt rfl hY_X2_present mm_X2_43 mi_X2_present ml_X2_present ⟨(Nat.le_of_ble_eq_true rfl), (Nat.le_of_ble_eq_true rfl)⟩ rfl hl.1 rfl (Nat.le_of_ble_eq_true rfl) dX2_outcome_52 ⟨(Nat.le_of_ble_eq_true rfl), (Nat.le_of_ble_eq_true rfl)⟩) (kx_no rfl) (fun a40 u39 H locs hp38 G => ?_)
        obtain ⟨zr, eu39⟩ := hp38
        replace zr := Eq.symm zr
        subst zr
        rw [eu39] at G
        refine lv_iconst (v := 0) hx hb dX2_outcome_55 (by decide) ?_
        refine g_cI C0 G (g_runV C0 G (rest := []) (c_X0_total hfl 0 h_ij1 h_t0j1 h_a0j1) h_ij1 rfl hY_X0_total mm_X2_128 mi_X0_total ml_X0_total ⟨(Nat.le_of_ble_eq_true rfl), (Nat.le_of_ble_eq_true rfl)⟩ rfl hl.1 rfl (Nat.le_of_ble_eq_true rfl) dX2_outcome_56 ⟨(Nat.le_of_ble_eq_true rfl), (Nat.le_of_ble_eq_true rfl)⟩) (kx_no rfl) (fun r43 u42 H locs hp41 G => ?_)
        obtain ⟨er44, eu42⟩ := hp41
        rw [eu42] at G
        refine lv_topv (v := (tget 8 1 8 g0 0 0)) er44 ?_
        refine lv_aload_n hx hb dX2_outcome_59 rfl (lv_at hl 1 rfl) ?_
        refine g_cI C0 G (g_runV C0 G (rest := [.int (tget 8 1 8 g0 0 0)]) (c_X2_target1 hfl (A := A) (b := b) (ex := ex) (ov := ov) (fi := fi) (nu := 1) (q := q) (rs_a := rs_a) (sk_a := sk_a) (ot_a := ot_a) (ch_a := ch_a) (nc_a := nc_a) (g0_a := g0_a) (rs_b := rs) (sk_b := sk) (ot_b := ot) (ch_b := ch) (nc_b := nc) h_mt h_al h_ij0 h_t0j0 h_a0j0 h_ij1 hAj hq0 hq1 hq2 hq3) h_mt rfl hY_X2_target mm_X2_148 mi_X2_target ml_X2_target ⟨(Nat.le_of_ble_eq_true rfl), (Nat.le_of_ble_eq_true rfl)⟩ rfl hl.1 rfl (Nat.le_of_ble_eq_true rfl) dX2_outcome_60 ⟨(Nat.le_of_ble_eq_true rfl), (Nat.le_of_ble_eq_true rfl)⟩) (kx_no rfl) (fun r47 u46 H locs hp45 G => ?_)
        obtain ⟨er48, eu46⟩ := hp45
        rw [eu46] at G
        refine lv_topv (v := (X2_target1_x0 rs_a g0_a rs)) er48 ?_
        refine lv_iconst (v := 1) hx hb dX2_outcome_63 (by decide) ?_
        refine lv_isub hx hb dX2_outcome_64 ?_
        have J51 : ∀ (y50 : Int32) (_ : y50 = (X2_outcome11_x0 fi rs g0 rs_a g0_a)) (H : Heap) (locs : List Loc) (ls : Array Slot), hG D (hA f sz) f s9 H locs → lv_has ls 2 [(1, .int (X2_battingTeam_x0 fi 1)), (0, .ref (A (b + 0)))] → W p9 l e9 ({ frames := 3, cells := 0, slots := 0, locals := 66 } : Room) s9 m9 ([.ref (A (b + 0))] : List Value).toArray b9 t9 c9 H locs 0 0 (vx_MQ b9 (hQi (fun r u => r = (X2_outcome11_r1 ex ov fi rs g0 rs_a g0_a) ∧ u = f) D f sz) (hPx hNo D f sz) ([.ref (A (b + 0))] : List Value).toArray s9 0 0 (hA f sz)) (F0 m9 75 ls [.int y50]) := by
          intro y50 ey50 H locs ls G hl
          replace ey50 := Eq.symm ey50
          subst ey50
          exact g_iret C0 G hr dX2_outcome_75 (Nat.le_of_ble_eq_true rfl) (Nat.le_of_ble_eq_true rfl) (by exact ⟨(by rw [X2_outcome11_r1, if_neg c11, if_neg c12, if_pos c37]), rfl⟩)
        refine lv_icmp_ne (tgt := 72) hx hb dX2_outcome_65 (by decide) (fun c49 => ?_) (fun c49 => ?_)
        · refine lv_iconst (v := 2) hx hb dX2_outcome_72 (by decide) ?_
          refine lv_iload_n hx hb dX2_outcome_73 rfl (lv_at hl 0 rfl) ?_
          refine lv_isub hx hb dX2_outcome_74 ?_
          exact J51 (2 - (X2_battingTeam_x0 fi 1)) (by rw [X2_outcome11_x0, if_neg c49]) _ _ _ G (lv_sub hl [0, 1] rfl)
        · refine lv_iconst (v := 3) hx hb dX2_outcome_68 (by decide) ?_
          refine lv_goto (tgt := 75) hx hb dX2_outcome_69 (by decide) ?_
          exact J51 3 (by rw [X2_outcome11_x0, if_pos c49]) _ _ _ G (lv_sub hl [0, 1] rfl)
      · refine lv_iconst (v := 1) hx hb dX2_outcome_47 (by decide) ?_
        refine lv_iload_n hx hb dX2_outcome_48 rfl (lv_at hl 0 rfl) ?_
        refine lv_iadd hx hb dX2_outcome_49 ?_
        exact g_iret C0 G hr dX2_outcome_50 (Nat.le_of_ble_eq_true rfl) (Nat.le_of_ble_eq_true rfl) (by exact ⟨(by rw [X2_outcome11_r1, if_neg c11, if_neg c12, if_neg c37]), rfl⟩)
    · refine lv_iconst (v := 0) hx hb dX2_outcome_14 (by decide) ?_
      exact g_iret C0 G hr dX2_outcome_15 (Nat.le_of_ble_eq_true rfl) (Nat.le_of_ble_eq_true rfl) (by exact ⟨(by rw [X2_outcome11_r1, if_neg c11, if_pos c12]), rfl⟩)
def X2_outcome02_r0 (ex : Int32) (ov : Int32) (fi : Int32) : Int32 := if ex = 0 then 0 else (if ov = 0 then 0 else (1 + (X2_battingTeam_x0 fi 3)))
set_option maxRecDepth 100000 in
theorem c_X2_outcome02 {l : Launch} (hfl : l.stackTraces = false) {D : va_G} {cy : Nat → ClassId} {f : Hf} {sz : Nat} {A : Nat → Nat} {b : Nat} {ex : Int32} {ov : Int32} {fi : Int32} {q : Nat → Option Nat} {rs : Int32} {sk : Int32} {ot : Int32} {ch : Int32} {nc : Int32} {g0 : Nat → Int32} (h_mt : f (A (b + 0)) = some (.inr (4, [.ref (A (b + 1)), .int ex, .int ov, .int 2, .int fi, .int 0]))) (h_al : f (A (b + 1)) = some (.inl (cy 3, 4, .inr (.inr (.inr (.inr q)))))) (h_ij0 : f (A (b + 2)) = some (.inr (2, [.ref (A (b + 3)), .ref (A (b + 5)), .ref (A (b + 7)), .ref (A (b + 9)), .ref (A (b + 11)), .ref (A (b + 13)), .int rs, .int sk, .int ot, .int ch, .int nc]))) (h_t0j0 : f (A (b + 3)) = some (.inr (8, [.int 8, .ref (A (b + 4)), .int 1]))) (h_a0j0 : f (A (b + 4)) = some (.inl (cy 0, 8, .inl g0))) (hAj : ∀ i j : Nat, i ≠ j → A i ≠ A j) (hq0 : q 0 = some (A (b + 2))) (hq1 : q 1 = some (A (b + 15))) (hq2 : q 2 = some (A (b + 28))) (hq3 : q 3 = some (A (b + 41))) : hMet l yX2_outcome cX2_outcome 2 (some .int) { frames := 2, cells := 0, slots := 0, locals := 40 } D (hTy cy) f sz [.ref (A (b + 0))] (hQi (fun r u => r = (X2_outcome02_r0 ex ov fi) ∧ u = f) D f sz) hNo := by
  refine h_enter (by decide) hfl (Nat.le_of_ble_eq_true rfl) ?_
  intro p9 e9 s9 m9 b9 t9 c9 hsz C0 hr hnm G ls hl
  have hx := C0.1.1
  have hb := C0.1.2.1
  have hl : lv_has ls 2 [(0, .ref (A (b + 0)))] := hl
  refine lv_aload_n hx hb dX2_outcome_0 rfl (lv_at hl 0 rfl) ?_
  refine g_get C0 G h_mt rfl hiX2 1 (by decide) mf_X2_17 rfl dX2_outcome_1 ?_
  refine lv_if_eq (tgt := 14) hx hb dX2_outcome_4 (by decide) (fun c11 => ?_) (fun c11 => ?_)
  · refine lv_iconst (v := 0) hx hb dX2_outcome_14 (by decide) ?_
    exact g_iret C0 G hr dX2_outcome_15 (Nat.le_of_ble_eq_true rfl) (Nat.le_of_ble_eq_true rfl) (by exact ⟨(by rw [X2_outcome02_r0, if_pos c11]), rfl⟩)
  · refine lv_aload_n hx hb dX2_outcome_7 rfl (lv_at hl 0 rfl) ?_
    refine g_get C0 G h_mt rfl hiX2 2 (by decide) mf_X2_21 rfl dX2_outcome_8 ?_
    refine lv_if_ne (tgt := 16) hx hb dX2_outcome_11 (by decide) (fun c12 => ?_) (fun c12 => ?_)
    · refine lv_aload_n hx hb dX2_outcome_16 rfl (lv_at hl 0 rfl) ?_
      refine lv_aload_n hx hb dX2_outcome_17 rfl (lv_at hl 0 rfl) ?_
      refine g_cI C0 G (g_runV C0 G (rest := [.ref (A (b + 0))]) (c_X2_lastNumber hfl (A := A) (b := b) (ex := ex) (ov := ov) (ie := 2) (fi := fi) (nu := 0) (q := q) h_mt h_al hAj hq0 hq1 hq2 hq3) h_mt rfl hY_X2_lastNumber mm_X2_81 mi_X2_lastNumber ml_X2_lastNumber ⟨(Nat.le_of_ble_eq_true rfl), (Nat.le_of_ble_eq_true rfl)⟩ rfl hl.1 rfl (Nat.le_of_ble_eq_true rfl) dX2_outcome_18 ⟨(Nat.le_of_ble_eq_true rfl), (Nat.le_of_ble_eq_true rfl)⟩) (kx_no rfl) (fun r15 u14 H locs hp13 G => ?_)
      obtain ⟨er16, eu14⟩ := hp13
      rw [eu14] at G
      refine lv_topv (v := (X2_lastNumber_r0 2)) er16 ?_
      refine lv_topv (v := 3) (by decide) ?_
      refine g_cI C0 G (g_runV C0 G (rest := []) (c_X2_battingTeam hfl (A := A) (b := b) (ex := ex) (ov := ov) (ie := 2) (fi := fi) (nu := 0) (q := q) 3 h_mt h_al hAj hq0 hq1 hq2 hq3) h_mt rfl hY_X2_battingTeam mm_X2_168 mi_X2_battingTeam ml_X2_battingTeam ⟨(Nat.le_of_ble_eq_true rfl), (Nat.le_of_ble_eq_true rfl)⟩ rfl hl.1 rfl (Nat.le_of_ble_eq_true rfl) dX2_outcome_21 ⟨(Nat.le_of_ble_eq_true rfl), (Nat.le_of_ble_eq_true rfl)⟩) (kx_no rfl) (fun r19 u18 H locs hp17 G => ?_)
      obtain ⟨er20, eu18⟩ := hp17
      rw [eu18] at G
      refine lv_topv (v := (X2_battingTeam_x0 fi 3)) er20 ?_
      refine lv_istore_n (lv' := [(1, .int (X2_battingTeam_x0 fi 3)), (0, .ref (A (b + 0)))]) hx hb dX2_outcome_24 rfl hl (by decide) rfl (fun ls hl => ?_)
      refine lv_aload_n hx hb dX2_outcome_25 rfl (lv_at hl 1 rfl) ?_
      refine g_cI C0 G (g_runV C0 G (rest := []) (c_X2_isLastPlayed hfl (A := A) (b := b) (ex := ex) (ov := ov) (ie := 2) (fi := fi) (nu := 0) (q := q) h_mt h_al hAj hq0 hq1 hq2 hq3) h_mt rfl hY_X2_isLastPlayed mm_X2_145 mi_X2_isLastPlayed ml_X2_isLastPlayed ⟨(Nat.le_of_ble_eq_true rfl), (Nat.le_of_ble_eq_true rfl)⟩ rfl hl.1 rfl (Nat.le_of_ble_eq_true rfl) dX2_outcome_26 ⟨(Nat.le_of_ble_eq_true rfl), (Nat.le_of_ble_eq_true rfl)⟩) (kx_no rfl) (fun r23 u22 H locs hp21 G => ?_)
      obtain ⟨er24, eu22⟩ := hp21
      rw [eu22] at G
      refine lv_topv (v := (X2_isLastPlayed_x0 2 0)) er24 ?_
      refine lv_topv (v := 0) (by decide) ?_
      refine lv_if_eq (tgt := 47) hx hb dX2_outcome_29 (by decide) (fun _ => ?_) (fun c25 => absurd (by decide) c25)
      refine lv_iconst (v := 1) hx hb dX2_outcome_47 (by decide) ?_
      refine lv_iload_n hx hb dX2_outcome_48 rfl (lv_at hl 0 rfl) ?_
      refine lv_iadd hx hb dX2_outcome_49 ?_
      exact g_iret C0 G hr dX2_outcome_50 (Nat.le_of_ble_eq_true rfl) (Nat.le_of_ble_eq_true rfl) (by exact ⟨(by rw [X2_outcome02_r0, if_neg c11, if_neg c12]), rfl⟩)
    · refine lv_iconst (v := 0) hx hb dX2_outcome_14 (by decide) ?_
      exact g_iret C0 G hr dX2_outcome_15 (Nat.le_of_ble_eq_true rfl) (Nat.le_of_ble_eq_true rfl) (by exact ⟨(by rw [X2_outcome02_r0, if_neg c11, if_pos c12]), rfl⟩)
def X2_outcome12_r0 (ex : Int32) (ov : Int32) (fi : Int32) : Int32 := if ex = 0 then 0 else (if ov = 0 then 0 else (1 + (X2_battingTeam_x0 fi 3)))
set_option maxRecDepth 100000 in
theorem c_X2_outcome12 {l : Launch} (hfl : l.stackTraces = false) {D : va_G} {cy : Nat → ClassId} {f : Hf} {sz : Nat} {A : Nat → Nat} {b : Nat} {ex : Int32} {ov : Int32} {fi : Int32} {q : Nat → Option Nat} {rs : Int32} {sk : Int32} {ot : Int32} {ch : Int32} {nc : Int32} {g0 : Nat → Int32} (h_mt : f (A (b + 0)) = some (.inr (4, [.ref (A (b + 1)), .int ex, .int ov, .int 2, .int fi, .int 1]))) (h_al : f (A (b + 1)) = some (.inl (cy 3, 4, .inr (.inr (.inr (.inr q)))))) (h_ij1 : f (A (b + 15)) = some (.inr (2, [.ref (A (b + 16)), .ref (A (b + 18)), .ref (A (b + 20)), .ref (A (b + 22)), .ref (A (b + 24)), .ref (A (b + 26)), .int rs, .int sk, .int ot, .int ch, .int nc]))) (h_t0j1 : f (A (b + 16)) = some (.inr (8, [.int 8, .ref (A (b + 17)), .int 1]))) (h_a0j1 : f (A (b + 17)) = some (.inl (cy 0, 8, .inl g0))) (hAj : ∀ i j : Nat, i ≠ j → A i ≠ A j) (hq0 : q 0 = some (A (b + 2))) (hq1 : q 1 = some (A (b + 15))) (hq2 : q 2 = some (A (b + 28))) (hq3 : q 3 = some (A (b + 41))) : hMet l yX2_outcome cX2_outcome 2 (some .int) { frames := 2, cells := 0, slots := 0, locals := 40 } D (hTy cy) f sz [.ref (A (b + 0))] (hQi (fun r u => r = (X2_outcome12_r0 ex ov fi) ∧ u = f) D f sz) hNo := by
  refine h_enter (by decide) hfl (Nat.le_of_ble_eq_true rfl) ?_
  intro p9 e9 s9 m9 b9 t9 c9 hsz C0 hr hnm G ls hl
  have hx := C0.1.1
  have hb := C0.1.2.1
  have hl : lv_has ls 2 [(0, .ref (A (b + 0)))] := hl
  refine lv_aload_n hx hb dX2_outcome_0 rfl (lv_at hl 0 rfl) ?_
  refine g_get C0 G h_mt rfl hiX2 1 (by decide) mf_X2_17 rfl dX2_outcome_1 ?_
  refine lv_if_eq (tgt := 14) hx hb dX2_outcome_4 (by decide) (fun c11 => ?_) (fun c11 => ?_)
  · refine lv_iconst (v := 0) hx hb dX2_outcome_14 (by decide) ?_
    exact g_iret C0 G hr dX2_outcome_15 (Nat.le_of_ble_eq_true rfl) (Nat.le_of_ble_eq_true rfl) (by exact ⟨(by rw [X2_outcome12_r0, if_pos c11]), rfl⟩)
  · refine lv_aload_n hx hb dX2_outcome_7 rfl (lv_at hl 0 rfl) ?_
    refine g_get C0 G h_mt rfl hiX2 2 (by decide) mf_X2_21 rfl dX2_outcome_8 ?_
    refine lv_if_ne (tgt := 16) hx hb dX2_outcome_11 (by decide) (fun c12 => ?_) (fun c12 => ?_)
    · refine lv_aload_n hx hb dX2_outcome_16 rfl (lv_at hl 0 rfl) ?_
      refine lv_aload_n hx hb dX2_outcome_17 rfl (lv_at hl 0 rfl) ?_
      refine g_cI C0 G (g_runV C0 G (rest := [.ref (A (b + 0))]) (c_X2_lastNumber hfl (A := A) (b := b) (ex := ex) (ov := ov) (ie := 2) (fi := fi) (nu := 1) (q := q) h_mt h_al hAj hq0 hq1 hq2 hq3) h_mt rfl hY_X2_lastNumber mm_X2_81 mi_X2_lastNumber ml_X2_lastNumber ⟨(Nat.le_of_ble_eq_true rfl), (Nat.le_of_ble_eq_true rfl)⟩ rfl hl.1 rfl (Nat.le_of_ble_eq_true rfl) dX2_outcome_18 ⟨(Nat.le_of_ble_eq_true rfl), (Nat.le_of_ble_eq_true rfl)⟩) (kx_no rfl) (fun r15 u14 H locs hp13 G => ?_)
      obtain ⟨er16, eu14⟩ := hp13
      rw [eu14] at G
      refine lv_topv (v := (X2_lastNumber_r0 2)) er16 ?_
      refine lv_topv (v := 3) (by decide) ?_
      refine g_cI C0 G (g_runV C0 G (rest := []) (c_X2_battingTeam hfl (A := A) (b := b) (ex := ex) (ov := ov) (ie := 2) (fi := fi) (nu := 1) (q := q) 3 h_mt h_al hAj hq0 hq1 hq2 hq3) h_mt rfl hY_X2_battingTeam mm_X2_168 mi_X2_battingTeam ml_X2_battingTeam ⟨(Nat.le_of_ble_eq_true rfl), (Nat.le_of_ble_eq_true rfl)⟩ rfl hl.1 rfl (Nat.le_of_ble_eq_true rfl) dX2_outcome_21 ⟨(Nat.le_of_ble_eq_true rfl), (Nat.le_of_ble_eq_true rfl)⟩) (kx_no rfl) (fun r19 u18 H locs hp17 G => ?_)
      obtain ⟨er20, eu18⟩ := hp17
      rw [eu18] at G
      refine lv_topv (v := (X2_battingTeam_x0 fi 3)) er20 ?_
      refine lv_istore_n (lv' := [(1, .int (X2_battingTeam_x0 fi 3)), (0, .ref (A (b + 0)))]) hx hb dX2_outcome_24 rfl hl (by decide) rfl (fun ls hl => ?_)
      refine lv_aload_n hx hb dX2_outcome_25 rfl (lv_at hl 1 rfl) ?_
      refine g_cI C0 G (g_runV C0 G (rest := []) (c_X2_isLastPlayed hfl (A := A) (b := b) (ex := ex) (ov := ov) (ie := 2) (fi := fi) (nu := 1) (q := q) h_mt h_al hAj hq0 hq1 hq2 hq3) h_mt rfl hY_X2_isLastPlayed mm_X2_145 mi_X2_isLastPlayed ml_X2_isLastPlayed ⟨(Nat.le_of_ble_eq_true rfl), (Nat.le_of_ble_eq_true rfl)⟩ rfl hl.1 rfl (Nat.le_of_ble_eq_true rfl) dX2_outcome_26 ⟨(Nat.le_of_ble_eq_true rfl), (Nat.le_of_ble_eq_true rfl)⟩) (kx_no rfl) (fun r23 u22 H locs hp21 G => ?_)
      obtain ⟨er24, eu22⟩ := hp21
      rw [eu22] at G
      refine lv_topv (v := (X2_isLastPlayed_x0 2 1)) er24 ?_
      refine lv_topv (v := 0) (by decide) ?_
      refine lv_if_eq (tgt := 47) hx hb dX2_outcome_29 (by decide) (fun _ => ?_) (fun c25 => absurd (by decide) c25)
      refine lv_iconst (v := 1) hx hb dX2_outcome_47 (by decide) ?_
      refine lv_iload_n hx hb dX2_outcome_48 rfl (lv_at hl 0 rfl) ?_
      refine lv_iadd hx hb dX2_outcome_49 ?_
      exact g_iret C0 G hr dX2_outcome_50 (Nat.le_of_ble_eq_true rfl) (Nat.le_of_ble_eq_true rfl) (by exact ⟨(by rw [X2_outcome12_r0, if_neg c11, if_neg c12]), rfl⟩)
    · refine lv_iconst (v := 0) hx hb dX2_outcome_14 (by decide) ?_
      exact g_iret C0 G hr dX2_outcome_15 (Nat.le_of_ble_eq_true rfl) (Nat.le_of_ble_eq_true rfl) (by exact ⟨(by rw [X2_outcome12_r0, if_neg c11, if_pos c12]), rfl⟩)
def X2_outcome22_r0 (ex : Int32) (ov : Int32) (fi : Int32) : Int32 := if ex = 0 then 0 else (if ov = 0 then 0 else (1 + (X2_battingTeam_x0 fi 3)))
set_option maxRecDepth 100000 in
theorem c_X2_outcome22 {l : Launch} (hfl : l.stackTraces = false) {D : va_G} {cy : Nat → ClassId} {f : Hf} {sz : Nat} {A : Nat → Nat} {b : Nat} {ex : Int32} {ov : Int32} {fi : Int32} {q : Nat → Option Nat} {rs : Int32} {sk : Int32} {ot : Int32} {ch : Int32} {nc : Int32} {g0 : Nat → Int32} (h_mt : f (A (b + 0)) = some (.inr (4, [.ref (A (b + 1)), .int ex, .int ov, .int 2, .int fi, .int 2]))) (h_al : f (A (b + 1)) = some (.inl (cy 3, 4, .inr (.inr (.inr (.inr q)))))) (h_ij2 : f (A (b + 28)) = some (.inr (2, [.ref (A (b + 29)), .ref (A (b + 31)), .ref (A (b + 33)), .ref (A (b + 35)), .ref (A (b + 37)), .ref (A (b + 39)), .int rs, .int sk, .int ot, .int ch, .int nc]))) (h_t0j2 : f (A (b + 29)) = some (.inr (8, [.int 8, .ref (A (b + 30)), .int 1]))) (h_a0j2 : f (A (b + 30)) = some (.inl (cy 0, 8, .inl g0))) (hAj : ∀ i j : Nat, i ≠ j → A i ≠ A j) (hq0 : q 0 = some (A (b + 2))) (hq1 : q 1 = some (A (b + 15))) (hq2 : q 2 = some (A (b + 28))) (hq3 : q 3 = some (A (b + 41))) : hMet l yX2_outcome cX2_outcome 2 (some .int) { frames := 2, cells := 0, slots := 0, locals := 40 } D (hTy cy) f sz [.ref (A (b + 0))] (hQi (fun r u => r = (X2_outcome22_r0 ex ov fi) ∧ u = f) D f sz) hNo := by
  refine h_enter (by decide) hfl (Nat.le_of_ble_eq_true rfl) ?_
  intro p9 e9 s9 m9 b9 t9 c9 hsz C0 hr hnm G ls hl
  have hx := C0.1.1
  have hb := C0.1.2.1
  have hl : lv_has ls 2 [(0, .ref (A (b + 0)))] := hl
  refine lv_aload_n hx hb dX2_outcome_0 rfl (lv_at hl 0 rfl) ?_
  refine g_get C0 G h_mt rfl hiX2 1 (by decide) mf_X2_17 rfl dX2_outcome_1 ?_
  refine lv_if_eq (tgt := 14) hx hb dX2_outcome_4 (by decide) (fun c11 => ?_) (fun c11 => ?_)
  · refine lv_iconst (v := 0) hx hb dX2_outcome_14 (by decide) ?_
    exact g_iret C0 G hr dX2_outcome_15 (Nat.le_of_ble_eq_true rfl) (Nat.le_of_ble_eq_true rfl) (by exact ⟨(by rw [X2_outcome22_r0, if_pos c11]), rfl⟩)
  · refine lv_aload_n hx hb dX2_outcome_7 rfl (lv_at hl 0 rfl) ?_
    refine g_get C0 G h_mt rfl hiX2 2 (by decide) mf_X2_21 rfl dX2_outcome_8 ?_
    refine lv_if_ne (tgt := 16) hx hb dX2_outcome_11 (by decide) (fun c12 => ?_) (fun c12 => ?_)
    · refine lv_aload_n hx hb dX2_outcome_16 rfl (lv_at hl 0 rfl) ?_
      refine lv_aload_n hx hb dX2_outcome_17 rfl (lv_at hl 0 rfl) ?_
      refine g_cI C0 G (g_runV C0 G (rest := [.ref (A (b + 0))]) (c_X2_lastNumber hfl (A := A) (b := b) (ex := ex) (ov := ov) (ie := 2) (fi := fi) (nu := 2) (q := q) h_mt h_al hAj hq0 hq1 hq2 hq3) h_mt rfl hY_X2_lastNumber mm_X2_81 mi_X2_lastNumber ml_X2_lastNumber ⟨(Nat.le_of_ble_eq_true rfl), (Nat.le_of_ble_eq_true rfl)⟩ rfl hl.1 rfl (Nat.le_of_ble_eq_true rfl) dX2_outcome_18 ⟨(Nat.le_of_ble_eq_true rfl), (Nat.le_of_ble_eq_true rfl)⟩) (kx_no rfl) (fun r15 u14 H locs hp13 G => ?_)
      obtain ⟨er16, eu14⟩ := hp13
      rw [eu14] at G
      refine lv_topv (v := (X2_lastNumber_r0 2)) er16 ?_
      refine lv_topv (v := 3) (by decide) ?_
      refine g_cI C0 G (g_runV C0 G (rest := []) (c_X2_battingTeam hfl (A := A) (b := b) (ex := ex) (ov := ov) (ie := 2) (fi := fi) (nu := 2) (q := q) 3 h_mt h_al hAj hq0 hq1 hq2 hq3) h_mt rfl hY_X2_battingTeam mm_X2_168 mi_X2_battingTeam ml_X2_battingTeam ⟨(Nat.le_of_ble_eq_true rfl), (Nat.le_of_ble_eq_true rfl)⟩ rfl hl.1 rfl (Nat.le_of_ble_eq_true rfl) dX2_outcome_21 ⟨(Nat.le_of_ble_eq_true rfl), (Nat.le_of_ble_eq_true rfl)⟩) (kx_no rfl) (fun r19 u18 H locs hp17 G => ?_)
      obtain ⟨er20, eu18⟩ := hp17
      rw [eu18] at G
      refine lv_topv (v := (X2_battingTeam_x0 fi 3)) er20 ?_
      refine lv_istore_n (lv' := [(1, .int (X2_battingTeam_x0 fi 3)), (0, .ref (A (b + 0)))]) hx hb dX2_outcome_24 rfl hl (by decide) rfl (fun ls hl => ?_)
      refine lv_aload_n hx hb dX2_outcome_25 rfl (lv_at hl 1 rfl) ?_
      refine g_cI C0 G (g_runV C0 G (rest := []) (c_X2_isLastPlayed hfl (A := A) (b := b) (ex := ex) (ov := ov) (ie := 2) (fi := fi) (nu := 2) (q := q) h_mt h_al hAj hq0 hq1 hq2 hq3) h_mt rfl hY_X2_isLastPlayed mm_X2_145 mi_X2_isLastPlayed ml_X2_isLastPlayed ⟨(Nat.le_of_ble_eq_true rfl), (Nat.le_of_ble_eq_true rfl)⟩ rfl hl.1 rfl (Nat.le_of_ble_eq_true rfl) dX2_outcome_26 ⟨(Nat.le_of_ble_eq_true rfl), (Nat.le_of_ble_eq_true rfl)⟩) (kx_no rfl) (fun r23 u22 H locs hp21 G => ?_)
      obtain ⟨er24, eu22⟩ := hp21
      rw [eu22] at G
      refine lv_topv (v := (X2_isLastPlayed_x0 2 2)) er24 ?_
      refine lv_topv (v := 0) (by decide) ?_
      refine lv_if_eq (tgt := 47) hx hb dX2_outcome_29 (by decide) (fun _ => ?_) (fun c25 => absurd (by decide) c25)
      refine lv_iconst (v := 1) hx hb dX2_outcome_47 (by decide) ?_
      refine lv_iload_n hx hb dX2_outcome_48 rfl (lv_at hl 0 rfl) ?_
      refine lv_iadd hx hb dX2_outcome_49 ?_
      exact g_iret C0 G hr dX2_outcome_50 (Nat.le_of_ble_eq_true rfl) (Nat.le_of_ble_eq_true rfl) (by exact ⟨(by rw [X2_outcome22_r0, if_neg c11, if_neg c12]), rfl⟩)
    · refine lv_iconst (v := 0) hx hb dX2_outcome_14 (by decide) ?_
      exact g_iret C0 G hr dX2_outcome_15 (Nat.le_of_ble_eq_true rfl) (Nat.le_of_ble_eq_true rfl) (by exact ⟨(by rw [X2_outcome22_r0, if_neg c11, if_pos c12]), rfl⟩)
def X2_outcome32_x0 (fi : Int32) (g0 : Nat → Int32) (g0_a : Nat → Int32) (g0_b : Nat → Int32) (g0_c : Nat → Int32) : Int32 := if (tget 8 1 8 g0 0 0) = ((X2_target2_r0 g0_a g0_b g0_c) - 1) then 3 else (2 - (X2_battingTeam_x0 fi 3))
def X2_outcome32_r1 (ex : Int32) (ov : Int32) (fi : Int32) (g0 : Nat → Int32) (g0_a : Nat → Int32) (g0_b : Nat → Int32) (g0_c : Nat → Int32) : Int32 := if ex = 0 then 0 else (if ov = 0 then 0 else (if (tget 8 1 8 g0 0 0) < (X2_target2_r0 g0_a g0_b g0_c) then (X2_outcome32_x0 fi g0 g0_a g0_b g0_c) else (1 + (X2_battingTeam_x0 fi 3))))
set_option maxRecDepth 100000 in
theorem c_X2_outcome32 {l : Launch} (hfl : l.stackTraces = false) {D : va_G} {cy : Nat → ClassId} {f : Hf} {sz : Nat} {A : Nat → Nat} {b : Nat} {ex : Int32} {ov : Int32} {fi : Int32} {q : Nat → Option Nat} {rs : Int32} {sk : Int32} {ot : Int32} {ch : Int32} {nc : Int32} {g0 : Nat → Int32} {rs_a : Int32} {sk_a : Int32} {ot_a : Int32} {ch_a : Int32} {nc_a : Int32} {g0_a : Nat → Int32} {rs_b : Int32} {sk_b : Int32} {ot_b : Int32} {ch_b : Int32} {nc_b : Int32} {g0_b : Nat → Int32} {rs_c : Int32} {sk_c : Int32} {ot_c : Int32} {ch_c : Int32} {nc_c : Int32} {g0_c : Nat → Int32} (h_mt : f (A (b + 0)) = some (.inr (4, [.ref (A (b + 1)), .int ex, .int ov, .int 2, .int fi, .int 3]))) (h_al : f (A (b + 1)) = some (.inl (cy 3, 4, .inr (.inr (.inr (.inr q)))))) (h_ij3 : f (A (b + 41)) = some (.inr (2, [.ref (A (b + 42)), .ref (A (b + 44)), .ref (A (b + 46)), .ref (A (b + 48)), .ref (A (b + 50)), .ref (A (b + 52)), .int rs, .int sk, .int ot, .int ch, .int nc]))) (h_t0j3 : f (A (b + 42)) = some (.inr (8, [.int 8, .ref (A (b + 43)), .int 1]))) (h_a0j3 : f (A (b + 43)) = some (.inl (cy 0, 8, .inl g0))) (h_ij0 : f (A (b + 2)) = some (.inr (2, [.ref (A (b + 3)), .ref (A (b + 5)), .ref (A (b + 7)), .ref (A (b + 9)), .ref (A (b + 11)), .ref (A (b + 13)), .int rs_a, .int sk_a, .int ot_a, .int ch_a, .int nc_a]))) (h_t0j0 : f (A (b + 3)) = some (.inr (8, [.int 8, .ref (A (b + 4)), .int 1]))) (h_a0j0 : f (A (b + 4)) = some (.inl (cy 0, 8, .inl g0_a))) (h_ij1 : f (A (b + 15)) = some (.inr (2, [.ref (A (b + 16)), .ref (A (b + 18)), .ref (A (b + 20)), .ref (A (b + 22)), .ref (A (b + 24)), .ref (A (b + 26)), .int rs_b, .int sk_b, .int ot_b, .int ch_b, .int nc_b]))) (h_t0j1 : f (A (b + 16)) = some (.inr (8, [.int 8, .ref (A (b + 17)), .int 1]))) (h_a0j1 : f (A (b + 17)) = some (.inl (cy 0, 8, .inl g0_b))) (h_ij2 : f (A (b + 28)) = some (.inr (2, [.ref (A (b + 29)), .ref (A (b + 31)), .ref (A (b + 33)), .ref (A (b + 35)), .ref (A (b + 37)), .ref (A (b + 39)), .int rs_c, .int sk_c, .int ot_c, .int ch_c, .int nc_c]))) (h_t0j2 : f (A (b + 29)) = some (.inr (8, [.int 8, .ref (A (b + 30)), .int 1]))) (h_a0j2 : f (A (b + 30)) = some (.inl (cy 0, 8, .inl g0_c))) (hAj : ∀ i j : Nat, i ≠ j → A i ≠ A j) (hq0 : q 0 = some (A (b + 2))) (hq1 : q 1 = some (A (b + 15))) (hq2 : q 2 = some (A (b + 28))) (hq3 : q 3 = some (A (b + 41))) : hMet l yX2_outcome cX2_outcome 2 (some .int) { frames := 3, cells := 0, slots := 0, locals := 66 } D (hTy cy) f sz [.ref (A (b + 0))] (hQi (fun r u => r = (X2_outcome32_r1 ex ov fi g0 g0_a g0_b g0_c) ∧ u = f) D f sz) hNo := by
  refine h_enter (by decide) hfl (Nat.le_of_ble_eq_true rfl) ?_
  intro p9 e9 s9 m9 b9 t9 c9 hsz C0 hr hnm G ls hl
  have hx := C0.1.1
  have hb := C0.1.2.1
  have hl : lv_has ls 2 [(0, .ref (A (b + 0)))] := hl
  refine lv_aload_n hx hb dX2_outcome_0 rfl (lv_at hl 0 rfl) ?_
  refine g_get C0 G h_mt rfl hiX2 1 (by decide) mf_X2_17 rfl dX2_outcome_1 ?_
  refine lv_if_eq (tgt := 14) hx hb dX2_outcome_4 (by decide) (fun c11 => ?_) (fun c11 => ?_)
  · refine lv_iconst (v := 0) hx hb dX2_outcome_14 (by decide) ?_
    exact g_iret C0 G hr dX2_outcome_15 (Nat.le_of_ble_eq_true rfl) (Nat.le_of_ble_eq_true rfl) (by exact ⟨(by rw [X2_outcome32_r1, if_pos c11]), rfl⟩)
  · refine lv_aload_n hx hb dX2_outcome_7 rfl (lv_at hl 0 rfl) ?_
    refine g_get C0 G h_mt rfl hiX2 2 (by decide) mf_X2_21 rfl dX2_outcome_8 ?_
    refine lv_if_ne (tgt := 16) hx hb dX2_outcome_11 (by decide) (fun c12 => ?_) (fun c12 => ?_)
    · refine lv_aload_n hx hb dX2_outcome_16 rfl (lv_at hl 0 rfl) ?_
      refine lv_aload_n hx hb dX2_outcome_17 rfl (lv_at hl 0 rfl) ?_
      refine g_cI C0 G (g_runV C0 G (rest := [.ref (A (b + 0))]) (c_X2_lastNumber hfl (A := A) (b := b) (ex := ex) (ov := ov) (ie := 2) (fi := fi) (nu := 3) (q := q) h_mt h_al hAj hq0 hq1 hq2 hq3) h_mt rfl hY_X2_lastNumber mm_X2_81 mi_X2_lastNumber ml_X2_lastNumber ⟨(Nat.le_of_ble_eq_true rfl), (Nat.le_of_ble_eq_true rfl)⟩ rfl hl.1 rfl (Nat.le_of_ble_eq_true rfl) dX2_outcome_18 ⟨(Nat.le_of_ble_eq_true rfl), (Nat.le_of_ble_eq_true rfl)⟩) (kx_no rfl) (fun r15 u14 H locs hp13 G => ?_)
      obtain ⟨er16, eu14⟩ := hp13
      rw [eu14] at G
      refine lv_topv (v := (X2_lastNumber_r0 2)) er16 ?_
      refine lv_topv (v := 3) (by decide) ?_
      refine g_cI C0 G (g_runV C0 G (rest := []) (c_X2_battingTeam hfl (A := A) (b := b) (ex := ex) (ov := ov) (ie := 2) (fi := fi) (nu := 3) (q := q) 3 h_mt h_al hAj hq0 hq1 hq2 hq3) h_mt rfl hY_X2_battingTeam mm_X2_168 mi_X2_battingTeam ml_X2_battingTeam ⟨(Nat.le_of_ble_eq_true rfl), (Nat.le_of_ble_eq_true rfl)⟩ rfl hl.1 rfl (Nat.le_of_ble_eq_true rfl) dX2_outcome_21 ⟨(Nat.le_of_ble_eq_true rfl), (Nat.le_of_ble_eq_true rfl)⟩) (kx_no rfl) (fun r19 u18 H locs hp17 G => ?_)
      obtain ⟨er20, eu18⟩ := hp17
      rw [eu18] at G
      refine lv_topv (v := (X2_battingTeam_x0 fi 3)) er20 ?_
      refine lv_istore_n (lv' := [(1, .int (X2_battingTeam_x0 fi 3)), (0, .ref (A (b + 0)))]) hx hb dX2_outcome_24 rfl hl (by decide) rfl (fun ls hl => ?_)
      refine lv_aload_n hx hb dX2_outcome_25 rfl (lv_at hl 1 rfl) ?_
      refine g_cI C0 G (g_runV C0 G (rest := []) (c_X2_isLastPlayed hfl (A := A) (b := b) (ex := ex) (ov := ov) (ie := 2) (fi := fi) (nu := 3) (q := q) h_mt h_al hAj hq0 hq1 hq2 hq3) h_mt rfl hY_X2_isLastPlayed mm_X2_145 mi_X2_isLastPlayed ml_X2_isLastPlayed ⟨(Nat.le_of_ble_eq_true rfl), (Nat.le_of_ble_eq_true rfl)⟩ rfl hl.1 rfl (Nat.le_of_ble_eq_true rfl) dX2_outcome_26 ⟨(Nat.le_of_ble_eq_true rfl), (Nat.le_of_ble_eq_true rfl)⟩) (kx_no rfl) (fun r23 u22 H locs hp21 G => ?_)
      obtain ⟨er24, eu22⟩ := hp21
      rw [eu22] at G
      refine lv_topv (v := (X2_isLastPlayed_x0 2 3)) er24 ?_
      refine lv_topv (v := 1) (by decide) ?_
      refine lv_if_eq (tgt := 47) hx hb dX2_outcome_29 (by decide) (fun c25 => absurd c25 (by decide)) (fun _ => ?_)
      refine lv_aload_n hx hb dX2_outcome_32 rfl (lv_at hl 1 rfl) ?_
      refine g_cR C0 G (g_runV C0 G (rest := []) (c_X2_present3 hfl (A := A) (b := b) (ex := ex) (ov := ov) (ie := 2) (fi := fi) (q := q) h_mt h_al hAj hq0 hq1 hq2 hq3) h_mt rfl hY_X2_present mm_X2_43 mi_X2_present ml_X2_present ⟨(Nat.le_of_ble_eq_true rfl), (Nat.le_of_ble_eq_true rfl)⟩ rfl hl.1 rfl (Nat.le_of_ble_eq_true rfl) dX2_outcome_33 ⟨(Nat.le_of_ble_eq_true rfl), (Nat.le_of_ble_eq_true rfl)⟩) (kx_no rfl) (fun a28 u27 H locs hp26 G => ?_)
      obtain ⟨zr, eu27⟩ := hp26
      replace zr := Eq.symm zr
      subst zr
      rw [eu27] at G
      refine lv_iconst (v := 0) hx hb dX2_outcome_36 (by decide) ?_
      refine g_cI C0 G (g_runV C0 G (rest := []) (c_X0_total hfl 0 h_ij3 h_t0j3 h_a0j3) h_ij3 rfl hY_X0_total mm_X2_128 mi_X0_total ml_X0_total ⟨(Nat.le_of_ble_eq_true rfl), (Nat.le_of_ble_eq_true rfl)⟩ rfl hl.1 rfl (Nat.le_of_ble_eq_true rfl) dX2_outcome_37 ⟨(Nat.le_of_ble_eq_true rfl), (Nat.le_of_ble_eq_true rfl)⟩) (kx_no rfl) (fun r31 u30 H locs hp29 G => ?_)
      obtain ⟨er32, eu30⟩ := hp29
      rw [eu30] at G
      refine lv_topv (v := (tget 8 1 8 g0 0 0)) er32 ?_
      refine lv_aload_n hx hb dX2_outcome_40 rfl (lv_at hl 1 rfl) ?_
      refine g_cI C0 G (g_runV C0 G (rest := [.int (tget 8 1 8 g0 0 0)]) (c_X2_target2 hfl (A := A) (b := b) (ex := ex) (ov := ov) (fi := fi) (nu := 3) (q := q) (rs_a := rs_a) (sk_a := sk_a) (ot_a := ot_a) (ch_a := ch_a) (nc_a := nc_a) (g0_a := g0_a) (rs_b := rs_b) (sk_b := sk_b) (ot_b := ot_b) (ch_b := ch_b) (nc_b := nc_b) (g0_b := g0_b) (rs_c := rs_c) (sk_c := sk_c) (ot_c := ot_c) (ch_c := ch_c) (nc_c := nc_c) (g0_c := g0_c) h_mt h_al h_ij0 h_t0j0 h_a0j0 h_ij1 h_t0j1 h_a0j1 h_ij2 h_t0j2 h_a0j2 hAj hq0 hq1 hq2 hq3) h_mt rfl hY_X2_target mm_X2_148 mi_X2_target ml_X2_target ⟨(Nat.le_of_ble_eq_true rfl), (Nat.le_of_ble_eq_true rfl)⟩ rfl hl.1 rfl (Nat.le_of_ble_eq_true rfl) dX2_outcome_41 ⟨(Nat.le_of_ble_eq_true rfl), (Nat.le_of_ble_eq_true rfl)⟩) (kx_no rfl) (fun r35 u34 H locs hp33 G => ?_)
      obtain ⟨er36, eu34⟩ := hp33
      rw [eu34] at G
      refine lv_topv (v := (X2_target2_r0 g0_a g0_b g0_c)) er36 ?_
      refine lv_icmp_lt (tgt := 51) hx hb dX2_outcome_44 (by decide) (fun c37 => ?_) (fun c37 => ?_)
      · refine lv_aload_n hx hb dX2_outcome_51 rfl (lv_at hl 1 rfl) ?_
        refine g_cR C0 G (g_runV C0 G (rest := []) (c_X2_present3 hfl (A := A) (b := b) (ex := ex) (ov := ov) (ie := 2) (fi := fi) (q := q) h_mt h_al hAj hq0 hq1 hq2 hq3) h_mt rfl hY_X2_present mm_X2_43 mi_X2_present ml_X2_present ⟨(Nat.le_of_ble_eq_true rfl), (Nat.le_of_ble_eq_true rfl)⟩ rfl hl.1 rfl (Nat.le_of_ble_eq_true rfl) dX2_outcome_52 ⟨(Nat.le_of_ble_eq_true rfl), (Nat.le_of_ble_eq_true rfl)⟩) (kx_no rfl) (fun a40 u39 H locs hp38 G => ?_)
        obtain ⟨zr, eu39⟩ := hp38
        replace zr := Eq.symm zr
        subst zr
        rw [eu39] at G
        refine lv_iconst (v := 0) hx hb dX2_outcome_55 (by decide) ?_
        refine g_cI C0 G (g_runV C0 G (rest := []) (c_X0_total hfl 0 h_ij3 h_t0j3 h_a0j3) h_ij3 rfl hY_X0_total mm_X2_128 mi_X0_total ml_X0_total ⟨(Nat.le_of_ble_eq_true rfl), (Nat.le_of_ble_eq_true rfl)⟩ rfl hl.1 rfl (Nat.le_of_ble_eq_true rfl) dX2_outcome_56 ⟨(Nat.le_of_ble_eq_true rfl), (Nat.le_of_ble_eq_true rfl)⟩) (kx_no rfl) (fun r43 u42 H locs hp41 G => ?_)
        obtain ⟨er44, eu42⟩ := hp41
        rw [eu42] at G
        refine lv_topv (v := (tget 8 1 8 g0 0 0)) er44 ?_
        refine lv_aload_n hx hb dX2_outcome_59 rfl (lv_at hl 1 rfl) ?_
        refine g_cI C0 G (g_runV C0 G (rest := [.int (tget 8 1 8 g0 0 0)]) (c_X2_target2 hfl (A := A) (b := b) (ex := ex) (ov := ov) (fi := fi) (nu := 3) (q := q) (rs_a := rs_a) (sk_a := sk_a) (ot_a := ot_a) (ch_a := ch_a) (nc_a := nc_a) (g0_a := g0_a) (rs_b := rs_b) (sk_b := sk_b) (ot_b := ot_b) (ch_b := ch_b) (nc_b := nc_b) (g0_b := g0_b) (rs_c := rs_c) (sk_c := sk_c) (ot_c := ot_c) (ch_c := ch_c) (nc_c := nc_c) (g0_c := g0_c) h_mt h_al h_ij0 h_t0j0 h_a0j0 h_ij1 h_t0j1 h_a0j1 h_ij2 h_t0j2 h_a0j2 hAj hq0 hq1 hq2 hq3) h_mt rfl hY_X2_target mm_X2_148 mi_X2_target ml_X2_target ⟨(Nat.le_of_ble_eq_true rfl), (Nat.le_of_ble_eq_true rfl)⟩ rfl hl.1 rfl (Nat.le_of_ble_eq_true rfl) dX2_outcome_60 ⟨(Nat.le_of_ble_eq_true rfl), (Nat.le_of_ble_eq_true rfl)⟩) (kx_no rfl) (fun r47 u46 H locs hp45 G => ?_)
        obtain ⟨er48, eu46⟩ := hp45
        rw [eu46] at G
        refine lv_topv (v := (X2_target2_r0 g0_a g0_b g0_c)) er48 ?_
        refine lv_iconst (v := 1) hx hb dX2_outcome_63 (by decide) ?_
        refine lv_isub hx hb dX2_outcome_64 ?_
        have J51 : ∀ (y50 : Int32) (_ : y50 = (X2_outcome32_x0 fi g0 g0_a g0_b g0_c)) (H : Heap) (locs : List Loc) (ls : Array Slot), hG D (hA f sz) f s9 H locs → lv_has ls 2 [(1, .int (X2_battingTeam_x0 fi 3)), (0, .ref (A (b + 0)))] → W p9 l e9 ({ frames := 3, cells := 0, slots := 0, locals := 66 } : Room) s9 m9 ([.ref (A (b + 0))] : List Value).toArray b9 t9 c9 H locs 0 0 (vx_MQ b9 (hQi (fun r u => r = (X2_outcome32_r1 ex ov fi g0 g0_a g0_b g0_c) ∧ u = f) D f sz) (hPx hNo D f sz) ([.ref (A (b + 0))] : List Value).toArray s9 0 0 (hA f sz)) (F0 m9 75 ls [.int y50]) := by
          intro y50 ey50 H locs ls G hl
          replace ey50 := Eq.symm ey50
          subst ey50
          exact g_iret C0 G hr dX2_outcome_75 (Nat.le_of_ble_eq_true rfl) (Nat.le_of_ble_eq_true rfl) (by exact ⟨(by rw [X2_outcome32_r1, if_neg c11, if_neg c12, if_pos c37]), rfl⟩)
        refine lv_icmp_ne (tgt := 72) hx hb dX2_outcome_65 (by decide) (fun c49 => ?_) (fun c49 => ?_)
        · refine lv_iconst (v := 2) hx hb dX2_outcome_72 (by decide) ?_
          refine lv_iload_n hx hb dX2_outcome_73 rfl (lv_at hl 0 rfl) ?_
          refine lv_isub hx hb dX2_outcome_74 ?_
          exact J51 (2 - (X2_battingTeam_x0 fi 3)) (by rw [X2_outcome32_x0, if_neg c49]) _ _ _ G (lv_sub hl [0, 1] rfl)
        · refine lv_iconst (v := 3) hx hb dX2_outcome_68 (by decide) ?_
          refine lv_goto (tgt := 75) hx hb dX2_outcome_69 (by decide) ?_
          exact J51 3 (by rw [X2_outcome32_x0, if_pos c49]) _ _ _ G (lv_sub hl [0, 1] rfl)
      · refine lv_iconst (v := 1) hx hb dX2_outcome_47 (by decide) ?_
        refine lv_iload_n hx hb dX2_outcome_48 rfl (lv_at hl 0 rfl) ?_
        refine lv_iadd hx hb dX2_outcome_49 ?_
        exact g_iret C0 G hr dX2_outcome_50 (Nat.le_of_ble_eq_true rfl) (Nat.le_of_ble_eq_true rfl) (by exact ⟨(by rw [X2_outcome32_r1, if_neg c11, if_neg c12, if_neg c37]), rfl⟩)
    · refine lv_iconst (v := 0) hx hb dX2_outcome_14 (by decide) ?_
      exact g_iret C0 G hr dX2_outcome_15 (Nat.le_of_ble_eq_true rfl) (Nat.le_of_ble_eq_true rfl) (by exact ⟨(by rw [X2_outcome32_r1, if_neg c11, if_pos c12]), rfl⟩)
