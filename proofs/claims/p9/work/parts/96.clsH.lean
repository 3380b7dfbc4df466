def X1_hasMatch_x0 (le : Int32) : Int32 := if le ≤ 0 then 0 else 1
set_option maxRecDepth 100000 in
theorem c_X1_hasMatch {l : Launch} (hfl : l.stackTraces = false) {D : va_G} {cy : Nat → ClassId} {f : Hf} {sz : Nat} {lg : Nat} {no : Nat} {sa : Nat} {ea : Nat} {lo : Int32} {le : Int32} {lfi : Int32} {lsc : Int32} {lcm : Int32} {lun : Int32} (h_lg : f lg = some (.inr (3, [.ref no, .ref sa, .ref ea, .int lo, .int le, .int lfi, .int lsc, .int lcm, .int lun])))  : hMet l yX1_hasMatch cX1_hasMatch 1 (some .boolean) { frames := 0, cells := 0, slots := 0, locals := 0 } D (hTy cy) f sz [.ref lg] (hQi (fun r u => r = (X1_hasMatch_x0 le) ∧ u = f) D f sz) hNo := by
  refine h_enter (by decide) hfl (Nat.le_of_ble_eq_true rfl) ?_
  intro p9 e9 s9 m9 b9 t9 c9 hsz C0 hr hnm G ls hl
  have hx := C0.1.1
  have hb := C0.1.2.1
  have hl : lv_has ls 1 [(0, .ref lg)] := hl
  refine lv_aload_n hx hb dX1_hasMatch_0 rfl (lv_at hl 0 rfl) ?_
  refine g_get C0 G h_lg rfl hiX1 4 (by decide) mf_X1_32 rfl dX1_hasMatch_1 ?_
  have J13 : ∀ (y12 : Int32) (_ : y12 = (X1_hasMatch_x0 le)) (H : Heap) (locs : List Loc) (ls : Array Slot), hG D (hA f sz) f s9 H locs → lv_has ls 1 [(0, .ref lg)] → W p9 l e9 ({ frames := 0, cells := 0, slots := 0, locals := 0 } : Room) s9 m9 ([.ref lg] : List Value).toArray b9 t9 c9 H locs 0 0 (vx_MQ b9 (hQi (fun r u => r = (X1_hasMatch_x0 le) ∧ u = f) D f sz) (hPx hNo D f sz) ([.ref lg] : List Value).toArray s9 0 0 (hA f sz)) (F0 m9 12 ls [.int y12]) := by
    intro y12 ey12 H locs ls G hl
    replace ey12 := Eq.symm ey12
    subst ey12
    exact g_zret C0 G hr dX1_hasMatch_12 (hZb (by unfold X1_hasMatch_x0; split; exact (Or.inl rfl); exact (Or.inr rfl))) (Nat.le_of_ble_eq_true rfl) (Nat.le_of_ble_eq_true rfl) (by exact ⟨rfl, rfl⟩)
  refine lv_if_le (tgt := 11) hx hb dX1_hasMatch_4 (by decide) (fun c11 => ?_) (fun c11 => ?_)
  · refine lv_iconst (v := 0) hx hb dX1_hasMatch_11 (by decide) ?_
    exact J13 0 (by rw [X1_hasMatch_x0, if_pos c11]) _ _ _ G (lv_sub hl [0] rfl)
  · refine lv_iconst (v := 1) hx hb dX1_hasMatch_7 (by decide) ?_
    refine lv_goto (tgt := 12) hx hb dX1_hasMatch_8 (by decide) ?_
    exact J13 1 (by rw [X1_hasMatch_x0, if_neg c11]) _ _ _ G (lv_sub hl [0] rfl)
theorem b_c_X1_hasMatch (le : Int32) : (X1_hasMatch_x0 le) = 0 ∨ (X1_hasMatch_x0 le) = 1 := (by unfold X1_hasMatch_x0; split; exact (Or.inl rfl); exact (Or.inr rfl))
set_option maxRecDepth 100000 in
theorem c_X1_start {l : Launch} (hfl : l.stackTraces = false) {D : va_G} {cy : Nat → ClassId} {f : Hf} {sz : Nat} {lg : Nat} {no : Nat} {sa : Nat} {ea : Nat} {lo : Int32} {le : Int32} {lfi : Int32} {lsc : Int32} {lcm : Int32} {lun : Int32} (ov9 : Int32) (ie9 : Int32) (fi9 : Int32) (h_lg : f lg = some (.inr (3, [.ref no, .ref sa, .ref ea, .int lo, .int le, .int lfi, .int lsc, .int lcm, .int lun])))  : hMet l yX1_start cX1_start 4 none { frames := 0, cells := 0, slots := 0, locals := 0 } D (hTy cy) f sz [.ref lg, .int ov9, .int ie9, .int fi9] (hQv (fun u => u lg = some (.inr (3, [.ref no, .ref sa, .ref ea, .int ov9, .int ie9, .int fi9, .int 0, .int 0, .int 0])) ∧ hFrL f u [lg]) D f sz) hNo := by
  refine h_enter (by decide) hfl (Nat.le_of_ble_eq_true rfl) ?_
  intro p9 e9 s9 m9 b9 t9 c9 hsz C0 hr hnm G ls hl
  have hx := C0.1.1
  have hb := C0.1.2.1
  have hl : lv_has ls 4 [(0, .ref lg), (1, .int ov9), (2, .int ie9), (3, .int fi9)] := hl
  refine lv_aload_n hx hb dX1_start_0 rfl (lv_at hl 0 rfl) ?_
  refine lv_iload_n hx hb dX1_start_1 rfl (lv_at hl 1 rfl) ?_
  refine g_put C0 G h_lg rfl hiX1 tyX1 tyX1_ok nmX1 3 (by decide) mf_X1_28 rfl rfl rfl rfl (Nat.le_of_ble_eq_true rfl) dX1_start_2 (fun H locs f11 hf11 G => ?_)
  have k12 : f11 lg = some (.inr (3, [.ref no, .ref sa, .ref ea, .int ov9, .int le, .int lfi, .int lsc, .int lcm, .int lun])) := hus hf11
  refine lv_aload_n hx hb dX1_start_5 rfl (lv_at hl 0 rfl) ?_
  refine lv_iload_n hx hb dX1_start_6 rfl (lv_at hl 2 rfl) ?_
  refine g_put C0 G k12 rfl hiX1 tyX1 tyX1_ok nmX1 4 (by decide) mf_X1_32 rfl rfl rfl rfl (Nat.le_of_ble_eq_true rfl) dX1_start_7 (fun H locs f13 hf13 G => ?_)
  have k14 : f13 lg = some (.inr (3, [.ref no, .ref sa, .ref ea, .int ov9, .int ie9, .int lfi, .int lsc, .int lcm, .int lun])) := hus hf13
  refine lv_aload_n hx hb dX1_start_10 rfl (lv_at hl 0 rfl) ?_
  refine lv_iload_n hx hb dX1_start_11 rfl (lv_at hl 3 rfl) ?_
  refine g_put C0 G k14 rfl hiX1 tyX1 tyX1_ok nmX1 5 (by decide) mf_X1_35 rfl rfl rfl rfl (Nat.le_of_ble_eq_true rfl) dX1_start_12 (fun H locs f15 hf15 G => ?_)
  have k16 : f15 lg = some (.inr (3, [.ref no, .ref sa, .ref ea, .int ov9, .int ie9, .int fi9, .int lsc, .int lcm, .int lun])) := hus hf15
  refine lv_aload_n hx hb dX1_start_15 rfl (lv_at hl 0 rfl) ?_
  refine lv_iconst (v := 0) hx hb dX1_start_16 (by decide) ?_
  refine g_put C0 G k16 rfl hiX1 tyX1 tyX1_ok nmX1 6 (by decide) mf_X1_38 rfl rfl rfl rfl (Nat.le_of_ble_eq_true rfl) dX1_start_17 (fun H locs f17 hf17 G => ?_)
  have k18 : f17 lg = some (.inr (3, [.ref no, .ref sa, .ref ea, .int ov9, .int ie9, .int fi9, .int 0, .int lcm, .int lun])) := hus hf17
  refine lv_aload_n hx hb dX1_start_20 rfl (lv_at hl 0 rfl) ?_
  refine lv_iconst (v := 0) hx hb dX1_start_21 (by decide) ?_
  refine g_put C0 G k18 rfl hiX1 tyX1 tyX1_ok nmX1 7 (by decide) mf_X1_41 rfl rfl rfl rfl (Nat.le_of_ble_eq_true rfl) dX1_start_22 (fun H locs f19 hf19 G => ?_)
  have k20 : f19 lg = some (.inr (3, [.ref no, .ref sa, .ref ea, .int ov9, .int ie9, .int fi9, .int 0, .int 0, .int lun])) := hus hf19
  refine lv_aload_n hx hb dX1_start_25 rfl (lv_at hl 0 rfl) ?_
  refine lv_iconst (v := 0) hx hb dX1_start_26 (by decide) ?_
  refine g_put C0 G k20 rfl hiX1 tyX1 tyX1_ok nmX1 8 (by decide) mf_X1_44 rfl rfl rfl rfl (Nat.le_of_ble_eq_true rfl) dX1_start_27 (fun H locs f21 hf21 G => ?_)
  have k22 : f21 lg = some (.inr (3, [.ref no, .ref sa, .ref ea, .int ov9, .int ie9, .int fi9, .int 0, .int 0, .int 0])) := hus hf21
  exact g_vret C0 G hr dX1_start_30 (Nat.le_of_ble_eq_true rfl) (Nat.le_of_ble_eq_true rfl) (by exact ⟨k22, (fun a9 e9 h7 h8 => hup hf21 (fun q => h7 (by rw [q]; simp)) (hup hf19 (fun q => h7 (by rw [q]; simp)) (hup hf17 (fun q => h7 (by rw [q]; simp)) (hup hf15 (fun q => h7 (by rw [q]; simp)) (hup hf13 (fun q => h7 (by rw [q]; simp)) (hup hf11 (fun q => h7 (by rw [q]; simp)) (h8)))))))⟩)
def X1_hasRoom_x0 (nC : Nat) : Int32 := if 512 ≤ (nI nC) then 0 else 1
def X1_hasRoom_x1 (nS : Nat) (nC : Nat) (kk : Nat) : Int32 := if 512 < (nI (nS + kk)) then 0 else (X1_hasRoom_x0 nC)
set_option maxRecDepth 100000 in
theorem c_X1_hasRoom {l : Launch} (hfl : l.stackTraces = false) {D : va_G} {cy : Nat → ClassId} {f : Hf} {sz : Nat} {lg : Nat} {no : Nat} {sa : Nat} {ea : Nat} {lo : Int32} {le : Int32} {lfi : Int32} {lun : Int32} {nS : Nat} {nC : Nat} {kk : Nat} {qs : Nat → Option Nat} {ge : Nat → Int32} (h_lg : f lg = some (.inr (3, [.ref no, .ref sa, .ref ea, .int lo, .int le, .int lfi, .int (nI nS), .int (nI nC), .int lun]))) (h_sa : f sa = some (.inl (cy 4, 512, .inr (.inr (.inr (.inr qs)))))) (h_ea : f ea = some (.inl (cy 0, 512, .inl ge))) (hkk : kk ≤ 60) (hnS : nS ≤ 512) (hnC : nC ≤ 512) : hMet l yX1_hasRoom cX1_hasRoom 2 (some .boolean) { frames := 0, cells := 0, slots := 0, locals := 0 } D (hTy cy) f sz [.ref lg, .int (nI kk)] (hQi (fun r u => r = (X1_hasRoom_x1 nS nC kk) ∧ u = f) D f sz) hNo := by
  refine h_enter (by decide) hfl (Nat.le_of_ble_eq_true rfl) ?_
  intro p9 e9 s9 m9 b9 t9 c9 hsz C0 hr hnm G ls hl
  have hx := C0.1.1
  have hb := C0.1.2.1
  have hl : lv_has ls 2 [(0, .ref lg), (1, .int (nI kk))] := hl
  refine lv_aload_n hx hb dX1_hasRoom_0 rfl (lv_at hl 0 rfl) ?_
  refine g_get C0 G h_lg rfl hiX1 6 (by decide) mf_X1_38 rfl dX1_hasRoom_1 ?_
  refine lv_iload_n hx hb dX1_hasRoom_4 rfl (lv_at hl 1 rfl) ?_
  refine lv_iadd hx hb dX1_hasRoom_5 ?_
  refine lv_topv (v := nI (nS + kk)) ((nI_add _ _)) ?_
  refine lv_aload_n hx hb dX1_hasRoom_6 rfl (lv_at hl 0 rfl) ?_
  refine g_get C0 G h_lg rfl hiX1 1 (by decide) mf_X1_20 rfl dX1_hasRoom_7 ?_
  refine g_alen C0 G h_sa 4 rfl (v := 512) rfl dX1_hasRoom_10 ?_
  have J13 : ∀ (y12 : Int32) (_ : y12 = (X1_hasRoom_x1 nS nC kk)) (H : Heap) (locs : List Loc) (ls : Array Slot), hG D (hA f sz) f s9 H locs → lv_has ls 2 [(0, .ref lg), (1, .int (nI kk))] → W p9 l e9 ({ frames := 0, cells := 0, slots := 0, locals := 0 } : Room) s9 m9 ([.ref lg, .int (nI kk)] : List Value).toArray b9 t9 c9 H locs 0 0 (vx_MQ b9 (hQi (fun r u => r = (X1_hasRoom_x1 nS nC kk) ∧ u = f) D f sz) (hPx hNo D f sz) ([.ref lg, .int (nI kk)] : List Value).toArray s9 0 0 (hA f sz)) (F0 m9 31 ls [.int y12]) := by
    intro y12 ey12 H locs ls G hl
    replace ey12 := Eq.symm ey12
    subst ey12
    exact g_zret C0 G hr dX1_hasRoom_31 (hZb (by unfold X1_hasRoom_x1; split; exact (Or.inl rfl); exact (by unfold X1_hasRoom_x0; split; exact (Or.inl rfl); exact (Or.inr rfl)))) (Nat.le_of_ble_eq_true rfl) (Nat.le_of_ble_eq_true rfl) (by exact ⟨rfl, rfl⟩)
  refine lv_icmp_gt (tgt := 30) hx hb dX1_hasRoom_11 (by decide) (fun c11 => ?_) (fun c11 => ?_)
  · have n15 : 512 < (nS + kk) := (nI_ltI (a := 512) (b := (nS + kk)) (by omega) (by omega)).mp c11
    refine lv_iconst (v := 0) hx hb dX1_hasRoom_30 (by decide) ?_
    exact J13 0 (by rw [X1_hasRoom_x1, if_pos c11]) _ _ _ G (lv_sub hl [0, 1] rfl)
  · have n16 : ¬ 512 < (nS + kk) := fun q => c11 ((nI_ltI (a := 512) (b := (nS + kk)) (by omega) (by omega)).mpr q)
    refine lv_aload_n hx hb dX1_hasRoom_14 rfl (lv_at hl 0 rfl) ?_
    refine g_get C0 G h_lg rfl hiX1 7 (by decide) mf_X1_41 rfl dX1_hasRoom_15 ?_
    refine lv_aload_n hx hb dX1_hasRoom_18 rfl (lv_at hl 0 rfl) ?_
    refine g_get C0 G h_lg rfl hiX1 2 (by decide) mf_X1_24 rfl dX1_hasRoom_19 ?_
    refine g_alen C0 G h_ea 0 rfl (v := 512) rfl dX1_hasRoom_22 ?_
    have J19 : ∀ (y18 : Int32) (_ : y18 = (X1_hasRoom_x0 nC)) (H : Heap) (locs : List Loc) (ls : Array Slot), hG D (hA f sz) f s9 H locs → lv_has ls 2 [(0, .ref lg), (1, .int (nI kk))] → W p9 l e9 ({ frames := 0, cells := 0, slots := 0, locals := 0 } : Room) s9 m9 ([.ref lg, .int (nI kk)] : List Value).toArray b9 t9 c9 H locs 0 0 (vx_MQ b9 (hQi (fun r u => r = (X1_hasRoom_x1 nS nC kk) ∧ u = f) D f sz) (hPx hNo D f sz) ([.ref lg, .int (nI kk)] : List Value).toArray s9 0 0 (hA f sz)) (F0 m9 31 ls [.int y18]) := by
      intro y18 ey18 H locs ls G hl
      replace ey18 := Eq.symm ey18
      subst ey18
      exact J13 (X1_hasRoom_x0 nC) (by rw [X1_hasRoom_x1, if_neg c11]) _ _ _ G (lv_sub hl [0, 1] rfl)
    refine lv_icmp_ge (tgt := 30) hx hb dX1_hasRoom_23 (by decide) (fun c17 => ?_) (fun c17 => ?_)
    · have n21 : 512 ≤ nC := (nI_leI (a := 512) (b := nC) (by omega) (by omega)).mp c17
      refine lv_iconst (v := 0) hx hb dX1_hasRoom_30 (by decide) ?_
      exact J19 0 (by rw [X1_hasRoom_x0, if_pos c17]) _ _ _ G (lv_sub hl [0, 1] rfl)
    · have n22 : ¬ 512 ≤ nC := fun q => c17 ((nI_leI (a := 512) (b := nC) (by omega) (by omega)).mpr q)
      refine lv_iconst (v := 1) hx hb dX1_hasRoom_26 (by decide) ?_
      refine lv_goto (tgt := 31) hx hb dX1_hasRoom_27 (by decide) ?_
      exact J19 1 (by rw [X1_hasRoom_x0, if_neg c17]) _ _ _ G (lv_sub hl [0, 1] rfl)
theorem b_c_X1_hasRoom (nS : Nat) (nC : Nat) (kk : Nat) : (X1_hasRoom_x1 nS nC kk) = 0 ∨ (X1_hasRoom_x1 nS nC kk) = 1 := (by unfold X1_hasRoom_x1; split; exact (Or.inl rfl); exact (by unfold X1_hasRoom_x0; split; exact (Or.inl rfl); exact (Or.inr rfl)))
set_option maxRecDepth 100000 in
theorem c_X1_step {l : Launch} (hfl : l.stackTraces = false) {D : va_G} {cy : Nat → ClassId} {f : Hf} {sz : Nat} {lg : Nat} {no : Nat} {sa : Nat} {ea : Nat} {sj : Nat} {lo : Int32} {le : Int32} {lfi : Int32} {lcm : Int32} {lun : Int32} {nS : Nat} {jj : Nat} {qs : Nat → Option Nat} (h_lg : f lg = some (.inr (3, [.ref no, .ref sa, .ref ea, .int lo, .int le, .int lfi, .int (nI nS), .int lcm, .int lun]))) (h_sa : f sa = some (.inl (cy 4, 512, .inr (.inr (.inr (.inr qs)))))) (hj : jj < nS) (hnS : nS ≤ 512) (hqj : qs jj = some sj) : hMet l yX1_step cX1_step 2 (some (.object "WicketScorer$Step")) { frames := 0, cells := 0, slots := 0, locals := 0 } D (hTy cy) f sz [.ref lg, .int (nI jj)] (hQr (fun r u => r = sj ∧ u = f) D f sz) hNo := by
  refine h_enter (by decide) hfl (Nat.le_of_ble_eq_true rfl) ?_
  intro p9 e9 s9 m9 b9 t9 c9 hsz C0 hr hnm G ls hl
  have hx := C0.1.1
  have hb := C0.1.2.1
  have hl : lv_has ls 2 [(0, .ref lg), (1, .int (nI jj))] := hl
  refine lv_iload_n hx hb dX1_step_0 rfl (lv_at hl 1 rfl) ?_
  refine lv_if_lt (tgt := 30) hx hb dX1_step_1 (by decide) (fun c11 => absurd c11 ((nI_pos (by omega)))) (fun _ => ?_)
  refine lv_iload_n hx hb dX1_step_4 rfl (lv_at hl 1 rfl) ?_
  refine lv_aload_n hx hb dX1_step_5 rfl (lv_at hl 0 rfl) ?_
  refine g_get C0 G h_lg rfl hiX1 6 (by decide) mf_X1_38 rfl dX1_step_6 ?_
  refine lv_icmp_ge (tgt := 30) hx hb dX1_step_9 (by decide) (fun c12 => absurd c12 ((fun q => absurd ((nI_leI (a := nS) (b := jj) (by omega) (by omega)).mp q) (by omega)))) (fun _ => ?_)
  refine lv_iload_n hx hb dX1_step_12 rfl (lv_at hl 1 rfl) ?_
  refine lv_aload_n hx hb dX1_step_13 rfl (lv_at hl 0 rfl) ?_
  refine g_get C0 G h_lg rfl hiX1 1 (by decide) mf_X1_20 rfl dX1_step_14 ?_
  refine g_alen C0 G h_sa 4 rfl (v := 512) rfl dX1_step_17 ?_
  refine lv_icmp_ge (tgt := 30) hx hb dX1_step_18 (by decide) (fun c13 => absurd c13 ((fun q => absurd ((nI_leI (a := 512) (b := jj) (by omega) (by omega)).mp q) (by omega)))) (fun _ => ?_)
  refine lv_aload_n hx hb dX1_step_21 rfl (lv_at hl 0 rfl) ?_
  refine g_get C0 G h_lg rfl hiX1 1 (by decide) mf_X1_20 rfl dX1_step_22 ?_
  refine lv_iload_n hx hb dX1_step_25 rfl (lv_at hl 1 rfl) ?_
  refine g_aald C0 G h_sa 4 rfl (vp_in_nI (by omega) (by omega)) (v := .ref sj) (by rw [nI_c (by omega), hqj]; rfl) dX1_step_26 ?_
  refine lv_goto (tgt := 34) hx hb dX1_step_27 (by decide) ?_
  exact g_aret C0 G hr dX1_step_34 (Nat.le_of_ble_eq_true rfl) (Nat.le_of_ble_eq_true rfl) (by exact ⟨rfl, rfl⟩)
set_option maxRecDepth 100000 in
theorem c_X1_add {l : Launch} (hfl : l.stackTraces = false) {D : va_G} {cy : Nat → ClassId} {f : Hf} {sz : Nat} {lg : Nat} {no : Nat} {sa : Nat} {ea : Nat} {st : Nat} {lo : Int32} {le : Int32} {lfi : Int32} {lcm : Int32} {lun : Int32} {nS : Nat} {qs : Nat → Option Nat} {ty : Int32} {nu : Int32} {wy : Int32} {kd : Int32} {ru : Int32} {so : Int32} {sb : Int32} {sc : Int32} {sh : Int32} (h_lg : f lg = some (.inr (3, [.ref no, .ref sa, .ref ea, .int lo, .int le, .int lfi, .int (nI nS), .int lcm, .int lun]))) (h_sa : f sa = some (.inl (cy 4, 512, .inr (.inr (.inr (.inr qs)))))) (h_st : f st = some (.inr (7, [.int ty, .int nu, .int wy, .int kd, .int ru, .int so, .int sb, .int sc, .int sh]))) (hnS : nS < 512) : hMet l yX1_add cX1_add 2 none { frames := 0, cells := 0, slots := 0, locals := 0 } D (hTy cy) f sz [.ref lg, .ref st] (hQv (fun u => u sa = some (.inl (cy 4, 512, .inr (.inr (.inr (.inr (va_up qs nS (some st))))))) ∧ u lg = some (.inr (3, [.ref no, .ref sa, .ref ea, .int lo, .int le, .int lfi, .int (nI (nS + 1)), .int lcm, .int lun])) ∧ hFrL f u [sa, lg]) D f sz) hNo := by
  refine h_enter (by decide) hfl (Nat.le_of_ble_eq_true rfl) ?_
  intro p9 e9 s9 m9 b9 t9 c9 hsz C0 hr hnm G ls hl
  have hx := C0.1.1
  have hb := C0.1.2.1
  have hl : lv_has ls 2 [(0, .ref lg), (1, .ref st)] := hl
  refine lv_aload_n hx hb dX1_add_0 rfl (lv_at hl 0 rfl) ?_
  refine g_get C0 G h_lg rfl hiX1 6 (by decide) mf_X1_38 rfl dX1_add_1 ?_
  refine lv_if_lt (tgt := 39) hx hb dX1_add_4 (by decide) (fun c11 => absurd c11 ((nI_pos (by omega)))) (fun _ => ?_)
  refine lv_aload_n hx hb dX1_add_7 rfl (lv_at hl 0 rfl) ?_
  refine g_get C0 G h_lg rfl hiX1 6 (by decide) mf_X1_38 rfl dX1_add_8 ?_
  refine lv_aload_n hx hb dX1_add_11 rfl (lv_at hl 0 rfl) ?_
  refine g_get C0 G h_lg rfl hiX1 1 (by decide) mf_X1_20 rfl dX1_add_12 ?_
  refine g_alen C0 G h_sa 4 rfl (v := 512) rfl dX1_add_15 ?_
  refine lv_icmp_ge (tgt := 39) hx hb dX1_add_16 (by decide) (fun c12 => absurd c12 ((fun q => absurd ((nI_leI (a := 512) (b := nS) (by omega) (by omega)).mp q) (by omega)))) (fun _ => ?_)
  refine lv_aload_n hx hb dX1_add_19 rfl (lv_at hl 0 rfl) ?_
  refine g_get C0 G h_lg rfl hiX1 1 (by decide) mf_X1_20 rfl dX1_add_20 ?_
  refine lv_aload_n hx hb dX1_add_23 rfl (lv_at hl 0 rfl) ?_
  refine g_get C0 G h_lg rfl hiX1 6 (by decide) mf_X1_38 rfl dX1_add_24 ?_
  refine lv_aload_n hx hb dX1_add_27 rfl (lv_at hl 1 rfl) ?_
  refine g_aast C0 G h_sa 4 rfl h_st rfl (vp_in_nI (by omega) (by omega)) dX1_add_28 (fun H locs f13 hf13 G => ?_)
  have k14 : f13 sa = some (.inl (cy 4, 512, .inr (.inr (.inr (.inr (va_up qs nS (some st))))))) := (by have h9 := hus hf13; rw [nI_c (by omega)] at h9; exact h9)
  refine lv_aload_n hx hb dX1_add_29 rfl (lv_at hl 0 rfl) ?_
  refine lv_dup hx hb dX1_add_30 rfl ?_
  have k15 : f13 lg = some (.inr (3, [.ref no, .ref sa, .ref ea, .int lo, .int le, .int lfi, .int (nI nS), .int lcm, .int lun])) := hup hf13 (hne h_lg h_sa (by intro q; cases q)) h_lg
  refine g_get C0 G k15 rfl hiX1 6 (by decide) mf_X1_38 rfl dX1_add_31 ?_
  refine lv_iconst (v := 1) hx hb dX1_add_34 (by decide) ?_
  refine lv_iadd hx hb dX1_add_35 ?_
  refine lv_topv (v := nI (nS + 1)) ((nI_add _ _)) ?_
  refine g_put C0 G k15 rfl hiX1 tyX1 tyX1_ok nmX1 6 (by decide) mf_X1_38 rfl rfl rfl rfl (Nat.le_of_ble_eq_true rfl) dX1_add_36 (fun H locs f16 hf16 G => ?_)
  have k17 : f16 lg = some (.inr (3, [.ref no, .ref sa, .ref ea, .int lo, .int le, .int lfi, .int (nI (nS + 1)), .int lcm, .int lun])) := hus hf16
  have k18 : f16 sa = some (.inl (cy 4, 512, .inr (.inr (.inr (.inr (va_up qs nS (some st))))))) := hup hf16 (hne k14 k15 (by intro q; cases q)) k14
  exact g_vret C0 G hr dX1_add_39 (Nat.le_of_ble_eq_true rfl) (Nat.le_of_ble_eq_true rfl) (by exact ⟨k18, k17, (fun a9 e9 h7 h8 => hup hf16 (fun q => h7 (by rw [q]; simp)) (hup hf13 (fun q => h7 (by rw [q]; simp)) (h8)))⟩)
def X1_endCommand_g0 (lsc : Int32) (nC : Nat) (ge : Nat → Int32) : Nat → Int32 := upd ge nC lsc
set_option maxRecDepth 100000 in
theorem c_X1_endCommand {l : Launch} (hfl : l.stackTraces = false) {D : va_G} {cy : Nat → ClassId} {f : Hf} {sz : Nat} {lg : Nat} {no : Nat} {sa : Nat} {ea : Nat} {lo : Int32} {le : Int32} {lfi : Int32} {lsc : Int32} {lun : Int32} {nC : Nat} {ge : Nat → Int32} (h_lg : f lg = some (.inr (3, [.ref no, .ref sa, .ref ea, .int lo, .int le, .int lfi, .int lsc, .int (nI nC), .int lun]))) (h_ea : f ea = some (.inl (cy 0, 512, .inl ge))) (hnC : nC < 512) : hMet l yX1_endCommand cX1_endCommand 1 none { frames := 1, cells := 0, slots := 0, locals := 14 } D (hTy cy) f sz [.ref lg] (hQv (fun u => u ea = some (.inl (cy 0, 512, .inl (X1_endCommand_g0 lsc nC ge))) ∧ u lg = some (.inr (3, [.ref no, .ref sa, .ref ea, .int lo, .int le, .int lfi, .int lsc, .int (nI (nC + 1)), .int ((if 7 < lun then 7 else lun) + 1)])) ∧ hFrL f u [ea, lg]) D f sz) hNo := by
  refine h_enter (by decide) hfl (Nat.le_of_ble_eq_true rfl) ?_
  intro p9 e9 s9 m9 b9 t9 c9 hsz C0 hr hnm G ls hl
  have hx := C0.1.1
  have hb := C0.1.2.1
  have hl : lv_has ls 1 [(0, .ref lg)] := hl
  refine lv_aload_n hx hb dX1_endCommand_0 rfl (lv_at hl 0 rfl) ?_
  refine g_get C0 G h_lg rfl hiX1 7 (by decide) mf_X1_41 rfl dX1_endCommand_1 ?_
  refine lv_if_lt (tgt := 57) hx hb dX1_endCommand_4 (by decide) (fun c11 => absurd c11 ((nI_pos (by omega)))) (fun _ => ?_)
  refine lv_aload_n hx hb dX1_endCommand_7 rfl (lv_at hl 0 rfl) ?_
  refine g_get C0 G h_lg rfl hiX1 7 (by decide) mf_X1_41 rfl dX1_endCommand_8 ?_
  refine lv_aload_n hx hb dX1_endCommand_11 rfl (lv_at hl 0 rfl) ?_
  refine g_get C0 G h_lg rfl hiX1 2 (by decide) mf_X1_24 rfl dX1_endCommand_12 ?_
  refine g_alen C0 G h_ea 0 rfl (v := 512) rfl dX1_endCommand_15 ?_
  refine lv_icmp_ge (tgt := 57) hx hb dX1_endCommand_16 (by decide) (fun c12 => absurd c12 ((fun q => absurd ((nI_leI (a := 512) (b := nC) (by omega) (by omega)).mp q) (by omega)))) (fun _ => ?_)
  refine lv_aload_n hx hb dX1_endCommand_19 rfl (lv_at hl 0 rfl) ?_
  refine g_get C0 G h_lg rfl hiX1 2 (by decide) mf_X1_24 rfl dX1_endCommand_20 ?_
  refine lv_aload_n hx hb dX1_endCommand_23 rfl (lv_at hl 0 rfl) ?_
  refine g_get C0 G h_lg rfl hiX1 7 (by decide) mf_X1_41 rfl dX1_endCommand_24 ?_
  refine lv_aload_n hx hb dX1_endCommand_27 rfl (lv_at hl 0 rfl) ?_
  refine g_get C0 G h_lg rfl hiX1 6 (by decide) mf_X1_38 rfl dX1_endCommand_28 ?_
  refine g_iast C0 G h_ea 0 rfl (vp_in_nI (by omega) (by omega)) dX1_endCommand_31 (fun H locs f13 hf13 G => ?_)
  have k14 : f13 ea = some (.inl (cy 0, 512, .inl (X1_endCommand_g0 lsc nC ge))) := (by have h9 := hus hf13; rw [nI_c (by omega)] at h9; exact h9)
  refine lv_aload_n hx hb dX1_endCommand_32 rfl (lv_at hl 0 rfl) ?_
  refine lv_dup hx hb dX1_endCommand_33 rfl ?_
  have k15 : f13 lg = some (.inr (3, [.ref no, .ref sa, .ref ea, .int lo, .int le, .int lfi, .int lsc, .int (nI nC), .int lun])) := hup hf13 (hne h_lg h_ea (by intro q; cases q)) h_lg
  refine g_get C0 G k15 rfl hiX1 7 (by decide) mf_X1_41 rfl dX1_endCommand_34 ?_
  refine lv_iconst (v := 1) hx hb dX1_endCommand_37 (by decide) ?_
  refine lv_iadd hx hb dX1_endCommand_38 ?_
  refine lv_topv (v := nI (nC + 1)) ((nI_add _ _)) ?_
  refine g_put C0 G k15 rfl hiX1 tyX1 tyX1_ok nmX1 7 (by decide) mf_X1_41 rfl rfl rfl rfl (Nat.le_of_ble_eq_true rfl) dX1_endCommand_39 (fun H locs f16 hf16 G => ?_)
  have k17 : f16 lg = some (.inr (3, [.ref no, .ref sa, .ref ea, .int lo, .int le, .int lfi, .int lsc, .int (nI (nC + 1)), .int lun])) := hus hf16
  refine lv_aload_n hx hb dX1_endCommand_42 rfl (lv_at hl 0 rfl) ?_
  refine lv_aload_n hx hb dX1_endCommand_43 rfl (lv_at hl 0 rfl) ?_
  refine g_get C0 G k17 rfl hiX1 8 (by decide) mf_X1_44 rfl dX1_endCommand_44 ?_
  refine lv_bipush (v := 7) hx hb dX1_endCommand_47 (by decide) ?_
  refine g_min C0 mm_X1_47 hl.1 (Nat.le_of_ble_eq_true rfl) (Nat.le_of_ble_eq_true rfl) ⟨(Nat.le_of_ble_eq_true rfl), (Nat.le_of_ble_eq_true rfl)⟩ dX1_endCommand_49 ?_
  refine lv_iconst (v := 1) hx hb dX1_endCommand_52 (by decide) ?_
  refine lv_iadd hx hb dX1_endCommand_53 ?_
  refine g_put C0 G k17 rfl hiX1 tyX1 tyX1_ok nmX1 8 (by decide) mf_X1_44 rfl rfl rfl rfl (Nat.le_of_ble_eq_true rfl) dX1_endCommand_54 (fun H locs f18 hf18 G => ?_)
  have k19 : f18 lg = some (.inr (3, [.ref no, .ref sa, .ref ea, .int lo, .int le, .int lfi, .int lsc, .int (nI (nC + 1)), .int ((if 7 < lun then 7 else lun) + 1)])) := hus hf18
  have k20 : f18 ea = some (.inl (cy 0, 512, .inl (X1_endCommand_g0 lsc nC ge))) := hup hf18 (hne (hup hf16 (hne k14 k15 (by intro q; cases q)) k14) k17 (by intro q; cases q)) (hup hf16 (hne k14 k15 (by intro q; cases q)) k14)
  exact g_vret C0 G hr dX1_endCommand_57 (Nat.le_of_ble_eq_true rfl) (Nat.le_of_ble_eq_true rfl) (by exact ⟨k20, k19, (fun a9 e9 h7 h8 => hup hf18 (fun q => h7 (by rw [q]; simp)) (hup hf16 (fun q => h7 (by rw [q]; simp)) (hup hf13 (fun q => h7 (by rw [q]; simp)) (h8))))⟩)
set_option maxRecDepth 100000 in
theorem c_X1_dropCommand1 {l : Launch} (hfl : l.stackTraces = false) {D : va_G} {cy : Nat → ClassId} {f : Hf} {sz : Nat} {lg : Nat} {no : Nat} {sa : Nat} {ea : Nat} {lo : Int32} {le : Int32} {lfi : Int32} {lsc : Int32} {lun : Int32} {ge : Nat → Int32} (h_lg : f lg = some (.inr (3, [.ref no, .ref sa, .ref ea, .int lo, .int le, .int lfi, .int lsc, .int 1, .int lun]))) (h_ea : f ea = some (.inl (cy 0, 512, .inl ge)))  : hMet l yX1_dropCommand cX1_dropCommand 2 none { frames := 0, cells := 0, slots := 0, locals := 0 } D (hTy cy) f sz [.ref lg] (hQv (fun u => u lg = some (.inr (3, [.ref no, .ref sa, .ref ea, .int lo, .int le, .int lfi, .int 0, .int 0, .int (lun - 1)])) ∧ hFrL f u [lg]) D f sz) hNo := by
  refine h_enter (by decide) hfl (Nat.le_of_ble_eq_true rfl) ?_
  intro p9 e9 s9 m9 b9 t9 c9 hsz C0 hr hnm G ls hl
  have hx := C0.1.1
  have hb := C0.1.2.1
  have hl : lv_has ls 2 [(0, .ref lg)] := hl
  refine lv_aload_n hx hb dX1_dropCommand_0 rfl (lv_at hl 0 rfl) ?_
  refine lv_dup hx hb dX1_dropCommand_1 rfl ?_
  refine g_get C0 G h_lg rfl hiX1 7 (by decide) mf_X1_41 rfl dX1_dropCommand_2 ?_
  refine lv_iconst (v := 1) hx hb dX1_dropCommand_5 (by decide) ?_
  refine lv_isub hx hb dX1_dropCommand_6 ?_
  refine lv_topv (v := 0) (by decide) ?_
  refine g_put C0 G h_lg rfl hiX1 tyX1 tyX1_ok nmX1 7 (by decide) mf_X1_41 rfl rfl rfl rfl (Nat.le_of_ble_eq_true rfl) dX1_dropCommand_7 (fun H locs f11 hf11 G => ?_)
  have k12 : f11 lg = some (.inr (3, [.ref no, .ref sa, .ref ea, .int lo, .int le, .int lfi, .int lsc, .int 0, .int lun])) := hus hf11
  refine lv_aload_n hx hb dX1_dropCommand_10 rfl (lv_at hl 0 rfl) ?_
  refine lv_dup hx hb dX1_dropCommand_11 rfl ?_
  refine g_get C0 G k12 rfl hiX1 8 (by decide) mf_X1_44 rfl dX1_dropCommand_12 ?_
  refine lv_iconst (v := 1) hx hb dX1_dropCommand_15 (by decide) ?_
  refine lv_isub hx hb dX1_dropCommand_16 ?_
  refine g_put C0 G k12 rfl hiX1 tyX1 tyX1_ok nmX1 8 (by decide) mf_X1_44 rfl rfl rfl rfl (Nat.le_of_ble_eq_true rfl) dX1_dropCommand_17 (fun H locs f13 hf13 G => ?_)
  have k14 : f13 lg = some (.inr (3, [.ref no, .ref sa, .ref ea, .int lo, .int le, .int lfi, .int lsc, .int 0, .int (lun - 1)])) := hus hf13
  refine lv_aload_n hx hb dX1_dropCommand_20 rfl (lv_at hl 0 rfl) ?_
  refine g_get C0 G k14 rfl hiX1 7 (by decide) mf_X1_41 rfl dX1_dropCommand_21 ?_
  refine lv_iconst (v := 1) hx hb dX1_dropCommand_24 (by decide) ?_
  refine lv_isub hx hb dX1_dropCommand_25 ?_
  refine lv_topv (v := (-1)) (by decide) ?_
  refine lv_istore_n (lv' := [(1, .int (-1)), (0, .ref lg)]) hx hb dX1_dropCommand_26 rfl hl (by decide) rfl (fun ls hl => ?_)
  refine lv_aload_n hx hb dX1_dropCommand_27 rfl (lv_at hl 1 rfl) ?_
  refine lv_iload_n hx hb dX1_dropCommand_28 rfl (lv_at hl 0 rfl) ?_
  refine lv_if_lt (tgt := 50) hx hb dX1_dropCommand_29 (by decide) (fun _ => ?_) (fun c15 => absurd (by decide) c15)
  refine lv_iconst (v := 0) hx hb dX1_dropCommand_50 (by decide) ?_
  refine g_put C0 G k14 rfl hiX1 tyX1 tyX1_ok nmX1 6 (by decide) mf_X1_38 rfl rfl rfl rfl (Nat.le_of_ble_eq_true rfl) dX1_dropCommand_51 (fun H locs f16 hf16 G => ?_)
  have k17 : f16 lg = some (.inr (3, [.ref no, .ref sa, .ref ea, .int lo, .int le, .int lfi, .int 0, .int 0, .int (lun - 1)])) := hus hf16
  exact g_vret C0 G hr dX1_dropCommand_54 (Nat.le_of_ble_eq_true rfl) (Nat.le_of_ble_eq_true rfl) (by exact ⟨k17, (fun a9 e9 h7 h8 => hup hf16 (fun q => h7 (by rw [q]; simp)) (hup hf13 (fun q => h7 (by rw [q]; simp)) (hup hf11 (fun q => h7 (by rw [q]; simp)) (h8))))⟩)
set_option maxRecDepth 100000 in
theorem c_X1_dropCommandS {l : Launch} (hfl : l.stackTraces = false) {D : va_G} {cy : Nat → ClassId} {f : Hf} {sz : Nat} {lg : Nat} {no : Nat} {sa : Nat} {ea : Nat} {lo : Int32} {le : Int32} {lfi : Int32} {lsc : Int32} {lun : Int32} {nC : Nat} {ge : Nat → Int32} (h_lg : f lg = some (.inr (3, [.ref no, .ref sa, .ref ea, .int lo, .int le, .int lfi, .int lsc, .int (nI nC), .int lun]))) (h_ea : f ea = some (.inl (cy 0, 512, .inl ge))) (hnC : nC ≤ 512) (hnC2 : 2 ≤ nC) : hMet l yX1_dropCommand cX1_dropCommand 2 none { frames := 0, cells := 0, slots := 0, locals := 0 } D (hTy cy) f sz [.ref lg] (hQv (fun u => u lg = some (.inr (3, [.ref no, .ref sa, .ref ea, .int lo, .int le, .int lfi, .int (ge ((nC - 1) - 1)), .int (nI (nC - 1)), .int (lun - 1)])) ∧ hFrL f u [lg]) D f sz) hNo := by
  refine h_enter (by decide) hfl (Nat.le_of_ble_eq_true rfl) ?_
  intro p9 e9 s9 m9 b9 t9 c9 hsz C0 hr hnm G ls hl
  have hx := C0.1.1
  have hb := C0.1.2.1
  have hl : lv_has ls 2 [(0, .ref lg)] := hl
  refine lv_aload_n hx hb dX1_dropCommand_0 rfl (lv_at hl 0 rfl) ?_
  refine lv_dup hx hb dX1_dropCommand_1 rfl ?_
  refine g_get C0 G h_lg rfl hiX1 7 (by decide) mf_X1_41 rfl dX1_dropCommand_2 ?_
  refine lv_iconst (v := 1) hx hb dX1_dropCommand_5 (by decide) ?_
  refine lv_isub hx hb dX1_dropCommand_6 ?_
  refine lv_topv (v := nI (nC - 1)) ((nI_sb (a := nC) (b := 1) (by omega))) ?_
  refine g_put C0 G h_lg rfl hiX1 tyX1 tyX1_ok nmX1 7 (by decide) mf_X1_41 rfl rfl rfl rfl (Nat.le_of_ble_eq_true rfl) dX1_dropCommand_7 (fun H locs f11 hf11 G => ?_)
  have k12 : f11 lg = some (.inr (3, [.ref no, .ref sa, .ref ea, .int lo, .int le, .int lfi, .int lsc, .int (nI (nC - 1)), .int lun])) := hus hf11
  refine lv_aload_n hx hb dX1_dropCommand_10 rfl (lv_at hl 0 rfl) ?_
  refine lv_dup hx hb dX1_dropCommand_11 rfl ?_
  refine g_get C0 G k12 rfl hiX1 8 (by decide) mf_X1_44 rfl dX1_dropCommand_12 ?_
  refine lv_iconst (v := 1) hx hb dX1_dropCommand_15 (by decide) ?_
  refine lv_isub hx hb dX1_dropCommand_16 ?_
  refine g_put C0 G k12 rfl hiX1 tyX1 tyX1_ok nmX1 8 (by decide) mf_X1_44 rfl rfl rfl rfl (Nat.le_of_ble_eq_true rfl) dX1_dropCommand_17 (fun H locs f13 hf13 G => ?_)
  have k14 : f13 lg = some (.inr (3, [.ref no, .ref sa, .ref ea, .int lo, .int le, .int lfi, .int lsc, .int (nI (nC - 1)), .int (lun - 1)])) := hus hf13
  refine lv_aload_n hx hb dX1_dropCommand_20 rfl (lv_at hl 0 rfl) ?_
  refine g_get C0 G k14 rfl hiX1 7 (by decide) mf_X1_41 rfl dX1_dropCommand_21 ?_
  refine lv_iconst (v := 1) hx hb dX1_dropCommand_24 (by decide) ?_
  refine lv_isub hx hb dX1_dropCommand_25 ?_
  refine lv_topv (v := nI ((nC - 1) - 1)) ((nI_sb (a := (nC - 1)) (b := 1) (by omega))) ?_
  refine lv_istore_n (lv' := [(1, .int (nI ((nC - 1) - 1))), (0, .ref lg)]) hx hb dX1_dropCommand_26 rfl hl (by decide) rfl (fun ls hl => ?_)
  refine lv_aload_n hx hb dX1_dropCommand_27 rfl (lv_at hl 1 rfl) ?_
  refine lv_iload_n hx hb dX1_dropCommand_28 rfl (lv_at hl 0 rfl) ?_
  refine lv_if_lt (tgt := 50) hx hb dX1_dropCommand_29 (by decide) (fun c15 => absurd c15 ((nI_pos (by omega)))) (fun _ => ?_)
  refine lv_iload_n hx hb dX1_dropCommand_32 rfl (lv_at hl 0 rfl) ?_
  refine lv_aload_n hx hb dX1_dropCommand_33 rfl (lv_at hl 1 rfl) ?_
  refine g_get C0 G k14 rfl hiX1 2 (by decide) mf_X1_24 rfl dX1_dropCommand_34 ?_
  have k16 : f13 ea = some (.inl (cy 0, 512, .inl ge)) := hup hf13 (hne (hup hf11 (hne h_ea h_lg (by intro q; cases q)) h_ea) k12 (by intro q; cases q)) (hup hf11 (hne h_ea h_lg (by intro q; cases q)) h_ea)
  refine g_alen C0 G k16 0 rfl (v := 512) rfl dX1_dropCommand_37 ?_
  refine lv_icmp_ge (tgt := 50) hx hb dX1_dropCommand_38 (by decide) (fun c17 => absurd c17 ((fun q => absurd ((nI_leI (a := 512) (b := ((nC - 1) - 1)) (by omega) (by omega)).mp q) (by omega)))) (fun _ => ?_)
  refine lv_aload_n hx hb dX1_dropCommand_41 rfl (lv_at hl 1 rfl) ?_
  refine g_get C0 G k14 rfl hiX1 2 (by decide) mf_X1_24 rfl dX1_dropCommand_42 ?_
  refine lv_iload_n hx hb dX1_dropCommand_45 rfl (lv_at hl 0 rfl) ?_
  refine g_iald C0 G k16 0 rfl (vp_in_nI (by omega) (by omega)) dX1_dropCommand_46 ?_
  refine lv_topv (v := ge ((nC - 1) - 1)) (congrArg ge (nI_c (by omega))) ?_
  refine lv_goto (tgt := 51) hx hb dX1_dropCommand_47 (by decide) ?_
  refine g_put C0 G k14 rfl hiX1 tyX1 tyX1_ok nmX1 6 (by decide) mf_X1_38 rfl rfl rfl rfl (Nat.le_of_ble_eq_true rfl) dX1_dropCommand_51 (fun H locs f18 hf18 G => ?_)
  have k19 : f18 lg = some (.inr (3, [.ref no, .ref sa, .ref ea, .int lo, .int le, .int lfi, .int (ge ((nC - 1) - 1)), .int (nI (nC - 1)), .int (lun - 1)])) := hus hf18
  exact g_vret C0 G hr dX1_dropCommand_54 (Nat.le_of_ble_eq_true rfl) (Nat.le_of_ble_eq_true rfl) (by exact ⟨k19, (fun a9 e9 h7 h8 => hup hf18 (fun q => h7 (by rw [q]; simp)) (hup hf13 (fun q => h7 (by rw [q]; simp)) (hup hf11 (fun q => h7 (by rw [q]; simp)) (h8))))⟩)
