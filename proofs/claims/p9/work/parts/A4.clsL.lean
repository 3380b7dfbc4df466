theorem cpoF_s0 (g : Nat → UInt32) (s : Nat → UInt32) (n : Nat) : vf_upd (cpoF g 0 s n) n (s n) = cpoF g 0 s (n + 1) := by
  have h := cpoF_s g 0 s n
  rwa [Nat.zero_add] at h
def X7_put_g0 (tl : Nat) (gb : Nat → Int32) (ch9 : Int32) : Nat → Int32 := upd gb tl (vp_nar .char ch9)
def X7_put_r1 (tl : Nat) : Int32 := nI (tl + 1)
set_option maxRecDepth 100000 in
theorem c_X7_put {l : Launch} (hfl : l.stackTraces = false) {D : va_G} {cy : Nat → ClassId} {f : Hf} {sz : Nat} {tx : Nat} {bu : Nat} {no : Nat} {pd : Nat} {tl : Nat} {tc : Int32} {gb : Nat → Int32} (ch9 : Int32) (h_tx : f tx = some (.inr (9, [.ref bu, .ref no, .ref pd, .int (nI tl), .int tc]))) (h_bu : f bu = some (.inl (cy 1, 60, .inl gb))) (htl : tl < 60) : hMet l yX7_put cX7_put 2 (some .int) { frames := 0, cells := 0, slots := 0, locals := 0 } D (hTy cy) f sz [.ref tx, .int ch9] (hQi (fun r u => r = (X7_put_r1 tl) ∧ u bu = some (.inl (cy 1, 60, .inl (X7_put_g0 tl gb ch9))) ∧ u tx = some (.inr (9, [.ref bu, .ref no, .ref pd, .int (nI (tl + 1)), .int tc])) ∧ hFrL f u [bu, tx]) D f sz) hNo := by
  refine h_enter (by decide) hfl (Nat.le_of_ble_eq_true rfl) ?_
  intro p9 e9 s9 m9 b9 t9 c9 hsz C0 hr hnm G ls hl
  have hx := C0.1.1
  have hb := C0.1.2.1
  have hl : lv_has ls 2 [(0, .ref tx), (1, .int ch9)] := hl
  refine lv_aload_n hx hb dX7_put_0 rfl (lv_at hl 0 rfl) ?_
  refine g_get C0 G h_tx rfl hiX7 3 (by decide) mf_X7_28 rfl dX7_put_1 ?_
  refine lv_if_lt (tgt := 39) hx hb dX7_put_4 (by decide) (fun c11 => absurd c11 ((nI_pos (by omega)))) (fun _ => ?_)
  refine lv_aload_n hx hb dX7_put_7 rfl (lv_at hl 0 rfl) ?_
  refine g_get C0 G h_tx rfl hiX7 3 (by decide) mf_X7_28 rfl dX7_put_8 ?_
  refine lv_aload_n hx hb dX7_put_11 rfl (lv_at hl 0 rfl) ?_
  refine g_get C0 G h_tx rfl hiX7 0 (by decide) mf_X7_9 rfl dX7_put_12 ?_
  refine g_alen C0 G h_bu 1 rfl (v := 60) rfl dX7_put_15 ?_
  refine lv_icmp_ge (tgt := 39) hx hb dX7_put_16 (by decide) (fun c12 => absurd c12 ((fun q => absurd ((nI_leI (a := 60) (b := tl) (by omega) (by omega)).mp q) (by omega)))) (fun _ => ?_)
  refine lv_aload_n hx hb dX7_put_19 rfl (lv_at hl 0 rfl) ?_
  refine g_get C0 G h_tx rfl hiX7 0 (by decide) mf_X7_9 rfl dX7_put_20 ?_
  refine lv_aload_n hx hb dX7_put_23 rfl (lv_at hl 0 rfl) ?_
  refine g_get C0 G h_tx rfl hiX7 3 (by decide) mf_X7_28 rfl dX7_put_24 ?_
  refine lv_iload_n hx hb dX7_put_27 rfl (lv_at hl 1 rfl) ?_
  refine g_cast C0 G h_bu 1 rfl (vp_in_nI (by omega) (by omega)) dX7_put_28 (fun H locs f13 hf13 G => ?_)
  have k14 : f13 bu = some (.inl (cy 1, 60, .inl (X7_put_g0 tl gb ch9))) := (by have h9 := hus hf13; rw [nI_c (by omega)] at h9; exact h9)
  refine lv_aload_n hx hb dX7_put_29 rfl (lv_at hl 0 rfl) ?_
  refine lv_dup hx hb dX7_put_30 rfl ?_
  have k15 : f13 tx = some (.inr (9, [.ref bu, .ref no, .ref pd, .int (nI tl), .int tc])) := hup hf13 (hne h_tx h_bu (by intro q; cases q)) h_tx
  refine g_get C0 G k15 rfl hiX7 3 (by decide) mf_X7_28 rfl dX7_put_31 ?_
  refine lv_iconst (v := 1) hx hb dX7_put_34 (by decide) ?_
  refine lv_iadd hx hb dX7_put_35 ?_
  refine lv_topv (v := nI (tl + 1)) ((nI_add _ _)) ?_
  refine g_put C0 G k15 rfl hiX7 tyX7 tyX7_ok nmX7 3 (by decide) mf_X7_28 rfl rfl rfl rfl (Nat.le_of_ble_eq_true rfl) dX7_put_36 (fun H locs f16 hf16 G => ?_)
  have k17 : f16 tx = some (.inr (9, [.ref bu, .ref no, .ref pd, .int (nI (tl + 1)), .int tc])) := hus hf16
  refine lv_aload_n hx hb dX7_put_39 rfl (lv_at hl 0 rfl) ?_
  refine g_get C0 G k17 rfl hiX7 3 (by decide) mf_X7_28 rfl dX7_put_40 ?_
  have k18 : f16 bu = some (.inl (cy 1, 60, .inl (X7_put_g0 tl gb ch9))) := hup hf16 (hne k14 k15 (by intro q; cases q)) k14
  exact g_iret C0 G hr dX7_put_43 (Nat.le_of_ble_eq_true rfl) (Nat.le_of_ble_eq_true rfl) (by exact ⟨(by rw [X7_put_r1]), k18, k17, (fun a9 e9 h7 h8 => hup hf16 (fun q => h7 (by rw [q]; simp)) (hup hf13 (fun q => h7 (by rw [q]; simp)) (h8)))⟩)
def X7_sign_x0 (jj : Nat) (gb : Nat → Int32) : Int32 := if 60 ≤ (nI jj) then 0 else (gb jj)
def X7_sign_x1 (tl : Nat) (jj : Nat) (gb : Nat → Int32) : Int32 := if (nI tl) ≤ (nI jj) then 0 else (X7_sign_x0 jj gb)
set_option maxRecDepth 100000 in
theorem c_X7_sign {l : Launch} (hfl : l.stackTraces = false) {D : va_G} {cy : Nat → ClassId} {f : Hf} {sz : Nat} {tx : Nat} {bu : Nat} {no : Nat} {pd : Nat} {tl : Nat} {jj : Nat} {tc : Int32} {gb : Nat → Int32} (h_tx : f tx = some (.inr (9, [.ref bu, .ref no, .ref pd, .int (nI tl), .int tc]))) (h_bu : f bu = some (.inl (cy 1, 60, .inl gb))) (hjj : jj ≤ 61) (htl : tl ≤ 60) (hcb : ∀ k, narrow .char (.int (gb k)) = .int (gb k)) : hMet l yX7_sign cX7_sign 2 (some .char) { frames := 0, cells := 0, slots := 0, locals := 0 } D (hTy cy) f sz [.ref tx, .int (nI jj)] (hQi (fun r u => r = (X7_sign_x1 tl jj gb) ∧ u = f) D f sz) hNo := by
  refine h_enter (by decide) hfl (Nat.le_of_ble_eq_true rfl) ?_
  intro p9 e9 s9 m9 b9 t9 c9 hsz C0 hr hnm G ls hl
  have hx := C0.1.1
  have hb := C0.1.2.1
  have hl : lv_has ls 2 [(0, .ref tx), (1, .int (nI jj))] := hl
  refine lv_iload_n hx hb dX7_sign_0 rfl (lv_at hl 1 rfl) ?_
  refine lv_if_lt (tgt := 30) hx hb dX7_sign_1 (by decide) (fun c11 => absurd c11 ((nI_pos (by omega)))) (fun _ => ?_)
  refine lv_iload_n hx hb dX7_sign_4 rfl (lv_at hl 1 rfl) ?_
  refine lv_aload_n hx hb dX7_sign_5 rfl (lv_at hl 0 rfl) ?_
  refine g_get C0 G h_tx rfl hiX7 3 (by decide) mf_X7_28 rfl dX7_sign_6 ?_
  have J14 : ∀ (y13 : Int32) (_ : y13 = (X7_sign_x1 tl jj gb)) (H : Heap) (locs : List Loc) (ls : Array Slot), hG D (hA f sz) f s9 H locs → lv_has ls 2 [(0, .ref tx), (1, .int (nI jj))] → W p9 l e9 ({ frames := 0, cells := 0, slots := 0, locals := 0 } : Room) s9 m9 ([.ref tx, .int (nI jj)] : List Value).toArray b9 t9 c9 H locs 0 0 (vx_MQ b9 (hQi (fun r u => r = (X7_sign_x1 tl jj gb) ∧ u = f) D f sz) (hPx hNo D f sz) ([.ref tx, .int (nI jj)] : List Value).toArray s9 0 0 (hA f sz)) (F0 m9 31 ls [.int y13]) := by
    intro y13 ey13 H locs ls G hl
    replace ey13 := Eq.symm ey13
    subst ey13
    exact g_zret C0 G hr dX7_sign_31 (by unfold X7_sign_x1; split; exact rfl; exact (by unfold X7_sign_x0; split; exact rfl; exact (hcb _))) (Nat.le_of_ble_eq_true rfl) (Nat.le_of_ble_eq_true rfl) (by exact ⟨rfl, rfl⟩)
  refine lv_icmp_ge (tgt := 30) hx hb dX7_sign_9 (by decide) (fun c12 => ?_) (fun c12 => ?_)
  · have n16 : tl ≤ jj := (nI_leI (a := tl) (b := jj) (by omega) (by omega)).mp c12
    refine lv_iconst (v := 0) hx hb dX7_sign_30 (by decide) ?_
    exact J14 0 (by rw [X7_sign_x1, if_pos c12]) _ _ _ G (lv_sub hl [0, 1] rfl)
  · have n17 : ¬ tl ≤ jj := fun q => c12 ((nI_leI (a := tl) (b := jj) (by omega) (by omega)).mpr q)
    refine lv_iload_n hx hb dX7_sign_12 rfl (lv_at hl 1 rfl) ?_
    refine lv_aload_n hx hb dX7_sign_13 rfl (lv_at hl 0 rfl) ?_
    refine g_get C0 G h_tx rfl hiX7 0 (by decide) mf_X7_9 rfl dX7_sign_14 ?_
    refine g_alen C0 G h_bu 1 rfl (v := 60) rfl dX7_sign_17 ?_
    have J20 : ∀ (y19 : Int32) (_ : y19 = (X7_sign_x0 jj gb)) (H : Heap) (locs : List Loc) (ls : Array Slot), hG D (hA f sz) f s9 H locs → lv_has ls 2 [(0, .ref tx), (1, .int (nI jj))] → W p9 l e9 ({ frames := 0, cells := 0, slots := 0, locals := 0 } : Room) s9 m9 ([.ref tx, .int (nI jj)] : List Value).toArray b9 t9 c9 H locs 0 0 (vx_MQ b9 (hQi (fun r u => r = (X7_sign_x1 tl jj gb) ∧ u = f) D f sz) (hPx hNo D f sz) ([.ref tx, .int (nI jj)] : List Value).toArray s9 0 0 (hA f sz)) (F0 m9 31 ls [.int y19]) := by
      intro y19 ey19 H locs ls G hl
      replace ey19 := Eq.symm ey19
      subst ey19
      exact J14 (X7_sign_x0 jj gb) (by rw [X7_sign_x1, if_neg c12]) _ _ _ G (lv_sub hl [0, 1] rfl)
    refine lv_icmp_ge (tgt := 30) hx hb dX7_sign_18 (by decide) (fun c18 => ?_) (fun c18 => ?_)
    · have n22 : 60 ≤ jj := (nI_leI (a := 60) (b := jj) (by omega) (by omega)).mp c18
      refine lv_iconst (v := 0) hx hb dX7_sign_30 (by decide) ?_
      exact J20 0 (by rw [X7_sign_x0, if_pos c18]) _ _ _ G (lv_sub hl [0, 1] rfl)
    · have n23 : ¬ 60 ≤ jj := fun q => c18 ((nI_leI (a := 60) (b := jj) (by omega) (by omega)).mpr q)
      refine lv_aload_n hx hb dX7_sign_21 rfl (lv_at hl 0 rfl) ?_
      refine g_get C0 G h_tx rfl hiX7 0 (by decide) mf_X7_9 rfl dX7_sign_22 ?_
      refine lv_iload_n hx hb dX7_sign_25 rfl (lv_at hl 1 rfl) ?_
      refine g_cald C0 G h_bu 1 rfl (vp_in_nI (by omega) (by omega)) dX7_sign_26 ?_
      refine lv_topv (v := gb jj) (congrArg gb (nI_c (by omega))) ?_
      refine lv_goto (tgt := 31) hx hb dX7_sign_27 (by decide) ?_
      exact J20 (gb jj) (by rw [X7_sign_x0, if_neg c18]) _ _ _ G (lv_sub hl [0, 1] rfl)
def X4_has_x0 (rln : Int32) (ix : Int32) : Int32 := if rln ≤ ix then 0 else 1
def X4_has_x1 (rln : Int32) (ix : Int32) : Int32 := if ix < 0 then 0 else (X4_has_x0 rln ix)
def X4_has_x2 (rst : Int32) (rln : Int32) (ix : Int32) : Int32 := if rst = 0 then 0 else (X4_has_x1 rln ix)
set_option maxRecDepth 100000 in
theorem c_X4_has {l : Launch} (hfl : l.stackTraces = false) {D : va_G} {cy : Nat → ClassId} {f : Hf} {sz : Nat} {rw : Nat} {fe : Nat} {rst : Int32} {rex : Int32} {rln : Int32} (ix : Int32) (h_rw : f rw = some (.inr (6, [.ref fe, .int rst, .int rex, .int rln])))  : hMet l yX4_has cX4_has 2 (some .boolean) { frames := 0, cells := 0, slots := 0, locals := 0 } D (hTy cy) f sz [.ref rw, .int ix] (hQi (fun r u => r = (X4_has_x2 rst rln ix) ∧ u = f) D f sz) hNo := by
  refine h_enter (by decide) hfl (Nat.le_of_ble_eq_true rfl) ?_
  intro p9 e9 s9 m9 b9 t9 c9 hsz C0 hr hnm G ls hl
  have hx := C0.1.1
  have hb := C0.1.2.1
  have hl : lv_has ls 2 [(0, .ref rw), (1, .int ix)] := hl
  refine lv_aload_n hx hb dX4_has_0 rfl (lv_at hl 0 rfl) ?_
  refine g_get C0 G h_rw rfl hiX4 1 (by decide) mf_X4_15 rfl dX4_has_1 ?_
  have J13 : ∀ (y12 : Int32) (_ : y12 = (X4_has_x2 rst rln ix)) (H : Heap) (locs : List Loc) (ls : Array Slot), hG D (hA f sz) f s9 H locs → lv_has ls 2 [(0, .ref rw), (1, .int ix)] → W p9 l e9 ({ frames := 0, cells := 0, slots := 0, locals := 0 } : Room) s9 m9 ([.ref rw, .int ix] : List Value).toArray b9 t9 c9 H locs 0 0 (vx_MQ b9 (hQi (fun r u => r = (X4_has_x2 rst rln ix) ∧ u = f) D f sz) (hPx hNo D f sz) ([.ref rw, .int ix] : List Value).toArray s9 0 0 (hA f sz)) (F0 m9 24 ls [.int y12]) := by
    intro y12 ey12 H locs ls G hl
    replace ey12 := Eq.symm ey12
    subst ey12
    exact g_zret C0 G hr dX4_has_24 (hZb (by unfold X4_has_x2; split; exact (Or.inl rfl); exact (by unfold X4_has_x1; split; exact (Or.inl rfl); exact (by unfold X4_has_x0; split; exact (Or.inl rfl); exact (Or.inr rfl))))) (Nat.le_of_ble_eq_true rfl) (Nat.le_of_ble_eq_true rfl) (by exact ⟨rfl, rfl⟩)
  refine lv_if_eq (tgt := 23) hx hb dX4_has_4 (by decide) (fun c11 => ?_) (fun c11 => ?_)
  · refine lv_iconst (v := 0) hx hb dX4_has_23 (by decide) ?_
    exact J13 0 (by rw [X4_has_x2, if_pos c11]) _ _ _ G (lv_sub hl [0, 1] rfl)
  · refine lv_iload_n hx hb dX4_has_7 rfl (lv_at hl 1 rfl) ?_
    have J17 : ∀ (y16 : Int32) (_ : y16 = (X4_has_x1 rln ix)) (H : Heap) (locs : List Loc) (ls : Array Slot), hG D (hA f sz) f s9 H locs → lv_has ls 2 [(0, .ref rw), (1, .int ix)] → W p9 l e9 ({ frames := 0, cells := 0, slots := 0, locals := 0 } : Room) s9 m9 ([.ref rw, .int ix] : List Value).toArray b9 t9 c9 H locs 0 0 (vx_MQ b9 (hQi (fun r u => r = (X4_has_x2 rst rln ix) ∧ u = f) D f sz) (hPx hNo D f sz) ([.ref rw, .int ix] : List Value).toArray s9 0 0 (hA f sz)) (F0 m9 24 ls [.int y16]) := by
      intro y16 ey16 H locs ls G hl
      replace ey16 := Eq.symm ey16
      subst ey16
      exact J13 (X4_has_x1 rln ix) (by rw [X4_has_x2, if_neg c11]) _ _ _ G (lv_sub hl [0, 1] rfl)
    refine lv_if_lt (tgt := 23) hx hb dX4_has_8 (by decide) (fun c15 => ?_) (fun c15 => ?_)
    · refine lv_iconst (v := 0) hx hb dX4_has_23 (by decide) ?_
      exact J17 0 (by rw [X4_has_x1, if_pos c15]) _ _ _ G (lv_sub hl [0, 1] rfl)
    · refine lv_iload_n hx hb dX4_has_11 rfl (lv_at hl 1 rfl) ?_
      refine lv_aload_n hx hb dX4_has_12 rfl (lv_at hl 0 rfl) ?_
      refine g_get C0 G h_rw rfl hiX4 3 (by decide) mf_X4_22 rfl dX4_has_13 ?_
      have J21 : ∀ (y20 : Int32) (_ : y20 = (X4_has_x0 rln ix)) (H : Heap) (locs : List Loc) (ls : Array Slot), hG D (hA f sz) f s9 H locs → lv_has ls 2 [(0, .ref rw), (1, .int ix)] → W p9 l e9 ({ frames := 0, cells := 0, slots := 0, locals := 0 } : Room) s9 m9 ([.ref rw, .int ix] : List Value).toArray b9 t9 c9 H locs 0 0 (vx_MQ b9 (hQi (fun r u => r = (X4_has_x2 rst rln ix) ∧ u = f) D f sz) (hPx hNo D f sz) ([.ref rw, .int ix] : List Value).toArray s9 0 0 (hA f sz)) (F0 m9 24 ls [.int y20]) := by
        intro y20 ey20 H locs ls G hl
        replace ey20 := Eq.symm ey20
        subst ey20
        exact J17 (X4_has_x0 rln ix) (by rw [X4_has_x1, if_neg c15]) _ _ _ G (lv_sub hl [0, 1] rfl)
      refine lv_icmp_ge (tgt := 23) hx hb dX4_has_16 (by decide) (fun c19 => ?_) (fun c19 => ?_)
      · refine lv_iconst (v := 0) hx hb dX4_has_23 (by decide) ?_
        exact J21 0 (by rw [X4_has_x0, if_pos c19]) _ _ _ G (lv_sub hl [0, 1] rfl)
      · refine lv_iconst (v := 1) hx hb dX4_has_19 (by decide) ?_
        refine lv_goto (tgt := 24) hx hb dX4_has_20 (by decide) ?_
        exact J21 1 (by rw [X4_has_x0, if_neg c19]) _ _ _ G (lv_sub hl [0, 1] rfl)
theorem b_c_X4_has (rst : Int32) (rln : Int32) (ix : Int32) : (X4_has_x2 rst rln ix) = 0 ∨ (X4_has_x2 rst rln ix) = 1 := (by unfold X4_has_x2; split; exact (Or.inl rfl); exact (by unfold X4_has_x1; split; exact (Or.inl rfl); exact (by unfold X4_has_x0; split; exact (Or.inl rfl); exact (Or.inr rfl))))
def X4_get_r0 (kx : Nat) (gf : Nat → UInt32) : UInt32 := gf kx
set_option maxRecDepth 100000 in
theorem c_X4_get {l : Launch} (hfl : l.stackTraces = false) {D : va_G} {cy : Nat → ClassId} {f : Hf} {sz : Nat} {rw : Nat} {fe : Nat} {rst : Int32} {rex : Int32} {rln : Int32} {kx : Nat} {gf : Nat → UInt32} (h_rw : f rw = some (.inr (6, [.ref fe, .int rst, .int rex, .int rln]))) (h_fe : f fe = some (.inl (cy 2, 20, .inr (.inr (.inl gf))))) (hkx : kx < 20) : hMet l yX4_get cX4_get 2 (some .float) { frames := 0, cells := 0, slots := 0, locals := 0 } D (hTy cy) f sz [.ref rw, .int (nI kx)] (hQf (fun r u => r = (X4_get_r0 kx gf) ∧ u = f) D f sz) hNo := by
  refine h_enter (by decide) hfl (Nat.le_of_ble_eq_true rfl) ?_
  intro p9 e9 s9 m9 b9 t9 c9 hsz C0 hr hnm G ls hl
  have hx := C0.1.1
  have hb := C0.1.2.1
  have hl : lv_has ls 2 [(0, .ref rw), (1, .int (nI kx))] := hl
  refine lv_iload_n hx hb dX4_get_0 rfl (lv_at hl 1 rfl) ?_
  refine lv_if_lt (tgt := 22) hx hb dX4_get_1 (by decide) (fun c11 => absurd c11 ((nI_pos (by omega)))) (fun _ => ?_)
  refine lv_iload_n hx hb dX4_get_4 rfl (lv_at hl 1 rfl) ?_
  refine lv_aload_n hx hb dX4_get_5 rfl (lv_at hl 0 rfl) ?_
  refine g_get C0 G h_rw rfl hiX4 0 (by decide) mf_X4_9 rfl dX4_get_6 ?_
  refine g_alen C0 G h_fe 2 rfl (v := 20) rfl dX4_get_9 ?_
  refine lv_icmp_ge (tgt := 22) hx hb dX4_get_10 (by decide) (fun c12 => absurd c12 ((fun q => absurd ((nI_leI (a := 20) (b := kx) (by omega) (by omega)).mp q) (by omega)))) (fun _ => ?_)
  refine lv_aload_n hx hb dX4_get_13 rfl (lv_at hl 0 rfl) ?_
  refine g_get C0 G h_rw rfl hiX4 0 (by decide) mf_X4_9 rfl dX4_get_14 ?_
  refine lv_iload_n hx hb dX4_get_17 rfl (lv_at hl 1 rfl) ?_
  refine g_fald C0 G h_fe 2 rfl (vp_in_nI (by omega) (by omega)) dX4_get_18 ?_
  refine lv_topF (v := gf kx) (congrArg gf (nI_c (by omega))) ?_
  refine lv_goto (tgt := 23) hx hb dX4_get_19 (by decide) ?_
  exact g_fret C0 G hr dX4_get_23 (Nat.le_of_ble_eq_true rfl) (Nat.le_of_ble_eq_true rfl) (by exact ⟨(by rw [X4_get_r0] <;> rfl), rfl⟩)
def X4_store_x0 (g0 : Nat → Int32) (go : Nat → Int32) (oc : Int32) (ex : Int32) (jj : Nat) : UInt32 := if ex = 0 then (FP.fdiv (FP.i2f (X3_runsAfter_x2 go oc (nI jj) (tget 8 1 8 g0 0 0))) (FP.i2f (nI (jj + 1)))) else (FP.i2f (X3_runsAfter_x2 go oc (nI jj) (tget 8 1 8 g0 0 0)))
def X4_store_r1 (bn : Nat) : Int32 := nI bn
def X4_store_g2 (gf : Nat → UInt32) (g0 : Nat → Int32) (go : Nat → Int32) (oc : Int32) (ex : Int32) (bn : Nat) : Nat → UInt32 := cpoF gf 0 (X4_store_x0 g0 go oc ex) bn
set_option maxRecDepth 100000 in
theorem c_X4_store {l : Launch} (hfl : l.stackTraces = false) {D : va_G} {cy : Nat → ClassId} {f : Hf} {sz : Nat} {rw : Nat} {fe : Nat} {rst : Int32} {rex : Int32} {rln : Int32} {gf : Nat → UInt32} {i : Nat} {t0 : Nat} {a0 : Nat} {t1 : Nat} {t2 : Nat} {t3 : Nat} {t4 : Nat} {o : Nat} {oa : Nat} {g0 : Nat → Int32} {go : Nat → Int32} {lm : Int32} {lf : Int32} {oc : Int32} {bw : Int32} {bb : Int32} {bl : Int32} {cd : Int32} {hbg : Int32} {rs : Int32} {sk : Int32} {ot : Int32} {ch : Int32} {nc : Int32} (ex : Int32) {bn : Nat} (h_rw : f rw = some (.inr (6, [.ref fe, .int rst, .int rex, .int rln]))) (h_fe : f fe = some (.inl (cy 2, 20, .inr (.inr (.inl gf))))) (h_i : f i = some (.inr (2, [.ref t0, .ref t1, .ref t2, .ref t3, .ref t4, .ref o, .int rs, .int sk, .int ot, .int ch, .int nc]))) (h_t0 : f t0 = some (.inr (8, [.int 8, .ref a0, .int 1]))) (h_a0 : f a0 = some (.inl (cy 0, 8, .inl g0))) (h_o : f o = some (.inr (5, [.ref oa, .int lm, .int lf, .int oc, .int bw, .int bb, .int bl, .int cd, .int hbg]))) (h_oa : f oa = some (.inl (cy 0, 20, .inl go))) (hbn : X3_begun_x0 oc hbg = nI bn) (hbn2 : bn ≤ 20) (hb_ex : ex = 0 ∨ ex = 1) : hMet l yX4_store cX4_store 5 (some .int) { frames := 2, cells := 0, slots := 0, locals := 45 } D (hTy cy) f sz [.ref rw, .ref i, .int ex] (hQi (fun r u => r = (X4_store_r1 bn) ∧ u rw = some (.inr (6, [.ref fe, .int 1, .int ex, .int (nI bn)])) ∧ u fe = some (.inl (cy 2, 20, .inr (.inr (.inl (X4_store_g2 gf g0 go oc ex bn))))) ∧ hFrL f u [rw, fe]) D f sz) hNo := by
  refine h_enter (by decide) hfl (Nat.le_of_ble_eq_true rfl) ?_
  intro p9 e9 s9 m9 b9 t9 c9 hsz C0 hr hnm G ls hl
  have hx := C0.1.1
  have hb := C0.1.2.1
  have hl : lv_has ls 5 [(0, .ref rw), (1, .ref i), (2, .int ex)] := hl
  refine lv_aload_n hx hb dX4_store_0 rfl (lv_at hl 0 rfl) ?_
  refine lv_iconst (v := 1) hx hb dX4_store_1 (by decide) ?_
  refine g_put C0 G h_rw rfl hiX4 tyX4 tyX4_ok nmX4 1 (by decide) mf_X4_15 rfl rfl rfl rfl (Nat.le_of_ble_eq_true rfl) dX4_store_2 (fun H locs f11 hf11 G => ?_)
  have k12 : f11 rw = some (.inr (6, [.ref fe, .int 1, .int rex, .int rln])) := hus hf11
  refine lv_aload_n hx hb dX4_store_5 rfl (lv_at hl 0 rfl) ?_
  refine lv_iload_n hx hb dX4_store_6 rfl (lv_at hl 2 rfl) ?_
  refine g_put C0 G k12 rfl hiX4 tyX4 tyX4_ok nmX4 2 (by decide) mf_X4_19 rfl rfl (hZb hb_ex) (hFb hb_ex) (Nat.le_of_ble_eq_true rfl) dX4_store_7 (fun H locs f13 hf13 G => ?_)
  have k14 : f13 rw = some (.inr (6, [.ref fe, .int 1, .int ex, .int rln])) := hus hf13
  refine lv_aload_n hx hb dX4_store_10 rfl (lv_at hl 0 rfl) ?_
  refine lv_aload_n hx hb dX4_store_11 rfl (lv_at hl 1 rfl) ?_
  have k15 : f13 i = some (.inr (2, [.ref t0, .ref t1, .ref t2, .ref t3, .ref t4, .ref o, .int rs, .int sk, .int ot, .int ch, .int nc])) := hup hf13 (hne (hup hf11 (hne h_i h_rw (by intro q; cases q)) h_i) k12 (by intro q; cases q)) (hup hf11 (hne h_i h_rw (by intro q; cases q)) h_i)
  refine g_get C0 G k15 rfl hiX0 5 (by decide) mf_X4_26 rfl dX4_store_12 ?_
  have k16 : f13 o = some (.inr (5, [.ref oa, .int lm, .int lf, .int oc, .int bw, .int bb, .int bl, .int cd, .int hbg])) := hup hf13 (hne (hup hf11 (hne h_o h_rw (by intro q; cases q)) h_o) k12 (by intro q; cases q)) (hup hf11 (hne h_o h_rw (by intro q; cases q)) h_o)
  refine g_cI C0 G (g_runV C0 G (rest := [.ref rw]) (c_X3_begun hfl k16) k16 rfl hY_X3_begun mm_X4_32 mi_X3_begun ml_X3_begun ⟨(Nat.le_of_ble_eq_true rfl), (Nat.le_of_ble_eq_true rfl)⟩ rfl hl.1 rfl (Nat.le_of_ble_eq_true rfl) dX4_store_15 ⟨(Nat.le_of_ble_eq_true rfl), (Nat.le_of_ble_eq_true rfl)⟩) (kx_no rfl) (fun r19 u18 H locs hp17 G => ?_)
  obtain ⟨er20, eu18⟩ := hp17
  rw [eu18] at G
  refine lv_topv (v := (X3_begun_x0 oc hbg)) er20 ?_
  refine lv_topv (v := nI bn) (hbn) ?_
  refine g_put C0 G k14 rfl hiX4 tyX4 tyX4_ok nmX4 3 (by decide) mf_X4_22 rfl rfl rfl rfl (Nat.le_of_ble_eq_true rfl) dX4_store_18 (fun H locs f21 hf21 G => ?_)
  have k22 : f21 rw = some (.inr (6, [.ref fe, .int 1, .int ex, .int (nI bn)])) := hus hf21
  refine lv_iconst (v := 0) hx hb dX4_store_21 (by decide) ?_
  refine lv_istore_n (lv' := [(3, .int 0), (0, .ref rw), (1, .ref i), (2, .int ex)]) hx hb dX4_store_22 rfl hl (by decide) rfl (fun ls hl => ?_)
  have k23 : f21 fe = some (.inl (cy 2, 20, .inr (.inr (.inl gf)))) := hup hf21 (hne (hup hf13 (hne (hup hf11 (hne h_fe h_rw (by intro q; first | (cases q; done) | (simp at q; done))) h_fe) k12 (by intro q; first | (cases q; done) | (simp at q; done))) (hup hf11 (hne h_fe h_rw (by intro q; first | (cases q; done) | (simp at q; done))) h_fe)) k14 (by intro q; first | (cases q; done) | (simp at q; done))) (hup hf13 (hne (hup hf11 (hne h_fe h_rw (by intro q; first | (cases q; done) | (simp at q; done))) h_fe) k12 (by intro q; first | (cases q; done) | (simp at q; done))) (hup hf11 (hne h_fe h_rw (by intro q; first | (cases q; done) | (simp at q; done))) h_fe))
  refine W.widen (k := 0) (n := 0) (Nat.le_of_ble_eq_true rfl) (Nat.le_of_ble_eq_true rfl) ?_
  have LOOP23 : ∀ (k : Nat) (jj : Nat) (f1 : Hf) (H : Heap) (locs : List Loc) (ls : Array Slot), (jj ≤ bn) → (bn - jj < k) → f1 fe = some (.inl (cy 2, 20, .inr (.inr (.inl (cpoF gf 0 (X4_store_x0 g0 go oc ex) jj))))) → hFrL f21 f1 [fe] → hG D (hA f sz) f1 s9 H locs → lv_has ls 5 [(3, .int (nI jj)), (0, .ref rw), (1, .ref i), (2, .int ex)] → W p9 l e9 ({ frames := 2, cells := 0, slots := 0, locals := 45 } : Room) s9 m9 ([.ref rw, .ref i, .int ex] : List Value).toArray b9 t9 c9 H locs 0 0 (vx_MQ b9 (hQi (fun r u => r = (X4_store_r1 bn) ∧ u rw = some (.inr (6, [.ref fe, .int 1, .int ex, .int (nI bn)])) ∧ u fe = some (.inl (cy 2, 20, .inr (.inr (.inl (X4_store_g2 gf g0 go oc ex bn))))) ∧ hFrL f u [rw, fe]) D f sz) (hPx hNo D f sz) ([.ref rw, .ref i, .int ex] : List Value).toArray s9 0 0 (hA f sz)) (F0 m9 23 ls []) := by
    intro k
    induction k with
    | zero =>
      intro jj f1 H locs ls hi2 hk h_fe1 hfr G hl
      exact absurd hk (by omega)
    | succ k ih =>
      intro jj f1 H locs ls hi2 hk h_fe1 hfr G hl
      refine lv_iload_n hx hb dX4_store_23 rfl (lv_at hl 0 rfl) ?_
      refine lv_aload_n hx hb dX4_store_24 rfl (lv_at hl 1 rfl) ?_
      have k24 : f1 rw = some (.inr (6, [.ref fe, .int 1, .int ex, .int (nI bn)])) := hfr _ _ (by simp only [List.mem_cons, List.not_mem_nil, or_false]; intro q; exact (hne k22 k23 (by intro q; first | (cases q; done) | (simp at q; done))) q) k22
      refine g_get C0 G k24 rfl hiX4 3 (by decide) mf_X4_22 rfl dX4_store_25 ?_
      refine lv_icmp_ge (tgt := 85) hx hb dX4_store_28 (by decide) (fun c25 => ?_) (fun c25 => ?_)
      · have n26 : bn ≤ jj := (nI_leI (a := bn) (b := jj) (by omega) (by omega)).mp c25
        have hi9 : bn = jj := by omega
        subst hi9
        refine lv_aload_n hx hb dX4_store_85 rfl (lv_at hl 1 rfl) ?_
        refine g_get C0 G k24 rfl hiX4 3 (by decide) mf_X4_22 rfl dX4_store_86 ?_
        exact g_iret C0 G hr dX4_store_89 (Nat.le_of_ble_eq_true rfl) (Nat.le_of_ble_eq_true rfl) (by exact ⟨(by rw [X4_store_r1]), k24, (by rw [(by rw [X4_store_g2] : (X4_store_g2 gf g0 go oc ex bn) = (cpoF gf 0 (X4_store_x0 g0 go oc ex) bn))]; exact h_fe1), (fun a9 e9 h7 h8 => hfr _ _ (fun q => h7 (by simp only [List.mem_cons, List.not_mem_nil, or_false] at q ⊢; first | exact q | (rcases q with q <;> simp [q]) | omega)) (hup hf21 (fun q => h7 (by rw [q]; simp)) (hup hf13 (fun q => h7 (by rw [q]; simp)) (hup hf11 (fun q => h7 (by rw [q]; simp)) (h8)))))⟩)
      · have n27 : ¬ bn ≤ jj := fun q => c25 ((nI_leI (a := bn) (b := jj) (by omega) (by omega)).mpr q)
        refine lv_iload_n hx hb dX4_store_31 rfl (lv_at hl 0 rfl) ?_
        refine lv_aload_n hx hb dX4_store_32 rfl (lv_at hl 1 rfl) ?_
        refine g_get C0 G k24 rfl hiX4 0 (by decide) mf_X4_9 rfl dX4_store_33 ?_
        refine g_alen C0 G h_fe1 2 rfl (v := 20) rfl dX4_store_36 ?_
        refine lv_icmp_ge (tgt := 85) hx hb dX4_store_37 (by decide) (fun c28 => absurd c28 ((fun q => absurd ((nI_leI (a := 20) (b := jj) (by omega) (by omega)).mp q) (by omega)))) (fun _ => ?_)
        refine lv_aload_n hx hb dX4_store_40 rfl (lv_at hl 2 rfl) ?_
        have k29 : f1 i = some (.inr (2, [.ref t0, .ref t1, .ref t2, .ref t3, .ref t4, .ref o, .int rs, .int sk, .int ot, .int ch, .int nc])) := hfr _ _ (by simp only [List.mem_cons, List.not_mem_nil, or_false]; intro q; exact (hne (hup hf21 (hne k15 k14 (by intro q; cases q)) k15) k23 (by intro q; first | (cases q; done) | (simp at q; done))) q) (hup hf21 (hne k15 k14 (by intro q; cases q)) k15)
        refine g_get C0 G k29 rfl hiX0 5 (by decide) mf_X4_26 rfl dX4_store_41 ?_
        refine lv_iload_n hx hb dX4_store_44 rfl (lv_at hl 0 rfl) ?_
        refine lv_aload_n hx hb dX4_store_45 rfl (lv_at hl 2 rfl) ?_
        refine lv_iconst (v := 0) hx hb dX4_store_46 (by decide) ?_
        have k30 : f1 t0 = some (.inr (8, [.int 8, .ref a0, .int 1])) := hfr _ _ (by simp only [List.mem_cons, List.not_mem_nil, or_false]; intro q; exact (hne (hup hf21 (hne (hup hf13 (hne (hup hf11 (hne h_t0 h_rw (by intro q; cases q)) h_t0) k12 (by intro q; cases q)) (hup hf11 (hne h_t0 h_rw (by intro q; cases q)) h_t0)) k14 (by intro q; cases q)) (hup hf13 (hne (hup hf11 (hne h_t0 h_rw (by intro q; cases q)) h_t0) k12 (by intro q; cases q)) (hup hf11 (hne h_t0 h_rw (by intro q; cases q)) h_t0))) k23 (by intro q; first | (cases q; done) | (simp at q; done))) q) (hup hf21 (hne (hup hf13 (hne (hup hf11 (hne h_t0 h_rw (by intro q; cases q)) h_t0) k12 (by intro q; cases q)) (hup hf11 (hne h_t0 h_rw (by intro q; cases q)) h_t0)) k14 (by intro q; cases q)) (hup hf13 (hne (hup hf11 (hne h_t0 h_rw (by intro q; cases q)) h_t0) k12 (by intro q; cases q)) (hup hf11 (hne h_t0 h_rw (by intro q; cases q)) h_t0)))
        have k31 : f1 a0 = some (.inl (cy 0, 8, .inl g0)) := hfr _ _ (by simp only [List.mem_cons, List.not_mem_nil, or_false]; intro q; exact (hne (hup hf21 (hne (hup hf13 (hne (hup hf11 (hne h_a0 h_rw (by intro q; cases q)) h_a0) k12 (by intro q; cases q)) (hup hf11 (hne h_a0 h_rw (by intro q; cases q)) h_a0)) k14 (by intro q; cases q)) (hup hf13 (hne (hup hf11 (hne h_a0 h_rw (by intro q; cases q)) h_a0) k12 (by intro q; cases q)) (hup hf11 (hne h_a0 h_rw (by intro q; cases q)) h_a0))) k23 (by intro q; first | (cases q; done) | (simp at q; done))) q) (hup hf21 (hne (hup hf13 (hne (hup hf11 (hne h_a0 h_rw (by intro q; cases q)) h_a0) k12 (by intro q; cases q)) (hup hf11 (hne h_a0 h_rw (by intro q; cases q)) h_a0)) k14 (by intro q; cases q)) (hup hf13 (hne (hup hf11 (hne h_a0 h_rw (by intro q; cases q)) h_a0) k12 (by intro q; cases q)) (hup hf11 (hne h_a0 h_rw (by intro q; cases q)) h_a0)))
        refine g_cI C0 G (g_runV C0 G (rest := [.int (nI jj), .ref o]) (c_X0_total hfl 0 k29 k30 k31) k29 rfl hY_X0_total mm_X4_38 mi_X0_total ml_X0_total ⟨(Nat.le_of_ble_eq_true rfl), (Nat.le_of_ble_eq_true rfl)⟩ rfl hl.1 rfl (Nat.le_of_ble_eq_true rfl) dX4_store_47 ⟨(Nat.le_of_ble_eq_true rfl), (Nat.le_of_ble_eq_true rfl)⟩) (kx_no rfl) (fun r34 u33 H locs hp32 G => ?_)
        obtain ⟨er35, eu33⟩ := hp32
        rw [eu33] at G
        refine lv_topv (v := (tget 8 1 8 g0 0 0)) er35 ?_
        have k36 : f1 o = some (.inr (5, [.ref oa, .int lm, .int lf, .int oc, .int bw, .int bb, .int bl, .int cd, .int hbg])) := hfr _ _ (by simp only [List.mem_cons, List.not_mem_nil, or_false]; intro q; exact (hne (hup hf21 (hne k16 k14 (by intro q; cases q)) k16) k23 (by intro q; first | (cases q; done) | (simp at q; done))) q) (hup hf21 (hne k16 k14 (by intro q; cases q)) k16)
        have k37 : f1 oa = some (.inl (cy 0, 20, .inl go)) := hfr _ _ (by simp only [List.mem_cons, List.not_mem_nil, or_false]; intro q; exact (hne (hup hf21 (hne (hup hf13 (hne (hup hf11 (hne h_oa h_rw (by intro q; cases q)) h_oa) k12 (by intro q; cases q)) (hup hf11 (hne h_oa h_rw (by intro q; cases q)) h_oa)) k14 (by intro q; cases q)) (hup hf13 (hne (hup hf11 (hne h_oa h_rw (by intro q; cases q)) h_oa) k12 (by intro q; cases q)) (hup hf11 (hne h_oa h_rw (by intro q; cases q)) h_oa))) k23 (by intro q; first | (cases q; done) | (simp at q; done))) q) (hup hf21 (hne (hup hf13 (hne (hup hf11 (hne h_oa h_rw (by intro q; cases q)) h_oa) k12 (by intro q; cases q)) (hup hf11 (hne h_oa h_rw (by intro q; cases q)) h_oa)) k14 (by intro q; cases q)) (hup hf13 (hne (hup hf11 (hne h_oa h_rw (by intro q; cases q)) h_oa) k12 (by intro q; cases q)) (hup hf11 (hne h_oa h_rw (by intro q; cases q)) h_oa)))
        refine g_cI C0 G (g_runV C0 G (rest := []) (c_X3_runsAfter hfl (nI jj) (tget 8 1 8 g0 0 0) k36 k37) k36 rfl hY_X3_runsAfter mm_X4_42 mi_X3_runsAfter ml_X3_runsAfter ⟨(Nat.le_of_ble_eq_true rfl), (Nat.le_of_ble_eq_true rfl)⟩ rfl hl.1 rfl (Nat.le_of_ble_eq_true rfl) dX4_store_50 ⟨(Nat.le_of_ble_eq_true rfl), (Nat.le_of_ble_eq_true rfl)⟩) (kx_no rfl) (fun r40 u39 H locs hp38 G => ?_)
        obtain ⟨er41, eu39⟩ := hp38
        rw [eu39] at G
        refine lv_topv (v := (X3_runsAfter_x2 go oc (nI jj) (tget 8 1 8 g0 0 0))) er41 ?_
        refine lv_istore (lv' := [(4, .int (X3_runsAfter_x2 go oc (nI jj) (tget 8 1 8 g0 0 0))), (3, .int (nI jj)), (0, .ref rw), (1, .ref i), (2, .int ex)]) hx hb dX4_store_53 hl (by decide) rfl (fun ls hl => ?_)
        refine lv_aload_n hx hb dX4_store_55 rfl (lv_at hl 2 rfl) ?_
        refine g_get C0 G k24 rfl hiX4 0 (by decide) mf_X4_9 rfl dX4_store_56 ?_
        refine lv_iload_n hx hb dX4_store_59 rfl (lv_at hl 1 rfl) ?_
        refine lv_iload_n hx hb dX4_store_60 rfl (lv_at hl 4 rfl) ?_
        have J44 : ∀ (y43 : UInt32) (_ : y43 = (X4_store_x0 g0 go oc ex jj)) (H : Heap) (locs : List Loc) (ls : Array Slot), hG D (hA f sz) f1 s9 H locs → lv_has ls 5 [(4, .int (X3_runsAfter_x2 go oc (nI jj) (tget 8 1 8 g0 0 0))), (3, .int (nI jj)), (0, .ref rw), (1, .ref i), (2, .int ex)] → W p9 l e9 ({ frames := 2, cells := 0, slots := 0, locals := 45 } : Room) s9 m9 ([.ref rw, .ref i, .int ex] : List Value).toArray b9 t9 c9 H locs 0 0 (vx_MQ b9 (hQi (fun r u => r = (X4_store_r1 bn) ∧ u rw = some (.inr (6, [.ref fe, .int 1, .int ex, .int (nI bn)])) ∧ u fe = some (.inl (cy 2, 20, .inr (.inr (.inl (X4_store_g2 gf g0 go oc ex bn))))) ∧ hFrL f u [rw, fe]) D f sz) (hPx hNo D f sz) ([.ref rw, .ref i, .int ex] : List Value).toArray s9 0 0 (hA f sz)) (F0 m9 78 ls [.float y43, .int (nI jj), .ref fe]) := by
          intro y43 ey43 H locs ls G hl
          replace ey43 := Eq.symm ey43
          subst ey43
          refine g_fast C0 G h_fe1 2 rfl (vp_in_nI (by omega) (by omega)) dX4_store_78 (fun H locs f46 hf46 G => ?_)
          have k47 : f46 fe = some (.inl (cy 2, 20, .inr (.inr (.inl (vf_upd (cpoF gf 0 (X4_store_x0 g0 go oc ex) jj) (nI jj).toNatClampNeg (X4_store_x0 g0 go oc ex jj)))))) := hus hf46
          refine lv_iinc (v := nI (jj + 1)) (lv' := [(3, .int (nI (jj + 1))), (4, .int (X3_runsAfter_x2 go oc (nI jj) (tget 8 1 8 g0 0 0))), (0, .ref rw), (1, .ref i), (2, .int ex)]) hx hb dX4_store_79 hl (k := 1) rfl (by exact (nI_add _ _)) (by decide) rfl (fun ls hl => ?_)
          refine lv_goto (tgt := 23) hx hb dX4_store_82 (by decide) ?_
          exact ih (jj + 1) f46 _ _ _ (by omega) (by omega) (by have h9 := k47; rw [nI_c (by omega), cpoF_s0] at h9; exact h9) (fun a9 e9 h7 h8 => hup hf46 (fun q => h7 (by rw [q]; simp)) (hfr _ _ (fun q => h7 (by simp only [List.mem_cons, List.not_mem_nil, or_false] at q ⊢; first | exact q | (rcases q with q <;> simp [q]) | omega)) (h8))) G (lv_sub hl [0, 2, 3, 4] rfl)
        refine lv_if_eq (tgt := 70) hx hb dX4_store_61 (by decide) (fun c42 => ?_) (fun c42 => ?_)
        · refine lv_iload hx hb dX4_store_70 (lv_at hl 0 rfl) ?_
          refine lv_i2f hx hb dX4_store_72 ?_
          refine lv_iload_n hx hb dX4_store_73 rfl (lv_at hl 1 rfl) ?_
          refine lv_iconst (v := 1) hx hb dX4_store_74 (by decide) ?_
          refine lv_iadd hx hb dX4_store_75 ?_
          refine lv_topv (v := nI (jj + 1)) ((nI_add _ _)) ?_
          refine lv_i2f hx hb dX4_store_76 ?_
          refine lv_fdiv hx hb dX4_store_77 (fdiv_n _ _ (nI_ne0 (by omega) (by omega))) ?_
          exact J44 (FP.fdiv (FP.i2f (X3_runsAfter_x2 go oc (nI jj) (tget 8 1 8 g0 0 0))) (FP.i2f (nI (jj + 1)))) (by rw [X4_store_x0, if_pos c42]) _ _ _ G (lv_sub hl [0, 1, 2, 3, 4] rfl)
        · refine lv_iload hx hb dX4_store_64 (lv_at hl 0 rfl) ?_
          refine lv_i2f hx hb dX4_store_66 ?_
          refine lv_goto (tgt := 78) hx hb dX4_store_67 (by decide) ?_
          exact J44 (FP.i2f (X3_runsAfter_x2 go oc (nI jj) (tget 8 1 8 g0 0 0))) (by rw [X4_store_x0, if_neg c42]) _ _ _ G (lv_sub hl [0, 1, 2, 3, 4] rfl)
  exact LOOP23 (bn + 1) 0 f21 _ _ _ (by omega) (by omega)  (by rw [cpoF_0]; exact k23) (fun a9 e9 h7 h8 => h8) G (lv_sub hl [0, 1, 2, 3] rfl)
