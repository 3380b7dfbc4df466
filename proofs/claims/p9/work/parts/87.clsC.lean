set_option maxRecDepth 100000 in
theorem c_X0_total {l : Launch} (hfl : l.stackTraces = false) {D : va_G} {cy : Nat → ClassId} {f : Hf} {sz : Nat} {i : Nat} {t0 : Nat} {a0 : Nat} {t1 : Nat} {t2 : Nat} {t3 : Nat} {t4 : Nat} {o : Nat} {g0 : Nat → Int32} {rs : Int32} {sk : Int32} {ot : Int32} {ch : Int32} {nc : Int32} (what : Int32) (h_i : f i = some (.inr (2, [.ref t0, .ref t1, .ref t2, .ref t3, .ref t4, .ref o, .int rs, .int sk, .int ot, .int ch, .int nc]))) (h_t0 : f t0 = some (.inr (8, [.int 8, .ref a0, .int 1]))) (h_a0 : f a0 = some (.inl (cy 0, 8, .inl g0)))  : hMet l yX0_total cX0_total 2 (some .int) { frames := 1, cells := 0, slots := 0, locals := 24 } D (hTy cy) f sz [.ref i, .int what] (hQi (fun r u => r = (tget 8 1 8 g0 0 what) ∧ u = f) D f sz) hNo := by
  refine h_enter (by decide) hfl (Nat.le_of_ble_eq_true rfl) ?_
  intro p9 e9 s9 m9 b9 t9 c9 hsz C0 hr hnm G ls hl
  have hx := C0.1.1
  have hb := C0.1.2.1
  have hl : lv_has ls 2 [(0, .ref i), (1, .int what)] := hl
  refine lv_aload_n hx hb dX0_total_0 rfl (lv_at hl 0 rfl) ?_
  refine g_get C0 G h_i rfl hiX0 0 (by decide) mf_X0_16 rfl dX0_total_1 ?_
  refine lv_iconst (v := 0) hx hb dX0_total_4 (by decide) ?_
  refine lv_iload_n hx hb dX0_total_5 rfl (lv_at hl 1 rfl) ?_
  refine g_cI C0 G (g_runV C0 G (rest := []) (k_X6_get hfl 0 what h_t0 h_a0 (by omega)) h_t0 rfl hY_X6_get mm_X0_74 mi_X6_get ml_X6_get ⟨(Nat.le_of_ble_eq_true rfl), (Nat.le_of_ble_eq_true rfl)⟩ rfl hl.1 rfl (Nat.le_of_ble_eq_true rfl) dX0_total_6 ⟨(Nat.le_of_ble_eq_true rfl), (Nat.le_of_ble_eq_true rfl)⟩) (kx_no rfl) (fun r13 u12 H locs hp11 G => ?_)
  obtain ⟨zr, eu12⟩ := hp11
  replace zr := Eq.symm zr
  subst zr
  rw [eu12] at G
  exact g_iret C0 G hr dX0_total_9 (Nat.le_of_ble_eq_true rfl) (Nat.le_of_ble_eq_true rfl) (by exact ⟨rfl, rfl⟩)
def X0_value_r0 (g0 : Nat → Int32) (lm : Int32) : Int32 := (10 - (tget 8 1 8 g0 0 1)) * ((240 * ((6 * lm) - (tget 8 1 8 g0 0 2))) - (((6 * lm) - (tget 8 1 8 g0 0 2)) * ((6 * lm) - (tget 8 1 8 g0 0 2))))
set_option maxRecDepth 100000 in
theorem c_X0_value {l : Launch} (hfl : l.stackTraces = false) {D : va_G} {cy : Nat → ClassId} {f : Hf} {sz : Nat} {i : Nat} {t0 : Nat} {a0 : Nat} {t1 : Nat} {t2 : Nat} {t3 : Nat} {t4 : Nat} {o : Nat} {oa : Nat} {g0 : Nat → Int32} {lm : Int32} {lf : Int32} {oc : Int32} {bw : Int32} {bb : Int32} {bl : Int32} {cd : Int32} {hbg : Int32} {rs : Int32} {sk : Int32} {ot : Int32} {ch : Int32} {nc : Int32} (h_i : f i = some (.inr (2, [.ref t0, .ref t1, .ref t2, .ref t3, .ref t4, .ref o, .int rs, .int sk, .int ot, .int ch, .int nc]))) (h_t0 : f t0 = some (.inr (8, [.int 8, .ref a0, .int 1]))) (h_a0 : f a0 = some (.inl (cy 0, 8, .inl g0))) (h_o : f o = some (.inr (5, [.ref oa, .int lm, .int lf, .int oc, .int bw, .int bb, .int bl, .int cd, .int hbg])))  : hMet l yX0_value cX0_value 2 (some .int) { frames := 1, cells := 0, slots := 0, locals := 24 } D (hTy cy) f sz [.ref i] (hQi (fun r u => r = (X0_value_r0 g0 lm) ∧ u = f) D f sz) hNo := by
  refine h_enter (by decide) hfl (Nat.le_of_ble_eq_true rfl) ?_
  intro p9 e9 s9 m9 b9 t9 c9 hsz C0 hr hnm G ls hl
  have hx := C0.1.1
  have hb := C0.1.2.1
  have hl : lv_has ls 2 [(0, .ref i)] := hl
  refine lv_bipush (v := 6) hx hb dX0_value_0 (by decide) ?_
  refine lv_aload_n hx hb dX0_value_2 rfl (lv_at hl 0 rfl) ?_
  refine g_get C0 G h_i rfl hiX0 5 (by decide) mf_X0_35 rfl dX0_value_3 ?_
  refine g_get C0 G h_o rfl hiX3 1 (by decide) mf_X0_78 rfl dX0_value_6 ?_
  refine lv_imul hx hb dX0_value_9 ?_
  refine lv_aload_n hx hb dX0_value_10 rfl (lv_at hl 0 rfl) ?_
  refine g_get C0 G h_i rfl hiX0 0 (by decide) mf_X0_16 rfl dX0_value_11 ?_
  refine lv_iconst (v := 0) hx hb dX0_value_14 (by decide) ?_
  refine lv_iconst (v := 2) hx hb dX0_value_15 (by decide) ?_
  refine g_cI C0 G (g_runV C0 G (rest := [.int (6 * lm)]) (k_X6_get hfl 0 2 h_t0 h_a0 (by omega)) h_t0 rfl hY_X6_get mm_X0_74 mi_X6_get ml_X6_get ⟨(Nat.le_of_ble_eq_true rfl), (Nat.le_of_ble_eq_true rfl)⟩ rfl hl.1 rfl (Nat.le_of_ble_eq_true rfl) dX0_value_16 ⟨(Nat.le_of_ble_eq_true rfl), (Nat.le_of_ble_eq_true rfl)⟩) (kx_no rfl) (fun r13 u12 H locs hp11 G => ?_)
  obtain ⟨zr, eu12⟩ := hp11
  replace zr := Eq.symm zr
  subst zr
  rw [eu12] at G
  refine lv_isub hx hb dX0_value_19 ?_
  refine lv_istore_n (lv' := [(1, .int ((6 * lm) - (tget 8 1 8 g0 0 2))), (0, .ref i)]) hx hb dX0_value_20 rfl hl (by decide) rfl (fun ls hl => ?_)
  refine lv_bipush (v := 10) hx hb dX0_value_21 (by decide) ?_
  refine lv_aload_n hx hb dX0_value_23 rfl (lv_at hl 1 rfl) ?_
  refine g_get C0 G h_i rfl hiX0 0 (by decide) mf_X0_16 rfl dX0_value_24 ?_
  refine lv_iconst (v := 0) hx hb dX0_value_27 (by decide) ?_
  refine lv_iconst (v := 1) hx hb dX0_value_28 (by decide) ?_
  refine g_cI C0 G (g_runV C0 G (rest := [.int 10]) (k_X6_get hfl 0 1 h_t0 h_a0 (by omega)) h_t0 rfl hY_X6_get mm_X0_74 mi_X6_get ml_X6_get ⟨(Nat.le_of_ble_eq_true rfl), (Nat.le_of_ble_eq_true rfl)⟩ rfl hl.1 rfl (Nat.le_of_ble_eq_true rfl) dX0_value_29 ⟨(Nat.le_of_ble_eq_true rfl), (Nat.le_of_ble_eq_true rfl)⟩) (kx_no rfl) (fun r16 u15 H locs hp14 G => ?_)
  obtain ⟨zr, eu15⟩ := hp14
  replace zr := Eq.symm zr
  subst zr
  rw [eu15] at G
  refine lv_isub hx hb dX0_value_32 ?_
  refine lv_sipush (v := 240) hx hb dX0_value_33 (by decide) ?_
  refine lv_iload_n hx hb dX0_value_36 rfl (lv_at hl 0 rfl) ?_
  refine lv_imul hx hb dX0_value_37 ?_
  refine lv_iload_n hx hb dX0_value_38 rfl (lv_at hl 0 rfl) ?_
  refine lv_iload_n hx hb dX0_value_39 rfl (lv_at hl 0 rfl) ?_
  refine lv_imul hx hb dX0_value_40 ?_
  refine lv_isub hx hb dX0_value_41 ?_
  refine lv_imul hx hb dX0_value_42 ?_
  exact g_iret C0 G hr dX0_value_43 (Nat.le_of_ble_eq_true rfl) (Nat.le_of_ble_eq_true rfl) (by exact ⟨(by rw [X0_value_r0]), rfl⟩)
set_option maxRecDepth 100000 in
theorem c_X0_completeOvers {l : Launch} (hfl : l.stackTraces = false) {D : va_G} {cy : Nat → ClassId} {f : Hf} {sz : Nat} {i : Nat} {t0 : Nat} {t1 : Nat} {t2 : Nat} {a2 : Nat} {t3 : Nat} {t4 : Nat} {o : Nat} {g2 : Nat → Int32} {rs : Int32} {sk : Int32} {ot : Int32} {ch : Int32} {nc : Int32} (player : Int32) (h_i : f i = some (.inr (2, [.ref t0, .ref t1, .ref t2, .ref t3, .ref t4, .ref o, .int rs, .int sk, .int ot, .int ch, .int nc]))) (h_t2 : f t2 = some (.inr (8, [.int 7, .ref a2, .int 11]))) (h_a2 : f a2 = some (.inl (cy 0, 77, .inl g2)))  : hMet l yX0_completeOvers cX0_completeOvers 2 (some .int) { frames := 1, cells := 0, slots := 0, locals := 24 } D (hTy cy) f sz [.ref i, .int player] (hQi (fun r u => r = (tget 7 11 77 g2 player 6) ∧ u = f) D f sz) hNo := by
  refine h_enter (by decide) hfl (Nat.le_of_ble_eq_true rfl) ?_
  intro p9 e9 s9 m9 b9 t9 c9 hsz C0 hr hnm G ls hl
  have hx := C0.1.1
  have hb := C0.1.2.1
  have hl : lv_has ls 2 [(0, .ref i), (1, .int player)] := hl
  refine lv_aload_n hx hb dX0_completeOvers_0 rfl (lv_at hl 0 rfl) ?_
  refine g_get C0 G h_i rfl hiX0 2 (by decide) mf_X0_23 rfl dX0_completeOvers_1 ?_
  refine lv_iload_n hx hb dX0_completeOvers_4 rfl (lv_at hl 1 rfl) ?_
  refine lv_bipush (v := 6) hx hb dX0_completeOvers_5 (by decide) ?_
  refine g_cI C0 G (g_runV C0 G (rest := []) (k_X6_get hfl player 6 h_t2 h_a2 (by omega)) h_t2 rfl hY_X6_get mm_X0_74 mi_X6_get ml_X6_get ⟨(Nat.le_of_ble_eq_true rfl), (Nat.le_of_ble_eq_true rfl)⟩ rfl hl.1 rfl (Nat.le_of_ble_eq_true rfl) dX0_completeOvers_7 ⟨(Nat.le_of_ble_eq_true rfl), (Nat.le_of_ble_eq_true rfl)⟩) (kx_no rfl) (fun r13 u12 H locs hp11 G => ?_)
  obtain ⟨zr, eu12⟩ := hp11
  replace zr := Eq.symm zr
  subst zr
  rw [eu12] at G
  exact g_iret C0 G hr dX0_completeOvers_10 (Nat.le_of_ble_eq_true rfl) (Nat.le_of_ble_eq_true rfl) (by exact ⟨rfl, rfl⟩)
def X0_bowlRefusal_x0 (g2 : Nat → Int32) (lf : Int32) (player : Int32) : Int32 := if (tget 7 11 77 g2 player 6) < (X3_quota_r0 lf) then 0 else 1
def X0_bowlRefusal_n1 (g2 : Nat → Int32) (lf : Int32) (player : Int32) : Nat := if (X0_bowlRefusal_x0 g2 lf player) = 0 then 0 else 4
def X0_bowlRefusal_n2 (g2 : Nat → Int32) (lf : Int32) (bb : Int32) (player : Int32) : Nat := if player = bb then 4 else (X0_bowlRefusal_n1 g2 lf player)
def X0_bowlRefusal_r3 (g2 : Nat → Int32) (lf : Int32) (bw : Int32) (bb : Int32) (player : Int32) : Int32 := if bw = (-1) then (nI (X0_bowlRefusal_n2 g2 lf bb player)) else 2
set_option maxRecDepth 100000 in
theorem c_X0_bowlRefusal {l : Launch} (hfl : l.stackTraces = false) {D : va_G} {cy : Nat → ClassId} {f : Hf} {sz : Nat} {i : Nat} {t0 : Nat} {t1 : Nat} {t2 : Nat} {a2 : Nat} {t3 : Nat} {t4 : Nat} {o : Nat} {oa : Nat} {g2 : Nat → Int32} {lm : Int32} {lf : Int32} {oc : Int32} {bw : Int32} {bb : Int32} {bl : Int32} {cd : Int32} {hbg : Int32} {rs : Int32} {sk : Int32} {ot : Int32} {ch : Int32} {nc : Int32} (player : Int32) (h_i : f i = some (.inr (2, [.ref t0, .ref t1, .ref t2, .ref t3, .ref t4, .ref o, .int rs, .int sk, .int ot, .int ch, .int nc]))) (h_t2 : f t2 = some (.inr (8, [.int 7, .ref a2, .int 11]))) (h_a2 : f a2 = some (.inl (cy 0, 77, .inl g2))) (h_o : f o = some (.inr (5, [.ref oa, .int lm, .int lf, .int oc, .int bw, .int bb, .int bl, .int cd, .int hbg])))  : hMet l yX0_bowlRefusal cX0_bowlRefusal 3 (some .int) { frames := 2, cells := 0, slots := 0, locals := 45 } D (hTy cy) f sz [.ref i, .int player] (hQi (fun r u => r = (X0_bowlRefusal_r3 g2 lf bw bb player) ∧ u = f) D f sz) hNo := by
  refine h_enter (by decide) hfl (Nat.le_of_ble_eq_true rfl) ?_
  intro p9 e9 s9 m9 b9 t9 c9 hsz C0 hr hnm G ls hl
  have hx := C0.1.1
  have hb := C0.1.2.1
  have hl : lv_has ls 3 [(0, .ref i), (1, .int player)] := hl
  refine lv_aload_n hx hb dX0_bowlRefusal_0 rfl (lv_at hl 0 rfl) ?_
  refine g_get C0 G h_i rfl hiX0 5 (by decide) mf_X0_35 rfl dX0_bowlRefusal_1 ?_
  refine g_get C0 G h_o rfl hiX3 4 (by decide) mf_X0_81 rfl dX0_bowlRefusal_4 ?_
  refine lv_iconst (v := (-1)) hx hb dX0_bowlRefusal_7 (by decide) ?_
  refine lv_icmp_eq (tgt := 13) hx hb dX0_bowlRefusal_8 (by decide) (fun c11 => ?_) (fun c11 => ?_)
  · refine lv_aload_n hx hb dX0_bowlRefusal_13 rfl (lv_at hl 0 rfl) ?_
    refine lv_iload_n hx hb dX0_bowlRefusal_14 rfl (lv_at hl 1 rfl) ?_
    refine g_cI C0 G (g_runV C0 G (rest := []) (c_X0_completeOvers hfl player h_i h_t2 h_a2) h_i rfl hY_X0_completeOvers mm_X0_84 mi_X0_completeOvers ml_X0_completeOvers ⟨(Nat.le_of_ble_eq_true rfl), (Nat.le_of_ble_eq_true rfl)⟩ rfl hl.1 rfl (Nat.le_of_ble_eq_true rfl) dX0_bowlRefusal_15 ⟨(Nat.le_of_ble_eq_true rfl), (Nat.le_of_ble_eq_true rfl)⟩) (kx_no rfl) (fun r14 u13 H locs hp12 G => ?_)
    obtain ⟨zr, eu13⟩ := hp12
    replace zr := Eq.symm zr
    subst zr
    rw [eu13] at G
    refine lv_aload_n hx hb dX0_bowlRefusal_18 rfl (lv_at hl 0 rfl) ?_
    refine g_get C0 G h_i rfl hiX0 5 (by decide) mf_X0_35 rfl dX0_bowlRefusal_19 ?_
    refine g_get C0 G h_o rfl hiX3 2 (by decide) mf_X0_88 rfl dX0_bowlRefusal_22 ?_
    refine g_cI C0 G (g_runS C0 G (rest := [.int (tget 7 11 77 g2 player 6)]) (c_X3_quota hfl lf ) hY_X3_quota mm_X0_91 ms_X3_quota ⟨(Nat.le_of_ble_eq_true rfl), (Nat.le_of_ble_eq_true rfl)⟩ rfl hl.1 rfl (Nat.le_of_ble_eq_true rfl) dX0_bowlRefusal_25 ⟨(Nat.le_of_ble_eq_true rfl), (Nat.le_of_ble_eq_true rfl)⟩) (kx_no rfl) (fun r17 u16 H locs hp15 G => ?_)
    obtain ⟨zr, eu16⟩ := hp15
    replace zr := Eq.symm zr
    subst zr
    rw [eu16] at G
    have J20 : ∀ (y19 : Int32) (_ : y19 = (X0_bowlRefusal_x0 g2 lf player)) (H : Heap) (locs : List Loc) (ls : Array Slot), hG D (hA f sz) f s9 H locs → lv_has ls 3 [(0, .ref i), (1, .int player)] → W p9 l e9 ({ frames := 2, cells := 0, slots := 0, locals := 45 } : Room) s9 m9 ([.ref i, .int player] : List Value).toArray b9 t9 c9 H locs 0 0 (vx_MQ b9 (hQi (fun r u => r = (X0_bowlRefusal_r3 g2 lf bw bb player) ∧ u = f) D f sz) (hPx hNo D f sz) ([.ref i, .int player] : List Value).toArray s9 0 0 (hA f sz)) (F0 m9 36 ls [.int y19]) := by
      intro y19 ey19 H locs ls G hl
      replace ey19 := Eq.symm ey19
      subst ey19
      refine lv_istore_n (lv' := [(2, .int (X0_bowlRefusal_x0 g2 lf player)), (0, .ref i), (1, .int player)]) hx hb dX0_bowlRefusal_36 rfl hl (by decide) rfl (fun ls hl => ?_)
      refine lv_iload_n hx hb dX0_bowlRefusal_37 rfl (lv_at hl 2 rfl) ?_
      refine lv_aload_n hx hb dX0_bowlRefusal_38 rfl (lv_at hl 1 rfl) ?_
      refine g_get C0 G h_i rfl hiX0 5 (by decide) mf_X0_35 rfl dX0_bowlRefusal_39 ?_
      refine g_get C0 G h_o rfl hiX3 5 (by decide) mf_X0_94 rfl dX0_bowlRefusal_42 ?_
      have J24 : ∀ (y23 : Int32) (_ : y23 = nI (X0_bowlRefusal_n2 g2 lf bb player)) (H : Heap) (locs : List Loc) (ls : Array Slot), hG D (hA f sz) f s9 H locs → lv_has ls 3 [(2, .int (X0_bowlRefusal_x0 g2 lf player)), (0, .ref i), (1, .int player)] → W p9 l e9 ({ frames := 2, cells := 0, slots := 0, locals := 45 } : Room) s9 m9 ([.ref i, .int player] : List Value).toArray b9 t9 c9 H locs 0 0 (vx_MQ b9 (hQi (fun r u => r = (X0_bowlRefusal_r3 g2 lf bw bb player) ∧ u = f) D f sz) (hPx hNo D f sz) ([.ref i, .int player] : List Value).toArray s9 0 0 (hA f sz)) (F0 m9 57 ls [.int y23]) := by
        intro y23 ey23 H locs ls G hl
        replace ey23 := Eq.symm ey23
        subst ey23
        have bd26 : (X0_bowlRefusal_n2 g2 lf bb player) ≤ 4 := by unfold X0_bowlRefusal_n2 X0_bowlRefusal_n1; repeat (first | omega | split)
        exact g_iret C0 G hr dX0_bowlRefusal_57 (Nat.le_of_ble_eq_true rfl) (Nat.le_of_ble_eq_true rfl) (by exact ⟨(by rw [X0_bowlRefusal_r3, if_pos c11]), rfl⟩)
      refine lv_icmp_eq (tgt := 52) hx hb dX0_bowlRefusal_45 (by decide) (fun c22 => ?_) (fun c22 => ?_)
      · refine lv_iconst (v := 4) hx hb dX0_bowlRefusal_52 (by decide) ?_
        refine lv_goto (tgt := 57) hx hb dX0_bowlRefusal_53 (by decide) ?_
        exact J24 4 (by rw [X0_bowlRefusal_n2, if_pos c22] <;> rfl) _ _ _ G (lv_sub hl [0, 1, 2] rfl)
      · refine lv_iload_n hx hb dX0_bowlRefusal_48 rfl (lv_at hl 0 rfl) ?_
        have J29 : ∀ (y28 : Int32) (_ : y28 = nI (X0_bowlRefusal_n1 g2 lf player)) (H : Heap) (locs : List Loc) (ls : Array Slot), hG D (hA f sz) f s9 H locs → lv_has ls 3 [(2, .int (X0_bowlRefusal_x0 g2 lf player)), (0, .ref i), (1, .int player)] → W p9 l e9 ({ frames := 2, cells := 0, slots := 0, locals := 45 } : Room) s9 m9 ([.ref i, .int player] : List Value).toArray b9 t9 c9 H locs 0 0 (vx_MQ b9 (hQi (fun r u => r = (X0_bowlRefusal_r3 g2 lf bw bb player) ∧ u = f) D f sz) (hPx hNo D f sz) ([.ref i, .int player] : List Value).toArray s9 0 0 (hA f sz)) (F0 m9 57 ls [.int y28]) := by
          intro y28 ey28 H locs ls G hl
          replace ey28 := Eq.symm ey28
          subst ey28
          have bd31 : (X0_bowlRefusal_n1 g2 lf player) ≤ 4 := by unfold X0_bowlRefusal_n1; repeat (first | omega | split)
          exact J24 (nI (X0_bowlRefusal_n1 g2 lf player)) (by rw [X0_bowlRefusal_n2, if_neg c22] <;> rfl) _ _ _ G (lv_sub hl [0, 1, 2] rfl)
        refine lv_if_eq (tgt := 56) hx hb dX0_bowlRefusal_49 (by decide) (fun c27 => ?_) (fun c27 => ?_)
        · refine lv_iconst (v := 0) hx hb dX0_bowlRefusal_56 (by decide) ?_
          exact J29 0 (by rw [X0_bowlRefusal_n1, if_pos c27] <;> rfl) _ _ _ G (lv_sub hl [0, 1, 2] rfl)
        · refine lv_iconst (v := 4) hx hb dX0_bowlRefusal_52 (by decide) ?_
          refine lv_goto (tgt := 57) hx hb dX0_bowlRefusal_53 (by decide) ?_
          exact J29 4 (by rw [X0_bowlRefusal_n1, if_neg c27] <;> rfl) _ _ _ G (lv_sub hl [0, 1, 2] rfl)
    refine lv_icmp_lt (tgt := 35) hx hb dX0_bowlRefusal_28 (by decide) (fun c18 => ?_) (fun c18 => ?_)
    · refine lv_iconst (v := 0) hx hb dX0_bowlRefusal_35 (by decide) ?_
      exact J20 0 (by rw [X0_bowlRefusal_x0, if_pos c18]) _ _ _ G (lv_sub hl [0, 1] rfl)
    · refine lv_iconst (v := 1) hx hb dX0_bowlRefusal_31 (by decide) ?_
      refine lv_goto (tgt := 36) hx hb dX0_bowlRefusal_32 (by decide) ?_
      exact J20 1 (by rw [X0_bowlRefusal_x0, if_neg c18]) _ _ _ G (lv_sub hl [0, 1] rfl)
  · refine lv_iconst (v := 2) hx hb dX0_bowlRefusal_11 (by decide) ?_
    exact g_iret C0 G hr dX0_bowlRefusal_12 (Nat.le_of_ble_eq_true rfl) (Nat.le_of_ble_eq_true rfl) (by exact ⟨(by rw [X0_bowlRefusal_r3, if_neg c11]), rfl⟩)
set_option maxRecDepth 100000 in
theorem c_X0_startOver {l : Launch} (hfl : l.stackTraces = false) {D : va_G} {cy : Nat → ClassId} {f : Hf} {sz : Nat} {i : Nat} {t0 : Nat} {t1 : Nat} {t2 : Nat} {a2 : Nat} {t3 : Nat} {t4 : Nat} {o : Nat} {oa : Nat} {g2 : Nat → Int32} {lm : Int32} {lf : Int32} {oc : Int32} {bw : Int32} {bb : Int32} {bl : Int32} {cd : Int32} {hbg : Int32} {rs : Int32} {sk : Int32} {ot : Int32} {ch : Int32} {nc : Int32} (player : Int32) (h_i : f i = some (.inr (2, [.ref t0, .ref t1, .ref t2, .ref t3, .ref t4, .ref o, .int rs, .int sk, .int ot, .int ch, .int nc]))) (h_t2 : f t2 = some (.inr (8, [.int 7, .ref a2, .int 11]))) (h_a2 : f a2 = some (.inl (cy 0, 77, .inl g2))) (h_o : f o = some (.inr (5, [.ref oa, .int lm, .int lf, .int oc, .int bw, .int bb, .int bl, .int cd, .int hbg])))  : hMet l yX0_startOver cX0_startOver 2 (some .int) { frames := 2, cells := 0, slots := 0, locals := 45 } D (hTy cy) f sz [.ref i, .int player] (hQi (fun r u => r = (tget 7 11 77 g2 player 6) ∧ u o = some (.inr (5, [.ref oa, .int lm, .int lf, .int oc, .int player, .int bb, .int bl, .int cd, .int hbg])) ∧ hFrL f u [o]) D f sz) hNo := by
  refine h_enter (by decide) hfl (Nat.le_of_ble_eq_true rfl) ?_
  intro p9 e9 s9 m9 b9 t9 c9 hsz C0 hr hnm G ls hl
  have hx := C0.1.1
  have hb := C0.1.2.1
  have hl : lv_has ls 2 [(0, .ref i), (1, .int player)] := hl
  refine lv_aload_n hx hb dX0_startOver_0 rfl (lv_at hl 0 rfl) ?_
  refine g_get C0 G h_i rfl hiX0 5 (by decide) mf_X0_35 rfl dX0_startOver_1 ?_
  refine lv_iload_n hx hb dX0_startOver_4 rfl (lv_at hl 1 rfl) ?_
  refine g_put C0 G h_o rfl hiX3 tyX3 tyX3_ok nmX3 4 (by decide) mf_X0_81 rfl rfl rfl rfl (Nat.le_of_ble_eq_true rfl) dX0_startOver_5 (fun H locs f11 hf11 G => ?_)
  have k12 : f11 o = some (.inr (5, [.ref oa, .int lm, .int lf, .int oc, .int player, .int bb, .int bl, .int cd, .int hbg])) := hus hf11
  refine lv_aload_n hx hb dX0_startOver_8 rfl (lv_at hl 0 rfl) ?_
  refine lv_iload_n hx hb dX0_startOver_9 rfl (lv_at hl 1 rfl) ?_
  have k13 : f11 i = some (.inr (2, [.ref t0, .ref t1, .ref t2, .ref t3, .ref t4, .ref o, .int rs, .int sk, .int ot, .int ch, .int nc])) := hup hf11 (hneD h_i h_o rfl) h_i
  have k14 : f11 t2 = some (.inr (8, [.int 7, .ref a2, .int 11])) := hup hf11 (hneD h_t2 h_o rfl) h_t2
  have k15 : f11 a2 = some (.inl (cy 0, 77, .inl g2)) := hup hf11 (hneD h_a2 h_o rfl) h_a2
  refine g_cI C0 G (g_runV C0 G (rest := []) (c_X0_completeOvers hfl player k13 k14 k15) k13 rfl hY_X0_completeOvers mm_X0_84 mi_X0_completeOvers ml_X0_completeOvers ⟨(Nat.le_of_ble_eq_true rfl), (Nat.le_of_ble_eq_true rfl)⟩ rfl hl.1 rfl (Nat.le_of_ble_eq_true rfl) dX0_startOver_10 ⟨(Nat.le_of_ble_eq_true rfl), (Nat.le_of_ble_eq_true rfl)⟩) (kx_no rfl) (fun r18 u17 H locs hp16 G => ?_)
  obtain ⟨zr, eu17⟩ := hp16
  replace zr := Eq.symm zr
  subst zr
  rw [eu17] at G
  exact g_iret C0 G hr dX0_startOver_13 (Nat.le_of_ble_eq_true rfl) (Nat.le_of_ble_eq_true rfl) (by exact ⟨rfl, k12, (fun a9 e9 h7 h8 => hup hf11 (fun q => h7 (by rw [q]; simp)) (h8))⟩)
set_option maxRecDepth 100000 in
theorem c_X0_changeEnds {l : Launch} (hfl : l.stackTraces = false) {D : va_G} {cy : Nat → ClassId} {f : Hf} {sz : Nat} {i : Nat} {t0 : Nat} {t1 : Nat} {t2 : Nat} {t3 : Nat} {t4 : Nat} {o : Nat} {rs : Int32} {sk : Int32} {ot : Int32} {ch : Int32} {nc : Int32} (h_i : f i = some (.inr (2, [.ref t0, .ref t1, .ref t2, .ref t3, .ref t4, .ref o, .int rs, .int sk, .int ot, .int ch, .int nc])))  : hMet l yX0_changeEnds cX0_changeEnds 2 none { frames := 0, cells := 0, slots := 0, locals := 0 } D (hTy cy) f sz [.ref i] (hQv (fun u => u i = some (.inr (2, [.ref t0, .ref t1, .ref t2, .ref t3, .ref t4, .ref o, .int rs, .int ot, .int sk, .int ch, .int nc])) ∧ hFrL f u [i]) D f sz) hNo := by
  refine h_enter (by decide) hfl (Nat.le_of_ble_eq_true rfl) ?_
  intro p9 e9 s9 m9 b9 t9 c9 hsz C0 hr hnm G ls hl
  have hx := C0.1.1
  have hb := C0.1.2.1
  have hl : lv_has ls 2 [(0, .ref i)] := hl
  refine lv_aload_n hx hb dX0_changeEnds_0 rfl (lv_at hl 0 rfl) ?_
  refine g_get C0 G h_i rfl hiX0 7 (by decide) mf_X0_43 rfl dX0_changeEnds_1 ?_
  refine lv_istore_n (lv' := [(1, .int sk), (0, .ref i)]) hx hb dX0_changeEnds_4 rfl hl (by decide) rfl (fun ls hl => ?_)
  refine lv_aload_n hx hb dX0_changeEnds_5 rfl (lv_at hl 1 rfl) ?_
  refine lv_aload_n hx hb dX0_changeEnds_6 rfl (lv_at hl 1 rfl) ?_
  refine g_get C0 G h_i rfl hiX0 8 (by decide) mf_X0_46 rfl dX0_changeEnds_7 ?_
  refine g_put C0 G h_i rfl hiX0 tyX0 tyX0_ok nmX0 7 (by decide) mf_X0_43 rfl rfl rfl rfl (Nat.le_of_ble_eq_true rfl) dX0_changeEnds_10 (fun H locs f11 hf11 G => ?_)
  have k12 : f11 i = some (.inr (2, [.ref t0, .ref t1, .ref t2, .ref t3, .ref t4, .ref o, .int rs, .int ot, .int ot, .int ch, .int nc])) := hus hf11
  refine lv_aload_n hx hb dX0_changeEnds_13 rfl (lv_at hl 1 rfl) ?_
  refine lv_iload_n hx hb dX0_changeEnds_14 rfl (lv_at hl 0 rfl) ?_
  refine g_put C0 G k12 rfl hiX0 tyX0 tyX0_ok nmX0 8 (by decide) mf_X0_46 rfl rfl rfl rfl (Nat.le_of_ble_eq_true rfl) dX0_changeEnds_15 (fun H locs f13 hf13 G => ?_)
  have k14 : f13 i = some (.inr (2, [.ref t0, .ref t1, .ref t2, .ref t3, .ref t4, .ref o, .int rs, .int ot, .int sk, .int ch, .int nc])) := hus hf13
  exact g_vret C0 G hr dX0_changeEnds_18 (Nat.le_of_ble_eq_true rfl) (Nat.le_of_ble_eq_true rfl) (by exact ⟨k14, (fun a9 e9 h7 h8 => hup hf13 (fun q => h7 (by rw [q]; simp)) (hup hf11 (fun q => h7 (by rw [q]; simp)) (h8)))⟩)
def X0_finishOver_x0 (cd : Int32) : Int32 := if cd = 0 then 1 else 0
def X0_finishOver_x1 (bl : Int32) (sk : Int32) (ot : Int32) : Int32 := if 6 ≤ bl then ot else sk
def X0_finishOver_x2 (bl : Int32) (sk : Int32) (ot : Int32) : Int32 := if 6 ≤ bl then sk else ot
def X0_finishOver_g3 (g2 : Nat → Int32) (bw : Int32) (bl : Int32) (cd : Int32) : Nat → Int32 := if 6 ≤ bl then (tinc 7 11 77 (tinc 7 11 77 g2 bw 6 1) bw 3 (X0_finishOver_x0 cd)) else g2
def X0_finishOver_g4 (g0 : Nat → Int32) (go : Nat → Int32) (oc : Int32) (bl : Int32) : Nat → Int32 := if 6 ≤ bl then (X3_finishOver_g3 go oc (tget 8 1 8 g0 0 0)) else go
def X0_finishOver_x5 (oc : Int32) (bl : Int32) : Int32 := if 6 ≤ bl then (X3_finishOver_x4 oc) else oc
def X0_finishOver_x6 (bw : Int32) (bl : Int32) : Int32 := if 6 ≤ bl then (-1) else bw
def X0_finishOver_x7 (bw : Int32) (bb : Int32) (bl : Int32) : Int32 := if 6 ≤ bl then bw else bb
def X0_finishOver_x8 (bl : Int32) : Int32 := if 6 ≤ bl then 0 else bl
def X0_finishOver_x9 (bl : Int32) (cd : Int32) : Int32 := if 6 ≤ bl then 0 else cd
def X0_finishOver_x10 (bl : Int32) (hbg : Int32) : Int32 := if 6 ≤ bl then 0 else hbg
set_option maxRecDepth 100000 in
theorem c_X0_finishOver {l : Launch} (hfl : l.stackTraces = false) {D : va_G} {cy : Nat → ClassId} {f : Hf} {sz : Nat} {i : Nat} {t0 : Nat} {a0 : Nat} {t1 : Nat} {t2 : Nat} {a2 : Nat} {t3 : Nat} {t4 : Nat} {o : Nat} {oa : Nat} {g0 : Nat → Int32} {g2 : Nat → Int32} {go : Nat → Int32} {lm : Int32} {lf : Int32} {oc : Int32} {bw : Int32} {bb : Int32} {bl : Int32} {cd : Int32} {hbg : Int32} {rs : Int32} {sk : Int32} {ot : Int32} {ch : Int32} {nc : Int32} (h_i : f i = some (.inr (2, [.ref t0, .ref t1, .ref t2, .ref t3, .ref t4, .ref o, .int rs, .int sk, .int ot, .int ch, .int nc]))) (h_t0 : f t0 = some (.inr (8, [.int 8, .ref a0, .int 1]))) (h_a0 : f a0 = some (.inl (cy 0, 8, .inl g0))) (h_t2 : f t2 = some (.inr (8, [.int 7, .ref a2, .int 11]))) (h_a2 : f a2 = some (.inl (cy 0, 77, .inl g2))) (h_o : f o = some (.inr (5, [.ref oa, .int lm, .int lf, .int oc, .int bw, .int bb, .int bl, .int cd, .int hbg]))) (h_oa : f oa = some (.inl (cy 0, 20, .inl go)))  : hMet l yX0_finishOver cX0_finishOver 1 none { frames := 2, cells := 0, slots := 0, locals := 45 } D (hTy cy) f sz [.ref i] (hQv (fun u => u i = some (.inr (2, [.ref t0, .ref t1, .ref t2, .ref t3, .ref t4, .ref o, .int rs, .int (X0_finishOver_x1 bl sk ot), .int (X0_finishOver_x2 bl sk ot), .int ch, .int nc])) ∧ u a2 = some (.inl (cy 0, 77, .inl (X0_finishOver_g3 g2 bw bl cd))) ∧ u oa = some (.inl (cy 0, 20, .inl (X0_finishOver_g4 g0 go oc bl))) ∧ u o = some (.inr (5, [.ref oa, .int lm, .int lf, .int (X0_finishOver_x5 oc bl), .int (X0_finishOver_x6 bw bl), .int (X0_finishOver_x7 bw bb bl), .int (X0_finishOver_x8 bl), .int (X0_finishOver_x9 bl cd), .int (X0_finishOver_x10 bl hbg)])) ∧ hFrL f u [i, a2, oa, o]) D f sz) hNo := by
  refine h_enter (by decide) hfl (Nat.le_of_ble_eq_true rfl) ?_
  intro p9 e9 s9 m9 b9 t9 c9 hsz C0 hr hnm G ls hl
  have hx := C0.1.1
  have hb := C0.1.2.1
  have hl : lv_has ls 1 [(0, .ref i)] := hl
  refine lv_aload_n hx hb dX0_finishOver_0 rfl (lv_at hl 0 rfl) ?_
  refine g_get C0 G h_i rfl hiX0 5 (by decide) mf_X0_35 rfl dX0_finishOver_1 ?_
  refine g_get C0 G h_o rfl hiX3 6 (by decide) mf_X0_97 rfl dX0_finishOver_4 ?_
  refine lv_bipush (v := 6) hx hb dX0_finishOver_7 (by decide) ?_
  refine lv_icmp_ge (tgt := 13) hx hb dX0_finishOver_9 (by decide) (fun c11 => ?_) (fun c11 => ?_)
  · refine lv_aload_n hx hb dX0_finishOver_13 rfl (lv_at hl 0 rfl) ?_
    refine g_cV C0 G (g_runV C0 G (rest := []) (c_X0_changeEnds hfl h_i) h_i rfl hY_X0_changeEnds mm_X0_100 mi_X0_changeEnds ml_X0_changeEnds ⟨(Nat.le_of_ble_eq_true rfl), (Nat.le_of_ble_eq_true rfl)⟩ rfl hl.1 rfl (Nat.le_of_ble_eq_true rfl) dX0_finishOver_14 ⟨(Nat.le_of_ble_eq_true rfl), (Nat.le_of_ble_eq_true rfl)⟩) (kx_no rfl) (fun u13 H locs hp12 G => ?_)
    obtain ⟨k14, fr15⟩ := hp12
    refine lv_aload_n hx hb dX0_finishOver_17 rfl (lv_at hl 0 rfl) ?_
    refine g_get C0 G k14 rfl hiX0 2 (by decide) mf_X0_23 rfl dX0_finishOver_18 ?_
    refine lv_aload_n hx hb dX0_finishOver_21 rfl (lv_at hl 0 rfl) ?_
    refine g_get C0 G k14 rfl hiX0 5 (by decide) mf_X0_35 rfl dX0_finishOver_22 ?_
    have k16 : u13 o = some (.inr (5, [.ref oa, .int lm, .int lf, .int oc, .int bw, .int bb, .int bl, .int cd, .int hbg])) := fr15 _ _ (nm_c (hneD h_o h_i rfl) nm_0) h_o
    refine g_get C0 G k16 rfl hiX3 4 (by decide) mf_X0_81 rfl dX0_finishOver_25 ?_
    refine lv_bipush (v := 6) hx hb dX0_finishOver_28 (by decide) ?_
    refine lv_iconst (v := 1) hx hb dX0_finishOver_30 (by decide) ?_
    have k17 : u13 t2 = some (.inr (8, [.int 7, .ref a2, .int 11])) := fr15 _ _ (nm_c (hneD h_t2 h_i rfl) nm_0) h_t2
    have k18 : u13 a2 = some (.inl (cy 0, 77, .inl g2)) := fr15 _ _ (nm_c (hneD h_a2 h_i rfl) nm_0) h_a2
    refine g_cV C0 G (g_runV C0 G (rest := []) (q_X6_increase hfl bw 6 1 k17 k18 (by omega)) k17 rfl hY_X6_increase mm_X0_103 mi_X6_increase ml_X6_increase ⟨(Nat.le_of_ble_eq_true rfl), (Nat.le_of_ble_eq_true rfl)⟩ rfl hl.1 rfl (Nat.le_of_ble_eq_true rfl) dX0_finishOver_31 ⟨(Nat.le_of_ble_eq_true rfl), (Nat.le_of_ble_eq_true rfl)⟩) (kx_no rfl) (fun u20 H locs hp19 G => ?_)
    obtain ⟨k21, fr22⟩ := hp19
    refine lv_aload_n hx hb dX0_finishOver_34 rfl (lv_at hl 0 rfl) ?_
    have k23 : u20 i = some (.inr (2, [.ref t0, .ref t1, .ref t2, .ref t3, .ref t4, .ref o, .int rs, .int ot, .int sk, .int ch, .int nc])) := fr22 _ _ (nm_c (by first | exact hneD k14 k18 rfl | exact hne k14 k18 (by intro q; cases q)) nm_0) k14
    refine g_get C0 G k23 rfl hiX0 2 (by decide) mf_X0_23 rfl dX0_finishOver_35 ?_
    refine lv_aload_n hx hb dX0_finishOver_38 rfl (lv_at hl 0 rfl) ?_
    refine g_get C0 G k23 rfl hiX0 5 (by decide) mf_X0_35 rfl dX0_finishOver_39 ?_
    have k24 : u20 o = some (.inr (5, [.ref oa, .int lm, .int lf, .int oc, .int bw, .int bb, .int bl, .int cd, .int hbg])) := fr22 _ _ (nm_c (hneD k16 k18 rfl) nm_0) k16
    refine g_get C0 G k24 rfl hiX3 4 (by decide) mf_X0_81 rfl dX0_finishOver_42 ?_
    refine lv_iconst (v := 3) hx hb dX0_finishOver_45 (by decide) ?_
    refine lv_aload_n hx hb dX0_finishOver_46 rfl (lv_at hl 0 rfl) ?_
    refine g_get C0 G k23 rfl hiX0 5 (by decide) mf_X0_35 rfl dX0_finishOver_47 ?_
    refine g_get C0 G k24 rfl hiX3 7 (by decide) mf_X0_106 rfl dX0_finishOver_50 ?_
    have J27 : ∀ (y26 : Int32) (_ : y26 = (X0_finishOver_x0 cd)) (H : Heap) (locs : List Loc) (ls : Array Slot), hG D (hA f sz) u20 s9 H locs → lv_has ls 1 [(0, .ref i)] → W p9 l e9 ({ frames := 2, cells := 0, slots := 0, locals := 45 } : Room) s9 m9 ([.ref i] : List Value).toArray b9 t9 c9 H locs 0 0 (vx_MQ b9 (hQv (fun u => u i = some (.inr (2, [.ref t0, .ref t1, .ref t2, .ref t3, .ref t4, .ref o, .int rs, .int (X0_finishOver_x1 bl sk ot), .int (X0_finishOver_x2 bl sk ot), .int ch, .int nc])) ∧ u a2 = some (.inl (cy 0, 77, .inl (X0_finishOver_g3 g2 bw bl cd))) ∧ u oa = some (.inl (cy 0, 20, .inl (X0_finishOver_g4 g0 go oc bl))) ∧ u o = some (.inr (5, [.ref oa, .int lm, .int lf, .int (X0_finishOver_x5 oc bl), .int (X0_finishOver_x6 bw bl), .int (X0_finishOver_x7 bw bb bl), .int (X0_finishOver_x8 bl), .int (X0_finishOver_x9 bl cd), .int (X0_finishOver_x10 bl hbg)])) ∧ hFrL f u [i, a2, oa, o]) D f sz) (hPx hNo D f sz) ([.ref i] : List Value).toArray s9 0 0 (hA f sz)) (F0 m9 61 ls [.int y26, .int 3, .int bw, .ref t2]) := by
      intro y26 ey26 H locs ls G hl
      replace ey26 := Eq.symm ey26
      subst ey26
      have k29 : u20 t2 = some (.inr (8, [.int 7, .ref a2, .int 11])) := fr22 _ _ (nm_c (hneD k17 k18 rfl) nm_0) k17
      refine g_cV C0 G (g_runV C0 G (rest := []) (q_X6_increase hfl bw 3 (X0_finishOver_x0 cd) k29 k21 (by omega)) k29 rfl hY_X6_increase mm_X0_103 mi_X6_increase ml_X6_increase ⟨(Nat.le_of_ble_eq_true rfl), (Nat.le_of_ble_eq_true rfl)⟩ rfl hl.1 rfl (Nat.le_of_ble_eq_true rfl) dX0_finishOver_61 ⟨(Nat.le_of_ble_eq_true rfl), (Nat.le_of_ble_eq_true rfl)⟩) (kx_no rfl) (fun u31 H locs hp30 G => ?_)
      obtain ⟨k32, fr33⟩ := hp30
      refine lv_aload_n hx hb dX0_finishOver_64 rfl (lv_at hl 0 rfl) ?_
      have k34 : u31 i = some (.inr (2, [.ref t0, .ref t1, .ref t2, .ref t3, .ref t4, .ref o, .int rs, .int ot, .int sk, .int ch, .int nc])) := fr33 _ _ (nm_c (by first | exact hneD k23 k21 rfl | exact hne k23 k21 (by intro q; cases q)) nm_0) k23
      refine g_get C0 G k34 rfl hiX0 5 (by decide) mf_X0_35 rfl dX0_finishOver_65 ?_
      refine lv_aload_n hx hb dX0_finishOver_68 rfl (lv_at hl 0 rfl) ?_
      refine lv_iconst (v := 0) hx hb dX0_finishOver_69 (by decide) ?_
      have k35 : u31 t0 = some (.inr (8, [.int 8, .ref a0, .int 1])) := fr33 _ _ (nm_c (by first | exact hneD (fr22 _ _ (nm_c (hneD (fr15 _ _ (nm_c (hneD h_t0 h_i rfl) nm_0) h_t0) k18 rfl) nm_0) (fr15 _ _ (nm_c (hneD h_t0 h_i rfl) nm_0) h_t0)) k21 rfl | exact hne (fr22 _ _ (nm_c (hneD (fr15 _ _ (nm_c (hneD h_t0 h_i rfl) nm_0) h_t0) k18 rfl) nm_0) (fr15 _ _ (nm_c (hneD h_t0 h_i rfl) nm_0) h_t0)) k21 (by intro q; cases q)) nm_0) (fr22 _ _ (nm_c (hneD (fr15 _ _ (nm_c (hneD h_t0 h_i rfl) nm_0) h_t0) k18 rfl) nm_0) (fr15 _ _ (nm_c (hneD h_t0 h_i rfl) nm_0) h_t0))
      have k36 : u31 a0 = some (.inl (cy 0, 8, .inl g0)) := fr33 _ _ (nm_c (by first | exact hneD (fr22 _ _ (nm_c (hneD (fr15 _ _ (nm_c (hneD h_a0 h_i rfl) nm_0) h_a0) k18 rfl) nm_0) (fr15 _ _ (nm_c (hneD h_a0 h_i rfl) nm_0) h_a0)) k21 rfl | exact hne (fr22 _ _ (nm_c (hneD (fr15 _ _ (nm_c (hneD h_a0 h_i rfl) nm_0) h_a0) k18 rfl) nm_0) (fr15 _ _ (nm_c (hneD h_a0 h_i rfl) nm_0) h_a0)) k21 (by intro q; cases q)) nm_0) (fr22 _ _ (nm_c (hneD (fr15 _ _ (nm_c (hneD h_a0 h_i rfl) nm_0) h_a0) k18 rfl) nm_0) (fr15 _ _ (nm_c (hneD h_a0 h_i rfl) nm_0) h_a0))
      refine g_cI C0 G (g_runV C0 G (rest := [.ref o]) (c_X0_total hfl 0 k34 k35 k36) k34 rfl hY_X0_total mm_X0_109 mi_X0_total ml_X0_total ⟨(Nat.le_of_ble_eq_true rfl), (Nat.le_of_ble_eq_true rfl)⟩ rfl hl.1 rfl (Nat.le_of_ble_eq_true rfl) dX0_finishOver_70 ⟨(Nat.le_of_ble_eq_true rfl), (Nat.le_of_ble_eq_true rfl)⟩) (kx_no rfl) (fun r39 u38 H locs hp37 G => ?_)
      obtain ⟨zr, eu38⟩ := hp37
      replace zr := Eq.symm zr
      subst zr
      rw [eu38] at G
      have k40 : u31 o = some (.inr (5, [.ref oa, .int lm, .int lf, .int oc, .int bw, .int bb, .int bl, .int cd, .int hbg])) := fr33 _ _ (nm_c (by first | exact hneD k24 k21 rfl | exact hne k24 k21 (by intro q; cases q)) nm_0) k24
      have k41 : u31 oa = some (.inl (cy 0, 20, .inl go)) := fr33 _ _ (nm_c (by first | exact hneD (fr22 _ _ (nm_c (hneD (fr15 _ _ (nm_c (hneD h_oa h_i rfl) nm_0) h_oa) k18 rfl) nm_0) (fr15 _ _ (nm_c (hneD h_oa h_i rfl) nm_0) h_oa)) k21 rfl | exact hne (fr22 _ _ (nm_c (hneD (fr15 _ _ (nm_c (hneD h_oa h_i rfl) nm_0) h_oa) k18 rfl) nm_0) (fr15 _ _ (nm_c (hneD h_oa h_i rfl) nm_0) h_oa)) k21 (by intro q; cases q)) nm_0) (fr22 _ _ (nm_c (hneD (fr15 _ _ (nm_c (hneD h_oa h_i rfl) nm_0) h_oa) k18 rfl) nm_0) (fr15 _ _ (nm_c (hneD h_oa h_i rfl) nm_0) h_oa))
      refine g_cV C0 G (g_runV C0 G (rest := []) (c_X3_finishOver hfl (tget 8 1 8 g0 0 0) k40 k41) k40 rfl hY_X3_finishOver mm_X0_112 mi_X3_finishOver ml_X3_finishOver ⟨(Nat.le_of_ble_eq_true rfl), (Nat.le_of_ble_eq_true rfl)⟩ rfl hl.1 rfl (Nat.le_of_ble_eq_true rfl) dX0_finishOver_73 ⟨(Nat.le_of_ble_eq_true rfl), (Nat.le_of_ble_eq_true rfl)⟩) (kx_no rfl) (fun u43 H locs hp42 G => ?_)
      obtain ⟨k44, k45, fr46⟩ := hp42
      have k47 : u43 i = some (.inr (2, [.ref t0, .ref t1, .ref t2, .ref t3, .ref t4, .ref o, .int rs, .int ot, .int sk, .int ch, .int nc])) := fr46 _ _ (nm_c (hneD k34 k41 rfl) (nm_c (hneD k34 k40 rfl) nm_0)) k34
      have k48 : u43 a2 = some (.inl (cy 0, 77, .inl (tinc 7 11 77 (tinc 7 11 77 g2 bw 6 1) bw 3 (X0_finishOver_x0 cd)))) := fr46 _ _ (nm_c (by first | exact hneD k32 k41 rfl | exact hne k32 k41 (by intro q; cases q)) (nm_c (by first | exact hneD k32 k40 rfl | exact hne k32 k40 (by intro q; cases q)) nm_0)) k32
      exact g_vret C0 G hr dX0_finishOver_76 (Nat.le_of_ble_eq_true rfl) (Nat.le_of_ble_eq_true rfl) (by exact ⟨(by rw [(by rw [X0_finishOver_x1, if_pos c11] : (X0_finishOver_x1 bl sk ot) = ot), (by rw [X0_finishOver_x2, if_pos c11] : (X0_finishOver_x2 bl sk ot) = sk)]; exact k47), (by rw [(by rw [X0_finishOver_g3, if_pos c11] : (X0_finishOver_g3 g2 bw bl cd) = (tinc 7 11 77 (tinc 7 11 77 g2 bw 6 1) bw 3 (X0_finishOver_x0 cd)))]; exact k48), (by rw [(by rw [X0_finishOver_g4, if_pos c11] : (X0_finishOver_g4 g0 go oc bl) = (X3_finishOver_g3 go oc (tget 8 1 8 g0 0 0)))]; exact k44), (by rw [(by rw [X0_finishOver_x5, if_pos c11] : (X0_finishOver_x5 oc bl) = (X3_finishOver_x4 oc)), (by rw [X0_finishOver_x6, if_pos c11] : (X0_finishOver_x6 bw bl) = (-1)), (by rw [X0_finishOver_x7, if_pos c11] : (X0_finishOver_x7 bw bb bl) = bw), (by rw [X0_finishOver_x8, if_pos c11] : (X0_finishOver_x8 bl) = 0), (by rw [X0_finishOver_x9, if_pos c11] : (X0_finishOver_x9 bl cd) = 0), (by rw [X0_finishOver_x10, if_pos c11] : (X0_finishOver_x10 bl hbg) = 0)]; exact k45), (fun a9 e9 h7 h8 => fr46 _ _ (fun q => h7 (by simp only [List.mem_cons, List.not_mem_nil, or_false] at q ⊢; first | exact q | (rcases q with q | q <;> simp [q]) | omega)) (fr33 _ _ (fun q => h7 (by simp only [List.mem_cons, List.not_mem_nil, or_false] at q ⊢; first | exact q | (rcases q with q <;> simp [q]) | omega)) (fr22 _ _ (fun q => h7 (by simp only [List.mem_cons, List.not_mem_nil, or_false] at q ⊢; first | exact q | (rcases q with q <;> simp [q]) | omega)) (fr15 _ _ (fun q => h7 (by simp only [List.mem_cons, List.not_mem_nil, or_false] at q ⊢; first | exact q | (rcases q with q <;> simp [q]) | omega)) (h8)))))⟩)
    refine lv_if_ne (tgt := 60) hx hb dX0_finishOver_53 (by decide) (fun c25 => ?_) (fun c25 => ?_)
    · refine lv_iconst (v := 0) hx hb dX0_finishOver_60 (by decide) ?_
      exact J27 0 (by rw [X0_finishOver_x0, if_neg c25]) _ _ _ G (lv_sub hl [0] rfl)
    · refine lv_iconst (v := 1) hx hb dX0_finishOver_56 (by decide) ?_
      refine lv_goto (tgt := 61) hx hb dX0_finishOver_57 (by decide) ?_
      exact J27 1 (by rw [X0_finishOver_x0, if_pos c25]) _ _ _ G (lv_sub hl [0] rfl)
  · exact g_vret C0 G hr dX0_finishOver_12 (Nat.le_of_ble_eq_true rfl) (Nat.le_of_ble_eq_true rfl) (by exact ⟨(by rw [(by rw [X0_finishOver_x1, if_neg c11] : (X0_finishOver_x1 bl sk ot) = sk), (by rw [X0_finishOver_x2, if_neg c11] : (X0_finishOver_x2 bl sk ot) = ot)]; exact h_i), (by rw [(by rw [X0_finishOver_g3, if_neg c11] : (X0_finishOver_g3 g2 bw bl cd) = g2)]; exact h_a2), (by rw [(by rw [X0_finishOver_g4, if_neg c11] : (X0_finishOver_g4 g0 go oc bl) = go)]; exact h_oa), (by rw [(by rw [X0_finishOver_x5, if_neg c11] : (X0_finishOver_x5 oc bl) = oc), (by rw [X0_finishOver_x6, if_neg c11] : (X0_finishOver_x6 bw bl) = bw), (by rw [X0_finishOver_x7, if_neg c11] : (X0_finishOver_x7 bw bb bl) = bb), (by rw [X0_finishOver_x8, if_neg c11] : (X0_finishOver_x8 bl) = bl), (by rw [X0_finishOver_x9, if_neg c11] : (X0_finishOver_x9 bl cd) = cd), (by rw [X0_finishOver_x10, if_neg c11] : (X0_finishOver_x10 bl hbg) = hbg)]; exact h_o), (fun a9 e9 h7 h8 => h8)⟩)
def X0_canLose_x0 (lm : Int32) (oc : Int32) (hbg : Int32) (lost : Int32) : Int32 := if (lm - lost) ≤ (X3_begun_x0 oc hbg) then 0 else 1
set_option maxRecDepth 100000 in
theorem c_X0_canLose {l : Launch} (hfl : l.stackTraces = false) {D : va_G} {cy : Nat → ClassId} {f : Hf} {sz : Nat} {i : Nat} {t0 : Nat} {t1 : Nat} {t2 : Nat} {t3 : Nat} {t4 : Nat} {o : Nat} {oa : Nat} {lm : Int32} {lf : Int32} {oc : Int32} {bw : Int32} {bb : Int32} {bl : Int32} {cd : Int32} {hbg : Int32} {rs : Int32} {sk : Int32} {ot : Int32} {ch : Int32} {nc : Int32} (lost : Int32) (h_i : f i = some (.inr (2, [.ref t0, .ref t1, .ref t2, .ref t3, .ref t4, .ref o, .int rs, .int sk, .int ot, .int ch, .int nc]))) (h_o : f o = some (.inr (5, [.ref oa, .int lm, .int lf, .int oc, .int bw, .int bb, .int bl, .int cd, .int hbg])))  : hMet l yX0_canLose cX0_canLose 2 (some .boolean) { frames := 1, cells := 0, slots := 0, locals := 20 } D (hTy cy) f sz [.ref i, .int lost] (hQi (fun r u => r = (X0_canLose_x0 lm oc hbg lost) ∧ u = f) D f sz) hNo := by
  refine h_enter (by decide) hfl (Nat.le_of_ble_eq_true rfl) ?_
  intro p9 e9 s9 m9 b9 t9 c9 hsz C0 hr hnm G ls hl
  have hx := C0.1.1
  have hb := C0.1.2.1
  have hl : lv_has ls 2 [(0, .ref i), (1, .int lost)] := hl
  refine lv_aload_n hx hb dX0_canLose_0 rfl (lv_at hl 0 rfl) ?_
  refine g_get C0 G h_i rfl hiX0 5 (by decide) mf_X0_35 rfl dX0_canLose_1 ?_
  refine g_get C0 G h_o rfl hiX3 1 (by decide) mf_X0_78 rfl dX0_canLose_4 ?_
  refine lv_iload_n hx hb dX0_canLose_7 rfl (lv_at hl 1 rfl) ?_
  refine lv_isub hx hb dX0_canLose_8 ?_
  refine lv_aload_n hx hb dX0_canLose_9 rfl (lv_at hl 0 rfl) ?_
  refine g_get C0 G h_i rfl hiX0 5 (by decide) mf_X0_35 rfl dX0_canLose_10 ?_
  refine g_cI C0 G (g_runV C0 G (rest := [.int (lm - lost)]) (c_X3_begun hfl h_o) h_o rfl hY_X3_begun mm_X0_115 mi_X3_begun ml_X3_begun ⟨(Nat.le_of_ble_eq_true rfl), (Nat.le_of_ble_eq_true rfl)⟩ rfl hl.1 rfl (Nat.le_of_ble_eq_true rfl) dX0_canLose_13 ⟨(Nat.le_of_ble_eq_true rfl), (Nat.le_of_ble_eq_true rfl)⟩) (kx_no rfl) (fun r13 u12 H locs hp11 G => ?_)
  obtain ⟨zr, eu12⟩ := hp11
  replace zr := Eq.symm zr
  subst zr
  rw [eu12] at G
  have J16 : ∀ (y15 : Int32) (_ : y15 = (X0_canLose_x0 lm oc hbg lost)) (H : Heap) (locs : List Loc) (ls : Array Slot), hG D (hA f sz) f s9 H locs → lv_has ls 2 [(0, .ref i), (1, .int lost)] → W p9 l e9 ({ frames := 1, cells := 0, slots := 0, locals := 20 } : Room) s9 m9 ([.ref i, .int lost] : List Value).toArray b9 t9 c9 H locs 0 0 (vx_MQ b9 (hQi (fun r u => r = (X0_canLose_x0 lm oc hbg lost) ∧ u = f) D f sz) (hPx hNo D f sz) ([.ref i, .int lost] : List Value).toArray s9 0 0 (hA f sz)) (F0 m9 24 ls [.int y15]) := by
    intro y15 ey15 H locs ls G hl
    replace ey15 := Eq.symm ey15
    subst ey15
    exact g_zret C0 G hr dX0_canLose_24 (hZb (by unfold X0_canLose_x0; split; exact (Or.inl rfl); exact (Or.inr rfl))) (Nat.le_of_ble_eq_true rfl) (Nat.le_of_ble_eq_true rfl) (by exact ⟨rfl, rfl⟩)
  refine lv_icmp_le (tgt := 23) hx hb dX0_canLose_16 (by decide) (fun c14 => ?_) (fun c14 => ?_)
  · refine lv_iconst (v := 0) hx hb dX0_canLose_23 (by decide) ?_
    exact J16 0 (by rw [X0_canLose_x0, if_pos c14]) _ _ _ G (lv_sub hl [0, 1] rfl)
  · refine lv_iconst (v := 1) hx hb dX0_canLose_19 (by decide) ?_
    refine lv_goto (tgt := 24) hx hb dX0_canLose_20 (by decide) ?_
    exact J16 1 (by rw [X0_canLose_x0, if_neg c14]) _ _ _ G (lv_sub hl [0, 1] rfl)
theorem b_c_X0_canLose (lm : Int32) (oc : Int32) (hbg : Int32) (lost : Int32) : (X0_canLose_x0 lm oc hbg lost) = 0 ∨ (X0_canLose_x0 lm oc hbg lost) = 1 := (by unfold X0_canLose_x0; split; exact (Or.inl rfl); exact (Or.inr rfl))
def X0_lowerLimit_r0 (lm : Int32) (lost : Int32) : Int32 := lm - lost
set_option maxRecDepth 100000 in
theorem c_X0_lowerLimit {l : Launch} (hfl : l.stackTraces = false) {D : va_G} {cy : Nat → ClassId} {f : Hf} {sz : Nat} {i : Nat} {t0 : Nat} {a0 : Nat} {t1 : Nat} {t2 : Nat} {t3 : Nat} {t4 : Nat} {o : Nat} {oa : Nat} {g0 : Nat → Int32} {lm : Int32} {lf : Int32} {oc : Int32} {bw : Int32} {bb : Int32} {bl : Int32} {cd : Int32} {hbg : Int32} {rs : Int32} {sk : Int32} {ot : Int32} {ch : Int32} {nc : Int32} (lost : Int32) (h_i : f i = some (.inr (2, [.ref t0, .ref t1, .ref t2, .ref t3, .ref t4, .ref o, .int rs, .int sk, .int ot, .int ch, .int nc]))) (h_t0 : f t0 = some (.inr (8, [.int 8, .ref a0, .int 1]))) (h_a0 : f a0 = some (.inl (cy 0, 8, .inl g0))) (h_o : f o = some (.inr (5, [.ref oa, .int lm, .int lf, .int oc, .int bw, .int bb, .int bl, .int cd, .int hbg])))  : hMet l yX0_lowerLimit cX0_lowerLimit 3 (some .int) { frames := 2, cells := 0, slots := 0, locals := 45 } D (hTy cy) f sz [.ref i, .int lost] (hQi (fun r u => r = (X0_lowerLimit_r0 lm lost) ∧ u o = some (.inr (5, [.ref oa, .int (lm - lost), .int lf, .int oc, .int bw, .int bb, .int bl, .int cd, .int hbg])) ∧ u i = some (.inr (2, [.ref t0, .ref t1, .ref t2, .ref t3, .ref t4, .ref o, .int (rs - ((X0_value_r0 g0 lm) - (X0_value_r0 g0 (lm - lost)))), .int sk, .int ot, .int ch, .int nc])) ∧ hFrL f u [o, i]) D f sz) hNo := by
  refine h_enter (by decide) hfl (Nat.le_of_ble_eq_true rfl) ?_
  intro p9 e9 s9 m9 b9 t9 c9 hsz C0 hr hnm G ls hl
  have hx := C0.1.1
  have hb := C0.1.2.1
  have hl : lv_has ls 3 [(0, .ref i), (1, .int lost)] := hl
  refine lv_aload_n hx hb dX0_lowerLimit_0 rfl (lv_at hl 0 rfl) ?_
  refine g_cI C0 G (g_runV C0 G (rest := []) (c_X0_value hfl h_i h_t0 h_a0 h_o) h_i rfl hY_X0_value mm_X0_67 mi_X0_value ml_X0_value ⟨(Nat.le_of_ble_eq_true rfl), (Nat.le_of_ble_eq_true rfl)⟩ rfl hl.1 rfl (Nat.le_of_ble_eq_true rfl) dX0_lowerLimit_1 ⟨(Nat.le_of_ble_eq_true rfl), (Nat.le_of_ble_eq_true rfl)⟩) (kx_no rfl) (fun r13 u12 H locs hp11 G => ?_)
  obtain ⟨zr, eu12⟩ := hp11
  replace zr := Eq.symm zr
  subst zr
  rw [eu12] at G
  refine lv_istore_n (lv' := [(2, .int (X0_value_r0 g0 lm)), (0, .ref i), (1, .int lost)]) hx hb dX0_lowerLimit_4 rfl hl (by decide) rfl (fun ls hl => ?_)
  refine lv_aload_n hx hb dX0_lowerLimit_5 rfl (lv_at hl 1 rfl) ?_
  refine g_get C0 G h_i rfl hiX0 5 (by decide) mf_X0_35 rfl dX0_lowerLimit_6 ?_
  refine lv_dup hx hb dX0_lowerLimit_9 rfl ?_
  refine g_get C0 G h_o rfl hiX3 1 (by decide) mf_X0_78 rfl dX0_lowerLimit_10 ?_
  refine lv_iload_n hx hb dX0_lowerLimit_13 rfl (lv_at hl 2 rfl) ?_
  refine lv_isub hx hb dX0_lowerLimit_14 ?_
  refine g_put C0 G h_o rfl hiX3 tyX3 tyX3_ok nmX3 1 (by decide) mf_X0_78 rfl rfl rfl rfl (Nat.le_of_ble_eq_true rfl) dX0_lowerLimit_15 (fun H locs f14 hf14 G => ?_)
  have k15 : f14 o = some (.inr (5, [.ref oa, .int (lm - lost), .int lf, .int oc, .int bw, .int bb, .int bl, .int cd, .int hbg])) := hus hf14
  refine lv_aload_n hx hb dX0_lowerLimit_18 rfl (lv_at hl 1 rfl) ?_
  refine lv_dup hx hb dX0_lowerLimit_19 rfl ?_
  have k16 : f14 i = some (.inr (2, [.ref t0, .ref t1, .ref t2, .ref t3, .ref t4, .ref o, .int rs, .int sk, .int ot, .int ch, .int nc])) := hup hf14 (hneD h_i h_o rfl) h_i
  refine g_get C0 G k16 rfl hiX0 6 (by decide) mf_X0_39 rfl dX0_lowerLimit_20 ?_
  refine lv_iload_n hx hb dX0_lowerLimit_23 rfl (lv_at hl 0 rfl) ?_
  refine lv_aload_n hx hb dX0_lowerLimit_24 rfl (lv_at hl 1 rfl) ?_
  have k17 : f14 t0 = some (.inr (8, [.int 8, .ref a0, .int 1])) := hup hf14 (hneD h_t0 h_o rfl) h_t0
  have k18 : f14 a0 = some (.inl (cy 0, 8, .inl g0)) := hup hf14 (hneD h_a0 h_o rfl) h_a0
  refine g_cI C0 G (g_runV C0 G (rest := [.int (X0_value_r0 g0 lm), .int rs, .ref i]) (c_X0_value hfl k16 k17 k18 k15) k16 rfl hY_X0_value mm_X0_67 mi_X0_value ml_X0_value ⟨(Nat.le_of_ble_eq_true rfl), (Nat.le_of_ble_eq_true rfl)⟩ rfl hl.1 rfl (Nat.le_of_ble_eq_true rfl) dX0_lowerLimit_25 ⟨(Nat.le_of_ble_eq_true rfl), (Nat.le_of_ble_eq_true rfl)⟩) (kx_no rfl) (fun r21 u20 H locs hp19 G => ?_)
  obtain ⟨zr, eu20⟩ := hp19
  replace zr := Eq.symm zr
  subst zr
  rw [eu20] at G
  refine lv_isub hx hb dX0_lowerLimit_28 ?_
  refine lv_isub hx hb dX0_lowerLimit_29 ?_
  refine g_put C0 G k16 rfl hiX0 tyX0 tyX0_ok nmX0 6 (by decide) mf_X0_39 rfl rfl rfl rfl (Nat.le_of_ble_eq_true rfl) dX0_lowerLimit_30 (fun H locs f22 hf22 G => ?_)
  have k23 : f22 i = some (.inr (2, [.ref t0, .ref t1, .ref t2, .ref t3, .ref t4, .ref o, .int (rs - ((X0_value_r0 g0 lm) - (X0_value_r0 g0 (lm - lost)))), .int sk, .int ot, .int ch, .int nc])) := hus hf22
  refine lv_aload_n hx hb dX0_lowerLimit_33 rfl (lv_at hl 1 rfl) ?_
  refine g_get C0 G k23 rfl hiX0 5 (by decide) mf_X0_35 rfl dX0_lowerLimit_34 ?_
  have k24 : f22 o = some (.inr (5, [.ref oa, .int (lm - lost), .int lf, .int oc, .int bw, .int bb, .int bl, .int cd, .int hbg])) := hup hf22 (hneD k15 k16 rfl) k15
  refine g_get C0 G k24 rfl hiX3 1 (by decide) mf_X0_78 rfl dX0_lowerLimit_37 ?_
  exact g_iret C0 G hr dX0_lowerLimit_40 (Nat.le_of_ble_eq_true rfl) (Nat.le_of_ble_eq_true rfl) (by exact ⟨(by rw [X0_lowerLimit_r0]), k24, k23, (fun a9 e9 h7 h8 => hup hf22 (fun q => h7 (by rw [q]; simp)) (hup hf14 (fun q => h7 (by rw [q]; simp)) (h8)))⟩)
def X0_countExtras_g0 (g0 : Nat → Int32) (kd : Int32) (ru : Int32) : Nat → Int32 := if kd = 1 then (tinc 8 1 8 g0 0 3 (X5_teamRuns_x1 kd ru)) else (if kd = 2 then (tinc 8 1 8 g0 0 4 1) else (if kd = 3 then (tinc 8 1 8 g0 0 5 ru) else (if kd = 4 then (tinc 8 1 8 g0 0 6 ru) else g0)))
set_option maxRecDepth 100000 in
theorem c_X0_countExtras {l : Launch} (hfl : l.stackTraces = false) {D : va_G} {cy : Nat → ClassId} {f : Hf} {sz : Nat} {i : Nat} {t0 : Nat} {a0 : Nat} {t1 : Nat} {t2 : Nat} {t3 : Nat} {t4 : Nat} {o : Nat} {st : Nat} {g0 : Nat → Int32} {rs : Int32} {sk : Int32} {ot : Int32} {ch : Int32} {nc : Int32} {ty : Int32} {nu : Int32} {wy : Int32} {kd : Int32} {ru : Int32} {so : Int32} {sb : Int32} {sc : Int32} {sh : Int32} (h_i : f i = some (.inr (2, [.ref t0, .ref t1, .ref t2, .ref t3, .ref t4, .ref o, .int rs, .int sk, .int ot, .int ch, .int nc]))) (h_st : f st = some (.inr (7, [.int ty, .int nu, .int wy, .int kd, .int ru, .int so, .int sb, .int sc, .int sh]))) (h_t0 : f t0 = some (.inr (8, [.int 8, .ref a0, .int 1]))) (h_a0 : f a0 = some (.inl (cy 0, 8, .inl g0)))  : hMet l yX0_countExtras cX0_countExtras 2 none { frames := 1, cells := 0, slots := 0, locals := 25 } D (hTy cy) f sz [.ref i, .ref st] (hQv (fun u => u a0 = some (.inl (cy 0, 8, .inl (X0_countExtras_g0 g0 kd ru))) ∧ hFrL f u [a0]) D f sz) hNo := by
  refine h_enter (by decide) hfl (Nat.le_of_ble_eq_true rfl) ?_
  intro p9 e9 s9 m9 b9 t9 c9 hsz C0 hr hnm G ls hl
  have hx := C0.1.1
  have hb := C0.1.2.1
  have hl : lv_has ls 2 [(0, .ref i), (1, .ref st)] := hl
  refine lv_aload_n hx hb dX0_countExtras_0 rfl (lv_at hl 1 rfl) ?_
  refine g_get C0 G h_st rfl hiX5 3 (by decide) mf_X0_165 rfl dX0_countExtras_1 ?_
  have J17 : ∀ (y16 : Nat → Int32) (_ : y16 = (X0_countExtras_g0 g0 kd ru)) (f18 : Hf) (H : Heap) (locs : List Loc) (ls : Array Slot), f18 a0 = some (.inl (cy 0, 8, .inl y16)) → hFrL f f18 [a0] → hG D (hA f sz) f18 s9 H locs → lv_has ls 2 [(0, .ref i), (1, .ref st)] → W p9 l e9 ({ frames := 1, cells := 0, slots := 0, locals := 25 } : Room) s9 m9 ([.ref i, .ref st] : List Value).toArray b9 t9 c9 H locs 0 0 (vx_MQ b9 (hQv (fun u => u a0 = some (.inl (cy 0, 8, .inl (X0_countExtras_g0 g0 kd ru))) ∧ hFrL f u [a0]) D f sz) (hPx hNo D f sz) ([.ref i, .ref st] : List Value).toArray s9 0 0 (hA f sz)) (F0 m9 98 ls []) := by
    intro y16 ey16 f18 H locs ls k19 fr20 G hl
    replace ey16 := Eq.symm ey16
    subst ey16
    exact g_vret C0 G hr dX0_countExtras_98 (Nat.le_of_ble_eq_true rfl) (Nat.le_of_ble_eq_true rfl) (by exact ⟨k19, (fun a9 e9 h7 h8 => fr20 _ _ (fun q => h7 (by simp only [List.mem_cons, List.not_mem_nil, or_false] at q ⊢; first | exact q | (rcases q with q <;> simp [q]) | omega)) (h8))⟩)
  have sw15 : (kd = 1) ∨ (¬ kd = 1 ∧ kd = 2) ∨ (¬ kd = 1 ∧ ¬ kd = 2 ∧ kd = 3) ∨ (¬ kd = 1 ∧ ¬ kd = 2 ∧ ¬ kd = 3 ∧ kd = 4) ∨ (¬ kd = 1 ∧ ¬ kd = 2 ∧ ¬ kd = 3 ∧ ¬ kd = 4) := by
    by_cases w11 : kd = 1
    · exact Or.inl w11
    rename ¬ kd = 1 => nw11
    by_cases w12 : kd = 2
    · exact Or.inr (Or.inl ⟨nw11, w12⟩)
    rename ¬ kd = 2 => nw12
    by_cases w13 : kd = 3
    · exact Or.inr (Or.inr (Or.inl ⟨nw11, nw12, w13⟩))
    rename ¬ kd = 3 => nw13
    by_cases w14 : kd = 4
    · exact Or.inr (Or.inr (Or.inr (Or.inl ⟨nw11, nw12, nw13, w14⟩)))
    rename ¬ kd = 4 => nw14
    exact Or.inr (Or.inr (Or.inr (Or.inr (⟨nw11, nw12, nw13, nw14⟩))))
  rcases sw15 with w11 | ⟨nw11, w12⟩ | ⟨nw11, nw12, w13⟩ | ⟨nw11, nw12, nw13, w14⟩ | ⟨nw11, nw12, nw13, nw14⟩
  · refine lv_tableIn (off := 32) (tgt := 36) hx hb dX0_countExtras_4 (by rw [w11]; decide) (by rw [w11]; decide) (by rw [w11]; rfl) (by decide) ?_
    refine lv_aload_n hx hb dX0_countExtras_36 rfl (lv_at hl 0 rfl) ?_
    refine g_get C0 G h_i rfl hiX0 0 (by decide) mf_X0_16 rfl dX0_countExtras_37 ?_
    refine lv_iconst (v := 0) hx hb dX0_countExtras_40 (by decide) ?_
    refine lv_iconst (v := 3) hx hb dX0_countExtras_41 (by decide) ?_
    refine lv_aload_n hx hb dX0_countExtras_42 rfl (lv_at hl 1 rfl) ?_
    refine g_cI C0 G (g_runV C0 G (rest := [.int 3, .int 0, .ref t0]) (c_X5_teamRuns hfl h_st) h_st rfl hY_X5_teamRuns mm_X0_124 mi_X5_teamRuns ml_X5_teamRuns ⟨(Nat.le_of_ble_eq_true rfl), (Nat.le_of_ble_eq_true rfl)⟩ rfl hl.1 rfl (Nat.le_of_ble_eq_true rfl) dX0_countExtras_43 ⟨(Nat.le_of_ble_eq_true rfl), (Nat.le_of_ble_eq_true rfl)⟩) (kx_no rfl) (fun r23 u22 H locs hp21 G => ?_)
    obtain ⟨zr, eu22⟩ := hp21
    replace zr := Eq.symm zr
    subst zr
    rw [eu22] at G
    refine g_cV C0 G (g_runV C0 G (rest := []) (q_X6_increase hfl 0 3 (X5_teamRuns_x1 kd ru) h_t0 h_a0 (by omega)) h_t0 rfl hY_X6_increase mm_X0_103 mi_X6_increase ml_X6_increase ⟨(Nat.le_of_ble_eq_true rfl), (Nat.le_of_ble_eq_true rfl)⟩ rfl hl.1 rfl (Nat.le_of_ble_eq_true rfl) dX0_countExtras_46 ⟨(Nat.le_of_ble_eq_true rfl), (Nat.le_of_ble_eq_true rfl)⟩) (kx_no rfl) (fun u25 H locs hp24 G => ?_)
    obtain ⟨k26, fr27⟩ := hp24
    refine lv_goto (tgt := 98) hx hb dX0_countExtras_49 (by decide) ?_
    exact J17 (tinc 8 1 8 g0 0 3 (X5_teamRuns_x1 kd ru)) (by rw [X0_countExtras_g0, if_pos w11]) u25 _ _ _ k26 (fun a9 e9 h7 h8 => fr27 _ _ (fun q => h7 (by simp only [List.mem_cons, List.not_mem_nil, or_false] at q ⊢; first | exact q | (rcases q with q <;> simp [q]) | omega)) (h8)) G (lv_sub hl [0, 1] rfl)
  · refine lv_tableIn (off := 48) (tgt := 52) hx hb dX0_countExtras_4 (by rw [w12]; decide) (by rw [w12]; decide) (by rw [w12]; rfl) (by decide) ?_
    refine lv_aload_n hx hb dX0_countExtras_52 rfl (lv_at hl 0 rfl) ?_
    refine g_get C0 G h_i rfl hiX0 0 (by decide) mf_X0_16 rfl dX0_countExtras_53 ?_
    refine lv_iconst (v := 0) hx hb dX0_countExtras_56 (by decide) ?_
    refine lv_iconst (v := 4) hx hb dX0_countExtras_57 (by decide) ?_
    refine lv_iconst (v := 1) hx hb dX0_countExtras_58 (by decide) ?_
    refine g_cV C0 G (g_runV C0 G (rest := []) (q_X6_increase hfl 0 4 1 h_t0 h_a0 (by omega)) h_t0 rfl hY_X6_increase mm_X0_103 mi_X6_increase ml_X6_increase ⟨(Nat.le_of_ble_eq_true rfl), (Nat.le_of_ble_eq_true rfl)⟩ rfl hl.1 rfl (Nat.le_of_ble_eq_true rfl) dX0_countExtras_59 ⟨(Nat.le_of_ble_eq_true rfl), (Nat.le_of_ble_eq_true rfl)⟩) (kx_no rfl) (fun u29 H locs hp28 G => ?_)
    obtain ⟨k30, fr31⟩ := hp28
    refine lv_goto (tgt := 98) hx hb dX0_countExtras_62 (by decide) ?_
    exact J17 (tinc 8 1 8 g0 0 4 1) (by rw [X0_countExtras_g0, if_neg nw11, if_pos w12]) u29 _ _ _ k30 (fun a9 e9 h7 h8 => fr31 _ _ (fun q => h7 (by simp only [List.mem_cons, List.not_mem_nil, or_false] at q ⊢; first | exact q | (rcases q with q <;> simp [q]) | omega)) (h8)) G (lv_sub hl [0, 1] rfl)
  · refine lv_tableIn (off := 61) (tgt := 65) hx hb dX0_countExtras_4 (by rw [w13]; decide) (by rw [w13]; decide) (by rw [w13]; rfl) (by decide) ?_
    refine lv_aload_n hx hb dX0_countExtras_65 rfl (lv_at hl 0 rfl) ?_
    refine g_get C0 G h_i rfl hiX0 0 (by decide) mf_X0_16 rfl dX0_countExtras_66 ?_
    refine lv_iconst (v := 0) hx hb dX0_countExtras_69 (by decide) ?_
    refine lv_iconst (v := 5) hx hb dX0_countExtras_70 (by decide) ?_
    refine lv_aload_n hx hb dX0_countExtras_71 rfl (lv_at hl 1 rfl) ?_
    refine g_get C0 G h_st rfl hiX5 4 (by decide) mf_X0_168 rfl dX0_countExtras_72 ?_
    refine g_cV C0 G (g_runV C0 G (rest := []) (q_X6_increase hfl 0 5 ru h_t0 h_a0 (by omega)) h_t0 rfl hY_X6_increase mm_X0_103 mi_X6_increase ml_X6_increase ⟨(Nat.le_of_ble_eq_true rfl), (Nat.le_of_ble_eq_true rfl)⟩ rfl hl.1 rfl (Nat.le_of_ble_eq_true rfl) dX0_countExtras_75 ⟨(Nat.le_of_ble_eq_true rfl), (Nat.le_of_ble_eq_true rfl)⟩) (kx_no rfl) (fun u33 H locs hp32 G => ?_)
    obtain ⟨k34, fr35⟩ := hp32
    refine lv_goto (tgt := 98) hx hb dX0_countExtras_78 (by decide) ?_
    exact J17 (tinc 8 1 8 g0 0 5 ru) (by rw [X0_countExtras_g0, if_neg nw11, if_neg nw12, if_pos w13]) u33 _ _ _ k34 (fun a9 e9 h7 h8 => fr35 _ _ (fun q => h7 (by simp only [List.mem_cons, List.not_mem_nil, or_false] at q ⊢; first | exact q | (rcases q with q <;> simp [q]) | omega)) (h8)) G (lv_sub hl [0, 1] rfl)
  · refine lv_tableIn (off := 77) (tgt := 81) hx hb dX0_countExtras_4 (by rw [w14]; decide) (by rw [w14]; decide) (by rw [w14]; rfl) (by decide) ?_
    refine lv_aload_n hx hb dX0_countExtras_81 rfl (lv_at hl 0 rfl) ?_
    refine g_get C0 G h_i rfl hiX0 0 (by decide) mf_X0_16 rfl dX0_countExtras_82 ?_
    refine lv_iconst (v := 0) hx hb dX0_countExtras_85 (by decide) ?_
    refine lv_bipush (v := 6) hx hb dX0_countExtras_86 (by decide) ?_
    refine lv_aload_n hx hb dX0_countExtras_88 rfl (lv_at hl 1 rfl) ?_
    refine g_get C0 G h_st rfl hiX5 4 (by decide) mf_X0_168 rfl dX0_countExtras_89 ?_
    refine g_cV C0 G (g_runV C0 G (rest := []) (q_X6_increase hfl 0 6 ru h_t0 h_a0 (by omega)) h_t0 rfl hY_X6_increase mm_X0_103 mi_X6_increase ml_X6_increase ⟨(Nat.le_of_ble_eq_true rfl), (Nat.le_of_ble_eq_true rfl)⟩ rfl hl.1 rfl (Nat.le_of_ble_eq_true rfl) dX0_countExtras_92 ⟨(Nat.le_of_ble_eq_true rfl), (Nat.le_of_ble_eq_true rfl)⟩) (kx_no rfl) (fun u37 H locs hp36 G => ?_)
    obtain ⟨k38, fr39⟩ := hp36
    refine lv_goto (tgt := 98) hx hb dX0_countExtras_95 (by decide) ?_
    exact J17 (tinc 8 1 8 g0 0 6 ru) (by rw [X0_countExtras_g0, if_neg nw11, if_neg nw12, if_neg nw13, if_pos w14]) u37 _ _ _ k38 (fun a9 e9 h7 h8 => fr39 _ _ (fun q => h7 (by simp only [List.mem_cons, List.not_mem_nil, or_false] at q ⊢; first | exact q | (rcases q with q <;> simp [q]) | omega)) (h8)) G (lv_sub hl [0, 1] rfl)
  · have q40 : kd.toInt < 1 ∨ 4 < kd.toInt := by
      have tw11 : kd.toInt ≠ 1 := fun z => nw11 (Int32.toInt_inj.mp z)
      have tw12 : kd.toInt ≠ 2 := fun z => nw12 (Int32.toInt_inj.mp z)
      have tw13 : kd.toInt ≠ 3 := fun z => nw13 (Int32.toInt_inj.mp z)
      have tw14 : kd.toInt ≠ 4 := fun z => nw14 (Int32.toInt_inj.mp z)
      omega
    refine lv_tableOut (tgt := 98) hx hb dX0_countExtras_4 q40 (by decide) ?_
    exact J17 g0 (by rw [X0_countExtras_g0, if_neg nw11, if_neg nw12, if_neg nw13, if_neg nw14]) f _ _ _ h_a0 (fun a9 e9 h7 h8 => h8) G (lv_sub hl [0, 1] rfl)
def X0_countForBowler_x0 (kd : Int32) : Int32 := if (X5_isLegal_x1 kd) = 0 then 0 else 1
def X0_countForBowler_x1 (kd : Int32) : Int32 := if kd = 1 then 1 else 0
def X0_countForBowler_x2 (kd : Int32) : Int32 := if kd = 2 then 1 else 0
def X0_countForBowler_g3 (g2 : Nat → Int32) (bw : Int32) (kd : Int32) (ru : Int32) : Nat → Int32 := (tinc 7 11 77 (tinc 7 11 77 (tinc 7 11 77 (tinc 7 11 77 g2 bw 0 (X0_countForBowler_x0 kd)) bw 1 (X5_bowlerRuns_r1 kd ru)) bw 4 (X0_countForBowler_x1 kd)) bw 5 (X0_countForBowler_x2 kd))
set_option maxRecDepth 100000 in
theorem c_X0_countForBowler {l : Launch} (hfl : l.stackTraces = false) {D : va_G} {cy : Nat → ClassId} {f : Hf} {sz : Nat} {i : Nat} {t0 : Nat} {t1 : Nat} {t2 : Nat} {a2 : Nat} {t3 : Nat} {t4 : Nat} {o : Nat} {oa : Nat} {st : Nat} {g2 : Nat → Int32} {lm : Int32} {lf : Int32} {oc : Int32} {bw : Int32} {bb : Int32} {bl : Int32} {cd : Int32} {hbg : Int32} {rs : Int32} {sk : Int32} {ot : Int32} {ch : Int32} {nc : Int32} {ty : Int32} {nu : Int32} {wy : Int32} {kd : Int32} {ru : Int32} {so : Int32} {sb : Int32} {sc : Int32} {sh : Int32} (h_i : f i = some (.inr (2, [.ref t0, .ref t1, .ref t2, .ref t3, .ref t4, .ref o, .int rs, .int sk, .int ot, .int ch, .int nc]))) (h_st : f st = some (.inr (7, [.int ty, .int nu, .int wy, .int kd, .int ru, .int so, .int sb, .int sc, .int sh]))) (h_t2 : f t2 = some (.inr (8, [.int 7, .ref a2, .int 11]))) (h_a2 : f a2 = some (.inl (cy 0, 77, .inl g2))) (h_o : f o = some (.inr (5, [.ref oa, .int lm, .int lf, .int oc, .int bw, .int bb, .int bl, .int cd, .int hbg])))  : hMet l yX0_countForBowler cX0_countForBowler 3 none { frames := 1, cells := 0, slots := 0, locals := 25 } D (hTy cy) f sz [.ref i, .ref st] (hQv (fun u => u o = some (.inr (5, [.ref oa, .int lm, .int lf, .int oc, .int bw, .int bb, .int (bl + (X0_countForBowler_x0 kd)), .int (cd + (X5_bowlerRuns_r1 kd ru)), .int 1])) ∧ u a2 = some (.inl (cy 0, 77, .inl (X0_countForBowler_g3 g2 bw kd ru))) ∧ hFrL f u [o, a2]) D f sz) hNo := by
  refine h_enter (by decide) hfl (Nat.le_of_ble_eq_true rfl) ?_
  intro p9 e9 s9 m9 b9 t9 c9 hsz C0 hr hnm G ls hl
  have hx := C0.1.1
  have hb := C0.1.2.1
  have hl : lv_has ls 3 [(0, .ref i), (1, .ref st)] := hl
  refine lv_aload_n hx hb dX0_countForBowler_0 rfl (lv_at hl 1 rfl) ?_
  refine g_cI C0 G (g_runV C0 G (rest := []) (c_X5_isLegal hfl h_st) h_st rfl hY_X5_isLegal mm_X0_146 mi_X5_isLegal ml_X5_isLegal ⟨(Nat.le_of_ble_eq_true rfl), (Nat.le_of_ble_eq_true rfl)⟩ rfl hl.1 rfl (Nat.le_of_ble_eq_true rfl) dX0_countForBowler_1 ⟨(Nat.le_of_ble_eq_true rfl), (Nat.le_of_ble_eq_true rfl)⟩) (kx_no rfl) (fun r13 u12 H locs hp11 G => ?_)
  obtain ⟨zr, eu12⟩ := hp11
  replace zr := Eq.symm zr
  subst zr
  rw [eu12] at G
  have J16 : ∀ (y15 : Int32) (_ : y15 = (X0_countForBowler_x0 kd)) (H : Heap) (locs : List Loc) (ls : Array Slot), hG D (hA f sz) f s9 H locs → lv_has ls 3 [(0, .ref i), (1, .ref st)] → W p9 l e9 ({ frames := 1, cells := 0, slots := 0, locals := 25 } : Room) s9 m9 ([.ref i, .ref st] : List Value).toArray b9 t9 c9 H locs 0 0 (vx_MQ b9 (hQv (fun u => u o = some (.inr (5, [.ref oa, .int lm, .int lf, .int oc, .int bw, .int bb, .int (bl + (X0_countForBowler_x0 kd)), .int (cd + (X5_bowlerRuns_r1 kd ru)), .int 1])) ∧ u a2 = some (.inl (cy 0, 77, .inl (X0_countForBowler_g3 g2 bw kd ru))) ∧ hFrL f u [o, a2]) D f sz) (hPx hNo D f sz) ([.ref i, .ref st] : List Value).toArray s9 0 0 (hA f sz)) (F0 m9 12 ls [.int y15]) := by
    intro y15 ey15 H locs ls G hl
    replace ey15 := Eq.symm ey15
    subst ey15
    refine lv_istore_n (lv' := [(2, .int (X0_countForBowler_x0 kd)), (0, .ref i), (1, .ref st)]) hx hb dX0_countForBowler_12 rfl hl (by decide) rfl (fun ls hl => ?_)
    refine lv_aload_n hx hb dX0_countForBowler_13 rfl (lv_at hl 1 rfl) ?_
    refine g_get C0 G h_i rfl hiX0 5 (by decide) mf_X0_35 rfl dX0_countForBowler_14 ?_
    refine lv_iconst (v := 1) hx hb dX0_countForBowler_17 (by decide) ?_
    refine g_put C0 G h_o rfl hiX3 tyX3 tyX3_ok nmX3 8 (by decide) mf_X0_171 rfl rfl rfl rfl (Nat.le_of_ble_eq_true rfl) dX0_countForBowler_18 (fun H locs f18 hf18 G => ?_)
    have k19 : f18 o = some (.inr (5, [.ref oa, .int lm, .int lf, .int oc, .int bw, .int bb, .int bl, .int cd, .int 1])) := hus hf18
    refine lv_aload_n hx hb dX0_countForBowler_21 rfl (lv_at hl 1 rfl) ?_
    have k20 : f18 i = some (.inr (2, [.ref t0, .ref t1, .ref t2, .ref t3, .ref t4, .ref o, .int rs, .int sk, .int ot, .int ch, .int nc])) := hup hf18 (hneD h_i h_o rfl) h_i
    refine g_get C0 G k20 rfl hiX0 5 (by decide) mf_X0_35 rfl dX0_countForBowler_22 ?_
    refine lv_dup hx hb dX0_countForBowler_25 rfl ?_
    refine g_get C0 G k19 rfl hiX3 6 (by decide) mf_X0_97 rfl dX0_countForBowler_26 ?_
    refine lv_iload_n hx hb dX0_countForBowler_29 rfl (lv_at hl 0 rfl) ?_
    refine lv_iadd hx hb dX0_countForBowler_30 ?_
    refine g_put C0 G k19 rfl hiX3 tyX3 tyX3_ok nmX3 6 (by decide) mf_X0_97 rfl rfl rfl rfl (Nat.le_of_ble_eq_true rfl) dX0_countForBowler_31 (fun H locs f21 hf21 G => ?_)
    have k22 : f21 o = some (.inr (5, [.ref oa, .int lm, .int lf, .int oc, .int bw, .int bb, .int (bl + (X0_countForBowler_x0 kd)), .int cd, .int 1])) := hus hf21
    refine lv_aload_n hx hb dX0_countForBowler_34 rfl (lv_at hl 1 rfl) ?_
    have k23 : f21 i = some (.inr (2, [.ref t0, .ref t1, .ref t2, .ref t3, .ref t4, .ref o, .int rs, .int sk, .int ot, .int ch, .int nc])) := hup hf21 (hneD k20 k19 rfl) k20
    refine g_get C0 G k23 rfl hiX0 5 (by decide) mf_X0_35 rfl dX0_countForBowler_35 ?_
    refine lv_dup hx hb dX0_countForBowler_38 rfl ?_
    refine g_get C0 G k22 rfl hiX3 7 (by decide) mf_X0_106 rfl dX0_countForBowler_39 ?_
    refine lv_aload_n hx hb dX0_countForBowler_42 rfl (lv_at hl 2 rfl) ?_
    have k24 : f21 st = some (.inr (7, [.int ty, .int nu, .int wy, .int kd, .int ru, .int so, .int sb, .int sc, .int sh])) := hup hf21 (by first | exact hneD (hup hf18 (hneD h_st h_o rfl) h_st) k19 rfl | exact hne (hup hf18 (hneD h_st h_o rfl) h_st) k19 (by intro q; cases q)) (hup hf18 (hneD h_st h_o rfl) h_st)
    refine g_cI C0 G (g_runV C0 G (rest := [.int cd, .ref o]) (c_X5_bowlerRuns hfl k24) k24 rfl hY_X5_bowlerRuns mm_X0_174 mi_X5_bowlerRuns ml_X5_bowlerRuns ⟨(Nat.le_of_ble_eq_true rfl), (Nat.le_of_ble_eq_true rfl)⟩ rfl hl.1 rfl (Nat.le_of_ble_eq_true rfl) dX0_countForBowler_43 ⟨(Nat.le_of_ble_eq_true rfl), (Nat.le_of_ble_eq_true rfl)⟩) (kx_no rfl) (fun r27 u26 H locs hp25 G => ?_)
    obtain ⟨zr, eu26⟩ := hp25
    replace zr := Eq.symm zr
    subst zr
    rw [eu26] at G
    refine lv_iadd hx hb dX0_countForBowler_46 ?_
    refine g_put C0 G k22 rfl hiX3 tyX3 tyX3_ok nmX3 7 (by decide) mf_X0_106 rfl rfl rfl rfl (Nat.le_of_ble_eq_true rfl) dX0_countForBowler_47 (fun H locs f28 hf28 G => ?_)
    have k29 : f28 o = some (.inr (5, [.ref oa, .int lm, .int lf, .int oc, .int bw, .int bb, .int (bl + (X0_countForBowler_x0 kd)), .int (cd + (X5_bowlerRuns_r1 kd ru)), .int 1])) := hus hf28
    refine lv_aload_n hx hb dX0_countForBowler_50 rfl (lv_at hl 1 rfl) ?_
    have k30 : f28 i = some (.inr (2, [.ref t0, .ref t1, .ref t2, .ref t3, .ref t4, .ref o, .int rs, .int sk, .int ot, .int ch, .int nc])) := hup hf28 (hneD k23 k22 rfl) k23
    refine g_get C0 G k30 rfl hiX0 2 (by decide) mf_X0_23 rfl dX0_countForBowler_51 ?_
    refine lv_aload_n hx hb dX0_countForBowler_54 rfl (lv_at hl 1 rfl) ?_
    refine g_get C0 G k30 rfl hiX0 5 (by decide) mf_X0_35 rfl dX0_countForBowler_55 ?_
    refine g_get C0 G k29 rfl hiX3 4 (by decide) mf_X0_81 rfl dX0_countForBowler_58 ?_
    refine lv_iconst (v := 0) hx hb dX0_countForBowler_61 (by decide) ?_
    refine lv_iload_n hx hb dX0_countForBowler_62 rfl (lv_at hl 0 rfl) ?_
    have k31 : f28 t2 = some (.inr (8, [.int 7, .ref a2, .int 11])) := hup hf28 (by first | exact hneD (hup hf21 (by first | exact hneD (hup hf18 (hneD h_t2 h_o rfl) h_t2) k19 rfl | exact hne (hup hf18 (hneD h_t2 h_o rfl) h_t2) k19 (by intro q; cases q)) (hup hf18 (hneD h_t2 h_o rfl) h_t2)) k22 rfl | exact hne (hup hf21 (by first | exact hneD (hup hf18 (hneD h_t2 h_o rfl) h_t2) k19 rfl | exact hne (hup hf18 (hneD h_t2 h_o rfl) h_t2) k19 (by intro q; cases q)) (hup hf18 (hneD h_t2 h_o rfl) h_t2)) k22 (by intro q; cases q)) (hup hf21 (by first | exact hneD (hup hf18 (hneD h_t2 h_o rfl) h_t2) k19 rfl | exact hne (hup hf18 (hneD h_t2 h_o rfl) h_t2) k19 (by intro q; cases q)) (hup hf18 (hneD h_t2 h_o rfl) h_t2))
    have k32 : f28 a2 = some (.inl (cy 0, 77, .inl g2)) := hup hf28 (by first | exact hneD (hup hf21 (by first | exact hneD (hup hf18 (hneD h_a2 h_o rfl) h_a2) k19 rfl | exact hne (hup hf18 (hneD h_a2 h_o rfl) h_a2) k19 (by intro q; cases q)) (hup hf18 (hneD h_a2 h_o rfl) h_a2)) k22 rfl | exact hne (hup hf21 (by first | exact hneD (hup hf18 (hneD h_a2 h_o rfl) h_a2) k19 rfl | exact hne (hup hf18 (hneD h_a2 h_o rfl) h_a2) k19 (by intro q; cases q)) (hup hf18 (hneD h_a2 h_o rfl) h_a2)) k22 (by intro q; cases q)) (hup hf21 (by first | exact hneD (hup hf18 (hneD h_a2 h_o rfl) h_a2) k19 rfl | exact hne (hup hf18 (hneD h_a2 h_o rfl) h_a2) k19 (by intro q; cases q)) (hup hf18 (hneD h_a2 h_o rfl) h_a2))
    refine g_cV C0 G (g_runV C0 G (rest := []) (q_X6_increase hfl bw 0 (X0_countForBowler_x0 kd) k31 k32 (by omega)) k31 rfl hY_X6_increase mm_X0_103 mi_X6_increase ml_X6_increase ⟨(Nat.le_of_ble_eq_true rfl), (Nat.le_of_ble_eq_true rfl)⟩ rfl hl.1 rfl (Nat.le_of_ble_eq_true rfl) dX0_countForBowler_63 ⟨(Nat.le_of_ble_eq_true rfl), (Nat.le_of_ble_eq_true rfl)⟩) (kx_no rfl) (fun u34 H locs hp33 G => ?_)
    obtain ⟨k35, fr36⟩ := hp33
    refine lv_aload_n hx hb dX0_countForBowler_66 rfl (lv_at hl 1 rfl) ?_
    have k37 : u34 i = some (.inr (2, [.ref t0, .ref t1, .ref t2, .ref t3, .ref t4, .ref o, .int rs, .int sk, .int ot, .int ch, .int nc])) := fr36 _ _ (nm_c (hneD k30 k32 rfl) nm_0) k30
    refine g_get C0 G k37 rfl hiX0 2 (by decide) mf_X0_23 rfl dX0_countForBowler_67 ?_
    refine lv_aload_n hx hb dX0_countForBowler_70 rfl (lv_at hl 1 rfl) ?_
    refine g_get C0 G k37 rfl hiX0 5 (by decide) mf_X0_35 rfl dX0_countForBowler_71 ?_
    have k38 : u34 o = some (.inr (5, [.ref oa, .int lm, .int lf, .int oc, .int bw, .int bb, .int (bl + (X0_countForBowler_x0 kd)), .int (cd + (X5_bowlerRuns_r1 kd ru)), .int 1])) := fr36 _ _ (nm_c (hneD k29 k32 rfl) nm_0) k29
    refine g_get C0 G k38 rfl hiX3 4 (by decide) mf_X0_81 rfl dX0_countForBowler_74 ?_
    refine lv_iconst (v := 1) hx hb dX0_countForBowler_77 (by decide) ?_
    refine lv_aload_n hx hb dX0_countForBowler_78 rfl (lv_at hl 2 rfl) ?_
    have k39 : u34 st = some (.inr (7, [.int ty, .int nu, .int wy, .int kd, .int ru, .int so, .int sb, .int sc, .int sh])) := fr36 _ _ (nm_c (by first | exact hneD (hup hf28 (hneD k24 k22 rfl) k24) k32 rfl | exact hne (hup hf28 (hneD k24 k22 rfl) k24) k32 (by intro q; cases q)) nm_0) (hup hf28 (hneD k24 k22 rfl) k24)
    refine g_cI C0 G (g_runV C0 G (rest := [.int 1, .int bw, .ref t2]) (c_X5_bowlerRuns hfl k39) k39 rfl hY_X5_bowlerRuns mm_X0_174 mi_X5_bowlerRuns ml_X5_bowlerRuns ⟨(Nat.le_of_ble_eq_true rfl), (Nat.le_of_ble_eq_true rfl)⟩ rfl hl.1 rfl (Nat.le_of_ble_eq_true rfl) dX0_countForBowler_79 ⟨(Nat.le_of_ble_eq_true rfl), (Nat.le_of_ble_eq_true rfl)⟩) (kx_no rfl) (fun r42 u41 H locs hp40 G => ?_)
    obtain ⟨zr, eu41⟩ := hp40
    replace zr := Eq.symm zr
    subst zr
    rw [eu41] at G
    have k43 : u34 t2 = some (.inr (8, [.int 7, .ref a2, .int 11])) := fr36 _ _ (nm_c (hneD k31 k32 rfl) nm_0) k31
    refine g_cV C0 G (g_runV C0 G (rest := []) (q_X6_increase hfl bw 1 (X5_bowlerRuns_r1 kd ru) k43 k35 (by omega)) k43 rfl hY_X6_increase mm_X0_103 mi_X6_increase ml_X6_increase ⟨(Nat.le_of_ble_eq_true rfl), (Nat.le_of_ble_eq_true rfl)⟩ rfl hl.1 rfl (Nat.le_of_ble_eq_true rfl) dX0_countForBowler_82 ⟨(Nat.le_of_ble_eq_true rfl), (Nat.le_of_ble_eq_true rfl)⟩) (kx_no rfl) (fun u45 H locs hp44 G => ?_)
    obtain ⟨k46, fr47⟩ := hp44
    refine lv_aload_n hx hb dX0_countForBowler_85 rfl (lv_at hl 1 rfl) ?_
    have k48 : u45 i = some (.inr (2, [.ref t0, .ref t1, .ref t2, .ref t3, .ref t4, .ref o, .int rs, .int sk, .int ot, .int ch, .int nc])) := fr47 _ _ (nm_c (by first | exact hneD k37 k35 rfl | exact hne k37 k35 (by intro q; cases q)) nm_0) k37
    refine g_get C0 G k48 rfl hiX0 2 (by decide) mf_X0_23 rfl dX0_countForBowler_86 ?_
    refine lv_aload_n hx hb dX0_countForBowler_89 rfl (lv_at hl 1 rfl) ?_
    refine g_get C0 G k48 rfl hiX0 5 (by decide) mf_X0_35 rfl dX0_countForBowler_90 ?_
    have k49 : u45 o = some (.inr (5, [.ref oa, .int lm, .int lf, .int oc, .int bw, .int bb, .int (bl + (X0_countForBowler_x0 kd)), .int (cd + (X5_bowlerRuns_r1 kd ru)), .int 1])) := fr47 _ _ (nm_c (by first | exact hneD k38 k35 rfl | exact hne k38 k35 (by intro q; cases q)) nm_0) k38
    refine g_get C0 G k49 rfl hiX3 4 (by decide) mf_X0_81 rfl dX0_countForBowler_93 ?_
    refine lv_iconst (v := 4) hx hb dX0_countForBowler_96 (by decide) ?_
    refine lv_aload_n hx hb dX0_countForBowler_97 rfl (lv_at hl 2 rfl) ?_
    have k50 : u45 st = some (.inr (7, [.int ty, .int nu, .int wy, .int kd, .int ru, .int so, .int sb, .int sc, .int sh])) := fr47 _ _ (nm_c (by first | exact hneD k39 k35 rfl | exact hne k39 k35 (by intro q; cases q)) nm_0) k39
    refine g_get C0 G k50 rfl hiX5 3 (by decide) mf_X0_165 rfl dX0_countForBowler_98 ?_
    refine lv_iconst (v := 1) hx hb dX0_countForBowler_101 (by decide) ?_
    have J53 : ∀ (y52 : Int32) (_ : y52 = (X0_countForBowler_x1 kd)) (H : Heap) (locs : List Loc) (ls : Array Slot), hG D (hA f sz) u45 s9 H locs → lv_has ls 3 [(2, .int (X0_countForBowler_x0 kd)), (0, .ref i), (1, .ref st)] → W p9 l e9 ({ frames := 1, cells := 0, slots := 0, locals := 25 } : Room) s9 m9 ([.ref i, .ref st] : List Value).toArray b9 t9 c9 H locs 0 0 (vx_MQ b9 (hQv (fun u => u o = some (.inr (5, [.ref oa, .int lm, .int lf, .int oc, .int bw, .int bb, .int (bl + (X0_countForBowler_x0 kd)), .int (cd + (X5_bowlerRuns_r1 kd ru)), .int 1])) ∧ u a2 = some (.inl (cy 0, 77, .inl (X0_countForBowler_g3 g2 bw kd ru))) ∧ hFrL f u [o, a2]) D f sz) (hPx hNo D f sz) ([.ref i, .ref st] : List Value).toArray s9 0 0 (hA f sz)) (F0 m9 110 ls [.int y52, .int 4, .int bw, .ref t2]) := by
      intro y52 ey52 H locs ls G hl
      replace ey52 := Eq.symm ey52
      subst ey52
      have k55 : u45 t2 = some (.inr (8, [.int 7, .ref a2, .int 11])) := fr47 _ _ (nm_c (by first | exact hneD k43 k35 rfl | exact hne k43 k35 (by intro q; cases q)) nm_0) k43
      refine g_cV C0 G (g_runV C0 G (rest := []) (q_X6_increase hfl bw 4 (X0_countForBowler_x1 kd) k55 k46 (by omega)) k55 rfl hY_X6_increase mm_X0_103 mi_X6_increase ml_X6_increase ⟨(Nat.le_of_ble_eq_true rfl), (Nat.le_of_ble_eq_true rfl)⟩ rfl hl.1 rfl (Nat.le_of_ble_eq_true rfl) dX0_countForBowler_110 ⟨(Nat.le_of_ble_eq_true rfl), (Nat.le_of_ble_eq_true rfl)⟩) (kx_no rfl) (fun u57 H locs hp56 G => ?_)
      obtain ⟨k58, fr59⟩ := hp56
      refine lv_aload_n hx hb dX0_countForBowler_113 rfl (lv_at hl 1 rfl) ?_
      have k60 : u57 i = some (.inr (2, [.ref t0, .ref t1, .ref t2, .ref t3, .ref t4, .ref o, .int rs, .int sk, .int ot, .int ch, .int nc])) := fr59 _ _ (nm_c (by first | exact hneD k48 k46 rfl | exact hne k48 k46 (by intro q; cases q)) nm_0) k48
      refine g_get C0 G k60 rfl hiX0 2 (by decide) mf_X0_23 rfl dX0_countForBowler_114 ?_
      refine lv_aload_n hx hb dX0_countForBowler_117 rfl (lv_at hl 1 rfl) ?_
      refine g_get C0 G k60 rfl hiX0 5 (by decide) mf_X0_35 rfl dX0_countForBowler_118 ?_
      have k61 : u57 o = some (.inr (5, [.ref oa, .int lm, .int lf, .int oc, .int bw, .int bb, .int (bl + (X0_countForBowler_x0 kd)), .int (cd + (X5_bowlerRuns_r1 kd ru)), .int 1])) := fr59 _ _ (nm_c (by first | exact hneD k49 k46 rfl | exact hne k49 k46 (by intro q; cases q)) nm_0) k49
      refine g_get C0 G k61 rfl hiX3 4 (by decide) mf_X0_81 rfl dX0_countForBowler_121 ?_
      refine lv_iconst (v := 5) hx hb dX0_countForBowler_124 (by decide) ?_
      refine lv_aload_n hx hb dX0_countForBowler_125 rfl (lv_at hl 2 rfl) ?_
      have k62 : u57 st = some (.inr (7, [.int ty, .int nu, .int wy, .int kd, .int ru, .int so, .int sb, .int sc, .int sh])) := fr59 _ _ (nm_c (by first | exact hneD k50 k46 rfl | exact hne k50 k46 (by intro q; cases q)) nm_0) k50
      refine g_get C0 G k62 rfl hiX5 3 (by decide) mf_X0_165 rfl dX0_countForBowler_126 ?_
      refine lv_iconst (v := 2) hx hb dX0_countForBowler_129 (by decide) ?_
      have J65 : ∀ (y64 : Int32) (_ : y64 = (X0_countForBowler_x2 kd)) (H : Heap) (locs : List Loc) (ls : Array Slot), hG D (hA f sz) u57 s9 H locs → lv_has ls 3 [(2, .int (X0_countForBowler_x0 kd)), (0, .ref i), (1, .ref st)] → W p9 l e9 ({ frames := 1, cells := 0, slots := 0, locals := 25 } : Room) s9 m9 ([.ref i, .ref st] : List Value).toArray b9 t9 c9 H locs 0 0 (vx_MQ b9 (hQv (fun u => u o = some (.inr (5, [.ref oa, .int lm, .int lf, .int oc, .int bw, .int bb, .int (bl + (X0_countForBowler_x0 kd)), .int (cd + (X5_bowlerRuns_r1 kd ru)), .int 1])) ∧ u a2 = some (.inl (cy 0, 77, .inl (X0_countForBowler_g3 g2 bw kd ru))) ∧ hFrL f u [o, a2]) D f sz) (hPx hNo D f sz) ([.ref i, .ref st] : List Value).toArray s9 0 0 (hA f sz)) (F0 m9 138 ls [.int y64, .int 5, .int bw, .ref t2]) := by
        intro y64 ey64 H locs ls G hl
        replace ey64 := Eq.symm ey64
        subst ey64
        have k67 : u57 t2 = some (.inr (8, [.int 7, .ref a2, .int 11])) := fr59 _ _ (nm_c (by first | exact hneD k55 k46 rfl | exact hne k55 k46 (by intro q; cases q)) nm_0) k55
        refine g_cV C0 G (g_runV C0 G (rest := []) (q_X6_increase hfl bw 5 (X0_countForBowler_x2 kd) k67 k58 (by omega)) k67 rfl hY_X6_increase mm_X0_103 mi_X6_increase ml_X6_increase ⟨(Nat.le_of_ble_eq_true rfl), (Nat.le_of_ble_eq_true rfl)⟩ rfl hl.1 rfl (Nat.le_of_ble_eq_true rfl) dX0_countForBowler_138 ⟨(Nat.le_of_ble_eq_true rfl), (Nat.le_of_ble_eq_true rfl)⟩) (kx_no rfl) (fun u69 H locs hp68 G => ?_)
        obtain ⟨k70, fr71⟩ := hp68
        have k72 : u69 o = some (.inr (5, [.ref oa, .int lm, .int lf, .int oc, .int bw, .int bb, .int (bl + (X0_countForBowler_x0 kd)), .int (cd + (X5_bowlerRuns_r1 kd ru)), .int 1])) := fr71 _ _ (nm_c (by first | exact hneD k61 k58 rfl | exact hne k61 k58 (by intro q; cases q)) nm_0) k61
        exact g_vret C0 G hr dX0_countForBowler_141 (Nat.le_of_ble_eq_true rfl) (Nat.le_of_ble_eq_true rfl) (by exact ⟨k72, (by rw [(by rw [X0_countForBowler_g3] : (X0_countForBowler_g3 g2 bw kd ru) = (tinc 7 11 77 (tinc 7 11 77 (tinc 7 11 77 (tinc 7 11 77 g2 bw 0 (X0_countForBowler_x0 kd)) bw 1 (X5_bowlerRuns_r1 kd ru)) bw 4 (X0_countForBowler_x1 kd)) bw 5 (X0_countForBowler_x2 kd)))]; exact k70), (fun a9 e9 h7 h8 => fr71 _ _ (fun q => h7 (by simp only [List.mem_cons, List.not_mem_nil, or_false] at q ⊢; first | exact q | (rcases q with q <;> simp [q]) | omega)) (fr59 _ _ (fun q => h7 (by simp only [List.mem_cons, List.not_mem_nil, or_false] at q ⊢; first | exact q | (rcases q with q <;> simp [q]) | omega)) (fr47 _ _ (fun q => h7 (by simp only [List.mem_cons, List.not_mem_nil, or_false] at q ⊢; first | exact q | (rcases q with q <;> simp [q]) | omega)) (fr36 _ _ (fun q => h7 (by simp only [List.mem_cons, List.not_mem_nil, or_false] at q ⊢; first | exact q | (rcases q with q <;> simp [q]) | omega)) (hup hf28 (fun q => h7 (by rw [q]; simp)) (hup hf21 (fun q => h7 (by rw [q]; simp)) (hup hf18 (fun q => h7 (by rw [q]; simp)) (h8))))))))⟩)
      refine lv_icmp_ne (tgt := 137) hx hb dX0_countForBowler_130 (by decide) (fun c63 => ?_) (fun c63 => ?_)
      · refine lv_iconst (v := 0) hx hb dX0_countForBowler_137 (by decide) ?_
        exact J65 0 (by rw [X0_countForBowler_x2, if_neg c63]) _ _ _ G (lv_sub hl [0, 1, 2] rfl)
      · refine lv_iconst (v := 1) hx hb dX0_countForBowler_133 (by decide) ?_
        refine lv_goto (tgt := 138) hx hb dX0_countForBowler_134 (by decide) ?_
        exact J65 1 (by rw [X0_countForBowler_x2, if_pos c63]) _ _ _ G (lv_sub hl [0, 1, 2] rfl)
    refine lv_icmp_ne (tgt := 109) hx hb dX0_countForBowler_102 (by decide) (fun c51 => ?_) (fun c51 => ?_)
    · refine lv_iconst (v := 0) hx hb dX0_countForBowler_109 (by decide) ?_
      exact J53 0 (by rw [X0_countForBowler_x1, if_neg c51]) _ _ _ G (lv_sub hl [0, 1, 2] rfl)
    · refine lv_iconst (v := 1) hx hb dX0_countForBowler_105 (by decide) ?_
      refine lv_goto (tgt := 110) hx hb dX0_countForBowler_106 (by decide) ?_
      exact J53 1 (by rw [X0_countForBowler_x1, if_pos c51]) _ _ _ G (lv_sub hl [0, 1, 2] rfl)
  refine lv_if_eq (tgt := 11) hx hb dX0_countForBowler_4 (by decide) (fun c14 => ?_) (fun c14 => ?_)
  · refine lv_iconst (v := 0) hx hb dX0_countForBowler_11 (by decide) ?_
    exact J16 0 (by rw [X0_countForBowler_x0, if_pos c14]) _ _ _ G (lv_sub hl [0, 1] rfl)
  · refine lv_iconst (v := 1) hx hb dX0_countForBowler_7 (by decide) ?_
    refine lv_goto (tgt := 12) hx hb dX0_countForBowler_8 (by decide) ?_
    exact J16 1 (by rw [X0_countForBowler_x0, if_neg c14]) _ _ _ G (lv_sub hl [0, 1] rfl)
def X0_countForStriker_x0 (kd : Int32) : Int32 := if kd = 1 then 0 else 1
def X0_countForStriker_n1 (ru : Int32) : Nat := if ru = 4 then 2 else 3
def X0_countForStriker_g2 (g1 : Nat → Int32) (sk : Int32) (kd : Int32) (ru : Int32) (sb : Int32) : Nat → Int32 := if sb = 0 then (tinc 6 11 66 (tinc 6 11 66 g1 sk 0 (X5_strikerRuns_x1 kd ru)) sk 1 (X0_countForStriker_x0 kd)) else (tinc 6 11 66 (tinc 6 11 66 (tinc 6 11 66 g1 sk 0 (X5_strikerRuns_x1 kd ru)) sk 1 (X0_countForStriker_x0 kd)) sk (nI (X0_countForStriker_n1 ru)) 1)
set_option maxRecDepth 100000 in
theorem c_X0_countForStriker {l : Launch} (hfl : l.stackTraces = false) {D : va_G} {cy : Nat → ClassId} {f : Hf} {sz : Nat} {i : Nat} {t0 : Nat} {t1 : Nat} {a1 : Nat} {t2 : Nat} {t3 : Nat} {t4 : Nat} {o : Nat} {st : Nat} {g1 : Nat → Int32} {rs : Int32} {sk : Int32} {ot : Int32} {ch : Int32} {nc : Int32} {ty : Int32} {nu : Int32} {wy : Int32} {kd : Int32} {ru : Int32} {so : Int32} {sb : Int32} {sc : Int32} {sh : Int32} (h_i : f i = some (.inr (2, [.ref t0, .ref t1, .ref t2, .ref t3, .ref t4, .ref o, .int rs, .int sk, .int ot, .int ch, .int nc]))) (h_st : f st = some (.inr (7, [.int ty, .int nu, .int wy, .int kd, .int ru, .int so, .int sb, .int sc, .int sh]))) (h_t1 : f t1 = some (.inr (8, [.int 6, .ref a1, .int 11]))) (h_a1 : f a1 = some (.inl (cy 0, 66, .inl g1)))  : hMet l yX0_countForStriker cX0_countForStriker 2 none { frames := 1, cells := 0, slots := 0, locals := 25 } D (hTy cy) f sz [.ref i, .ref st] (hQv (fun u => u a1 = some (.inl (cy 0, 66, .inl (X0_countForStriker_g2 g1 sk kd ru sb))) ∧ hFrL f u [a1]) D f sz) hNo := by
  refine h_enter (by decide) hfl (Nat.le_of_ble_eq_true rfl) ?_
  intro p9 e9 s9 m9 b9 t9 c9 hsz C0 hr hnm G ls hl
  have hx := C0.1.1
  have hb := C0.1.2.1
  have hl : lv_has ls 2 [(0, .ref i), (1, .ref st)] := hl
  refine lv_aload_n hx hb dX0_countForStriker_0 rfl (lv_at hl 0 rfl) ?_
  refine g_get C0 G h_i rfl hiX0 1 (by decide) mf_X0_20 rfl dX0_countForStriker_1 ?_
  refine lv_aload_n hx hb dX0_countForStriker_4 rfl (lv_at hl 0 rfl) ?_
  refine g_get C0 G h_i rfl hiX0 7 (by decide) mf_X0_43 rfl dX0_countForStriker_5 ?_
  refine lv_iconst (v := 0) hx hb dX0_countForStriker_8 (by decide) ?_
  refine lv_aload_n hx hb dX0_countForStriker_9 rfl (lv_at hl 1 rfl) ?_
  refine g_cI C0 G (g_runV C0 G (rest := [.int 0, .int sk, .ref t1]) (c_X5_strikerRuns hfl h_st) h_st rfl hY_X5_strikerRuns mm_X0_177 mi_X5_strikerRuns ml_X5_strikerRuns ⟨(Nat.le_of_ble_eq_true rfl), (Nat.le_of_ble_eq_true rfl)⟩ rfl hl.1 rfl (Nat.le_of_ble_eq_true rfl) dX0_countForStriker_10 ⟨(Nat.le_of_ble_eq_true rfl), (Nat.le_of_ble_eq_true rfl)⟩) (kx_no rfl) (fun r13 u12 H locs hp11 G => ?_)
  obtain ⟨zr, eu12⟩ := hp11
  replace zr := Eq.symm zr
  subst zr
  rw [eu12] at G
  refine g_cV C0 G (g_runV C0 G (rest := []) (q_X6_increase hfl sk 0 (X5_strikerRuns_x1 kd ru) h_t1 h_a1 (by omega)) h_t1 rfl hY_X6_increase mm_X0_103 mi_X6_increase ml_X6_increase ⟨(Nat.le_of_ble_eq_true rfl), (Nat.le_of_ble_eq_true rfl)⟩ rfl hl.1 rfl (Nat.le_of_ble_eq_true rfl) dX0_countForStriker_13 ⟨(Nat.le_of_ble_eq_true rfl), (Nat.le_of_ble_eq_true rfl)⟩) (kx_no rfl) (fun u15 H locs hp14 G => ?_)
  obtain ⟨k16, fr17⟩ := hp14
  refine lv_aload_n hx hb dX0_countForStriker_16 rfl (lv_at hl 0 rfl) ?_
  have k18 : u15 i = some (.inr (2, [.ref t0, .ref t1, .ref t2, .ref t3, .ref t4, .ref o, .int rs, .int sk, .int ot, .int ch, .int nc])) := fr17 _ _ (nm_c (hneD h_i h_a1 rfl) nm_0) h_i
  refine g_get C0 G k18 rfl hiX0 1 (by decide) mf_X0_20 rfl dX0_countForStriker_17 ?_
  refine lv_aload_n hx hb dX0_countForStriker_20 rfl (lv_at hl 0 rfl) ?_
  refine g_get C0 G k18 rfl hiX0 7 (by decide) mf_X0_43 rfl dX0_countForStriker_21 ?_
  refine lv_iconst (v := 1) hx hb dX0_countForStriker_24 (by decide) ?_
  refine lv_aload_n hx hb dX0_countForStriker_25 rfl (lv_at hl 1 rfl) ?_
  have k19 : u15 st = some (.inr (7, [.int ty, .int nu, .int wy, .int kd, .int ru, .int so, .int sb, .int sc, .int sh])) := fr17 _ _ (nm_c (hneD h_st h_a1 rfl) nm_0) h_st
  refine g_get C0 G k19 rfl hiX5 3 (by decide) mf_X0_165 rfl dX0_countForStriker_26 ?_
  refine lv_iconst (v := 1) hx hb dX0_countForStriker_29 (by decide) ?_
  have J22 : ∀ (y21 : Int32) (_ : y21 = (X0_countForStriker_x0 kd)) (H : Heap) (locs : List Loc) (ls : Array Slot), hG D (hA f sz) u15 s9 H locs → lv_has ls 2 [(0, .ref i), (1, .ref st)] → W p9 l e9 ({ frames := 1, cells := 0, slots := 0, locals := 25 } : Room) s9 m9 ([.ref i, .ref st] : List Value).toArray b9 t9 c9 H locs 0 0 (vx_MQ b9 (hQv (fun u => u a1 = some (.inl (cy 0, 66, .inl (X0_countForStriker_g2 g1 sk kd ru sb))) ∧ hFrL f u [a1]) D f sz) (hPx hNo D f sz) ([.ref i, .ref st] : List Value).toArray s9 0 0 (hA f sz)) (F0 m9 38 ls [.int y21, .int 1, .int sk, .ref t1]) := by
    intro y21 ey21 H locs ls G hl
    replace ey21 := Eq.symm ey21
    subst ey21
    have k24 : u15 t1 = some (.inr (8, [.int 6, .ref a1, .int 11])) := fr17 _ _ (nm_c (hneD h_t1 h_a1 rfl) nm_0) h_t1
    refine g_cV C0 G (g_runV C0 G (rest := []) (q_X6_increase hfl sk 1 (X0_countForStriker_x0 kd) k24 k16 (by omega)) k24 rfl hY_X6_increase mm_X0_103 mi_X6_increase ml_X6_increase ⟨(Nat.le_of_ble_eq_true rfl), (Nat.le_of_ble_eq_true rfl)⟩ rfl hl.1 rfl (Nat.le_of_ble_eq_true rfl) dX0_countForStriker_38 ⟨(Nat.le_of_ble_eq_true rfl), (Nat.le_of_ble_eq_true rfl)⟩) (kx_no rfl) (fun u26 H locs hp25 G => ?_)
    obtain ⟨k27, fr28⟩ := hp25
    refine lv_aload_n hx hb dX0_countForStriker_41 rfl (lv_at hl 1 rfl) ?_
    have k29 : u26 st = some (.inr (7, [.int ty, .int nu, .int wy, .int kd, .int ru, .int so, .int sb, .int sc, .int sh])) := fr28 _ _ (nm_c (by first | exact hneD k19 k16 rfl | exact hne k19 k16 (by intro q; cases q)) nm_0) k19
    refine g_get C0 G k29 rfl hiX5 6 (by decide) mf_X0_180 rfl dX0_countForStriker_42 ?_
    have J32 : ∀ (y31 : Nat → Int32) (_ : y31 = (X0_countForStriker_g2 g1 sk kd ru sb)) (f33 : Hf) (H : Heap) (locs : List Loc) (ls : Array Slot), f33 a1 = some (.inl (cy 0, 66, .inl y31)) → hFrL u26 f33 [a1] → hG D (hA f sz) f33 s9 H locs → lv_has ls 2 [(0, .ref i), (1, .ref st)] → W p9 l e9 ({ frames := 1, cells := 0, slots := 0, locals := 25 } : Room) s9 m9 ([.ref i, .ref st] : List Value).toArray b9 t9 c9 H locs 0 0 (vx_MQ b9 (hQv (fun u => u a1 = some (.inl (cy 0, 66, .inl (X0_countForStriker_g2 g1 sk kd ru sb))) ∧ hFrL f u [a1]) D f sz) (hPx hNo D f sz) ([.ref i, .ref st] : List Value).toArray s9 0 0 (hA f sz)) (F0 m9 73 ls []) := by
      intro y31 ey31 f33 H locs ls k34 fr35 G hl
      replace ey31 := Eq.symm ey31
      subst ey31
      exact g_vret C0 G hr dX0_countForStriker_73 (Nat.le_of_ble_eq_true rfl) (Nat.le_of_ble_eq_true rfl) (by exact ⟨k34, (fun a9 e9 h7 h8 => fr35 _ _ (fun q => h7 (by simp only [List.mem_cons, List.not_mem_nil, or_false] at q ⊢; first | exact q | (rcases q with q <;> simp [q]) | omega)) (fr28 _ _ (fun q => h7 (by simp only [List.mem_cons, List.not_mem_nil, or_false] at q ⊢; first | exact q | (rcases q with q <;> simp [q]) | omega)) (fr17 _ _ (fun q => h7 (by simp only [List.mem_cons, List.not_mem_nil, or_false] at q ⊢; first | exact q | (rcases q with q <;> simp [q]) | omega)) (h8))))⟩)
    refine lv_if_eq (tgt := 73) hx hb dX0_countForStriker_45 (by decide) (fun c30 => ?_) (fun c30 => ?_)
    · exact J32 (tinc 6 11 66 (tinc 6 11 66 g1 sk 0 (X5_strikerRuns_x1 kd ru)) sk 1 (X0_countForStriker_x0 kd)) (by rw [X0_countForStriker_g2, if_pos c30]) u26 _ _ _ k27 (fun a9 e9 h7 h8 => h8) G (lv_sub hl [0, 1] rfl)
    · refine lv_aload_n hx hb dX0_countForStriker_48 rfl (lv_at hl 0 rfl) ?_
      have k36 : u26 i = some (.inr (2, [.ref t0, .ref t1, .ref t2, .ref t3, .ref t4, .ref o, .int rs, .int sk, .int ot, .int ch, .int nc])) := fr28 _ _ (nm_c (by first | exact hneD k18 k16 rfl | exact hne k18 k16 (by intro q; cases q)) nm_0) k18
      refine g_get C0 G k36 rfl hiX0 1 (by decide) mf_X0_20 rfl dX0_countForStriker_49 ?_
      refine lv_aload_n hx hb dX0_countForStriker_52 rfl (lv_at hl 0 rfl) ?_
      refine g_get C0 G k36 rfl hiX0 7 (by decide) mf_X0_43 rfl dX0_countForStriker_53 ?_
      refine lv_aload_n hx hb dX0_countForStriker_56 rfl (lv_at hl 1 rfl) ?_
      refine g_get C0 G k29 rfl hiX5 4 (by decide) mf_X0_168 rfl dX0_countForStriker_57 ?_
      refine lv_iconst (v := 4) hx hb dX0_countForStriker_60 (by decide) ?_
      have J39 : ∀ (y38 : Int32) (_ : y38 = nI (X0_countForStriker_n1 ru)) (H : Heap) (locs : List Loc) (ls : Array Slot), hG D (hA f sz) u26 s9 H locs → lv_has ls 2 [(0, .ref i), (1, .ref st)] → W p9 l e9 ({ frames := 1, cells := 0, slots := 0, locals := 25 } : Room) s9 m9 ([.ref i, .ref st] : List Value).toArray b9 t9 c9 H locs 0 0 (vx_MQ b9 (hQv (fun u => u a1 = some (.inl (cy 0, 66, .inl (X0_countForStriker_g2 g1 sk kd ru sb))) ∧ hFrL f u [a1]) D f sz) (hPx hNo D f sz) ([.ref i, .ref st] : List Value).toArray s9 0 0 (hA f sz)) (F0 m9 69 ls [.int y38, .int sk, .ref t1]) := by
        intro y38 ey38 H locs ls G hl
        replace ey38 := Eq.symm ey38
        subst ey38
        have bd41 : (X0_countForStriker_n1 ru) ≤ 3 := by unfold X0_countForStriker_n1; repeat (first | omega | split)
        refine lv_iconst (v := 1) hx hb dX0_countForStriker_69 (by decide) ?_
        have k42 : u26 t1 = some (.inr (8, [.int 6, .ref a1, .int 11])) := fr28 _ _ (nm_c (by first | exact hneD k24 k16 rfl | exact hne k24 k16 (by intro q; cases q)) nm_0) k24
        refine g_cV C0 G (g_runV C0 G (rest := []) (q_X6_increase hfl sk (nI (X0_countForStriker_n1 ru)) 1 k42 k27 (by omega)) k42 rfl hY_X6_increase mm_X0_103 mi_X6_increase ml_X6_increase ⟨(Nat.le_of_ble_eq_true rfl), (Nat.le_of_ble_eq_true rfl)⟩ rfl hl.1 rfl (Nat.le_of_ble_eq_true rfl) dX0_countForStriker_70 ⟨(Nat.le_of_ble_eq_true rfl), (Nat.le_of_ble_eq_true rfl)⟩) (kx_no rfl) (fun u44 H locs hp43 G => ?_)
        obtain ⟨k45, fr46⟩ := hp43
        exact J32 (tinc 6 11 66 (tinc 6 11 66 (tinc 6 11 66 g1 sk 0 (X5_strikerRuns_x1 kd ru)) sk 1 (X0_countForStriker_x0 kd)) sk (nI (X0_countForStriker_n1 ru)) 1) (by rw [X0_countForStriker_g2, if_neg c30]) u44 _ _ _ k45 (fun a9 e9 h7 h8 => fr46 _ _ (fun q => h7 (by simp only [List.mem_cons, List.not_mem_nil, or_false] at q ⊢; first | exact q | (rcases q with q <;> simp [q]) | omega)) (h8)) G (lv_sub hl [0, 1] rfl)
      refine lv_icmp_ne (tgt := 68) hx hb dX0_countForStriker_61 (by decide) (fun c37 => ?_) (fun c37 => ?_)
      · refine lv_iconst (v := 3) hx hb dX0_countForStriker_68 (by decide) ?_
        exact J39 3 (by rw [X0_countForStriker_n1, if_neg c37] <;> rfl) _ _ _ G (lv_sub hl [0, 1] rfl)
      · refine lv_iconst (v := 2) hx hb dX0_countForStriker_64 (by decide) ?_
        refine lv_goto (tgt := 69) hx hb dX0_countForStriker_65 (by decide) ?_
        exact J39 2 (by rw [X0_countForStriker_n1, if_pos c37] <;> rfl) _ _ _ G (lv_sub hl [0, 1] rfl)
  refine lv_icmp_ne (tgt := 37) hx hb dX0_countForStriker_30 (by decide) (fun c20 => ?_) (fun c20 => ?_)
  · refine lv_iconst (v := 1) hx hb dX0_countForStriker_37 (by decide) ?_
    exact J22 1 (by rw [X0_countForStriker_x0, if_neg c20]) _ _ _ G (lv_sub hl [0, 1] rfl)
  · refine lv_iconst (v := 0) hx hb dX0_countForStriker_33 (by decide) ?_
    refine lv_goto (tgt := 38) hx hb dX0_countForStriker_34 (by decide) ?_
    exact J22 0 (by rw [X0_countForStriker_x0, if_pos c20]) _ _ _ G (lv_sub hl [0, 1] rfl)
def X0_countForPartnership_x0 (kd : Int32) : Int32 := if (X5_isLegal_x1 kd) = 0 then 0 else 1
def X0_countForPartnership_n1 (sk : Int32) (ot : Int32) : Nat := if ot ≤ sk then 5 else 4
def X0_countForPartnership_g2 (rp : Nat) (g3 : Nat → Int32) (sk : Int32) (ot : Int32) (kd : Int32) (ru : Int32) : Nat → Int32 := (tinc 8 (nI rp) 4104 (tinc 8 (nI rp) 4104 (tinc 8 (nI rp) 4104 (tinc 8 (nI rp) 4104 g3 (nI (rp - 1)) 0 (X5_teamRuns_x1 kd ru)) (nI (rp - 1)) 1 (X0_countForPartnership_x0 kd)) (nI (rp - 1)) (nI (X0_countForPartnership_n1 sk ot)) (X5_strikerRuns_x1 kd ru)) (nI (rp - 1)) 6 ((X5_teamRuns_x1 kd ru) - (X5_strikerRuns_x1 kd ru)))
set_option maxRecDepth 100000 in
theorem c_X0_countForPartnership {l : Launch} (hfl : l.stackTraces = false) {D : va_G} {cy : Nat → ClassId} {f : Hf} {sz : Nat} {i : Nat} {t0 : Nat} {t1 : Nat} {t2 : Nat} {t3 : Nat} {a3 : Nat} {t4 : Nat} {o : Nat} {st : Nat} {rp : Nat} {g3 : Nat → Int32} {rs : Int32} {sk : Int32} {ot : Int32} {ch : Int32} {nc : Int32} {ty : Int32} {nu : Int32} {wy : Int32} {kd : Int32} {ru : Int32} {so : Int32} {sb : Int32} {sc : Int32} {sh : Int32} (h_i : f i = some (.inr (2, [.ref t0, .ref t1, .ref t2, .ref t3, .ref t4, .ref o, .int rs, .int sk, .int ot, .int ch, .int nc]))) (h_st : f st = some (.inr (7, [.int ty, .int nu, .int wy, .int kd, .int ru, .int so, .int sb, .int sc, .int sh]))) (h_t3 : f t3 = some (.inr (8, [.int 8, .ref a3, .int (nI rp)]))) (h_a3 : f a3 = some (.inl (cy 0, 4104, .inl g3))) (hrp : 1 ≤ rp) : hMet l yX0_countForPartnership cX0_countForPartnership 3 none { frames := 1, cells := 0, slots := 0, locals := 25 } D (hTy cy) f sz [.ref i, .ref st] (hQv (fun u => u a3 = some (.inl (cy 0, 4104, .inl (X0_countForPartnership_g2 rp g3 sk ot kd ru))) ∧ hFrL f u [a3]) D f sz) hNo := by
  refine h_enter (by decide) hfl (Nat.le_of_ble_eq_true rfl) ?_
  intro p9 e9 s9 m9 b9 t9 c9 hsz C0 hr hnm G ls hl
  have hx := C0.1.1
  have hb := C0.1.2.1
  have hl : lv_has ls 3 [(0, .ref i), (1, .ref st)] := hl
  refine lv_aload_n hx hb dX0_countForPartnership_0 rfl (lv_at hl 0 rfl) ?_
  refine g_get C0 G h_i rfl hiX0 3 (by decide) mf_X0_26 rfl dX0_countForPartnership_1 ?_
  refine g_cI C0 G (g_runV C0 G (rest := []) (k_X6_lastRow hfl h_t3 h_a3) h_t3 rfl hY_X6_lastRow mm_X0_183 mi_X6_lastRow ml_X6_lastRow ⟨(Nat.le_of_ble_eq_true rfl), (Nat.le_of_ble_eq_true rfl)⟩ rfl hl.1 rfl (Nat.le_of_ble_eq_true rfl) dX0_countForPartnership_4 ⟨(Nat.le_of_ble_eq_true rfl), (Nat.le_of_ble_eq_true rfl)⟩) (kx_no rfl) (fun r13 u12 H locs hp11 G => ?_)
  obtain ⟨zr, eu12⟩ := hp11
  replace zr := Eq.symm zr
  subst zr
  rw [eu12] at G
  refine lv_topv (v := nI (rp - 1)) (nI_sb (by omega)) ?_
  refine lv_istore_n (lv' := [(2, .int (nI (rp - 1))), (0, .ref i), (1, .ref st)]) hx hb dX0_countForPartnership_7 rfl hl (by decide) rfl (fun ls hl => ?_)
  refine lv_aload_n hx hb dX0_countForPartnership_8 rfl (lv_at hl 1 rfl) ?_
  refine g_get C0 G h_i rfl hiX0 3 (by decide) mf_X0_26 rfl dX0_countForPartnership_9 ?_
  refine lv_iload_n hx hb dX0_countForPartnership_12 rfl (lv_at hl 0 rfl) ?_
  refine lv_iconst (v := 0) hx hb dX0_countForPartnership_13 (by decide) ?_
  refine lv_aload_n hx hb dX0_countForPartnership_14 rfl (lv_at hl 2 rfl) ?_
  refine g_cI C0 G (g_runV C0 G (rest := [.int 0, .int (nI (rp - 1)), .ref t3]) (c_X5_teamRuns hfl h_st) h_st rfl hY_X5_teamRuns mm_X0_124 mi_X5_teamRuns ml_X5_teamRuns ⟨(Nat.le_of_ble_eq_true rfl), (Nat.le_of_ble_eq_true rfl)⟩ rfl hl.1 rfl (Nat.le_of_ble_eq_true rfl) dX0_countForPartnership_15 ⟨(Nat.le_of_ble_eq_true rfl), (Nat.le_of_ble_eq_true rfl)⟩) (kx_no rfl) (fun r16 u15 H locs hp14 G => ?_)
  obtain ⟨zr, eu15⟩ := hp14
  replace zr := Eq.symm zr
  subst zr
  rw [eu15] at G
  refine g_cV C0 G (g_runV C0 G (rest := []) (q_X6_increase hfl (nI (rp - 1)) 0 (X5_teamRuns_x1 kd ru) h_t3 h_a3 (by omega)) h_t3 rfl hY_X6_increase mm_X0_103 mi_X6_increase ml_X6_increase ⟨(Nat.le_of_ble_eq_true rfl), (Nat.le_of_ble_eq_true rfl)⟩ rfl hl.1 rfl (Nat.le_of_ble_eq_true rfl) dX0_countForPartnership_18 ⟨(Nat.le_of_ble_eq_true rfl), (Nat.le_of_ble_eq_true rfl)⟩) (kx_no rfl) (fun u18 H locs hp17 G => ?_)
  obtain ⟨k19, fr20⟩ := hp17
  refine lv_aload_n hx hb dX0_countForPartnership_21 rfl (lv_at hl 1 rfl) ?_
  have k21 : u18 i = some (.inr (2, [.ref t0, .ref t1, .ref t2, .ref t3, .ref t4, .ref o, .int rs, .int sk, .int ot, .int ch, .int nc])) := fr20 _ _ (nm_c (hneD h_i h_a3 rfl) nm_0) h_i
  refine g_get C0 G k21 rfl hiX0 3 (by decide) mf_X0_26 rfl dX0_countForPartnership_22 ?_
  refine lv_iload_n hx hb dX0_countForPartnership_25 rfl (lv_at hl 0 rfl) ?_
  refine lv_iconst (v := 1) hx hb dX0_countForPartnership_26 (by decide) ?_
  refine lv_aload_n hx hb dX0_countForPartnership_27 rfl (lv_at hl 2 rfl) ?_
  have k22 : u18 st = some (.inr (7, [.int ty, .int nu, .int wy, .int kd, .int ru, .int so, .int sb, .int sc, .int sh])) := fr20 _ _ (nm_c (hneD h_st h_a3 rfl) nm_0) h_st
  refine g_cI C0 G (g_runV C0 G (rest := [.int 1, .int (nI (rp - 1)), .ref t3]) (c_X5_isLegal hfl k22) k22 rfl hY_X5_isLegal mm_X0_146 mi_X5_isLegal ml_X5_isLegal ⟨(Nat.le_of_ble_eq_true rfl), (Nat.le_of_ble_eq_true rfl)⟩ rfl hl.1 rfl (Nat.le_of_ble_eq_true rfl) dX0_countForPartnership_28 ⟨(Nat.le_of_ble_eq_true rfl), (Nat.le_of_ble_eq_true rfl)⟩) (kx_no rfl) (fun r25 u24 H locs hp23 G => ?_)
  obtain ⟨zr, eu24⟩ := hp23
  replace zr := Eq.symm zr
  subst zr
  rw [eu24] at G
  have J28 : ∀ (y27 : Int32) (_ : y27 = (X0_countForPartnership_x0 kd)) (H : Heap) (locs : List Loc) (ls : Array Slot), hG D (hA f sz) u18 s9 H locs → lv_has ls 3 [(2, .int (nI (rp - 1))), (0, .ref i), (1, .ref st)] → W p9 l e9 ({ frames := 1, cells := 0, slots := 0, locals := 25 } : Room) s9 m9 ([.ref i, .ref st] : List Value).toArray b9 t9 c9 H locs 0 0 (vx_MQ b9 (hQv (fun u => u a3 = some (.inl (cy 0, 4104, .inl (X0_countForPartnership_g2 rp g3 sk ot kd ru))) ∧ hFrL f u [a3]) D f sz) (hPx hNo D f sz) ([.ref i, .ref st] : List Value).toArray s9 0 0 (hA f sz)) (F0 m9 39 ls [.int y27, .int 1, .int (nI (rp - 1)), .ref t3]) := by
    intro y27 ey27 H locs ls G hl
    replace ey27 := Eq.symm ey27
    subst ey27
    have k30 : u18 t3 = some (.inr (8, [.int 8, .ref a3, .int (nI rp)])) := fr20 _ _ (nm_c (hneD h_t3 h_a3 rfl) nm_0) h_t3
    refine g_cV C0 G (g_runV C0 G (rest := []) (q_X6_increase hfl (nI (rp - 1)) 1 (X0_countForPartnership_x0 kd) k30 k19 (by omega)) k30 rfl hY_X6_increase mm_X0_103 mi_X6_increase ml_X6_increase ⟨(Nat.le_of_ble_eq_true rfl), (Nat.le_of_ble_eq_true rfl)⟩ rfl hl.1 rfl (Nat.le_of_ble_eq_true rfl) dX0_countForPartnership_39 ⟨(Nat.le_of_ble_eq_true rfl), (Nat.le_of_ble_eq_true rfl)⟩) (kx_no rfl) (fun u32 H locs hp31 G => ?_)
    obtain ⟨k33, fr34⟩ := hp31
    refine lv_aload_n hx hb dX0_countForPartnership_42 rfl (lv_at hl 1 rfl) ?_
    have k35 : u32 i = some (.inr (2, [.ref t0, .ref t1, .ref t2, .ref t3, .ref t4, .ref o, .int rs, .int sk, .int ot, .int ch, .int nc])) := fr34 _ _ (nm_c (by first | exact hneD k21 k19 rfl | exact hne k21 k19 (by intro q; cases q)) nm_0) k21
    refine g_get C0 G k35 rfl hiX0 3 (by decide) mf_X0_26 rfl dX0_countForPartnership_43 ?_
    refine lv_iload_n hx hb dX0_countForPartnership_46 rfl (lv_at hl 0 rfl) ?_
    refine lv_aload_n hx hb dX0_countForPartnership_47 rfl (lv_at hl 1 rfl) ?_
    refine g_get C0 G k35 rfl hiX0 7 (by decide) mf_X0_43 rfl dX0_countForPartnership_48 ?_
    refine lv_aload_n hx hb dX0_countForPartnership_51 rfl (lv_at hl 1 rfl) ?_
    refine g_get C0 G k35 rfl hiX0 8 (by decide) mf_X0_46 rfl dX0_countForPartnership_52 ?_
    have J38 : ∀ (y37 : Int32) (_ : y37 = nI (X0_countForPartnership_n1 sk ot)) (H : Heap) (locs : List Loc) (ls : Array Slot), hG D (hA f sz) u32 s9 H locs → lv_has ls 3 [(2, .int (nI (rp - 1))), (0, .ref i), (1, .ref st)] → W p9 l e9 ({ frames := 1, cells := 0, slots := 0, locals := 25 } : Room) s9 m9 ([.ref i, .ref st] : List Value).toArray b9 t9 c9 H locs 0 0 (vx_MQ b9 (hQv (fun u => u a3 = some (.inl (cy 0, 4104, .inl (X0_countForPartnership_g2 rp g3 sk ot kd ru))) ∧ hFrL f u [a3]) D f sz) (hPx hNo D f sz) ([.ref i, .ref st] : List Value).toArray s9 0 0 (hA f sz)) (F0 m9 63 ls [.int y37, .int (nI (rp - 1)), .ref t3]) := by
      intro y37 ey37 H locs ls G hl
      replace ey37 := Eq.symm ey37
      subst ey37
      have bd40 : (X0_countForPartnership_n1 sk ot) ≤ 5 := by unfold X0_countForPartnership_n1; repeat (first | omega | split)
      refine lv_aload_n hx hb dX0_countForPartnership_63 rfl (lv_at hl 2 rfl) ?_
      have k41 : u32 st = some (.inr (7, [.int ty, .int nu, .int wy, .int kd, .int ru, .int so, .int sb, .int sc, .int sh])) := fr34 _ _ (nm_c (by first | exact hneD k22 k19 rfl | exact hne k22 k19 (by intro q; cases q)) nm_0) k22
      refine g_cI C0 G (g_runV C0 G (rest := [.int (nI (X0_countForPartnership_n1 sk ot)), .int (nI (rp - 1)), .ref t3]) (c_X5_strikerRuns hfl k41) k41 rfl hY_X5_strikerRuns mm_X0_177 mi_X5_strikerRuns ml_X5_strikerRuns ⟨(Nat.le_of_ble_eq_true rfl), (Nat.le_of_ble_eq_true rfl)⟩ rfl hl.1 rfl (Nat.le_of_ble_eq_true rfl) dX0_countForPartnership_64 ⟨(Nat.le_of_ble_eq_true rfl), (Nat.le_of_ble_eq_true rfl)⟩) (kx_no rfl) (fun r44 u43 H locs hp42 G => ?_)
      obtain ⟨zr, eu43⟩ := hp42
      replace zr := Eq.symm zr
      subst zr
      rw [eu43] at G
      have k45 : u32 t3 = some (.inr (8, [.int 8, .ref a3, .int (nI rp)])) := fr34 _ _ (nm_c (by first | exact hneD k30 k19 rfl | exact hne k30 k19 (by intro q; cases q)) nm_0) k30
      refine g_cV C0 G (g_runV C0 G (rest := []) (q_X6_increase hfl (nI (rp - 1)) (nI (X0_countForPartnership_n1 sk ot)) (X5_strikerRuns_x1 kd ru) k45 k33 (by omega)) k45 rfl hY_X6_increase mm_X0_103 mi_X6_increase ml_X6_increase ⟨(Nat.le_of_ble_eq_true rfl), (Nat.le_of_ble_eq_true rfl)⟩ rfl hl.1 rfl (Nat.le_of_ble_eq_true rfl) dX0_countForPartnership_67 ⟨(Nat.le_of_ble_eq_true rfl), (Nat.le_of_ble_eq_true rfl)⟩) (kx_no rfl) (fun u47 H locs hp46 G => ?_)
      obtain ⟨k48, fr49⟩ := hp46
      refine lv_aload_n hx hb dX0_countForPartnership_70 rfl (lv_at hl 1 rfl) ?_
      have k50 : u47 i = some (.inr (2, [.ref t0, .ref t1, .ref t2, .ref t3, .ref t4, .ref o, .int rs, .int sk, .int ot, .int ch, .int nc])) := fr49 _ _ (nm_c (by first | exact hneD k35 k33 rfl | exact hne k35 k33 (by intro q; cases q)) nm_0) k35
      refine g_get C0 G k50 rfl hiX0 3 (by decide) mf_X0_26 rfl dX0_countForPartnership_71 ?_
      refine lv_iload_n hx hb dX0_countForPartnership_74 rfl (lv_at hl 0 rfl) ?_
      refine lv_bipush (v := 6) hx hb dX0_countForPartnership_75 (by decide) ?_
      refine lv_aload_n hx hb dX0_countForPartnership_77 rfl (lv_at hl 2 rfl) ?_
      have k51 : u47 st = some (.inr (7, [.int ty, .int nu, .int wy, .int kd, .int ru, .int so, .int sb, .int sc, .int sh])) := fr49 _ _ (nm_c (by first | exact hneD k41 k33 rfl | exact hne k41 k33 (by intro q; cases q)) nm_0) k41
      refine g_cI C0 G (g_runV C0 G (rest := [.int 6, .int (nI (rp - 1)), .ref t3]) (c_X5_teamRuns hfl k51) k51 rfl hY_X5_teamRuns mm_X0_124 mi_X5_teamRuns ml_X5_teamRuns ⟨(Nat.le_of_ble_eq_true rfl), (Nat.le_of_ble_eq_true rfl)⟩ rfl hl.1 rfl (Nat.le_of_ble_eq_true rfl) dX0_countForPartnership_78 ⟨(Nat.le_of_ble_eq_true rfl), (Nat.le_of_ble_eq_true rfl)⟩) (kx_no rfl) (fun r54 u53 H locs hp52 G => ?_)
      obtain ⟨zr, eu53⟩ := hp52
      replace zr := Eq.symm zr
      subst zr
      rw [eu53] at G
      refine lv_aload_n hx hb dX0_countForPartnership_81 rfl (lv_at hl 2 rfl) ?_
      refine g_cI C0 G (g_runV C0 G (rest := [.int (X5_teamRuns_x1 kd ru), .int 6, .int (nI (rp - 1)), .ref t3]) (c_X5_strikerRuns hfl k51) k51 rfl hY_X5_strikerRuns mm_X0_177 mi_X5_strikerRuns ml_X5_strikerRuns ⟨(Nat.le_of_ble_eq_true rfl), (Nat.le_of_ble_eq_true rfl)⟩ rfl hl.1 rfl (Nat.le_of_ble_eq_true rfl) dX0_countForPartnership_82 ⟨(Nat.le_of_ble_eq_true rfl), (Nat.le_of_ble_eq_true rfl)⟩) (kx_no rfl) (fun r57 u56 H locs hp55 G => ?_)
      obtain ⟨zr, eu56⟩ := hp55
      replace zr := Eq.symm zr
      subst zr
      rw [eu56] at G
      refine lv_isub hx hb dX0_countForPartnership_85 ?_
      have k58 : u47 t3 = some (.inr (8, [.int 8, .ref a3, .int (nI rp)])) := fr49 _ _ (nm_c (by first | exact hneD k45 k33 rfl | exact hne k45 k33 (by intro q; cases q)) nm_0) k45
      refine g_cV C0 G (g_runV C0 G (rest := []) (q_X6_increase hfl (nI (rp - 1)) 6 ((X5_teamRuns_x1 kd ru) - (X5_strikerRuns_x1 kd ru)) k58 k48 (by omega)) k58 rfl hY_X6_increase mm_X0_103 mi_X6_increase ml_X6_increase ⟨(Nat.le_of_ble_eq_true rfl), (Nat.le_of_ble_eq_true rfl)⟩ rfl hl.1 rfl (Nat.le_of_ble_eq_true rfl) dX0_countForPartnership_86 ⟨(Nat.le_of_ble_eq_true rfl), (Nat.le_of_ble_eq_true rfl)⟩) (kx_no rfl) (fun u60 H locs hp59 G => ?_)
      obtain ⟨k61, fr62⟩ := hp59
      exact g_vret C0 G hr dX0_countForPartnership_89 (Nat.le_of_ble_eq_true rfl) (Nat.le_of_ble_eq_true rfl) (by exact ⟨(by rw [(by rw [X0_countForPartnership_g2] : (X0_countForPartnership_g2 rp g3 sk ot kd ru) = (tinc 8 (nI rp) 4104 (tinc 8 (nI rp) 4104 (tinc 8 (nI rp) 4104 (tinc 8 (nI rp) 4104 g3 (nI (rp - 1)) 0 (X5_teamRuns_x1 kd ru)) (nI (rp - 1)) 1 (X0_countForPartnership_x0 kd)) (nI (rp - 1)) (nI (X0_countForPartnership_n1 sk ot)) (X5_strikerRuns_x1 kd ru)) (nI (rp - 1)) 6 ((X5_teamRuns_x1 kd ru) - (X5_strikerRuns_x1 kd ru))))]; exact k61), (fun a9 e9 h7 h8 => fr62 _ _ (fun q => h7 (by simp only [List.mem_cons, List.not_mem_nil, or_false] at q ⊢; first | exact q | (rcases q with q <;> simp [q]) | omega)) (fr49 _ _ (fun q => h7 (by simp only [List.mem_cons, List.not_mem_nil, or_false] at q ⊢; first | exact q | (rcases q with q <;> simp [q]) | omega)) (fr34 _ _ (fun q => h7 (by simp only [List.mem_cons, List.not_mem_nil, or_false] at q ⊢; first | exact q | (rcases q with q <;> simp [q]) | omega)) (fr20 _ _ (fun q => h7 (by simp only [List.mem_cons, List.not_mem_nil, or_false] at q ⊢; first | exact q | (rcases q with q <;> simp [q]) | omega)) (h8)))))⟩)
    refine lv_icmp_ge (tgt := 62) hx hb dX0_countForPartnership_55 (by decide) (fun c36 => ?_) (fun c36 => ?_)
    · refine lv_iconst (v := 5) hx hb dX0_countForPartnership_62 (by decide) ?_
      exact J38 5 (by rw [X0_countForPartnership_n1, if_pos c36] <;> rfl) _ _ _ G (lv_sub hl [0, 1, 2] rfl)
    · refine lv_iconst (v := 4) hx hb dX0_countForPartnership_58 (by decide) ?_
      refine lv_goto (tgt := 63) hx hb dX0_countForPartnership_59 (by decide) ?_
      exact J38 4 (by rw [X0_countForPartnership_n1, if_neg c36] <;> rfl) _ _ _ G (lv_sub hl [0, 1, 2] rfl)
  refine lv_if_eq (tgt := 38) hx hb dX0_countForPartnership_31 (by decide) (fun c26 => ?_) (fun c26 => ?_)
  · refine lv_iconst (v := 0) hx hb dX0_countForPartnership_38 (by decide) ?_
    exact J28 0 (by rw [X0_countForPartnership_x0, if_pos c26]) _ _ _ G (lv_sub hl [0, 1, 2] rfl)
  · refine lv_iconst (v := 1) hx hb dX0_countForPartnership_34 (by decide) ?_
    refine lv_goto (tgt := 39) hx hb dX0_countForPartnership_35 (by decide) ?_
    exact J28 1 (by rw [X0_countForPartnership_x0, if_neg c26]) _ _ _ G (lv_sub hl [0, 1, 2] rfl)
