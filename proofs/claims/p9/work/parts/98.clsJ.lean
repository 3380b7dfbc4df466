def X7_isFull_x0 (tl : Nat) : Int32 := if (nI tl) < 60 then 0 else 1
set_option maxRecDepth 100000 in
theorem c_X7_isFull {l : Launch} (hfl : l.stackTraces = false) {D : va_G} {cy : Nat → ClassId} {f : Hf} {sz : Nat} {tx : Nat} {bu : Nat} {no : Nat} {pd : Nat} {tc : Int32} {tl : Nat} {gb : Nat → Int32} (h_tx : f tx = some (.inr (9, [.ref bu, .ref no, .ref pd, .int (nI tl), .int tc]))) (h_bu : f bu = some (.inl (cy 1, 60, .inl gb))) (htl : tl ≤ 60) : hMet l yX7_isFull cX7_isFull 1 (some .boolean) { frames := 0, cells := 0, slots := 0, locals := 0 } D (hTy cy) f sz [.ref tx] (hQi (fun r u => r = (X7_isFull_x0 tl) ∧ u = f) D f sz) hNo := by
  refine h_enter (by decide) hfl (Nat.le_of_ble_eq_true rfl) ?_
  intro p9 e9 s9 m9 b9 t9 c9 hsz C0 hr hnm G ls hl
  have hx := C0.1.1
  have hb := C0.1.2.1
  have hl : lv_has ls 1 [(0, .ref tx)] := hl
  refine lv_aload_n hx hb dX7_isFull_0 rfl (lv_at hl 0 rfl) ?_
  refine g_get C0 G h_tx rfl hiX7 3 (by decide) mf_X7_28 rfl dX7_isFull_1 ?_
  refine lv_aload_n hx hb dX7_isFull_4 rfl (lv_at hl 0 rfl) ?_
  refine g_get C0 G h_tx rfl hiX7 0 (by decide) mf_X7_9 rfl dX7_isFull_5 ?_
  refine g_alen C0 G h_bu 1 rfl (v := 60) rfl dX7_isFull_8 ?_
  have J13 : ∀ (y12 : Int32) (_ : y12 = (X7_isFull_x0 tl)) (H : Heap) (locs : List Loc) (ls : Array Slot), hG D (hA f sz) f s9 H locs → lv_has ls 1 [(0, .ref tx)] → W p9 l e9 ({ frames := 0, cells := 0, slots := 0, locals := 0 } : Room) s9 m9 ([.ref tx] : List Value).toArray b9 t9 c9 H locs 0 0 (vx_MQ b9 (hQi (fun r u => r = (X7_isFull_x0 tl) ∧ u = f) D f sz) (hPx hNo D f sz) ([.ref tx] : List Value).toArray s9 0 0 (hA f sz)) (F0 m9 17 ls [.int y12]) := by
    intro y12 ey12 H locs ls G hl
    replace ey12 := Eq.symm ey12
    subst ey12
    exact g_zret C0 G hr dX7_isFull_17 (hZb (by unfold X7_isFull_x0; split; exact (Or.inl rfl); exact (Or.inr rfl))) (Nat.le_of_ble_eq_true rfl) (Nat.le_of_ble_eq_true rfl) (by exact ⟨rfl, rfl⟩)
  refine lv_icmp_lt (tgt := 16) hx hb dX7_isFull_9 (by decide) (fun c11 => ?_) (fun c11 => ?_)
  · have n15 : tl < 60 := (nI_ltI (a := tl) (b := 60) (by omega) (by omega)).mp c11
    refine lv_iconst (v := 0) hx hb dX7_isFull_16 (by decide) ?_
    exact J13 0 (by rw [X7_isFull_x0, if_pos c11]) _ _ _ G (lv_sub hl [0] rfl)
  · have n16 : ¬ tl < 60 := fun q => c11 ((nI_ltI (a := tl) (b := 60) (by omega) (by omega)).mpr q)
    refine lv_iconst (v := 1) hx hb dX7_isFull_12 (by decide) ?_
    refine lv_goto (tgt := 17) hx hb dX7_isFull_13 (by decide) ?_
    exact J13 1 (by rw [X7_isFull_x0, if_neg c11]) _ _ _ G (lv_sub hl [0] rfl)
theorem b_c_X7_isFull (tl : Nat) : (X7_isFull_x0 tl) = 0 ∨ (X7_isFull_x0 tl) = 1 := (by unfold X7_isFull_x0; split; exact (Or.inl rfl); exact (Or.inr rfl))
set_option maxRecDepth 100000 in
theorem c_X7_clear {l : Launch} (hfl : l.stackTraces = false) {D : va_G} {cy : Nat → ClassId} {f : Hf} {sz : Nat} {tx : Nat} {bu : Nat} {no : Nat} {pd : Nat} {tl : Int32} {tc : Int32} (h_tx : f tx = some (.inr (9, [.ref bu, .ref no, .ref pd, .int tl, .int tc])))  : hMet l yX7_clear cX7_clear 1 none { frames := 0, cells := 0, slots := 0, locals := 0 } D (hTy cy) f sz [.ref tx] (hQv (fun u => u tx = some (.inr (9, [.ref bu, .ref no, .ref pd, .int 0, .int tc])) ∧ hFrL f u [tx]) D f sz) hNo := by
  refine h_enter (by decide) hfl (Nat.le_of_ble_eq_true rfl) ?_
  intro p9 e9 s9 m9 b9 t9 c9 hsz C0 hr hnm G ls hl
  have hx := C0.1.1
  have hb := C0.1.2.1
  have hl : lv_has ls 1 [(0, .ref tx)] := hl
  refine lv_aload_n hx hb dX7_clear_0 rfl (lv_at hl 0 rfl) ?_
  refine lv_iconst (v := 0) hx hb dX7_clear_1 (by decide) ?_
  refine g_put C0 G h_tx rfl hiX7 tyX7 tyX7_ok nmX7 3 (by decide) mf_X7_28 rfl rfl rfl rfl (Nat.le_of_ble_eq_true rfl) dX7_clear_2 (fun H locs f11 hf11 G => ?_)
  have k12 : f11 tx = some (.inr (9, [.ref bu, .ref no, .ref pd, .int 0, .int tc])) := hus hf11
  exact g_vret C0 G hr dX7_clear_5 (Nat.le_of_ble_eq_true rfl) (Nat.le_of_ble_eq_true rfl) (by exact ⟨k12, (fun a9 e9 h7 h8 => hup hf11 (fun q => h7 (by rw [q]; simp)) (h8))⟩)
set_option maxRecDepth 100000 in
theorem c_X7_elements {l : Launch} (hfl : l.stackTraces = false) {D : va_G} {cy : Nat → ClassId} {f : Hf} {sz : Nat} {tx : Nat} {bu : Nat} {no : Nat} {pd : Nat} {tl : Int32} {tc : Int32} (h_tx : f tx = some (.inr (9, [.ref bu, .ref no, .ref pd, .int tl, .int tc])))  : hMet l yX7_elements cX7_elements 1 (some .int) { frames := 0, cells := 0, slots := 0, locals := 0 } D (hTy cy) f sz [.ref tx] (hQi (fun r u => r = tc ∧ u = f) D f sz) hNo := by
  refine h_enter (by decide) hfl (Nat.le_of_ble_eq_true rfl) ?_
  intro p9 e9 s9 m9 b9 t9 c9 hsz C0 hr hnm G ls hl
  have hx := C0.1.1
  have hb := C0.1.2.1
  have hl : lv_has ls 1 [(0, .ref tx)] := hl
  refine lv_aload_n hx hb dX7_elements_0 rfl (lv_at hl 0 rfl) ?_
  refine g_get C0 G h_tx rfl hiX7 4 (by decide) mf_X7_32 rfl dX7_elements_1 ?_
  exact g_iret C0 G hr dX7_elements_4 (Nat.le_of_ble_eq_true rfl) (Nat.le_of_ble_eq_true rfl) (by exact ⟨rfl, rfl⟩)
set_option maxRecDepth 100000 in
theorem c_X7_element {l : Launch} (hfl : l.stackTraces = false) {D : va_G} {cy : Nat → ClassId} {f : Hf} {sz : Nat} {tx : Nat} {bu : Nat} {no : Nat} {pd : Nat} {sj : Nat} {tl : Int32} {tc : Int32} {jj : Nat} {qp : Nat → Option Nat} (h_tx : f tx = some (.inr (9, [.ref bu, .ref no, .ref pd, .int tl, .int tc]))) (h_pd : f pd = some (.inl (cy 4, 60, .inr (.inr (.inr (.inr qp)))))) (hj : jj < 60) (hqj : qp jj = some sj) : hMet l yX7_element cX7_element 2 (some (.object "WicketScorer$Step")) { frames := 0, cells := 0, slots := 0, locals := 0 } D (hTy cy) f sz [.ref tx, .int (nI jj)] (hQr (fun r u => r = sj ∧ u = f) D f sz) hNo := by
  refine h_enter (by decide) hfl (Nat.le_of_ble_eq_true rfl) ?_
  intro p9 e9 s9 m9 b9 t9 c9 hsz C0 hr hnm G ls hl
  have hx := C0.1.1
  have hb := C0.1.2.1
  have hl : lv_has ls 2 [(0, .ref tx), (1, .int (nI jj))] := hl
  refine lv_iload_n hx hb dX7_element_0 rfl (lv_at hl 1 rfl) ?_
  refine lv_if_lt (tgt := 22) hx hb dX7_element_1 (by decide) (fun c11 => absurd c11 ((nI_pos (by omega)))) (fun _ => ?_)
  refine lv_iload_n hx hb dX7_element_4 rfl (lv_at hl 1 rfl) ?_
  refine lv_aload_n hx hb dX7_element_5 rfl (lv_at hl 0 rfl) ?_
  refine g_get C0 G h_tx rfl hiX7 2 (by decide) mf_X7_24 rfl dX7_element_6 ?_
  refine g_alen C0 G h_pd 4 rfl (v := 60) rfl dX7_element_9 ?_
  refine lv_icmp_ge (tgt := 22) hx hb dX7_element_10 (by decide) (fun c12 => absurd c12 ((fun q => absurd ((nI_leI (a := 60) (b := jj) (by omega) (by omega)).mp q) (by omega)))) (fun _ => ?_)
  refine lv_aload_n hx hb dX7_element_13 rfl (lv_at hl 0 rfl) ?_
  refine g_get C0 G h_tx rfl hiX7 2 (by decide) mf_X7_24 rfl dX7_element_14 ?_
  refine lv_iload_n hx hb dX7_element_17 rfl (lv_at hl 1 rfl) ?_
  refine g_aald C0 G h_pd 4 rfl (vp_in_nI (by omega) (by omega)) (v := .ref sj) (by rw [nI_c (by omega), hqj]; rfl) dX7_element_18 ?_
  refine lv_goto (tgt := 26) hx hb dX7_element_19 (by decide) ?_
  exact g_aret C0 G hr dX7_element_26 (Nat.le_of_ble_eq_true rfl) (Nat.le_of_ble_eq_true rfl) (by exact ⟨rfl, rfl⟩)
set_option maxRecDepth 100000 in
theorem c_X7_keep {l : Launch} (hfl : l.stackTraces = false) {D : va_G} {cy : Nat → ClassId} {f : Hf} {sz : Nat} {tx : Nat} {bu : Nat} {no : Nat} {pd : Nat} {st : Nat} {tl : Int32} {tc : Nat} {qp : Nat → Option Nat} {ty : Int32} {nu : Int32} {wy : Int32} {kd : Int32} {ru : Int32} {so : Int32} {sb : Int32} {sc : Int32} {sh : Int32} (h_tx : f tx = some (.inr (9, [.ref bu, .ref no, .ref pd, .int tl, .int (nI tc)]))) (h_pd : f pd = some (.inl (cy 4, 60, .inr (.inr (.inr (.inr qp)))))) (h_st : f st = some (.inr (7, [.int ty, .int nu, .int wy, .int kd, .int ru, .int so, .int sb, .int sc, .int sh]))) (htc : tc < 60) : hMet l yX7_keep cX7_keep 2 none { frames := 0, cells := 0, slots := 0, locals := 0 } D (hTy cy) f sz [.ref tx, .ref st] (hQv (fun u => u pd = some (.inl (cy 4, 60, .inr (.inr (.inr (.inr (va_up qp tc (some st))))))) ∧ u tx = some (.inr (9, [.ref bu, .ref no, .ref pd, .int tl, .int (nI (tc + 1))])) ∧ hFrL f u [pd, tx]) D f sz) hNo := by
  refine h_enter (by decide) hfl (Nat.le_of_ble_eq_true rfl) ?_
  intro p9 e9 s9 m9 b9 t9 c9 hsz C0 hr hnm G ls hl
  have hx := C0.1.1
  have hb := C0.1.2.1
  have hl : lv_has ls 2 [(0, .ref tx), (1, .ref st)] := hl
  refine lv_aload_n hx hb dX7_keep_0 rfl (lv_at hl 0 rfl) ?_
  refine g_get C0 G h_tx rfl hiX7 4 (by decide) mf_X7_32 rfl dX7_keep_1 ?_
  refine lv_if_lt (tgt := 39) hx hb dX7_keep_4 (by decide) (fun c11 => absurd c11 ((nI_pos (by omega)))) (fun _ => ?_)
  refine lv_aload_n hx hb dX7_keep_7 rfl (lv_at hl 0 rfl) ?_
  refine g_get C0 G h_tx rfl hiX7 4 (by decide) mf_X7_32 rfl dX7_keep_8 ?_
  refine lv_aload_n hx hb dX7_keep_11 rfl (lv_at hl 0 rfl) ?_
  refine g_get C0 G h_tx rfl hiX7 2 (by decide) mf_X7_24 rfl dX7_keep_12 ?_
  refine g_alen C0 G h_pd 4 rfl (v := 60) rfl dX7_keep_15 ?_
  refine lv_icmp_ge (tgt := 39) hx hb dX7_keep_16 (by decide) (fun c12 => absurd c12 ((fun q => absurd ((nI_leI (a := 60) (b := tc) (by omega) (by omega)).mp q) (by omega)))) (fun _ => ?_)
  refine lv_aload_n hx hb dX7_keep_19 rfl (lv_at hl 0 rfl) ?_
  refine g_get C0 G h_tx rfl hiX7 2 (by decide) mf_X7_24 rfl dX7_keep_20 ?_
  refine lv_aload_n hx hb dX7_keep_23 rfl (lv_at hl 0 rfl) ?_
  refine g_get C0 G h_tx rfl hiX7 4 (by decide) mf_X7_32 rfl dX7_keep_24 ?_
  refine lv_aload_n hx hb dX7_keep_27 rfl (lv_at hl 1 rfl) ?_
  refine g_aast C0 G h_pd 4 rfl h_st rfl (vp_in_nI (by omega) (by omega)) dX7_keep_28 (fun H locs f13 hf13 G => ?_)
  have k14 : f13 pd = some (.inl (cy 4, 60, .inr (.inr (.inr (.inr (va_up qp tc (some st))))))) := (by have h9 := hus hf13; rw [nI_c (by omega)] at h9; exact h9)
  refine lv_aload_n hx hb dX7_keep_29 rfl (lv_at hl 0 rfl) ?_
  refine lv_dup hx hb dX7_keep_30 rfl ?_
  have k15 : f13 tx = some (.inr (9, [.ref bu, .ref no, .ref pd, .int tl, .int (nI tc)])) := hup hf13 (hne h_tx h_pd (by intro q; cases q)) h_tx
  refine g_get C0 G k15 rfl hiX7 4 (by decide) mf_X7_32 rfl dX7_keep_31 ?_
  refine lv_iconst (v := 1) hx hb dX7_keep_34 (by decide) ?_
  refine lv_iadd hx hb dX7_keep_35 ?_
  refine lv_topv (v := nI (tc + 1)) ((nI_add _ _)) ?_
  refine g_put C0 G k15 rfl hiX7 tyX7 tyX7_ok nmX7 4 (by decide) mf_X7_32 rfl rfl rfl rfl (Nat.le_of_ble_eq_true rfl) dX7_keep_36 (fun H locs f16 hf16 G => ?_)
  have k17 : f16 tx = some (.inr (9, [.ref bu, .ref no, .ref pd, .int tl, .int (nI (tc + 1))])) := hus hf16
  have k18 : f16 pd = some (.inl (cy 4, 60, .inr (.inr (.inr (.inr (va_up qp tc (some st))))))) := hup hf16 (hne k14 k15 (by intro q; cases q)) k14
  exact g_vret C0 G hr dX7_keep_39 (Nat.le_of_ble_eq_true rfl) (Nat.le_of_ble_eq_true rfl) (by exact ⟨k18, k17, (fun a9 e9 h7 h8 => hup hf16 (fun q => h7 (by rw [q]; simp)) (hup hf13 (fun q => h7 (by rw [q]; simp)) (h8)))⟩)
def X7_needsSecond_x0 (sg : Int32) : Int32 := if sg = 64 then 1 else 0
def X7_needsSecond_x1 (sg : Int32) : Int32 := if sg = 108 then 1 else (X7_needsSecond_x0 sg)
def X7_needsSecond_x2 (sg : Int32) : Int32 := if sg = 98 then 1 else (X7_needsSecond_x1 sg)
set_option maxRecDepth 100000 in
theorem c_X7_needsSecond {l : Launch} (hfl : l.stackTraces = false) {D : va_G} {cy : Nat → ClassId} {f : Hf} {sz : Nat} (sg : Int32)   : hMet l yX7_needsSecond cX7_needsSecond 1 (some .boolean) { frames := 0, cells := 0, slots := 0, locals := 0 } D (hTy cy) f sz [.int sg] (hQi (fun r u => r = (X7_needsSecond_x2 sg) ∧ u = f) D f sz) hNo := by
  refine h_enter (by decide) hfl (Nat.le_of_ble_eq_true rfl) ?_
  intro p9 e9 s9 m9 b9 t9 c9 hsz C0 hr hnm G ls hl
  have hx := C0.1.1
  have hb := C0.1.2.1
  have hl : lv_has ls 1 [(0, .int sg)] := hl
  refine lv_iload_n hx hb dX7_needsSecond_0 rfl (lv_at hl 0 rfl) ?_
  refine lv_bipush (v := 98) hx hb dX7_needsSecond_1 (by decide) ?_
  have J13 : ∀ (y12 : Int32) (_ : y12 = (X7_needsSecond_x2 sg)) (H : Heap) (locs : List Loc) (ls : Array Slot), hG D (hA f sz) f s9 H locs → lv_has ls 1 [(0, .int sg)] → W p9 l e9 ({ frames := 0, cells := 0, slots := 0, locals := 0 } : Room) s9 m9 ([.int sg] : List Value).toArray b9 t9 c9 H locs 0 0 (vx_MQ b9 (hQi (fun r u => r = (X7_needsSecond_x2 sg) ∧ u = f) D f sz) (hPx hNo D f sz) ([.int sg] : List Value).toArray s9 0 0 (hA f sz)) (F0 m9 23 ls [.int y12]) := by
    intro y12 ey12 H locs ls G hl
    replace ey12 := Eq.symm ey12
    subst ey12
    exact g_zret C0 G hr dX7_needsSecond_23 (hZb (by unfold X7_needsSecond_x2; split; exact (Or.inr rfl); exact (by unfold X7_needsSecond_x1; split; exact (Or.inr rfl); exact (by unfold X7_needsSecond_x0; split; exact (Or.inr rfl); exact (Or.inl rfl))))) (Nat.le_of_ble_eq_true rfl) (Nat.le_of_ble_eq_true rfl) (by exact ⟨rfl, rfl⟩)
  refine lv_icmp_eq (tgt := 18) hx hb dX7_needsSecond_3 (by decide) (fun c11 => ?_) (fun c11 => ?_)
  · refine lv_iconst (v := 1) hx hb dX7_needsSecond_18 (by decide) ?_
    refine lv_goto (tgt := 23) hx hb dX7_needsSecond_19 (by decide) ?_
    exact J13 1 (by rw [X7_needsSecond_x2, if_pos c11]) _ _ _ G (lv_sub hl [0] rfl)
  · refine lv_iload_n hx hb dX7_needsSecond_6 rfl (lv_at hl 0 rfl) ?_
    refine lv_bipush (v := 108) hx hb dX7_needsSecond_7 (by decide) ?_
    have J17 : ∀ (y16 : Int32) (_ : y16 = (X7_needsSecond_x1 sg)) (H : Heap) (locs : List Loc) (ls : Array Slot), hG D (hA f sz) f s9 H locs → lv_has ls 1 [(0, .int sg)] → W p9 l e9 ({ frames := 0, cells := 0, slots := 0, locals := 0 } : Room) s9 m9 ([.int sg] : List Value).toArray b9 t9 c9 H locs 0 0 (vx_MQ b9 (hQi (fun r u => r = (X7_needsSecond_x2 sg) ∧ u = f) D f sz) (hPx hNo D f sz) ([.int sg] : List Value).toArray s9 0 0 (hA f sz)) (F0 m9 23 ls [.int y16]) := by
      intro y16 ey16 H locs ls G hl
      replace ey16 := Eq.symm ey16
      subst ey16
      exact J13 (X7_needsSecond_x1 sg) (by rw [X7_needsSecond_x2, if_neg c11]) _ _ _ G (lv_sub hl [0] rfl)
    refine lv_icmp_eq (tgt := 18) hx hb dX7_needsSecond_9 (by decide) (fun c15 => ?_) (fun c15 => ?_)
    · refine lv_iconst (v := 1) hx hb dX7_needsSecond_18 (by decide) ?_
      refine lv_goto (tgt := 23) hx hb dX7_needsSecond_19 (by decide) ?_
      exact J17 1 (by rw [X7_needsSecond_x1, if_pos c15]) _ _ _ G (lv_sub hl [0] rfl)
    · refine lv_iload_n hx hb dX7_needsSecond_12 rfl (lv_at hl 0 rfl) ?_
      refine lv_bipush (v := 64) hx hb dX7_needsSecond_13 (by decide) ?_
      have J21 : ∀ (y20 : Int32) (_ : y20 = (X7_needsSecond_x0 sg)) (H : Heap) (locs : List Loc) (ls : Array Slot), hG D (hA f sz) f s9 H locs → lv_has ls 1 [(0, .int sg)] → W p9 l e9 ({ frames := 0, cells := 0, slots := 0, locals := 0 } : Room) s9 m9 ([.int sg] : List Value).toArray b9 t9 c9 H locs 0 0 (vx_MQ b9 (hQi (fun r u => r = (X7_needsSecond_x2 sg) ∧ u = f) D f sz) (hPx hNo D f sz) ([.int sg] : List Value).toArray s9 0 0 (hA f sz)) (F0 m9 23 ls [.int y20]) := by
        intro y20 ey20 H locs ls G hl
        replace ey20 := Eq.symm ey20
        subst ey20
        exact J17 (X7_needsSecond_x0 sg) (by rw [X7_needsSecond_x1, if_neg c15]) _ _ _ G (lv_sub hl [0] rfl)
      refine lv_icmp_ne (tgt := 22) hx hb dX7_needsSecond_15 (by decide) (fun c19 => ?_) (fun c19 => ?_)
      · refine lv_iconst (v := 0) hx hb dX7_needsSecond_22 (by decide) ?_
        exact J21 0 (by rw [X7_needsSecond_x0, if_neg c19]) _ _ _ G (lv_sub hl [0] rfl)
      · refine lv_iconst (v := 1) hx hb dX7_needsSecond_18 (by decide) ?_
        refine lv_goto (tgt := 23) hx hb dX7_needsSecond_19 (by decide) ?_
        exact J21 1 (by rw [X7_needsSecond_x0, if_pos c19]) _ _ _ G (lv_sub hl [0] rfl)
theorem b_c_X7_needsSecond (sg : Int32) : (X7_needsSecond_x2 sg) = 0 ∨ (X7_needsSecond_x2 sg) = 1 := (by unfold X7_needsSecond_x2; split; exact (Or.inr rfl); exact (by unfold X7_needsSecond_x1; split; exact (Or.inr rfl); exact (by unfold X7_needsSecond_x0; split; exact (Or.inr rfl); exact (Or.inl rfl))))
def X7_isFirst_x0 (sg : Int32) : Int32 := if (X7_needsSecond_x2 sg) = 0 then 0 else 1
def X7_isFirst_x1 (sg : Int32) : Int32 := if (X8_isWithin_x1 sg 49 54) = 0 then (X7_isFirst_x0 sg) else 1
def X7_isFirst_r2 (sg : Int32) : Int32 := if sg = 46 then 1 else (if sg = 67 then 1 else (if sg = 76 then 1 else (if sg = 82 then 1 else (if sg = 87 then 1 else (if sg = 110 then 1 else (if sg = 119 then 1 else (X7_isFirst_x1 sg)))))))
set_option maxRecDepth 100000 in
theorem c_X7_isFirst {l : Launch} (hfl : l.stackTraces = false) {D : va_G} {cy : Nat → ClassId} {f : Hf} {sz : Nat} (sg : Int32)   : hMet l yX7_isFirst cX7_isFirst 1 (some .boolean) { frames := 1, cells := 0, slots := 0, locals := 22 } D (hTy cy) f sz [.int sg] (hQi (fun r u => r = (X7_isFirst_r2 sg) ∧ u = f) D f sz) hNo := by
  refine h_enter (by decide) hfl (Nat.le_of_ble_eq_true rfl) ?_
  intro p9 e9 s9 m9 b9 t9 c9 hsz C0 hr hnm G ls hl
  have hx := C0.1.1
  have hb := C0.1.2.1
  have hl : lv_has ls 1 [(0, .int sg)] := hl
  refine lv_iload_n hx hb dX7_isFirst_0 rfl (lv_at hl 0 rfl) ?_
  by_cases w11 : sg = 46
  · refine lv_lookup (off := 67) (tgt := 68) hx hb dX7_isFirst_1 rfl (by show Op.lookupswitch.offset [(46, 67), (67, 67), (76, 67), (82, 67), (87, 67), (110, 67), (119, 67)] 69 (sg).toInt = 67; rw [w11]; decide) (by decide) ?_
    refine lv_iconst (v := 1) hx hb dX7_isFirst_68 (by decide) ?_
    exact g_zret C0 G hr dX7_isFirst_69 rfl (Nat.le_of_ble_eq_true rfl) (Nat.le_of_ble_eq_true rfl) (by exact ⟨(by rw [X7_isFirst_r2, if_pos w11]), rfl⟩)
  rename ¬ sg = 46 => nw11
  by_cases w12 : sg = 67
  · refine lv_lookup (off := 67) (tgt := 68) hx hb dX7_isFirst_1 rfl (by show Op.lookupswitch.offset [(46, 67), (67, 67), (76, 67), (82, 67), (87, 67), (110, 67), (119, 67)] 69 (sg).toInt = 67; rw [lv_osw nw11 (by decide)]; rw [w12]; decide) (by decide) ?_
    refine lv_iconst (v := 1) hx hb dX7_isFirst_68 (by decide) ?_
    exact g_zret C0 G hr dX7_isFirst_69 rfl (Nat.le_of_ble_eq_true rfl) (Nat.le_of_ble_eq_true rfl) (by exact ⟨(by rw [X7_isFirst_r2, if_neg nw11, if_pos w12]), rfl⟩)
  rename ¬ sg = 67 => nw12
  by_cases w13 : sg = 76
  · refine lv_lookup (off := 67) (tgt := 68) hx hb dX7_isFirst_1 rfl (by show Op.lookupswitch.offset [(46, 67), (67, 67), (76, 67), (82, 67), (87, 67), (110, 67), (119, 67)] 69 (sg).toInt = 67; rw [lv_osw nw11 (by decide), lv_osw nw12 (by decide)]; rw [w13]; decide) (by decide) ?_
    refine lv_iconst (v := 1) hx hb dX7_isFirst_68 (by decide) ?_
    exact g_zret C0 G hr dX7_isFirst_69 rfl (Nat.le_of_ble_eq_true rfl) (Nat.le_of_ble_eq_true rfl) (by exact ⟨(by rw [X7_isFirst_r2, if_neg nw11, if_neg nw12, if_pos w13]), rfl⟩)
  rename ¬ sg = 76 => nw13
  by_cases w14 : sg = 82
  · refine lv_lookup (off := 67) (tgt := 68) hx hb dX7_isFirst_1 rfl (by show Op.lookupswitch.offset [(46, 67), (67, 67), (76, 67), (82, 67), (87, 67), (110, 67), (119, 67)] 69 (sg).toInt = 67; rw [lv_osw nw11 (by decide), lv_osw nw12 (by decide), lv_osw nw13 (by decide)]; rw [w14]; decide) (by decide) ?_
    refine lv_iconst (v := 1) hx hb dX7_isFirst_68 (by decide) ?_
    exact g_zret C0 G hr dX7_isFirst_69 rfl (Nat.le_of_ble_eq_true rfl) (Nat.le_of_ble_eq_true rfl) (by exact ⟨(by rw [X7_isFirst_r2, if_neg nw11, if_neg nw12, if_neg nw13, if_pos w14]), rfl⟩)
  rename ¬ sg = 82 => nw14
  by_cases w15 : sg = 87
  · refine lv_lookup (off := 67) (tgt := 68) hx hb dX7_isFirst_1 rfl (by show Op.lookupswitch.offset [(46, 67), (67, 67), (76, 67), (82, 67), (87, 67), (110, 67), (119, 67)] 69 (sg).toInt = 67; rw [lv_osw nw11 (by decide), lv_osw nw12 (by decide), lv_osw nw13 (by decide), lv_osw nw14 (by decide)]; rw [w15]; decide) (by decide) ?_
    refine lv_iconst (v := 1) hx hb dX7_isFirst_68 (by decide) ?_
    exact g_zret C0 G hr dX7_isFirst_69 rfl (Nat.le_of_ble_eq_true rfl) (Nat.le_of_ble_eq_true rfl) (by exact ⟨(by rw [X7_isFirst_r2, if_neg nw11, if_neg nw12, if_neg nw13, if_neg nw14, if_pos w15]), rfl⟩)
  rename ¬ sg = 87 => nw15
  by_cases w16 : sg = 110
  · refine lv_lookup (off := 67) (tgt := 68) hx hb dX7_isFirst_1 rfl (by show Op.lookupswitch.offset [(46, 67), (67, 67), (76, 67), (82, 67), (87, 67), (110, 67), (119, 67)] 69 (sg).toInt = 67; rw [lv_osw nw11 (by decide), lv_osw nw12 (by decide), lv_osw nw13 (by decide), lv_osw nw14 (by decide), lv_osw nw15 (by decide)]; rw [w16]; decide) (by decide) ?_
    refine lv_iconst (v := 1) hx hb dX7_isFirst_68 (by decide) ?_
    exact g_zret C0 G hr dX7_isFirst_69 rfl (Nat.le_of_ble_eq_true rfl) (Nat.le_of_ble_eq_true rfl) (by exact ⟨(by rw [X7_isFirst_r2, if_neg nw11, if_neg nw12, if_neg nw13, if_neg nw14, if_neg nw15, if_pos w16]), rfl⟩)
  rename ¬ sg = 110 => nw16
  by_cases w17 : sg = 119
  · refine lv_lookup (off := 67) (tgt := 68) hx hb dX7_isFirst_1 rfl (by show Op.lookupswitch.offset [(46, 67), (67, 67), (76, 67), (82, 67), (87, 67), (110, 67), (119, 67)] 69 (sg).toInt = 67; rw [lv_osw nw11 (by decide), lv_osw nw12 (by decide), lv_osw nw13 (by decide), lv_osw nw14 (by decide), lv_osw nw15 (by decide), lv_osw nw16 (by decide)]; rw [w17]; decide) (by decide) ?_
    refine lv_iconst (v := 1) hx hb dX7_isFirst_68 (by decide) ?_
    exact g_zret C0 G hr dX7_isFirst_69 rfl (Nat.le_of_ble_eq_true rfl) (Nat.le_of_ble_eq_true rfl) (by exact ⟨(by rw [X7_isFirst_r2, if_neg nw11, if_neg nw12, if_neg nw13, if_neg nw14, if_neg nw15, if_neg nw16, if_pos w17]), rfl⟩)
  rename ¬ sg = 119 => nw17
  refine lv_lookup (off := 69) (tgt := 70) hx hb dX7_isFirst_1 rfl (by show Op.lookupswitch.offset [(46, 67), (67, 67), (76, 67), (82, 67), (87, 67), (110, 67), (119, 67)] 69 (sg).toInt = 69; rw [lv_osw nw11 (by decide), lv_osw nw12 (by decide), lv_osw nw13 (by decide), lv_osw nw14 (by decide), lv_osw nw15 (by decide), lv_osw nw16 (by decide), lv_osw nw17 (by decide)]; rfl) (by decide) ?_
  refine lv_iload_n hx hb dX7_isFirst_70 rfl (lv_at hl 0 rfl) ?_
  refine lv_bipush (v := 49) hx hb dX7_isFirst_71 (by decide) ?_
  refine lv_bipush (v := 54) hx hb dX7_isFirst_73 (by decide) ?_
  refine g_cI C0 G (g_runSN C0 G (rest := []) (c_X8_isWithin hfl sg 49 54 ) hY_X8_isWithin mq_X7_50 ms_X8_isWithin ⟨(Nat.le_of_ble_eq_true rfl), (Nat.le_of_ble_eq_true rfl)⟩ rfl hl.1 rfl (Nat.le_of_ble_eq_true rfl) dX7_isFirst_75 ⟨(Nat.le_of_ble_eq_true rfl), (Nat.le_of_ble_eq_true rfl)⟩) (kx_no rfl) (fun r20 u19 H locs hp18 G => ?_)
  obtain ⟨er21, eu19⟩ := hp18
  rw [eu19] at G
  refine lv_topv (v := (X8_isWithin_x1 sg 49 54)) er21 ?_
  have J24 : ∀ (y23 : Int32) (_ : y23 = (X7_isFirst_x1 sg)) (H : Heap) (locs : List Loc) (ls : Array Slot), hG D (hA f sz) f s9 H locs → lv_has ls 1 [(0, .int sg)] → W p9 l e9 ({ frames := 1, cells := 0, slots := 0, locals := 22 } : Room) s9 m9 ([.int sg] : List Value).toArray b9 t9 c9 H locs 0 0 (vx_MQ b9 (hQi (fun r u => r = (X7_isFirst_r2 sg) ∧ u = f) D f sz) (hPx hNo D f sz) ([.int sg] : List Value).toArray s9 0 0 (hA f sz)) (F0 m9 93 ls [.int y23]) := by
    intro y23 ey23 H locs ls G hl
    replace ey23 := Eq.symm ey23
    subst ey23
    exact g_zret C0 G hr dX7_isFirst_93 (hZb (by unfold X7_isFirst_x1; split; exact (by unfold X7_isFirst_x0; split; exact (Or.inl rfl); exact (Or.inr rfl)); exact (Or.inr rfl))) (Nat.le_of_ble_eq_true rfl) (Nat.le_of_ble_eq_true rfl) (by exact ⟨(by rw [X7_isFirst_r2, if_neg nw11, if_neg nw12, if_neg nw13, if_neg nw14, if_neg nw15, if_neg nw16, if_neg nw17]), rfl⟩)
  refine lv_if_ne (tgt := 88) hx hb dX7_isFirst_78 (by decide) (fun c22 => ?_) (fun c22 => ?_)
  · refine lv_iconst (v := 1) hx hb dX7_isFirst_88 (by decide) ?_
    refine lv_goto (tgt := 93) hx hb dX7_isFirst_89 (by decide) ?_
    exact J24 1 (by rw [X7_isFirst_x1, if_neg c22]) _ _ _ G (lv_sub hl [0] rfl)
  · refine lv_iload_n hx hb dX7_isFirst_81 rfl (lv_at hl 0 rfl) ?_
    refine g_cI C0 G (g_runS C0 G (rest := []) (c_X7_needsSecond hfl sg ) hY_X7_needsSecond mm_X7_54 ms_X7_needsSecond ⟨(Nat.le_of_ble_eq_true rfl), (Nat.le_of_ble_eq_true rfl)⟩ rfl hl.1 rfl (Nat.le_of_ble_eq_true rfl) dX7_isFirst_82 ⟨(Nat.le_of_ble_eq_true rfl), (Nat.le_of_ble_eq_true rfl)⟩) (kx_no rfl) (fun r28 u27 H locs hp26 G => ?_)
    obtain ⟨er29, eu27⟩ := hp26
    rw [eu27] at G
    refine lv_topv (v := (X7_needsSecond_x2 sg)) er29 ?_
    have J32 : ∀ (y31 : Int32) (_ : y31 = (X7_isFirst_x0 sg)) (H : Heap) (locs : List Loc) (ls : Array Slot), hG D (hA f sz) f s9 H locs → lv_has ls 1 [(0, .int sg)] → W p9 l e9 ({ frames := 1, cells := 0, slots := 0, locals := 22 } : Room) s9 m9 ([.int sg] : List Value).toArray b9 t9 c9 H locs 0 0 (vx_MQ b9 (hQi (fun r u => r = (X7_isFirst_r2 sg) ∧ u = f) D f sz) (hPx hNo D f sz) ([.int sg] : List Value).toArray s9 0 0 (hA f sz)) (F0 m9 93 ls [.int y31]) := by
      intro y31 ey31 H locs ls G hl
      replace ey31 := Eq.symm ey31
      subst ey31
      exact J24 (X7_isFirst_x0 sg) (by rw [X7_isFirst_x1, if_pos c22]) _ _ _ G (lv_sub hl [0] rfl)
    refine lv_if_eq (tgt := 92) hx hb dX7_isFirst_85 (by decide) (fun c30 => ?_) (fun c30 => ?_)
    · refine lv_iconst (v := 0) hx hb dX7_isFirst_92 (by decide) ?_
      exact J32 0 (by rw [X7_isFirst_x0, if_pos c30]) _ _ _ G (lv_sub hl [0] rfl)
    · refine lv_iconst (v := 1) hx hb dX7_isFirst_88 (by decide) ?_
      refine lv_goto (tgt := 93) hx hb dX7_isFirst_89 (by decide) ?_
      exact J32 1 (by rw [X7_isFirst_x0, if_neg c30]) _ _ _ G (lv_sub hl [0] rfl)
theorem b_c_X7_isFirst (sg : Int32) : (X7_isFirst_r2 sg) = 0 ∨ (X7_isFirst_r2 sg) = 1 := (by unfold X7_isFirst_r2; split; exact (Or.inr rfl); exact (by split; exact (Or.inr rfl); exact (by split; exact (Or.inr rfl); exact (by split; exact (Or.inr rfl); exact (by split; exact (Or.inr rfl); exact (by split; exact (Or.inr rfl); exact (by split; exact (Or.inr rfl); exact (by unfold X7_isFirst_x1; split; exact (by unfold X7_isFirst_x0; split; exact (Or.inl rfl); exact (Or.inr rfl)); exact (Or.inr rfl)))))))))
def X7_leastSecond_n0 (sg : Int32) : Nat := if sg = 64 then 97 else 49
def X7_leastSecond_r1 (sg : Int32) : Int32 := nI (X7_leastSecond_n0 sg)
set_option maxRecDepth 100000 in
theorem c_X7_leastSecond {l : Launch} (hfl : l.stackTraces = false) {D : va_G} {cy : Nat → ClassId} {f : Hf} {sz : Nat} (sg : Int32)   : hMet l yX7_leastSecond cX7_leastSecond 1 (some .int) { frames := 0, cells := 0, slots := 0, locals := 0 } D (hTy cy) f sz [.int sg] (hQi (fun r u => r = (X7_leastSecond_r1 sg) ∧ u = f) D f sz) hNo := by
  refine h_enter (by decide) hfl (Nat.le_of_ble_eq_true rfl) ?_
  intro p9 e9 s9 m9 b9 t9 c9 hsz C0 hr hnm G ls hl
  have hx := C0.1.1
  have hb := C0.1.2.1
  have hl : lv_has ls 1 [(0, .int sg)] := hl
  refine lv_iload_n hx hb dX7_leastSecond_0 rfl (lv_at hl 0 rfl) ?_
  refine lv_bipush (v := 64) hx hb dX7_leastSecond_1 (by decide) ?_
  have J13 : ∀ (y12 : Int32) (_ : y12 = nI (X7_leastSecond_n0 sg)) (H : Heap) (locs : List Loc) (ls : Array Slot), hG D (hA f sz) f s9 H locs → lv_has ls 1 [(0, .int sg)] → W p9 l e9 ({ frames := 0, cells := 0, slots := 0, locals := 0 } : Room) s9 m9 ([.int sg] : List Value).toArray b9 t9 c9 H locs 0 0 (vx_MQ b9 (hQi (fun r u => r = (X7_leastSecond_r1 sg) ∧ u = f) D f sz) (hPx hNo D f sz) ([.int sg] : List Value).toArray s9 0 0 (hA f sz)) (F0 m9 13 ls [.int y12]) := by
    intro y12 ey12 H locs ls G hl
    replace ey12 := Eq.symm ey12
    subst ey12
    have bd15 : (X7_leastSecond_n0 sg) ≤ 97 := by unfold X7_leastSecond_n0; repeat (first | omega | split)
    exact g_iret C0 G hr dX7_leastSecond_13 (Nat.le_of_ble_eq_true rfl) (Nat.le_of_ble_eq_true rfl) (by exact ⟨(by rw [X7_leastSecond_r1]), rfl⟩)
  refine lv_icmp_ne (tgt := 11) hx hb dX7_leastSecond_3 (by decide) (fun c11 => ?_) (fun c11 => ?_)
  · refine lv_bipush (v := 49) hx hb dX7_leastSecond_11 (by decide) ?_
    exact J13 49 (by rw [X7_leastSecond_n0, if_neg c11] <;> rfl) _ _ _ G (lv_sub hl [0] rfl)
  · refine lv_bipush (v := 97) hx hb dX7_leastSecond_6 (by decide) ?_
    refine lv_goto (tgt := 13) hx hb dX7_leastSecond_8 (by decide) ?_
    exact J13 97 (by rw [X7_leastSecond_n0, if_pos c11] <;> rfl) _ _ _ G (lv_sub hl [0] rfl)
def X7_mostSecond_r0 (sg : Int32) : Int32 := if sg = 64 then 107 else (if sg = 98 then 52 else (if sg = 108 then 52 else (if sg = 110 then 54 else (if sg = 119 then 52 else 0))))
set_option maxRecDepth 100000 in
theorem c_X7_mostSecond {l : Launch} (hfl : l.stackTraces = false) {D : va_G} {cy : Nat → ClassId} {f : Hf} {sz : Nat} (sg : Int32)   : hMet l yX7_mostSecond cX7_mostSecond 1 (some .int) { frames := 0, cells := 0, slots := 0, locals := 0 } D (hTy cy) f sz [.int sg] (hQi (fun r u => r = (X7_mostSecond_r0 sg) ∧ u = f) D f sz) hNo := by
  refine h_enter (by decide) hfl (Nat.le_of_ble_eq_true rfl) ?_
  intro p9 e9 s9 m9 b9 t9 c9 hsz C0 hr hnm G ls hl
  have hx := C0.1.1
  have hb := C0.1.2.1
  have hl : lv_has ls 1 [(0, .int sg)] := hl
  refine lv_iload_n hx hb dX7_mostSecond_0 rfl (lv_at hl 0 rfl) ?_
  by_cases w11 : sg = 64
  · refine lv_lookup (off := 57) (tgt := 58) hx hb dX7_mostSecond_1 rfl (by show Op.lookupswitch.offset [(64, 57), (98, 51), (108, 51), (110, 54), (119, 51)] 60 (sg).toInt = 57; rw [w11]; decide) (by decide) ?_
    refine lv_bipush (v := 107) hx hb dX7_mostSecond_58 (by decide) ?_
    exact g_iret C0 G hr dX7_mostSecond_60 (Nat.le_of_ble_eq_true rfl) (Nat.le_of_ble_eq_true rfl) (by exact ⟨(by rw [X7_mostSecond_r0, if_pos w11]), rfl⟩)
  rename ¬ sg = 64 => nw11
  by_cases w12 : sg = 98
  · refine lv_lookup (off := 51) (tgt := 52) hx hb dX7_mostSecond_1 rfl (by show Op.lookupswitch.offset [(64, 57), (98, 51), (108, 51), (110, 54), (119, 51)] 60 (sg).toInt = 51; rw [lv_osw nw11 (by decide)]; rw [w12]; decide) (by decide) ?_
    refine lv_bipush (v := 52) hx hb dX7_mostSecond_52 (by decide) ?_
    exact g_iret C0 G hr dX7_mostSecond_54 (Nat.le_of_ble_eq_true rfl) (Nat.le_of_ble_eq_true rfl) (by exact ⟨(by rw [X7_mostSecond_r0, if_neg nw11, if_pos w12]), rfl⟩)
  rename ¬ sg = 98 => nw12
  by_cases w13 : sg = 108
  · refine lv_lookup (off := 51) (tgt := 52) hx hb dX7_mostSecond_1 rfl (by show Op.lookupswitch.offset [(64, 57), (98, 51), (108, 51), (110, 54), (119, 51)] 60 (sg).toInt = 51; rw [lv_osw nw11 (by decide), lv_osw nw12 (by decide)]; rw [w13]; decide) (by decide) ?_
    refine lv_bipush (v := 52) hx hb dX7_mostSecond_52 (by decide) ?_
    exact g_iret C0 G hr dX7_mostSecond_54 (Nat.le_of_ble_eq_true rfl) (Nat.le_of_ble_eq_true rfl) (by exact ⟨(by rw [X7_mostSecond_r0, if_neg nw11, if_neg nw12, if_pos w13]), rfl⟩)
  rename ¬ sg = 108 => nw13
  by_cases w14 : sg = 110
  · refine lv_lookup (off := 54) (tgt := 55) hx hb dX7_mostSecond_1 rfl (by show Op.lookupswitch.offset [(64, 57), (98, 51), (108, 51), (110, 54), (119, 51)] 60 (sg).toInt = 54; rw [lv_osw nw11 (by decide), lv_osw nw12 (by decide), lv_osw nw13 (by decide)]; rw [w14]; decide) (by decide) ?_
    refine lv_bipush (v := 54) hx hb dX7_mostSecond_55 (by decide) ?_
    exact g_iret C0 G hr dX7_mostSecond_57 (Nat.le_of_ble_eq_true rfl) (Nat.le_of_ble_eq_true rfl) (by exact ⟨(by rw [X7_mostSecond_r0, if_neg nw11, if_neg nw12, if_neg nw13, if_pos w14]), rfl⟩)
  rename ¬ sg = 110 => nw14
  by_cases w15 : sg = 119
  · refine lv_lookup (off := 51) (tgt := 52) hx hb dX7_mostSecond_1 rfl (by show Op.lookupswitch.offset [(64, 57), (98, 51), (108, 51), (110, 54), (119, 51)] 60 (sg).toInt = 51; rw [lv_osw nw11 (by decide), lv_osw nw12 (by decide), lv_osw nw13 (by decide), lv_osw nw14 (by decide)]; rw [w15]; decide) (by decide) ?_
    refine lv_bipush (v := 52) hx hb dX7_mostSecond_52 (by decide) ?_
    exact g_iret C0 G hr dX7_mostSecond_54 (Nat.le_of_ble_eq_true rfl) (Nat.le_of_ble_eq_true rfl) (by exact ⟨(by rw [X7_mostSecond_r0, if_neg nw11, if_neg nw12, if_neg nw13, if_neg nw14, if_pos w15]), rfl⟩)
  rename ¬ sg = 119 => nw15
  refine lv_lookup (off := 60) (tgt := 61) hx hb dX7_mostSecond_1 rfl (by show Op.lookupswitch.offset [(64, 57), (98, 51), (108, 51), (110, 54), (119, 51)] 60 (sg).toInt = 60; rw [lv_osw nw11 (by decide), lv_osw nw12 (by decide), lv_osw nw13 (by decide), lv_osw nw14 (by decide), lv_osw nw15 (by decide)]; rfl) (by decide) ?_
  refine lv_iconst (v := 0) hx hb dX7_mostSecond_61 (by decide) ?_
  exact g_iret C0 G hr dX7_mostSecond_62 (Nat.le_of_ble_eq_true rfl) (Nat.le_of_ble_eq_true rfl) (by exact ⟨(by rw [X7_mostSecond_r0, if_neg nw11, if_neg nw12, if_neg nw13, if_neg nw14, if_neg nw15]), rfl⟩)
def X7_pair_x0 (sg : Int32) : Int32 := if sg = 64 then 1 else 2
def X7_pair_x1 (sg : Int32) (nx : Int32) : Int32 := if sg = 64 then (nx - 97) else 0
def X7_pair_x2 (sg : Int32) : Int32 := if sg = 64 then 0 else (if sg = 98 then 3 else (if sg = 110 then 2 else (if sg = 119 then 1 else 4)))
def X7_pair_x3 (sg : Int32) (nx : Int32) : Int32 := if sg = 64 then 0 else (nx - 48)
def X7_pair_x4 (sg : Int32) (nx : Int32) : Int32 := if sg = 64 then 0 else (if sg = 98 then 0 else (if sg = 110 then (X8_canBeBoundary_x3 2 (nx - 48)) else 0))
set_option maxRecDepth 100000 in
theorem c_X7_pair {l : Launch} (hfl : l.stackTraces = false) {D : va_G} {cy : Nat → ClassId} {f : Hf} {sz : Nat} (sg : Int32) (nx : Int32)   : hMet l yX7_pair cX7_pair 3 (some (.object "WicketScorer$Step")) { frames := 3, cells := 1, slots := 9, locals := 56 } D (hTy cy) f sz [.int sg, .int nx] (hQr (fun r u => f r = none ∧ u r = some (.inr (7, [.int (X7_pair_x0 sg), .int (X7_pair_x1 sg nx), .int 0, .int (X7_pair_x2 sg), .int (X7_pair_x3 sg nx), .int 0, .int (X7_pair_x4 sg nx), .int 0, .int 0])) ∧ hFrL f u []) D f sz) hNo := by
  refine h_enter (by decide) hfl (Nat.le_of_ble_eq_true rfl) ?_
  intro p9 e9 s9 m9 b9 t9 c9 hsz C0 hr hnm G ls hl
  have hx := C0.1.1
  have hb := C0.1.2.1
  have hl : lv_has ls 3 [(0, .int sg), (1, .int nx)] := hl
  refine lv_iload_n hx hb dX7_pair_0 rfl (lv_at hl 1 rfl) ?_
  refine lv_bipush (v := 48) hx hb dX7_pair_1 (by decide) ?_
  refine lv_isub hx hb dX7_pair_3 ?_
  refine lv_istore_n (lv' := [(2, .int (nx - 48)), (0, .int sg), (1, .int nx)]) hx hb dX7_pair_4 rfl hl (by decide) rfl (fun ls hl => ?_)
  refine lv_iload_n hx hb dX7_pair_5 rfl (lv_at hl 1 rfl) ?_
  by_cases w11 : sg = 64
  · refine lv_lookup (off := 42) (tgt := 48) hx hb dX7_pair_6 rfl (by show Op.lookupswitch.offset [(64, 42), (98, 69), (110, 58), (119, 51)] 76 (sg).toInt = 42; rw [w11]; decide) (by decide) ?_
    refine lv_iconst (v := 1) hx hb dX7_pair_48 (by decide) ?_
    refine lv_iload_n hx hb dX7_pair_49 rfl (lv_at hl 2 rfl) ?_
    refine lv_bipush (v := 97) hx hb dX7_pair_50 (by decide) ?_
    refine lv_isub hx hb dX7_pair_52 ?_
    refine g_cR C0 G (g_runS C0 G (rest := []) (c_X5_ofNumber hfl 1 (nx - 97) ) hY_X5_ofNumber mm_X7_69 ms_X5_ofNumber ⟨(Nat.le_of_ble_eq_true rfl), (Nat.le_of_ble_eq_true rfl)⟩ rfl hl.1 rfl (Nat.le_of_ble_eq_true rfl) dX7_pair_53 ⟨(Nat.le_of_ble_eq_true rfl), (Nat.le_of_ble_eq_true rfl)⟩) (kx_no rfl) (fun a17 u16 H locs hp15 G => ?_)
    obtain ⟨nn18, k19, fr20⟩ := hp15
    exact g_aret C0 G hr dX7_pair_56 (Nat.le_of_ble_eq_true rfl) (Nat.le_of_ble_eq_true rfl) (by exact ⟨nn18, (by rw [(by rw [X7_pair_x0, if_pos w11] : (X7_pair_x0 sg) = 1), (by rw [X7_pair_x1, if_pos w11] : (X7_pair_x1 sg nx) = (nx - 97)), (by rw [X7_pair_x2, if_pos w11] : (X7_pair_x2 sg) = 0), (by rw [X7_pair_x3, if_pos w11] : (X7_pair_x3 sg nx) = 0), (by rw [X7_pair_x4, if_pos w11] : (X7_pair_x4 sg nx) = 0)]; exact k19), (fun a9 e9 h7 h8 => fr20 _ _ (by simp) (h8))⟩)
  rename ¬ sg = 64 => nw11
  by_cases w12 : sg = 98
  · refine lv_lookup (off := 69) (tgt := 75) hx hb dX7_pair_6 rfl (by show Op.lookupswitch.offset [(64, 42), (98, 69), (110, 58), (119, 51)] 76 (sg).toInt = 69; rw [lv_osw nw11 (by decide)]; rw [w12]; decide) (by decide) ?_
    refine lv_iconst (v := 3) hx hb dX7_pair_75 (by decide) ?_
    refine lv_iload_n hx hb dX7_pair_76 rfl (lv_at hl 0 rfl) ?_
    refine lv_iconst (v := 0) hx hb dX7_pair_77 (by decide) ?_
    refine g_cR C0 G (g_runS C0 G (rest := []) (c_X5_ofBall hfl 3 (nx - 48) 0  (Or.inl rfl)) hY_X5_ofBall mm_X7_73 ms_X5_ofBall ⟨(Nat.le_of_ble_eq_true rfl), (Nat.le_of_ble_eq_true rfl)⟩ rfl hl.1 rfl (Nat.le_of_ble_eq_true rfl) dX7_pair_78 ⟨(Nat.le_of_ble_eq_true rfl), (Nat.le_of_ble_eq_true rfl)⟩) (kx_no rfl) (fun a23 u22 H locs hp21 G => ?_)
    obtain ⟨nn24, k25, fr26⟩ := hp21
    exact g_aret C0 G hr dX7_pair_81 (Nat.le_of_ble_eq_true rfl) (Nat.le_of_ble_eq_true rfl) (by exact ⟨nn24, (by rw [(by rw [X7_pair_x0, if_neg nw11] : (X7_pair_x0 sg) = 2), (by rw [X7_pair_x1, if_neg nw11] : (X7_pair_x1 sg nx) = 0), (by rw [X7_pair_x2, if_neg nw11, if_pos w12] : (X7_pair_x2 sg) = 3), (by rw [X7_pair_x3, if_neg nw11] : (X7_pair_x3 sg nx) = (nx - 48)), (by rw [X7_pair_x4, if_neg nw11, if_pos w12] : (X7_pair_x4 sg nx) = 0)]; exact k25), (fun a9 e9 h7 h8 => fr26 _ _ (by simp) (h8))⟩)
  rename ¬ sg = 98 => nw12
  by_cases w13 : sg = 110
  · refine lv_lookup (off := 58) (tgt := 64) hx hb dX7_pair_6 rfl (by show Op.lookupswitch.offset [(64, 42), (98, 69), (110, 58), (119, 51)] 76 (sg).toInt = 58; rw [lv_osw nw11 (by decide), lv_osw nw12 (by decide)]; rw [w13]; decide) (by decide) ?_
    refine lv_iconst (v := 2) hx hb dX7_pair_64 (by decide) ?_
    refine lv_iload_n hx hb dX7_pair_65 rfl (lv_at hl 0 rfl) ?_
    refine lv_iconst (v := 2) hx hb dX7_pair_66 (by decide) ?_
    refine lv_iload_n hx hb dX7_pair_67 rfl (lv_at hl 0 rfl) ?_
    refine g_cI C0 G (g_runSN C0 G (rest := [.int (nx - 48), .int 2]) (c_X8_canBeBoundary hfl 2 (nx - 48) ) hY_X8_canBeBoundary mq_X7_77 ms_X8_canBeBoundary ⟨(Nat.le_of_ble_eq_true rfl), (Nat.le_of_ble_eq_true rfl)⟩ rfl hl.1 rfl (Nat.le_of_ble_eq_true rfl) dX7_pair_68 ⟨(Nat.le_of_ble_eq_true rfl), (Nat.le_of_ble_eq_true rfl)⟩) (kx_no rfl) (fun r29 u28 H locs hp27 G => ?_)
    obtain ⟨er30, eu28⟩ := hp27
    rw [eu28] at G
    refine lv_topv (v := (X8_canBeBoundary_x3 2 (nx - 48))) er30 ?_
    refine g_cR C0 G (g_runS C0 G (rest := []) (c_X5_ofBall hfl 2 (nx - 48) (X8_canBeBoundary_x3 2 (nx - 48))  (b_c_X8_canBeBoundary 2 (nx - 48))) hY_X5_ofBall mm_X7_73 ms_X5_ofBall ⟨(Nat.le_of_ble_eq_true rfl), (Nat.le_of_ble_eq_true rfl)⟩ rfl hl.1 rfl (Nat.le_of_ble_eq_true rfl) dX7_pair_71 ⟨(Nat.le_of_ble_eq_true rfl), (Nat.le_of_ble_eq_true rfl)⟩) (kx_no rfl) (fun a33 u32 H locs hp31 G => ?_)
    obtain ⟨nn34, k35, fr36⟩ := hp31
    exact g_aret C0 G hr dX7_pair_74 (Nat.le_of_ble_eq_true rfl) (Nat.le_of_ble_eq_true rfl) (by exact ⟨nn34, (by rw [(by rw [X7_pair_x0, if_neg nw11] : (X7_pair_x0 sg) = 2), (by rw [X7_pair_x1, if_neg nw11] : (X7_pair_x1 sg nx) = 0), (by rw [X7_pair_x2, if_neg nw11, if_neg nw12, if_pos w13] : (X7_pair_x2 sg) = 2), (by rw [X7_pair_x3, if_neg nw11] : (X7_pair_x3 sg nx) = (nx - 48)), (by rw [X7_pair_x4, if_neg nw11, if_neg nw12, if_pos w13] : (X7_pair_x4 sg nx) = (X8_canBeBoundary_x3 2 (nx - 48)))]; exact k35), (fun a9 e9 h7 h8 => fr36 _ _ (by simp) (h8))⟩)
  rename ¬ sg = 110 => nw13
  by_cases w14 : sg = 119
  · refine lv_lookup (off := 51) (tgt := 57) hx hb dX7_pair_6 rfl (by show Op.lookupswitch.offset [(64, 42), (98, 69), (110, 58), (119, 51)] 76 (sg).toInt = 51; rw [lv_osw nw11 (by decide), lv_osw nw12 (by decide), lv_osw nw13 (by decide)]; rw [w14]; decide) (by decide) ?_
    refine lv_iconst (v := 1) hx hb dX7_pair_57 (by decide) ?_
    refine lv_iload_n hx hb dX7_pair_58 rfl (lv_at hl 0 rfl) ?_
    refine lv_iconst (v := 0) hx hb dX7_pair_59 (by decide) ?_
    refine g_cR C0 G (g_runS C0 G (rest := []) (c_X5_ofBall hfl 1 (nx - 48) 0  (Or.inl rfl)) hY_X5_ofBall mm_X7_73 ms_X5_ofBall ⟨(Nat.le_of_ble_eq_true rfl), (Nat.le_of_ble_eq_true rfl)⟩ rfl hl.1 rfl (Nat.le_of_ble_eq_true rfl) dX7_pair_60 ⟨(Nat.le_of_ble_eq_true rfl), (Nat.le_of_ble_eq_true rfl)⟩) (kx_no rfl) (fun a39 u38 H locs hp37 G => ?_)
    obtain ⟨nn40, k41, fr42⟩ := hp37
    exact g_aret C0 G hr dX7_pair_63 (Nat.le_of_ble_eq_true rfl) (Nat.le_of_ble_eq_true rfl) (by exact ⟨nn40, (by rw [(by rw [X7_pair_x0, if_neg nw11] : (X7_pair_x0 sg) = 2), (by rw [X7_pair_x1, if_neg nw11] : (X7_pair_x1 sg nx) = 0), (by rw [X7_pair_x2, if_neg nw11, if_neg nw12, if_neg nw13, if_pos w14] : (X7_pair_x2 sg) = 1), (by rw [X7_pair_x3, if_neg nw11] : (X7_pair_x3 sg nx) = (nx - 48)), (by rw [X7_pair_x4, if_neg nw11, if_neg nw12, if_neg nw13] : (X7_pair_x4 sg nx) = 0)]; exact k41), (fun a9 e9 h7 h8 => fr42 _ _ (by simp) (h8))⟩)
  rename ¬ sg = 119 => nw14
  refine lv_lookup (off := 76) (tgt := 82) hx hb dX7_pair_6 rfl (by show Op.lookupswitch.offset [(64, 42), (98, 69), (110, 58), (119, 51)] 76 (sg).toInt = 76; rw [lv_osw nw11 (by decide), lv_osw nw12 (by decide), lv_osw nw13 (by decide), lv_osw nw14 (by decide)]; rfl) (by decide) ?_
  refine lv_iconst (v := 4) hx hb dX7_pair_82 (by decide) ?_
  refine lv_iload_n hx hb dX7_pair_83 rfl (lv_at hl 0 rfl) ?_
  refine lv_iconst (v := 0) hx hb dX7_pair_84 (by decide) ?_
  refine g_cR C0 G (g_runS C0 G (rest := []) (c_X5_ofBall hfl 4 (nx - 48) 0  (Or.inl rfl)) hY_X5_ofBall mm_X7_73 ms_X5_ofBall ⟨(Nat.le_of_ble_eq_true rfl), (Nat.le_of_ble_eq_true rfl)⟩ rfl hl.1 rfl (Nat.le_of_ble_eq_true rfl) dX7_pair_85 ⟨(Nat.le_of_ble_eq_true rfl), (Nat.le_of_ble_eq_true rfl)⟩) (kx_no rfl) (fun a45 u44 H locs hp43 G => ?_)
  obtain ⟨nn46, k47, fr48⟩ := hp43
  exact g_aret C0 G hr dX7_pair_88 (Nat.le_of_ble_eq_true rfl) (Nat.le_of_ble_eq_true rfl) (by exact ⟨nn46, (by rw [(by rw [X7_pair_x0, if_neg nw11] : (X7_pair_x0 sg) = 2), (by rw [X7_pair_x1, if_neg nw11] : (X7_pair_x1 sg nx) = 0), (by rw [X7_pair_x2, if_neg nw11, if_neg nw12, if_neg nw13, if_neg nw14] : (X7_pair_x2 sg) = 4), (by rw [X7_pair_x3, if_neg nw11] : (X7_pair_x3 sg nx) = (nx - 48)), (by rw [X7_pair_x4, if_neg nw11, if_neg nw12, if_neg nw13] : (X7_pair_x4 sg nx) = 0)]; exact k47), (fun a9 e9 h7 h8 => fr48 _ _ (by simp) (h8))⟩)
def X7_single_x0 (sg : Int32) : Int32 := if sg = 46 then 2 else (if sg = 67 then 3 else (if sg = 76 then 3 else (if sg = 82 then 3 else (if sg = 87 then 3 else 2))))
def X7_single_x1 (sg : Int32) : Int32 := if sg = 46 then 0 else (if sg = 67 then 1 else (if sg = 76 then 2 else (if sg = 82 then 5 else 0)))
def X7_single_x2 (sg : Int32) : Int32 := if sg = 46 then 0 else (if sg = 67 then 0 else (if sg = 76 then 0 else (if sg = 82 then 0 else (if sg = 87 then 0 else (if sg = 110 then 2 else (if sg = 119 then 1 else 0))))))
def X7_single_x3 (sg : Int32) : Int32 := if sg = 46 then 0 else (if sg = 67 then 0 else (if sg = 76 then 0 else (if sg = 82 then 0 else (if sg = 87 then 0 else (if sg = 110 then 0 else (if sg = 119 then 0 else (sg - 48)))))))
def X7_single_x4 (sg : Int32) : Int32 := if sg = 46 then 0 else (if sg = 67 then 0 else (if sg = 76 then 0 else (if sg = 82 then 0 else (if sg = 87 then 0 else (if sg = 110 then 0 else (if sg = 119 then 0 else (X8_canBeBoundary_x3 0 (sg - 48))))))))
set_option maxRecDepth 100000 in
theorem c_X7_single {l : Launch} (hfl : l.stackTraces = false) {D : va_G} {cy : Nat → ClassId} {f : Hf} {sz : Nat} (sg : Int32)   : hMet l yX7_single cX7_single 1 (some (.object "WicketScorer$Step")) { frames := 3, cells := 1, slots := 9, locals := 58 } D (hTy cy) f sz [.int sg] (hQr (fun r u => f r = none ∧ u r = some (.inr (7, [.int (X7_single_x0 sg), .int 0, .int (X7_single_x1 sg), .int (X7_single_x2 sg), .int (X7_single_x3 sg), .int 0, .int (X7_single_x4 sg), .int 0, .int 0])) ∧ hFrL f u []) D f sz) hNo := by
  refine h_enter (by decide) hfl (Nat.le_of_ble_eq_true rfl) ?_
  intro p9 e9 s9 m9 b9 t9 c9 hsz C0 hr hnm G ls hl
  have hx := C0.1.1
  have hb := C0.1.2.1
  have hl : lv_has ls 1 [(0, .int sg)] := hl
  refine lv_iload_n hx hb dX7_single_0 rfl (lv_at hl 0 rfl) ?_
  by_cases w11 : sg = 46
  · refine lv_lookup (off := 67) (tgt := 68) hx hb dX7_single_1 rfl (by show Op.lookupswitch.offset [(46, 67), (67, 97), (76, 106), (82, 115), (87, 88), (110, 81), (119, 74)] 124 (sg).toInt = 67; rw [w11]; decide) (by decide) ?_
    refine lv_iconst (v := 0) hx hb dX7_single_68 (by decide) ?_
    refine lv_iconst (v := 0) hx hb dX7_single_69 (by decide) ?_
    refine lv_iconst (v := 0) hx hb dX7_single_70 (by decide) ?_
    refine g_cR C0 G (g_runS C0 G (rest := []) (c_X5_ofBall hfl 0 0 0  (Or.inl rfl)) hY_X5_ofBall mm_X7_73 ms_X5_ofBall ⟨(Nat.le_of_ble_eq_true rfl), (Nat.le_of_ble_eq_true rfl)⟩ rfl hl.1 rfl (Nat.le_of_ble_eq_true rfl) dX7_single_71 ⟨(Nat.le_of_ble_eq_true rfl), (Nat.le_of_ble_eq_true rfl)⟩) (kx_no rfl) (fun a20 u19 H locs hp18 G => ?_)
    obtain ⟨nn21, k22, fr23⟩ := hp18
    exact g_aret C0 G hr dX7_single_74 (Nat.le_of_ble_eq_true rfl) (Nat.le_of_ble_eq_true rfl) (by exact ⟨nn21, (by rw [(by rw [X7_single_x0, if_pos w11] : (X7_single_x0 sg) = 2), (by rw [X7_single_x1, if_pos w11] : (X7_single_x1 sg) = 0), (by rw [X7_single_x2, if_pos w11] : (X7_single_x2 sg) = 0), (by rw [X7_single_x3, if_pos w11] : (X7_single_x3 sg) = 0), (by rw [X7_single_x4, if_pos w11] : (X7_single_x4 sg) = 0)]; exact k22), (fun a9 e9 h7 h8 => fr23 _ _ (by simp) (h8))⟩)
  rename ¬ sg = 46 => nw11
  by_cases w12 : sg = 67
  · refine lv_lookup (off := 97) (tgt := 98) hx hb dX7_single_1 rfl (by show Op.lookupswitch.offset [(46, 67), (67, 97), (76, 106), (82, 115), (87, 88), (110, 81), (119, 74)] 124 (sg).toInt = 97; rw [lv_osw nw11 (by decide)]; rw [w12]; decide) (by decide) ?_
    refine lv_iconst (v := 1) hx hb dX7_single_98 (by decide) ?_
    refine lv_iconst (v := 0) hx hb dX7_single_99 (by decide) ?_
    refine lv_iconst (v := 0) hx hb dX7_single_100 (by decide) ?_
    refine lv_iconst (v := 0) hx hb dX7_single_101 (by decide) ?_
    refine lv_iconst (v := 0) hx hb dX7_single_102 (by decide) ?_
    refine g_cR C0 G (g_runS C0 G (rest := []) (c_X5_ofWicket hfl 1 0 0 0 0  (Or.inl rfl) (Or.inl rfl)) hY_X5_ofWicket mm_X7_81 ms_X5_ofWicket ⟨(Nat.le_of_ble_eq_true rfl), (Nat.le_of_ble_eq_true rfl)⟩ rfl hl.1 rfl (Nat.le_of_ble_eq_true rfl) dX7_single_103 ⟨(Nat.le_of_ble_eq_true rfl), (Nat.le_of_ble_eq_true rfl)⟩) (kx_no rfl) (fun a26 u25 H locs hp24 G => ?_)
    obtain ⟨nn27, k28, fr29⟩ := hp24
    exact g_aret C0 G hr dX7_single_106 (Nat.le_of_ble_eq_true rfl) (Nat.le_of_ble_eq_true rfl) (by exact ⟨nn27, (by rw [(by rw [X7_single_x0, if_neg nw11, if_pos w12] : (X7_single_x0 sg) = 3), (by rw [X7_single_x1, if_neg nw11, if_pos w12] : (X7_single_x1 sg) = 1), (by rw [X7_single_x2, if_neg nw11, if_pos w12] : (X7_single_x2 sg) = 0), (by rw [X7_single_x3, if_neg nw11, if_pos w12] : (X7_single_x3 sg) = 0), (by rw [X7_single_x4, if_neg nw11, if_pos w12] : (X7_single_x4 sg) = 0)]; exact k28), (fun a9 e9 h7 h8 => fr29 _ _ (by simp) (h8))⟩)
  rename ¬ sg = 67 => nw12
  by_cases w13 : sg = 76
  · refine lv_lookup (off := 106) (tgt := 107) hx hb dX7_single_1 rfl (by show Op.lookupswitch.offset [(46, 67), (67, 97), (76, 106), (82, 115), (87, 88), (110, 81), (119, 74)] 124 (sg).toInt = 106; rw [lv_osw nw11 (by decide), lv_osw nw12 (by decide)]; rw [w13]; decide) (by decide) ?_
    refine lv_iconst (v := 2) hx hb dX7_single_107 (by decide) ?_
    refine lv_iconst (v := 0) hx hb dX7_single_108 (by decide) ?_
    refine lv_iconst (v := 0) hx hb dX7_single_109 (by decide) ?_
    refine lv_iconst (v := 0) hx hb dX7_single_110 (by decide) ?_
    refine lv_iconst (v := 0) hx hb dX7_single_111 (by decide) ?_
    refine g_cR C0 G (g_runS C0 G (rest := []) (c_X5_ofWicket hfl 2 0 0 0 0  (Or.inl rfl) (Or.inl rfl)) hY_X5_ofWicket mm_X7_81 ms_X5_ofWicket ⟨(Nat.le_of_ble_eq_true rfl), (Nat.le_of_ble_eq_true rfl)⟩ rfl hl.1 rfl (Nat.le_of_ble_eq_true rfl) dX7_single_112 ⟨(Nat.le_of_ble_eq_true rfl), (Nat.le_of_ble_eq_true rfl)⟩) (kx_no rfl) (fun a32 u31 H locs hp30 G => ?_)
    obtain ⟨nn33, k34, fr35⟩ := hp30
    exact g_aret C0 G hr dX7_single_115 (Nat.le_of_ble_eq_true rfl) (Nat.le_of_ble_eq_true rfl) (by exact ⟨nn33, (by rw [(by rw [X7_single_x0, if_neg nw11, if_neg nw12, if_pos w13] : (X7_single_x0 sg) = 3), (by rw [X7_single_x1, if_neg nw11, if_neg nw12, if_pos w13] : (X7_single_x1 sg) = 2), (by rw [X7_single_x2, if_neg nw11, if_neg nw12, if_pos w13] : (X7_single_x2 sg) = 0), (by rw [X7_single_x3, if_neg nw11, if_neg nw12, if_pos w13] : (X7_single_x3 sg) = 0), (by rw [X7_single_x4, if_neg nw11, if_neg nw12, if_pos w13] : (X7_single_x4 sg) = 0)]; exact k34), (fun a9 e9 h7 h8 => fr35 _ _ (by simp) (h8))⟩)
  rename ¬ sg = 76 => nw13
  by_cases w14 : sg = 82
  · refine lv_lookup (off := 115) (tgt := 116) hx hb dX7_single_1 rfl (by show Op.lookupswitch.offset [(46, 67), (67, 97), (76, 106), (82, 115), (87, 88), (110, 81), (119, 74)] 124 (sg).toInt = 115; rw [lv_osw nw11 (by decide), lv_osw nw12 (by decide), lv_osw nw13 (by decide)]; rw [w14]; decide) (by decide) ?_
    refine lv_iconst (v := 5) hx hb dX7_single_116 (by decide) ?_
    refine lv_iconst (v := 0) hx hb dX7_single_117 (by decide) ?_
    refine lv_iconst (v := 0) hx hb dX7_single_118 (by decide) ?_
    refine lv_iconst (v := 0) hx hb dX7_single_119 (by decide) ?_
    refine lv_iconst (v := 0) hx hb dX7_single_120 (by decide) ?_
    refine g_cR C0 G (g_runS C0 G (rest := []) (c_X5_ofWicket hfl 5 0 0 0 0  (Or.inl rfl) (Or.inl rfl)) hY_X5_ofWicket mm_X7_81 ms_X5_ofWicket ⟨(Nat.le_of_ble_eq_true rfl), (Nat.le_of_ble_eq_true rfl)⟩ rfl hl.1 rfl (Nat.le_of_ble_eq_true rfl) dX7_single_121 ⟨(Nat.le_of_ble_eq_true rfl), (Nat.le_of_ble_eq_true rfl)⟩) (kx_no rfl) (fun a38 u37 H locs hp36 G => ?_)
    obtain ⟨nn39, k40, fr41⟩ := hp36
    exact g_aret C0 G hr dX7_single_124 (Nat.le_of_ble_eq_true rfl) (Nat.le_of_ble_eq_true rfl) (by exact ⟨nn39, (by rw [(by rw [X7_single_x0, if_neg nw11, if_neg nw12, if_neg nw13, if_pos w14] : (X7_single_x0 sg) = 3), (by rw [X7_single_x1, if_neg nw11, if_neg nw12, if_neg nw13, if_pos w14] : (X7_single_x1 sg) = 5), (by rw [X7_single_x2, if_neg nw11, if_neg nw12, if_neg nw13, if_pos w14] : (X7_single_x2 sg) = 0), (by rw [X7_single_x3, if_neg nw11, if_neg nw12, if_neg nw13, if_pos w14] : (X7_single_x3 sg) = 0), (by rw [X7_single_x4, if_neg nw11, if_neg nw12, if_neg nw13, if_pos w14] : (X7_single_x4 sg) = 0)]; exact k40), (fun a9 e9 h7 h8 => fr41 _ _ (by simp) (h8))⟩)
  rename ¬ sg = 82 => nw14
  by_cases w15 : sg = 87
  · refine lv_lookup (off := 88) (tgt := 89) hx hb dX7_single_1 rfl (by show Op.lookupswitch.offset [(46, 67), (67, 97), (76, 106), (82, 115), (87, 88), (110, 81), (119, 74)] 124 (sg).toInt = 88; rw [lv_osw nw11 (by decide), lv_osw nw12 (by decide), lv_osw nw13 (by decide), lv_osw nw14 (by decide)]; rw [w15]; decide) (by decide) ?_
    refine lv_iconst (v := 0) hx hb dX7_single_89 (by decide) ?_
    refine lv_iconst (v := 0) hx hb dX7_single_90 (by decide) ?_
    refine lv_iconst (v := 0) hx hb dX7_single_91 (by decide) ?_
    refine lv_iconst (v := 0) hx hb dX7_single_92 (by decide) ?_
    refine lv_iconst (v := 0) hx hb dX7_single_93 (by decide) ?_
    refine g_cR C0 G (g_runS C0 G (rest := []) (c_X5_ofWicket hfl 0 0 0 0 0  (Or.inl rfl) (Or.inl rfl)) hY_X5_ofWicket mm_X7_81 ms_X5_ofWicket ⟨(Nat.le_of_ble_eq_true rfl), (Nat.le_of_ble_eq_true rfl)⟩ rfl hl.1 rfl (Nat.le_of_ble_eq_true rfl) dX7_single_94 ⟨(Nat.le_of_ble_eq_true rfl), (Nat.le_of_ble_eq_true rfl)⟩) (kx_no rfl) (fun a44 u43 H locs hp42 G => ?_)
    obtain ⟨nn45, k46, fr47⟩ := hp42
    exact g_aret C0 G hr dX7_single_97 (Nat.le_of_ble_eq_true rfl) (Nat.le_of_ble_eq_true rfl) (by exact ⟨nn45, (by rw [(by rw [X7_single_x0, if_neg nw11, if_neg nw12, if_neg nw13, if_neg nw14, if_pos w15] : (X7_single_x0 sg) = 3), (by rw [X7_single_x1, if_neg nw11, if_neg nw12, if_neg nw13, if_neg nw14] : (X7_single_x1 sg) = 0), (by rw [X7_single_x2, if_neg nw11, if_neg nw12, if_neg nw13, if_neg nw14, if_pos w15] : (X7_single_x2 sg) = 0), (by rw [X7_single_x3, if_neg nw11, if_neg nw12, if_neg nw13, if_neg nw14, if_pos w15] : (X7_single_x3 sg) = 0), (by rw [X7_single_x4, if_neg nw11, if_neg nw12, if_neg nw13, if_neg nw14, if_pos w15] : (X7_single_x4 sg) = 0)]; exact k46), (fun a9 e9 h7 h8 => fr47 _ _ (by simp) (h8))⟩)
  rename ¬ sg = 87 => nw15
  by_cases w16 : sg = 110
  · refine lv_lookup (off := 81) (tgt := 82) hx hb dX7_single_1 rfl (by show Op.lookupswitch.offset [(46, 67), (67, 97), (76, 106), (82, 115), (87, 88), (110, 81), (119, 74)] 124 (sg).toInt = 81; rw [lv_osw nw11 (by decide), lv_osw nw12 (by decide), lv_osw nw13 (by decide), lv_osw nw14 (by decide), lv_osw nw15 (by decide)]; rw [w16]; decide) (by decide) ?_
    refine lv_iconst (v := 2) hx hb dX7_single_82 (by decide) ?_
    refine lv_iconst (v := 0) hx hb dX7_single_83 (by decide) ?_
    refine lv_iconst (v := 0) hx hb dX7_single_84 (by decide) ?_
    refine g_cR C0 G (g_runS C0 G (rest := []) (c_X5_ofBall hfl 2 0 0  (Or.inl rfl)) hY_X5_ofBall mm_X7_73 ms_X5_ofBall ⟨(Nat.le_of_ble_eq_true rfl), (Nat.le_of_ble_eq_true rfl)⟩ rfl hl.1 rfl (Nat.le_of_ble_eq_true rfl) dX7_single_85 ⟨(Nat.le_of_ble_eq_true rfl), (Nat.le_of_ble_eq_true rfl)⟩) (kx_no rfl) (fun a50 u49 H locs hp48 G => ?_)
    obtain ⟨nn51, k52, fr53⟩ := hp48
    exact g_aret C0 G hr dX7_single_88 (Nat.le_of_ble_eq_true rfl) (Nat.le_of_ble_eq_true rfl) (by exact ⟨nn51, (by rw [(by rw [X7_single_x0, if_neg nw11, if_neg nw12, if_neg nw13, if_neg nw14, if_neg nw15] : (X7_single_x0 sg) = 2), (by rw [X7_single_x1, if_neg nw11, if_neg nw12, if_neg nw13, if_neg nw14] : (X7_single_x1 sg) = 0), (by rw [X7_single_x2, if_neg nw11, if_neg nw12, if_neg nw13, if_neg nw14, if_neg nw15, if_pos w16] : (X7_single_x2 sg) = 2), (by rw [X7_single_x3, if_neg nw11, if_neg nw12, if_neg nw13, if_neg nw14, if_neg nw15, if_pos w16] : (X7_single_x3 sg) = 0), (by rw [X7_single_x4, if_neg nw11, if_neg nw12, if_neg nw13, if_neg nw14, if_neg nw15, if_pos w16] : (X7_single_x4 sg) = 0)]; exact k52), (fun a9 e9 h7 h8 => fr53 _ _ (by simp) (h8))⟩)
  rename ¬ sg = 110 => nw16
  by_cases w17 : sg = 119
  · refine lv_lookup (off := 74) (tgt := 75) hx hb dX7_single_1 rfl (by show Op.lookupswitch.offset [(46, 67), (67, 97), (76, 106), (82, 115), (87, 88), (110, 81), (119, 74)] 124 (sg).toInt = 74; rw [lv_osw nw11 (by decide), lv_osw nw12 (by decide), lv_osw nw13 (by decide), lv_osw nw14 (by decide), lv_osw nw15 (by decide), lv_osw nw16 (by decide)]; rw [w17]; decide) (by decide) ?_
    refine lv_iconst (v := 1) hx hb dX7_single_75 (by decide) ?_
    refine lv_iconst (v := 0) hx hb dX7_single_76 (by decide) ?_
    refine lv_iconst (v := 0) hx hb dX7_single_77 (by decide) ?_
    refine g_cR C0 G (g_runS C0 G (rest := []) (c_X5_ofBall hfl 1 0 0  (Or.inl rfl)) hY_X5_ofBall mm_X7_73 ms_X5_ofBall ⟨(Nat.le_of_ble_eq_true rfl), (Nat.le_of_ble_eq_true rfl)⟩ rfl hl.1 rfl (Nat.le_of_ble_eq_true rfl) dX7_single_78 ⟨(Nat.le_of_ble_eq_true rfl), (Nat.le_of_ble_eq_true rfl)⟩) (kx_no rfl) (fun a56 u55 H locs hp54 G => ?_)
    obtain ⟨nn57, k58, fr59⟩ := hp54
    exact g_aret C0 G hr dX7_single_81 (Nat.le_of_ble_eq_true rfl) (Nat.le_of_ble_eq_true rfl) (by exact ⟨nn57, (by rw [(by rw [X7_single_x0, if_neg nw11, if_neg nw12, if_neg nw13, if_neg nw14, if_neg nw15] : (X7_single_x0 sg) = 2), (by rw [X7_single_x1, if_neg nw11, if_neg nw12, if_neg nw13, if_neg nw14] : (X7_single_x1 sg) = 0), (by rw [X7_single_x2, if_neg nw11, if_neg nw12, if_neg nw13, if_neg nw14, if_neg nw15, if_neg nw16, if_pos w17] : (X7_single_x2 sg) = 1), (by rw [X7_single_x3, if_neg nw11, if_neg nw12, if_neg nw13, if_neg nw14, if_neg nw15, if_neg nw16, if_pos w17] : (X7_single_x3 sg) = 0), (by rw [X7_single_x4, if_neg nw11, if_neg nw12, if_neg nw13, if_neg nw14, if_neg nw15, if_neg nw16, if_pos w17] : (X7_single_x4 sg) = 0)]; exact k58), (fun a9 e9 h7 h8 => fr59 _ _ (by simp) (h8))⟩)
  rename ¬ sg = 119 => nw17
  refine lv_lookup (off := 124) (tgt := 125) hx hb dX7_single_1 rfl (by show Op.lookupswitch.offset [(46, 67), (67, 97), (76, 106), (82, 115), (87, 88), (110, 81), (119, 74)] 124 (sg).toInt = 124; rw [lv_osw nw11 (by decide), lv_osw nw12 (by decide), lv_osw nw13 (by decide), lv_osw nw14 (by decide), lv_osw nw15 (by decide), lv_osw nw16 (by decide), lv_osw nw17 (by decide)]; rfl) (by decide) ?_
  refine lv_iconst (v := 0) hx hb dX7_single_125 (by decide) ?_
  refine lv_iload_n hx hb dX7_single_126 rfl (lv_at hl 0 rfl) ?_
  refine lv_bipush (v := 48) hx hb dX7_single_127 (by decide) ?_
  refine lv_isub hx hb dX7_single_129 ?_
  refine lv_iconst (v := 0) hx hb dX7_single_130 (by decide) ?_
  refine lv_iload_n hx hb dX7_single_131 rfl (lv_at hl 0 rfl) ?_
  refine lv_bipush (v := 48) hx hb dX7_single_132 (by decide) ?_
  refine lv_isub hx hb dX7_single_134 ?_
  refine g_cI C0 G (g_runSN C0 G (rest := [.int (sg - 48), .int 0]) (c_X8_canBeBoundary hfl 0 (sg - 48) ) hY_X8_canBeBoundary mq_X7_77 ms_X8_canBeBoundary ⟨(Nat.le_of_ble_eq_true rfl), (Nat.le_of_ble_eq_true rfl)⟩ rfl hl.1 rfl (Nat.le_of_ble_eq_true rfl) dX7_single_135 ⟨(Nat.le_of_ble_eq_true rfl), (Nat.le_of_ble_eq_true rfl)⟩) (kx_no rfl) (fun r62 u61 H locs hp60 G => ?_)
  obtain ⟨er63, eu61⟩ := hp60
  rw [eu61] at G
  refine lv_topv (v := (X8_canBeBoundary_x3 0 (sg - 48))) er63 ?_
  refine g_cR C0 G (g_runS C0 G (rest := []) (c_X5_ofBall hfl 0 (sg - 48) (X8_canBeBoundary_x3 0 (sg - 48))  (b_c_X8_canBeBoundary 0 (sg - 48))) hY_X5_ofBall mm_X7_73 ms_X5_ofBall ⟨(Nat.le_of_ble_eq_true rfl), (Nat.le_of_ble_eq_true rfl)⟩ rfl hl.1 rfl (Nat.le_of_ble_eq_true rfl) dX7_single_138 ⟨(Nat.le_of_ble_eq_true rfl), (Nat.le_of_ble_eq_true rfl)⟩) (kx_no rfl) (fun a66 u65 H locs hp64 G => ?_)
  obtain ⟨nn67, k68, fr69⟩ := hp64
  exact g_aret C0 G hr dX7_single_141 (Nat.le_of_ble_eq_true rfl) (Nat.le_of_ble_eq_true rfl) (by exact ⟨nn67, (by rw [(by rw [X7_single_x0, if_neg nw11, if_neg nw12, if_neg nw13, if_neg nw14, if_neg nw15] : (X7_single_x0 sg) = 2), (by rw [X7_single_x1, if_neg nw11, if_neg nw12, if_neg nw13, if_neg nw14] : (X7_single_x1 sg) = 0), (by rw [X7_single_x2, if_neg nw11, if_neg nw12, if_neg nw13, if_neg nw14, if_neg nw15, if_neg nw16, if_neg nw17] : (X7_single_x2 sg) = 0), (by rw [X7_single_x3, if_neg nw11, if_neg nw12, if_neg nw13, if_neg nw14, if_neg nw15, if_neg nw16, if_neg nw17] : (X7_single_x3 sg) = (sg - 48)), (by rw [X7_single_x4, if_neg nw11, if_neg nw12, if_neg nw13, if_neg nw14, if_neg nw15, if_neg nw16, if_neg nw17] : (X7_single_x4 sg) = (X8_canBeBoundary_x3 0 (sg - 48)))]; exact k68), (fun a9 e9 h7 h8 => fr69 _ _ (by simp) (h8))⟩)
