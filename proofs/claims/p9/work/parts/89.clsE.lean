def X2_hasBegun_x0 (nu : Int32) (j9 : Int32) : Int32 := if nu < j9 then 0 else 1
def X2_hasBegun_x1 (nu : Int32) (j9 : Int32) : Int32 := if j9 < 0 then 0 else (X2_hasBegun_x0 nu j9)
def X2_hasBegun_x2 (ex : Int32) (nu : Int32) (j9 : Int32) : Int32 := if ex = 0 then 0 else (X2_hasBegun_x1 nu j9)
set_option maxRecDepth 100000 in
theorem c_X2_hasBegun {l : Launch} (hfl : l.stackTraces = false) {D : va_G} {cy : Nat → ClassId} {f : Hf} {sz : Nat} {A : Nat → Nat} {b : Nat} {ex : Int32} {ov : Int32} {ie : Int32} {fi : Int32} {nu : Int32} {q : Nat → Option Nat} (j9 : Int32) (h_mt : f (A (b + 0)) = some (.inr (4, [.ref (A (b + 1)), .int ex, .int ov, .int ie, .int fi, .int nu]))) (h_al : f (A (b + 1)) = some (.inl (cy 3, 4, .inr (.inr (.inr (.inr q)))))) (hAj : ∀ i j : Nat, i ≠ j → A i ≠ A j) (hq0 : q 0 = some (A (b + 2))) (hq1 : q 1 = some (A (b + 15))) (hq2 : q 2 = some (A (b + 28))) (hq3 : q 3 = some (A (b + 41))) : hMet l yX2_hasBegun cX2_hasBegun 2 (some .boolean) { frames := 0, cells := 0, slots := 0, locals := 0 } D (hTy cy) f sz [.ref (A (b + 0)), .int j9] (hQi (fun r u => r = (X2_hasBegun_x2 ex nu j9) ∧ u = f) D f sz) hNo := by
  refine h_enter (by decide) hfl (Nat.le_of_ble_eq_true rfl) ?_
  intro p9 e9 s9 m9 b9 t9 c9 hsz C0 hr hnm G ls hl
  have hx := C0.1.1
  have hb := C0.1.2.1
  have hl : lv_has ls 2 [(0, .ref (A (b + 0))), (1, .int j9)] := hl
  refine lv_aload_n hx hb dX2_hasBegun_0 rfl (lv_at hl 0 rfl) ?_
  refine g_get C0 G h_mt rfl hiX2 1 (by decide) mf_X2_17 rfl dX2_hasBegun_1 ?_
  have J13 : ∀ (y12 : Int32) (_ : y12 = (X2_hasBegun_x2 ex nu j9)) (H : Heap) (locs : List Loc) (ls : Array Slot), hG D (hA f sz) f s9 H locs → lv_has ls 2 [(0, .ref (A (b + 0))), (1, .int j9)] → W p9 l e9 ({ frames := 0, cells := 0, slots := 0, locals := 0 } : Room) s9 m9 ([.ref (A (b + 0)), .int j9] : List Value).toArray b9 t9 c9 H locs 0 0 (vx_MQ b9 (hQi (fun r u => r = (X2_hasBegun_x2 ex nu j9) ∧ u = f) D f sz) (hPx hNo D f sz) ([.ref (A (b + 0)), .int j9] : List Value).toArray s9 0 0 (hA f sz)) (F0 m9 24 ls [.int y12]) := by
    intro y12 ey12 H locs ls G hl
    replace ey12 := Eq.symm ey12
    subst ey12
    exact g_zret C0 G hr dX2_hasBegun_24 (hZb (by unfold X2_hasBegun_x2; split; exact (Or.inl rfl); exact (by unfold X2_hasBegun_x1; split; exact (Or.inl rfl); exact (by unfold X2_hasBegun_x0; split; exact (Or.inl rfl); exact (Or.inr rfl))))) (Nat.le_of_ble_eq_true rfl) (Nat.le_of_ble_eq_true rfl) (by exact ⟨rfl, rfl⟩)
  refine lv_if_eq (tgt := 23) hx hb dX2_hasBegun_4 (by decide) (fun c11 => ?_) (fun c11 => ?_)
  · refine lv_iconst (v := 0) hx hb dX2_hasBegun_23 (by decide) ?_
    exact J13 0 (by rw [X2_hasBegun_x2, if_pos c11]) _ _ _ G (lv_sub hl [0, 1] rfl)
  · refine lv_iload_n hx hb dX2_hasBegun_7 rfl (lv_at hl 1 rfl) ?_
    have J17 : ∀ (y16 : Int32) (_ : y16 = (X2_hasBegun_x1 nu j9)) (H : Heap) (locs : List Loc) (ls : Array Slot), hG D (hA f sz) f s9 H locs → lv_has ls 2 [(0, .ref (A (b + 0))), (1, .int j9)] → W p9 l e9 ({ frames := 0, cells := 0, slots := 0, locals := 0 } : Room) s9 m9 ([.ref (A (b + 0)), .int j9] : List Value).toArray b9 t9 c9 H locs 0 0 (vx_MQ b9 (hQi (fun r u => r = (X2_hasBegun_x2 ex nu j9) ∧ u = f) D f sz) (hPx hNo D f sz) ([.ref (A (b + 0)), .int j9] : List Value).toArray s9 0 0 (hA f sz)) (F0 m9 24 ls [.int y16]) := by
      intro y16 ey16 H locs ls G hl
      replace ey16 := Eq.symm ey16
      subst ey16
      exact J13 (X2_hasBegun_x1 nu j9) (by rw [X2_hasBegun_x2, if_neg c11]) _ _ _ G (lv_sub hl [0, 1] rfl)
    refine lv_if_lt (tgt := 23) hx hb dX2_hasBegun_8 (by decide) (fun c15 => ?_) (fun c15 => ?_)
    · refine lv_iconst (v := 0) hx hb dX2_hasBegun_23 (by decide) ?_
      exact J17 0 (by rw [X2_hasBegun_x1, if_pos c15]) _ _ _ G (lv_sub hl [0, 1] rfl)
    · refine lv_iload_n hx hb dX2_hasBegun_11 rfl (lv_at hl 1 rfl) ?_
      refine lv_aload_n hx hb dX2_hasBegun_12 rfl (lv_at hl 0 rfl) ?_
      refine g_get C0 G h_mt rfl hiX2 5 (by decide) mf_X2_31 rfl dX2_hasBegun_13 ?_
      have J21 : ∀ (y20 : Int32) (_ : y20 = (X2_hasBegun_x0 nu j9)) (H : Heap) (locs : List Loc) (ls : Array Slot), hG D (hA f sz) f s9 H locs → lv_has ls 2 [(0, .ref (A (b + 0))), (1, .int j9)] → W p9 l e9 ({ frames := 0, cells := 0, slots := 0, locals := 0 } : Room) s9 m9 ([.ref (A (b + 0)), .int j9] : List Value).toArray b9 t9 c9 H locs 0 0 (vx_MQ b9 (hQi (fun r u => r = (X2_hasBegun_x2 ex nu j9) ∧ u = f) D f sz) (hPx hNo D f sz) ([.ref (A (b + 0)), .int j9] : List Value).toArray s9 0 0 (hA f sz)) (F0 m9 24 ls [.int y20]) := by
        intro y20 ey20 H locs ls G hl
        replace ey20 := Eq.symm ey20
        subst ey20
        exact J17 (X2_hasBegun_x0 nu j9) (by rw [X2_hasBegun_x1, if_neg c15]) _ _ _ G (lv_sub hl [0, 1] rfl)
      refine lv_icmp_gt (tgt := 23) hx hb dX2_hasBegun_16 (by decide) (fun c19 => ?_) (fun c19 => ?_)
      · refine lv_iconst (v := 0) hx hb dX2_hasBegun_23 (by decide) ?_
        exact J21 0 (by rw [X2_hasBegun_x0, if_pos c19]) _ _ _ G (lv_sub hl [0, 1] rfl)
      · refine lv_iconst (v := 1) hx hb dX2_hasBegun_19 (by decide) ?_
        refine lv_goto (tgt := 24) hx hb dX2_hasBegun_20 (by decide) ?_
        exact J21 1 (by rw [X2_hasBegun_x0, if_neg c19]) _ _ _ G (lv_sub hl [0, 1] rfl)
theorem b_c_X2_hasBegun (ex : Int32) (nu : Int32) (j9 : Int32) : (X2_hasBegun_x2 ex nu j9) = 0 ∨ (X2_hasBegun_x2 ex nu j9) = 1 := (by unfold X2_hasBegun_x2; split; exact (Or.inl rfl); exact (by unfold X2_hasBegun_x1; split; exact (Or.inl rfl); exact (by unfold X2_hasBegun_x0; split; exact (Or.inl rfl); exact (Or.inr rfl))))
set_option maxRecDepth 100000 in
theorem c_X2_at0 {l : Launch} (hfl : l.stackTraces = false) {D : va_G} {cy : Nat → ClassId} {f : Hf} {sz : Nat} {A : Nat → Nat} {b : Nat} {ex : Int32} {ov : Int32} {ie : Int32} {fi : Int32} {nu : Int32} {q : Nat → Option Nat} (h_mt : f (A (b + 0)) = some (.inr (4, [.ref (A (b + 1)), .int ex, .int ov, .int ie, .int fi, .int nu]))) (h_al : f (A (b + 1)) = some (.inl (cy 3, 4, .inr (.inr (.inr (.inr q)))))) (hAj : ∀ i j : Nat, i ≠ j → A i ≠ A j) (hq0 : q 0 = some (A (b + 2))) (hq1 : q 1 = some (A (b + 15))) (hq2 : q 2 = some (A (b + 28))) (hq3 : q 3 = some (A (b + 41))) : hMet l yX2_at cX2_at 3 (some (.object "WicketScorer$Innings")) { frames := 1, cells := 0, slots := 0, locals := 14 } D (hTy cy) f sz [.ref (A (b + 0)), .int 0] (hQr (fun r u => r = (A (b + 2)) ∧ u = f) D f sz) hNo := by
  refine h_enter (by decide) hfl (Nat.le_of_ble_eq_true rfl) ?_
  intro p9 e9 s9 m9 b9 t9 c9 hsz C0 hr hnm G ls hl
  have hx := C0.1.1
  have hb := C0.1.2.1
  have hl : lv_has ls 3 [(0, .ref (A (b + 0))), (1, .int 0)] := hl
  refine lv_iconst (v := 0) hx hb dX2_at_0 (by decide) ?_
  refine lv_iload_n hx hb dX2_at_1 rfl (lv_at hl 1 rfl) ?_
  refine lv_iconst (v := 3) hx hb dX2_at_2 (by decide) ?_
  refine g_min C0 mm_X2_68 hl.1 (Nat.le_of_ble_eq_true rfl) (Nat.le_of_ble_eq_true rfl) ⟨(Nat.le_of_ble_eq_true rfl), (Nat.le_of_ble_eq_true rfl)⟩ dX2_at_3 ?_
  refine lv_topv (v := 0) (by decide) ?_
  refine g_max C0 mm_X2_74 hl.1 (Nat.le_of_ble_eq_true rfl) (Nat.le_of_ble_eq_true rfl) ⟨(Nat.le_of_ble_eq_true rfl), (Nat.le_of_ble_eq_true rfl)⟩ dX2_at_6 ?_
  refine lv_topv (v := 0) (by decide) ?_
  refine lv_istore_n (lv' := [(2, .int 0), (0, .ref (A (b + 0))), (1, .int 0)]) hx hb dX2_at_9 rfl hl (by decide) rfl (fun ls hl => ?_)
  refine lv_aload_n hx hb dX2_at_10 rfl (lv_at hl 1 rfl) ?_
  refine g_get C0 G h_mt rfl hiX2 0 (by decide) mf_X2_11 rfl dX2_at_11 ?_
  refine lv_iload_n hx hb dX2_at_14 rfl (lv_at hl 0 rfl) ?_
  refine g_aald C0 G h_al 3 rfl (by unfold vp_in; decide) (v := .ref (A (b + 2))) (by rw [show Int32.toNatClampNeg 0 = 0 from by decide, hq0]; rfl) dX2_at_15 ?_
  exact g_aret C0 G hr dX2_at_16 (Nat.le_of_ble_eq_true rfl) (Nat.le_of_ble_eq_true rfl) (by exact ⟨rfl, rfl⟩)
set_option maxRecDepth 100000 in
theorem c_X2_at1 {l : Launch} (hfl : l.stackTraces = false) {D : va_G} {cy : Nat → ClassId} {f : Hf} {sz : Nat} {A : Nat → Nat} {b : Nat} {ex : Int32} {ov : Int32} {ie : Int32} {fi : Int32} {nu : Int32} {q : Nat → Option Nat} (h_mt : f (A (b + 0)) = some (.inr (4, [.ref (A (b + 1)), .int ex, .int ov, .int ie, .int fi, .int nu]))) (h_al : f (A (b + 1)) = some (.inl (cy 3, 4, .inr (.inr (.inr (.inr q)))))) (hAj : ∀ i j : Nat, i ≠ j → A i ≠ A j) (hq0 : q 0 = some (A (b + 2))) (hq1 : q 1 = some (A (b + 15))) (hq2 : q 2 = some (A (b + 28))) (hq3 : q 3 = some (A (b + 41))) : hMet l yX2_at cX2_at 3 (some (.object "WicketScorer$Innings")) { frames := 1, cells := 0, slots := 0, locals := 14 } D (hTy cy) f sz [.ref (A (b + 0)), .int 1] (hQr (fun r u => r = (A (b + 15)) ∧ u = f) D f sz) hNo := by
  refine h_enter (by decide) hfl (Nat.le_of_ble_eq_true rfl) ?_
  intro p9 e9 s9 m9 b9 t9 c9 hsz C0 hr hnm G ls hl
  have hx := C0.1.1
  have hb := C0.1.2.1
  have hl : lv_has ls 3 [(0, .ref (A (b + 0))), (1, .int 1)] := hl
  refine lv_iconst (v := 0) hx hb dX2_at_0 (by decide) ?_
  refine lv_iload_n hx hb dX2_at_1 rfl (lv_at hl 1 rfl) ?_
  refine lv_iconst (v := 3) hx hb dX2_at_2 (by decide) ?_
  refine g_min C0 mm_X2_68 hl.1 (Nat.le_of_ble_eq_true rfl) (Nat.le_of_ble_eq_true rfl) ⟨(Nat.le_of_ble_eq_true rfl), (Nat.le_of_ble_eq_true rfl)⟩ dX2_at_3 ?_
  refine lv_topv (v := 1) (by decide) ?_
  refine g_max C0 mm_X2_74 hl.1 (Nat.le_of_ble_eq_true rfl) (Nat.le_of_ble_eq_true rfl) ⟨(Nat.le_of_ble_eq_true rfl), (Nat.le_of_ble_eq_true rfl)⟩ dX2_at_6 ?_
  refine lv_topv (v := 1) (by decide) ?_
  refine lv_istore_n (lv' := [(2, .int 1), (0, .ref (A (b + 0))), (1, .int 1)]) hx hb dX2_at_9 rfl hl (by decide) rfl (fun ls hl => ?_)
  refine lv_aload_n hx hb dX2_at_10 rfl (lv_at hl 1 rfl) ?_
  refine g_get C0 G h_mt rfl hiX2 0 (by decide) mf_X2_11 rfl dX2_at_11 ?_
  refine lv_iload_n hx hb dX2_at_14 rfl (lv_at hl 0 rfl) ?_
  refine g_aald C0 G h_al 3 rfl (by unfold vp_in; decide) (v := .ref (A (b + 15))) (by rw [show Int32.toNatClampNeg 1 = 1 from by decide, hq1]; rfl) dX2_at_15 ?_
  exact g_aret C0 G hr dX2_at_16 (Nat.le_of_ble_eq_true rfl) (Nat.le_of_ble_eq_true rfl) (by exact ⟨rfl, rfl⟩)
set_option maxRecDepth 100000 in
theorem c_X2_at2 {l : Launch} (hfl : l.stackTraces = false) {D : va_G} {cy : Nat → ClassId} {f : Hf} {sz : Nat} {A : Nat → Nat} {b : Nat} {ex : Int32} {ov : Int32} {ie : Int32} {fi : Int32} {nu : Int32} {q : Nat → Option Nat} (h_mt : f (A (b + 0)) = some (.inr (4, [.ref (A (b + 1)), .int ex, .int ov, .int ie, .int fi, .int nu]))) (h_al : f (A (b + 1)) = some (.inl (cy 3, 4, .inr (.inr (.inr (.inr q)))))) (hAj : ∀ i j : Nat, i ≠ j → A i ≠ A j) (hq0 : q 0 = some (A (b + 2))) (hq1 : q 1 = some (A (b + 15))) (hq2 : q 2 = some (A (b + 28))) (hq3 : q 3 = some (A (b + 41))) : hMet l yX2_at cX2_at 3 (some (.object "WicketScorer$Innings")) { frames := 1, cells := 0, slots := 0, locals := 14 } D (hTy cy) f sz [.ref (A (b + 0)), .int 2] (hQr (fun r u => r = (A (b + 28)) ∧ u = f) D f sz) hNo := by
  refine h_enter (by decide) hfl (Nat.le_of_ble_eq_true rfl) ?_
  intro p9 e9 s9 m9 b9 t9 c9 hsz C0 hr hnm G ls hl
  have hx := C0.1.1
  have hb := C0.1.2.1
  have hl : lv_has ls 3 [(0, .ref (A (b + 0))), (1, .int 2)] := hl
  refine lv_iconst (v := 0) hx hb dX2_at_0 (by decide) ?_
  refine lv_iload_n hx hb dX2_at_1 rfl (lv_at hl 1 rfl) ?_
  refine lv_iconst (v := 3) hx hb dX2_at_2 (by decide) ?_
  refine g_min C0 mm_X2_68 hl.1 (Nat.le_of_ble_eq_true rfl) (Nat.le_of_ble_eq_true rfl) ⟨(Nat.le_of_ble_eq_true rfl), (Nat.le_of_ble_eq_true rfl)⟩ dX2_at_3 ?_
  refine lv_topv (v := 2) (by decide) ?_
  refine g_max C0 mm_X2_74 hl.1 (Nat.le_of_ble_eq_true rfl) (Nat.le_of_ble_eq_true rfl) ⟨(Nat.le_of_ble_eq_true rfl), (Nat.le_of_ble_eq_true rfl)⟩ dX2_at_6 ?_
  refine lv_topv (v := 2) (by decide) ?_
  refine lv_istore_n (lv' := [(2, .int 2), (0, .ref (A (b + 0))), (1, .int 2)]) hx hb dX2_at_9 rfl hl (by decide) rfl (fun ls hl => ?_)
  refine lv_aload_n hx hb dX2_at_10 rfl (lv_at hl 1 rfl) ?_
  refine g_get C0 G h_mt rfl hiX2 0 (by decide) mf_X2_11 rfl dX2_at_11 ?_
  refine lv_iload_n hx hb dX2_at_14 rfl (lv_at hl 0 rfl) ?_
  refine g_aald C0 G h_al 3 rfl (by unfold vp_in; decide) (v := .ref (A (b + 28))) (by rw [show Int32.toNatClampNeg 2 = 2 from by decide, hq2]; rfl) dX2_at_15 ?_
  exact g_aret C0 G hr dX2_at_16 (Nat.le_of_ble_eq_true rfl) (Nat.le_of_ble_eq_true rfl) (by exact ⟨rfl, rfl⟩)
set_option maxRecDepth 100000 in
theorem c_X2_at3 {l : Launch} (hfl : l.stackTraces = false) {D : va_G} {cy : Nat → ClassId} {f : Hf} {sz : Nat} {A : Nat → Nat} {b : Nat} {ex : Int32} {ov : Int32} {ie : Int32} {fi : Int32} {nu : Int32} {q : Nat → Option Nat} (h_mt : f (A (b + 0)) = some (.inr (4, [.ref (A (b + 1)), .int ex, .int ov, .int ie, .int fi, .int nu]))) (h_al : f (A (b + 1)) = some (.inl (cy 3, 4, .inr (.inr (.inr (.inr q)))))) (hAj : ∀ i j : Nat, i ≠ j → A i ≠ A j) (hq0 : q 0 = some (A (b + 2))) (hq1 : q 1 = some (A (b + 15))) (hq2 : q 2 = some (A (b + 28))) (hq3 : q 3 = some (A (b + 41))) : hMet l yX2_at cX2_at 3 (some (.object "WicketScorer$Innings")) { frames := 1, cells := 0, slots := 0, locals := 14 } D (hTy cy) f sz [.ref (A (b + 0)), .int 3] (hQr (fun r u => r = (A (b + 41)) ∧ u = f) D f sz) hNo := by
  refine h_enter (by decide) hfl (Nat.le_of_ble_eq_true rfl) ?_
  intro p9 e9 s9 m9 b9 t9 c9 hsz C0 hr hnm G ls hl
  have hx := C0.1.1
  have hb := C0.1.2.1
  have hl : lv_has ls 3 [(0, .ref (A (b + 0))), (1, .int 3)] := hl
  refine lv_iconst (v := 0) hx hb dX2_at_0 (by decide) ?_
  refine lv_iload_n hx hb dX2_at_1 rfl (lv_at hl 1 rfl) ?_
  refine lv_iconst (v := 3) hx hb dX2_at_2 (by decide) ?_
  refine g_min C0 mm_X2_68 hl.1 (Nat.le_of_ble_eq_true rfl) (Nat.le_of_ble_eq_true rfl) ⟨(Nat.le_of_ble_eq_true rfl), (Nat.le_of_ble_eq_true rfl)⟩ dX2_at_3 ?_
  refine lv_topv (v := 3) (by decide) ?_
  refine g_max C0 mm_X2_74 hl.1 (Nat.le_of_ble_eq_true rfl) (Nat.le_of_ble_eq_true rfl) ⟨(Nat.le_of_ble_eq_true rfl), (Nat.le_of_ble_eq_true rfl)⟩ dX2_at_6 ?_
  refine lv_topv (v := 3) (by decide) ?_
  refine lv_istore_n (lv' := [(2, .int 3), (0, .ref (A (b + 0))), (1, .int 3)]) hx hb dX2_at_9 rfl hl (by decide) rfl (fun ls hl => ?_)
  refine lv_aload_n hx hb dX2_at_10 rfl (lv_at hl 1 rfl) ?_
  refine g_get C0 G h_mt rfl hiX2 0 (by decide) mf_X2_11 rfl dX2_at_11 ?_
  refine lv_iload_n hx hb dX2_at_14 rfl (lv_at hl 0 rfl) ?_
  refine g_aald C0 G h_al 3 rfl (by unfold vp_in; decide) (v := .ref (A (b + 41))) (by rw [show Int32.toNatClampNeg 3 = 3 from by decide, hq3]; rfl) dX2_at_15 ?_
  exact g_aret C0 G hr dX2_at_16 (Nat.le_of_ble_eq_true rfl) (Nat.le_of_ble_eq_true rfl) (by exact ⟨rfl, rfl⟩)
set_option maxRecDepth 100000 in
theorem c_X2_present0 {l : Launch} (hfl : l.stackTraces = false) {D : va_G} {cy : Nat → ClassId} {f : Hf} {sz : Nat} {A : Nat → Nat} {b : Nat} {ex : Int32} {ov : Int32} {ie : Int32} {fi : Int32} {q : Nat → Option Nat} (h_mt : f (A (b + 0)) = some (.inr (4, [.ref (A (b + 1)), .int ex, .int ov, .int ie, .int fi, .int 0]))) (h_al : f (A (b + 1)) = some (.inl (cy 3, 4, .inr (.inr (.inr (.inr q)))))) (hAj : ∀ i j : Nat, i ≠ j → A i ≠ A j) (hq0 : q 0 = some (A (b + 2))) (hq1 : q 1 = some (A (b + 15))) (hq2 : q 2 = some (A (b + 28))) (hq3 : q 3 = some (A (b + 41))) : hMet l yX2_present cX2_present 1 (some (.object "WicketScorer$Innings")) { frames := 2, cells := 0, slots := 0, locals := 36 } D (hTy cy) f sz [.ref (A (b + 0))] (hQr (fun r u => r = (A (b + 2)) ∧ u = f) D f sz) hNo := by
  refine h_enter (by decide) hfl (Nat.le_of_ble_eq_true rfl) ?_
  intro p9 e9 s9 m9 b9 t9 c9 hsz C0 hr hnm G ls hl
  have hx := C0.1.1
  have hb := C0.1.2.1
  have hl : lv_has ls 1 [(0, .ref (A (b + 0)))] := hl
  refine lv_aload_n hx hb dX2_present_0 rfl (lv_at hl 0 rfl) ?_
  refine lv_aload_n hx hb dX2_present_1 rfl (lv_at hl 0 rfl) ?_
  refine g_get C0 G h_mt rfl hiX2 5 (by decide) mf_X2_31 rfl dX2_present_2 ?_
  refine g_cR C0 G (g_runV C0 G (rest := []) (c_X2_at0 hfl (A := A) (b := b) (ex := ex) (ov := ov) (ie := ie) (fi := fi) (nu := 0) (q := q) h_mt h_al hAj hq0 hq1 hq2 hq3) h_mt rfl hY_X2_at mm_X2_77 mi_X2_at ml_X2_at ⟨(Nat.le_of_ble_eq_true rfl), (Nat.le_of_ble_eq_true rfl)⟩ rfl hl.1 rfl (Nat.le_of_ble_eq_true rfl) dX2_present_5 ⟨(Nat.le_of_ble_eq_true rfl), (Nat.le_of_ble_eq_true rfl)⟩) (kx_no rfl) (fun a13 u12 H locs hp11 G => ?_)
  obtain ⟨zr, eu12⟩ := hp11
  replace zr := Eq.symm zr
  subst zr
  rw [eu12] at G
  exact g_aret C0 G hr dX2_present_8 (Nat.le_of_ble_eq_true rfl) (Nat.le_of_ble_eq_true rfl) (by exact ⟨rfl, rfl⟩)
set_option maxRecDepth 100000 in
theorem c_X2_present1 {l : Launch} (hfl : l.stackTraces = false) {D : va_G} {cy : Nat → ClassId} {f : Hf} {sz : Nat} {A : Nat → Nat} {b : Nat} {ex : Int32} {ov : Int32} {ie : Int32} {fi : Int32} {q : Nat → Option Nat} (h_mt : f (A (b + 0)) = some (.inr (4, [.ref (A (b + 1)), .int ex, .int ov, .int ie, .int fi, .int 1]))) (h_al : f (A (b + 1)) = some (.inl (cy 3, 4, .inr (.inr (.inr (.inr q)))))) (hAj : ∀ i j : Nat, i ≠ j → A i ≠ A j) (hq0 : q 0 = some (A (b + 2))) (hq1 : q 1 = some (A (b + 15))) (hq2 : q 2 = some (A (b + 28))) (hq3 : q 3 = some (A (b + 41))) : hMet l yX2_present cX2_present 1 (some (.object "WicketScorer$Innings")) { frames := 2, cells := 0, slots := 0, locals := 36 } D (hTy cy) f sz [.ref (A (b + 0))] (hQr (fun r u => r = (A (b + 15)) ∧ u = f) D f sz) hNo := by
  refine h_enter (by decide) hfl (Nat.le_of_ble_eq_true rfl) ?_
  intro p9 e9 s9 m9 b9 t9 c9 hsz C0 hr hnm G ls hl
  have hx := C0.1.1
  have hb := C0.1.2.1
  have hl : lv_has ls 1 [(0, .ref (A (b + 0)))] := hl
  refine lv_aload_n hx hb dX2_present_0 rfl (lv_at hl 0 rfl) ?_
  refine lv_aload_n hx hb dX2_present_1 rfl (lv_at hl 0 rfl) ?_
  refine g_get C0 G h_mt rfl hiX2 5 (by decide) mf_X2_31 rfl dX2_present_2 ?_
  refine g_cR C0 G (g_runV C0 G (rest := []) (c_X2_at1 hfl (A := A) (b := b) (ex := ex) (ov := ov) (ie := ie) (fi := fi) (nu := 1) (q := q) h_mt h_al hAj hq0 hq1 hq2 hq3) h_mt rfl hY_X2_at mm_X2_77 mi_X2_at ml_X2_at ⟨(Nat.le_of_ble_eq_true rfl), (Nat.le_of_ble_eq_true rfl)⟩ rfl hl.1 rfl (Nat.le_of_ble_eq_true rfl) dX2_present_5 ⟨(Nat.le_of_ble_eq_true rfl), (Nat.le_of_ble_eq_true rfl)⟩) (kx_no rfl) (fun a13 u12 H locs hp11 G => ?_)
  obtain ⟨zr, eu12⟩ := hp11
  replace zr := Eq.symm zr
  subst zr
  rw [eu12] at G
  exact g_aret C0 G hr dX2_present_8 (Nat.le_of_ble_eq_true rfl) (Nat.le_of_ble_eq_true rfl) (by exact ⟨rfl, rfl⟩)
set_option maxRecDepth 100000 in
theorem c_X2_present2 {l : Launch} (hfl : l.stackTraces = false) {D : va_G} {cy : Nat → ClassId} {f : Hf} {sz : Nat} {A : Nat → Nat} {b : Nat} {ex : Int32} {ov : Int32} {ie : Int32} {fi : Int32} {q : Nat → Option Nat} (h_mt : f (A (b + 0)) = some (.inr (4, [.ref (A (b + 1)), .int ex, .int ov, .int ie, .int fi, .int 2]))) (h_al : f (A (b + 1)) = some (.inl (cy 3, 4, .inr (.inr (.inr (.inr q)))))) (hAj : ∀ i j : Nat, i ≠ j → A i ≠ A j) (hq0 : q 0 = some (A (b + 2))) (hq1 : q 1 = some (A (b + 15))) (hq2 : q 2 = some (A (b + 28))) (hq3 : q 3 = some (A (b + 41))) : hMet l yX2_present cX2_present 1 (some (.object "WicketScorer$Innings")) { frames := 2, cells := 0, slots := 0, locals := 36 } D (hTy cy) f sz [.ref (A (b + 0))] (hQr (fun r u => r = (A (b + 28)) ∧ u = f) D f sz) hNo := by
  refine h_enter (by decide) hfl (Nat.le_of_ble_eq_true rfl) ?_
  intro p9 e9 s9 m9 b9 t9 c9 hsz C0 hr hnm G ls hl
  have hx := C0.1.1
  have hb := C0.1.2.1
  have hl : lv_has ls 1 [(0, .ref (A (b + 0)))] := hl
  refine lv_aload_n hx hb dX2_present_0 rfl (lv_at hl 0 rfl) ?_
  refine lv_aload_n hx hb dX2_present_1 rfl (lv_at hl 0 rfl) ?_
  refine g_get C0 G h_mt rfl hiX2 5 (by decide) mf_X2_31 rfl dX2_present_2 ?_
  refine g_cR C0 G (g_runV C0 G (rest := []) (c_X2_at2 hfl (A := A) (b := b) (ex := ex) (ov := ov) (ie := ie) (fi := fi) (nu := 2) (q := q) h_mt h_al hAj hq0 hq1 hq2 hq3) h_mt rfl hY_X2_at mm_X2_77 mi_X2_at ml_X2_at ⟨(Nat.le_of_ble_eq_true rfl), (Nat.le_of_ble_eq_true rfl)⟩ rfl hl.1 rfl (Nat.le_of_ble_eq_true rfl) dX2_present_5 ⟨(Nat.le_of_ble_eq_true rfl), (Nat.le_of_ble_eq_true rfl)⟩) (kx_no rfl) (fun a13 u12 H locs hp11 G => ?_)
  obtain ⟨zr, eu12⟩ := hp11
  replace zr := Eq.symm zr
  subst zr
  rw [eu12] at G
  exact g_aret C0 G hr dX2_present_8 (Nat.le_of_ble_eq_true rfl) (Nat.le_of_ble_eq_true rfl) (by exact ⟨rfl, rfl⟩)
set_option maxRecDepth 100000 in
theorem c_X2_present3 {l : Launch} (hfl : l.stackTraces = false) {D : va_G} {cy : Nat → ClassId} {f : Hf} {sz : Nat} {A : Nat → Nat} {b : Nat} {ex : Int32} {ov : Int32} {ie : Int32} {fi : Int32} {q : Nat → Option Nat} (h_mt : f (A (b + 0)) = some (.inr (4, [.ref (A (b + 1)), .int ex, .int ov, .int ie, .int fi, .int 3]))) (h_al : f (A (b + 1)) = some (.inl (cy 3, 4, .inr (.inr (.inr (.inr q)))))) (hAj : ∀ i j : Nat, i ≠ j → A i ≠ A j) (hq0 : q 0 = some (A (b + 2))) (hq1 : q 1 = some (A (b + 15))) (hq2 : q 2 = some (A (b + 28))) (hq3 : q 3 = some (A (b + 41))) : hMet l yX2_present cX2_present 1 (some (.object "WicketScorer$Innings")) { frames := 2, cells := 0, slots := 0, locals := 36 } D (hTy cy) f sz [.ref (A (b + 0))] (hQr (fun r u => r = (A (b + 41)) ∧ u = f) D f sz) hNo := by
  refine h_enter (by decide) hfl (Nat.le_of_ble_eq_true rfl) ?_
  intro p9 e9 s9 m9 b9 t9 c9 hsz C0 hr hnm G ls hl
  have hx := C0.1.1
  have hb := C0.1.2.1
  have hl : lv_has ls 1 [(0, .ref (A (b + 0)))] := hl
  refine lv_aload_n hx hb dX2_present_0 rfl (lv_at hl 0 rfl) ?_
  refine lv_aload_n hx hb dX2_present_1 rfl (lv_at hl 0 rfl) ?_
  refine g_get C0 G h_mt rfl hiX2 5 (by decide) mf_X2_31 rfl dX2_present_2 ?_
  refine g_cR C0 G (g_runV C0 G (rest := []) (c_X2_at3 hfl (A := A) (b := b) (ex := ex) (ov := ov) (ie := ie) (fi := fi) (nu := 3) (q := q) h_mt h_al hAj hq0 hq1 hq2 hq3) h_mt rfl hY_X2_at mm_X2_77 mi_X2_at ml_X2_at ⟨(Nat.le_of_ble_eq_true rfl), (Nat.le_of_ble_eq_true rfl)⟩ rfl hl.1 rfl (Nat.le_of_ble_eq_true rfl) dX2_present_5 ⟨(Nat.le_of_ble_eq_true rfl), (Nat.le_of_ble_eq_true rfl)⟩) (kx_no rfl) (fun a13 u12 H locs hp11 G => ?_)
  obtain ⟨zr, eu12⟩ := hp11
  replace zr := Eq.symm zr
  subst zr
  rw [eu12] at G
  exact g_aret C0 G hr dX2_present_8 (Nat.le_of_ble_eq_true rfl) (Nat.le_of_ble_eq_true rfl) (by exact ⟨rfl, rfl⟩)
def X2_hasResources_x0 (ie : Int32) : Int32 := if ie = 1 then 1 else 0
set_option maxRecDepth 100000 in
theorem c_X2_hasResources {l : Launch} (hfl : l.stackTraces = false) {D : va_G} {cy : Nat → ClassId} {f : Hf} {sz : Nat} {A : Nat → Nat} {b : Nat} {ex : Int32} {ov : Int32} {ie : Int32} {fi : Int32} {nu : Int32} {q : Nat → Option Nat} (h_mt : f (A (b + 0)) = some (.inr (4, [.ref (A (b + 1)), .int ex, .int ov, .int ie, .int fi, .int nu]))) (h_al : f (A (b + 1)) = some (.inl (cy 3, 4, .inr (.inr (.inr (.inr q)))))) (hAj : ∀ i j : Nat, i ≠ j → A i ≠ A j) (hq0 : q 0 = some (A (b + 2))) (hq1 : q 1 = some (A (b + 15))) (hq2 : q 2 = some (A (b + 28))) (hq3 : q 3 = some (A (b + 41))) : hMet l yX2_hasResources cX2_hasResources 1 (some .boolean) { frames := 0, cells := 0, slots := 0, locals := 0 } D (hTy cy) f sz [.ref (A (b + 0))] (hQi (fun r u => r = (X2_hasResources_x0 ie) ∧ u = f) D f sz) hNo := by
  refine h_enter (by decide) hfl (Nat.le_of_ble_eq_true rfl) ?_
  intro p9 e9 s9 m9 b9 t9 c9 hsz C0 hr hnm G ls hl
  have hx := C0.1.1
  have hb := C0.1.2.1
  have hl : lv_has ls 1 [(0, .ref (A (b + 0)))] := hl
  refine lv_aload_n hx hb dX2_hasResources_0 rfl (lv_at hl 0 rfl) ?_
  refine g_get C0 G h_mt rfl hiX2 3 (by decide) mf_X2_24 rfl dX2_hasResources_1 ?_
  refine lv_iconst (v := 1) hx hb dX2_hasResources_4 (by decide) ?_
  have J13 : ∀ (y12 : Int32) (_ : y12 = (X2_hasResources_x0 ie)) (H : Heap) (locs : List Loc) (ls : Array Slot), hG D (hA f sz) f s9 H locs → lv_has ls 1 [(0, .ref (A (b + 0)))] → W p9 l e9 ({ frames := 0, cells := 0, slots := 0, locals := 0 } : Room) s9 m9 ([.ref (A (b + 0))] : List Value).toArray b9 t9 c9 H locs 0 0 (vx_MQ b9 (hQi (fun r u => r = (X2_hasResources_x0 ie) ∧ u = f) D f sz) (hPx hNo D f sz) ([.ref (A (b + 0))] : List Value).toArray s9 0 0 (hA f sz)) (F0 m9 13 ls [.int y12]) := by
    intro y12 ey12 H locs ls G hl
    replace ey12 := Eq.symm ey12
    subst ey12
    exact g_zret C0 G hr dX2_hasResources_13 (hZb (by unfold X2_hasResources_x0; split; exact (Or.inr rfl); exact (Or.inl rfl))) (Nat.le_of_ble_eq_true rfl) (Nat.le_of_ble_eq_true rfl) (by exact ⟨rfl, rfl⟩)
  refine lv_icmp_ne (tgt := 12) hx hb dX2_hasResources_5 (by decide) (fun c11 => ?_) (fun c11 => ?_)
  · refine lv_iconst (v := 0) hx hb dX2_hasResources_12 (by decide) ?_
    exact J13 0 (by rw [X2_hasResources_x0, if_neg c11]) _ _ _ G (lv_sub hl [0] rfl)
  · refine lv_iconst (v := 1) hx hb dX2_hasResources_8 (by decide) ?_
    refine lv_goto (tgt := 13) hx hb dX2_hasResources_9 (by decide) ?_
    exact J13 1 (by rw [X2_hasResources_x0, if_pos c11]) _ _ _ G (lv_sub hl [0] rfl)
theorem b_c_X2_hasResources (ie : Int32) : (X2_hasResources_x0 ie) = 0 ∨ (X2_hasResources_x0 ie) = 1 := (by unfold X2_hasResources_x0; split; exact (Or.inr rfl); exact (Or.inl rfl))
def X2_lastNumber_r0 (ie : Int32) : Int32 := (2 * ie) - 1
set_option maxRecDepth 100000 in
theorem c_X2_lastNumber {l : Launch} (hfl : l.stackTraces = false) {D : va_G} {cy : Nat → ClassId} {f : Hf} {sz : Nat} {A : Nat → Nat} {b : Nat} {ex : Int32} {ov : Int32} {ie : Int32} {fi : Int32} {nu : Int32} {q : Nat → Option Nat} (h_mt : f (A (b + 0)) = some (.inr (4, [.ref (A (b + 1)), .int ex, .int ov, .int ie, .int fi, .int nu]))) (h_al : f (A (b + 1)) = some (.inl (cy 3, 4, .inr (.inr (.inr (.inr q)))))) (hAj : ∀ i j : Nat, i ≠ j → A i ≠ A j) (hq0 : q 0 = some (A (b + 2))) (hq1 : q 1 = some (A (b + 15))) (hq2 : q 2 = some (A (b + 28))) (hq3 : q 3 = some (A (b + 41))) : hMet l yX2_lastNumber cX2_lastNumber 1 (some .int) { frames := 0, cells := 0, slots := 0, locals := 0 } D (hTy cy) f sz [.ref (A (b + 0))] (hQi (fun r u => r = (X2_lastNumber_r0 ie) ∧ u = f) D f sz) hNo := by
  refine h_enter (by decide) hfl (Nat.le_of_ble_eq_true rfl) ?_
  intro p9 e9 s9 m9 b9 t9 c9 hsz C0 hr hnm G ls hl
  have hx := C0.1.1
  have hb := C0.1.2.1
  have hl : lv_has ls 1 [(0, .ref (A (b + 0)))] := hl
  refine lv_iconst (v := 2) hx hb dX2_lastNumber_0 (by decide) ?_
  refine lv_aload_n hx hb dX2_lastNumber_1 rfl (lv_at hl 0 rfl) ?_
  refine g_get C0 G h_mt rfl hiX2 3 (by decide) mf_X2_24 rfl dX2_lastNumber_2 ?_
  refine lv_imul hx hb dX2_lastNumber_5 ?_
  refine lv_iconst (v := 1) hx hb dX2_lastNumber_6 (by decide) ?_
  refine lv_isub hx hb dX2_lastNumber_7 ?_
  exact g_iret C0 G hr dX2_lastNumber_8 (Nat.le_of_ble_eq_true rfl) (Nat.le_of_ble_eq_true rfl) (by exact ⟨(by rw [X2_lastNumber_r0]), rfl⟩)
def X2_isLastPlayed_x0 (ie : Int32) (nu : Int32) : Int32 := if nu = (X2_lastNumber_r0 ie) then 1 else 0
set_option maxRecDepth 100000 in
theorem c_X2_isLastPlayed {l : Launch} (hfl : l.stackTraces = false) {D : va_G} {cy : Nat → ClassId} {f : Hf} {sz : Nat} {A : Nat → Nat} {b : Nat} {ex : Int32} {ov : Int32} {ie : Int32} {fi : Int32} {nu : Int32} {q : Nat → Option Nat} (h_mt : f (A (b + 0)) = some (.inr (4, [.ref (A (b + 1)), .int ex, .int ov, .int ie, .int fi, .int nu]))) (h_al : f (A (b + 1)) = some (.inl (cy 3, 4, .inr (.inr (.inr (.inr q)))))) (hAj : ∀ i j : Nat, i ≠ j → A i ≠ A j) (hq0 : q 0 = some (A (b + 2))) (hq1 : q 1 = some (A (b + 15))) (hq2 : q 2 = some (A (b + 28))) (hq3 : q 3 = some (A (b + 41))) : hMet l yX2_isLastPlayed cX2_isLastPlayed 1 (some .boolean) { frames := 1, cells := 0, slots := 0, locals := 20 } D (hTy cy) f sz [.ref (A (b + 0))] (hQi (fun r u => r = (X2_isLastPlayed_x0 ie nu) ∧ u = f) D f sz) hNo := by
  refine h_enter (by decide) hfl (Nat.le_of_ble_eq_true rfl) ?_
  intro p9 e9 s9 m9 b9 t9 c9 hsz C0 hr hnm G ls hl
  have hx := C0.1.1
  have hb := C0.1.2.1
  have hl : lv_has ls 1 [(0, .ref (A (b + 0)))] := hl
  refine lv_aload_n hx hb dX2_isLastPlayed_0 rfl (lv_at hl 0 rfl) ?_
  refine g_get C0 G h_mt rfl hiX2 5 (by decide) mf_X2_31 rfl dX2_isLastPlayed_1 ?_
  refine lv_aload_n hx hb dX2_isLastPlayed_4 rfl (lv_at hl 0 rfl) ?_
  refine g_cI C0 G (g_runV C0 G (rest := [.int nu]) (c_X2_lastNumber hfl (A := A) (b := b) (ex := ex) (ov := ov) (ie := ie) (fi := fi) (nu := nu) (q := q) h_mt h_al hAj hq0 hq1 hq2 hq3) h_mt rfl hY_X2_lastNumber mm_X2_81 mi_X2_lastNumber ml_X2_lastNumber ⟨(Nat.le_of_ble_eq_true rfl), (Nat.le_of_ble_eq_true rfl)⟩ rfl hl.1 rfl (Nat.le_of_ble_eq_true rfl) dX2_isLastPlayed_5 ⟨(Nat.le_of_ble_eq_true rfl), (Nat.le_of_ble_eq_true rfl)⟩) (kx_no rfl) (fun r13 u12 H locs hp11 G => ?_)
  obtain ⟨zr, eu12⟩ := hp11
  replace zr := Eq.symm zr
  subst zr
  rw [eu12] at G
  have J16 : ∀ (y15 : Int32) (_ : y15 = (X2_isLastPlayed_x0 ie nu)) (H : Heap) (locs : List Loc) (ls : Array Slot), hG D (hA f sz) f s9 H locs → lv_has ls 1 [(0, .ref (A (b + 0)))] → W p9 l e9 ({ frames := 1, cells := 0, slots := 0, locals := 20 } : Room) s9 m9 ([.ref (A (b + 0))] : List Value).toArray b9 t9 c9 H locs 0 0 (vx_MQ b9 (hQi (fun r u => r = (X2_isLastPlayed_x0 ie nu) ∧ u = f) D f sz) (hPx hNo D f sz) ([.ref (A (b + 0))] : List Value).toArray s9 0 0 (hA f sz)) (F0 m9 16 ls [.int y15]) := by
    intro y15 ey15 H locs ls G hl
    replace ey15 := Eq.symm ey15
    subst ey15
    exact g_zret C0 G hr dX2_isLastPlayed_16 (hZb (by unfold X2_isLastPlayed_x0; split; exact (Or.inr rfl); exact (Or.inl rfl))) (Nat.le_of_ble_eq_true rfl) (Nat.le_of_ble_eq_true rfl) (by exact ⟨rfl, rfl⟩)
  refine lv_icmp_ne (tgt := 15) hx hb dX2_isLastPlayed_8 (by decide) (fun c14 => ?_) (fun c14 => ?_)
  · refine lv_iconst (v := 0) hx hb dX2_isLastPlayed_15 (by decide) ?_
    exact J16 0 (by rw [X2_isLastPlayed_x0, if_neg c14]) _ _ _ G (lv_sub hl [0] rfl)
  · refine lv_iconst (v := 1) hx hb dX2_isLastPlayed_11 (by decide) ?_
    refine lv_goto (tgt := 16) hx hb dX2_isLastPlayed_12 (by decide) ?_
    exact J16 1 (by rw [X2_isLastPlayed_x0, if_pos c14]) _ _ _ G (lv_sub hl [0] rfl)
theorem b_c_X2_isLastPlayed (ie : Int32) (nu : Int32) : (X2_isLastPlayed_x0 ie nu) = 0 ∨ (X2_isLastPlayed_x0 ie nu) = 1 := (by unfold X2_isLastPlayed_x0; split; exact (Or.inr rfl); exact (Or.inl rfl))
def X2_battingTeam_x0 (fi : Int32) (j9 : Int32) : Int32 := if (j9 &&& 1) = 0 then fi else (1 - fi)
set_option maxRecDepth 100000 in
theorem c_X2_battingTeam {l : Launch} (hfl : l.stackTraces = false) {D : va_G} {cy : Nat → ClassId} {f : Hf} {sz : Nat} {A : Nat → Nat} {b : Nat} {ex : Int32} {ov : Int32} {ie : Int32} {fi : Int32} {nu : Int32} {q : Nat → Option Nat} (j9 : Int32) (h_mt : f (A (b + 0)) = some (.inr (4, [.ref (A (b + 1)), .int ex, .int ov, .int ie, .int fi, .int nu]))) (h_al : f (A (b + 1)) = some (.inl (cy 3, 4, .inr (.inr (.inr (.inr q)))))) (hAj : ∀ i j : Nat, i ≠ j → A i ≠ A j) (hq0 : q 0 = some (A (b + 2))) (hq1 : q 1 = some (A (b + 15))) (hq2 : q 2 = some (A (b + 28))) (hq3 : q 3 = some (A (b + 41))) : hMet l yX2_battingTeam cX2_battingTeam 2 (some .int) { frames := 0, cells := 0, slots := 0, locals := 0 } D (hTy cy) f sz [.ref (A (b + 0)), .int j9] (hQi (fun r u => r = (X2_battingTeam_x0 fi j9) ∧ u = f) D f sz) hNo := by
  refine h_enter (by decide) hfl (Nat.le_of_ble_eq_true rfl) ?_
  intro p9 e9 s9 m9 b9 t9 c9 hsz C0 hr hnm G ls hl
  have hx := C0.1.1
  have hb := C0.1.2.1
  have hl : lv_has ls 2 [(0, .ref (A (b + 0))), (1, .int j9)] := hl
  refine lv_iload_n hx hb dX2_battingTeam_0 rfl (lv_at hl 1 rfl) ?_
  refine lv_iconst (v := 1) hx hb dX2_battingTeam_1 (by decide) ?_
  refine lv_iand hx hb dX2_battingTeam_2 ?_
  have J13 : ∀ (y12 : Int32) (_ : y12 = (X2_battingTeam_x0 fi j9)) (H : Heap) (locs : List Loc) (ls : Array Slot), hG D (hA f sz) f s9 H locs → lv_has ls 2 [(0, .ref (A (b + 0))), (1, .int j9)] → W p9 l e9 ({ frames := 0, cells := 0, slots := 0, locals := 0 } : Room) s9 m9 ([.ref (A (b + 0)), .int j9] : List Value).toArray b9 t9 c9 H locs 0 0 (vx_MQ b9 (hQi (fun r u => r = (X2_battingTeam_x0 fi j9) ∧ u = f) D f sz) (hPx hNo D f sz) ([.ref (A (b + 0)), .int j9] : List Value).toArray s9 0 0 (hA f sz)) (F0 m9 19 ls [.int y12]) := by
    intro y12 ey12 H locs ls G hl
    replace ey12 := Eq.symm ey12
    subst ey12
    exact g_iret C0 G hr dX2_battingTeam_19 (Nat.le_of_ble_eq_true rfl) (Nat.le_of_ble_eq_true rfl) (by exact ⟨rfl, rfl⟩)
  refine lv_if_ne (tgt := 13) hx hb dX2_battingTeam_3 (by decide) (fun c11 => ?_) (fun c11 => ?_)
  · refine lv_iconst (v := 1) hx hb dX2_battingTeam_13 (by decide) ?_
    refine lv_aload_n hx hb dX2_battingTeam_14 rfl (lv_at hl 0 rfl) ?_
    refine g_get C0 G h_mt rfl hiX2 4 (by decide) mf_X2_28 rfl dX2_battingTeam_15 ?_
    refine lv_isub hx hb dX2_battingTeam_18 ?_
    exact J13 (1 - fi) (by rw [X2_battingTeam_x0, if_neg c11]) _ _ _ G (lv_sub hl [0, 1] rfl)
  · refine lv_aload_n hx hb dX2_battingTeam_6 rfl (lv_at hl 0 rfl) ?_
    refine g_get C0 G h_mt rfl hiX2 4 (by decide) mf_X2_28 rfl dX2_battingTeam_7 ?_
    refine lv_goto (tgt := 19) hx hb dX2_battingTeam_10 (by decide) ?_
    exact J13 fi (by rw [X2_battingTeam_x0, if_pos c11]) _ _ _ G (lv_sub hl [0, 1] rfl)
