def X8_isWithin_x0 (number : Int32) (most : Int32) : Int32 := if most < number then 0 else 1
def X8_isWithin_x1 (number : Int32) (least : Int32) (most : Int32) : Int32 := if number < least then 0 else (X8_isWithin_x0 number most)
set_option maxRecDepth 100000 in
theorem c_X8_isWithin {l : Launch} (hfl : l.stackTraces = false) {D : va_G} {cy : Nat → ClassId} {f : Hf} {sz : Nat} (number : Int32) (least : Int32) (most : Int32)   : hMet l yX8_isWithin cX8_isWithin 3 (some .boolean) { frames := 0, cells := 0, slots := 0, locals := 0 } D (hTy cy) f sz [.int number, .int least, .int most] (hQi (fun r u => r = (X8_isWithin_x1 number least most) ∧ u = f) D f sz) hNo := by
  refine h_enter (by decide) hfl (Nat.le_of_ble_eq_true rfl) ?_
  intro p9 e9 s9 m9 b9 t9 c9 hsz C0 hr hnm G ls hl
  have hx := C0.1.1
  have hb := C0.1.2.1
  have hl : lv_has ls 3 [(0, .int number), (1, .int least), (2, .int most)] := hl
  refine lv_iload_n hx hb dX8_isWithin_0 rfl (lv_at hl 1 rfl) ?_
  refine lv_iload_n hx hb dX8_isWithin_1 rfl (lv_at hl 0 rfl) ?_
  have J13 : ∀ (y12 : Int32) (_ : y12 = (X8_isWithin_x1 number least most)) (H : Heap) (locs : List Loc) (ls : Array Slot), hG D (hA f sz) f s9 H locs → lv_has ls 3 [(0, .int number), (1, .int least), (2, .int most)] → W p9 l e9 ({ frames := 0, cells := 0, slots := 0, locals := 0 } : Room) s9 m9 ([.int number, .int least, .int most] : List Value).toArray b9 t9 c9 H locs 0 0 (vx_MQ b9 (hQi (fun r u => r = (X8_isWithin_x1 number least most) ∧ u = f) D f sz) (hPx hNo D f sz) ([.int number, .int least, .int most] : List Value).toArray s9 0 0 (hA f sz)) (F0 m9 15 ls [.int y12]) := by
    intro y12 ey12 H locs ls G hl
    replace ey12 := Eq.symm ey12
    subst ey12
    exact g_zret C0 G hr dX8_isWithin_15 (hZb (by unfold X8_isWithin_x1; split; exact (Or.inl rfl); exact (by unfold X8_isWithin_x0; split; exact (Or.inl rfl); exact (Or.inr rfl)))) (Nat.le_of_ble_eq_true rfl) (Nat.le_of_ble_eq_true rfl) (by exact ⟨rfl, rfl⟩)
  refine lv_icmp_gt (tgt := 14) hx hb dX8_isWithin_2 (by decide) (fun c11 => ?_) (fun c11 => ?_)
  · refine lv_iconst (v := 0) hx hb dX8_isWithin_14 (by decide) ?_
    exact J13 0 (by rw [X8_isWithin_x1, if_pos c11]) _ _ _ G (lv_sub hl [0, 1, 2] rfl)
  · refine lv_iload_n hx hb dX8_isWithin_5 rfl (lv_at hl 0 rfl) ?_
    refine lv_iload_n hx hb dX8_isWithin_6 rfl (lv_at hl 2 rfl) ?_
    have J17 : ∀ (y16 : Int32) (_ : y16 = (X8_isWithin_x0 number most)) (H : Heap) (locs : List Loc) (ls : Array Slot), hG D (hA f sz) f s9 H locs → lv_has ls 3 [(0, .int number), (1, .int least), (2, .int most)] → W p9 l e9 ({ frames := 0, cells := 0, slots := 0, locals := 0 } : Room) s9 m9 ([.int number, .int least, .int most] : List Value).toArray b9 t9 c9 H locs 0 0 (vx_MQ b9 (hQi (fun r u => r = (X8_isWithin_x1 number least most) ∧ u = f) D f sz) (hPx hNo D f sz) ([.int number, .int least, .int most] : List Value).toArray s9 0 0 (hA f sz)) (F0 m9 15 ls [.int y16]) := by
      intro y16 ey16 H locs ls G hl
      replace ey16 := Eq.symm ey16
      subst ey16
      exact J13 (X8_isWithin_x0 number most) (by rw [X8_isWithin_x1, if_neg c11]) _ _ _ G (lv_sub hl [0, 1, 2] rfl)
    refine lv_icmp_gt (tgt := 14) hx hb dX8_isWithin_7 (by decide) (fun c15 => ?_) (fun c15 => ?_)
    · refine lv_iconst (v := 0) hx hb dX8_isWithin_14 (by decide) ?_
      exact J17 0 (by rw [X8_isWithin_x0, if_pos c15]) _ _ _ G (lv_sub hl [0, 1, 2] rfl)
    · refine lv_iconst (v := 1) hx hb dX8_isWithin_10 (by decide) ?_
      refine lv_goto (tgt := 15) hx hb dX8_isWithin_11 (by decide) ?_
      exact J17 1 (by rw [X8_isWithin_x0, if_neg c15]) _ _ _ G (lv_sub hl [0, 1, 2] rfl)
theorem b_c_X8_isWithin (number : Int32) (least : Int32) (most : Int32) : (X8_isWithin_x1 number least most) = 0 ∨ (X8_isWithin_x1 number least most) = 1 := (by unfold X8_isWithin_x1; split; exact (Or.inl rfl); exact (by unfold X8_isWithin_x0; split; exact (Or.inl rfl); exact (Or.inr rfl)))
set_option maxRecDepth 100000 in
theorem c_X8_isPlayer {l : Launch} (hfl : l.stackTraces = false) {D : va_G} {cy : Nat → ClassId} {f : Hf} {sz : Nat} (player : Int32)   : hMet l yX8_isPlayer cX8_isPlayer 1 (some .boolean) { frames := 1, cells := 0, slots := 0, locals := 22 } D (hTy cy) f sz [.int player] (hQi (fun r u => r = (X8_isWithin_x1 player 0 10) ∧ u = f) D f sz) hNo := by
  refine h_enter (by decide) hfl (Nat.le_of_ble_eq_true rfl) ?_
  intro p9 e9 s9 m9 b9 t9 c9 hsz C0 hr hnm G ls hl
  have hx := C0.1.1
  have hb := C0.1.2.1
  have hl : lv_has ls 1 [(0, .int player)] := hl
  refine lv_iload_n hx hb dX8_isPlayer_0 rfl (lv_at hl 0 rfl) ?_
  refine lv_iconst (v := 0) hx hb dX8_isPlayer_1 (by decide) ?_
  refine lv_bipush (v := 10) hx hb dX8_isPlayer_2 (by decide) ?_
  refine g_cI C0 G (g_runS C0 G (rest := []) (c_X8_isWithin hfl player 0 10 ) hY_X8_isWithin mm_X8_56 ms_X8_isWithin ⟨(Nat.le_of_ble_eq_true rfl), (Nat.le_of_ble_eq_true rfl)⟩ rfl hl.1 rfl (Nat.le_of_ble_eq_true rfl) dX8_isPlayer_4 ⟨(Nat.le_of_ble_eq_true rfl), (Nat.le_of_ble_eq_true rfl)⟩) (kx_no rfl) (fun r13 u12 H locs hp11 G => ?_)
  obtain ⟨zr, eu12⟩ := hp11
  replace zr := Eq.symm zr
  subst zr
  rw [eu12] at G
  exact g_zret C0 G hr dX8_isPlayer_7 (hZb (b_c_X8_isWithin player 0 10)) (Nat.le_of_ble_eq_true rfl) (Nat.le_of_ble_eq_true rfl) (by exact ⟨rfl, rfl⟩)
theorem b_c_X8_isPlayer (player : Int32) : (X8_isWithin_x1 player 0 10) = 0 ∨ (X8_isWithin_x1 player 0 10) = 1 := (b_c_X8_isWithin player 0 10)
def X8_leastRuns_x0 (kind : Int32) : Int32 := if kind = 4 then 1 else 0
def X8_leastRuns_x1 (kind : Int32) : Int32 := if kind = 3 then 1 else (X8_leastRuns_x0 kind)
set_option maxRecDepth 100000 in
theorem c_X8_leastRuns {l : Launch} (hfl : l.stackTraces = false) {D : va_G} {cy : Nat → ClassId} {f : Hf} {sz : Nat} (kind : Int32)   : hMet l yX8_leastRuns cX8_leastRuns 1 (some .int) { frames := 0, cells := 0, slots := 0, locals := 0 } D (hTy cy) f sz [.int kind] (hQi (fun r u => r = (X8_leastRuns_x1 kind) ∧ u = f) D f sz) hNo := by
  refine h_enter (by decide) hfl (Nat.le_of_ble_eq_true rfl) ?_
  intro p9 e9 s9 m9 b9 t9 c9 hsz C0 hr hnm G ls hl
  have hx := C0.1.1
  have hb := C0.1.2.1
  have hl : lv_has ls 1 [(0, .int kind)] := hl
  refine lv_iload_n hx hb dX8_leastRuns_0 rfl (lv_at hl 0 rfl) ?_
  refine lv_iconst (v := 3) hx hb dX8_leastRuns_1 (by decide) ?_
  have J13 : ∀ (y12 : Int32) (_ : y12 = (X8_leastRuns_x1 kind)) (H : Heap) (locs : List Loc) (ls : Array Slot), hG D (hA f sz) f s9 H locs → lv_has ls 1 [(0, .int kind)] → W p9 l e9 ({ frames := 0, cells := 0, slots := 0, locals := 0 } : Room) s9 m9 ([.int kind] : List Value).toArray b9 t9 c9 H locs 0 0 (vx_MQ b9 (hQi (fun r u => r = (X8_leastRuns_x1 kind) ∧ u = f) D f sz) (hPx hNo D f sz) ([.int kind] : List Value).toArray s9 0 0 (hA f sz)) (F0 m9 15 ls [.int y12]) := by
    intro y12 ey12 H locs ls G hl
    replace ey12 := Eq.symm ey12
    subst ey12
    exact g_iret C0 G hr dX8_leastRuns_15 (Nat.le_of_ble_eq_true rfl) (Nat.le_of_ble_eq_true rfl) (by exact ⟨rfl, rfl⟩)
  refine lv_icmp_eq (tgt := 10) hx hb dX8_leastRuns_2 (by decide) (fun c11 => ?_) (fun c11 => ?_)
  · refine lv_iconst (v := 1) hx hb dX8_leastRuns_10 (by decide) ?_
    refine lv_goto (tgt := 15) hx hb dX8_leastRuns_11 (by decide) ?_
    exact J13 1 (by rw [X8_leastRuns_x1, if_pos c11]) _ _ _ G (lv_sub hl [0] rfl)
  · refine lv_iload_n hx hb dX8_leastRuns_5 rfl (lv_at hl 0 rfl) ?_
    refine lv_iconst (v := 4) hx hb dX8_leastRuns_6 (by decide) ?_
    have J17 : ∀ (y16 : Int32) (_ : y16 = (X8_leastRuns_x0 kind)) (H : Heap) (locs : List Loc) (ls : Array Slot), hG D (hA f sz) f s9 H locs → lv_has ls 1 [(0, .int kind)] → W p9 l e9 ({ frames := 0, cells := 0, slots := 0, locals := 0 } : Room) s9 m9 ([.int kind] : List Value).toArray b9 t9 c9 H locs 0 0 (vx_MQ b9 (hQi (fun r u => r = (X8_leastRuns_x1 kind) ∧ u = f) D f sz) (hPx hNo D f sz) ([.int kind] : List Value).toArray s9 0 0 (hA f sz)) (F0 m9 15 ls [.int y16]) := by
      intro y16 ey16 H locs ls G hl
      replace ey16 := Eq.symm ey16
      subst ey16
      exact J13 (X8_leastRuns_x0 kind) (by rw [X8_leastRuns_x1, if_neg c11]) _ _ _ G (lv_sub hl [0] rfl)
    refine lv_icmp_ne (tgt := 14) hx hb dX8_leastRuns_7 (by decide) (fun c15 => ?_) (fun c15 => ?_)
    · refine lv_iconst (v := 0) hx hb dX8_leastRuns_14 (by decide) ?_
      exact J17 0 (by rw [X8_leastRuns_x0, if_neg c15]) _ _ _ G (lv_sub hl [0] rfl)
    · refine lv_iconst (v := 1) hx hb dX8_leastRuns_10 (by decide) ?_
      refine lv_goto (tgt := 15) hx hb dX8_leastRuns_11 (by decide) ?_
      exact J17 1 (by rw [X8_leastRuns_x0, if_pos c15]) _ _ _ G (lv_sub hl [0] rfl)
theorem b_c_X8_leastRuns (kind : Int32) : (X8_leastRuns_x1 kind) = 0 ∨ (X8_leastRuns_x1 kind) = 1 := (by unfold X8_leastRuns_x1; split; exact (Or.inr rfl); exact (by unfold X8_leastRuns_x0; split; exact (Or.inr rfl); exact (Or.inl rfl)))
def X8_mostRuns_n0 (kind : Int32) : Nat := if kind = 2 then 6 else 4
def X8_mostRuns_n1 (kind : Int32) : Nat := if kind = 0 then 6 else (X8_mostRuns_n0 kind)
def X8_mostRuns_r2 (kind : Int32) : Int32 := nI (X8_mostRuns_n1 kind)
set_option maxRecDepth 100000 in
theorem c_X8_mostRuns {l : Launch} (hfl : l.stackTraces = false) {D : va_G} {cy : Nat → ClassId} {f : Hf} {sz : Nat} (kind : Int32)   : hMet l yX8_mostRuns cX8_mostRuns 1 (some .int) { frames := 0, cells := 0, slots := 0, locals := 0 } D (hTy cy) f sz [.int kind] (hQi (fun r u => r = (X8_mostRuns_r2 kind) ∧ u = f) D f sz) hNo := by
  refine h_enter (by decide) hfl (Nat.le_of_ble_eq_true rfl) ?_
  intro p9 e9 s9 m9 b9 t9 c9 hsz C0 hr hnm G ls hl
  have hx := C0.1.1
  have hb := C0.1.2.1
  have hl : lv_has ls 1 [(0, .int kind)] := hl
  refine lv_iload_n hx hb dX8_mostRuns_0 rfl (lv_at hl 0 rfl) ?_
  have J13 : ∀ (y12 : Int32) (_ : y12 = nI (X8_mostRuns_n1 kind)) (H : Heap) (locs : List Loc) (ls : Array Slot), hG D (hA f sz) f s9 H locs → lv_has ls 1 [(0, .int kind)] → W p9 l e9 ({ frames := 0, cells := 0, slots := 0, locals := 0 } : Room) s9 m9 ([.int kind] : List Value).toArray b9 t9 c9 H locs 0 0 (vx_MQ b9 (hQi (fun r u => r = (X8_mostRuns_r2 kind) ∧ u = f) D f sz) (hPx hNo D f sz) ([.int kind] : List Value).toArray s9 0 0 (hA f sz)) (F0 m9 15 ls [.int y12]) := by
    intro y12 ey12 H locs ls G hl
    replace ey12 := Eq.symm ey12
    subst ey12
    have bd15 : (X8_mostRuns_n1 kind) ≤ 6 := by unfold X8_mostRuns_n1 X8_mostRuns_n0; repeat (first | omega | split)
    exact g_iret C0 G hr dX8_mostRuns_15 (Nat.le_of_ble_eq_true rfl) (Nat.le_of_ble_eq_true rfl) (by exact ⟨(by rw [X8_mostRuns_r2]), rfl⟩)
  refine lv_if_eq (tgt := 9) hx hb dX8_mostRuns_1 (by decide) (fun c11 => ?_) (fun c11 => ?_)
  · refine lv_bipush (v := 6) hx hb dX8_mostRuns_9 (by decide) ?_
    refine lv_goto (tgt := 15) hx hb dX8_mostRuns_11 (by decide) ?_
    exact J13 6 (by rw [X8_mostRuns_n1, if_pos c11] <;> rfl) _ _ _ G (lv_sub hl [0] rfl)
  · refine lv_iload_n hx hb dX8_mostRuns_4 rfl (lv_at hl 0 rfl) ?_
    refine lv_iconst (v := 2) hx hb dX8_mostRuns_5 (by decide) ?_
    have J18 : ∀ (y17 : Int32) (_ : y17 = nI (X8_mostRuns_n0 kind)) (H : Heap) (locs : List Loc) (ls : Array Slot), hG D (hA f sz) f s9 H locs → lv_has ls 1 [(0, .int kind)] → W p9 l e9 ({ frames := 0, cells := 0, slots := 0, locals := 0 } : Room) s9 m9 ([.int kind] : List Value).toArray b9 t9 c9 H locs 0 0 (vx_MQ b9 (hQi (fun r u => r = (X8_mostRuns_r2 kind) ∧ u = f) D f sz) (hPx hNo D f sz) ([.int kind] : List Value).toArray s9 0 0 (hA f sz)) (F0 m9 15 ls [.int y17]) := by
      intro y17 ey17 H locs ls G hl
      replace ey17 := Eq.symm ey17
      subst ey17
      have bd20 : (X8_mostRuns_n0 kind) ≤ 6 := by unfold X8_mostRuns_n0; repeat (first | omega | split)
      exact J13 (nI (X8_mostRuns_n0 kind)) (by rw [X8_mostRuns_n1, if_neg c11] <;> rfl) _ _ _ G (lv_sub hl [0] rfl)
    refine lv_icmp_ne (tgt := 14) hx hb dX8_mostRuns_6 (by decide) (fun c16 => ?_) (fun c16 => ?_)
    · refine lv_iconst (v := 4) hx hb dX8_mostRuns_14 (by decide) ?_
      exact J18 4 (by rw [X8_mostRuns_n0, if_neg c16] <;> rfl) _ _ _ G (lv_sub hl [0] rfl)
    · refine lv_bipush (v := 6) hx hb dX8_mostRuns_9 (by decide) ?_
      refine lv_goto (tgt := 15) hx hb dX8_mostRuns_11 (by decide) ?_
      exact J18 6 (by rw [X8_mostRuns_n0, if_pos c16] <;> rfl) _ _ _ G (lv_sub hl [0] rfl)
def X8_canBeBoundary_x0 (runs : Int32) : Int32 := if runs = 6 then 1 else 0
def X8_canBeBoundary_x1 (runs : Int32) : Int32 := if runs = 4 then 1 else (X8_canBeBoundary_x0 runs)
def X8_canBeBoundary_x2 (kind : Int32) (runs : Int32) : Int32 := if kind = 2 then (X8_canBeBoundary_x1 runs) else 0
def X8_canBeBoundary_x3 (kind : Int32) (runs : Int32) : Int32 := if kind = 0 then (X8_canBeBoundary_x1 runs) else (X8_canBeBoundary_x2 kind runs)
set_option maxRecDepth 100000 in
theorem c_X8_canBeBoundary {l : Launch} (hfl : l.stackTraces = false) {D : va_G} {cy : Nat → ClassId} {f : Hf} {sz : Nat} (kind : Int32) (runs : Int32)   : hMet l yX8_canBeBoundary cX8_canBeBoundary 2 (some .boolean) { frames := 0, cells := 0, slots := 0, locals := 0 } D (hTy cy) f sz [.int kind, .int runs] (hQi (fun r u => r = (X8_canBeBoundary_x3 kind runs) ∧ u = f) D f sz) hNo := by
  refine h_enter (by decide) hfl (Nat.le_of_ble_eq_true rfl) ?_
  intro p9 e9 s9 m9 b9 t9 c9 hsz C0 hr hnm G ls hl
  have hx := C0.1.1
  have hb := C0.1.2.1
  have hl : lv_has ls 2 [(0, .int kind), (1, .int runs)] := hl
  refine lv_iload_n hx hb dX8_canBeBoundary_0 rfl (lv_at hl 0 rfl) ?_
  have J13 : ∀ (y12 : Int32) (_ : y12 = (X8_canBeBoundary_x3 kind runs)) (H : Heap) (locs : List Loc) (ls : Array Slot), hG D (hA f sz) f s9 H locs → lv_has ls 2 [(0, .int kind), (1, .int runs)] → W p9 l e9 ({ frames := 0, cells := 0, slots := 0, locals := 0 } : Room) s9 m9 ([.int kind, .int runs] : List Value).toArray b9 t9 c9 H locs 0 0 (vx_MQ b9 (hQi (fun r u => r = (X8_canBeBoundary_x3 kind runs) ∧ u = f) D f sz) (hPx hNo D f sz) ([.int kind, .int runs] : List Value).toArray s9 0 0 (hA f sz)) (F0 m9 25 ls [.int y12]) := by
    intro y12 ey12 H locs ls G hl
    replace ey12 := Eq.symm ey12
    subst ey12
    exact g_zret C0 G hr dX8_canBeBoundary_25 (hZb (by unfold X8_canBeBoundary_x3; split; exact (by unfold X8_canBeBoundary_x1; split; exact (Or.inr rfl); exact (by unfold X8_canBeBoundary_x0; split; exact (Or.inr rfl); exact (Or.inl rfl))); exact (by unfold X8_canBeBoundary_x2; split; exact (by unfold X8_canBeBoundary_x1; split; exact (Or.inr rfl); exact (by unfold X8_canBeBoundary_x0; split; exact (Or.inr rfl); exact (Or.inl rfl))); exact (Or.inl rfl)))) (Nat.le_of_ble_eq_true rfl) (Nat.le_of_ble_eq_true rfl) (by exact ⟨rfl, rfl⟩)
  refine lv_if_eq (tgt := 9) hx hb dX8_canBeBoundary_1 (by decide) (fun c11 => ?_) (fun c11 => ?_)
  · refine lv_iload_n hx hb dX8_canBeBoundary_9 rfl (lv_at hl 1 rfl) ?_
    refine lv_iconst (v := 4) hx hb dX8_canBeBoundary_10 (by decide) ?_
    have J17 : ∀ (y16 : Int32) (_ : y16 = (X8_canBeBoundary_x1 runs)) (H : Heap) (locs : List Loc) (ls : Array Slot), hG D (hA f sz) f s9 H locs → lv_has ls 2 [(0, .int kind), (1, .int runs)] → W p9 l e9 ({ frames := 0, cells := 0, slots := 0, locals := 0 } : Room) s9 m9 ([.int kind, .int runs] : List Value).toArray b9 t9 c9 H locs 0 0 (vx_MQ b9 (hQi (fun r u => r = (X8_canBeBoundary_x3 kind runs) ∧ u = f) D f sz) (hPx hNo D f sz) ([.int kind, .int runs] : List Value).toArray s9 0 0 (hA f sz)) (F0 m9 25 ls [.int y16]) := by
      intro y16 ey16 H locs ls G hl
      replace ey16 := Eq.symm ey16
      subst ey16
      exact J13 (X8_canBeBoundary_x1 runs) (by rw [X8_canBeBoundary_x3, if_pos c11]) _ _ _ G (lv_sub hl [0, 1] rfl)
    refine lv_icmp_eq (tgt := 20) hx hb dX8_canBeBoundary_11 (by decide) (fun c15 => ?_) (fun c15 => ?_)
    · refine lv_iconst (v := 1) hx hb dX8_canBeBoundary_20 (by decide) ?_
      refine lv_goto (tgt := 25) hx hb dX8_canBeBoundary_21 (by decide) ?_
      exact J17 1 (by rw [X8_canBeBoundary_x1, if_pos c15]) _ _ _ G (lv_sub hl [0, 1] rfl)
    · refine lv_iload_n hx hb dX8_canBeBoundary_14 rfl (lv_at hl 1 rfl) ?_
      refine lv_bipush (v := 6) hx hb dX8_canBeBoundary_15 (by decide) ?_
      have J21 : ∀ (y20 : Int32) (_ : y20 = (X8_canBeBoundary_x0 runs)) (H : Heap) (locs : List Loc) (ls : Array Slot), hG D (hA f sz) f s9 H locs → lv_has ls 2 [(0, .int kind), (1, .int runs)] → W p9 l e9 ({ frames := 0, cells := 0, slots := 0, locals := 0 } : Room) s9 m9 ([.int kind, .int runs] : List Value).toArray b9 t9 c9 H locs 0 0 (vx_MQ b9 (hQi (fun r u => r = (X8_canBeBoundary_x3 kind runs) ∧ u = f) D f sz) (hPx hNo D f sz) ([.int kind, .int runs] : List Value).toArray s9 0 0 (hA f sz)) (F0 m9 25 ls [.int y20]) := by
        intro y20 ey20 H locs ls G hl
        replace ey20 := Eq.symm ey20
        subst ey20
        exact J17 (X8_canBeBoundary_x0 runs) (by rw [X8_canBeBoundary_x1, if_neg c15]) _ _ _ G (lv_sub hl [0, 1] rfl)
      refine lv_icmp_ne (tgt := 24) hx hb dX8_canBeBoundary_17 (by decide) (fun c19 => ?_) (fun c19 => ?_)
      · refine lv_iconst (v := 0) hx hb dX8_canBeBoundary_24 (by decide) ?_
        exact J21 0 (by rw [X8_canBeBoundary_x0, if_neg c19]) _ _ _ G (lv_sub hl [0, 1] rfl)
      · refine lv_iconst (v := 1) hx hb dX8_canBeBoundary_20 (by decide) ?_
        refine lv_goto (tgt := 25) hx hb dX8_canBeBoundary_21 (by decide) ?_
        exact J21 1 (by rw [X8_canBeBoundary_x0, if_pos c19]) _ _ _ G (lv_sub hl [0, 1] rfl)
  · refine lv_iload_n hx hb dX8_canBeBoundary_4 rfl (lv_at hl 0 rfl) ?_
    refine lv_iconst (v := 2) hx hb dX8_canBeBoundary_5 (by decide) ?_
    have J25 : ∀ (y24 : Int32) (_ : y24 = (X8_canBeBoundary_x2 kind runs)) (H : Heap) (locs : List Loc) (ls : Array Slot), hG D (hA f sz) f s9 H locs → lv_has ls 2 [(0, .int kind), (1, .int runs)] → W p9 l e9 ({ frames := 0, cells := 0, slots := 0, locals := 0 } : Room) s9 m9 ([.int kind, .int runs] : List Value).toArray b9 t9 c9 H locs 0 0 (vx_MQ b9 (hQi (fun r u => r = (X8_canBeBoundary_x3 kind runs) ∧ u = f) D f sz) (hPx hNo D f sz) ([.int kind, .int runs] : List Value).toArray s9 0 0 (hA f sz)) (F0 m9 25 ls [.int y24]) := by
      intro y24 ey24 H locs ls G hl
      replace ey24 := Eq.symm ey24
      subst ey24
      exact J13 (X8_canBeBoundary_x2 kind runs) (by rw [X8_canBeBoundary_x3, if_neg c11]) _ _ _ G (lv_sub hl [0, 1] rfl)
    refine lv_icmp_ne (tgt := 24) hx hb dX8_canBeBoundary_6 (by decide) (fun c23 => ?_) (fun c23 => ?_)
    · refine lv_iconst (v := 0) hx hb dX8_canBeBoundary_24 (by decide) ?_
      exact J25 0 (by rw [X8_canBeBoundary_x2, if_neg c23]) _ _ _ G (lv_sub hl [0, 1] rfl)
    · refine lv_iload_n hx hb dX8_canBeBoundary_9 rfl (lv_at hl 1 rfl) ?_
      refine lv_iconst (v := 4) hx hb dX8_canBeBoundary_10 (by decide) ?_
      have J29 : ∀ (y28 : Int32) (_ : y28 = (X8_canBeBoundary_x1 runs)) (H : Heap) (locs : List Loc) (ls : Array Slot), hG D (hA f sz) f s9 H locs → lv_has ls 2 [(0, .int kind), (1, .int runs)] → W p9 l e9 ({ frames := 0, cells := 0, slots := 0, locals := 0 } : Room) s9 m9 ([.int kind, .int runs] : List Value).toArray b9 t9 c9 H locs 0 0 (vx_MQ b9 (hQi (fun r u => r = (X8_canBeBoundary_x3 kind runs) ∧ u = f) D f sz) (hPx hNo D f sz) ([.int kind, .int runs] : List Value).toArray s9 0 0 (hA f sz)) (F0 m9 25 ls [.int y28]) := by
        intro y28 ey28 H locs ls G hl
        replace ey28 := Eq.symm ey28
        subst ey28
        exact J25 (X8_canBeBoundary_x1 runs) (by rw [X8_canBeBoundary_x2, if_pos c23]) _ _ _ G (lv_sub hl [0, 1] rfl)
      refine lv_icmp_eq (tgt := 20) hx hb dX8_canBeBoundary_11 (by decide) (fun c27 => ?_) (fun c27 => ?_)
      · refine lv_iconst (v := 1) hx hb dX8_canBeBoundary_20 (by decide) ?_
        refine lv_goto (tgt := 25) hx hb dX8_canBeBoundary_21 (by decide) ?_
        exact J29 1 (by rw [X8_canBeBoundary_x1, if_pos c27]) _ _ _ G (lv_sub hl [0, 1] rfl)
      · refine lv_iload_n hx hb dX8_canBeBoundary_14 rfl (lv_at hl 1 rfl) ?_
        refine lv_bipush (v := 6) hx hb dX8_canBeBoundary_15 (by decide) ?_
        have J33 : ∀ (y32 : Int32) (_ : y32 = (X8_canBeBoundary_x0 runs)) (H : Heap) (locs : List Loc) (ls : Array Slot), hG D (hA f sz) f s9 H locs → lv_has ls 2 [(0, .int kind), (1, .int runs)] → W p9 l e9 ({ frames := 0, cells := 0, slots := 0, locals := 0 } : Room) s9 m9 ([.int kind, .int runs] : List Value).toArray b9 t9 c9 H locs 0 0 (vx_MQ b9 (hQi (fun r u => r = (X8_canBeBoundary_x3 kind runs) ∧ u = f) D f sz) (hPx hNo D f sz) ([.int kind, .int runs] : List Value).toArray s9 0 0 (hA f sz)) (F0 m9 25 ls [.int y32]) := by
          intro y32 ey32 H locs ls G hl
          replace ey32 := Eq.symm ey32
          subst ey32
          exact J29 (X8_canBeBoundary_x0 runs) (by rw [X8_canBeBoundary_x1, if_neg c27]) _ _ _ G (lv_sub hl [0, 1] rfl)
        refine lv_icmp_ne (tgt := 24) hx hb dX8_canBeBoundary_17 (by decide) (fun c31 => ?_) (fun c31 => ?_)
        · refine lv_iconst (v := 0) hx hb dX8_canBeBoundary_24 (by decide) ?_
          exact J33 0 (by rw [X8_canBeBoundary_x0, if_neg c31]) _ _ _ G (lv_sub hl [0, 1] rfl)
        · refine lv_iconst (v := 1) hx hb dX8_canBeBoundary_20 (by decide) ?_
          refine lv_goto (tgt := 25) hx hb dX8_canBeBoundary_21 (by decide) ?_
          exact J33 1 (by rw [X8_canBeBoundary_x0, if_pos c31]) _ _ _ G (lv_sub hl [0, 1] rfl)
theorem b_c_X8_canBeBoundary (kind : Int32) (runs : Int32) : (X8_canBeBoundary_x3 kind runs) = 0 ∨ (X8_canBeBoundary_x3 kind runs) = 1 := (by unfold X8_canBeBoundary_x3; split; exact (by unfold X8_canBeBoundary_x1; split; exact (Or.inr rfl); exact (by unfold X8_canBeBoundary_x0; split; exact (Or.inr rfl); exact (Or.inl rfl))); exact (by unfold X8_canBeBoundary_x2; split; exact (by unfold X8_canBeBoundary_x1; split; exact (Or.inr rfl); exact (by unfold X8_canBeBoundary_x0; split; exact (Or.inr rfl); exact (Or.inl rfl))); exact (Or.inl rfl)))
def X3_quota_r0 (limit : Int32) : Int32 := (limit + 4) / 5
set_option maxRecDepth 100000 in
theorem c_X3_quota {l : Launch} (hfl : l.stackTraces = false) {D : va_G} {cy : Nat → ClassId} {f : Hf} {sz : Nat} (limit : Int32)   : hMet l yX3_quota cX3_quota 1 (some .int) { frames := 0, cells := 0, slots := 0, locals := 0 } D (hTy cy) f sz [.int limit] (hQi (fun r u => r = (X3_quota_r0 limit) ∧ u = f) D f sz) hNo := by
  refine h_enter (by decide) hfl (Nat.le_of_ble_eq_true rfl) ?_
  intro p9 e9 s9 m9 b9 t9 c9 hsz C0 hr hnm G ls hl
  have hx := C0.1.1
  have hb := C0.1.2.1
  have hl : lv_has ls 1 [(0, .int limit)] := hl
  refine lv_iload_n hx hb dX3_quota_0 rfl (lv_at hl 0 rfl) ?_
  refine lv_iconst (v := 4) hx hb dX3_quota_1 (by decide) ?_
  refine lv_iadd hx hb dX3_quota_2 ?_
  refine lv_iconst (v := 5) hx hb dX3_quota_3 (by decide) ?_
  refine lv_idiv hx hb dX3_quota_4 (by decide) ?_
  exact g_iret C0 G hr dX3_quota_5 (Nat.le_of_ble_eq_true rfl) (Nat.le_of_ble_eq_true rfl) (by exact ⟨(by rw [X3_quota_r0]), rfl⟩)
def X5_isLegal_x0 (kd : Int32) : Int32 := if kd = 2 then 0 else 1
def X5_isLegal_x1 (kd : Int32) : Int32 := if kd = 1 then 0 else (X5_isLegal_x0 kd)
set_option maxRecDepth 100000 in
theorem c_X5_isLegal {l : Launch} (hfl : l.stackTraces = false) {D : va_G} {cy : Nat → ClassId} {f : Hf} {sz : Nat} {st : Nat} {ty : Int32} {nu : Int32} {wy : Int32} {kd : Int32} {ru : Int32} {so : Int32} {sb : Int32} {sc : Int32} {sh : Int32} (h_st : f st = some (.inr (7, [.int ty, .int nu, .int wy, .int kd, .int ru, .int so, .int sb, .int sc, .int sh])))  : hMet l yX5_isLegal cX5_isLegal 1 (some .boolean) { frames := 0, cells := 0, slots := 0, locals := 0 } D (hTy cy) f sz [.ref st] (hQi (fun r u => r = (X5_isLegal_x1 kd) ∧ u = f) D f sz) hNo := by
  refine h_enter (by decide) hfl (Nat.le_of_ble_eq_true rfl) ?_
  intro p9 e9 s9 m9 b9 t9 c9 hsz C0 hr hnm G ls hl
  have hx := C0.1.1
  have hb := C0.1.2.1
  have hl : lv_has ls 1 [(0, .ref st)] := hl
  refine lv_aload_n hx hb dX5_isLegal_0 rfl (lv_at hl 0 rfl) ?_
  refine g_get C0 G h_st rfl hiX5 3 (by decide) mf_X5_21 rfl dX5_isLegal_1 ?_
  refine lv_iconst (v := 1) hx hb dX5_isLegal_4 (by decide) ?_
  have J13 : ∀ (y12 : Int32) (_ : y12 = (X5_isLegal_x1 kd)) (H : Heap) (locs : List Loc) (ls : Array Slot), hG D (hA f sz) f s9 H locs → lv_has ls 1 [(0, .ref st)] → W p9 l e9 ({ frames := 0, cells := 0, slots := 0, locals := 0 } : Room) s9 m9 ([.ref st] : List Value).toArray b9 t9 c9 H locs 0 0 (vx_MQ b9 (hQi (fun r u => r = (X5_isLegal_x1 kd) ∧ u = f) D f sz) (hPx hNo D f sz) ([.ref st] : List Value).toArray s9 0 0 (hA f sz)) (F0 m9 21 ls [.int y12]) := by
    intro y12 ey12 H locs ls G hl
    replace ey12 := Eq.symm ey12
    subst ey12
    exact g_zret C0 G hr dX5_isLegal_21 (hZb (by unfold X5_isLegal_x1; split; exact (Or.inl rfl); exact (by unfold X5_isLegal_x0; split; exact (Or.inl rfl); exact (Or.inr rfl)))) (Nat.le_of_ble_eq_true rfl) (Nat.le_of_ble_eq_true rfl) (by exact ⟨rfl, rfl⟩)
  refine lv_icmp_eq (tgt := 20) hx hb dX5_isLegal_5 (by decide) (fun c11 => ?_) (fun c11 => ?_)
  · refine lv_iconst (v := 0) hx hb dX5_isLegal_20 (by decide) ?_
    exact J13 0 (by rw [X5_isLegal_x1, if_pos c11]) _ _ _ G (lv_sub hl [0] rfl)
  · refine lv_aload_n hx hb dX5_isLegal_8 rfl (lv_at hl 0 rfl) ?_
    refine g_get C0 G h_st rfl hiX5 3 (by decide) mf_X5_21 rfl dX5_isLegal_9 ?_
    refine lv_iconst (v := 2) hx hb dX5_isLegal_12 (by decide) ?_
    have J17 : ∀ (y16 : Int32) (_ : y16 = (X5_isLegal_x0 kd)) (H : Heap) (locs : List Loc) (ls : Array Slot), hG D (hA f sz) f s9 H locs → lv_has ls 1 [(0, .ref st)] → W p9 l e9 ({ frames := 0, cells := 0, slots := 0, locals := 0 } : Room) s9 m9 ([.ref st] : List Value).toArray b9 t9 c9 H locs 0 0 (vx_MQ b9 (hQi (fun r u => r = (X5_isLegal_x1 kd) ∧ u = f) D f sz) (hPx hNo D f sz) ([.ref st] : List Value).toArray s9 0 0 (hA f sz)) (F0 m9 21 ls [.int y16]) := by
      intro y16 ey16 H locs ls G hl
      replace ey16 := Eq.symm ey16
      subst ey16
      exact J13 (X5_isLegal_x0 kd) (by rw [X5_isLegal_x1, if_neg c11]) _ _ _ G (lv_sub hl [0] rfl)
    refine lv_icmp_eq (tgt := 20) hx hb dX5_isLegal_13 (by decide) (fun c15 => ?_) (fun c15 => ?_)
    · refine lv_iconst (v := 0) hx hb dX5_isLegal_20 (by decide) ?_
      exact J17 0 (by rw [X5_isLegal_x0, if_pos c15]) _ _ _ G (lv_sub hl [0] rfl)
    · refine lv_iconst (v := 1) hx hb dX5_isLegal_16 (by decide) ?_
      refine lv_goto (tgt := 21) hx hb dX5_isLegal_17 (by decide) ?_
      exact J17 1 (by rw [X5_isLegal_x0, if_neg c15]) _ _ _ G (lv_sub hl [0] rfl)
theorem b_c_X5_isLegal (kd : Int32) : (X5_isLegal_x1 kd) = 0 ∨ (X5_isLegal_x1 kd) = 1 := (by unfold X5_isLegal_x1; split; exact (Or.inl rfl); exact (by unfold X5_isLegal_x0; split; exact (Or.inl rfl); exact (Or.inr rfl)))
def X5_teamRuns_x0 (kd : Int32) (ru : Int32) : Int32 := if kd = 2 then (ru + 1) else ru
def X5_teamRuns_x1 (kd : Int32) (ru : Int32) : Int32 := if kd = 1 then (ru + 1) else (X5_teamRuns_x0 kd ru)
set_option maxRecDepth 100000 in
theorem c_X5_teamRuns {l : Launch} (hfl : l.stackTraces = false) {D : va_G} {cy : Nat → ClassId} {f : Hf} {sz : Nat} {st : Nat} {ty : Int32} {nu : Int32} {wy : Int32} {kd : Int32} {ru : Int32} {so : Int32} {sb : Int32} {sc : Int32} {sh : Int32} (h_st : f st = some (.inr (7, [.int ty, .int nu, .int wy, .int kd, .int ru, .int so, .int sb, .int sc, .int sh])))  : hMet l yX5_teamRuns cX5_teamRuns 1 (some .int) { frames := 0, cells := 0, slots := 0, locals := 0 } D (hTy cy) f sz [.ref st] (hQi (fun r u => r = (X5_teamRuns_x1 kd ru) ∧ u = f) D f sz) hNo := by
  refine h_enter (by decide) hfl (Nat.le_of_ble_eq_true rfl) ?_
  intro p9 e9 s9 m9 b9 t9 c9 hsz C0 hr hnm G ls hl
  have hx := C0.1.1
  have hb := C0.1.2.1
  have hl : lv_has ls 1 [(0, .ref st)] := hl
  refine lv_aload_n hx hb dX5_teamRuns_0 rfl (lv_at hl 0 rfl) ?_
  refine g_get C0 G h_st rfl hiX5 3 (by decide) mf_X5_21 rfl dX5_teamRuns_1 ?_
  refine lv_iconst (v := 1) hx hb dX5_teamRuns_4 (by decide) ?_
  have J13 : ∀ (y12 : Int32) (_ : y12 = (X5_teamRuns_x1 kd ru)) (H : Heap) (locs : List Loc) (ls : Array Slot), hG D (hA f sz) f s9 H locs → lv_has ls 1 [(0, .ref st)] → W p9 l e9 ({ frames := 0, cells := 0, slots := 0, locals := 0 } : Room) s9 m9 ([.ref st] : List Value).toArray b9 t9 c9 H locs 0 0 (vx_MQ b9 (hQi (fun r u => r = (X5_teamRuns_x1 kd ru) ∧ u = f) D f sz) (hPx hNo D f sz) ([.ref st] : List Value).toArray s9 0 0 (hA f sz)) (F0 m9 29 ls [.int y12]) := by
    intro y12 ey12 H locs ls G hl
    replace ey12 := Eq.symm ey12
    subst ey12
    exact g_iret C0 G hr dX5_teamRuns_29 (Nat.le_of_ble_eq_true rfl) (Nat.le_of_ble_eq_true rfl) (by exact ⟨rfl, rfl⟩)
  refine lv_icmp_eq (tgt := 16) hx hb dX5_teamRuns_5 (by decide) (fun c11 => ?_) (fun c11 => ?_)
  · refine lv_aload_n hx hb dX5_teamRuns_16 rfl (lv_at hl 0 rfl) ?_
    refine g_get C0 G h_st rfl hiX5 4 (by decide) mf_X5_24 rfl dX5_teamRuns_17 ?_
    refine lv_iconst (v := 1) hx hb dX5_teamRuns_20 (by decide) ?_
    refine lv_iadd hx hb dX5_teamRuns_21 ?_
    refine lv_goto (tgt := 29) hx hb dX5_teamRuns_22 (by decide) ?_
    exact J13 (ru + 1) (by rw [X5_teamRuns_x1, if_pos c11]) _ _ _ G (lv_sub hl [0] rfl)
  · refine lv_aload_n hx hb dX5_teamRuns_8 rfl (lv_at hl 0 rfl) ?_
    refine g_get C0 G h_st rfl hiX5 3 (by decide) mf_X5_21 rfl dX5_teamRuns_9 ?_
    refine lv_iconst (v := 2) hx hb dX5_teamRuns_12 (by decide) ?_
    have J17 : ∀ (y16 : Int32) (_ : y16 = (X5_teamRuns_x0 kd ru)) (H : Heap) (locs : List Loc) (ls : Array Slot), hG D (hA f sz) f s9 H locs → lv_has ls 1 [(0, .ref st)] → W p9 l e9 ({ frames := 0, cells := 0, slots := 0, locals := 0 } : Room) s9 m9 ([.ref st] : List Value).toArray b9 t9 c9 H locs 0 0 (vx_MQ b9 (hQi (fun r u => r = (X5_teamRuns_x1 kd ru) ∧ u = f) D f sz) (hPx hNo D f sz) ([.ref st] : List Value).toArray s9 0 0 (hA f sz)) (F0 m9 29 ls [.int y16]) := by
      intro y16 ey16 H locs ls G hl
      replace ey16 := Eq.symm ey16
      subst ey16
      exact J13 (X5_teamRuns_x0 kd ru) (by rw [X5_teamRuns_x1, if_neg c11]) _ _ _ G (lv_sub hl [0] rfl)
    refine lv_icmp_ne (tgt := 25) hx hb dX5_teamRuns_13 (by decide) (fun c15 => ?_) (fun c15 => ?_)
    · refine lv_aload_n hx hb dX5_teamRuns_25 rfl (lv_at hl 0 rfl) ?_
      refine g_get C0 G h_st rfl hiX5 4 (by decide) mf_X5_24 rfl dX5_teamRuns_26 ?_
      exact J17 ru (by rw [X5_teamRuns_x0, if_neg c15]) _ _ _ G (lv_sub hl [0] rfl)
    · refine lv_aload_n hx hb dX5_teamRuns_16 rfl (lv_at hl 0 rfl) ?_
      refine g_get C0 G h_st rfl hiX5 4 (by decide) mf_X5_24 rfl dX5_teamRuns_17 ?_
      refine lv_iconst (v := 1) hx hb dX5_teamRuns_20 (by decide) ?_
      refine lv_iadd hx hb dX5_teamRuns_21 ?_
      refine lv_goto (tgt := 29) hx hb dX5_teamRuns_22 (by decide) ?_
      exact J17 (ru + 1) (by rw [X5_teamRuns_x0, if_pos c15]) _ _ _ G (lv_sub hl [0] rfl)
def X5_strikerRuns_x0 (kd : Int32) (ru : Int32) : Int32 := if kd = 2 then ru else 0
def X5_strikerRuns_x1 (kd : Int32) (ru : Int32) : Int32 := if kd = 0 then ru else (X5_strikerRuns_x0 kd ru)
set_option maxRecDepth 100000 in
theorem c_X5_strikerRuns {l : Launch} (hfl : l.stackTraces = false) {D : va_G} {cy : Nat → ClassId} {f : Hf} {sz : Nat} {st : Nat} {ty : Int32} {nu : Int32} {wy : Int32} {kd : Int32} {ru : Int32} {so : Int32} {sb : Int32} {sc : Int32} {sh : Int32} (h_st : f st = some (.inr (7, [.int ty, .int nu, .int wy, .int kd, .int ru, .int so, .int sb, .int sc, .int sh])))  : hMet l yX5_strikerRuns cX5_strikerRuns 1 (some .int) { frames := 0, cells := 0, slots := 0, locals := 0 } D (hTy cy) f sz [.ref st] (hQi (fun r u => r = (X5_strikerRuns_x1 kd ru) ∧ u = f) D f sz) hNo := by
  refine h_enter (by decide) hfl (Nat.le_of_ble_eq_true rfl) ?_
  intro p9 e9 s9 m9 b9 t9 c9 hsz C0 hr hnm G ls hl
  have hx := C0.1.1
  have hb := C0.1.2.1
  have hl : lv_has ls 1 [(0, .ref st)] := hl
  refine lv_aload_n hx hb dX5_strikerRuns_0 rfl (lv_at hl 0 rfl) ?_
  refine g_get C0 G h_st rfl hiX5 3 (by decide) mf_X5_21 rfl dX5_strikerRuns_1 ?_
  have J13 : ∀ (y12 : Int32) (_ : y12 = (X5_strikerRuns_x1 kd ru)) (H : Heap) (locs : List Loc) (ls : Array Slot), hG D (hA f sz) f s9 H locs → lv_has ls 1 [(0, .ref st)] → W p9 l e9 ({ frames := 0, cells := 0, slots := 0, locals := 0 } : Room) s9 m9 ([.ref st] : List Value).toArray b9 t9 c9 H locs 0 0 (vx_MQ b9 (hQi (fun r u => r = (X5_strikerRuns_x1 kd ru) ∧ u = f) D f sz) (hPx hNo D f sz) ([.ref st] : List Value).toArray s9 0 0 (hA f sz)) (F0 m9 23 ls [.int y12]) := by
    intro y12 ey12 H locs ls G hl
    replace ey12 := Eq.symm ey12
    subst ey12
    exact g_iret C0 G hr dX5_strikerRuns_23 (Nat.le_of_ble_eq_true rfl) (Nat.le_of_ble_eq_true rfl) (by exact ⟨rfl, rfl⟩)
  refine lv_if_eq (tgt := 15) hx hb dX5_strikerRuns_4 (by decide) (fun c11 => ?_) (fun c11 => ?_)
  · refine lv_aload_n hx hb dX5_strikerRuns_15 rfl (lv_at hl 0 rfl) ?_
    refine g_get C0 G h_st rfl hiX5 4 (by decide) mf_X5_24 rfl dX5_strikerRuns_16 ?_
    refine lv_goto (tgt := 23) hx hb dX5_strikerRuns_19 (by decide) ?_
    exact J13 ru (by rw [X5_strikerRuns_x1, if_pos c11]) _ _ _ G (lv_sub hl [0] rfl)
  · refine lv_aload_n hx hb dX5_strikerRuns_7 rfl (lv_at hl 0 rfl) ?_
    refine g_get C0 G h_st rfl hiX5 3 (by decide) mf_X5_21 rfl dX5_strikerRuns_8 ?_
    refine lv_iconst (v := 2) hx hb dX5_strikerRuns_11 (by decide) ?_
    have J17 : ∀ (y16 : Int32) (_ : y16 = (X5_strikerRuns_x0 kd ru)) (H : Heap) (locs : List Loc) (ls : Array Slot), hG D (hA f sz) f s9 H locs → lv_has ls 1 [(0, .ref st)] → W p9 l e9 ({ frames := 0, cells := 0, slots := 0, locals := 0 } : Room) s9 m9 ([.ref st] : List Value).toArray b9 t9 c9 H locs 0 0 (vx_MQ b9 (hQi (fun r u => r = (X5_strikerRuns_x1 kd ru) ∧ u = f) D f sz) (hPx hNo D f sz) ([.ref st] : List Value).toArray s9 0 0 (hA f sz)) (F0 m9 23 ls [.int y16]) := by
      intro y16 ey16 H locs ls G hl
      replace ey16 := Eq.symm ey16
      subst ey16
      exact J13 (X5_strikerRuns_x0 kd ru) (by rw [X5_strikerRuns_x1, if_neg c11]) _ _ _ G (lv_sub hl [0] rfl)
    refine lv_icmp_ne (tgt := 22) hx hb dX5_strikerRuns_12 (by decide) (fun c15 => ?_) (fun c15 => ?_)
    · refine lv_iconst (v := 0) hx hb dX5_strikerRuns_22 (by decide) ?_
      exact J17 0 (by rw [X5_strikerRuns_x0, if_neg c15]) _ _ _ G (lv_sub hl [0] rfl)
    · refine lv_aload_n hx hb dX5_strikerRuns_15 rfl (lv_at hl 0 rfl) ?_
      refine g_get C0 G h_st rfl hiX5 4 (by decide) mf_X5_24 rfl dX5_strikerRuns_16 ?_
      refine lv_goto (tgt := 23) hx hb dX5_strikerRuns_19 (by decide) ?_
      exact J17 ru (by rw [X5_strikerRuns_x0, if_pos c15]) _ _ _ G (lv_sub hl [0] rfl)
def X5_bowlerRuns_x0 (kd : Int32) (ru : Int32) : Int32 := if kd = 0 then ru else (ru + 1)
def X5_bowlerRuns_r1 (kd : Int32) (ru : Int32) : Int32 := if kd = 3 then 0 else (if kd = 4 then 0 else (X5_bowlerRuns_x0 kd ru))
set_option maxRecDepth 100000 in
theorem c_X5_bowlerRuns {l : Launch} (hfl : l.stackTraces = false) {D : va_G} {cy : Nat → ClassId} {f : Hf} {sz : Nat} {st : Nat} {ty : Int32} {nu : Int32} {wy : Int32} {kd : Int32} {ru : Int32} {so : Int32} {sb : Int32} {sc : Int32} {sh : Int32} (h_st : f st = some (.inr (7, [.int ty, .int nu, .int wy, .int kd, .int ru, .int so, .int sb, .int sc, .int sh])))  : hMet l yX5_bowlerRuns cX5_bowlerRuns 1 (some .int) { frames := 0, cells := 0, slots := 0, locals := 0 } D (hTy cy) f sz [.ref st] (hQi (fun r u => r = (X5_bowlerRuns_r1 kd ru) ∧ u = f) D f sz) hNo := by
  refine h_enter (by decide) hfl (Nat.le_of_ble_eq_true rfl) ?_
  intro p9 e9 s9 m9 b9 t9 c9 hsz C0 hr hnm G ls hl
  have hx := C0.1.1
  have hb := C0.1.2.1
  have hl : lv_has ls 1 [(0, .ref st)] := hl
  refine lv_aload_n hx hb dX5_bowlerRuns_0 rfl (lv_at hl 0 rfl) ?_
  refine g_get C0 G h_st rfl hiX5 3 (by decide) mf_X5_21 rfl dX5_bowlerRuns_1 ?_
  refine lv_iconst (v := 3) hx hb dX5_bowlerRuns_4 (by decide) ?_
  refine lv_icmp_eq (tgt := 16) hx hb dX5_bowlerRuns_5 (by decide) (fun c11 => ?_) (fun c11 => ?_)
  · refine lv_iconst (v := 0) hx hb dX5_bowlerRuns_16 (by decide) ?_
    exact g_iret C0 G hr dX5_bowlerRuns_17 (Nat.le_of_ble_eq_true rfl) (Nat.le_of_ble_eq_true rfl) (by exact ⟨(by rw [X5_bowlerRuns_r1, if_pos c11]), rfl⟩)
  · refine lv_aload_n hx hb dX5_bowlerRuns_8 rfl (lv_at hl 0 rfl) ?_
    refine g_get C0 G h_st rfl hiX5 3 (by decide) mf_X5_21 rfl dX5_bowlerRuns_9 ?_
    refine lv_iconst (v := 4) hx hb dX5_bowlerRuns_12 (by decide) ?_
    refine lv_icmp_ne (tgt := 18) hx hb dX5_bowlerRuns_13 (by decide) (fun c12 => ?_) (fun c12 => ?_)
    · refine lv_aload_n hx hb dX5_bowlerRuns_18 rfl (lv_at hl 0 rfl) ?_
      refine g_get C0 G h_st rfl hiX5 3 (by decide) mf_X5_21 rfl dX5_bowlerRuns_19 ?_
      have J15 : ∀ (y14 : Int32) (_ : y14 = (X5_bowlerRuns_x0 kd ru)) (H : Heap) (locs : List Loc) (ls : Array Slot), hG D (hA f sz) f s9 H locs → lv_has ls 1 [(0, .ref st)] → W p9 l e9 ({ frames := 0, cells := 0, slots := 0, locals := 0 } : Room) s9 m9 ([.ref st] : List Value).toArray b9 t9 c9 H locs 0 0 (vx_MQ b9 (hQi (fun r u => r = (X5_bowlerRuns_r1 kd ru) ∧ u = f) D f sz) (hPx hNo D f sz) ([.ref st] : List Value).toArray s9 0 0 (hA f sz)) (F0 m9 38 ls [.int y14]) := by
        intro y14 ey14 H locs ls G hl
        replace ey14 := Eq.symm ey14
        subst ey14
        exact g_iret C0 G hr dX5_bowlerRuns_38 (Nat.le_of_ble_eq_true rfl) (Nat.le_of_ble_eq_true rfl) (by exact ⟨(by rw [X5_bowlerRuns_r1, if_neg c11, if_neg c12]), rfl⟩)
      refine lv_if_ne (tgt := 32) hx hb dX5_bowlerRuns_22 (by decide) (fun c13 => ?_) (fun c13 => ?_)
      · refine lv_aload_n hx hb dX5_bowlerRuns_32 rfl (lv_at hl 0 rfl) ?_
        refine g_get C0 G h_st rfl hiX5 4 (by decide) mf_X5_24 rfl dX5_bowlerRuns_33 ?_
        refine lv_iconst (v := 1) hx hb dX5_bowlerRuns_36 (by decide) ?_
        refine lv_iadd hx hb dX5_bowlerRuns_37 ?_
        exact J15 (ru + 1) (by rw [X5_bowlerRuns_x0, if_neg c13]) _ _ _ G (lv_sub hl [0] rfl)
      · refine lv_aload_n hx hb dX5_bowlerRuns_25 rfl (lv_at hl 0 rfl) ?_
        refine g_get C0 G h_st rfl hiX5 4 (by decide) mf_X5_24 rfl dX5_bowlerRuns_26 ?_
        refine lv_goto (tgt := 38) hx hb dX5_bowlerRuns_29 (by decide) ?_
        exact J15 ru (by rw [X5_bowlerRuns_x0, if_pos c13]) _ _ _ G (lv_sub hl [0] rfl)
    · refine lv_iconst (v := 0) hx hb dX5_bowlerRuns_16 (by decide) ?_
      exact g_iret C0 G hr dX5_bowlerRuns_17 (Nat.le_of_ble_eq_true rfl) (Nat.le_of_ble_eq_true rfl) (by exact ⟨(by rw [X5_bowlerRuns_r1, if_neg c11, if_pos c12]), rfl⟩)
def X5_changesEnds_x0 (ru : Int32) : Int32 := if (ru &&& 1) = 1 then 1 else 0
def X5_changesEnds_x1 (ru : Int32) (sb : Int32) : Int32 := if sb = 0 then (X5_changesEnds_x0 ru) else 0
set_option maxRecDepth 100000 in
theorem c_X5_changesEnds {l : Launch} (hfl : l.stackTraces = false) {D : va_G} {cy : Nat → ClassId} {f : Hf} {sz : Nat} {st : Nat} {ty : Int32} {nu : Int32} {wy : Int32} {kd : Int32} {ru : Int32} {so : Int32} {sb : Int32} {sc : Int32} {sh : Int32} (h_st : f st = some (.inr (7, [.int ty, .int nu, .int wy, .int kd, .int ru, .int so, .int sb, .int sc, .int sh])))  : hMet l yX5_changesEnds cX5_changesEnds 1 (some .boolean) { frames := 0, cells := 0, slots := 0, locals := 0 } D (hTy cy) f sz [.ref st] (hQi (fun r u => r = (X5_changesEnds_x1 ru sb) ∧ u = f) D f sz) hNo := by
  refine h_enter (by decide) hfl (Nat.le_of_ble_eq_true rfl) ?_
  intro p9 e9 s9 m9 b9 t9 c9 hsz C0 hr hnm G ls hl
  have hx := C0.1.1
  have hb := C0.1.2.1
  have hl : lv_has ls 1 [(0, .ref st)] := hl
  refine lv_aload_n hx hb dX5_changesEnds_0 rfl (lv_at hl 0 rfl) ?_
  refine g_get C0 G h_st rfl hiX5 6 (by decide) mf_X5_27 rfl dX5_changesEnds_1 ?_
  have J13 : ∀ (y12 : Int32) (_ : y12 = (X5_changesEnds_x1 ru sb)) (H : Heap) (locs : List Loc) (ls : Array Slot), hG D (hA f sz) f s9 H locs → lv_has ls 1 [(0, .ref st)] → W p9 l e9 ({ frames := 0, cells := 0, slots := 0, locals := 0 } : Room) s9 m9 ([.ref st] : List Value).toArray b9 t9 c9 H locs 0 0 (vx_MQ b9 (hQi (fun r u => r = (X5_changesEnds_x1 ru sb) ∧ u = f) D f sz) (hPx hNo D f sz) ([.ref st] : List Value).toArray s9 0 0 (hA f sz)) (F0 m9 22 ls [.int y12]) := by
    intro y12 ey12 H locs ls G hl
    replace ey12 := Eq.symm ey12
    subst ey12
    exact g_zret C0 G hr dX5_changesEnds_22 (hZb (by unfold X5_changesEnds_x1; split; exact (by unfold X5_changesEnds_x0; split; exact (Or.inr rfl); exact (Or.inl rfl)); exact (Or.inl rfl))) (Nat.le_of_ble_eq_true rfl) (Nat.le_of_ble_eq_true rfl) (by exact ⟨rfl, rfl⟩)
  refine lv_if_ne (tgt := 21) hx hb dX5_changesEnds_4 (by decide) (fun c11 => ?_) (fun c11 => ?_)
  · refine lv_iconst (v := 0) hx hb dX5_changesEnds_21 (by decide) ?_
    exact J13 0 (by rw [X5_changesEnds_x1, if_neg c11]) _ _ _ G (lv_sub hl [0] rfl)
  · refine lv_aload_n hx hb dX5_changesEnds_7 rfl (lv_at hl 0 rfl) ?_
    refine g_get C0 G h_st rfl hiX5 4 (by decide) mf_X5_24 rfl dX5_changesEnds_8 ?_
    refine lv_iconst (v := 1) hx hb dX5_changesEnds_11 (by decide) ?_
    refine lv_iand hx hb dX5_changesEnds_12 ?_
    refine lv_iconst (v := 1) hx hb dX5_changesEnds_13 (by decide) ?_
    have J17 : ∀ (y16 : Int32) (_ : y16 = (X5_changesEnds_x0 ru)) (H : Heap) (locs : List Loc) (ls : Array Slot), hG D (hA f sz) f s9 H locs → lv_has ls 1 [(0, .ref st)] → W p9 l e9 ({ frames := 0, cells := 0, slots := 0, locals := 0 } : Room) s9 m9 ([.ref st] : List Value).toArray b9 t9 c9 H locs 0 0 (vx_MQ b9 (hQi (fun r u => r = (X5_changesEnds_x1 ru sb) ∧ u = f) D f sz) (hPx hNo D f sz) ([.ref st] : List Value).toArray s9 0 0 (hA f sz)) (F0 m9 22 ls [.int y16]) := by
      intro y16 ey16 H locs ls G hl
      replace ey16 := Eq.symm ey16
      subst ey16
      exact J13 (X5_changesEnds_x0 ru) (by rw [X5_changesEnds_x1, if_pos c11]) _ _ _ G (lv_sub hl [0] rfl)
    refine lv_icmp_ne (tgt := 21) hx hb dX5_changesEnds_14 (by decide) (fun c15 => ?_) (fun c15 => ?_)
    · refine lv_iconst (v := 0) hx hb dX5_changesEnds_21 (by decide) ?_
      exact J17 0 (by rw [X5_changesEnds_x0, if_neg c15]) _ _ _ G (lv_sub hl [0] rfl)
    · refine lv_iconst (v := 1) hx hb dX5_changesEnds_17 (by decide) ?_
      refine lv_goto (tgt := 22) hx hb dX5_changesEnds_18 (by decide) ?_
      exact J17 1 (by rw [X5_changesEnds_x0, if_pos c15]) _ _ _ G (lv_sub hl [0] rfl)
theorem b_c_X5_changesEnds (ru : Int32) (sb : Int32) : (X5_changesEnds_x1 ru sb) = 0 ∨ (X5_changesEnds_x1 ru sb) = 1 := (by unfold X5_changesEnds_x1; split; exact (by unfold X5_changesEnds_x0; split; exact (Or.inr rfl); exact (Or.inl rfl)); exact (Or.inl rfl))
def X5_isPossibleWicket_x0 (wy : Int32) : Int32 := if wy = 3 then 1 else 0
def X5_isPossibleWicket_x1 (wy : Int32) (kd : Int32) : Int32 := if kd = 1 then (X5_isPossibleWicket_x0 wy) else 0
def X5_isPossibleWicket_x2 (wy : Int32) (kd : Int32) : Int32 := if kd = 0 then 1 else (X5_isPossibleWicket_x1 wy kd)
def X5_isPossibleWicket_x3 (wy : Int32) : Int32 := if wy = 1 then 1 else 0
def X5_isPossibleWicket_x4 (wy : Int32) (sc : Int32) : Int32 := if sc = 0 then 1 else (X5_isPossibleWicket_x3 wy)
def X5_isPossibleWicket_x5 (wy : Int32) (ru : Int32) (sc : Int32) : Int32 := if ru = 0 then (X5_isPossibleWicket_x4 wy sc) else 0
def X5_isPossibleWicket_x6 (wy : Int32) (ru : Int32) (so : Int32) (sc : Int32) : Int32 := if so = 0 then (X5_isPossibleWicket_x5 wy ru sc) else 0
def X5_isPossibleWicket_x7 (wy : Int32) (kd : Int32) (ru : Int32) (so : Int32) (sc : Int32) : Int32 := if (X5_isPossibleWicket_x2 wy kd) = 0 then 0 else (X5_isPossibleWicket_x6 wy ru so sc)
def X5_isPossibleWicket_r8 (wy : Int32) (kd : Int32) (ru : Int32) (so : Int32) (sc : Int32) : Int32 := if wy = 5 then 1 else (X5_isPossibleWicket_x7 wy kd ru so sc)
set_option maxRecDepth 100000 in
theorem c_X5_isPossibleWicket {l : Launch} (hfl : l.stackTraces = false) {D : va_G} {cy : Nat → ClassId} {f : Hf} {sz : Nat} {st : Nat} {ty : Int32} {nu : Int32} {wy : Int32} {kd : Int32} {ru : Int32} {so : Int32} {sb : Int32} {sc : Int32} {sh : Int32} (h_st : f st = some (.inr (7, [.int ty, .int nu, .int wy, .int kd, .int ru, .int so, .int sb, .int sc, .int sh])))  : hMet l yX5_isPossibleWicket cX5_isPossibleWicket 2 (some .boolean) { frames := 0, cells := 0, slots := 0, locals := 0 } D (hTy cy) f sz [.ref st] (hQi (fun r u => r = (X5_isPossibleWicket_r8 wy kd ru so sc) ∧ u = f) D f sz) hNo := by
  refine h_enter (by decide) hfl (Nat.le_of_ble_eq_true rfl) ?_
  intro p9 e9 s9 m9 b9 t9 c9 hsz C0 hr hnm G ls hl
  have hx := C0.1.1
  have hb := C0.1.2.1
  have hl : lv_has ls 2 [(0, .ref st)] := hl
  refine lv_aload_n hx hb dX5_isPossibleWicket_0 rfl (lv_at hl 0 rfl) ?_
  refine g_get C0 G h_st rfl hiX5 2 (by decide) mf_X5_31 rfl dX5_isPossibleWicket_1 ?_
  refine lv_iconst (v := 5) hx hb dX5_isPossibleWicket_4 (by decide) ?_
  refine lv_icmp_ne (tgt := 10) hx hb dX5_isPossibleWicket_5 (by decide) (fun c11 => ?_) (fun c11 => ?_)
  · refine lv_aload_n hx hb dX5_isPossibleWicket_10 rfl (lv_at hl 0 rfl) ?_
    refine g_get C0 G h_st rfl hiX5 3 (by decide) mf_X5_21 rfl dX5_isPossibleWicket_11 ?_
    have J14 : ∀ (y13 : Int32) (_ : y13 = (X5_isPossibleWicket_x2 wy kd)) (H : Heap) (locs : List Loc) (ls : Array Slot), hG D (hA f sz) f s9 H locs → lv_has ls 2 [(0, .ref st)] → W p9 l e9 ({ frames := 0, cells := 0, slots := 0, locals := 0 } : Room) s9 m9 ([.ref st] : List Value).toArray b9 t9 c9 H locs 0 0 (vx_MQ b9 (hQi (fun r u => r = (X5_isPossibleWicket_r8 wy kd ru so sc) ∧ u = f) D f sz) (hPx hNo D f sz) ([.ref st] : List Value).toArray s9 0 0 (hA f sz)) (F0 m9 38 ls [.int y13]) := by
      intro y13 ey13 H locs ls G hl
      replace ey13 := Eq.symm ey13
      subst ey13
      refine lv_istore_n (lv' := [(1, .int (X5_isPossibleWicket_x2 wy kd)), (0, .ref st)]) hx hb dX5_isPossibleWicket_38 rfl hl (by decide) rfl (fun ls hl => ?_)
      refine lv_iload_n hx hb dX5_isPossibleWicket_39 rfl (lv_at hl 0 rfl) ?_
      have J18 : ∀ (y17 : Int32) (_ : y17 = (X5_isPossibleWicket_x7 wy kd ru so sc)) (H : Heap) (locs : List Loc) (ls : Array Slot), hG D (hA f sz) f s9 H locs → lv_has ls 2 [(1, .int (X5_isPossibleWicket_x2 wy kd)), (0, .ref st)] → W p9 l e9 ({ frames := 0, cells := 0, slots := 0, locals := 0 } : Room) s9 m9 ([.ref st] : List Value).toArray b9 t9 c9 H locs 0 0 (vx_MQ b9 (hQi (fun r u => r = (X5_isPossibleWicket_r8 wy kd ru so sc) ∧ u = f) D f sz) (hPx hNo D f sz) ([.ref st] : List Value).toArray s9 0 0 (hA f sz)) (F0 m9 77 ls [.int y17]) := by
        intro y17 ey17 H locs ls G hl
        replace ey17 := Eq.symm ey17
        subst ey17
        exact g_zret C0 G hr dX5_isPossibleWicket_77 (hZb (by unfold X5_isPossibleWicket_x7; split; exact (Or.inl rfl); exact (by unfold X5_isPossibleWicket_x6; split; exact (by unfold X5_isPossibleWicket_x5; split; exact (by unfold X5_isPossibleWicket_x4; split; exact (Or.inr rfl); exact (by unfold X5_isPossibleWicket_x3; split; exact (Or.inr rfl); exact (Or.inl rfl))); exact (Or.inl rfl)); exact (Or.inl rfl)))) (Nat.le_of_ble_eq_true rfl) (Nat.le_of_ble_eq_true rfl) (by exact ⟨(by rw [X5_isPossibleWicket_r8, if_neg c11]), rfl⟩)
      refine lv_if_eq (tgt := 76) hx hb dX5_isPossibleWicket_40 (by decide) (fun c16 => ?_) (fun c16 => ?_)
      · refine lv_iconst (v := 0) hx hb dX5_isPossibleWicket_76 (by decide) ?_
        exact J18 0 (by rw [X5_isPossibleWicket_x7, if_pos c16]) _ _ _ G (lv_sub hl [0, 1] rfl)
      · refine lv_aload_n hx hb dX5_isPossibleWicket_43 rfl (lv_at hl 1 rfl) ?_
        refine g_get C0 G h_st rfl hiX5 5 (by decide) mf_X5_34 rfl dX5_isPossibleWicket_44 ?_
        have J22 : ∀ (y21 : Int32) (_ : y21 = (X5_isPossibleWicket_x6 wy ru so sc)) (H : Heap) (locs : List Loc) (ls : Array Slot), hG D (hA f sz) f s9 H locs → lv_has ls 2 [(1, .int (X5_isPossibleWicket_x2 wy kd)), (0, .ref st)] → W p9 l e9 ({ frames := 0, cells := 0, slots := 0, locals := 0 } : Room) s9 m9 ([.ref st] : List Value).toArray b9 t9 c9 H locs 0 0 (vx_MQ b9 (hQi (fun r u => r = (X5_isPossibleWicket_r8 wy kd ru so sc) ∧ u = f) D f sz) (hPx hNo D f sz) ([.ref st] : List Value).toArray s9 0 0 (hA f sz)) (F0 m9 77 ls [.int y21]) := by
          intro y21 ey21 H locs ls G hl
          replace ey21 := Eq.symm ey21
          subst ey21
          exact J18 (X5_isPossibleWicket_x6 wy ru so sc) (by rw [X5_isPossibleWicket_x7, if_neg c16]) _ _ _ G (lv_sub hl [0, 1] rfl)
        refine lv_if_ne (tgt := 76) hx hb dX5_isPossibleWicket_47 (by decide) (fun c20 => ?_) (fun c20 => ?_)
        · refine lv_iconst (v := 0) hx hb dX5_isPossibleWicket_76 (by decide) ?_
          exact J22 0 (by rw [X5_isPossibleWicket_x6, if_neg c20]) _ _ _ G (lv_sub hl [0, 1] rfl)
        · refine lv_aload_n hx hb dX5_isPossibleWicket_50 rfl (lv_at hl 1 rfl) ?_
          refine g_get C0 G h_st rfl hiX5 4 (by decide) mf_X5_24 rfl dX5_isPossibleWicket_51 ?_
          have J26 : ∀ (y25 : Int32) (_ : y25 = (X5_isPossibleWicket_x5 wy ru sc)) (H : Heap) (locs : List Loc) (ls : Array Slot), hG D (hA f sz) f s9 H locs → lv_has ls 2 [(1, .int (X5_isPossibleWicket_x2 wy kd)), (0, .ref st)] → W p9 l e9 ({ frames := 0, cells := 0, slots := 0, locals := 0 } : Room) s9 m9 ([.ref st] : List Value).toArray b9 t9 c9 H locs 0 0 (vx_MQ b9 (hQi (fun r u => r = (X5_isPossibleWicket_r8 wy kd ru so sc) ∧ u = f) D f sz) (hPx hNo D f sz) ([.ref st] : List Value).toArray s9 0 0 (hA f sz)) (F0 m9 77 ls [.int y25]) := by
            intro y25 ey25 H locs ls G hl
            replace ey25 := Eq.symm ey25
            subst ey25
            exact J22 (X5_isPossibleWicket_x5 wy ru sc) (by rw [X5_isPossibleWicket_x6, if_pos c20]) _ _ _ G (lv_sub hl [0, 1] rfl)
          refine lv_if_ne (tgt := 76) hx hb dX5_isPossibleWicket_54 (by decide) (fun c24 => ?_) (fun c24 => ?_)
          · refine lv_iconst (v := 0) hx hb dX5_isPossibleWicket_76 (by decide) ?_
            exact J26 0 (by rw [X5_isPossibleWicket_x5, if_neg c24]) _ _ _ G (lv_sub hl [0, 1] rfl)
          · refine lv_aload_n hx hb dX5_isPossibleWicket_57 rfl (lv_at hl 1 rfl) ?_
            refine g_get C0 G h_st rfl hiX5 7 (by decide) mf_X5_37 rfl dX5_isPossibleWicket_58 ?_
            have J30 : ∀ (y29 : Int32) (_ : y29 = (X5_isPossibleWicket_x4 wy sc)) (H : Heap) (locs : List Loc) (ls : Array Slot), hG D (hA f sz) f s9 H locs → lv_has ls 2 [(1, .int (X5_isPossibleWicket_x2 wy kd)), (0, .ref st)] → W p9 l e9 ({ frames := 0, cells := 0, slots := 0, locals := 0 } : Room) s9 m9 ([.ref st] : List Value).toArray b9 t9 c9 H locs 0 0 (vx_MQ b9 (hQi (fun r u => r = (X5_isPossibleWicket_r8 wy kd ru so sc) ∧ u = f) D f sz) (hPx hNo D f sz) ([.ref st] : List Value).toArray s9 0 0 (hA f sz)) (F0 m9 77 ls [.int y29]) := by
              intro y29 ey29 H locs ls G hl
              replace ey29 := Eq.symm ey29
              subst ey29
              exact J26 (X5_isPossibleWicket_x4 wy sc) (by rw [X5_isPossibleWicket_x5, if_pos c24]) _ _ _ G (lv_sub hl [0, 1] rfl)
            refine lv_if_eq (tgt := 72) hx hb dX5_isPossibleWicket_61 (by decide) (fun c28 => ?_) (fun c28 => ?_)
            · refine lv_iconst (v := 1) hx hb dX5_isPossibleWicket_72 (by decide) ?_
              refine lv_goto (tgt := 77) hx hb dX5_isPossibleWicket_73 (by decide) ?_
              exact J30 1 (by rw [X5_isPossibleWicket_x4, if_pos c28]) _ _ _ G (lv_sub hl [0, 1] rfl)
            · refine lv_aload_n hx hb dX5_isPossibleWicket_64 rfl (lv_at hl 1 rfl) ?_
              refine g_get C0 G h_st rfl hiX5 2 (by decide) mf_X5_31 rfl dX5_isPossibleWicket_65 ?_
              refine lv_iconst (v := 1) hx hb dX5_isPossibleWicket_68 (by decide) ?_
              have J34 : ∀ (y33 : Int32) (_ : y33 = (X5_isPossibleWicket_x3 wy)) (H : Heap) (locs : List Loc) (ls : Array Slot), hG D (hA f sz) f s9 H locs → lv_has ls 2 [(1, .int (X5_isPossibleWicket_x2 wy kd)), (0, .ref st)] → W p9 l e9 ({ frames := 0, cells := 0, slots := 0, locals := 0 } : Room) s9 m9 ([.ref st] : List Value).toArray b9 t9 c9 H locs 0 0 (vx_MQ b9 (hQi (fun r u => r = (X5_isPossibleWicket_r8 wy kd ru so sc) ∧ u = f) D f sz) (hPx hNo D f sz) ([.ref st] : List Value).toArray s9 0 0 (hA f sz)) (F0 m9 77 ls [.int y33]) := by
                intro y33 ey33 H locs ls G hl
                replace ey33 := Eq.symm ey33
                subst ey33
                exact J30 (X5_isPossibleWicket_x3 wy) (by rw [X5_isPossibleWicket_x4, if_neg c28]) _ _ _ G (lv_sub hl [0, 1] rfl)
              refine lv_icmp_ne (tgt := 76) hx hb dX5_isPossibleWicket_69 (by decide) (fun c32 => ?_) (fun c32 => ?_)
              · refine lv_iconst (v := 0) hx hb dX5_isPossibleWicket_76 (by decide) ?_
                exact J34 0 (by rw [X5_isPossibleWicket_x3, if_neg c32]) _ _ _ G (lv_sub hl [0, 1] rfl)
              · refine lv_iconst (v := 1) hx hb dX5_isPossibleWicket_72 (by decide) ?_
                refine lv_goto (tgt := 77) hx hb dX5_isPossibleWicket_73 (by decide) ?_
                exact J34 1 (by rw [X5_isPossibleWicket_x3, if_pos c32]) _ _ _ G (lv_sub hl [0, 1] rfl)
    refine lv_if_eq (tgt := 33) hx hb dX5_isPossibleWicket_14 (by decide) (fun c12 => ?_) (fun c12 => ?_)
    · refine lv_iconst (v := 1) hx hb dX5_isPossibleWicket_33 (by decide) ?_
      refine lv_goto (tgt := 38) hx hb dX5_isPossibleWicket_34 (by decide) ?_
      exact J14 1 (by rw [X5_isPossibleWicket_x2, if_pos c12]) _ _ _ G (lv_sub hl [0] rfl)
    · refine lv_aload_n hx hb dX5_isPossibleWicket_17 rfl (lv_at hl 0 rfl) ?_
      refine g_get C0 G h_st rfl hiX5 3 (by decide) mf_X5_21 rfl dX5_isPossibleWicket_18 ?_
      refine lv_iconst (v := 1) hx hb dX5_isPossibleWicket_21 (by decide) ?_
      have J38 : ∀ (y37 : Int32) (_ : y37 = (X5_isPossibleWicket_x1 wy kd)) (H : Heap) (locs : List Loc) (ls : Array Slot), hG D (hA f sz) f s9 H locs → lv_has ls 2 [(0, .ref st)] → W p9 l e9 ({ frames := 0, cells := 0, slots := 0, locals := 0 } : Room) s9 m9 ([.ref st] : List Value).toArray b9 t9 c9 H locs 0 0 (vx_MQ b9 (hQi (fun r u => r = (X5_isPossibleWicket_r8 wy kd ru so sc) ∧ u = f) D f sz) (hPx hNo D f sz) ([.ref st] : List Value).toArray s9 0 0 (hA f sz)) (F0 m9 38 ls [.int y37]) := by
        intro y37 ey37 H locs ls G hl
        replace ey37 := Eq.symm ey37
        subst ey37
        exact J14 (X5_isPossibleWicket_x1 wy kd) (by rw [X5_isPossibleWicket_x2, if_neg c12]) _ _ _ G (lv_sub hl [0] rfl)
      refine lv_icmp_ne (tgt := 37) hx hb dX5_isPossibleWicket_22 (by decide) (fun c36 => ?_) (fun c36 => ?_)
      · refine lv_iconst (v := 0) hx hb dX5_isPossibleWicket_37 (by decide) ?_
        exact J38 0 (by rw [X5_isPossibleWicket_x1, if_neg c36]) _ _ _ G (lv_sub hl [0] rfl)
      · refine lv_aload_n hx hb dX5_isPossibleWicket_25 rfl (lv_at hl 0 rfl) ?_
        refine g_get C0 G h_st rfl hiX5 2 (by decide) mf_X5_31 rfl dX5_isPossibleWicket_26 ?_
        refine lv_iconst (v := 3) hx hb dX5_isPossibleWicket_29 (by decide) ?_
        have J42 : ∀ (y41 : Int32) (_ : y41 = (X5_isPossibleWicket_x0 wy)) (H : Heap) (locs : List Loc) (ls : Array Slot), hG D (hA f sz) f s9 H locs → lv_has ls 2 [(0, .ref st)] → W p9 l e9 ({ frames := 0, cells := 0, slots := 0, locals := 0 } : Room) s9 m9 ([.ref st] : List Value).toArray b9 t9 c9 H locs 0 0 (vx_MQ b9 (hQi (fun r u => r = (X5_isPossibleWicket_r8 wy kd ru so sc) ∧ u = f) D f sz) (hPx hNo D f sz) ([.ref st] : List Value).toArray s9 0 0 (hA f sz)) (F0 m9 38 ls [.int y41]) := by
          intro y41 ey41 H locs ls G hl
          replace ey41 := Eq.symm ey41
          subst ey41
          exact J38 (X5_isPossibleWicket_x0 wy) (by rw [X5_isPossibleWicket_x1, if_pos c36]) _ _ _ G (lv_sub hl [0] rfl)
        refine lv_icmp_ne (tgt := 37) hx hb dX5_isPossibleWicket_30 (by decide) (fun c40 => ?_) (fun c40 => ?_)
        · refine lv_iconst (v := 0) hx hb dX5_isPossibleWicket_37 (by decide) ?_
          exact J42 0 (by rw [X5_isPossibleWicket_x0, if_neg c40]) _ _ _ G (lv_sub hl [0] rfl)
        · refine lv_iconst (v := 1) hx hb dX5_isPossibleWicket_33 (by decide) ?_
          refine lv_goto (tgt := 38) hx hb dX5_isPossibleWicket_34 (by decide) ?_
          exact J42 1 (by rw [X5_isPossibleWicket_x0, if_pos c40]) _ _ _ G (lv_sub hl [0] rfl)
  · refine lv_iconst (v := 1) hx hb dX5_isPossibleWicket_8 (by decide) ?_
    exact g_zret C0 G hr dX5_isPossibleWicket_9 rfl (Nat.le_of_ble_eq_true rfl) (Nat.le_of_ble_eq_true rfl) (by exact ⟨(by rw [X5_isPossibleWicket_r8, if_pos c11]), rfl⟩)
theorem b_c_X5_isPossibleWicket (wy : Int32) (kd : Int32) (ru : Int32) (so : Int32) (sc : Int32) : (X5_isPossibleWicket_r8 wy kd ru so sc) = 0 ∨ (X5_isPossibleWicket_r8 wy kd ru so sc) = 1 := (by unfold X5_isPossibleWicket_r8; split; exact (Or.inr rfl); exact (by unfold X5_isPossibleWicket_x7; split; exact (Or.inl rfl); exact (by unfold X5_isPossibleWicket_x6; split; exact (by unfold X5_isPossibleWicket_x5; split; exact (by unfold X5_isPossibleWicket_x4; split; exact (Or.inr rfl); exact (by unfold X5_isPossibleWicket_x3; split; exact (Or.inr rfl); exact (Or.inl rfl))); exact (Or.inl rfl)); exact (Or.inl rfl))))
set_option maxRecDepth 100000 in
theorem c_X3_rest {l : Launch} (hfl : l.stackTraces = false) {D : va_G} {cy : Nat → ClassId} {f : Hf} {sz : Nat} {o : Nat} {oa : Nat} {lm : Int32} {lf : Int32} {oc : Int32} {bw : Int32} {bb : Int32} {bl : Int32} {cd : Int32} {hbg : Int32} (h_o : f o = some (.inr (5, [.ref oa, .int lm, .int lf, .int oc, .int bw, .int bb, .int bl, .int cd, .int hbg])))  : hMet l yX3_rest cX3_rest 1 none { frames := 0, cells := 0, slots := 0, locals := 0 } D (hTy cy) f sz [.ref o] (hQv (fun u => u o = some (.inr (5, [.ref oa, .int lm, .int lf, .int oc, .int (-1), .int bb, .int 0, .int 0, .int 0])) ∧ hFrL f u [o]) D f sz) hNo := by
  refine h_enter (by decide) hfl (Nat.le_of_ble_eq_true rfl) ?_
  intro p9 e9 s9 m9 b9 t9 c9 hsz C0 hr hnm G ls hl
  have hx := C0.1.1
  have hb := C0.1.2.1
  have hl : lv_has ls 1 [(0, .ref o)] := hl
  refine lv_aload_n hx hb dX3_rest_0 rfl (lv_at hl 0 rfl) ?_
  refine lv_iconst (v := (-1)) hx hb dX3_rest_1 (by decide) ?_
  refine g_put C0 G h_o rfl hiX3 tyX3 tyX3_ok nmX3 4 (by decide) mf_X3_25 rfl rfl rfl rfl (Nat.le_of_ble_eq_true rfl) dX3_rest_2 (fun H locs f11 hf11 G => ?_)
  have k12 : f11 o = some (.inr (5, [.ref oa, .int lm, .int lf, .int oc, .int (-1), .int bb, .int bl, .int cd, .int hbg])) := hus hf11
  refine lv_aload_n hx hb dX3_rest_5 rfl (lv_at hl 0 rfl) ?_
  refine lv_iconst (v := 0) hx hb dX3_rest_6 (by decide) ?_
  refine g_put C0 G k12 rfl hiX3 tyX3 tyX3_ok nmX3 6 (by decide) mf_X3_31 rfl rfl rfl rfl (Nat.le_of_ble_eq_true rfl) dX3_rest_7 (fun H locs f13 hf13 G => ?_)
  have k14 : f13 o = some (.inr (5, [.ref oa, .int lm, .int lf, .int oc, .int (-1), .int bb, .int 0, .int cd, .int hbg])) := hus hf13
  refine lv_aload_n hx hb dX3_rest_10 rfl (lv_at hl 0 rfl) ?_
  refine lv_iconst (v := 0) hx hb dX3_rest_11 (by decide) ?_
  refine g_put C0 G k14 rfl hiX3 tyX3 tyX3_ok nmX3 7 (by decide) mf_X3_34 rfl rfl rfl rfl (Nat.le_of_ble_eq_true rfl) dX3_rest_12 (fun H locs f15 hf15 G => ?_)
  have k16 : f15 o = some (.inr (5, [.ref oa, .int lm, .int lf, .int oc, .int (-1), .int bb, .int 0, .int 0, .int hbg])) := hus hf15
  refine lv_aload_n hx hb dX3_rest_15 rfl (lv_at hl 0 rfl) ?_
  refine lv_iconst (v := 0) hx hb dX3_rest_16 (by decide) ?_
  refine g_put C0 G k16 rfl hiX3 tyX3 tyX3_ok nmX3 8 (by decide) mf_X3_37 rfl rfl rfl rfl (Nat.le_of_ble_eq_true rfl) dX3_rest_17 (fun H locs f17 hf17 G => ?_)
  have k18 : f17 o = some (.inr (5, [.ref oa, .int lm, .int lf, .int oc, .int (-1), .int bb, .int 0, .int 0, .int 0])) := hus hf17
  exact g_vret C0 G hr dX3_rest_20 (Nat.le_of_ble_eq_true rfl) (Nat.le_of_ble_eq_true rfl) (by exact ⟨k18, (fun a9 e9 h7 h8 => hup hf17 (fun q => h7 (by rw [q]; simp)) (hup hf15 (fun q => h7 (by rw [q]; simp)) (hup hf13 (fun q => h7 (by rw [q]; simp)) (hup hf11 (fun q => h7 (by rw [q]; simp)) (h8)))))⟩)
set_option maxRecDepth 100000 in
theorem c_X3_start {l : Launch} (hfl : l.stackTraces = false) {D : va_G} {cy : Nat → ClassId} {f : Hf} {sz : Nat} {o : Nat} {oa : Nat} {lm : Int32} {lf : Int32} {oc : Int32} {bw : Int32} {bb : Int32} {bl : Int32} {cd : Int32} {hbg : Int32} (limit : Int32) (h_o : f o = some (.inr (5, [.ref oa, .int lm, .int lf, .int oc, .int bw, .int bb, .int bl, .int cd, .int hbg])))  : hMet l yX3_start cX3_start 2 none { frames := 1, cells := 0, slots := 0, locals := 20 } D (hTy cy) f sz [.ref o, .int limit] (hQv (fun u => u o = some (.inr (5, [.ref oa, .int limit, .int limit, .int 0, .int (-1), .int (-1), .int 0, .int 0, .int 0])) ∧ hFrL f u [o]) D f sz) hNo := by
  refine h_enter (by decide) hfl (Nat.le_of_ble_eq_true rfl) ?_
  intro p9 e9 s9 m9 b9 t9 c9 hsz C0 hr hnm G ls hl
  have hx := C0.1.1
  have hb := C0.1.2.1
  have hl : lv_has ls 2 [(0, .ref o), (1, .int limit)] := hl
  refine lv_aload_n hx hb dX3_start_0 rfl (lv_at hl 0 rfl) ?_
  refine lv_iload_n hx hb dX3_start_1 rfl (lv_at hl 1 rfl) ?_
  refine g_put C0 G h_o rfl hiX3 tyX3 tyX3_ok nmX3 1 (by decide) mf_X3_15 rfl rfl rfl rfl (Nat.le_of_ble_eq_true rfl) dX3_start_2 (fun H locs f11 hf11 G => ?_)
  have k12 : f11 o = some (.inr (5, [.ref oa, .int limit, .int lf, .int oc, .int bw, .int bb, .int bl, .int cd, .int hbg])) := hus hf11
  refine lv_aload_n hx hb dX3_start_5 rfl (lv_at hl 0 rfl) ?_
  refine lv_iload_n hx hb dX3_start_6 rfl (lv_at hl 1 rfl) ?_
  refine g_put C0 G k12 rfl hiX3 tyX3 tyX3_ok nmX3 2 (by decide) mf_X3_19 rfl rfl rfl rfl (Nat.le_of_ble_eq_true rfl) dX3_start_7 (fun H locs f13 hf13 G => ?_)
  have k14 : f13 o = some (.inr (5, [.ref oa, .int limit, .int limit, .int oc, .int bw, .int bb, .int bl, .int cd, .int hbg])) := hus hf13
  refine lv_aload_n hx hb dX3_start_10 rfl (lv_at hl 0 rfl) ?_
  refine lv_iconst (v := 0) hx hb dX3_start_11 (by decide) ?_
  refine g_put C0 G k14 rfl hiX3 tyX3 tyX3_ok nmX3 3 (by decide) mf_X3_22 rfl rfl rfl rfl (Nat.le_of_ble_eq_true rfl) dX3_start_12 (fun H locs f15 hf15 G => ?_)
  have k16 : f15 o = some (.inr (5, [.ref oa, .int limit, .int limit, .int 0, .int bw, .int bb, .int bl, .int cd, .int hbg])) := hus hf15
  refine lv_aload_n hx hb dX3_start_15 rfl (lv_at hl 0 rfl) ?_
  refine lv_iconst (v := (-1)) hx hb dX3_start_16 (by decide) ?_
  refine g_put C0 G k16 rfl hiX3 tyX3 tyX3_ok nmX3 5 (by decide) mf_X3_28 rfl rfl rfl rfl (Nat.le_of_ble_eq_true rfl) dX3_start_17 (fun H locs f17 hf17 G => ?_)
  have k18 : f17 o = some (.inr (5, [.ref oa, .int limit, .int limit, .int 0, .int bw, .int (-1), .int bl, .int cd, .int hbg])) := hus hf17
  refine lv_aload_n hx hb dX3_start_20 rfl (lv_at hl 0 rfl) ?_
  refine g_cV C0 G (g_runV C0 G (rest := []) (c_X3_rest hfl k18) k18 rfl hY_X3_rest mm_X3_41 mi_X3_rest ml_X3_rest ⟨(Nat.le_of_ble_eq_true rfl), (Nat.le_of_ble_eq_true rfl)⟩ rfl hl.1 rfl (Nat.le_of_ble_eq_true rfl) dX3_start_21 ⟨(Nat.le_of_ble_eq_true rfl), (Nat.le_of_ble_eq_true rfl)⟩) (kx_no rfl) (fun u20 H locs hp19 G => ?_)
  obtain ⟨k21, fr22⟩ := hp19
  exact g_vret C0 G hr dX3_start_24 (Nat.le_of_ble_eq_true rfl) (Nat.le_of_ble_eq_true rfl) (by exact ⟨k21, (fun a9 e9 h7 h8 => fr22 _ _ (fun q => h7 (by simp only [List.mem_cons, List.not_mem_nil, or_false] at q ⊢; first | exact q | (rcases q with q <;> simp [q]) | omega)) (hup hf17 (fun q => h7 (by rw [q]; simp)) (hup hf15 (fun q => h7 (by rw [q]; simp)) (hup hf13 (fun q => h7 (by rw [q]; simp)) (hup hf11 (fun q => h7 (by rw [q]; simp)) (h8))))))⟩)
def X3_finishOver_g0 (go : Nat → Int32) (oc : Int32) (tr : Int32) : Nat → Int32 := upd go (oc).toNatClampNeg tr
def X3_finishOver_g1 (go : Nat → Int32) (oc : Int32) (tr : Int32) : Nat → Int32 := if 20 ≤ oc then go else (X3_finishOver_g0 go oc tr)
def X3_finishOver_x2 (oc : Int32) : Int32 := if 20 ≤ oc then oc else (oc + 1)
def X3_finishOver_g3 (go : Nat → Int32) (oc : Int32) (tr : Int32) : Nat → Int32 := if oc < 0 then go else (X3_finishOver_g1 go oc tr)
def X3_finishOver_x4 (oc : Int32) : Int32 := if oc < 0 then oc else (X3_finishOver_x2 oc)
set_option maxRecDepth 100000 in
theorem c_X3_finishOver {l : Launch} (hfl : l.stackTraces = false) {D : va_G} {cy : Nat → ClassId} {f : Hf} {sz : Nat} {o : Nat} {oa : Nat} {go : Nat → Int32} {lm : Int32} {lf : Int32} {oc : Int32} {bw : Int32} {bb : Int32} {bl : Int32} {cd : Int32} {hbg : Int32} (tr : Int32) (h_o : f o = some (.inr (5, [.ref oa, .int lm, .int lf, .int oc, .int bw, .int bb, .int bl, .int cd, .int hbg]))) (h_oa : f oa = some (.inl (cy 0, 20, .inl go)))  : hMet l yX3_finishOver cX3_finishOver 2 none { frames := 1, cells := 0, slots := 0, locals := 20 } D (hTy cy) f sz [.ref o, .int tr] (hQv (fun u => u oa = some (.inl (cy 0, 20, .inl (X3_finishOver_g3 go oc tr))) ∧ u o = some (.inr (5, [.ref oa, .int lm, .int lf, .int (X3_finishOver_x4 oc), .int (-1), .int bw, .int 0, .int 0, .int 0])) ∧ hFrL f u [oa, o]) D f sz) hNo := by
  refine h_enter (by decide) hfl (Nat.le_of_ble_eq_true rfl) ?_
  intro p9 e9 s9 m9 b9 t9 c9 hsz C0 hr hnm G ls hl
  have hx := C0.1.1
  have hb := C0.1.2.1
  have hl : lv_has ls 2 [(0, .ref o), (1, .int tr)] := hl
  refine lv_aload_n hx hb dX3_finishOver_0 rfl (lv_at hl 0 rfl) ?_
  refine g_get C0 G h_o rfl hiX3 3 (by decide) mf_X3_22 rfl dX3_finishOver_1 ?_
  have J14 : ∀ (y12 : Nat → Int32) (_ : y12 = (X3_finishOver_g3 go oc tr)) (y13 : Int32) (_ : y13 = (X3_finishOver_x4 oc)) (f15 : Hf) (H : Heap) (locs : List Loc) (ls : Array Slot), f15 oa = some (.inl (cy 0, 20, .inl y12)) → f15 o = some (.inr (5, [.ref oa, .int lm, .int lf, .int y13, .int bw, .int bb, .int bl, .int cd, .int hbg])) → hFrL f f15 [oa, o] → hG D (hA f sz) f15 s9 H locs → lv_has ls 2 [(0, .ref o), (1, .int tr)] → W p9 l e9 ({ frames := 1, cells := 0, slots := 0, locals := 20 } : Room) s9 m9 ([.ref o, .int tr] : List Value).toArray b9 t9 c9 H locs 0 0 (vx_MQ b9 (hQv (fun u => u oa = some (.inl (cy 0, 20, .inl (X3_finishOver_g3 go oc tr))) ∧ u o = some (.inr (5, [.ref oa, .int lm, .int lf, .int (X3_finishOver_x4 oc), .int (-1), .int bw, .int 0, .int 0, .int 0])) ∧ hFrL f u [oa, o]) D f sz) (hPx hNo D f sz) ([.ref o, .int tr] : List Value).toArray s9 0 0 (hA f sz)) (F0 m9 39 ls []) := by
    intro y12 ey12 y13 ey13 f15 H locs ls k16 k17 fr18 G hl
    replace ey12 := Eq.symm ey12
    subst ey12
    replace ey13 := Eq.symm ey13
    subst ey13
    refine lv_aload_n hx hb dX3_finishOver_39 rfl (lv_at hl 0 rfl) ?_
    refine lv_aload_n hx hb dX3_finishOver_40 rfl (lv_at hl 0 rfl) ?_
    refine g_get C0 G k17 rfl hiX3 4 (by decide) mf_X3_25 rfl dX3_finishOver_41 ?_
    refine g_put C0 G k17 rfl hiX3 tyX3 tyX3_ok nmX3 5 (by decide) mf_X3_28 rfl rfl rfl rfl (Nat.le_of_ble_eq_true rfl) dX3_finishOver_44 (fun H locs f19 hf19 G => ?_)
    have k20 : f19 o = some (.inr (5, [.ref oa, .int lm, .int lf, .int (X3_finishOver_x4 oc), .int bw, .int bw, .int bl, .int cd, .int hbg])) := hus hf19
    refine lv_aload_n hx hb dX3_finishOver_47 rfl (lv_at hl 0 rfl) ?_
    refine g_cV C0 G (g_runV C0 G (rest := []) (c_X3_rest hfl k20) k20 rfl hY_X3_rest mm_X3_41 mi_X3_rest ml_X3_rest ⟨(Nat.le_of_ble_eq_true rfl), (Nat.le_of_ble_eq_true rfl)⟩ rfl hl.1 rfl (Nat.le_of_ble_eq_true rfl) dX3_finishOver_48 ⟨(Nat.le_of_ble_eq_true rfl), (Nat.le_of_ble_eq_true rfl)⟩) (kx_no rfl) (fun u22 H locs hp21 G => ?_)
    obtain ⟨k23, fr24⟩ := hp21
    have k25 : u22 oa = some (.inl (cy 0, 20, .inl (X3_finishOver_g3 go oc tr))) := fr24 _ _ (by simp only [List.mem_cons, List.not_mem_nil, or_false]; intro q; exact (hne (hup hf19 (hne k16 k17 (by intro q; cases q)) k16) k20 (by intro q; cases q)) q) (hup hf19 (hne k16 k17 (by intro q; cases q)) k16)
    exact g_vret C0 G hr dX3_finishOver_51 (Nat.le_of_ble_eq_true rfl) (Nat.le_of_ble_eq_true rfl) (by exact ⟨k25, k23, (fun a9 e9 h7 h8 => fr24 _ _ (fun q => h7 (by simp only [List.mem_cons, List.not_mem_nil, or_false] at q ⊢; first | exact q | (rcases q with q <;> simp [q]) | omega)) (hup hf19 (fun q => h7 (by rw [q]; simp)) (fr18 _ _ (fun q => h7 (by simp only [List.mem_cons, List.not_mem_nil, or_false] at q ⊢; first | exact q | (rcases q with q | q <;> simp [q]) | omega)) (h8))))⟩)
  refine lv_if_lt (tgt := 39) hx hb dX3_finishOver_4 (by decide) (fun c11 => ?_) (fun c11 => ?_)
  · exact J14 go (by rw [X3_finishOver_g3, if_pos c11]) oc (by rw [X3_finishOver_x4, if_pos c11]) f _ _ _ h_oa h_o (fun a9 e9 h7 h8 => h8) G (lv_sub hl [0, 1] rfl)
  · refine lv_aload_n hx hb dX3_finishOver_7 rfl (lv_at hl 0 rfl) ?_
    refine g_get C0 G h_o rfl hiX3 3 (by decide) mf_X3_22 rfl dX3_finishOver_8 ?_
    refine lv_aload_n hx hb dX3_finishOver_11 rfl (lv_at hl 0 rfl) ?_
    refine g_get C0 G h_o rfl hiX3 0 (by decide) mf_X3_9 rfl dX3_finishOver_12 ?_
    refine g_alen C0 G h_oa 0 rfl (v := 20) rfl dX3_finishOver_15 ?_
    have J29 : ∀ (y27 : Nat → Int32) (_ : y27 = (X3_finishOver_g1 go oc tr)) (y28 : Int32) (_ : y28 = (X3_finishOver_x2 oc)) (f30 : Hf) (H : Heap) (locs : List Loc) (ls : Array Slot), f30 oa = some (.inl (cy 0, 20, .inl y27)) → f30 o = some (.inr (5, [.ref oa, .int lm, .int lf, .int y28, .int bw, .int bb, .int bl, .int cd, .int hbg])) → hFrL f f30 [oa, o] → hG D (hA f sz) f30 s9 H locs → lv_has ls 2 [(0, .ref o), (1, .int tr)] → W p9 l e9 ({ frames := 1, cells := 0, slots := 0, locals := 20 } : Room) s9 m9 ([.ref o, .int tr] : List Value).toArray b9 t9 c9 H locs 0 0 (vx_MQ b9 (hQv (fun u => u oa = some (.inl (cy 0, 20, .inl (X3_finishOver_g3 go oc tr))) ∧ u o = some (.inr (5, [.ref oa, .int lm, .int lf, .int (X3_finishOver_x4 oc), .int (-1), .int bw, .int 0, .int 0, .int 0])) ∧ hFrL f u [oa, o]) D f sz) (hPx hNo D f sz) ([.ref o, .int tr] : List Value).toArray s9 0 0 (hA f sz)) (F0 m9 39 ls []) := by
      intro y27 ey27 y28 ey28 f30 H locs ls k31 k32 fr33 G hl
      replace ey27 := Eq.symm ey27
      subst ey27
      replace ey28 := Eq.symm ey28
      subst ey28
      exact J14 (X3_finishOver_g1 go oc tr) (by rw [X3_finishOver_g3, if_neg c11]) (X3_finishOver_x2 oc) (by rw [X3_finishOver_x4, if_neg c11]) f30 _ _ _ k31 k32 (fun a9 e9 h7 h8 => fr33 _ _ (fun q => h7 (by simp only [List.mem_cons, List.not_mem_nil, or_false] at q ⊢; first | exact q | (rcases q with q | q <;> simp [q]) | omega)) (h8)) G (lv_sub hl [0, 1] rfl)
    refine lv_icmp_ge (tgt := 39) hx hb dX3_finishOver_16 (by decide) (fun c26 => ?_) (fun c26 => ?_)
    · exact J29 go (by rw [X3_finishOver_g1, if_pos c26]) oc (by rw [X3_finishOver_x2, if_pos c26]) f _ _ _ h_oa h_o (fun a9 e9 h7 h8 => h8) G (lv_sub hl [0, 1] rfl)
    · refine lv_aload_n hx hb dX3_finishOver_19 rfl (lv_at hl 0 rfl) ?_
      refine g_get C0 G h_o rfl hiX3 0 (by decide) mf_X3_9 rfl dX3_finishOver_20 ?_
      refine lv_aload_n hx hb dX3_finishOver_23 rfl (lv_at hl 0 rfl) ?_
      refine g_get C0 G h_o rfl hiX3 3 (by decide) mf_X3_22 rfl dX3_finishOver_24 ?_
      refine lv_iload_n hx hb dX3_finishOver_27 rfl (lv_at hl 1 rfl) ?_
      refine g_iast C0 G h_oa 0 rfl (hinb (n := 20) (by assumption) (by assumption) (by decide)) dX3_finishOver_28 (fun H locs f34 hf34 G => ?_)
      have k35 : f34 oa = some (.inl (cy 0, 20, .inl (X3_finishOver_g0 go oc tr))) := hus hf34
      refine lv_aload_n hx hb dX3_finishOver_29 rfl (lv_at hl 0 rfl) ?_
      refine lv_dup hx hb dX3_finishOver_30 rfl ?_
      have k36 : f34 o = some (.inr (5, [.ref oa, .int lm, .int lf, .int oc, .int bw, .int bb, .int bl, .int cd, .int hbg])) := hup hf34 (hne h_o h_oa (by intro q; cases q)) h_o
      refine g_get C0 G k36 rfl hiX3 3 (by decide) mf_X3_22 rfl dX3_finishOver_31 ?_
      refine lv_iconst (v := 1) hx hb dX3_finishOver_34 (by decide) ?_
      refine lv_iadd hx hb dX3_finishOver_35 ?_
      refine g_put C0 G k36 rfl hiX3 tyX3 tyX3_ok nmX3 3 (by decide) mf_X3_22 rfl rfl rfl rfl (Nat.le_of_ble_eq_true rfl) dX3_finishOver_36 (fun H locs f37 hf37 G => ?_)
      have k38 : f37 o = some (.inr (5, [.ref oa, .int lm, .int lf, .int (oc + 1), .int bw, .int bb, .int bl, .int cd, .int hbg])) := hus hf37
      have k39 : f37 oa = some (.inl (cy 0, 20, .inl (X3_finishOver_g0 go oc tr))) := hup hf37 (hne k35 k36 (by intro q; cases q)) k35
      exact J29 (X3_finishOver_g0 go oc tr) (by rw [X3_finishOver_g1, if_neg c26]) (oc + 1) (by rw [X3_finishOver_x2, if_neg c26]) f37 _ _ _ k39 k38 (fun a9 e9 h7 h8 => hup hf37 (fun q => h7 (by rw [q]; simp)) (hup hf34 (fun q => h7 (by rw [q]; simp)) (h8))) G (lv_sub hl [0, 1] rfl)
def X3_begun_x0 (oc : Int32) (hbg : Int32) : Int32 := if hbg = 0 then oc else (oc + 1)
set_option maxRecDepth 100000 in
theorem c_X3_begun {l : Launch} (hfl : l.stackTraces = false) {D : va_G} {cy : Nat → ClassId} {f : Hf} {sz : Nat} {o : Nat} {oa : Nat} {lm : Int32} {lf : Int32} {oc : Int32} {bw : Int32} {bb : Int32} {bl : Int32} {cd : Int32} {hbg : Int32} (h_o : f o = some (.inr (5, [.ref oa, .int lm, .int lf, .int oc, .int bw, .int bb, .int bl, .int cd, .int hbg])))  : hMet l yX3_begun cX3_begun 1 (some .int) { frames := 0, cells := 0, slots := 0, locals := 0 } D (hTy cy) f sz [.ref o] (hQi (fun r u => r = (X3_begun_x0 oc hbg) ∧ u = f) D f sz) hNo := by
  refine h_enter (by decide) hfl (Nat.le_of_ble_eq_true rfl) ?_
  intro p9 e9 s9 m9 b9 t9 c9 hsz C0 hr hnm G ls hl
  have hx := C0.1.1
  have hb := C0.1.2.1
  have hl : lv_has ls 1 [(0, .ref o)] := hl
  refine lv_aload_n hx hb dX3_begun_0 rfl (lv_at hl 0 rfl) ?_
  refine g_get C0 G h_o rfl hiX3 8 (by decide) mf_X3_37 rfl dX3_begun_1 ?_
  have J13 : ∀ (y12 : Int32) (_ : y12 = (X3_begun_x0 oc hbg)) (H : Heap) (locs : List Loc) (ls : Array Slot), hG D (hA f sz) f s9 H locs → lv_has ls 1 [(0, .ref o)] → W p9 l e9 ({ frames := 0, cells := 0, slots := 0, locals := 0 } : Room) s9 m9 ([.ref o] : List Value).toArray b9 t9 c9 H locs 0 0 (vx_MQ b9 (hQi (fun r u => r = (X3_begun_x0 oc hbg) ∧ u = f) D f sz) (hPx hNo D f sz) ([.ref o] : List Value).toArray s9 0 0 (hA f sz)) (F0 m9 20 ls [.int y12]) := by
    intro y12 ey12 H locs ls G hl
    replace ey12 := Eq.symm ey12
    subst ey12
    exact g_iret C0 G hr dX3_begun_20 (Nat.le_of_ble_eq_true rfl) (Nat.le_of_ble_eq_true rfl) (by exact ⟨rfl, rfl⟩)
  refine lv_if_eq (tgt := 16) hx hb dX3_begun_4 (by decide) (fun c11 => ?_) (fun c11 => ?_)
  · refine lv_aload_n hx hb dX3_begun_16 rfl (lv_at hl 0 rfl) ?_
    refine g_get C0 G h_o rfl hiX3 3 (by decide) mf_X3_22 rfl dX3_begun_17 ?_
    exact J13 oc (by rw [X3_begun_x0, if_pos c11]) _ _ _ G (lv_sub hl [0] rfl)
  · refine lv_aload_n hx hb dX3_begun_7 rfl (lv_at hl 0 rfl) ?_
    refine g_get C0 G h_o rfl hiX3 3 (by decide) mf_X3_22 rfl dX3_begun_8 ?_
    refine lv_iconst (v := 1) hx hb dX3_begun_11 (by decide) ?_
    refine lv_iadd hx hb dX3_begun_12 ?_
    refine lv_goto (tgt := 20) hx hb dX3_begun_13 (by decide) ?_
    exact J13 (oc + 1) (by rw [X3_begun_x0, if_neg c11]) _ _ _ G (lv_sub hl [0] rfl)
def X3_runsAfter_x0 (go : Nat → Int32) (over : Int32) (tr : Int32) : Int32 := if 20 ≤ over then tr else (go (over).toNatClampNeg)
def X3_runsAfter_x1 (go : Nat → Int32) (oc : Int32) (over : Int32) (tr : Int32) : Int32 := if oc ≤ over then tr else (X3_runsAfter_x0 go over tr)
def X3_runsAfter_x2 (go : Nat → Int32) (oc : Int32) (over : Int32) (tr : Int32) : Int32 := if over < 0 then tr else (X3_runsAfter_x1 go oc over tr)
set_option maxRecDepth 100000 in
theorem c_X3_runsAfter {l : Launch} (hfl : l.stackTraces = false) {D : va_G} {cy : Nat → ClassId} {f : Hf} {sz : Nat} {o : Nat} {oa : Nat} {go : Nat → Int32} {lm : Int32} {lf : Int32} {oc : Int32} {bw : Int32} {bb : Int32} {bl : Int32} {cd : Int32} {hbg : Int32} (over : Int32) (tr : Int32) (h_o : f o = some (.inr (5, [.ref oa, .int lm, .int lf, .int oc, .int bw, .int bb, .int bl, .int cd, .int hbg]))) (h_oa : f oa = some (.inl (cy 0, 20, .inl go)))  : hMet l yX3_runsAfter cX3_runsAfter 3 (some .int) { frames := 0, cells := 0, slots := 0, locals := 0 } D (hTy cy) f sz [.ref o, .int over, .int tr] (hQi (fun r u => r = (X3_runsAfter_x2 go oc over tr) ∧ u = f) D f sz) hNo := by
  refine h_enter (by decide) hfl (Nat.le_of_ble_eq_true rfl) ?_
  intro p9 e9 s9 m9 b9 t9 c9 hsz C0 hr hnm G ls hl
  have hx := C0.1.1
  have hb := C0.1.2.1
  have hl : lv_has ls 3 [(0, .ref o), (1, .int over), (2, .int tr)] := hl
  refine lv_iload_n hx hb dX3_runsAfter_0 rfl (lv_at hl 1 rfl) ?_
  have J13 : ∀ (y12 : Int32) (_ : y12 = (X3_runsAfter_x2 go oc over tr)) (H : Heap) (locs : List Loc) (ls : Array Slot), hG D (hA f sz) f s9 H locs → lv_has ls 3 [(0, .ref o), (1, .int over), (2, .int tr)] → W p9 l e9 ({ frames := 0, cells := 0, slots := 0, locals := 0 } : Room) s9 m9 ([.ref o, .int over, .int tr] : List Value).toArray b9 t9 c9 H locs 0 0 (vx_MQ b9 (hQi (fun r u => r = (X3_runsAfter_x2 go oc over tr) ∧ u = f) D f sz) (hPx hNo D f sz) ([.ref o, .int over, .int tr] : List Value).toArray s9 0 0 (hA f sz)) (F0 m9 31 ls [.int y12]) := by
    intro y12 ey12 H locs ls G hl
    replace ey12 := Eq.symm ey12
    subst ey12
    exact g_iret C0 G hr dX3_runsAfter_31 (Nat.le_of_ble_eq_true rfl) (Nat.le_of_ble_eq_true rfl) (by exact ⟨rfl, rfl⟩)
  refine lv_if_lt (tgt := 30) hx hb dX3_runsAfter_1 (by decide) (fun c11 => ?_) (fun c11 => ?_)
  · refine lv_iload_n hx hb dX3_runsAfter_30 rfl (lv_at hl 2 rfl) ?_
    exact J13 tr (by rw [X3_runsAfter_x2, if_pos c11]) _ _ _ G (lv_sub hl [0, 1, 2] rfl)
  · refine lv_iload_n hx hb dX3_runsAfter_4 rfl (lv_at hl 1 rfl) ?_
    refine lv_aload_n hx hb dX3_runsAfter_5 rfl (lv_at hl 0 rfl) ?_
    refine g_get C0 G h_o rfl hiX3 3 (by decide) mf_X3_22 rfl dX3_runsAfter_6 ?_
    have J17 : ∀ (y16 : Int32) (_ : y16 = (X3_runsAfter_x1 go oc over tr)) (H : Heap) (locs : List Loc) (ls : Array Slot), hG D (hA f sz) f s9 H locs → lv_has ls 3 [(0, .ref o), (1, .int over), (2, .int tr)] → W p9 l e9 ({ frames := 0, cells := 0, slots := 0, locals := 0 } : Room) s9 m9 ([.ref o, .int over, .int tr] : List Value).toArray b9 t9 c9 H locs 0 0 (vx_MQ b9 (hQi (fun r u => r = (X3_runsAfter_x2 go oc over tr) ∧ u = f) D f sz) (hPx hNo D f sz) ([.ref o, .int over, .int tr] : List Value).toArray s9 0 0 (hA f sz)) (F0 m9 31 ls [.int y16]) := by
      intro y16 ey16 H locs ls G hl
      replace ey16 := Eq.symm ey16
      subst ey16
      exact J13 (X3_runsAfter_x1 go oc over tr) (by rw [X3_runsAfter_x2, if_neg c11]) _ _ _ G (lv_sub hl [0, 1, 2] rfl)
    refine lv_icmp_ge (tgt := 30) hx hb dX3_runsAfter_9 (by decide) (fun c15 => ?_) (fun c15 => ?_)
    · refine lv_iload_n hx hb dX3_runsAfter_30 rfl (lv_at hl 2 rfl) ?_
      exact J17 tr (by rw [X3_runsAfter_x1, if_pos c15]) _ _ _ G (lv_sub hl [0, 1, 2] rfl)
    · refine lv_iload_n hx hb dX3_runsAfter_12 rfl (lv_at hl 1 rfl) ?_
      refine lv_aload_n hx hb dX3_runsAfter_13 rfl (lv_at hl 0 rfl) ?_
      refine g_get C0 G h_o rfl hiX3 0 (by decide) mf_X3_9 rfl dX3_runsAfter_14 ?_
      refine g_alen C0 G h_oa 0 rfl (v := 20) rfl dX3_runsAfter_17 ?_
      have J21 : ∀ (y20 : Int32) (_ : y20 = (X3_runsAfter_x0 go over tr)) (H : Heap) (locs : List Loc) (ls : Array Slot), hG D (hA f sz) f s9 H locs → lv_has ls 3 [(0, .ref o), (1, .int over), (2, .int tr)] → W p9 l e9 ({ frames := 0, cells := 0, slots := 0, locals := 0 } : Room) s9 m9 ([.ref o, .int over, .int tr] : List Value).toArray b9 t9 c9 H locs 0 0 (vx_MQ b9 (hQi (fun r u => r = (X3_runsAfter_x2 go oc over tr) ∧ u = f) D f sz) (hPx hNo D f sz) ([.ref o, .int over, .int tr] : List Value).toArray s9 0 0 (hA f sz)) (F0 m9 31 ls [.int y20]) := by
        intro y20 ey20 H locs ls G hl
        replace ey20 := Eq.symm ey20
        subst ey20
        exact J17 (X3_runsAfter_x0 go over tr) (by rw [X3_runsAfter_x1, if_neg c15]) _ _ _ G (lv_sub hl [0, 1, 2] rfl)
      refine lv_icmp_ge (tgt := 30) hx hb dX3_runsAfter_18 (by decide) (fun c19 => ?_) (fun c19 => ?_)
      · refine lv_iload_n hx hb dX3_runsAfter_30 rfl (lv_at hl 2 rfl) ?_
        exact J21 tr (by rw [X3_runsAfter_x0, if_pos c19]) _ _ _ G (lv_sub hl [0, 1, 2] rfl)
      · refine lv_aload_n hx hb dX3_runsAfter_21 rfl (lv_at hl 0 rfl) ?_
        refine g_get C0 G h_o rfl hiX3 0 (by decide) mf_X3_9 rfl dX3_runsAfter_22 ?_
        refine lv_iload_n hx hb dX3_runsAfter_25 rfl (lv_at hl 1 rfl) ?_
        refine g_iald C0 G h_oa 0 rfl (hinb (n := 20) (by assumption) (by assumption) (by decide)) dX3_runsAfter_26 ?_
        refine lv_goto (tgt := 31) hx hb dX3_runsAfter_27 (by decide) ?_
        exact J21 (go (over).toNatClampNeg) (by rw [X3_runsAfter_x0, if_neg c19]) _ _ _ G (lv_sub hl [0, 1, 2] rfl)
