set_option maxRecDepth 100000 in
theorem k_X8_isWithin {l : Launch} (hfl : l.stackTraces = false) {D : va_G} {cy : Nat → ClassId} {f : Hf} {sz : Nat} (number least most : Int32)  : hMet l yX8_isWithin cX8_isWithin 3 (some .boolean) { frames := 0, cells := 0, slots := 0, locals := 0 } D (hTy cy) f sz [.int number, .int least, .int most] (hQi (fun r u => ((r = 1 ∧ least ≤ number ∧ number ≤ most) ∨ (r = 0 ∧ ¬ (least ≤ number ∧ number ≤ most))) ∧ u = f) D f sz) hNo := by
  refine h_enter (by decide) hfl (Nat.le_of_ble_eq_true rfl) ?_
  intro p9 e9 s9 m9 b9 t9 c9 hsz C0 hr hnm G ls hl
  have hx := C0.1.1
  have hb := C0.1.2.1
  have hl : lv_has ls 3 [(0, .int number), (1, .int least), (2, .int most)] := hl
  refine lv_iload_n hx hb dX8_isWithin_0 rfl (lv_at hl 1 rfl) ?_
  refine lv_iload_n hx hb dX8_isWithin_1 rfl (lv_at hl 0 rfl) ?_
  refine lv_icmp_gt (tgt := 14) hx hb dX8_isWithin_2 (by decide) (fun c1 => ?_) (fun c1 => ?_)
  · refine lv_iconst (v := 0) hx hb dX8_isWithin_14 (by decide) ?_
    exact g_zret C0 G hr dX8_isWithin_15 rfl (Nat.le_of_ble_eq_true rfl) (Nat.le_of_ble_eq_true rfl) (by refine ⟨?_, rfl⟩; first | (simp_all; done) | (refine Or.inl ⟨rfl, ?_⟩; first | (simp only [Int32.lt_iff_toInt_lt, Int32.le_iff_toInt_le, ← Int32.toInt_inj] at *; first | omega | (simp at *; omega)) | (simp_all; done)) | (refine Or.inr ⟨rfl, ?_⟩; first | (simp only [Int32.lt_iff_toInt_lt, Int32.le_iff_toInt_le, ← Int32.toInt_inj] at *; first | omega | (simp at *; omega)) | (simp_all; done)))
  · refine lv_iload_n hx hb dX8_isWithin_5 rfl (lv_at hl 0 rfl) ?_
    refine lv_iload_n hx hb dX8_isWithin_6 rfl (lv_at hl 2 rfl) ?_
    refine lv_icmp_gt (tgt := 14) hx hb dX8_isWithin_7 (by decide) (fun c2 => ?_) (fun c2 => ?_)
    · refine lv_iconst (v := 0) hx hb dX8_isWithin_14 (by decide) ?_
      exact g_zret C0 G hr dX8_isWithin_15 rfl (Nat.le_of_ble_eq_true rfl) (Nat.le_of_ble_eq_true rfl) (by refine ⟨?_, rfl⟩; first | (simp_all; done) | (refine Or.inl ⟨rfl, ?_⟩; first | (simp only [Int32.lt_iff_toInt_lt, Int32.le_iff_toInt_le, ← Int32.toInt_inj] at *; first | omega | (simp at *; omega)) | (simp_all; done)) | (refine Or.inr ⟨rfl, ?_⟩; first | (simp only [Int32.lt_iff_toInt_lt, Int32.le_iff_toInt_le, ← Int32.toInt_inj] at *; first | omega | (simp at *; omega)) | (simp_all; done)))
    · refine lv_iconst (v := 1) hx hb dX8_isWithin_10 (by decide) ?_
      refine lv_goto (tgt := 15) hx hb dX8_isWithin_11 (by decide) ?_
      exact g_zret C0 G hr dX8_isWithin_15 rfl (Nat.le_of_ble_eq_true rfl) (Nat.le_of_ble_eq_true rfl) (by refine ⟨?_, rfl⟩; first | (simp_all; done) | (refine Or.inl ⟨rfl, ?_⟩; first | (simp only [Int32.lt_iff_toInt_lt, Int32.le_iff_toInt_le, ← Int32.toInt_inj] at *; first | omega | (simp at *; omega)) | (simp_all; done)) | (refine Or.inr ⟨rfl, ?_⟩; first | (simp only [Int32.lt_iff_toInt_lt, Int32.le_iff_toInt_le, ← Int32.toInt_inj] at *; first | omega | (simp at *; omega)) | (simp_all; done)))
set_option maxRecDepth 100000 in
theorem k_X8_isPlayer {l : Launch} (hfl : l.stackTraces = false) {D : va_G} {cy : Nat → ClassId} {f : Hf} {sz : Nat} (player : Int32)  : hMet l yX8_isPlayer cX8_isPlayer 1 (some .boolean) { frames := 1, cells := 0, slots := 0, locals := 22 } D (hTy cy) f sz [.int player] (hQi (fun r u => ((r = 1 ∧ 0 ≤ player ∧ player ≤ 10) ∨ (r = 0 ∧ ¬ (0 ≤ player ∧ player ≤ 10))) ∧ u = f) D f sz) hNo := by
  refine h_enter (by decide) hfl (Nat.le_of_ble_eq_true rfl) ?_
  intro p9 e9 s9 m9 b9 t9 c9 hsz C0 hr hnm G ls hl
  have hx := C0.1.1
  have hb := C0.1.2.1
  have hl : lv_has ls 1 [(0, .int player)] := hl
  refine lv_iload_n hx hb dX8_isPlayer_0 rfl (lv_at hl 0 rfl) ?_
  refine lv_iconst (v := 0) hx hb dX8_isPlayer_1 (by decide) ?_
  refine lv_bipush (v := 10) hx hb dX8_isPlayer_2 (by decide) ?_
  refine g_cI C0 G (g_runS C0 G (rest := []) (k_X8_isWithin hfl player 0 10) hY_X8_isWithin mm_X8_56 ms_X8_isWithin ⟨(Nat.le_of_ble_eq_true rfl), (Nat.le_of_ble_eq_true rfl)⟩ rfl hl.1 rfl (Nat.le_of_ble_eq_true rfl) dX8_isPlayer_4 ⟨(Nat.le_of_ble_eq_true rfl), (Nat.le_of_ble_eq_true rfl)⟩) (kx_no rfl) (fun r3 u2 H locs hp1 G => ?_)
  obtain ⟨b4, eu2⟩ := hp1
  rw [eu2] at G
  rcases b4 with ⟨rfl, c5⟩ | ⟨rfl, c5⟩
  · exact g_zret C0 G hr dX8_isPlayer_7 rfl (Nat.le_of_ble_eq_true rfl) (Nat.le_of_ble_eq_true rfl) (by refine ⟨?_, rfl⟩; first | (simp_all; done) | (refine Or.inl ⟨rfl, ?_⟩; first | (simp only [Int32.lt_iff_toInt_lt, Int32.le_iff_toInt_le, ← Int32.toInt_inj] at *; first | omega | (simp at *; omega)) | (simp_all; done)) | (refine Or.inr ⟨rfl, ?_⟩; first | (simp only [Int32.lt_iff_toInt_lt, Int32.le_iff_toInt_le, ← Int32.toInt_inj] at *; first | omega | (simp at *; omega)) | (simp_all; done)))
  · exact g_zret C0 G hr dX8_isPlayer_7 rfl (Nat.le_of_ble_eq_true rfl) (Nat.le_of_ble_eq_true rfl) (by refine ⟨?_, rfl⟩; first | (simp_all; done) | (refine Or.inl ⟨rfl, ?_⟩; first | (simp only [Int32.lt_iff_toInt_lt, Int32.le_iff_toInt_le, ← Int32.toInt_inj] at *; first | omega | (simp at *; omega)) | (simp_all; done)) | (refine Or.inr ⟨rfl, ?_⟩; first | (simp only [Int32.lt_iff_toInt_lt, Int32.le_iff_toInt_le, ← Int32.toInt_inj] at *; first | omega | (simp at *; omega)) | (simp_all; done)))
set_option maxRecDepth 100000 in
theorem k_X8_leastRuns {l : Launch} (hfl : l.stackTraces = false) {D : va_G} {cy : Nat → ClassId} {f : Hf} {sz : Nat} (kind : Int32)  : hMet l yX8_leastRuns cX8_leastRuns 1 (some .int) { frames := 0, cells := 0, slots := 0, locals := 0 } D (hTy cy) f sz [.int kind] (hQi (fun r u => r = (if kind = 3 ∨ kind = 4 then 1 else 0) ∧ u = f) D f sz) hNo := by
  refine h_enter (by decide) hfl (Nat.le_of_ble_eq_true rfl) ?_
  intro p9 e9 s9 m9 b9 t9 c9 hsz C0 hr hnm G ls hl
  have hx := C0.1.1
  have hb := C0.1.2.1
  have hl : lv_has ls 1 [(0, .int kind)] := hl
  refine lv_iload_n hx hb dX8_leastRuns_0 rfl (lv_at hl 0 rfl) ?_
  refine lv_iconst (v := 3) hx hb dX8_leastRuns_1 (by decide) ?_
  refine lv_icmp_eq (tgt := 10) hx hb dX8_leastRuns_2 (by decide) (fun c1 => ?_) (fun c1 => ?_)
  · refine lv_iconst (v := 1) hx hb dX8_leastRuns_10 (by decide) ?_
    refine lv_goto (tgt := 15) hx hb dX8_leastRuns_11 (by decide) ?_
    exact g_iret C0 G hr dX8_leastRuns_15 (Nat.le_of_ble_eq_true rfl) (Nat.le_of_ble_eq_true rfl) (by first | exact ⟨rfl, rfl⟩ | (refine ⟨?_, rfl⟩; simp_all; done))
  · refine lv_iload_n hx hb dX8_leastRuns_5 rfl (lv_at hl 0 rfl) ?_
    refine lv_iconst (v := 4) hx hb dX8_leastRuns_6 (by decide) ?_
    refine lv_icmp_ne (tgt := 14) hx hb dX8_leastRuns_7 (by decide) (fun c2 => ?_) (fun c2 => ?_)
    · refine lv_iconst (v := 0) hx hb dX8_leastRuns_14 (by decide) ?_
      exact g_iret C0 G hr dX8_leastRuns_15 (Nat.le_of_ble_eq_true rfl) (Nat.le_of_ble_eq_true rfl) (by first | exact ⟨rfl, rfl⟩ | (refine ⟨?_, rfl⟩; simp_all; done))
    · refine lv_iconst (v := 1) hx hb dX8_leastRuns_10 (by decide) ?_
      refine lv_goto (tgt := 15) hx hb dX8_leastRuns_11 (by decide) ?_
      exact g_iret C0 G hr dX8_leastRuns_15 (Nat.le_of_ble_eq_true rfl) (Nat.le_of_ble_eq_true rfl) (by first | exact ⟨rfl, rfl⟩ | (refine ⟨?_, rfl⟩; simp_all; done))
set_option maxRecDepth 100000 in
theorem k_X8_mostRuns {l : Launch} (hfl : l.stackTraces = false) {D : va_G} {cy : Nat → ClassId} {f : Hf} {sz : Nat} (kind : Int32)  : hMet l yX8_mostRuns cX8_mostRuns 1 (some .int) { frames := 0, cells := 0, slots := 0, locals := 0 } D (hTy cy) f sz [.int kind] (hQi (fun r u => r = (if kind = 0 ∨ kind = 2 then 6 else 4) ∧ u = f) D f sz) hNo := by
  refine h_enter (by decide) hfl (Nat.le_of_ble_eq_true rfl) ?_
  intro p9 e9 s9 m9 b9 t9 c9 hsz C0 hr hnm G ls hl
  have hx := C0.1.1
  have hb := C0.1.2.1
  have hl : lv_has ls 1 [(0, .int kind)] := hl
  refine lv_iload_n hx hb dX8_mostRuns_0 rfl (lv_at hl 0 rfl) ?_
  refine lv_if_eq (tgt := 9) hx hb dX8_mostRuns_1 (by decide) (fun c1 => ?_) (fun c1 => ?_)
  · refine lv_bipush (v := 6) hx hb dX8_mostRuns_9 (by decide) ?_
    refine lv_goto (tgt := 15) hx hb dX8_mostRuns_11 (by decide) ?_
    exact g_iret C0 G hr dX8_mostRuns_15 (Nat.le_of_ble_eq_true rfl) (Nat.le_of_ble_eq_true rfl) (by first | exact ⟨rfl, rfl⟩ | (refine ⟨?_, rfl⟩; simp_all; done))
  · refine lv_iload_n hx hb dX8_mostRuns_4 rfl (lv_at hl 0 rfl) ?_
    refine lv_iconst (v := 2) hx hb dX8_mostRuns_5 (by decide) ?_
    refine lv_icmp_ne (tgt := 14) hx hb dX8_mostRuns_6 (by decide) (fun c2 => ?_) (fun c2 => ?_)
    · refine lv_iconst (v := 4) hx hb dX8_mostRuns_14 (by decide) ?_
      exact g_iret C0 G hr dX8_mostRuns_15 (Nat.le_of_ble_eq_true rfl) (Nat.le_of_ble_eq_true rfl) (by first | exact ⟨rfl, rfl⟩ | (refine ⟨?_, rfl⟩; simp_all; done))
    · refine lv_bipush (v := 6) hx hb dX8_mostRuns_9 (by decide) ?_
      refine lv_goto (tgt := 15) hx hb dX8_mostRuns_11 (by decide) ?_
      exact g_iret C0 G hr dX8_mostRuns_15 (Nat.le_of_ble_eq_true rfl) (Nat.le_of_ble_eq_true rfl) (by first | exact ⟨rfl, rfl⟩ | (refine ⟨?_, rfl⟩; simp_all; done))
set_option maxRecDepth 100000 in
theorem k_X8_canBeBoundary {l : Launch} (hfl : l.stackTraces = false) {D : va_G} {cy : Nat → ClassId} {f : Hf} {sz : Nat} (kind runs : Int32)  : hMet l yX8_canBeBoundary cX8_canBeBoundary 2 (some .boolean) { frames := 0, cells := 0, slots := 0, locals := 0 } D (hTy cy) f sz [.int kind, .int runs] (hQi (fun r u => ((r = 1 ∧ (kind = 0 ∨ kind = 2) ∧ (runs = 4 ∨ runs = 6)) ∨ (r = 0 ∧ ¬ ((kind = 0 ∨ kind = 2) ∧ (runs = 4 ∨ runs = 6)))) ∧ u = f) D f sz) hNo := by
  refine h_enter (by decide) hfl (Nat.le_of_ble_eq_true rfl) ?_
  intro p9 e9 s9 m9 b9 t9 c9 hsz C0 hr hnm G ls hl
  have hx := C0.1.1
  have hb := C0.1.2.1
  have hl : lv_has ls 2 [(0, .int kind), (1, .int runs)] := hl
  refine lv_iload_n hx hb dX8_canBeBoundary_0 rfl (lv_at hl 0 rfl) ?_
  refine lv_if_eq (tgt := 9) hx hb dX8_canBeBoundary_1 (by decide) (fun c1 => ?_) (fun c1 => ?_)
  · refine lv_iload_n hx hb dX8_canBeBoundary_9 rfl (lv_at hl 1 rfl) ?_
    refine lv_iconst (v := 4) hx hb dX8_canBeBoundary_10 (by decide) ?_
    refine lv_icmp_eq (tgt := 20) hx hb dX8_canBeBoundary_11 (by decide) (fun c2 => ?_) (fun c2 => ?_)
    · refine lv_iconst (v := 1) hx hb dX8_canBeBoundary_20 (by decide) ?_
      refine lv_goto (tgt := 25) hx hb dX8_canBeBoundary_21 (by decide) ?_
      exact g_zret C0 G hr dX8_canBeBoundary_25 rfl (Nat.le_of_ble_eq_true rfl) (Nat.le_of_ble_eq_true rfl) (by refine ⟨?_, rfl⟩; first | (simp_all; done) | (refine Or.inl ⟨rfl, ?_⟩; first | (simp only [Int32.lt_iff_toInt_lt, Int32.le_iff_toInt_le, ← Int32.toInt_inj] at *; first | omega | (simp at *; omega)) | (simp_all; done)) | (refine Or.inr ⟨rfl, ?_⟩; first | (simp only [Int32.lt_iff_toInt_lt, Int32.le_iff_toInt_le, ← Int32.toInt_inj] at *; first | omega | (simp at *; omega)) | (simp_all; done)))
    · refine lv_iload_n hx hb dX8_canBeBoundary_14 rfl (lv_at hl 1 rfl) ?_
      refine lv_bipush (v := 6) hx hb dX8_canBeBoundary_15 (by decide) ?_
      refine lv_icmp_ne (tgt := 24) hx hb dX8_canBeBoundary_17 (by decide) (fun c3 => ?_) (fun c3 => ?_)
      · refine lv_iconst (v := 0) hx hb dX8_canBeBoundary_24 (by decide) ?_
        exact g_zret C0 G hr dX8_canBeBoundary_25 rfl (Nat.le_of_ble_eq_true rfl) (Nat.le_of_ble_eq_true rfl) (by refine ⟨?_, rfl⟩; first | (simp_all; done) | (refine Or.inl ⟨rfl, ?_⟩; first | (simp only [Int32.lt_iff_toInt_lt, Int32.le_iff_toInt_le, ← Int32.toInt_inj] at *; first | omega | (simp at *; omega)) | (simp_all; done)) | (refine Or.inr ⟨rfl, ?_⟩; first | (simp only [Int32.lt_iff_toInt_lt, Int32.le_iff_toInt_le, ← Int32.toInt_inj] at *; first | omega | (simp at *; omega)) | (simp_all; done)))
      · refine lv_iconst (v := 1) hx hb dX8_canBeBoundary_20 (by decide) ?_
        refine lv_goto (tgt := 25) hx hb dX8_canBeBoundary_21 (by decide) ?_
        exact g_zret C0 G hr dX8_canBeBoundary_25 rfl (Nat.le_of_ble_eq_true rfl) (Nat.le_of_ble_eq_true rfl) (by refine ⟨?_, rfl⟩; first | (simp_all; done) | (refine Or.inl ⟨rfl, ?_⟩; first | (simp only [Int32.lt_iff_toInt_lt, Int32.le_iff_toInt_le, ← Int32.toInt_inj] at *; first | omega | (simp at *; omega)) | (simp_all; done)) | (refine Or.inr ⟨rfl, ?_⟩; first | (simp only [Int32.lt_iff_toInt_lt, Int32.le_iff_toInt_le, ← Int32.toInt_inj] at *; first | omega | (simp at *; omega)) | (simp_all; done)))
  · refine lv_iload_n hx hb dX8_canBeBoundary_4 rfl (lv_at hl 0 rfl) ?_
    refine lv_iconst (v := 2) hx hb dX8_canBeBoundary_5 (by decide) ?_
    refine lv_icmp_ne (tgt := 24) hx hb dX8_canBeBoundary_6 (by decide) (fun c4 => ?_) (fun c4 => ?_)
    · refine lv_iconst (v := 0) hx hb dX8_canBeBoundary_24 (by decide) ?_
      exact g_zret C0 G hr dX8_canBeBoundary_25 rfl (Nat.le_of_ble_eq_true rfl) (Nat.le_of_ble_eq_true rfl) (by refine ⟨?_, rfl⟩; first | (simp_all; done) | (refine Or.inl ⟨rfl, ?_⟩; first | (simp only [Int32.lt_iff_toInt_lt, Int32.le_iff_toInt_le, ← Int32.toInt_inj] at *; first | omega | (simp at *; omega)) | (simp_all; done)) | (refine Or.inr ⟨rfl, ?_⟩; first | (simp only [Int32.lt_iff_toInt_lt, Int32.le_iff_toInt_le, ← Int32.toInt_inj] at *; first | omega | (simp at *; omega)) | (simp_all; done)))
    · refine lv_iload_n hx hb dX8_canBeBoundary_9 rfl (lv_at hl 1 rfl) ?_
      refine lv_iconst (v := 4) hx hb dX8_canBeBoundary_10 (by decide) ?_
      refine lv_icmp_eq (tgt := 20) hx hb dX8_canBeBoundary_11 (by decide) (fun c5 => ?_) (fun c5 => ?_)
      · refine lv_iconst (v := 1) hx hb dX8_canBeBoundary_20 (by decide) ?_
        refine lv_goto (tgt := 25) hx hb dX8_canBeBoundary_21 (by decide) ?_
        exact g_zret C0 G hr dX8_canBeBoundary_25 rfl (Nat.le_of_ble_eq_true rfl) (Nat.le_of_ble_eq_true rfl) (by refine ⟨?_, rfl⟩; first | (simp_all; done) | (refine Or.inl ⟨rfl, ?_⟩; first | (simp only [Int32.lt_iff_toInt_lt, Int32.le_iff_toInt_le, ← Int32.toInt_inj] at *; first | omega | (simp at *; omega)) | (simp_all; done)) | (refine Or.inr ⟨rfl, ?_⟩; first | (simp only [Int32.lt_iff_toInt_lt, Int32.le_iff_toInt_le, ← Int32.toInt_inj] at *; first | omega | (simp at *; omega)) | (simp_all; done)))
      · refine lv_iload_n hx hb dX8_canBeBoundary_14 rfl (lv_at hl 1 rfl) ?_
        refine lv_bipush (v := 6) hx hb dX8_canBeBoundary_15 (by decide) ?_
        refine lv_icmp_ne (tgt := 24) hx hb dX8_canBeBoundary_17 (by decide) (fun c6 => ?_) (fun c6 => ?_)
        · refine lv_iconst (v := 0) hx hb dX8_canBeBoundary_24 (by decide) ?_
          exact g_zret C0 G hr dX8_canBeBoundary_25 rfl (Nat.le_of_ble_eq_true rfl) (Nat.le_of_ble_eq_true rfl) (by refine ⟨?_, rfl⟩; first | (simp_all; done) | (refine Or.inl ⟨rfl, ?_⟩; first | (simp only [Int32.lt_iff_toInt_lt, Int32.le_iff_toInt_le, ← Int32.toInt_inj] at *; first | omega | (simp at *; omega)) | (simp_all; done)) | (refine Or.inr ⟨rfl, ?_⟩; first | (simp only [Int32.lt_iff_toInt_lt, Int32.le_iff_toInt_le, ← Int32.toInt_inj] at *; first | omega | (simp at *; omega)) | (simp_all; done)))
        · refine lv_iconst (v := 1) hx hb dX8_canBeBoundary_20 (by decide) ?_
          refine lv_goto (tgt := 25) hx hb dX8_canBeBoundary_21 (by decide) ?_
          exact g_zret C0 G hr dX8_canBeBoundary_25 rfl (Nat.le_of_ble_eq_true rfl) (Nat.le_of_ble_eq_true rfl) (by refine ⟨?_, rfl⟩; first | (simp_all; done) | (refine Or.inl ⟨rfl, ?_⟩; first | (simp only [Int32.lt_iff_toInt_lt, Int32.le_iff_toInt_le, ← Int32.toInt_inj] at *; first | omega | (simp at *; omega)) | (simp_all; done)) | (refine Or.inr ⟨rfl, ?_⟩; first | (simp only [Int32.lt_iff_toInt_lt, Int32.le_iff_toInt_le, ← Int32.toInt_inj] at *; first | omega | (simp at *; omega)) | (simp_all; done)))
set_option maxRecDepth 100000 in
theorem k_X3_quota {l : Launch} (hfl : l.stackTraces = false) {D : va_G} {cy : Nat → ClassId} {f : Hf} {sz : Nat} (limit : Int32)  : hMet l yX3_quota cX3_quota 1 (some .int) { frames := 0, cells := 0, slots := 0, locals := 0 } D (hTy cy) f sz [.int limit] (hQi (fun r u => r = (limit + 4) / 5 ∧ u = f) D f sz) hNo := by
  refine h_enter (by decide) hfl (Nat.le_of_ble_eq_true rfl) ?_
  intro p9 e9 s9 m9 b9 t9 c9 hsz C0 hr hnm G ls hl
  have hx := C0.1.1
  have hb := C0.1.2.1
  have hl : lv_has ls 1 [(0, .int limit)] := hl
  refine lv_iload_n hx hb dX3_quota_0 rfl (lv_at hl 0 rfl) ?_
  refine lv_iconst (v := 4) hx hb dX3_quota_1 (by decide) ?_
  refine lv_iadd hx hb dX3_quota_2 ?_
  refine lv_iconst (v := 5) hx hb dX3_quota_3 (by decide) ?_
  refine lv_idiv hx hb dX3_quota_4 (by decide) ?_
  exact g_iret C0 G hr dX3_quota_5 (Nat.le_of_ble_eq_true rfl) (Nat.le_of_ble_eq_true rfl) (by first | exact ⟨rfl, rfl⟩ | (refine ⟨?_, rfl⟩; simp_all; done))
set_option maxRecDepth 100000 in
theorem k_X6_get {l : Launch} (hfl : l.stackTraces = false) {D : va_G} {cy : Nat → ClassId} {f : Hf} {sz : Nat} {t c n : Nat} {cols rows : Int32} {g : Nat → Int32} (row column : Int32) (h_t : f t = some (.inr (8, [.int cols, .ref c, .int rows]))) (h_c : f c = some (.inl (cy 0, n, .inl g))) (hn : n < 2147483648) : hMet l yX6_get cX6_get 5 (some .int) { frames := 0, cells := 0, slots := 0, locals := 0 } D (hTy cy) f sz [.ref t, .int row, .int column] (hQi (fun r u => r = tget cols rows n g row column ∧ u = f) D f sz) hNo := by
  refine h_enter (by decide) hfl (Nat.le_of_ble_eq_true rfl) ?_
  intro p9 e9 s9 m9 b9 t9 c9 hsz C0 hr hnm G ls hl
  have hx := C0.1.1
  have hb := C0.1.2.1
  have hl : lv_has ls 5 [(0, .ref t), (1, .int row), (2, .int column)] := hl
  refine lv_iload_n hx hb dX6_get_0 rfl (lv_at hl 1 rfl) ?_
  refine lv_aload_n hx hb dX6_get_1 rfl (lv_at hl 0 rfl) ?_
  refine g_get C0 G h_t rfl hiX6 0 (by decide) mf_X6_13 rfl dX6_get_2 ?_
  refine lv_imul hx hb dX6_get_5 ?_
  refine lv_iload_n hx hb dX6_get_6 rfl (lv_at hl 2 rfl) ?_
  refine lv_iadd hx hb dX6_get_7 ?_
  refine lv_istore_n (lv' := [(3, .int ((row * cols) + column)), (0, .ref t), (1, .int row), (2, .int column)]) hx hb dX6_get_8 rfl hl (by decide) rfl (fun ls hl => ?_)
  refine lv_iload_n hx hb dX6_get_9 rfl (lv_at hl 2 rfl) ?_
  refine lv_if_lt (tgt := 37) hx hb dX6_get_10 (by decide) (fun c1 => ?_) (fun c1 => ?_)
  · refine lv_iconst (v := 0) hx hb dX6_get_37 (by decide) ?_
    refine lv_istore (lv' := [(4, .int 0), (3, .int ((row * cols) + column)), (0, .ref t), (1, .int row), (2, .int column)]) hx hb dX6_get_38 hl (by decide) rfl (fun ls hl => ?_)
    refine lv_iload hx hb dX6_get_40 (lv_at hl 0 rfl) ?_
    refine lv_if_eq (tgt := 67) hx hb dX6_get_42 (by decide) (fun _ => ?_) (fun c2 => absurd (by decide) c2)
    refine lv_iconst (v := 0) hx hb dX6_get_67 (by decide) ?_
    exact g_iret C0 G hr dX6_get_68 (Nat.le_of_ble_eq_true rfl) (Nat.le_of_ble_eq_true rfl) (by refine ⟨?_, rfl⟩; unfold tget; rw [if_neg (by (intro h9; obtain ⟨h91, h92, h93, h94, h95, h96⟩ := h9; simp only [Int32.lt_iff_toInt_lt, Int32.le_iff_toInt_le, Int32.toInt_zero] at *; omega))])
  · refine lv_iload_n hx hb dX6_get_13 rfl (lv_at hl 2 rfl) ?_
    refine lv_aload_n hx hb dX6_get_14 rfl (lv_at hl 1 rfl) ?_
    refine g_get C0 G h_t rfl hiX6 2 (by decide) mf_X6_7 rfl dX6_get_15 ?_
    refine lv_icmp_ge (tgt := 37) hx hb dX6_get_18 (by decide) (fun c3 => ?_) (fun c3 => ?_)
    · refine lv_iconst (v := 0) hx hb dX6_get_37 (by decide) ?_
      refine lv_istore (lv' := [(4, .int 0), (3, .int ((row * cols) + column)), (0, .ref t), (1, .int row), (2, .int column)]) hx hb dX6_get_38 hl (by decide) rfl (fun ls hl => ?_)
      refine lv_iload hx hb dX6_get_40 (lv_at hl 0 rfl) ?_
      refine lv_if_eq (tgt := 67) hx hb dX6_get_42 (by decide) (fun _ => ?_) (fun c4 => absurd (by decide) c4)
      refine lv_iconst (v := 0) hx hb dX6_get_67 (by decide) ?_
      exact g_iret C0 G hr dX6_get_68 (Nat.le_of_ble_eq_true rfl) (Nat.le_of_ble_eq_true rfl) (by refine ⟨?_, rfl⟩; unfold tget; rw [if_neg (by (intro h9; obtain ⟨h91, h92, h93, h94, h95, h96⟩ := h9; simp only [Int32.lt_iff_toInt_lt, Int32.le_iff_toInt_le, Int32.toInt_zero] at *; omega))])
    · refine lv_iload_n hx hb dX6_get_21 rfl (lv_at hl 3 rfl) ?_
      refine lv_if_lt (tgt := 37) hx hb dX6_get_22 (by decide) (fun c5 => ?_) (fun c5 => ?_)
      · refine lv_iconst (v := 0) hx hb dX6_get_37 (by decide) ?_
        refine lv_istore (lv' := [(4, .int 0), (3, .int ((row * cols) + column)), (0, .ref t), (1, .int row), (2, .int column)]) hx hb dX6_get_38 hl (by decide) rfl (fun ls hl => ?_)
        refine lv_iload hx hb dX6_get_40 (lv_at hl 0 rfl) ?_
        refine lv_if_eq (tgt := 67) hx hb dX6_get_42 (by decide) (fun _ => ?_) (fun c6 => absurd (by decide) c6)
        refine lv_iconst (v := 0) hx hb dX6_get_67 (by decide) ?_
        exact g_iret C0 G hr dX6_get_68 (Nat.le_of_ble_eq_true rfl) (Nat.le_of_ble_eq_true rfl) (by refine ⟨?_, rfl⟩; unfold tget; rw [if_neg (by (intro h9; obtain ⟨h91, h92, h93, h94, h95, h96⟩ := h9; simp only [Int32.lt_iff_toInt_lt, Int32.le_iff_toInt_le, Int32.toInt_zero] at *; omega))])
      · refine lv_iload_n hx hb dX6_get_25 rfl (lv_at hl 3 rfl) ?_
        refine lv_aload_n hx hb dX6_get_26 rfl (lv_at hl 1 rfl) ?_
        refine g_get C0 G h_t rfl hiX6 0 (by decide) mf_X6_13 rfl dX6_get_27 ?_
        refine lv_icmp_ge (tgt := 37) hx hb dX6_get_30 (by decide) (fun c7 => ?_) (fun c7 => ?_)
        · refine lv_iconst (v := 0) hx hb dX6_get_37 (by decide) ?_
          refine lv_istore (lv' := [(4, .int 0), (3, .int ((row * cols) + column)), (0, .ref t), (1, .int row), (2, .int column)]) hx hb dX6_get_38 hl (by decide) rfl (fun ls hl => ?_)
          refine lv_iload hx hb dX6_get_40 (lv_at hl 0 rfl) ?_
          refine lv_if_eq (tgt := 67) hx hb dX6_get_42 (by decide) (fun _ => ?_) (fun c8 => absurd (by decide) c8)
          refine lv_iconst (v := 0) hx hb dX6_get_67 (by decide) ?_
          exact g_iret C0 G hr dX6_get_68 (Nat.le_of_ble_eq_true rfl) (Nat.le_of_ble_eq_true rfl) (by refine ⟨?_, rfl⟩; unfold tget; rw [if_neg (by (intro h9; obtain ⟨h91, h92, h93, h94, h95, h96⟩ := h9; simp only [Int32.lt_iff_toInt_lt, Int32.le_iff_toInt_le, Int32.toInt_zero] at *; omega))])
        · refine lv_iconst (v := 1) hx hb dX6_get_33 (by decide) ?_
          refine lv_goto (tgt := 38) hx hb dX6_get_34 (by decide) ?_
          refine lv_istore (lv' := [(4, .int 1), (3, .int ((row * cols) + column)), (0, .ref t), (1, .int row), (2, .int column)]) hx hb dX6_get_38 hl (by decide) rfl (fun ls hl => ?_)
          refine lv_iload hx hb dX6_get_40 (lv_at hl 0 rfl) ?_
          refine lv_if_eq (tgt := 67) hx hb dX6_get_42 (by decide) (fun c9 => absurd c9 (by decide)) (fun _ => ?_)
          refine lv_iload_n hx hb dX6_get_45 rfl (lv_at hl 1 rfl) ?_
          refine lv_if_lt (tgt := 67) hx hb dX6_get_46 (by decide) (fun c10 => ?_) (fun c10 => ?_)
          · refine lv_iconst (v := 0) hx hb dX6_get_67 (by decide) ?_
            exact g_iret C0 G hr dX6_get_68 (Nat.le_of_ble_eq_true rfl) (Nat.le_of_ble_eq_true rfl) (by refine ⟨?_, rfl⟩; unfold tget; rw [if_neg (by (intro h9; obtain ⟨h91, h92, h93, h94, h95, h96⟩ := h9; simp only [Int32.lt_iff_toInt_lt, Int32.le_iff_toInt_le, Int32.toInt_zero] at *; omega))])
          · refine lv_iload_n hx hb dX6_get_49 rfl (lv_at hl 1 rfl) ?_
            refine lv_aload_n hx hb dX6_get_50 rfl (lv_at hl 2 rfl) ?_
            refine g_get C0 G h_t rfl hiX6 1 (by decide) mf_X6_22 rfl dX6_get_51 ?_
            refine g_alen C0 G h_c 0 rfl (v := Int32.ofNat n) rfl dX6_get_54 ?_
            refine lv_icmp_ge (tgt := 67) hx hb dX6_get_55 (by decide) (fun c11 => ?_) (fun c11 => ?_)
            · refine lv_iconst (v := 0) hx hb dX6_get_67 (by decide) ?_
              exact g_iret C0 G hr dX6_get_68 (Nat.le_of_ble_eq_true rfl) (Nat.le_of_ble_eq_true rfl) (by refine ⟨?_, rfl⟩; unfold tget; rw [if_neg (by (intro h9; obtain ⟨h91, h92, h93, h94, h95, h96⟩ := h9; simp only [Int32.lt_iff_toInt_lt, Int32.le_iff_toInt_le, Int32.toInt_zero] at *; omega))])
            · refine lv_aload_n hx hb dX6_get_58 rfl (lv_at hl 2 rfl) ?_
              refine g_get C0 G h_t rfl hiX6 1 (by decide) mf_X6_22 rfl dX6_get_59 ?_
              refine lv_iload_n hx hb dX6_get_62 rfl (lv_at hl 1 rfl) ?_
              refine g_iald C0 G h_c 0 rfl (hinb (by assumption) (by assumption) hn) dX6_get_63 ?_
              refine lv_goto (tgt := 68) hx hb dX6_get_64 (by decide) ?_
              exact g_iret C0 G hr dX6_get_68 (Nat.le_of_ble_eq_true rfl) (Nat.le_of_ble_eq_true rfl) (by refine ⟨?_, rfl⟩; unfold tget; rw [if_pos (by (refine ⟨?_, ?_, ?_, ?_, ?_, ?_⟩ <;> (simp only [Int32.lt_iff_toInt_lt, Int32.le_iff_toInt_le, Int32.toInt_zero] at *; omega)))])
set_option maxRecDepth 100000 in
theorem k_X6_set {l : Launch} (hfl : l.stackTraces = false) {D : va_G} {cy : Nat → ClassId} {f : Hf} {sz : Nat} {t c n : Nat} {cols rows : Int32} {g : Nat → Int32} (row column number : Int32) (h_t : f t = some (.inr (8, [.int cols, .ref c, .int rows]))) (h_c : f c = some (.inl (cy 0, n, .inl g))) (hn : n < 2147483648) : hMet l yX6_set cX6_set 6 none { frames := 0, cells := 0, slots := 0, locals := 0 } D (hTy cy) f sz [.ref t, .int row, .int column, .int number] (hQv (fun u => u = va_up f c (some (.inl (cy 0, n, .inl (tset cols rows n g row column number))))) D f sz) hNo := by
  refine h_enter (by decide) hfl (Nat.le_of_ble_eq_true rfl) ?_
  intro p9 e9 s9 m9 b9 t9 c9 hsz C0 hr hnm G ls hl
  have hx := C0.1.1
  have hb := C0.1.2.1
  have hl : lv_has ls 6 [(0, .ref t), (1, .int row), (2, .int column), (3, .int number)] := hl
  refine lv_iload_n hx hb dX6_set_0 rfl (lv_at hl 1 rfl) ?_
  refine lv_aload_n hx hb dX6_set_1 rfl (lv_at hl 0 rfl) ?_
  refine g_get C0 G h_t rfl hiX6 0 (by decide) mf_X6_13 rfl dX6_set_2 ?_
  refine lv_imul hx hb dX6_set_5 ?_
  refine lv_iload_n hx hb dX6_set_6 rfl (lv_at hl 2 rfl) ?_
  refine lv_iadd hx hb dX6_set_7 ?_
  refine lv_istore (lv' := [(4, .int ((row * cols) + column)), (0, .ref t), (1, .int row), (2, .int column), (3, .int number)]) hx hb dX6_set_8 hl (by decide) rfl (fun ls hl => ?_)
  refine lv_iload_n hx hb dX6_set_10 rfl (lv_at hl 2 rfl) ?_
  refine lv_if_lt (tgt := 38) hx hb dX6_set_11 (by decide) (fun c1 => ?_) (fun c1 => ?_)
  · refine lv_iconst (v := 0) hx hb dX6_set_38 (by decide) ?_
    refine lv_istore (lv' := [(5, .int 0), (4, .int ((row * cols) + column)), (0, .ref t), (1, .int row), (2, .int column), (3, .int number)]) hx hb dX6_set_39 hl (by decide) rfl (fun ls hl => ?_)
    refine lv_iload hx hb dX6_set_41 (lv_at hl 0 rfl) ?_
    refine lv_if_eq (tgt := 69) hx hb dX6_set_43 (by decide) (fun _ => ?_) (fun c2 => absurd (by decide) c2)
    exact g_vret C0 G hr dX6_set_69 (Nat.le_of_ble_eq_true rfl) (Nat.le_of_ble_eq_true rfl) (by unfold tset; rw [if_neg (by (intro h9; obtain ⟨h91, h92, h93, h94, h95, h96⟩ := h9; simp only [Int32.lt_iff_toInt_lt, Int32.le_iff_toInt_le, Int32.toInt_zero] at *; omega)), hupid h_c])
  · refine lv_iload_n hx hb dX6_set_14 rfl (lv_at hl 2 rfl) ?_
    refine lv_aload_n hx hb dX6_set_15 rfl (lv_at hl 1 rfl) ?_
    refine g_get C0 G h_t rfl hiX6 2 (by decide) mf_X6_7 rfl dX6_set_16 ?_
    refine lv_icmp_ge (tgt := 38) hx hb dX6_set_19 (by decide) (fun c3 => ?_) (fun c3 => ?_)
    · refine lv_iconst (v := 0) hx hb dX6_set_38 (by decide) ?_
      refine lv_istore (lv' := [(5, .int 0), (4, .int ((row * cols) + column)), (0, .ref t), (1, .int row), (2, .int column), (3, .int number)]) hx hb dX6_set_39 hl (by decide) rfl (fun ls hl => ?_)
      refine lv_iload hx hb dX6_set_41 (lv_at hl 0 rfl) ?_
      refine lv_if_eq (tgt := 69) hx hb dX6_set_43 (by decide) (fun _ => ?_) (fun c4 => absurd (by decide) c4)
      exact g_vret C0 G hr dX6_set_69 (Nat.le_of_ble_eq_true rfl) (Nat.le_of_ble_eq_true rfl) (by unfold tset; rw [if_neg (by (intro h9; obtain ⟨h91, h92, h93, h94, h95, h96⟩ := h9; simp only [Int32.lt_iff_toInt_lt, Int32.le_iff_toInt_le, Int32.toInt_zero] at *; omega)), hupid h_c])
    · refine lv_iload_n hx hb dX6_set_22 rfl (lv_at hl 3 rfl) ?_
      refine lv_if_lt (tgt := 38) hx hb dX6_set_23 (by decide) (fun c5 => ?_) (fun c5 => ?_)
      · refine lv_iconst (v := 0) hx hb dX6_set_38 (by decide) ?_
        refine lv_istore (lv' := [(5, .int 0), (4, .int ((row * cols) + column)), (0, .ref t), (1, .int row), (2, .int column), (3, .int number)]) hx hb dX6_set_39 hl (by decide) rfl (fun ls hl => ?_)
        refine lv_iload hx hb dX6_set_41 (lv_at hl 0 rfl) ?_
        refine lv_if_eq (tgt := 69) hx hb dX6_set_43 (by decide) (fun _ => ?_) (fun c6 => absurd (by decide) c6)
        exact g_vret C0 G hr dX6_set_69 (Nat.le_of_ble_eq_true rfl) (Nat.le_of_ble_eq_true rfl) (by unfold tset; rw [if_neg (by (intro h9; obtain ⟨h91, h92, h93, h94, h95, h96⟩ := h9; simp only [Int32.lt_iff_toInt_lt, Int32.le_iff_toInt_le, Int32.toInt_zero] at *; omega)), hupid h_c])
      · refine lv_iload_n hx hb dX6_set_26 rfl (lv_at hl 3 rfl) ?_
        refine lv_aload_n hx hb dX6_set_27 rfl (lv_at hl 1 rfl) ?_
        refine g_get C0 G h_t rfl hiX6 0 (by decide) mf_X6_13 rfl dX6_set_28 ?_
        refine lv_icmp_ge (tgt := 38) hx hb dX6_set_31 (by decide) (fun c7 => ?_) (fun c7 => ?_)
        · refine lv_iconst (v := 0) hx hb dX6_set_38 (by decide) ?_
          refine lv_istore (lv' := [(5, .int 0), (4, .int ((row * cols) + column)), (0, .ref t), (1, .int row), (2, .int column), (3, .int number)]) hx hb dX6_set_39 hl (by decide) rfl (fun ls hl => ?_)
          refine lv_iload hx hb dX6_set_41 (lv_at hl 0 rfl) ?_
          refine lv_if_eq (tgt := 69) hx hb dX6_set_43 (by decide) (fun _ => ?_) (fun c8 => absurd (by decide) c8)
          exact g_vret C0 G hr dX6_set_69 (Nat.le_of_ble_eq_true rfl) (Nat.le_of_ble_eq_true rfl) (by unfold tset; rw [if_neg (by (intro h9; obtain ⟨h91, h92, h93, h94, h95, h96⟩ := h9; simp only [Int32.lt_iff_toInt_lt, Int32.le_iff_toInt_le, Int32.toInt_zero] at *; omega)), hupid h_c])
        · refine lv_iconst (v := 1) hx hb dX6_set_34 (by decide) ?_
          refine lv_goto (tgt := 39) hx hb dX6_set_35 (by decide) ?_
          refine lv_istore (lv' := [(5, .int 1), (4, .int ((row * cols) + column)), (0, .ref t), (1, .int row), (2, .int column), (3, .int number)]) hx hb dX6_set_39 hl (by decide) rfl (fun ls hl => ?_)
          refine lv_iload hx hb dX6_set_41 (lv_at hl 0 rfl) ?_
          refine lv_if_eq (tgt := 69) hx hb dX6_set_43 (by decide) (fun c9 => absurd c9 (by decide)) (fun _ => ?_)
          refine lv_iload hx hb dX6_set_46 (lv_at hl 1 rfl) ?_
          refine lv_if_lt (tgt := 69) hx hb dX6_set_48 (by decide) (fun c10 => ?_) (fun c10 => ?_)
          · exact g_vret C0 G hr dX6_set_69 (Nat.le_of_ble_eq_true rfl) (Nat.le_of_ble_eq_true rfl) (by unfold tset; rw [if_neg (by (intro h9; obtain ⟨h91, h92, h93, h94, h95, h96⟩ := h9; simp only [Int32.lt_iff_toInt_lt, Int32.le_iff_toInt_le, Int32.toInt_zero] at *; omega)), hupid h_c])
          · refine lv_iload hx hb dX6_set_51 (lv_at hl 1 rfl) ?_
            refine lv_aload_n hx hb dX6_set_53 rfl (lv_at hl 2 rfl) ?_
            refine g_get C0 G h_t rfl hiX6 1 (by decide) mf_X6_22 rfl dX6_set_54 ?_
            refine g_alen C0 G h_c 0 rfl (v := Int32.ofNat n) rfl dX6_set_57 ?_
            refine lv_icmp_ge (tgt := 69) hx hb dX6_set_58 (by decide) (fun c11 => ?_) (fun c11 => ?_)
            · exact g_vret C0 G hr dX6_set_69 (Nat.le_of_ble_eq_true rfl) (Nat.le_of_ble_eq_true rfl) (by unfold tset; rw [if_neg (by (intro h9; obtain ⟨h91, h92, h93, h94, h95, h96⟩ := h9; simp only [Int32.lt_iff_toInt_lt, Int32.le_iff_toInt_le, Int32.toInt_zero] at *; omega)), hupid h_c])
            · refine lv_aload_n hx hb dX6_set_61 rfl (lv_at hl 2 rfl) ?_
              refine g_get C0 G h_t rfl hiX6 1 (by decide) mf_X6_22 rfl dX6_set_62 ?_
              refine lv_iload hx hb dX6_set_65 (lv_at hl 1 rfl) ?_
              refine lv_iload_n hx hb dX6_set_67 rfl (lv_at hl 5 rfl) ?_
              refine g_iast C0 G h_c 0 rfl (hinb (by assumption) (by assumption) hn) dX6_set_68 (fun H locs f12 hf12 G => ?_)
              have k13 : f12 c = some (.inl (cy 0, n, .inl (upd g ((row * cols) + column).toNatClampNeg number))) := hus hf12
              exact g_vret C0 G hr dX6_set_69 (Nat.le_of_ble_eq_true rfl) (Nat.le_of_ble_eq_true rfl) (by rw [hf12]; unfold tset; rw [if_pos (by (refine ⟨?_, ?_, ?_, ?_, ?_, ?_⟩ <;> (simp only [Int32.lt_iff_toInt_lt, Int32.le_iff_toInt_le, Int32.toInt_zero] at *; omega)))])
set_option maxRecDepth 100000 in
theorem k_X6_increase {l : Launch} (hfl : l.stackTraces = false) {D : va_G} {cy : Nat → ClassId} {f : Hf} {sz : Nat} {t c n : Nat} {cols rows : Int32} {g : Nat → Int32} (row column number : Int32) (h_t : f t = some (.inr (8, [.int cols, .ref c, .int rows]))) (h_c : f c = some (.inl (cy 0, n, .inl g))) (hn : n < 2147483648) : hMet l yX6_increase cX6_increase 6 none { frames := 0, cells := 0, slots := 0, locals := 0 } D (hTy cy) f sz [.ref t, .int row, .int column, .int number] (hQv (fun u => u = va_up f c (some (.inl (cy 0, n, .inl (tinc cols rows n g row column number))))) D f sz) hNo := by
  refine h_enter (by decide) hfl (Nat.le_of_ble_eq_true rfl) ?_
  intro p9 e9 s9 m9 b9 t9 c9 hsz C0 hr hnm G ls hl
  have hx := C0.1.1
  have hb := C0.1.2.1
  have hl : lv_has ls 6 [(0, .ref t), (1, .int row), (2, .int column), (3, .int number)] := hl
  refine lv_iload_n hx hb dX6_increase_0 rfl (lv_at hl 1 rfl) ?_
  refine lv_aload_n hx hb dX6_increase_1 rfl (lv_at hl 0 rfl) ?_
  refine g_get C0 G h_t rfl hiX6 0 (by decide) mf_X6_13 rfl dX6_increase_2 ?_
  refine lv_imul hx hb dX6_increase_5 ?_
  refine lv_iload_n hx hb dX6_increase_6 rfl (lv_at hl 2 rfl) ?_
  refine lv_iadd hx hb dX6_increase_7 ?_
  refine lv_istore (lv' := [(4, .int ((row * cols) + column)), (0, .ref t), (1, .int row), (2, .int column), (3, .int number)]) hx hb dX6_increase_8 hl (by decide) rfl (fun ls hl => ?_)
  refine lv_iload_n hx hb dX6_increase_10 rfl (lv_at hl 2 rfl) ?_
  refine lv_if_lt (tgt := 38) hx hb dX6_increase_11 (by decide) (fun c1 => ?_) (fun c1 => ?_)
  · refine lv_iconst (v := 0) hx hb dX6_increase_38 (by decide) ?_
    refine lv_istore (lv' := [(5, .int 0), (4, .int ((row * cols) + column)), (0, .ref t), (1, .int row), (2, .int column), (3, .int number)]) hx hb dX6_increase_39 hl (by decide) rfl (fun ls hl => ?_)
    refine lv_iload hx hb dX6_increase_41 (lv_at hl 0 rfl) ?_
    refine lv_if_eq (tgt := 72) hx hb dX6_increase_43 (by decide) (fun _ => ?_) (fun c2 => absurd (by decide) c2)
    exact g_vret C0 G hr dX6_increase_72 (Nat.le_of_ble_eq_true rfl) (Nat.le_of_ble_eq_true rfl) (by unfold tinc; rw [if_neg (by (intro h9; obtain ⟨h91, h92, h93, h94, h95, h96⟩ := h9; simp only [Int32.lt_iff_toInt_lt, Int32.le_iff_toInt_le, Int32.toInt_zero] at *; omega)), hupid h_c])
  · refine lv_iload_n hx hb dX6_increase_14 rfl (lv_at hl 2 rfl) ?_
    refine lv_aload_n hx hb dX6_increase_15 rfl (lv_at hl 1 rfl) ?_
    refine g_get C0 G h_t rfl hiX6 2 (by decide) mf_X6_7 rfl dX6_increase_16 ?_
    refine lv_icmp_ge (tgt := 38) hx hb dX6_increase_19 (by decide) (fun c3 => ?_) (fun c3 => ?_)
    · refine lv_iconst (v := 0) hx hb dX6_increase_38 (by decide) ?_
      refine lv_istore (lv' := [(5, .int 0), (4, .int ((row * cols) + column)), (0, .ref t), (1, .int row), (2, .int column), (3, .int number)]) hx hb dX6_increase_39 hl (by decide) rfl (fun ls hl => ?_)
      refine lv_iload hx hb dX6_increase_41 (lv_at hl 0 rfl) ?_
      refine lv_if_eq (tgt := 72) hx hb dX6_increase_43 (by decide) (fun _ => ?_) (fun c4 => absurd (by decide) c4)
      exact g_vret C0 G hr dX6_increase_72 (Nat.le_of_ble_eq_true rfl) (Nat.le_of_ble_eq_true rfl) (by unfold tinc; rw [if_neg (by (intro h9; obtain ⟨h91, h92, h93, h94, h95, h96⟩ := h9; simp only [Int32.lt_iff_toInt_lt, Int32.le_iff_toInt_le, Int32.toInt_zero] at *; omega)), hupid h_c])
    · refine lv_iload_n hx hb dX6_increase_22 rfl (lv_at hl 3 rfl) ?_
      refine lv_if_lt (tgt := 38) hx hb dX6_increase_23 (by decide) (fun c5 => ?_) (fun c5 => ?_)
      · refine lv_iconst (v := 0) hx hb dX6_increase_38 (by decide) ?_
        refine lv_istore (lv' := [(5, .int 0), (4, .int ((row * cols) + column)), (0, .ref t), (1, .int row), (2, .int column), (3, .int number)]) hx hb dX6_increase_39 hl (by decide) rfl (fun ls hl => ?_)
        refine lv_iload hx hb dX6_increase_41 (lv_at hl 0 rfl) ?_
        refine lv_if_eq (tgt := 72) hx hb dX6_increase_43 (by decide) (fun _ => ?_) (fun c6 => absurd (by decide) c6)
        exact g_vret C0 G hr dX6_increase_72 (Nat.le_of_ble_eq_true rfl) (Nat.le_of_ble_eq_true rfl) (by unfold tinc; rw [if_neg (by (intro h9; obtain ⟨h91, h92, h93, h94, h95, h96⟩ := h9; simp only [Int32.lt_iff_toInt_lt, Int32.le_iff_toInt_le, Int32.toInt_zero] at *; omega)), hupid h_c])
      · refine lv_iload_n hx hb dX6_increase_26 rfl (lv_at hl 3 rfl) ?_
        refine lv_aload_n hx hb dX6_increase_27 rfl (lv_at hl 1 rfl) ?_
        refine g_get C0 G h_t rfl hiX6 0 (by decide) mf_X6_13 rfl dX6_increase_28 ?_
        refine lv_icmp_ge (tgt := 38) hx hb dX6_increase_31 (by decide) (fun c7 => ?_) (fun c7 => ?_)
        · refine lv_iconst (v := 0) hx hb dX6_increase_38 (by decide) ?_
          refine lv_istore (lv' := [(5, .int 0), (4, .int ((row * cols) + column)), (0, .ref t), (1, .int row), (2, .int column), (3, .int number)]) hx hb dX6_increase_39 hl (by decide) rfl (fun ls hl => ?_)
          refine lv_iload hx hb dX6_increase_41 (lv_at hl 0 rfl) ?_
          refine lv_if_eq (tgt := 72) hx hb dX6_increase_43 (by decide) (fun _ => ?_) (fun c8 => absurd (by decide) c8)
          exact g_vret C0 G hr dX6_increase_72 (Nat.le_of_ble_eq_true rfl) (Nat.le_of_ble_eq_true rfl) (by unfold tinc; rw [if_neg (by (intro h9; obtain ⟨h91, h92, h93, h94, h95, h96⟩ := h9; simp only [Int32.lt_iff_toInt_lt, Int32.le_iff_toInt_le, Int32.toInt_zero] at *; omega)), hupid h_c])
        · refine lv_iconst (v := 1) hx hb dX6_increase_34 (by decide) ?_
          refine lv_goto (tgt := 39) hx hb dX6_increase_35 (by decide) ?_
          refine lv_istore (lv' := [(5, .int 1), (4, .int ((row * cols) + column)), (0, .ref t), (1, .int row), (2, .int column), (3, .int number)]) hx hb dX6_increase_39 hl (by decide) rfl (fun ls hl => ?_)
          refine lv_iload hx hb dX6_increase_41 (lv_at hl 0 rfl) ?_
          refine lv_if_eq (tgt := 72) hx hb dX6_increase_43 (by decide) (fun c9 => absurd c9 (by decide)) (fun _ => ?_)
          refine lv_iload hx hb dX6_increase_46 (lv_at hl 1 rfl) ?_
          refine lv_if_lt (tgt := 72) hx hb dX6_increase_48 (by decide) (fun c10 => ?_) (fun c10 => ?_)
          · exact g_vret C0 G hr dX6_increase_72 (Nat.le_of_ble_eq_true rfl) (Nat.le_of_ble_eq_true rfl) (by unfold tinc; rw [if_neg (by (intro h9; obtain ⟨h91, h92, h93, h94, h95, h96⟩ := h9; simp only [Int32.lt_iff_toInt_lt, Int32.le_iff_toInt_le, Int32.toInt_zero] at *; omega)), hupid h_c])
          · refine lv_iload hx hb dX6_increase_51 (lv_at hl 1 rfl) ?_
            refine lv_aload_n hx hb dX6_increase_53 rfl (lv_at hl 2 rfl) ?_
            refine g_get C0 G h_t rfl hiX6 1 (by decide) mf_X6_22 rfl dX6_increase_54 ?_
            refine g_alen C0 G h_c 0 rfl (v := Int32.ofNat n) rfl dX6_increase_57 ?_
            refine lv_icmp_ge (tgt := 72) hx hb dX6_increase_58 (by decide) (fun c11 => ?_) (fun c11 => ?_)
            · exact g_vret C0 G hr dX6_increase_72 (Nat.le_of_ble_eq_true rfl) (Nat.le_of_ble_eq_true rfl) (by unfold tinc; rw [if_neg (by (intro h9; obtain ⟨h91, h92, h93, h94, h95, h96⟩ := h9; simp only [Int32.lt_iff_toInt_lt, Int32.le_iff_toInt_le, Int32.toInt_zero] at *; omega)), hupid h_c])
            · refine lv_aload_n hx hb dX6_increase_61 rfl (lv_at hl 2 rfl) ?_
              refine g_get C0 G h_t rfl hiX6 1 (by decide) mf_X6_22 rfl dX6_increase_62 ?_
              refine lv_iload hx hb dX6_increase_65 (lv_at hl 1 rfl) ?_
              refine lv_dup2_11 hx hb dX6_increase_67 rfl rfl ?_
              refine g_iald C0 G h_c 0 rfl (hinb (by assumption) (by assumption) hn) dX6_increase_68 ?_
              refine lv_iload_n hx hb dX6_increase_69 rfl (lv_at hl 5 rfl) ?_
              refine lv_iadd hx hb dX6_increase_70 ?_
              refine g_iast C0 G h_c 0 rfl (hinb (by assumption) (by assumption) hn) dX6_increase_71 (fun H locs f12 hf12 G => ?_)
              have k13 : f12 c = some (.inl (cy 0, n, .inl (upd g ((row * cols) + column).toNatClampNeg ((g ((row * cols) + column).toNatClampNeg) + number)))) := hus hf12
              exact g_vret C0 G hr dX6_increase_72 (Nat.le_of_ble_eq_true rfl) (Nat.le_of_ble_eq_true rfl) (by rw [hf12]; unfold tinc; rw [if_pos (by (refine ⟨?_, ?_, ?_, ?_, ?_, ?_⟩ <;> (simp only [Int32.lt_iff_toInt_lt, Int32.le_iff_toInt_le, Int32.toInt_zero] at *; omega)))])
set_option maxRecDepth 100000 in
theorem k_X6_lastRow {l : Launch} (hfl : l.stackTraces = false) {D : va_G} {cy : Nat → ClassId} {f : Hf} {sz : Nat} {t c n : Nat} {cols rows : Int32} {g : Nat → Int32} (h_t : f t = some (.inr (8, [.int cols, .ref c, .int rows]))) (h_c : f c = some (.inl (cy 0, n, .inl g))) : hMet l yX6_lastRow cX6_lastRow 1 (some .int) { frames := 0, cells := 0, slots := 0, locals := 0 } D (hTy cy) f sz [.ref t] (hQi (fun r u => r = rows - 1 ∧ u = f) D f sz) hNo := by
  refine h_enter (by decide) hfl (Nat.le_of_ble_eq_true rfl) ?_
  intro p9 e9 s9 m9 b9 t9 c9 hsz C0 hr hnm G ls hl
  have hx := C0.1.1
  have hb := C0.1.2.1
  have hl : lv_has ls 1 [(0, .ref t)] := hl
  refine lv_aload_n hx hb dX6_lastRow_0 rfl (lv_at hl 0 rfl) ?_
  refine g_get C0 G h_t rfl hiX6 2 (by decide) mf_X6_7 rfl dX6_lastRow_1 ?_
  refine lv_iconst (v := 1) hx hb dX6_lastRow_4 (by decide) ?_
  refine lv_isub hx hb dX6_lastRow_5 ?_
  exact g_iret C0 G hr dX6_lastRow_6 (Nat.le_of_ble_eq_true rfl) (Nat.le_of_ble_eq_true rfl) (by exact ⟨rfl, rfl⟩)
set_option maxRecDepth 100000 in
theorem k_X6_hasRow {l : Launch} (hfl : l.stackTraces = false) {D : va_G} {cy : Nat → ClassId} {f : Hf} {sz : Nat} {t c n : Nat} {cols rows : Int32} {g : Nat → Int32} (k9 : Int32) (h_t : f t = some (.inr (8, [.int cols, .ref c, .int rows]))) (h_c : f c = some (.inl (cy 0, n, .inl g))) : hMet l yX6_hasRow cX6_hasRow 2 (some .boolean) { frames := 0, cells := 0, slots := 0, locals := 0 } D (hTy cy) f sz [.ref t, .int k9] (hQi (fun r u => ((r = 1 ∧ 0 ≤ k9 ∧ k9 < rows) ∨ (r = 0 ∧ ¬ (0 ≤ k9 ∧ k9 < rows))) ∧ u = f) D f sz) hNo := by
  refine h_enter (by decide) hfl (Nat.le_of_ble_eq_true rfl) ?_
  intro p9 e9 s9 m9 b9 t9 c9 hsz C0 hr hnm G ls hl
  have hx := C0.1.1
  have hb := C0.1.2.1
  have hl : lv_has ls 2 [(0, .ref t), (1, .int k9)] := hl
  refine lv_iload_n hx hb dX6_hasRow_0 rfl (lv_at hl 1 rfl) ?_
  refine lv_if_lt (tgt := 16) hx hb dX6_hasRow_1 (by decide) (fun c1 => ?_) (fun c1 => ?_)
  · refine lv_iconst (v := 0) hx hb dX6_hasRow_16 (by decide) ?_
    exact g_zret C0 G hr dX6_hasRow_17 rfl (Nat.le_of_ble_eq_true rfl) (Nat.le_of_ble_eq_true rfl) (by refine ⟨?_, rfl⟩; first | (simp_all; done) | (refine Or.inl ⟨rfl, ?_⟩; first | (simp only [Int32.lt_iff_toInt_lt, Int32.le_iff_toInt_le, ← Int32.toInt_inj] at *; first | omega | (simp at *; omega)) | (simp_all; done)) | (refine Or.inr ⟨rfl, ?_⟩; first | (simp only [Int32.lt_iff_toInt_lt, Int32.le_iff_toInt_le, ← Int32.toInt_inj] at *; first | omega | (simp at *; omega)) | (simp_all; done)))
  · refine lv_iload_n hx hb dX6_hasRow_4 rfl (lv_at hl 1 rfl) ?_
    refine lv_aload_n hx hb dX6_hasRow_5 rfl (lv_at hl 0 rfl) ?_
    refine g_get C0 G h_t rfl hiX6 2 (by decide) mf_X6_7 rfl dX6_hasRow_6 ?_
    refine lv_icmp_ge (tgt := 16) hx hb dX6_hasRow_9 (by decide) (fun c2 => ?_) (fun c2 => ?_)
    · refine lv_iconst (v := 0) hx hb dX6_hasRow_16 (by decide) ?_
      exact g_zret C0 G hr dX6_hasRow_17 rfl (Nat.le_of_ble_eq_true rfl) (Nat.le_of_ble_eq_true rfl) (by refine ⟨?_, rfl⟩; first | (simp_all; done) | (refine Or.inl ⟨rfl, ?_⟩; first | (simp only [Int32.lt_iff_toInt_lt, Int32.le_iff_toInt_le, ← Int32.toInt_inj] at *; first | omega | (simp at *; omega)) | (simp_all; done)) | (refine Or.inr ⟨rfl, ?_⟩; first | (simp only [Int32.lt_iff_toInt_lt, Int32.le_iff_toInt_le, ← Int32.toInt_inj] at *; first | omega | (simp at *; omega)) | (simp_all; done)))
    · refine lv_iconst (v := 1) hx hb dX6_hasRow_12 (by decide) ?_
      refine lv_goto (tgt := 17) hx hb dX6_hasRow_13 (by decide) ?_
      exact g_zret C0 G hr dX6_hasRow_17 rfl (Nat.le_of_ble_eq_true rfl) (Nat.le_of_ble_eq_true rfl) (by refine ⟨?_, rfl⟩; first | (simp_all; done) | (refine Or.inl ⟨rfl, ?_⟩; first | (simp only [Int32.lt_iff_toInt_lt, Int32.le_iff_toInt_le, ← Int32.toInt_inj] at *; first | omega | (simp at *; omega)) | (simp_all; done)) | (refine Or.inr ⟨rfl, ?_⟩; first | (simp only [Int32.lt_iff_toInt_lt, Int32.le_iff_toInt_le, ← Int32.toInt_inj] at *; first | omega | (simp at *; omega)) | (simp_all; done)))
set_option maxRecDepth 100000 in
theorem k_X6_hasColumn {l : Launch} (hfl : l.stackTraces = false) {D : va_G} {cy : Nat → ClassId} {f : Hf} {sz : Nat} {t c n : Nat} {cols rows : Int32} {g : Nat → Int32} (k9 : Int32) (h_t : f t = some (.inr (8, [.int cols, .ref c, .int rows]))) (h_c : f c = some (.inl (cy 0, n, .inl g))) : hMet l yX6_hasColumn cX6_hasColumn 2 (some .boolean) { frames := 0, cells := 0, slots := 0, locals := 0 } D (hTy cy) f sz [.ref t, .int k9] (hQi (fun r u => ((r = 1 ∧ 0 ≤ k9 ∧ k9 < cols) ∨ (r = 0 ∧ ¬ (0 ≤ k9 ∧ k9 < cols))) ∧ u = f) D f sz) hNo := by
  refine h_enter (by decide) hfl (Nat.le_of_ble_eq_true rfl) ?_
  intro p9 e9 s9 m9 b9 t9 c9 hsz C0 hr hnm G ls hl
  have hx := C0.1.1
  have hb := C0.1.2.1
  have hl : lv_has ls 2 [(0, .ref t), (1, .int k9)] := hl
  refine lv_iload_n hx hb dX6_hasColumn_0 rfl (lv_at hl 1 rfl) ?_
  refine lv_if_lt (tgt := 16) hx hb dX6_hasColumn_1 (by decide) (fun c1 => ?_) (fun c1 => ?_)
  · refine lv_iconst (v := 0) hx hb dX6_hasColumn_16 (by decide) ?_
    exact g_zret C0 G hr dX6_hasColumn_17 rfl (Nat.le_of_ble_eq_true rfl) (Nat.le_of_ble_eq_true rfl) (by refine ⟨?_, rfl⟩; first | (simp_all; done) | (refine Or.inl ⟨rfl, ?_⟩; first | (simp only [Int32.lt_iff_toInt_lt, Int32.le_iff_toInt_le, ← Int32.toInt_inj] at *; first | omega | (simp at *; omega)) | (simp_all; done)) | (refine Or.inr ⟨rfl, ?_⟩; first | (simp only [Int32.lt_iff_toInt_lt, Int32.le_iff_toInt_le, ← Int32.toInt_inj] at *; first | omega | (simp at *; omega)) | (simp_all; done)))
  · refine lv_iload_n hx hb dX6_hasColumn_4 rfl (lv_at hl 1 rfl) ?_
    refine lv_aload_n hx hb dX6_hasColumn_5 rfl (lv_at hl 0 rfl) ?_
    refine g_get C0 G h_t rfl hiX6 0 (by decide) mf_X6_13 rfl dX6_hasColumn_6 ?_
    refine lv_icmp_ge (tgt := 16) hx hb dX6_hasColumn_9 (by decide) (fun c2 => ?_) (fun c2 => ?_)
    · refine lv_iconst (v := 0) hx hb dX6_hasColumn_16 (by decide) ?_
      exact g_zret C0 G hr dX6_hasColumn_17 rfl (Nat.le_of_ble_eq_true rfl) (Nat.le_of_ble_eq_true rfl) (by refine ⟨?_, rfl⟩; first | (simp_all; done) | (refine Or.inl ⟨rfl, ?_⟩; first | (simp only [Int32.lt_iff_toInt_lt, Int32.le_iff_toInt_le, ← Int32.toInt_inj] at *; first | omega | (simp at *; omega)) | (simp_all; done)) | (refine Or.inr ⟨rfl, ?_⟩; first | (simp only [Int32.lt_iff_toInt_lt, Int32.le_iff_toInt_le, ← Int32.toInt_inj] at *; first | omega | (simp at *; omega)) | (simp_all; done)))
    · refine lv_iconst (v := 1) hx hb dX6_hasColumn_12 (by decide) ?_
      refine lv_goto (tgt := 17) hx hb dX6_hasColumn_13 (by decide) ?_
      exact g_zret C0 G hr dX6_hasColumn_17 rfl (Nat.le_of_ble_eq_true rfl) (Nat.le_of_ble_eq_true rfl) (by refine ⟨?_, rfl⟩; first | (simp_all; done) | (refine Or.inl ⟨rfl, ?_⟩; first | (simp only [Int32.lt_iff_toInt_lt, Int32.le_iff_toInt_le, ← Int32.toInt_inj] at *; first | omega | (simp at *; omega)) | (simp_all; done)) | (refine Or.inr ⟨rfl, ?_⟩; first | (simp only [Int32.lt_iff_toInt_lt, Int32.le_iff_toInt_le, ← Int32.toInt_inj] at *; first | omega | (simp at *; omega)) | (simp_all; done)))
set_option maxRecDepth 100000 in
theorem k_X6_addRow {l : Launch} (hfl : l.stackTraces = false) {D : va_G} {cy : Nat → ClassId} {f : Hf} {sz : Nat} {t c n C r : Nat} {g : Nat → Int32} (h_t : f t = some (.inr (8, [.int (nI C), .ref c, .int (nI r)]))) (h_c : f c = some (.inl (cy 0, n, .inl g))) (hr1 : r * C + C ≤ n) (hn : n < 1048576) (hr9 : r < 65536) (hC : C < 64) : hMet l yX6_addRow cX6_addRow 3 none { frames := 0, cells := 0, slots := 0, locals := 0 } D (hTy cy) f sz [.ref t] (hQv (fun u => u = va_up (va_up f t (some (.inr (8, [.int (nI C), .ref c, .int (nI (r + 1))])))) c (some (.inl (cy 0, n, .inl (zf g (r * C) (r * C + C)))))) D f sz) hNo := by
  refine h_enter (by decide) hfl (Nat.le_of_ble_eq_true rfl) ?_
  intro p9 e9 s9 m9 b9 t9 c9 hsz C0 hr hnm G ls hl
  have hx := C0.1.1
  have hb := C0.1.2.1
  have hl : lv_has ls 3 [(0, .ref t)] := hl
  refine lv_aload_n hx hb dX6_addRow_0 rfl (lv_at hl 0 rfl) ?_
  refine g_get C0 G h_t rfl hiX6 2 (by decide) mf_X6_7 rfl dX6_addRow_1 ?_
  refine lv_aload_n hx hb dX6_addRow_4 rfl (lv_at hl 0 rfl) ?_
  refine g_get C0 G h_t rfl hiX6 0 (by decide) mf_X6_13 rfl dX6_addRow_5 ?_
  refine lv_imul hx hb dX6_addRow_8 ?_
  refine lv_topv (v := nI (r * C)) ((pk_mul _ _)) ?_
  refine lv_istore_n (lv' := [(1, .int (nI (r * C))), (0, .ref t)]) hx hb dX6_addRow_9 rfl hl (by decide) rfl (fun ls hl => ?_)
  refine lv_iload_n hx hb dX6_addRow_10 rfl (lv_at hl 0 rfl) ?_
  refine lv_if_lt (tgt := 28) hx hb dX6_addRow_11 (by decide) (fun c1 => absurd c1 (nI_pos (by omega))) (fun _ => ?_)
  refine lv_iload_n hx hb dX6_addRow_14 rfl (lv_at hl 0 rfl) ?_
  refine lv_aload_n hx hb dX6_addRow_15 rfl (lv_at hl 1 rfl) ?_
  refine g_get C0 G h_t rfl hiX6 0 (by decide) mf_X6_13 rfl dX6_addRow_16 ?_
  refine lv_iadd hx hb dX6_addRow_19 ?_
  refine lv_topv (v := nI (r * C + C)) ((nI_add _ _)) ?_
  refine lv_aload_n hx hb dX6_addRow_20 rfl (lv_at hl 1 rfl) ?_
  refine g_get C0 G h_t rfl hiX6 1 (by decide) mf_X6_22 rfl dX6_addRow_21 ?_
  refine g_alen C0 G h_c 0 rfl (v := Int32.ofNat n) rfl dX6_addRow_24 ?_
  refine lv_icmp_le (tgt := 29) hx hb dX6_addRow_25 (by decide) (fun _ => ?_) (fun c2 => absurd (nI_le hr1 (by omega)) c2)
  refine lv_aload_n hx hb dX6_addRow_29 rfl (lv_at hl 1 rfl) ?_
  refine lv_dup hx hb dX6_addRow_30 rfl ?_
  refine g_get C0 G h_t rfl hiX6 2 (by decide) mf_X6_7 rfl dX6_addRow_31 ?_
  refine lv_iconst (v := 1) hx hb dX6_addRow_34 (by decide) ?_
  refine lv_iadd hx hb dX6_addRow_35 ?_
  refine lv_topv (v := nI (r + 1)) ((nI_add _ _)) ?_
  refine g_put C0 G h_t rfl hiX6 tyX6 tyX6_ok nmX6 2 (by decide) mf_X6_7 rfl rfl rfl rfl (Nat.le_of_ble_eq_true rfl) dX6_addRow_36 (fun H locs f3 hf3 G => ?_)
  have k4 : f3 t = some (.inr (8, [.int (nI C), .ref c, .int (nI (r + 1))])) := hus hf3
  refine lv_iload_n hx hb dX6_addRow_39 rfl (lv_at hl 0 rfl) ?_
  refine lv_istore_n (lv' := [(2, .int (nI (r * C))), (1, .int (nI (r * C))), (0, .ref t)]) hx hb dX6_addRow_40 rfl hl (by decide) rfl (fun ls hl => ?_)
  have k5 : f3 c = some (.inl (cy 0, n, .inl g)) := hup hf3 (hne h_c h_t (by intro q; cases q)) h_c
  refine W.widen (k := 0) (n := 0) (Nat.le_of_ble_eq_true rfl) (Nat.le_of_ble_eq_true rfl) ?_
  have LOOP41 : ∀ (k : Nat) (i : Nat) (f1 : Hf) (H : Heap) (locs : List Loc) (ls : Array Slot), (r * C ≤ i) → (i ≤ r * C + C) → (r * C + C - i < k) → (f1 = va_up (va_up f t (some (.inr (8, [.int (nI C), .ref c, .int (nI (r + 1))])))) c (some (.inl (cy 0, n, .inl (zf g (r * C) i))))) → f1 t = some (.inr (8, [.int (nI C), .ref c, .int (nI (r + 1))])) → f1 c = some (.inl (cy 0, n, .inl (zf g (r * C) i))) → hG D (hA f sz) f1 s9 H locs → lv_has ls 3 [(2, .int (nI i)), (1, .int (nI (r * C))), (0, .ref t)] → W p9 l e9 ({ frames := 0, cells := 0, slots := 0, locals := 0 } : Room) s9 m9 ([.ref t] : List Value).toArray b9 t9 c9 H locs 0 0 (vx_MQ b9 (hQv (fun u => u = va_up (va_up f t (some (.inr (8, [.int (nI C), .ref c, .int (nI (r + 1))])))) c (some (.inl (cy 0, n, .inl (zf g (r * C) (r * C + C)))))) D f sz) (hPx hNo D f sz) ([.ref t] : List Value).toArray s9 0 0 (hA f sz)) (F0 m9 41 ls []) := by
    intro k
    induction k with
    | zero =>
      intro i f1 H locs ls hi1 hi2 hk he h_t1 h_c1 G hl
      exact absurd hk (by omega)
    | succ k ih =>
      intro i f1 H locs ls hi1 hi2 hk he h_t1 h_c1 G hl
      refine lv_iload_n hx hb dX6_addRow_41 rfl (lv_at hl 0 rfl) ?_
      refine lv_iload_n hx hb dX6_addRow_42 rfl (lv_at hl 1 rfl) ?_
      refine lv_aload_n hx hb dX6_addRow_43 rfl (lv_at hl 2 rfl) ?_
      refine g_get C0 G h_t1 rfl hiX6 0 (by decide) mf_X6_13 rfl dX6_addRow_44 ?_
      refine lv_iadd hx hb dX6_addRow_47 ?_
      refine lv_topv (v := nI (r * C + C)) ((nI_add _ _)) ?_
      refine lv_icmp_ge (tgt := 64) hx hb dX6_addRow_48 (by decide) (fun c6 => ?_) (fun c6 => ?_)
      · have n7 : (r * C + C) ≤ i := (nI_leI (a := (r * C + C)) (b := i) (by omega) (by omega)).mp c6
        exact g_vret C0 G hr dX6_addRow_64 (Nat.le_of_ble_eq_true rfl) (Nat.le_of_ble_eq_true rfl) (by rw [he, show i = r * C + C by omega])
      · have n8 : ¬ (r * C + C) ≤ i := fun q => c6 ((nI_leI (a := (r * C + C)) (b := i) (by omega) (by omega)).mpr q)
        refine lv_aload_n hx hb dX6_addRow_51 rfl (lv_at hl 2 rfl) ?_
        refine g_get C0 G h_t1 rfl hiX6 1 (by decide) mf_X6_22 rfl dX6_addRow_52 ?_
        refine lv_iload_n hx hb dX6_addRow_55 rfl (lv_at hl 0 rfl) ?_
        refine lv_iconst (v := 0) hx hb dX6_addRow_56 (by decide) ?_
        refine g_iast C0 G h_c1 0 rfl (vp_in_nI (by omega) (by omega)) dX6_addRow_57 (fun H locs f9 hf9 G => ?_)
        have k10 : f9 c = some (.inl (cy 0, n, .inl (upd (zf g (r * C) i) (nI i).toNatClampNeg 0))) := hus hf9
        refine lv_iinc (v := nI (i + 1)) (lv' := [(2, .int (nI (i + 1))), (1, .int (nI (r * C))), (0, .ref t)]) hx hb dX6_addRow_58 hl (k := 0) rfl (by exact (nI_add _ _)) (by decide) rfl (fun ls hl => ?_)
        refine lv_goto (tgt := 41) hx hb dX6_addRow_61 (by decide) ?_
        have k12 : f9 t = some (.inr (8, [.int (nI C), .ref c, .int (nI (r + 1))])) := hup hf9 (hne h_t1 h_c1 (by intro q; cases q)) h_t1
        exact ih (i + 1) f9 _ _ _ (by omega) (by omega) (by omega) (by rw [hf9, he, hup2, nI_c (by omega), zf_s _ (by omega)]) k12 (by rw [k10]; rw [nI_c (by omega), zf_s _ (by omega)]) G (lv_sub hl [0, 1, 2] rfl)
  exact LOOP41 (r * C + C + 1) (r * C) f3 _ _ _ (Nat.le_refl _) (by omega) (by omega) (by rw [hf3, zf_0, hupid (f := va_up f t _) (by rw [va_up_ne _ _ (Ne.symm (hne h_t h_c (by intro q; cases q)))]; exact h_c)]; rfl) k4 (by rw [zf_0]; exact k5) G (lv_sub hl [0, 1, 2] rfl)
