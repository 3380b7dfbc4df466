set_option maxRecDepth 100000 in
theorem c_X2_outcomeN {l : Launch} (hfl : l.stackTraces = false) {D : va_G} {cy : Nat → ClassId} {f : Hf} {sz : Nat} {A : Nat → Nat} {b : Nat} {ov : Int32} {ie : Int32} {fi : Int32} {nu : Int32} {q : Nat → Option Nat} (h_mt : f (A (b + 0)) = some (.inr (4, [.ref (A (b + 1)), .int 0, .int ov, .int ie, .int fi, .int nu]))) (h_al : f (A (b + 1)) = some (.inl (cy 3, 4, .inr (.inr (.inr (.inr q)))))) (hAj : ∀ i j : Nat, i ≠ j → A i ≠ A j) (hq0 : q 0 = some (A (b + 2))) (hq1 : q 1 = some (A (b + 15))) (hq2 : q 2 = some (A (b + 28))) (hq3 : q 3 = some (A (b + 41))) : hMet l yX2_outcome cX2_outcome 2 (some .int) { frames := 0, cells := 0, slots := 0, locals := 0 } D (hTy cy) f sz [.ref (A (b + 0))] (hQi (fun r u => r = 0 ∧ u = f) D f sz) hNo := by
  refine h_enter (by decide) hfl (Nat.le_of_ble_eq_true rfl) ?_
  intro p9 e9 s9 m9 b9 t9 c9 hsz C0 hr hnm G ls hl
  have hx := C0.1.1
  have hb := C0.1.2.1
  have hl : lv_has ls 2 [(0, .ref (A (b + 0)))] := hl
  refine lv_aload_n hx hb dX2_outcome_0 rfl (lv_at hl 0 rfl) ?_
  refine g_get C0 G h_mt rfl hiX2 1 (by decide) mf_X2_17 rfl dX2_outcome_1 ?_
  refine lv_if_eq (tgt := 14) hx hb dX2_outcome_4 (by decide) (fun _ => ?_) (fun c11 => absurd (by decide) c11)
  refine lv_iconst (v := 0) hx hb dX2_outcome_14 (by decide) ?_
  exact g_iret C0 G hr dX2_outcome_15 (Nat.le_of_ble_eq_true rfl) (Nat.le_of_ble_eq_true rfl) (by exact ⟨rfl, rfl⟩)
set_option maxRecDepth 100000 in
theorem c_X2_refusalN {l : Launch} (hfl : l.stackTraces = false) {D : va_G} {cy : Nat → ClassId} {f : Hf} {sz : Nat} {A : Nat → Nat} {b : Nat} {st : Nat} {ov : Int32} {ie : Int32} {fi : Int32} {mnu : Int32} {q : Nat → Option Nat} {ty : Int32} {nu : Int32} {wy : Int32} {kd : Int32} {ru : Int32} {so : Int32} {sb : Int32} {sc : Int32} {sh : Int32} (h_mt : f (A (b + 0)) = some (.inr (4, [.ref (A (b + 1)), .int 0, .int ov, .int ie, .int fi, .int mnu]))) (h_al : f (A (b + 1)) = some (.inl (cy 3, 4, .inr (.inr (.inr (.inr q)))))) (h_st : f st = some (.inr (7, [.int ty, .int nu, .int wy, .int kd, .int ru, .int so, .int sb, .int sc, .int sh]))) (hAj : ∀ i j : Nat, i ≠ j → A i ≠ A j) (hq0 : q 0 = some (A (b + 2))) (hq1 : q 1 = some (A (b + 15))) (hq2 : q 2 = some (A (b + 28))) (hq3 : q 3 = some (A (b + 41))) : hMet l yX2_refusal cX2_refusal 3 (some .int) { frames := 0, cells := 0, slots := 0, locals := 0 } D (hTy cy) f sz [.ref (A (b + 0)), .ref st] (hQi (fun r u => r = 1 ∧ u = f) D f sz) hNo := by
  refine h_enter (by decide) hfl (Nat.le_of_ble_eq_true rfl) ?_
  intro p9 e9 s9 m9 b9 t9 c9 hsz C0 hr hnm G ls hl
  have hx := C0.1.1
  have hb := C0.1.2.1
  have hl : lv_has ls 3 [(0, .ref (A (b + 0))), (1, .ref st)] := hl
  refine lv_aload_n hx hb dX2_refusal_0 rfl (lv_at hl 0 rfl) ?_
  refine g_get C0 G h_mt rfl hiX2 1 (by decide) mf_X2_17 rfl dX2_refusal_1 ?_
  refine lv_if_eq (tgt := 14) hx hb dX2_refusal_4 (by decide) (fun _ => ?_) (fun c11 => absurd (by decide) c11)
  refine lv_iconst (v := 1) hx hb dX2_refusal_14 (by decide) ?_
  exact g_iret C0 G hr dX2_refusal_15 (Nat.le_of_ble_eq_true rfl) (Nat.le_of_ble_eq_true rfl) (by exact ⟨rfl, rfl⟩)
