def hFrL (f u : Hf) (L : List Nat) : Prop := ∀ (a : Nat) (e : va_E), a ∉ L → f a = some e → u a = some e
theorem hZb {b : Int32} (h : b = 0 ∨ b = 1) : narrow .boolean (.int b) = .int b := by rcases h with rfl | rfl <;> rfl
theorem hFb {b : Int32} (h : b = 0 ∨ b = 1) : fits .boolean (.int b) = true := by rcases h with rfl | rfl <;> rfl
theorem upd_at {g : Nat → Int32} {k : Nat} {x : Int32} : upd g k x k = x := by simp [upd]
theorem upd_off {g : Nat → Int32} {k j : Nat} {x : Int32} (h : j ≠ k) : upd g k x j = g j := by simp [upd, h]
def X9_isIn_x0 (x : Int32) (high : Int32) : Int32 := if high < x then 0 else 1
def X9_isIn_x1 (x : Int32) (low : Int32) (high : Int32) : Int32 := if x < low then 0 else (X9_isIn_x0 x high)
set_option maxRecDepth 100000 in
theorem k_X9_isIn {l : Launch} (hfl : l.stackTraces = false) {D : va_G} {cy : Nat → ClassId} {f : Hf} {sz : Nat} (x : Int32) (low : Int32) (high : Int32)   : hMet l yX9_isIn cX9_isIn 3 (some .boolean) { frames := 0, cells := 0, slots := 0, locals := 0 } D (hTy cy) f sz [.int x, .int low, .int high] (hQi (fun r u => r = (X9_isIn_x1 x low high) ∧ u = f) D f sz) hNo := by
  refine h_enter (by decide) hfl (Nat.le_of_ble_eq_true rfl) ?_
  intro p9 e9 s9 m9 b9 t9 c9 hsz C0 hr hnm G ls hl
  have hx := C0.1.1
  have hb := C0.1.2.1
  have hl : lv_has ls 3 [(0, .int x), (1, .int low), (2, .int high)] := hl
  refine lv_iload_n hx hb dX9_isIn_0 rfl (lv_at hl 0 rfl) ?_
  refine lv_iload_n hx hb dX9_isIn_1 rfl (lv_at hl 1 rfl) ?_
  have J13 : ∀ (y12 : Int32) (_ : y12 = (X9_isIn_x1 x low high)) (H : Heap) (locs : List Loc) (ls : Array Slot), hG D (hA f sz) f s9 H locs → lv_has ls 3 [(0, .int x), (1, .int low), (2, .int high)] → W p9 l e9 ({ frames := 0, cells := 0, slots := 0, locals := 0 } : Room) s9 m9 ([.int x, .int low, .int high] : List Value).toArray b9 t9 c9 H locs 0 0 (vx_MQ b9 (hQi (fun r u => r = (X9_isIn_x1 x low high) ∧ u = f) D f sz) (hPx hNo D f sz) ([.int x, .int low, .int high] : List Value).toArray s9 0 0 (hA f sz)) (F0 m9 15 ls [.int y12]) := by
    intro y12 ey12 H locs ls G hl
    subst ey12
    exact g_zret C0 G hr dX9_isIn_15 (hZb (by repeat (first | exact Or.inl rfl | exact Or.inr rfl | assumption | split | unfold X9_isIn_x0 | unfold X9_isIn_x1))) (Nat.le_of_ble_eq_true rfl) (Nat.le_of_ble_eq_true rfl) (by exact ⟨rfl, rfl⟩)
  refine lv_icmp_lt (tgt := 14) hx hb dX9_isIn_2 (by decide) (fun c11 => ?_) (fun c11 => ?_)
  · refine lv_iconst (v := 0) hx hb dX9_isIn_14 (by decide) ?_
    exact J13 0 (by rw [X9_isIn_x1, if_pos c11]) _ _ _ G (lv_sub hl [0, 1, 2] rfl)
  · refine lv_iload_n hx hb dX9_isIn_5 rfl (lv_at hl 0 rfl) ?_
    refine lv_iload_n hx hb dX9_isIn_6 rfl (lv_at hl 2 rfl) ?_
    have J17 : ∀ (y16 : Int32) (_ : y16 = (X9_isIn_x0 x high)) (H : Heap) (locs : List Loc) (ls : Array Slot), hG D (hA f sz) f s9 H locs → lv_has ls 3 [(0, .int x), (1, .int low), (2, .int high)] → W p9 l e9 ({ frames := 0, cells := 0, slots := 0, locals := 0 } : Room) s9 m9 ([.int x, .int low, .int high] : List Value).toArray b9 t9 c9 H locs 0 0 (vx_MQ b9 (hQi (fun r u => r = (X9_isIn_x1 x low high) ∧ u = f) D f sz) (hPx hNo D f sz) ([.int x, .int low, .int high] : List Value).toArray s9 0 0 (hA f sz)) (F0 m9 15 ls [.int y16]) := by
      intro y16 ey16 H locs ls G hl
      subst ey16
      exact J13 (X9_isIn_x0 x high) (by rw [X9_isIn_x1, if_neg c11]) _ _ _ G (lv_sub hl [0, 1, 2] rfl)
    refine lv_icmp_gt (tgt := 14) hx hb dX9_isIn_7 (by decide) (fun c15 => ?_) (fun c15 => ?_)
    · refine lv_iconst (v := 0) hx hb dX9_isIn_14 (by decide) ?_
      exact J17 0 (by rw [X9_isIn_x0, if_pos c15]) _ _ _ G (lv_sub hl [0, 1, 2] rfl)
    · refine lv_iconst (v := 1) hx hb dX9_isIn_10 (by decide) ?_
      refine lv_goto (tgt := 15) hx hb dX9_isIn_11 (by decide) ?_
      exact J17 1 (by rw [X9_isIn_x0, if_neg c15]) _ _ _ G (lv_sub hl [0, 1, 2] rfl)
theorem b_k_X9_isIn (x : Int32) (low : Int32) (high : Int32) : (X9_isIn_x1 x low high) = 0 ∨ (X9_isIn_x1 x low high) = 1 := by
  repeat (first | exact Or.inl rfl | exact Or.inr rfl | assumption | split | unfold X9_isIn_x0 | unfold X9_isIn_x1)
def X9_at_r0 (i : Int32) (what : Int32) : Int32 := (25 + (11 * i)) + what
set_option maxRecDepth 100000 in
theorem k_X9_at {l : Launch} (hfl : l.stackTraces = false) {D : va_G} {cy : Nat → ClassId} {f : Hf} {sz : Nat} (i : Int32) (what : Int32)   : hMet l yX9_at cX9_at 2 (some .int) { frames := 0, cells := 0, slots := 0, locals := 0 } D (hTy cy) f sz [.int i, .int what] (hQi (fun r u => r = (X9_at_r0 i what) ∧ u = f) D f sz) hNo := by
  refine h_enter (by decide) hfl (Nat.le_of_ble_eq_true rfl) ?_
  intro p9 e9 s9 m9 b9 t9 c9 hsz C0 hr hnm G ls hl
  have hx := C0.1.1
  have hb := C0.1.2.1
  have hl : lv_has ls 2 [(0, .int i), (1, .int what)] := hl
  refine lv_bipush (v := 25) hx hb dX9_at_0 (by decide) ?_
  refine lv_bipush (v := 11) hx hb dX9_at_2 (by decide) ?_
  refine lv_iload_n hx hb dX9_at_4 rfl (lv_at hl 0 rfl) ?_
  refine lv_imul hx hb dX9_at_5 ?_
  refine lv_iadd hx hb dX9_at_6 ?_
  refine lv_iload_n hx hb dX9_at_7 rfl (lv_at hl 1 rfl) ?_
  refine lv_iadd hx hb dX9_at_8 ?_
  exact g_iret C0 G hr dX9_at_9 (Nat.le_of_ble_eq_true rfl) (Nat.le_of_ble_eq_true rfl) (by exact ⟨(by rw [X9_at_r0]), rfl⟩)
theorem at_n (i w : Nat) : X9_at_r0 (nI i) (nI w) = nI (25 + 11 * i + w) := by
  unfold X9_at_r0
  rw [show (25 : Int32) = nI 25 from rfl, show (11 : Int32) = nI 11 from rfl, pk_mul, nI_add, nI_add]
def X9_batterAt_r0 (i : Int32) (player : Int32) (what : Int32) : Int32 := (69 + (6 * ((11 * i) + player))) + what
set_option maxRecDepth 100000 in
theorem k_X9_batterAt {l : Launch} (hfl : l.stackTraces = false) {D : va_G} {cy : Nat → ClassId} {f : Hf} {sz : Nat} (i : Int32) (player : Int32) (what : Int32)   : hMet l yX9_batterAt cX9_batterAt 3 (some .int) { frames := 0, cells := 0, slots := 0, locals := 0 } D (hTy cy) f sz [.int i, .int player, .int what] (hQi (fun r u => r = (X9_batterAt_r0 i player what) ∧ u = f) D f sz) hNo := by
  refine h_enter (by decide) hfl (Nat.le_of_ble_eq_true rfl) ?_
  intro p9 e9 s9 m9 b9 t9 c9 hsz C0 hr hnm G ls hl
  have hx := C0.1.1
  have hb := C0.1.2.1
  have hl : lv_has ls 3 [(0, .int i), (1, .int player), (2, .int what)] := hl
  refine lv_bipush (v := 69) hx hb dX9_batterAt_0 (by decide) ?_
  refine lv_bipush (v := 6) hx hb dX9_batterAt_2 (by decide) ?_
  refine lv_bipush (v := 11) hx hb dX9_batterAt_4 (by decide) ?_
  refine lv_iload_n hx hb dX9_batterAt_6 rfl (lv_at hl 0 rfl) ?_
  refine lv_imul hx hb dX9_batterAt_7 ?_
  refine lv_iload_n hx hb dX9_batterAt_8 rfl (lv_at hl 1 rfl) ?_
  refine lv_iadd hx hb dX9_batterAt_9 ?_
  refine lv_imul hx hb dX9_batterAt_10 ?_
  refine lv_iadd hx hb dX9_batterAt_11 ?_
  refine lv_iload_n hx hb dX9_batterAt_12 rfl (lv_at hl 2 rfl) ?_
  refine lv_iadd hx hb dX9_batterAt_13 ?_
  exact g_iret C0 G hr dX9_batterAt_14 (Nat.le_of_ble_eq_true rfl) (Nat.le_of_ble_eq_true rfl) (by exact ⟨(by rw [X9_batterAt_r0]), rfl⟩)
theorem bat_n (i p w : Nat) : X9_batterAt_r0 (nI i) (nI p) (nI w) = nI (69 + 6 * (11 * i + p) + w) := by
  unfold X9_batterAt_r0
  rw [show (69 : Int32) = nI 69 from rfl, show (11 : Int32) = nI 11 from rfl, show (6 : Int32) = nI 6 from rfl, pk_mul, nI_add, pk_mul, nI_add, nI_add]
def X9_bowlerAt_r0 (i : Int32) (player : Int32) (what : Int32) : Int32 := (333 + (7 * ((11 * i) + player))) + what
set_option maxRecDepth 100000 in
theorem k_X9_bowlerAt {l : Launch} (hfl : l.stackTraces = false) {D : va_G} {cy : Nat → ClassId} {f : Hf} {sz : Nat} (i : Int32) (player : Int32) (what : Int32)   : hMet l yX9_bowlerAt cX9_bowlerAt 3 (some .int) { frames := 0, cells := 0, slots := 0, locals := 0 } D (hTy cy) f sz [.int i, .int player, .int what] (hQi (fun r u => r = (X9_bowlerAt_r0 i player what) ∧ u = f) D f sz) hNo := by
  refine h_enter (by decide) hfl (Nat.le_of_ble_eq_true rfl) ?_
  intro p9 e9 s9 m9 b9 t9 c9 hsz C0 hr hnm G ls hl
  have hx := C0.1.1
  have hb := C0.1.2.1
  have hl : lv_has ls 3 [(0, .int i), (1, .int player), (2, .int what)] := hl
  refine lv_sipush (v := 333) hx hb dX9_bowlerAt_0 (by decide) ?_
  refine lv_bipush (v := 7) hx hb dX9_bowlerAt_3 (by decide) ?_
  refine lv_bipush (v := 11) hx hb dX9_bowlerAt_5 (by decide) ?_
  refine lv_iload_n hx hb dX9_bowlerAt_7 rfl (lv_at hl 0 rfl) ?_
  refine lv_imul hx hb dX9_bowlerAt_8 ?_
  refine lv_iload_n hx hb dX9_bowlerAt_9 rfl (lv_at hl 1 rfl) ?_
  refine lv_iadd hx hb dX9_bowlerAt_10 ?_
  refine lv_imul hx hb dX9_bowlerAt_11 ?_
  refine lv_iadd hx hb dX9_bowlerAt_12 ?_
  refine lv_iload_n hx hb dX9_bowlerAt_13 rfl (lv_at hl 2 rfl) ?_
  refine lv_iadd hx hb dX9_bowlerAt_14 ?_
  exact g_iret C0 G hr dX9_bowlerAt_15 (Nat.le_of_ble_eq_true rfl) (Nat.le_of_ble_eq_true rfl) (by exact ⟨(by rw [X9_bowlerAt_r0]), rfl⟩)
theorem bow_n (i p w : Nat) : X9_bowlerAt_r0 (nI i) (nI p) (nI w) = nI (333 + 7 * (11 * i + p) + w) := by
  unfold X9_bowlerAt_r0
  rw [show (333 : Int32) = nI 333 from rfl, show (11 : Int32) = nI 11 from rfl, show (7 : Int32) = nI 7 from rfl, pk_mul, nI_add, pk_mul, nI_add, nI_add]
def X9_worth_r0 (balls : Int32) (wickets : Int32) : Int32 := (10 - wickets) * ((240 * balls) - (balls * balls))
set_option maxRecDepth 100000 in
theorem k_X9_worth {l : Launch} (hfl : l.stackTraces = false) {D : va_G} {cy : Nat → ClassId} {f : Hf} {sz : Nat} (balls : Int32) (wickets : Int32)   : hMet l yX9_worth cX9_worth 2 (some .int) { frames := 0, cells := 0, slots := 0, locals := 0 } D (hTy cy) f sz [.int balls, .int wickets] (hQi (fun r u => r = (X9_worth_r0 balls wickets) ∧ u = f) D f sz) hNo := by
  refine h_enter (by decide) hfl (Nat.le_of_ble_eq_true rfl) ?_
  intro p9 e9 s9 m9 b9 t9 c9 hsz C0 hr hnm G ls hl
  have hx := C0.1.1
  have hb := C0.1.2.1
  have hl : lv_has ls 2 [(0, .int balls), (1, .int wickets)] := hl
  refine lv_bipush (v := 10) hx hb dX9_worth_0 (by decide) ?_
  refine lv_iload_n hx hb dX9_worth_2 rfl (lv_at hl 1 rfl) ?_
  refine lv_isub hx hb dX9_worth_3 ?_
  refine lv_sipush (v := 240) hx hb dX9_worth_4 (by decide) ?_
  refine lv_iload_n hx hb dX9_worth_7 rfl (lv_at hl 0 rfl) ?_
  refine lv_imul hx hb dX9_worth_8 ?_
  refine lv_iload_n hx hb dX9_worth_9 rfl (lv_at hl 0 rfl) ?_
  refine lv_iload_n hx hb dX9_worth_10 rfl (lv_at hl 0 rfl) ?_
  refine lv_imul hx hb dX9_worth_11 ?_
  refine lv_isub hx hb dX9_worth_12 ?_
  refine lv_imul hx hb dX9_worth_13 ?_
  exact g_iret C0 G hr dX9_worth_14 (Nat.le_of_ble_eq_true rfl) (Nat.le_of_ble_eq_true rfl) (by exact ⟨(by rw [X9_worth_r0]), rfl⟩)
def X9_fifth_r0 (overs : Int32) : Int32 := (overs + 4) / 5
set_option maxRecDepth 100000 in
theorem k_X9_fifth {l : Launch} (hfl : l.stackTraces = false) {D : va_G} {cy : Nat → ClassId} {f : Hf} {sz : Nat} (overs : Int32)   : hMet l yX9_fifth cX9_fifth 1 (some .int) { frames := 0, cells := 0, slots := 0, locals := 0 } D (hTy cy) f sz [.int overs] (hQi (fun r u => r = (X9_fifth_r0 overs) ∧ u = f) D f sz) hNo := by
  refine h_enter (by decide) hfl (Nat.le_of_ble_eq_true rfl) ?_
  intro p9 e9 s9 m9 b9 t9 c9 hsz C0 hr hnm G ls hl
  have hx := C0.1.1
  have hb := C0.1.2.1
  have hl : lv_has ls 1 [(0, .int overs)] := hl
  refine lv_iload_n hx hb dX9_fifth_0 rfl (lv_at hl 0 rfl) ?_
  refine lv_iconst (v := 4) hx hb dX9_fifth_1 (by decide) ?_
  refine lv_iadd hx hb dX9_fifth_2 ?_
  refine lv_iconst (v := 5) hx hb dX9_fifth_3 (by decide) ?_
  refine lv_idiv hx hb dX9_fifth_4 (by decide) ?_
  exact g_iret C0 G hr dX9_fifth_5 (Nat.le_of_ble_eq_true rfl) (Nat.le_of_ble_eq_true rfl) (by exact ⟨(by rw [X9_fifth_r0]), rfl⟩)
def X9_bit_x0 (is9 : Int32) : Int32 := if is9 = 0 then 0 else 1
set_option maxRecDepth 100000 in
theorem k_X9_bit {l : Launch} (hfl : l.stackTraces = false) {D : va_G} {cy : Nat → ClassId} {f : Hf} {sz : Nat} (is9 : Int32)  (hb_is9 : is9 = 0 ∨ is9 = 1) : hMet l yX9_bit cX9_bit 1 (some .int) { frames := 0, cells := 0, slots := 0, locals := 0 } D (hTy cy) f sz [.int is9] (hQi (fun r u => r = (X9_bit_x0 is9) ∧ u = f) D f sz) hNo := by
  refine h_enter (by decide) hfl (Nat.le_of_ble_eq_true rfl) ?_
  intro p9 e9 s9 m9 b9 t9 c9 hsz C0 hr hnm G ls hl
  have hx := C0.1.1
  have hb := C0.1.2.1
  have hl : lv_has ls 1 [(0, .int is9)] := hl
  refine lv_iload_n hx hb dX9_bit_0 rfl (lv_at hl 0 rfl) ?_
  have J13 : ∀ (y12 : Int32) (_ : y12 = (X9_bit_x0 is9)) (H : Heap) (locs : List Loc) (ls : Array Slot), hG D (hA f sz) f s9 H locs → lv_has ls 1 [(0, .int is9)] → W p9 l e9 ({ frames := 0, cells := 0, slots := 0, locals := 0 } : Room) s9 m9 ([.int is9] : List Value).toArray b9 t9 c9 H locs 0 0 (vx_MQ b9 (hQi (fun r u => r = (X9_bit_x0 is9) ∧ u = f) D f sz) (hPx hNo D f sz) ([.int is9] : List Value).toArray s9 0 0 (hA f sz)) (F0 m9 9 ls [.int y12]) := by
    intro y12 ey12 H locs ls G hl
    subst ey12
    exact g_iret C0 G hr dX9_bit_9 (Nat.le_of_ble_eq_true rfl) (Nat.le_of_ble_eq_true rfl) (by exact ⟨rfl, rfl⟩)
  refine lv_if_eq (tgt := 8) hx hb dX9_bit_1 (by decide) (fun c11 => ?_) (fun c11 => ?_)
  · refine lv_iconst (v := 0) hx hb dX9_bit_8 (by decide) ?_
    exact J13 0 (by rw [X9_bit_x0, if_pos c11]) _ _ _ G (lv_sub hl [0] rfl)
  · refine lv_iconst (v := 1) hx hb dX9_bit_4 (by decide) ?_
    refine lv_goto (tgt := 9) hx hb dX9_bit_5 (by decide) ?_
    exact J13 1 (by rw [X9_bit_x0, if_neg c11]) _ _ _ G (lv_sub hl [0] rfl)
theorem b_k_X9_bit (is9 : Int32) (hb_is9 : is9 = 0 ∨ is9 = 1) : (X9_bit_x0 is9) = 0 ∨ (X9_bit_x0 is9) = 1 := by
  repeat (first | exact Or.inl rfl | exact Or.inr rfl | assumption | split | unfold X9_bit_x0)
def X9_isBall_x0 (runs : Int32) : Int32 := if (X9_isIn_x1 runs 1 4) = 0 then 0 else 1
def X9_isBall_x1 (kind : Int32) (runs : Int32) : Int32 := if (X9_isIn_x1 kind 3 4) = 0 then 0 else (X9_isBall_x0 runs)
def X9_isBall_x2 (kind : Int32) (runs : Int32) : Int32 := if kind = 1 then (X9_isIn_x1 runs 0 4) else (X9_isBall_x1 kind runs)
def X9_isBall_x3 (kind : Int32) (runs : Int32) : Int32 := if kind = 2 then (X9_isIn_x1 runs 0 6) else (X9_isBall_x2 kind runs)
def X9_isBall_x4 (kind : Int32) (runs : Int32) : Int32 := if kind = 0 then (X9_isIn_x1 runs 0 6) else (X9_isBall_x3 kind runs)
def X9_isBall_x5 (runs : Int32) : Int32 := if runs = 6 then 1 else 0
def X9_isBall_x6 (runs : Int32) : Int32 := if runs = 4 then 1 else (X9_isBall_x5 runs)
def X9_isBall_x7 (kind : Int32) (runs : Int32) : Int32 := if kind = 2 then (X9_isBall_x6 runs) else 0
def X9_isBall_x8 (kind : Int32) (runs : Int32) : Int32 := if kind = 0 then (X9_isBall_x6 runs) else (X9_isBall_x7 kind runs)
def X9_isBall_x9 (kind : Int32) (runs : Int32) (bnd : Int32) : Int32 := if bnd = 0 then 1 else (X9_isBall_x8 kind runs)
def X9_isBall_x10 (kind : Int32) (runs : Int32) (bnd : Int32) : Int32 := if (X9_isBall_x4 kind runs) = 0 then 0 else (X9_isBall_x9 kind runs bnd)
set_option maxRecDepth 100000 in
theorem k_X9_isBall {l : Launch} (hfl : l.stackTraces = false) {D : va_G} {cy : Nat → ClassId} {f : Hf} {sz : Nat} (kind : Int32) (runs : Int32) (bnd : Int32)  (hb_bnd : bnd = 0 ∨ bnd = 1) : hMet l yX9_isBall cX9_isBall 4 (some .boolean) { frames := 1, cells := 0, slots := 0, locals := 22 } D (hTy cy) f sz [.int kind, .int runs, .int bnd] (hQi (fun r u => r = (X9_isBall_x10 kind runs bnd) ∧ u = f) D f sz) hNo := by
  refine h_enter (by decide) hfl (Nat.le_of_ble_eq_true rfl) ?_
  intro p9 e9 s9 m9 b9 t9 c9 hsz C0 hr hnm G ls hl
  have hx := C0.1.1
  have hb := C0.1.2.1
  have hl : lv_has ls 4 [(0, .int kind), (1, .int runs), (2, .int bnd)] := hl
  refine lv_iload_n hx hb dX9_isBall_0 rfl (lv_at hl 0 rfl) ?_
  have J13 : ∀ (y12 : Int32) (_ : y12 = (X9_isBall_x4 kind runs)) (H : Heap) (locs : List Loc) (ls : Array Slot), hG D (hA f sz) f s9 H locs → lv_has ls 4 [(0, .int kind), (1, .int runs), (2, .int bnd)] → W p9 l e9 ({ frames := 1, cells := 0, slots := 0, locals := 22 } : Room) s9 m9 ([.int kind, .int runs, .int bnd] : List Value).toArray b9 t9 c9 H locs 0 0 (vx_MQ b9 (hQi (fun r u => r = (X9_isBall_x10 kind runs bnd) ∧ u = f) D f sz) (hPx hNo D f sz) ([.int kind, .int runs, .int bnd] : List Value).toArray s9 0 0 (hA f sz)) (F0 m9 56 ls [.int y12]) := by
    intro y12 ey12 H locs ls G hl
    subst ey12
    refine lv_istore_n (lv' := [(3, .int (X9_isBall_x4 kind runs)), (0, .int kind), (1, .int runs), (2, .int bnd)]) hx hb dX9_isBall_56 rfl hl (by decide) rfl (fun ls hl => ?_)
    refine lv_iload_n hx hb dX9_isBall_57 rfl (lv_at hl 0 rfl) ?_
    have J17 : ∀ (y16 : Int32) (_ : y16 = (X9_isBall_x10 kind runs bnd)) (H : Heap) (locs : List Loc) (ls : Array Slot), hG D (hA f sz) f s9 H locs → lv_has ls 4 [(3, .int (X9_isBall_x4 kind runs)), (0, .int kind), (1, .int runs), (2, .int bnd)] → W p9 l e9 ({ frames := 1, cells := 0, slots := 0, locals := 22 } : Room) s9 m9 ([.int kind, .int runs, .int bnd] : List Value).toArray b9 t9 c9 H locs 0 0 (vx_MQ b9 (hQi (fun r u => r = (X9_isBall_x10 kind runs bnd) ∧ u = f) D f sz) (hPx hNo D f sz) ([.int kind, .int runs, .int bnd] : List Value).toArray s9 0 0 (hA f sz)) (F0 m9 90 ls [.int y16]) := by
      intro y16 ey16 H locs ls G hl
      subst ey16
      exact g_zret C0 G hr dX9_isBall_90 (hZb (by repeat (first | exact Or.inl rfl | exact Or.inr rfl | assumption | exact (b_k_X9_isIn runs 0 6) | exact (b_k_X9_isIn kind 3 4) | exact (b_k_X9_isIn runs 1 4) | exact (b_k_X9_isIn runs 0 4) | split | unfold X9_isBall_x0 | unfold X9_isBall_x1 | unfold X9_isBall_x2 | unfold X9_isBall_x3 | unfold X9_isBall_x4 | unfold X9_isBall_x5 | unfold X9_isBall_x6 | unfold X9_isBall_x7 | unfold X9_isBall_x8 | unfold X9_isBall_x9 | unfold X9_isBall_x10))) (Nat.le_of_ble_eq_true rfl) (Nat.le_of_ble_eq_true rfl) (by exact ⟨rfl, rfl⟩)
    refine lv_if_eq (tgt := 89) hx hb dX9_isBall_58 (by decide) (fun c15 => ?_) (fun c15 => ?_)
    · refine lv_iconst (v := 0) hx hb dX9_isBall_89 (by decide) ?_
      exact J17 0 (by rw [X9_isBall_x10, if_pos c15]) _ _ _ G (lv_sub hl [0, 1, 2, 3] rfl)
    · refine lv_iload_n hx hb dX9_isBall_61 rfl (lv_at hl 3 rfl) ?_
      have J21 : ∀ (y20 : Int32) (_ : y20 = (X9_isBall_x9 kind runs bnd)) (H : Heap) (locs : List Loc) (ls : Array Slot), hG D (hA f sz) f s9 H locs → lv_has ls 4 [(3, .int (X9_isBall_x4 kind runs)), (0, .int kind), (1, .int runs), (2, .int bnd)] → W p9 l e9 ({ frames := 1, cells := 0, slots := 0, locals := 22 } : Room) s9 m9 ([.int kind, .int runs, .int bnd] : List Value).toArray b9 t9 c9 H locs 0 0 (vx_MQ b9 (hQi (fun r u => r = (X9_isBall_x10 kind runs bnd) ∧ u = f) D f sz) (hPx hNo D f sz) ([.int kind, .int runs, .int bnd] : List Value).toArray s9 0 0 (hA f sz)) (F0 m9 90 ls [.int y20]) := by
        intro y20 ey20 H locs ls G hl
        subst ey20
        exact J17 (X9_isBall_x9 kind runs bnd) (by rw [X9_isBall_x10, if_neg c15]) _ _ _ G (lv_sub hl [0, 1, 2, 3] rfl)
      refine lv_if_eq (tgt := 85) hx hb dX9_isBall_62 (by decide) (fun c19 => ?_) (fun c19 => ?_)
      · refine lv_iconst (v := 1) hx hb dX9_isBall_85 (by decide) ?_
        refine lv_goto (tgt := 90) hx hb dX9_isBall_86 (by decide) ?_
        exact J21 1 (by rw [X9_isBall_x9, if_pos c19]) _ _ _ G (lv_sub hl [0, 1, 2, 3] rfl)
      · refine lv_iload_n hx hb dX9_isBall_65 rfl (lv_at hl 1 rfl) ?_
        have J25 : ∀ (y24 : Int32) (_ : y24 = (X9_isBall_x8 kind runs)) (H : Heap) (locs : List Loc) (ls : Array Slot), hG D (hA f sz) f s9 H locs → lv_has ls 4 [(3, .int (X9_isBall_x4 kind runs)), (0, .int kind), (1, .int runs), (2, .int bnd)] → W p9 l e9 ({ frames := 1, cells := 0, slots := 0, locals := 22 } : Room) s9 m9 ([.int kind, .int runs, .int bnd] : List Value).toArray b9 t9 c9 H locs 0 0 (vx_MQ b9 (hQi (fun r u => r = (X9_isBall_x10 kind runs bnd) ∧ u = f) D f sz) (hPx hNo D f sz) ([.int kind, .int runs, .int bnd] : List Value).toArray s9 0 0 (hA f sz)) (F0 m9 90 ls [.int y24]) := by
          intro y24 ey24 H locs ls G hl
          subst ey24
          exact J21 (X9_isBall_x8 kind runs) (by rw [X9_isBall_x9, if_neg c19]) _ _ _ G (lv_sub hl [0, 1, 2, 3] rfl)
        refine lv_if_eq (tgt := 74) hx hb dX9_isBall_66 (by decide) (fun c23 => ?_) (fun c23 => ?_)
        · refine lv_iload_n hx hb dX9_isBall_74 rfl (lv_at hl 2 rfl) ?_
          refine lv_iconst (v := 4) hx hb dX9_isBall_75 (by decide) ?_
          have J29 : ∀ (y28 : Int32) (_ : y28 = (X9_isBall_x6 runs)) (H : Heap) (locs : List Loc) (ls : Array Slot), hG D (hA f sz) f s9 H locs → lv_has ls 4 [(3, .int (X9_isBall_x4 kind runs)), (0, .int kind), (1, .int runs), (2, .int bnd)] → W p9 l e9 ({ frames := 1, cells := 0, slots := 0, locals := 22 } : Room) s9 m9 ([.int kind, .int runs, .int bnd] : List Value).toArray b9 t9 c9 H locs 0 0 (vx_MQ b9 (hQi (fun r u => r = (X9_isBall_x10 kind runs bnd) ∧ u = f) D f sz) (hPx hNo D f sz) ([.int kind, .int runs, .int bnd] : List Value).toArray s9 0 0 (hA f sz)) (F0 m9 90 ls [.int y28]) := by
            intro y28 ey28 H locs ls G hl
            subst ey28
            exact J25 (X9_isBall_x6 runs) (by rw [X9_isBall_x8, if_pos c23]) _ _ _ G (lv_sub hl [0, 1, 2, 3] rfl)
          refine lv_icmp_eq (tgt := 85) hx hb dX9_isBall_76 (by decide) (fun c27 => ?_) (fun c27 => ?_)
          · refine lv_iconst (v := 1) hx hb dX9_isBall_85 (by decide) ?_
            refine lv_goto (tgt := 90) hx hb dX9_isBall_86 (by decide) ?_
            exact J29 1 (by rw [X9_isBall_x6, if_pos c27]) _ _ _ G (lv_sub hl [0, 1, 2, 3] rfl)
          · refine lv_iload_n hx hb dX9_isBall_79 rfl (lv_at hl 2 rfl) ?_
            refine lv_bipush (v := 6) hx hb dX9_isBall_80 (by decide) ?_
            have J33 : ∀ (y32 : Int32) (_ : y32 = (X9_isBall_x5 runs)) (H : Heap) (locs : List Loc) (ls : Array Slot), hG D (hA f sz) f s9 H locs → lv_has ls 4 [(3, .int (X9_isBall_x4 kind runs)), (0, .int kind), (1, .int runs), (2, .int bnd)] → W p9 l e9 ({ frames := 1, cells := 0, slots := 0, locals := 22 } : Room) s9 m9 ([.int kind, .int runs, .int bnd] : List Value).toArray b9 t9 c9 H locs 0 0 (vx_MQ b9 (hQi (fun r u => r = (X9_isBall_x10 kind runs bnd) ∧ u = f) D f sz) (hPx hNo D f sz) ([.int kind, .int runs, .int bnd] : List Value).toArray s9 0 0 (hA f sz)) (F0 m9 90 ls [.int y32]) := by
              intro y32 ey32 H locs ls G hl
              subst ey32
              exact J29 (X9_isBall_x5 runs) (by rw [X9_isBall_x6, if_neg c27]) _ _ _ G (lv_sub hl [0, 1, 2, 3] rfl)
            refine lv_icmp_ne (tgt := 89) hx hb dX9_isBall_82 (by decide) (fun c31 => ?_) (fun c31 => ?_)
            · refine lv_iconst (v := 0) hx hb dX9_isBall_89 (by decide) ?_
              exact J33 0 (by rw [X9_isBall_x5, if_neg c31]) _ _ _ G (lv_sub hl [0, 1, 2, 3] rfl)
            · refine lv_iconst (v := 1) hx hb dX9_isBall_85 (by decide) ?_
              refine lv_goto (tgt := 90) hx hb dX9_isBall_86 (by decide) ?_
              exact J33 1 (by rw [X9_isBall_x5, if_pos c31]) _ _ _ G (lv_sub hl [0, 1, 2, 3] rfl)
        · refine lv_iload_n hx hb dX9_isBall_69 rfl (lv_at hl 1 rfl) ?_
          refine lv_iconst (v := 2) hx hb dX9_isBall_70 (by decide) ?_
          have J37 : ∀ (y36 : Int32) (_ : y36 = (X9_isBall_x7 kind runs)) (H : Heap) (locs : List Loc) (ls : Array Slot), hG D (hA f sz) f s9 H locs → lv_has ls 4 [(3, .int (X9_isBall_x4 kind runs)), (0, .int kind), (1, .int runs), (2, .int bnd)] → W p9 l e9 ({ frames := 1, cells := 0, slots := 0, locals := 22 } : Room) s9 m9 ([.int kind, .int runs, .int bnd] : List Value).toArray b9 t9 c9 H locs 0 0 (vx_MQ b9 (hQi (fun r u => r = (X9_isBall_x10 kind runs bnd) ∧ u = f) D f sz) (hPx hNo D f sz) ([.int kind, .int runs, .int bnd] : List Value).toArray s9 0 0 (hA f sz)) (F0 m9 90 ls [.int y36]) := by
            intro y36 ey36 H locs ls G hl
            subst ey36
            exact J25 (X9_isBall_x7 kind runs) (by rw [X9_isBall_x8, if_neg c23]) _ _ _ G (lv_sub hl [0, 1, 2, 3] rfl)
          refine lv_icmp_ne (tgt := 89) hx hb dX9_isBall_71 (by decide) (fun c35 => ?_) (fun c35 => ?_)
          · refine lv_iconst (v := 0) hx hb dX9_isBall_89 (by decide) ?_
            exact J37 0 (by rw [X9_isBall_x7, if_neg c35]) _ _ _ G (lv_sub hl [0, 1, 2, 3] rfl)
          · refine lv_iload_n hx hb dX9_isBall_74 rfl (lv_at hl 2 rfl) ?_
            refine lv_iconst (v := 4) hx hb dX9_isBall_75 (by decide) ?_
            have J41 : ∀ (y40 : Int32) (_ : y40 = (X9_isBall_x6 runs)) (H : Heap) (locs : List Loc) (ls : Array Slot), hG D (hA f sz) f s9 H locs → lv_has ls 4 [(3, .int (X9_isBall_x4 kind runs)), (0, .int kind), (1, .int runs), (2, .int bnd)] → W p9 l e9 ({ frames := 1, cells := 0, slots := 0, locals := 22 } : Room) s9 m9 ([.int kind, .int runs, .int bnd] : List Value).toArray b9 t9 c9 H locs 0 0 (vx_MQ b9 (hQi (fun r u => r = (X9_isBall_x10 kind runs bnd) ∧ u = f) D f sz) (hPx hNo D f sz) ([.int kind, .int runs, .int bnd] : List Value).toArray s9 0 0 (hA f sz)) (F0 m9 90 ls [.int y40]) := by
              intro y40 ey40 H locs ls G hl
              subst ey40
              exact J37 (X9_isBall_x6 runs) (by rw [X9_isBall_x7, if_pos c35]) _ _ _ G (lv_sub hl [0, 1, 2, 3] rfl)
            refine lv_icmp_eq (tgt := 85) hx hb dX9_isBall_76 (by decide) (fun c39 => ?_) (fun c39 => ?_)
            · refine lv_iconst (v := 1) hx hb dX9_isBall_85 (by decide) ?_
              refine lv_goto (tgt := 90) hx hb dX9_isBall_86 (by decide) ?_
              exact J41 1 (by rw [X9_isBall_x6, if_pos c39]) _ _ _ G (lv_sub hl [0, 1, 2, 3] rfl)
            · refine lv_iload_n hx hb dX9_isBall_79 rfl (lv_at hl 2 rfl) ?_
              refine lv_bipush (v := 6) hx hb dX9_isBall_80 (by decide) ?_
              have J45 : ∀ (y44 : Int32) (_ : y44 = (X9_isBall_x5 runs)) (H : Heap) (locs : List Loc) (ls : Array Slot), hG D (hA f sz) f s9 H locs → lv_has ls 4 [(3, .int (X9_isBall_x4 kind runs)), (0, .int kind), (1, .int runs), (2, .int bnd)] → W p9 l e9 ({ frames := 1, cells := 0, slots := 0, locals := 22 } : Room) s9 m9 ([.int kind, .int runs, .int bnd] : List Value).toArray b9 t9 c9 H locs 0 0 (vx_MQ b9 (hQi (fun r u => r = (X9_isBall_x10 kind runs bnd) ∧ u = f) D f sz) (hPx hNo D f sz) ([.int kind, .int runs, .int bnd] : List Value).toArray s9 0 0 (hA f sz)) (F0 m9 90 ls [.int y44]) := by
                intro y44 ey44 H locs ls G hl
                subst ey44
                exact J41 (X9_isBall_x5 runs) (by rw [X9_isBall_x6, if_neg c39]) _ _ _ G (lv_sub hl [0, 1, 2, 3] rfl)
              refine lv_icmp_ne (tgt := 89) hx hb dX9_isBall_82 (by decide) (fun c43 => ?_) (fun c43 => ?_)
              · refine lv_iconst (v := 0) hx hb dX9_isBall_89 (by decide) ?_
                exact J45 0 (by rw [X9_isBall_x5, if_neg c43]) _ _ _ G (lv_sub hl [0, 1, 2, 3] rfl)
              · refine lv_iconst (v := 1) hx hb dX9_isBall_85 (by decide) ?_
                refine lv_goto (tgt := 90) hx hb dX9_isBall_86 (by decide) ?_
                exact J45 1 (by rw [X9_isBall_x5, if_pos c43]) _ _ _ G (lv_sub hl [0, 1, 2, 3] rfl)
  refine lv_if_eq (tgt := 9) hx hb dX9_isBall_1 (by decide) (fun c11 => ?_) (fun c11 => ?_)
  · refine lv_iload_n hx hb dX9_isBall_9 rfl (lv_at hl 1 rfl) ?_
    refine lv_iconst (v := 0) hx hb dX9_isBall_10 (by decide) ?_
    refine lv_bipush (v := 6) hx hb dX9_isBall_11 (by decide) ?_
    refine g_cI C0 G (g_runS C0 G (rest := []) (k_X9_isIn hfl runs 0 6 ) hY_X9_isIn mm_X9_76 ms_X9_isIn ⟨(Nat.le_of_ble_eq_true rfl), (Nat.le_of_ble_eq_true rfl)⟩ rfl hl.1 rfl (Nat.le_of_ble_eq_true rfl) dX9_isBall_13 ⟨(Nat.le_of_ble_eq_true rfl), (Nat.le_of_ble_eq_true rfl)⟩) (kx_no rfl) (fun r49 u48 H locs hp47 G => ?_)
    obtain ⟨rfl, eu48⟩ := hp47
    rw [eu48] at G
    refine lv_goto (tgt := 56) hx hb dX9_isBall_16 (by decide) ?_
    exact J13 (X9_isIn_x1 runs 0 6) (by rw [X9_isBall_x4, if_pos c11]) _ _ _ G (lv_sub hl [0, 1, 2] rfl)
  · refine lv_iload_n hx hb dX9_isBall_4 rfl (lv_at hl 0 rfl) ?_
    refine lv_iconst (v := 2) hx hb dX9_isBall_5 (by decide) ?_
    have J52 : ∀ (y51 : Int32) (_ : y51 = (X9_isBall_x3 kind runs)) (H : Heap) (locs : List Loc) (ls : Array Slot), hG D (hA f sz) f s9 H locs → lv_has ls 4 [(0, .int kind), (1, .int runs), (2, .int bnd)] → W p9 l e9 ({ frames := 1, cells := 0, slots := 0, locals := 22 } : Room) s9 m9 ([.int kind, .int runs, .int bnd] : List Value).toArray b9 t9 c9 H locs 0 0 (vx_MQ b9 (hQi (fun r u => r = (X9_isBall_x10 kind runs bnd) ∧ u = f) D f sz) (hPx hNo D f sz) ([.int kind, .int runs, .int bnd] : List Value).toArray s9 0 0 (hA f sz)) (F0 m9 56 ls [.int y51]) := by
      intro y51 ey51 H locs ls G hl
      subst ey51
      exact J13 (X9_isBall_x3 kind runs) (by rw [X9_isBall_x4, if_neg c11]) _ _ _ G (lv_sub hl [0, 1, 2] rfl)
    refine lv_icmp_ne (tgt := 19) hx hb dX9_isBall_6 (by decide) (fun c50 => ?_) (fun c50 => ?_)
    · refine lv_iload_n hx hb dX9_isBall_19 rfl (lv_at hl 0 rfl) ?_
      refine lv_iconst (v := 1) hx hb dX9_isBall_20 (by decide) ?_
      have J56 : ∀ (y55 : Int32) (_ : y55 = (X9_isBall_x2 kind runs)) (H : Heap) (locs : List Loc) (ls : Array Slot), hG D (hA f sz) f s9 H locs → lv_has ls 4 [(0, .int kind), (1, .int runs), (2, .int bnd)] → W p9 l e9 ({ frames := 1, cells := 0, slots := 0, locals := 22 } : Room) s9 m9 ([.int kind, .int runs, .int bnd] : List Value).toArray b9 t9 c9 H locs 0 0 (vx_MQ b9 (hQi (fun r u => r = (X9_isBall_x10 kind runs bnd) ∧ u = f) D f sz) (hPx hNo D f sz) ([.int kind, .int runs, .int bnd] : List Value).toArray s9 0 0 (hA f sz)) (F0 m9 56 ls [.int y55]) := by
        intro y55 ey55 H locs ls G hl
        subst ey55
        exact J52 (X9_isBall_x2 kind runs) (by rw [X9_isBall_x3, if_neg c50]) _ _ _ G (lv_sub hl [0, 1, 2] rfl)
      refine lv_icmp_ne (tgt := 33) hx hb dX9_isBall_21 (by decide) (fun c54 => ?_) (fun c54 => ?_)
      · refine lv_iload_n hx hb dX9_isBall_33 rfl (lv_at hl 0 rfl) ?_
        refine lv_iconst (v := 3) hx hb dX9_isBall_34 (by decide) ?_
        refine lv_iconst (v := 4) hx hb dX9_isBall_35 (by decide) ?_
        refine g_cI C0 G (g_runS C0 G (rest := []) (k_X9_isIn hfl kind 3 4 ) hY_X9_isIn mm_X9_76 ms_X9_isIn ⟨(Nat.le_of_ble_eq_true rfl), (Nat.le_of_ble_eq_true rfl)⟩ rfl hl.1 rfl (Nat.le_of_ble_eq_true rfl) dX9_isBall_36 ⟨(Nat.le_of_ble_eq_true rfl), (Nat.le_of_ble_eq_true rfl)⟩) (kx_no rfl) (fun r60 u59 H locs hp58 G => ?_)
        obtain ⟨rfl, eu59⟩ := hp58
        rw [eu59] at G
        have J63 : ∀ (y62 : Int32) (_ : y62 = (X9_isBall_x1 kind runs)) (H : Heap) (locs : List Loc) (ls : Array Slot), hG D (hA f sz) f s9 H locs → lv_has ls 4 [(0, .int kind), (1, .int runs), (2, .int bnd)] → W p9 l e9 ({ frames := 1, cells := 0, slots := 0, locals := 22 } : Room) s9 m9 ([.int kind, .int runs, .int bnd] : List Value).toArray b9 t9 c9 H locs 0 0 (vx_MQ b9 (hQi (fun r u => r = (X9_isBall_x10 kind runs bnd) ∧ u = f) D f sz) (hPx hNo D f sz) ([.int kind, .int runs, .int bnd] : List Value).toArray s9 0 0 (hA f sz)) (F0 m9 56 ls [.int y62]) := by
          intro y62 ey62 H locs ls G hl
          subst ey62
          exact J56 (X9_isBall_x1 kind runs) (by rw [X9_isBall_x2, if_neg c54]) _ _ _ G (lv_sub hl [0, 1, 2] rfl)
        refine lv_if_eq (tgt := 55) hx hb dX9_isBall_39 (by decide) (fun c61 => ?_) (fun c61 => ?_)
        · refine lv_iconst (v := 0) hx hb dX9_isBall_55 (by decide) ?_
          exact J63 0 (by rw [X9_isBall_x1, if_pos c61]) _ _ _ G (lv_sub hl [0, 1, 2] rfl)
        · refine lv_iload_n hx hb dX9_isBall_42 rfl (lv_at hl 1 rfl) ?_
          refine lv_iconst (v := 1) hx hb dX9_isBall_43 (by decide) ?_
          refine lv_iconst (v := 4) hx hb dX9_isBall_44 (by decide) ?_
          refine g_cI C0 G (g_runS C0 G (rest := []) (k_X9_isIn hfl runs 1 4 ) hY_X9_isIn mm_X9_76 ms_X9_isIn ⟨(Nat.le_of_ble_eq_true rfl), (Nat.le_of_ble_eq_true rfl)⟩ rfl hl.1 rfl (Nat.le_of_ble_eq_true rfl) dX9_isBall_45 ⟨(Nat.le_of_ble_eq_true rfl), (Nat.le_of_ble_eq_true rfl)⟩) (kx_no rfl) (fun r67 u66 H locs hp65 G => ?_)
          obtain ⟨rfl, eu66⟩ := hp65
          rw [eu66] at G
          have J70 : ∀ (y69 : Int32) (_ : y69 = (X9_isBall_x0 runs)) (H : Heap) (locs : List Loc) (ls : Array Slot), hG D (hA f sz) f s9 H locs → lv_has ls 4 [(0, .int kind), (1, .int runs), (2, .int bnd)] → W p9 l e9 ({ frames := 1, cells := 0, slots := 0, locals := 22 } : Room) s9 m9 ([.int kind, .int runs, .int bnd] : List Value).toArray b9 t9 c9 H locs 0 0 (vx_MQ b9 (hQi (fun r u => r = (X9_isBall_x10 kind runs bnd) ∧ u = f) D f sz) (hPx hNo D f sz) ([.int kind, .int runs, .int bnd] : List Value).toArray s9 0 0 (hA f sz)) (F0 m9 56 ls [.int y69]) := by
            intro y69 ey69 H locs ls G hl
            subst ey69
            exact J63 (X9_isBall_x0 runs) (by rw [X9_isBall_x1, if_neg c61]) _ _ _ G (lv_sub hl [0, 1, 2] rfl)
          refine lv_if_eq (tgt := 55) hx hb dX9_isBall_48 (by decide) (fun c68 => ?_) (fun c68 => ?_)
          · refine lv_iconst (v := 0) hx hb dX9_isBall_55 (by decide) ?_
            exact J70 0 (by rw [X9_isBall_x0, if_pos c68]) _ _ _ G (lv_sub hl [0, 1, 2] rfl)
          · refine lv_iconst (v := 1) hx hb dX9_isBall_51 (by decide) ?_
            refine lv_goto (tgt := 56) hx hb dX9_isBall_52 (by decide) ?_
            exact J70 1 (by rw [X9_isBall_x0, if_neg c68]) _ _ _ G (lv_sub hl [0, 1, 2] rfl)
      · refine lv_iload_n hx hb dX9_isBall_24 rfl (lv_at hl 1 rfl) ?_
        refine lv_iconst (v := 0) hx hb dX9_isBall_25 (by decide) ?_
        refine lv_iconst (v := 4) hx hb dX9_isBall_26 (by decide) ?_
        refine g_cI C0 G (g_runS C0 G (rest := []) (k_X9_isIn hfl runs 0 4 ) hY_X9_isIn mm_X9_76 ms_X9_isIn ⟨(Nat.le_of_ble_eq_true rfl), (Nat.le_of_ble_eq_true rfl)⟩ rfl hl.1 rfl (Nat.le_of_ble_eq_true rfl) dX9_isBall_27 ⟨(Nat.le_of_ble_eq_true rfl), (Nat.le_of_ble_eq_true rfl)⟩) (kx_no rfl) (fun r74 u73 H locs hp72 G => ?_)
        obtain ⟨rfl, eu73⟩ := hp72
        rw [eu73] at G
        refine lv_goto (tgt := 56) hx hb dX9_isBall_30 (by decide) ?_
        exact J56 (X9_isIn_x1 runs 0 4) (by rw [X9_isBall_x2, if_pos c54]) _ _ _ G (lv_sub hl [0, 1, 2] rfl)
    · refine lv_iload_n hx hb dX9_isBall_9 rfl (lv_at hl 1 rfl) ?_
      refine lv_iconst (v := 0) hx hb dX9_isBall_10 (by decide) ?_
      refine lv_bipush (v := 6) hx hb dX9_isBall_11 (by decide) ?_
      refine g_cI C0 G (g_runS C0 G (rest := []) (k_X9_isIn hfl runs 0 6 ) hY_X9_isIn mm_X9_76 ms_X9_isIn ⟨(Nat.le_of_ble_eq_true rfl), (Nat.le_of_ble_eq_true rfl)⟩ rfl hl.1 rfl (Nat.le_of_ble_eq_true rfl) dX9_isBall_13 ⟨(Nat.le_of_ble_eq_true rfl), (Nat.le_of_ble_eq_true rfl)⟩) (kx_no rfl) (fun r77 u76 H locs hp75 G => ?_)
      obtain ⟨rfl, eu76⟩ := hp75
      rw [eu76] at G
      refine lv_goto (tgt := 56) hx hb dX9_isBall_16 (by decide) ?_
      exact J52 (X9_isIn_x1 runs 0 6) (by rw [X9_isBall_x3, if_pos c50]) _ _ _ G (lv_sub hl [0, 1, 2] rfl)
theorem b_k_X9_isBall (kind : Int32) (runs : Int32) (bnd : Int32) (hb_bnd : bnd = 0 ∨ bnd = 1) : (X9_isBall_x10 kind runs bnd) = 0 ∨ (X9_isBall_x10 kind runs bnd) = 1 := by
  repeat (first | exact Or.inl rfl | exact Or.inr rfl | assumption | exact (b_k_X9_isIn runs 0 6) | exact (b_k_X9_isIn kind 3 4) | exact (b_k_X9_isIn runs 1 4) | exact (b_k_X9_isIn runs 0 4) | split | unfold X9_isBall_x0 | unfold X9_isBall_x1 | unfold X9_isBall_x2 | unfold X9_isBall_x3 | unfold X9_isBall_x4 | unfold X9_isBall_x5 | unfold X9_isBall_x6 | unfold X9_isBall_x7 | unfold X9_isBall_x8 | unfold X9_isBall_x9 | unfold X9_isBall_x10)
def X9_last_r0 (g : Nat → Int32) : Int32 := (2 * (g 1)) - 1
set_option maxRecDepth 100000 in
theorem k_X9_last {l : Launch} (hfl : l.stackTraces = false) {D : va_G} {cy : Nat → ClassId} {f : Hf} {sz : Nat} {m : Nat} {v : Nat} {im : Nat} {kp : Nat} {pa : Nat} {de : Nat} {ide : Nat} {tx : Nat} {pt : Nat} {so : Nat} {mo : Nat} {wh : Nat} {pf : Nat} {c_th : Int32} {c_re : Int32} {c_un : Int32} {c_hi : Int32} {c_tn : Int32} {c_fa : Int32} {c_rf : Int32} {c_ps : Int32} {c_pl : Int32} {c_to : Int32} {g : Nat → Int32} (h_m : f m = some (.inr (11, [.int c_th, .int c_re, .ref v, .ref im, .ref kp, .ref pa, .ref de, .ref ide, .int c_un, .int c_hi, .ref tx, .int c_tn, .int c_fa, .int c_rf, .ref pt, .int c_ps, .int c_pl, .int c_to, .ref so, .ref mo, .ref wh, .ref pf]))) (h_v : f v = some (.inl (cy 0, 6441, .inl g)))  : hMet l yX9_last cX9_last 1 (some .int) { frames := 0, cells := 0, slots := 0, locals := 0 } D (hTy cy) f sz [.ref m] (hQi (fun r u => r = (X9_last_r0 g) ∧ u = f) D f sz) hNo := by
  refine h_enter (by decide) hfl (Nat.le_of_ble_eq_true rfl) ?_
  intro p9 e9 s9 m9 b9 t9 c9 hsz C0 hr hnm G ls hl
  have hx := C0.1.1
  have hb := C0.1.2.1
  have hl : lv_has ls 1 [(0, .ref m)] := hl
  refine lv_iconst (v := 2) hx hb dX9_last_0 (by decide) ?_
  refine lv_aload_n hx hb dX9_last_1 rfl (lv_at hl 0 rfl) ?_
  refine g_get C0 G h_m rfl hiX9 2 (by decide) mf_X9_9 rfl dX9_last_2 ?_
  refine lv_iconst (v := 1) hx hb dX9_last_5 (by decide) ?_
  refine g_iald C0 G h_v 0 rfl (by unfold vp_in; decide) dX9_last_6 ?_
  refine lv_topv (v := g 1) rfl ?_
  refine lv_imul hx hb dX9_last_7 ?_
  refine lv_iconst (v := 1) hx hb dX9_last_8 (by decide) ?_
  refine lv_isub hx hb dX9_last_9 ?_
  exact g_iret C0 G hr dX9_last_10 (Nat.le_of_ble_eq_true rfl) (Nat.le_of_ble_eq_true rfl) (by exact ⟨(by rw [X9_last_r0]), rfl⟩)
def X9_team_r0 (g : Nat → Int32) (i : Int32) : Int32 := ((g 2) + i) - ((g 2) + i) / 2 * 2
set_option maxRecDepth 100000 in
theorem k_X9_team {l : Launch} (hfl : l.stackTraces = false) {D : va_G} {cy : Nat → ClassId} {f : Hf} {sz : Nat} {m : Nat} {v : Nat} {im : Nat} {kp : Nat} {pa : Nat} {de : Nat} {ide : Nat} {tx : Nat} {pt : Nat} {so : Nat} {mo : Nat} {wh : Nat} {pf : Nat} {c_th : Int32} {c_re : Int32} {c_un : Int32} {c_hi : Int32} {c_tn : Int32} {c_fa : Int32} {c_rf : Int32} {c_ps : Int32} {c_pl : Int32} {c_to : Int32} {g : Nat → Int32} (i : Int32) (h_m : f m = some (.inr (11, [.int c_th, .int c_re, .ref v, .ref im, .ref kp, .ref pa, .ref de, .ref ide, .int c_un, .int c_hi, .ref tx, .int c_tn, .int c_fa, .int c_rf, .ref pt, .int c_ps, .int c_pl, .int c_to, .ref so, .ref mo, .ref wh, .ref pf]))) (h_v : f v = some (.inl (cy 0, 6441, .inl g)))  : hMet l yX9_team cX9_team 2 (some .int) { frames := 0, cells := 0, slots := 0, locals := 0 } D (hTy cy) f sz [.ref m, .int i] (hQi (fun r u => r = (X9_team_r0 g i) ∧ u = f) D f sz) hNo := by
  refine h_enter (by decide) hfl (Nat.le_of_ble_eq_true rfl) ?_
  intro p9 e9 s9 m9 b9 t9 c9 hsz C0 hr hnm G ls hl
  have hx := C0.1.1
  have hb := C0.1.2.1
  have hl : lv_has ls 2 [(0, .ref m), (1, .int i)] := hl
  refine lv_aload_n hx hb dX9_team_0 rfl (lv_at hl 0 rfl) ?_
  refine g_get C0 G h_m rfl hiX9 2 (by decide) mf_X9_9 rfl dX9_team_1 ?_
  refine lv_iconst (v := 2) hx hb dX9_team_4 (by decide) ?_
  refine g_iald C0 G h_v 0 rfl (by unfold vp_in; decide) dX9_team_5 ?_
  refine lv_topv (v := g 2) rfl ?_
  refine lv_iload_n hx hb dX9_team_6 rfl (lv_at hl 1 rfl) ?_
  refine lv_iadd hx hb dX9_team_7 ?_
  refine lv_iconst (v := 2) hx hb dX9_team_8 (by decide) ?_
  refine lv_irem hx hb dX9_team_9 (by decide) ?_
  exact g_iret C0 G hr dX9_team_10 (Nat.le_of_ble_eq_true rfl) (Nat.le_of_ble_eq_true rfl) (by exact ⟨(by rw [X9_team_r0]), rfl⟩)
def X9_noMatch_x0 (g : Nat → Int32) : Int32 := if (g 5) = 1 then 1 else 0
def X9_noMatch_x1 (g : Nat → Int32) : Int32 := if (g 0) = 0 then 1 else (X9_noMatch_x0 g)
set_option maxRecDepth 100000 in
theorem k_X9_noMatch {l : Launch} (hfl : l.stackTraces = false) {D : va_G} {cy : Nat → ClassId} {f : Hf} {sz : Nat} {m : Nat} {v : Nat} {im : Nat} {kp : Nat} {pa : Nat} {de : Nat} {ide : Nat} {tx : Nat} {pt : Nat} {so : Nat} {mo : Nat} {wh : Nat} {pf : Nat} {c_th : Int32} {c_re : Int32} {c_un : Int32} {c_hi : Int32} {c_tn : Int32} {c_fa : Int32} {c_rf : Int32} {c_ps : Int32} {c_pl : Int32} {c_to : Int32} {g : Nat → Int32} (h_m : f m = some (.inr (11, [.int c_th, .int c_re, .ref v, .ref im, .ref kp, .ref pa, .ref de, .ref ide, .int c_un, .int c_hi, .ref tx, .int c_tn, .int c_fa, .int c_rf, .ref pt, .int c_ps, .int c_pl, .int c_to, .ref so, .ref mo, .ref wh, .ref pf]))) (h_v : f v = some (.inl (cy 0, 6441, .inl g)))  : hMet l yX9_noMatch cX9_noMatch 1 (some .int) { frames := 0, cells := 0, slots := 0, locals := 0 } D (hTy cy) f sz [.ref m] (hQi (fun r u => r = (X9_noMatch_x1 g) ∧ u = f) D f sz) hNo := by
  refine h_enter (by decide) hfl (Nat.le_of_ble_eq_true rfl) ?_
  intro p9 e9 s9 m9 b9 t9 c9 hsz C0 hr hnm G ls hl
  have hx := C0.1.1
  have hb := C0.1.2.1
  have hl : lv_has ls 1 [(0, .ref m)] := hl
  refine lv_aload_n hx hb dX9_noMatch_0 rfl (lv_at hl 0 rfl) ?_
  refine g_get C0 G h_m rfl hiX9 2 (by decide) mf_X9_9 rfl dX9_noMatch_1 ?_
  refine lv_iconst (v := 0) hx hb dX9_noMatch_4 (by decide) ?_
  refine g_iald C0 G h_v 0 rfl (by unfold vp_in; decide) dX9_noMatch_5 ?_
  refine lv_topv (v := g 0) rfl ?_
  have J13 : ∀ (y12 : Int32) (_ : y12 = (X9_noMatch_x1 g)) (H : Heap) (locs : List Loc) (ls : Array Slot), hG D (hA f sz) f s9 H locs → lv_has ls 1 [(0, .ref m)] → W p9 l e9 ({ frames := 0, cells := 0, slots := 0, locals := 0 } : Room) s9 m9 ([.ref m] : List Value).toArray b9 t9 c9 H locs 0 0 (vx_MQ b9 (hQi (fun r u => r = (X9_noMatch_x1 g) ∧ u = f) D f sz) (hPx hNo D f sz) ([.ref m] : List Value).toArray s9 0 0 (hA f sz)) (F0 m9 24 ls [.int y12]) := by
    intro y12 ey12 H locs ls G hl
    subst ey12
    exact g_iret C0 G hr dX9_noMatch_24 (Nat.le_of_ble_eq_true rfl) (Nat.le_of_ble_eq_true rfl) (by exact ⟨rfl, rfl⟩)
  refine lv_if_eq (tgt := 19) hx hb dX9_noMatch_6 (by decide) (fun c11 => ?_) (fun c11 => ?_)
  · refine lv_iconst (v := 1) hx hb dX9_noMatch_19 (by decide) ?_
    refine lv_goto (tgt := 24) hx hb dX9_noMatch_20 (by decide) ?_
    exact J13 1 (by rw [X9_noMatch_x1, if_pos c11]) _ _ _ G (lv_sub hl [0] rfl)
  · refine lv_aload_n hx hb dX9_noMatch_9 rfl (lv_at hl 0 rfl) ?_
    refine g_get C0 G h_m rfl hiX9 2 (by decide) mf_X9_9 rfl dX9_noMatch_10 ?_
    refine lv_iconst (v := 5) hx hb dX9_noMatch_13 (by decide) ?_
    refine g_iald C0 G h_v 0 rfl (by unfold vp_in; decide) dX9_noMatch_14 ?_
    refine lv_topv (v := g 5) rfl ?_
    refine lv_iconst (v := 1) hx hb dX9_noMatch_15 (by decide) ?_
    have J17 : ∀ (y16 : Int32) (_ : y16 = (X9_noMatch_x0 g)) (H : Heap) (locs : List Loc) (ls : Array Slot), hG D (hA f sz) f s9 H locs → lv_has ls 1 [(0, .ref m)] → W p9 l e9 ({ frames := 0, cells := 0, slots := 0, locals := 0 } : Room) s9 m9 ([.ref m] : List Value).toArray b9 t9 c9 H locs 0 0 (vx_MQ b9 (hQi (fun r u => r = (X9_noMatch_x1 g) ∧ u = f) D f sz) (hPx hNo D f sz) ([.ref m] : List Value).toArray s9 0 0 (hA f sz)) (F0 m9 24 ls [.int y16]) := by
      intro y16 ey16 H locs ls G hl
      subst ey16
      exact J13 (X9_noMatch_x0 g) (by rw [X9_noMatch_x1, if_neg c11]) _ _ _ G (lv_sub hl [0] rfl)
    refine lv_icmp_ne (tgt := 23) hx hb dX9_noMatch_16 (by decide) (fun c15 => ?_) (fun c15 => ?_)
    · refine lv_iconst (v := 0) hx hb dX9_noMatch_23 (by decide) ?_
      exact J17 0 (by rw [X9_noMatch_x0, if_neg c15]) _ _ _ G (lv_sub hl [0] rfl)
    · refine lv_iconst (v := 1) hx hb dX9_noMatch_19 (by decide) ?_
      refine lv_goto (tgt := 24) hx hb dX9_noMatch_20 (by decide) ?_
      exact J17 1 (by rw [X9_noMatch_x0, if_pos c15]) _ _ _ G (lv_sub hl [0] rfl)
theorem b_k_X9_noMatch (g : Nat → Int32) : (X9_noMatch_x1 g) = 0 ∨ (X9_noMatch_x1 g) = 1 := by
  repeat (first | exact Or.inl rfl | exact Or.inr rfl | assumption | split | unfold X9_noMatch_x0 | unfold X9_noMatch_x1)
def X9_changesEnds_g0 (g : Nat → Int32) : Nat → Int32 := upd g 6 (g 7)
def X9_changesEnds_g1 (g : Nat → Int32) : Nat → Int32 := upd (X9_changesEnds_g0 g) 7 (g 6)
set_option maxRecDepth 100000 in
theorem k_X9_changesEnds {l : Launch} (hfl : l.stackTraces = false) {D : va_G} {cy : Nat → ClassId} {f : Hf} {sz : Nat} {m : Nat} {v : Nat} {im : Nat} {kp : Nat} {pa : Nat} {de : Nat} {ide : Nat} {tx : Nat} {pt : Nat} {so : Nat} {mo : Nat} {wh : Nat} {pf : Nat} {c_th : Int32} {c_re : Int32} {c_un : Int32} {c_hi : Int32} {c_tn : Int32} {c_fa : Int32} {c_rf : Int32} {c_ps : Int32} {c_pl : Int32} {c_to : Int32} {g : Nat → Int32} (h_m : f m = some (.inr (11, [.int c_th, .int c_re, .ref v, .ref im, .ref kp, .ref pa, .ref de, .ref ide, .int c_un, .int c_hi, .ref tx, .int c_tn, .int c_fa, .int c_rf, .ref pt, .int c_ps, .int c_pl, .int c_to, .ref so, .ref mo, .ref wh, .ref pf]))) (h_v : f v = some (.inl (cy 0, 6441, .inl g)))  : hMet l yX9_changesEnds cX9_changesEnds 2 none { frames := 0, cells := 0, slots := 0, locals := 0 } D (hTy cy) f sz [.ref m] (hQv (fun u => u v = some (.inl (cy 0, 6441, .inl (X9_changesEnds_g1 g))) ∧ hFrL f u [v]) D f sz) hNo := by
  refine h_enter (by decide) hfl (Nat.le_of_ble_eq_true rfl) ?_
  intro p9 e9 s9 m9 b9 t9 c9 hsz C0 hr hnm G ls hl
  have hx := C0.1.1
  have hb := C0.1.2.1
  have hl : lv_has ls 2 [(0, .ref m)] := hl
  refine lv_aload_n hx hb dX9_changesEnds_0 rfl (lv_at hl 0 rfl) ?_
  refine g_get C0 G h_m rfl hiX9 2 (by decide) mf_X9_9 rfl dX9_changesEnds_1 ?_
  refine lv_bipush (v := 6) hx hb dX9_changesEnds_4 (by decide) ?_
  refine g_iald C0 G h_v 0 rfl (by unfold vp_in; decide) dX9_changesEnds_6 ?_
  refine lv_topv (v := g 6) rfl ?_
  refine lv_istore_n (lv' := [(1, .int (g 6)), (0, .ref m)]) hx hb dX9_changesEnds_7 rfl hl (by decide) rfl (fun ls hl => ?_)
  refine lv_aload_n hx hb dX9_changesEnds_8 rfl (lv_at hl 1 rfl) ?_
  refine g_get C0 G h_m rfl hiX9 2 (by decide) mf_X9_9 rfl dX9_changesEnds_9 ?_
  refine lv_bipush (v := 6) hx hb dX9_changesEnds_12 (by decide) ?_
  refine lv_aload_n hx hb dX9_changesEnds_14 rfl (lv_at hl 1 rfl) ?_
  refine g_get C0 G h_m rfl hiX9 2 (by decide) mf_X9_9 rfl dX9_changesEnds_15 ?_
  refine lv_bipush (v := 7) hx hb dX9_changesEnds_18 (by decide) ?_
  refine g_iald C0 G h_v 0 rfl (by unfold vp_in; decide) dX9_changesEnds_20 ?_
  refine lv_topv (v := g 7) rfl ?_
  refine g_iast C0 G h_v 0 rfl (by unfold vp_in; decide) dX9_changesEnds_21 (fun H locs f11 hf11 G => ?_)
  have k12 : f11 v = some (.inl (cy 0, 6441, .inl (X9_changesEnds_g0 g))) := hus hf11
  refine lv_aload_n hx hb dX9_changesEnds_22 rfl (lv_at hl 1 rfl) ?_
  have k13 : f11 m = some (.inr (11, [.int c_th, .int c_re, .ref v, .ref im, .ref kp, .ref pa, .ref de, .ref ide, .int c_un, .int c_hi, .ref tx, .int c_tn, .int c_fa, .int c_rf, .ref pt, .int c_ps, .int c_pl, .int c_to, .ref so, .ref mo, .ref wh, .ref pf])) := hup hf11 (hne h_m h_v (by intro q; cases q)) h_m
  refine g_get C0 G k13 rfl hiX9 2 (by decide) mf_X9_9 rfl dX9_changesEnds_23 ?_
  refine lv_bipush (v := 7) hx hb dX9_changesEnds_26 (by decide) ?_
  refine lv_iload_n hx hb dX9_changesEnds_28 rfl (lv_at hl 0 rfl) ?_
  refine g_iast C0 G k12 0 rfl (by unfold vp_in; decide) dX9_changesEnds_29 (fun H locs f14 hf14 G => ?_)
  have k15 : f14 v = some (.inl (cy 0, 6441, .inl (X9_changesEnds_g1 g))) := hus hf14
  exact g_vret C0 G hr dX9_changesEnds_30 (Nat.le_of_ble_eq_true rfl) (Nat.le_of_ble_eq_true rfl) (by exact ⟨k15, (fun a9 e9 h7 h8 => hup hf14 (fun q => h7 (by rw [q]; simp)) (hup hf11 (fun q => h7 (by rw [q]; simp)) (h8)))⟩)
def X9_share_g0 (g : Nat → Int32) (s : Nat) : Nat → Int32 := upd g (841 + 8 * s + 0) 0
def X9_share_g1 (g : Nat → Int32) (s : Nat) : Nat → Int32 := upd (X9_share_g0 g s) (841 + 8 * s + 1) 0
def X9_share_g2 (g : Nat → Int32) (s : Nat) : Nat → Int32 := upd (X9_share_g1 g s) (841 + 8 * s + 2) 0
def X9_share_g3 (g : Nat → Int32) (s : Nat) : Nat → Int32 := upd (X9_share_g2 g s) (841 + 8 * s + 3) 0
def X9_share_g4 (g : Nat → Int32) (s : Nat) : Nat → Int32 := upd (X9_share_g3 g s) (841 + 8 * s + 4) 0
def X9_share_g5 (g : Nat → Int32) (s : Nat) : Nat → Int32 := upd (X9_share_g4 g s) (841 + 8 * s + 5) 0
def X9_share_g6 (g : Nat → Int32) (s : Nat) : Nat → Int32 := upd (X9_share_g5 g s) (841 + 8 * s + 6) 0
def X9_share_g7 (g : Nat → Int32) (s : Nat) : Nat → Int32 := upd (X9_share_g6 g s) (841 + 8 * s + 7) 0
def X9_share_x8 (g : Nat → Int32) : Int32 := if (g 7) ≤ (g 6) then (g 7) else (g 6)
def X9_share_g9 (g : Nat → Int32) (s : Nat) : Nat → Int32 := upd (X9_share_g7 g s) (841 + 8 * s + 2) (X9_share_x8 g)
def X9_share_x10 (g : Nat → Int32) : Int32 := if (g 7) ≤ (g 6) then (g 6) else (g 7)
def X9_share_g11 (g : Nat → Int32) (s : Nat) : Nat → Int32 := upd (X9_share_g9 g s) (841 + 8 * s + 3) (X9_share_x10 g)
def X9_share_g12 (g : Nat → Int32) (s : Nat) : Nat → Int32 := upd (X9_share_g11 g s) (841 + 8 * s + 7) 1
def X9_share_g13 (g : Nat → Int32) (s : Nat) : Nat → Int32 := upd (X9_share_g12 g s) 22 (nI (s + 1))
set_option maxRecDepth 100000 in
theorem k_X9_share {l : Launch} (hfl : l.stackTraces = false) {D : va_G} {cy : Nat → ClassId} {f : Hf} {sz : Nat} {m : Nat} {v : Nat} {im : Nat} {kp : Nat} {pa : Nat} {de : Nat} {ide : Nat} {tx : Nat} {pt : Nat} {so : Nat} {mo : Nat} {wh : Nat} {pf : Nat} {c_th : Int32} {c_re : Int32} {c_un : Int32} {c_hi : Int32} {c_tn : Int32} {c_fa : Int32} {c_rf : Int32} {c_ps : Int32} {c_pl : Int32} {c_to : Int32} {g : Nat → Int32} {s : Nat} (h_m : f m = some (.inr (11, [.int c_th, .int c_re, .ref v, .ref im, .ref kp, .ref pa, .ref de, .ref ide, .int c_un, .int c_hi, .ref tx, .int c_tn, .int c_fa, .int c_rf, .ref pt, .int c_ps, .int c_pl, .int c_to, .ref so, .ref mo, .ref wh, .ref pf]))) (h_v : f v = some (.inl (cy 0, 6441, .inl g))) (h22 : g 22 = nI s) (hs : s < 700) : hMet l yX9_share cX9_share 5 none { frames := 0, cells := 0, slots := 0, locals := 0 } D (hTy cy) f sz [.ref m] (hQv (fun u => u v = some (.inl (cy 0, 6441, .inl (X9_share_g13 g s))) ∧ hFrL f u [v]) D f sz) hNo := by
  refine h_enter (by decide) hfl (Nat.le_of_ble_eq_true rfl) ?_
  intro p9 e9 s9 m9 b9 t9 c9 hsz C0 hr hnm G ls hl
  have hx := C0.1.1
  have hb := C0.1.2.1
  have hl : lv_has ls 5 [(0, .ref m)] := hl
  refine lv_aload_n hx hb dX9_share_0 rfl (lv_at hl 0 rfl) ?_
  refine g_get C0 G h_m rfl hiX9 2 (by decide) mf_X9_9 rfl dX9_share_1 ?_
  refine lv_bipush (v := 6) hx hb dX9_share_4 (by decide) ?_
  refine g_iald C0 G h_v 0 rfl (by unfold vp_in; decide) dX9_share_6 ?_
  refine lv_topv (v := g 6) rfl ?_
  refine lv_istore_n (lv' := [(1, .int (g 6)), (0, .ref m)]) hx hb dX9_share_7 rfl hl (by decide) rfl (fun ls hl => ?_)
  refine lv_aload_n hx hb dX9_share_8 rfl (lv_at hl 1 rfl) ?_
  refine g_get C0 G h_m rfl hiX9 2 (by decide) mf_X9_9 rfl dX9_share_9 ?_
  refine lv_bipush (v := 7) hx hb dX9_share_12 (by decide) ?_
  refine g_iald C0 G h_v 0 rfl (by unfold vp_in; decide) dX9_share_14 ?_
  refine lv_topv (v := g 7) rfl ?_
  refine lv_istore_n (lv' := [(2, .int (g 7)), (1, .int (g 6)), (0, .ref m)]) hx hb dX9_share_15 rfl hl (by decide) rfl (fun ls hl => ?_)
  refine lv_sipush (v := 841) hx hb dX9_share_16 (by decide) ?_
  refine lv_bipush (v := 8) hx hb dX9_share_19 (by decide) ?_
  refine lv_aload_n hx hb dX9_share_21 rfl (lv_at hl 2 rfl) ?_
  refine g_get C0 G h_m rfl hiX9 2 (by decide) mf_X9_9 rfl dX9_share_22 ?_
  refine lv_bipush (v := 22) hx hb dX9_share_25 (by decide) ?_
  refine g_iald C0 G h_v 0 rfl (by unfold vp_in; decide) dX9_share_27 ?_
  refine lv_topv (v := g 22) rfl ?_
  refine lv_topv (v := nI s) (by rw [h22]) ?_
  refine lv_imul hx hb dX9_share_28 ?_
  refine lv_topv (v := nI (8 * s)) ((pk_mul _ _)) ?_
  refine lv_iadd hx hb dX9_share_29 ?_
  refine lv_topv (v := nI (841 + 8 * s)) ((nI_add _ _)) ?_
  refine lv_istore_n (lv' := [(3, .int (nI (841 + 8 * s))), (2, .int (g 7)), (1, .int (g 6)), (0, .ref m)]) hx hb dX9_share_30 rfl hl (by decide) rfl (fun ls hl => ?_)
  refine lv_iconst (v := 0) hx hb dX9_share_31 (by decide) ?_
  refine lv_istore (lv' := [(4, .int 0), (3, .int (nI (841 + 8 * s))), (2, .int (g 7)), (1, .int (g 6)), (0, .ref m)]) hx hb dX9_share_32 hl (by decide) rfl (fun ls hl => ?_)
  refine lv_iload hx hb dX9_share_34 (lv_at hl 0 rfl) ?_
  refine lv_bipush (v := 8) hx hb dX9_share_36 (by decide) ?_
  refine lv_icmp_ge (tgt := 57) hx hb dX9_share_38 (by decide) (fun c11 => absurd c11 (by decide)) (fun _ => ?_)
  refine lv_aload_n hx hb dX9_share_41 rfl (lv_at hl 4 rfl) ?_
  refine g_get C0 G h_m rfl hiX9 2 (by decide) mf_X9_9 rfl dX9_share_42 ?_
  refine lv_iload_n hx hb dX9_share_45 rfl (lv_at hl 1 rfl) ?_
  refine lv_iload hx hb dX9_share_46 (lv_at hl 0 rfl) ?_
  refine lv_iadd hx hb dX9_share_48 ?_
  refine lv_topv (v := nI (841 + 8 * s + 0)) ((nI_add _ _)) ?_
  refine lv_iconst (v := 0) hx hb dX9_share_49 (by decide) ?_
  refine g_iast C0 G h_v 0 rfl (vp_in_nI (by omega) (by omega)) dX9_share_50 (fun H locs f12 hf12 G => ?_)
  have k13 : f12 v = some (.inl (cy 0, 6441, .inl (X9_share_g0 g s))) := (by have h9 := hus hf12; rw [nI_c (by omega)] at h9; exact h9)
  refine lv_iinc (v := 1) (lv' := [(4, .int 1), (3, .int (nI (841 + 8 * s))), (2, .int (g 7)), (1, .int (g 6)), (0, .ref m)]) hx hb dX9_share_51 hl (k := 0) rfl (by exact (by decide)) (by decide) rfl (fun ls hl => ?_)
  refine lv_goto (tgt := 34) hx hb dX9_share_54 (by decide) ?_
  refine lv_iload hx hb dX9_share_34 (lv_at hl 0 rfl) ?_
  refine lv_bipush (v := 8) hx hb dX9_share_36 (by decide) ?_
  refine lv_icmp_ge (tgt := 57) hx hb dX9_share_38 (by decide) (fun c15 => absurd c15 (by decide)) (fun _ => ?_)
  refine lv_aload_n hx hb dX9_share_41 rfl (lv_at hl 4 rfl) ?_
  have k16 : f12 m = some (.inr (11, [.int c_th, .int c_re, .ref v, .ref im, .ref kp, .ref pa, .ref de, .ref ide, .int c_un, .int c_hi, .ref tx, .int c_tn, .int c_fa, .int c_rf, .ref pt, .int c_ps, .int c_pl, .int c_to, .ref so, .ref mo, .ref wh, .ref pf])) := hup hf12 (hne h_m h_v (by intro q; cases q)) h_m
  refine g_get C0 G k16 rfl hiX9 2 (by decide) mf_X9_9 rfl dX9_share_42 ?_
  refine lv_iload_n hx hb dX9_share_45 rfl (lv_at hl 1 rfl) ?_
  refine lv_iload hx hb dX9_share_46 (lv_at hl 0 rfl) ?_
  refine lv_iadd hx hb dX9_share_48 ?_
  refine lv_topv (v := nI (841 + 8 * s + 1)) ((nI_add _ _)) ?_
  refine lv_iconst (v := 0) hx hb dX9_share_49 (by decide) ?_
  refine g_iast C0 G k13 0 rfl (vp_in_nI (by omega) (by omega)) dX9_share_50 (fun H locs f17 hf17 G => ?_)
  have k18 : f17 v = some (.inl (cy 0, 6441, .inl (X9_share_g1 g s))) := (by have h9 := hus hf17; rw [nI_c (by omega)] at h9; exact h9)
  refine lv_iinc (v := 2) (lv' := [(4, .int 2), (3, .int (nI (841 + 8 * s))), (2, .int (g 7)), (1, .int (g 6)), (0, .ref m)]) hx hb dX9_share_51 hl (k := 0) rfl (by exact (by decide)) (by decide) rfl (fun ls hl => ?_)
  refine lv_goto (tgt := 34) hx hb dX9_share_54 (by decide) ?_
  refine lv_iload hx hb dX9_share_34 (lv_at hl 0 rfl) ?_
  refine lv_bipush (v := 8) hx hb dX9_share_36 (by decide) ?_
  refine lv_icmp_ge (tgt := 57) hx hb dX9_share_38 (by decide) (fun c20 => absurd c20 (by decide)) (fun _ => ?_)
  refine lv_aload_n hx hb dX9_share_41 rfl (lv_at hl 4 rfl) ?_
  have k21 : f17 m = some (.inr (11, [.int c_th, .int c_re, .ref v, .ref im, .ref kp, .ref pa, .ref de, .ref ide, .int c_un, .int c_hi, .ref tx, .int c_tn, .int c_fa, .int c_rf, .ref pt, .int c_ps, .int c_pl, .int c_to, .ref so, .ref mo, .ref wh, .ref pf])) := hup hf17 (hne k16 k13 (by intro q; cases q)) k16
  refine g_get C0 G k21 rfl hiX9 2 (by decide) mf_X9_9 rfl dX9_share_42 ?_
  refine lv_iload_n hx hb dX9_share_45 rfl (lv_at hl 1 rfl) ?_
  refine lv_iload hx hb dX9_share_46 (lv_at hl 0 rfl) ?_
  refine lv_iadd hx hb dX9_share_48 ?_
  refine lv_topv (v := nI (841 + 8 * s + 2)) ((nI_add _ _)) ?_
  refine lv_iconst (v := 0) hx hb dX9_share_49 (by decide) ?_
  refine g_iast C0 G k18 0 rfl (vp_in_nI (by omega) (by omega)) dX9_share_50 (fun H locs f22 hf22 G => ?_)
  have k23 : f22 v = some (.inl (cy 0, 6441, .inl (X9_share_g2 g s))) := (by have h9 := hus hf22; rw [nI_c (by omega)] at h9; exact h9)
  refine lv_iinc (v := 3) (lv' := [(4, .int 3), (3, .int (nI (841 + 8 * s))), (2, .int (g 7)), (1, .int (g 6)), (0, .ref m)]) hx hb dX9_share_51 hl (k := 0) rfl (by exact (by decide)) (by decide) rfl (fun ls hl => ?_)
  refine lv_goto (tgt := 34) hx hb dX9_share_54 (by decide) ?_
  refine lv_iload hx hb dX9_share_34 (lv_at hl 0 rfl) ?_
  refine lv_bipush (v := 8) hx hb dX9_share_36 (by decide) ?_
  refine lv_icmp_ge (tgt := 57) hx hb dX9_share_38 (by decide) (fun c25 => absurd c25 (by decide)) (fun _ => ?_)
  refine lv_aload_n hx hb dX9_share_41 rfl (lv_at hl 4 rfl) ?_
  have k26 : f22 m = some (.inr (11, [.int c_th, .int c_re, .ref v, .ref im, .ref kp, .ref pa, .ref de, .ref ide, .int c_un, .int c_hi, .ref tx, .int c_tn, .int c_fa, .int c_rf, .ref pt, .int c_ps, .int c_pl, .int c_to, .ref so, .ref mo, .ref wh, .ref pf])) := hup hf22 (hne k21 k18 (by intro q; cases q)) k21
  refine g_get C0 G k26 rfl hiX9 2 (by decide) mf_X9_9 rfl dX9_share_42 ?_
  refine lv_iload_n hx hb dX9_share_45 rfl (lv_at hl 1 rfl) ?_
  refine lv_iload hx hb dX9_share_46 (lv_at hl 0 rfl) ?_
  refine lv_iadd hx hb dX9_share_48 ?_
  refine lv_topv (v := nI (841 + 8 * s + 3)) ((nI_add _ _)) ?_
  refine lv_iconst (v := 0) hx hb dX9_share_49 (by decide) ?_
  refine g_iast C0 G k23 0 rfl (vp_in_nI (by omega) (by omega)) dX9_share_50 (fun H locs f27 hf27 G => ?_)
  have k28 : f27 v = some (.inl (cy 0, 6441, .inl (X9_share_g3 g s))) := (by have h9 := hus hf27; rw [nI_c (by omega)] at h9; exact h9)
  refine lv_iinc (v := 4) (lv' := [(4, .int 4), (3, .int (nI (841 + 8 * s))), (2, .int (g 7)), (1, .int (g 6)), (0, .ref m)]) hx hb dX9_share_51 hl (k := 0) rfl (by exact (by decide)) (by decide) rfl (fun ls hl => ?_)
  refine lv_goto (tgt := 34) hx hb dX9_share_54 (by decide) ?_
  refine lv_iload hx hb dX9_share_34 (lv_at hl 0 rfl) ?_
  refine lv_bipush (v := 8) hx hb dX9_share_36 (by decide) ?_
  refine lv_icmp_ge (tgt := 57) hx hb dX9_share_38 (by decide) (fun c30 => absurd c30 (by decide)) (fun _ => ?_)
  refine lv_aload_n hx hb dX9_share_41 rfl (lv_at hl 4 rfl) ?_
  have k31 : f27 m = some (.inr (11, [.int c_th, .int c_re, .ref v, .ref im, .ref kp, .ref pa, .ref de, .ref ide, .int c_un, .int c_hi, .ref tx, .int c_tn, .int c_fa, .int c_rf, .ref pt, .int c_ps, .int c_pl, .int c_to, .ref so, .ref mo, .ref wh, .ref pf])) := hup hf27 (hne k26 k23 (by intro q; cases q)) k26
  refine g_get C0 G k31 rfl hiX9 2 (by decide) mf_X9_9 rfl dX9_share_42 ?_
  refine lv_iload_n hx hb dX9_share_45 rfl (lv_at hl 1 rfl) ?_
  refine lv_iload hx hb dX9_share_46 (lv_at hl 0 rfl) ?_
  refine lv_iadd hx hb dX9_share_48 ?_
  refine lv_topv (v := nI (841 + 8 * s + 4)) ((nI_add _ _)) ?_
  refine lv_iconst (v := 0) hx hb dX9_share_49 (by decide) ?_
  refine g_iast C0 G k28 0 rfl (vp_in_nI (by omega) (by omega)) dX9_share_50 (fun H locs f32 hf32 G => ?_)
  have k33 : f32 v = some (.inl (cy 0, 6441, .inl (X9_share_g4 g s))) := (by have h9 := hus hf32; rw [nI_c (by omega)] at h9; exact h9)
  refine lv_iinc (v := 5) (lv' := [(4, .int 5), (3, .int (nI (841 + 8 * s))), (2, .int (g 7)), (1, .int (g 6)), (0, .ref m)]) hx hb dX9_share_51 hl (k := 0) rfl (by exact (by decide)) (by decide) rfl (fun ls hl => ?_)
  refine lv_goto (tgt := 34) hx hb dX9_share_54 (by decide) ?_
  refine lv_iload hx hb dX9_share_34 (lv_at hl 0 rfl) ?_
  refine lv_bipush (v := 8) hx hb dX9_share_36 (by decide) ?_
  refine lv_icmp_ge (tgt := 57) hx hb dX9_share_38 (by decide) (fun c35 => absurd c35 (by decide)) (fun _ => ?_)
  refine lv_aload_n hx hb dX9_share_41 rfl (lv_at hl 4 rfl) ?_
  have k36 : f32 m = some (.inr (11, [.int c_th, .int c_re, .ref v, .ref im, .ref kp, .ref pa, .ref de, .ref ide, .int c_un, .int c_hi, .ref tx, .int c_tn, .int c_fa, .int c_rf, .ref pt, .int c_ps, .int c_pl, .int c_to, .ref so, .ref mo, .ref wh, .ref pf])) := hup hf32 (hne k31 k28 (by intro q; cases q)) k31
  refine g_get C0 G k36 rfl hiX9 2 (by decide) mf_X9_9 rfl dX9_share_42 ?_
  refine lv_iload_n hx hb dX9_share_45 rfl (lv_at hl 1 rfl) ?_
  refine lv_iload hx hb dX9_share_46 (lv_at hl 0 rfl) ?_
  refine lv_iadd hx hb dX9_share_48 ?_
  refine lv_topv (v := nI (841 + 8 * s + 5)) ((nI_add _ _)) ?_
  refine lv_iconst (v := 0) hx hb dX9_share_49 (by decide) ?_
  refine g_iast C0 G k33 0 rfl (vp_in_nI (by omega) (by omega)) dX9_share_50 (fun H locs f37 hf37 G => ?_)
  have k38 : f37 v = some (.inl (cy 0, 6441, .inl (X9_share_g5 g s))) := (by have h9 := hus hf37; rw [nI_c (by omega)] at h9; exact h9)
  refine lv_iinc (v := 6) (lv' := [(4, .int 6), (3, .int (nI (841 + 8 * s))), (2, .int (g 7)), (1, .int (g 6)), (0, .ref m)]) hx hb dX9_share_51 hl (k := 0) rfl (by exact (by decide)) (by decide) rfl (fun ls hl => ?_)
  refine lv_goto (tgt := 34) hx hb dX9_share_54 (by decide) ?_
  refine lv_iload hx hb dX9_share_34 (lv_at hl 0 rfl) ?_
  refine lv_bipush (v := 8) hx hb dX9_share_36 (by decide) ?_
  refine lv_icmp_ge (tgt := 57) hx hb dX9_share_38 (by decide) (fun c40 => absurd c40 (by decide)) (fun _ => ?_)
  refine lv_aload_n hx hb dX9_share_41 rfl (lv_at hl 4 rfl) ?_
  have k41 : f37 m = some (.inr (11, [.int c_th, .int c_re, .ref v, .ref im, .ref kp, .ref pa, .ref de, .ref ide, .int c_un, .int c_hi, .ref tx, .int c_tn, .int c_fa, .int c_rf, .ref pt, .int c_ps, .int c_pl, .int c_to, .ref so, .ref mo, .ref wh, .ref pf])) := hup hf37 (hne k36 k33 (by intro q; cases q)) k36
  refine g_get C0 G k41 rfl hiX9 2 (by decide) mf_X9_9 rfl dX9_share_42 ?_
  refine lv_iload_n hx hb dX9_share_45 rfl (lv_at hl 1 rfl) ?_
  refine lv_iload hx hb dX9_share_46 (lv_at hl 0 rfl) ?_
  refine lv_iadd hx hb dX9_share_48 ?_
  refine lv_topv (v := nI (841 + 8 * s + 6)) ((nI_add _ _)) ?_
  refine lv_iconst (v := 0) hx hb dX9_share_49 (by decide) ?_
  refine g_iast C0 G k38 0 rfl (vp_in_nI (by omega) (by omega)) dX9_share_50 (fun H locs f42 hf42 G => ?_)
  have k43 : f42 v = some (.inl (cy 0, 6441, .inl (X9_share_g6 g s))) := (by have h9 := hus hf42; rw [nI_c (by omega)] at h9; exact h9)
  refine lv_iinc (v := 7) (lv' := [(4, .int 7), (3, .int (nI (841 + 8 * s))), (2, .int (g 7)), (1, .int (g 6)), (0, .ref m)]) hx hb dX9_share_51 hl (k := 0) rfl (by exact (by decide)) (by decide) rfl (fun ls hl => ?_)
  refine lv_goto (tgt := 34) hx hb dX9_share_54 (by decide) ?_
  refine lv_iload hx hb dX9_share_34 (lv_at hl 0 rfl) ?_
  refine lv_bipush (v := 8) hx hb dX9_share_36 (by decide) ?_
  refine lv_icmp_ge (tgt := 57) hx hb dX9_share_38 (by decide) (fun c45 => absurd c45 (by decide)) (fun _ => ?_)
  refine lv_aload_n hx hb dX9_share_41 rfl (lv_at hl 4 rfl) ?_
  have k46 : f42 m = some (.inr (11, [.int c_th, .int c_re, .ref v, .ref im, .ref kp, .ref pa, .ref de, .ref ide, .int c_un, .int c_hi, .ref tx, .int c_tn, .int c_fa, .int c_rf, .ref pt, .int c_ps, .int c_pl, .int c_to, .ref so, .ref mo, .ref wh, .ref pf])) := hup hf42 (hne k41 k38 (by intro q; cases q)) k41
  refine g_get C0 G k46 rfl hiX9 2 (by decide) mf_X9_9 rfl dX9_share_42 ?_
  refine lv_iload_n hx hb dX9_share_45 rfl (lv_at hl 1 rfl) ?_
  refine lv_iload hx hb dX9_share_46 (lv_at hl 0 rfl) ?_
  refine lv_iadd hx hb dX9_share_48 ?_
  refine lv_topv (v := nI (841 + 8 * s + 7)) ((nI_add _ _)) ?_
  refine lv_iconst (v := 0) hx hb dX9_share_49 (by decide) ?_
  refine g_iast C0 G k43 0 rfl (vp_in_nI (by omega) (by omega)) dX9_share_50 (fun H locs f47 hf47 G => ?_)
  have k48 : f47 v = some (.inl (cy 0, 6441, .inl (X9_share_g7 g s))) := (by have h9 := hus hf47; rw [nI_c (by omega)] at h9; exact h9)
  refine lv_iinc (v := 8) (lv' := [(4, .int 8), (3, .int (nI (841 + 8 * s))), (2, .int (g 7)), (1, .int (g 6)), (0, .ref m)]) hx hb dX9_share_51 hl (k := 0) rfl (by exact (by decide)) (by decide) rfl (fun ls hl => ?_)
  refine lv_goto (tgt := 34) hx hb dX9_share_54 (by decide) ?_
  refine lv_iload hx hb dX9_share_34 (lv_at hl 0 rfl) ?_
  refine lv_bipush (v := 8) hx hb dX9_share_36 (by decide) ?_
  refine lv_icmp_ge (tgt := 57) hx hb dX9_share_38 (by decide) (fun _ => ?_) (fun c50 => absurd (by decide) c50)
  refine lv_aload_n hx hb dX9_share_57 rfl (lv_at hl 4 rfl) ?_
  have k51 : f47 m = some (.inr (11, [.int c_th, .int c_re, .ref v, .ref im, .ref kp, .ref pa, .ref de, .ref ide, .int c_un, .int c_hi, .ref tx, .int c_tn, .int c_fa, .int c_rf, .ref pt, .int c_ps, .int c_pl, .int c_to, .ref so, .ref mo, .ref wh, .ref pf])) := hup hf47 (hne k46 k43 (by intro q; cases q)) k46
  refine g_get C0 G k51 rfl hiX9 2 (by decide) mf_X9_9 rfl dX9_share_58 ?_
  refine lv_iload_n hx hb dX9_share_61 rfl (lv_at hl 1 rfl) ?_
  refine lv_iconst (v := 2) hx hb dX9_share_62 (by decide) ?_
  refine lv_iadd hx hb dX9_share_63 ?_
  refine lv_topv (v := nI (841 + 8 * s + 2)) ((nI_add _ _)) ?_
  refine lv_iload_n hx hb dX9_share_64 rfl (lv_at hl 3 rfl) ?_
  refine lv_iload_n hx hb dX9_share_65 rfl (lv_at hl 2 rfl) ?_
  have J54 : ∀ (y53 : Int32) (_ : y53 = (X9_share_x8 g)) (H : Heap) (locs : List Loc) (ls : Array Slot), hG D (hA f sz) f47 s9 H locs → lv_has ls 5 [(4, .int 8), (3, .int (nI (841 + 8 * s))), (2, .int (g 7)), (1, .int (g 6)), (0, .ref m)] → W p9 l e9 ({ frames := 0, cells := 0, slots := 0, locals := 0 } : Room) s9 m9 ([.ref m] : List Value).toArray b9 t9 c9 H locs 0 0 (vx_MQ b9 (hQv (fun u => u v = some (.inl (cy 0, 6441, .inl (X9_share_g13 g s))) ∧ hFrL f u [v]) D f sz) (hPx hNo D f sz) ([.ref m] : List Value).toArray s9 0 0 (hA f sz)) (F0 m9 74 ls [.int y53, .int (nI (841 + 8 * s + 2)), .ref v]) := by
    intro y53 ey53 H locs ls G hl
    subst ey53
    refine g_iast C0 G k48 0 rfl (vp_in_nI (by omega) (by omega)) dX9_share_74 (fun H locs f56 hf56 G => ?_)
    have k57 : f56 v = some (.inl (cy 0, 6441, .inl (X9_share_g9 g s))) := (by have h9 := hus hf56; rw [nI_c (by omega)] at h9; exact h9)
    refine lv_aload_n hx hb dX9_share_75 rfl (lv_at hl 4 rfl) ?_
    have k58 : f56 m = some (.inr (11, [.int c_th, .int c_re, .ref v, .ref im, .ref kp, .ref pa, .ref de, .ref ide, .int c_un, .int c_hi, .ref tx, .int c_tn, .int c_fa, .int c_rf, .ref pt, .int c_ps, .int c_pl, .int c_to, .ref so, .ref mo, .ref wh, .ref pf])) := hup hf56 (hne k51 k48 (by intro q; cases q)) k51
    refine g_get C0 G k58 rfl hiX9 2 (by decide) mf_X9_9 rfl dX9_share_76 ?_
    refine lv_iload_n hx hb dX9_share_79 rfl (lv_at hl 1 rfl) ?_
    refine lv_iconst (v := 3) hx hb dX9_share_80 (by decide) ?_
    refine lv_iadd hx hb dX9_share_81 ?_
    refine lv_topv (v := nI (841 + 8 * s + 3)) ((nI_add _ _)) ?_
    refine lv_iload_n hx hb dX9_share_82 rfl (lv_at hl 3 rfl) ?_
    refine lv_iload_n hx hb dX9_share_83 rfl (lv_at hl 2 rfl) ?_
    have J61 : ∀ (y60 : Int32) (_ : y60 = (X9_share_x10 g)) (H : Heap) (locs : List Loc) (ls : Array Slot), hG D (hA f sz) f56 s9 H locs → lv_has ls 5 [(4, .int 8), (3, .int (nI (841 + 8 * s))), (2, .int (g 7)), (1, .int (g 6)), (0, .ref m)] → W p9 l e9 ({ frames := 0, cells := 0, slots := 0, locals := 0 } : Room) s9 m9 ([.ref m] : List Value).toArray b9 t9 c9 H locs 0 0 (vx_MQ b9 (hQv (fun u => u v = some (.inl (cy 0, 6441, .inl (X9_share_g13 g s))) ∧ hFrL f u [v]) D f sz) (hPx hNo D f sz) ([.ref m] : List Value).toArray s9 0 0 (hA f sz)) (F0 m9 92 ls [.int y60, .int (nI (841 + 8 * s + 3)), .ref v]) := by
      intro y60 ey60 H locs ls G hl
      subst ey60
      refine g_iast C0 G k57 0 rfl (vp_in_nI (by omega) (by omega)) dX9_share_92 (fun H locs f63 hf63 G => ?_)
      have k64 : f63 v = some (.inl (cy 0, 6441, .inl (X9_share_g11 g s))) := (by have h9 := hus hf63; rw [nI_c (by omega)] at h9; exact h9)
      refine lv_aload_n hx hb dX9_share_93 rfl (lv_at hl 4 rfl) ?_
      have k65 : f63 m = some (.inr (11, [.int c_th, .int c_re, .ref v, .ref im, .ref kp, .ref pa, .ref de, .ref ide, .int c_un, .int c_hi, .ref tx, .int c_tn, .int c_fa, .int c_rf, .ref pt, .int c_ps, .int c_pl, .int c_to, .ref so, .ref mo, .ref wh, .ref pf])) := hup hf63 (hne k58 k57 (by intro q; cases q)) k58
      refine g_get C0 G k65 rfl hiX9 2 (by decide) mf_X9_9 rfl dX9_share_94 ?_
      refine lv_iload_n hx hb dX9_share_97 rfl (lv_at hl 1 rfl) ?_
      refine lv_bipush (v := 7) hx hb dX9_share_98 (by decide) ?_
      refine lv_iadd hx hb dX9_share_100 ?_
      refine lv_topv (v := nI (841 + 8 * s + 7)) ((nI_add _ _)) ?_
      refine lv_iconst (v := 1) hx hb dX9_share_101 (by decide) ?_
      refine g_iast C0 G k64 0 rfl (vp_in_nI (by omega) (by omega)) dX9_share_102 (fun H locs f66 hf66 G => ?_)
      have k67 : f66 v = some (.inl (cy 0, 6441, .inl (X9_share_g12 g s))) := (by have h9 := hus hf66; rw [nI_c (by omega)] at h9; exact h9)
      refine lv_aload_n hx hb dX9_share_103 rfl (lv_at hl 4 rfl) ?_
      have k68 : f66 m = some (.inr (11, [.int c_th, .int c_re, .ref v, .ref im, .ref kp, .ref pa, .ref de, .ref ide, .int c_un, .int c_hi, .ref tx, .int c_tn, .int c_fa, .int c_rf, .ref pt, .int c_ps, .int c_pl, .int c_to, .ref so, .ref mo, .ref wh, .ref pf])) := hup hf66 (hne k65 k64 (by intro q; cases q)) k65
      refine g_get C0 G k68 rfl hiX9 2 (by decide) mf_X9_9 rfl dX9_share_104 ?_
      refine lv_bipush (v := 22) hx hb dX9_share_107 (by decide) ?_
      refine lv_dup2_11 hx hb dX9_share_109 rfl rfl ?_
      refine g_iald C0 G k67 0 rfl (by unfold vp_in; decide) dX9_share_110 ?_
      refine lv_topv (v := (X9_share_g12 g s) 22) rfl ?_
      refine lv_topv (v := nI s) (by rw [X9_share_g12, upd_off (by omega), X9_share_g11, upd_off (by omega), X9_share_g9, upd_off (by omega), X9_share_g7, upd_off (by omega), X9_share_g6, upd_off (by omega), X9_share_g5, upd_off (by omega), X9_share_g4, upd_off (by omega), X9_share_g3, upd_off (by omega), X9_share_g2, upd_off (by omega), X9_share_g1, upd_off (by omega), X9_share_g0, upd_off (by omega), h22]) ?_
      refine lv_iconst (v := 1) hx hb dX9_share_111 (by decide) ?_
      refine lv_iadd hx hb dX9_share_112 ?_
      refine lv_topv (v := nI (s + 1)) ((nI_add _ _)) ?_
      refine g_iast C0 G k67 0 rfl (by unfold vp_in; decide) dX9_share_113 (fun H locs f69 hf69 G => ?_)
      have k70 : f69 v = some (.inl (cy 0, 6441, .inl (X9_share_g13 g s))) := hus hf69
      exact g_vret C0 G hr dX9_share_114 (Nat.le_of_ble_eq_true rfl) (Nat.le_of_ble_eq_true rfl) (by exact ⟨k70, (fun a9 e9 h7 h8 => hup hf69 (fun q => h7 (by rw [q]; simp)) (hup hf66 (fun q => h7 (by rw [q]; simp)) (hup hf63 (fun q => h7 (by rw [q]; simp)) (hup hf56 (fun q => h7 (by rw [q]; simp)) (hup hf47 (fun q => h7 (by rw [q]; simp)) (hup hf42 (fun q => h7 (by rw [q]; simp)) (hup hf37 (fun q => h7 (by rw [q]; simp)) (hup hf32 (fun q => h7 (by rw [q]; simp)) (hup hf27 (fun q => h7 (by rw [q]; simp)) (hup hf22 (fun q => h7 (by rw [q]; simp)) (hup hf17 (fun q => h7 (by rw [q]; simp)) (hup hf12 (fun q => h7 (by rw [q]; simp)) (h8)))))))))))))⟩)
    refine lv_icmp_ge (tgt := 91) hx hb dX9_share_84 (by decide) (fun c59 => ?_) (fun c59 => ?_)
    · refine lv_iload_n hx hb dX9_share_91 rfl (lv_at hl 3 rfl) ?_
      exact J61 (g 6) (by rw [X9_share_x10, if_pos c59]) _ _ _ G (lv_sub hl [0, 1, 2, 3, 4] rfl)
    · refine lv_iload_n hx hb dX9_share_87 rfl (lv_at hl 2 rfl) ?_
      refine lv_goto (tgt := 92) hx hb dX9_share_88 (by decide) ?_
      exact J61 (g 7) (by rw [X9_share_x10, if_neg c59]) _ _ _ G (lv_sub hl [0, 1, 2, 3, 4] rfl)
  refine lv_icmp_ge (tgt := 73) hx hb dX9_share_66 (by decide) (fun c52 => ?_) (fun c52 => ?_)
  · refine lv_iload_n hx hb dX9_share_73 rfl (lv_at hl 2 rfl) ?_
    exact J54 (g 7) (by rw [X9_share_x8, if_pos c52]) _ _ _ G (lv_sub hl [0, 1, 2, 3, 4] rfl)
  · refine lv_iload_n hx hb dX9_share_69 rfl (lv_at hl 3 rfl) ?_
    refine lv_goto (tgt := 74) hx hb dX9_share_70 (by decide) ?_
    exact J54 (g 6) (by rw [X9_share_x8, if_neg c52]) _ _ _ G (lv_sub hl [0, 1, 2, 3, 4] rfl)
