def hFrL (f u : Hf) (L : List Nat) : Prop := ∀ (a : Nat) (e : va_E), a ∉ L → f a = some e → u a = some e
theorem hZb {b : Int32} (h : b = 0 ∨ b = 1) : narrow .boolean (.int b) = .int b := by rcases h with rfl | rfl <;> rfl
theorem hFb {b : Int32} (h : b = 0 ∨ b = 1) : fits .boolean (.int b) = true := by rcases h with rfl | rfl <;> rfl
theorem nI_sb {a b : Nat} (h : b ≤ a) : nI a - nI b = nI (a - b) := by
  have e : nI a = nI (a - b) + nI b := by rw [nI_add, Nat.sub_add_cancel h]
  rw [e, Int32.add_sub_cancel]
theorem upd_at {g : Nat → Int32} {k : Nat} {x : Int32} : upd g k x k = x := by simp [upd]
theorem upd_off {g : Nat → Int32} {k j : Nat} {x : Int32} (h : j ≠ k) : upd g k x j = g j := by simp [upd, h]
def X9_isIn_x0 (x : Int32) (high : Int32) : Int32 := if high < x then 0 else 1
def X9_isIn_x1 (x : Int32) (low : Int32) (high : Int32) : Int32 := if x < low then 0 else (X9_isIn_x0 x high)
set_option maxRecDepth 100000 in
theorem k_X9_isIn {l : Launch} (hfl : l.stackTraces = false) {D : va_G} {cy : Nat → ClassId} {f : Hf} {sz : Nat} (x : Int32) (low : Int32) (high : Int32)   : hMet l yX9_isIn cX9_isIn 3 (some .boolean) { frames := 0, cells := 0, slots := 0, locals := 0 } D (hTy cy) f sz [.int x, .int low, .int high] (hQi (fun r u => r = (X9_isIn_x1 x low high) ∧ u = f) D f sz) hNo := by
  refine h_enter (by decide) hfl (Nat.le_of_ble_eq_true rfl) ?_
  intro p9 e9 s9 m9 b9 t9 c9 hsz C0 hr hnm G ls hl
  have hx := C0.1.1
  have hb := C0.1.2.1
  have hl : lv_has ls 3 [(0, .int x), (1, .int low), (2, .int high)] := hl
  refine lv_iload_n hx hb dX9_isIn_0 rfl (lv_at hl 0 rfl) ?_
  refine lv_iload_n hx hb dX9_isIn_1 rfl (lv_at hl 1 rfl) ?_
  have J13 : ∀ (y12 : Int32) (_ : y12 = (X9_isIn_x1 x low high)) (H : Heap) (locs : List Loc) (ls : Array Slot), hG D (hA f sz) f s9 H locs → lv_has ls 3 [(0, .int x), (1, .int low), (2, .int high)] → W p9 l e9 ({ frames := 0, cells := 0, slots := 0, locals := 0 } : Room) s9 m9 ([.int x, .int low, .int high] : List Value).toArray b9 t9 c9 H locs 0 0 (vx_MQ b9 (hQi (fun r u => r = (X9_isIn_x1 x low high) ∧ u = f) D f sz) (hPx hNo D f sz) ([.int x, .int low, .int high] : List Value).toArray s9 0 0 (hA f sz)) (F0 m9 15 ls [.int y12]) := by
    intro y12 ey12 H locs ls G hl
    replace ey12 := Eq.symm ey12
    subst ey12
    exact g_zret C0 G hr dX9_isIn_15 (hZb (by repeat (first | exact Or.inl rfl | exact Or.inr rfl | assumption | split | unfold X9_isIn_x0 | unfold X9_isIn_x1))) (Nat.le_of_ble_eq_true rfl) (Nat.le_of_ble_eq_true rfl) (by exact ⟨rfl, rfl⟩)
  refine lv_icmp_lt (tgt := 14) hx hb dX9_isIn_2 (by decide) (fun c11 => ?_) (fun c11 => ?_)
  · refine lv_iconst (v := 0) hx hb dX9_isIn_14 (by decide) ?_
    exact J13 0 (by rw [X9_isIn_x1, if_pos c11]) _ _ _ G (lv_sub hl [0, 1, 2] rfl)
  · refine lv_iload_n hx hb dX9_isIn_5 rfl (lv_at hl 0 rfl) ?_
    refine lv_iload_n hx hb dX9_isIn_6 rfl (lv_at hl 2 rfl) ?_
    have J17 : ∀ (y16 : Int32) (_ : y16 = (X9_isIn_x0 x high)) (H : Heap) (locs : List Loc) (ls : Array Slot), hG D (hA f sz) f s9 H locs → lv_has ls 3 [(0, .int x), (1, .int low), (2, .int high)] → W p9 l e9 ({ frames := 0, cells := 0, slots := 0, locals := 0 } : Room) s9 m9 ([.int x, .int low, .int high] : List Value).toArray b9 t9 c9 H locs 0 0 (vx_MQ b9 (hQi (fun r u => r = (X9_isIn_x1 x low high) ∧ u = f) D f sz) (hPx hNo D f sz) ([.int x, .int low, .int high] : List Value).toArray s9 0 0 (hA f sz)) (F0 m9 15 ls [.int y16]) := by
      intro y16 ey16 H locs ls G hl
      replace ey16 := Eq.symm ey16
      subst ey16
      exact J13 (X9_isIn_x0 x high) (by rw [X9_isIn_x1, if_neg c11]) _ _ _ G (lv_sub hl [0, 1, 2] rfl)
    refine lv_icmp_gt (tgt := 14) hx hb dX9_isIn_7 (by decide) (fun c15 => ?_) (fun c15 => ?_)
    · refine lv_iconst (v := 0) hx hb dX9_isIn_14 (by decide) ?_
      exact J17 0 (by rw [X9_isIn_x0, if_pos c15]) _ _ _ G (lv_sub hl [0, 1, 2] rfl)
    · refine lv_iconst (v := 1) hx hb dX9_isIn_10 (by decide) ?_
      refine lv_goto (tgt := 15) hx hb dX9_isIn_11 (by decide) ?_
      exact J17 1 (by rw [X9_isIn_x0, if_neg c15]) _ _ _ G (lv_sub hl [0, 1, 2] rfl)
theorem b_k_X9_isIn (x : Int32) (low : Int32) (high : Int32) : (X9_isIn_x1 x low high) = 0 ∨ (X9_isIn_x1 x low high) = 1 := by
  repeat (first | exact Or.inl rfl | exact Or.inr rfl | assumption | split | unfold X9_isIn_x0 | unfold X9_isIn_x1)
def X9_at_r0 (i : Int32) (what : Int32) : Int32 := (25 + (11 * i)) + what
set_option maxRecDepth 100000 in
theorem k_X9_at {l : Launch} (hfl : l.stackTraces = false) {D : va_G} {cy : Nat → ClassId} {f : Hf} {sz : Nat} (i : Int32) (what : Int32)   : hMet l yX9_at cX9_at 2 (some .int) { frames := 0, cells := 0, slots := 0, locals := 0 } D (hTy cy) f sz [.int i, .int what] (hQi (fun r u => r = (X9_at_r0 i what) ∧ u = f) D f sz) hNo := by
  refine h_enter (by decide) hfl (Nat.le_of_ble_eq_true rfl) ?_
  intro p9 e9 s9 m9 b9 t9 c9 hsz C0 hr hnm G ls hl
  have hx := C0.1.1
  have hb := C0.1.2.1
  have hl : lv_has ls 2 [(0, .int i), (1, .int what)] := hl
  refine lv_bipush (v := 25) hx hb dX9_at_0 (by decide) ?_
  refine lv_bipush (v := 11) hx hb dX9_at_2 (by decide) ?_
  refine lv_iload_n hx hb dX9_at_4 rfl (lv_at hl 0 rfl) ?_
  refine lv_imul hx hb dX9_at_5 ?_
  refine lv_iadd hx hb dX9_at_6 ?_
  refine lv_iload_n hx hb dX9_at_7 rfl (lv_at hl 1 rfl) ?_
  refine lv_iadd hx hb dX9_at_8 ?_
  exact g_iret C0 G hr dX9_at_9 (Nat.le_of_ble_eq_true rfl) (Nat.le_of_ble_eq_true rfl) (by exact ⟨(by rw [X9_at_r0]), rfl⟩)
theorem at_n (i w : Nat) : X9_at_r0 (nI i) (nI w) = nI (25 + 11 * i + w) := by
  unfold X9_at_r0
  rw [show (25 : Int32) = nI 25 from rfl, show (11 : Int32) = nI 11 from rfl, pk_mul, nI_add, nI_add]
def X9_batterAt_r0 (i : Int32) (player : Int32) (what : Int32) : Int32 := (69 + (6 * ((11 * i) + player))) + what
set_option maxRecDepth 100000 in
theorem k_X9_batterAt {l : Launch} (hfl : l.stackTraces = false) {D : va_G} {cy : Nat → ClassId} {f : Hf} {sz : Nat} (i : Int32) (player : Int32) (what : Int32)   : hMet l yX9_batterAt cX9_batterAt 3 (some .int) { frames := 0, cells := 0, slots := 0, locals := 0 } D (hTy cy) f sz [.int i, .int player, .int what] (hQi (fun r u => r = (X9_batterAt_r0 i player what) ∧ u = f) D f sz) hNo := by
  refine h_enter (by decide) hfl (Nat.le_of_ble_eq_true rfl) ?_
  intro p9 e9 s9 m9 b9 t9 c9 hsz C0 hr hnm G ls hl
  have hx := C0.1.1
  have hb := C0.1.2.1
  have hl : lv_has ls 3 [(0, .int i), (1, .int player), (2, .int what)] := hl
  refine lv_bipush (v := 69) hx hb dX9_batterAt_0 (by decide) ?_
  refine lv_bipush (v := 6) hx hb dX9_batterAt_2 (by decide) ?_
  refine lv_bipush (v := 11) hx hb dX9_batterAt_4 (by decide) ?_
  refine lv_iload_n hx hb dX9_batterAt_6 rfl (lv_at hl 0 rfl) ?_
  refine lv_imul hx hb dX9_batterAt_7 ?_
  refine lv_iload_n hx hb dX9_batterAt_8 rfl (lv_at hl 1 rfl) ?_
  refine lv_iadd hx hb dX9_batterAt_9 ?_
  refine lv_imul hx hb dX9_batterAt_10 ?_
  refine lv_iadd hx hb dX9_batterAt_11 ?_
  refine lv_iload_n hx hb dX9_batterAt_12 rfl (lv_at hl 2 rfl) ?_
  refine lv_iadd hx hb dX9_batterAt_13 ?_
  exact g_iret C0 G hr dX9_batterAt_14 (Nat.le_of_ble_eq_true rfl) (Nat.le_of_ble_eq_true rfl) (by exact ⟨(by rw [X9_batterAt_r0]), rfl⟩)
theorem bat_n (i p w : Nat) : X9_batterAt_r0 (nI i) (nI p) (nI w) = nI (69 + 6 * (11 * i + p) + w) := by
  unfold X9_batterAt_r0
  rw [show (69 : Int32) = nI 69 from rfl, show (11 : Int32) = nI 11 from rfl, show (6 : Int32) = nI 6 from rfl, pk_mul, nI_add, pk_mul, nI_add, nI_add]
def X9_bowlerAt_r0 (i : Int32) (player : Int32) (what : Int32) : Int32 := (333 + (7 * ((11 * i) + player))) + what
set_option maxRecDepth 100000 in
theorem k_X9_bowlerAt {l : Launch} (hfl : l.stackTraces = false) {D : va_G} {cy : Nat → ClassId} {f : Hf} {sz : Nat} (i : Int32) (player : Int32) (what : Int32)   : hMet l yX9_bowlerAt cX9_bowlerAt 3 (some .int) { frames := 0, cells := 0, slots := 0, locals := 0 } D (hTy cy) f sz [.int i, .int player, .int what] (hQi (fun r u => r = (X9_bowlerAt_r0 i player what) ∧ u = f) D f sz) hNo := by
  refine h_enter (by decide) hfl (Nat.le_of_ble_eq_true rfl) ?_
  intro p9 e9 s9 m9 b9 t9 c9 hsz C0 hr hnm G ls hl
  have hx := C0.1.1
  have hb := C0.1.2.1
  have hl : lv_has ls 3 [(0, .int i), (1, .int player), (2, .int what)] := hl
  refine lv_sipush (v := 333) hx hb dX9_bowlerAt_0 (by decide) ?_
  refine lv_bipush (v := 7) hx hb dX9_bowlerAt_3 (by decide) ?_
  refine lv_bipush (v := 11) hx hb dX9_bowlerAt_5 (by decide) ?_
  refine lv_iload_n hx hb dX9_bowlerAt_7 rfl (lv_at hl 0 rfl) ?_
  refine lv_imul hx hb dX9_bowlerAt_8 ?_
  refine lv_iload_n hx hb dX9_bowlerAt_9 rfl (lv_at hl 1 rfl) ?_
  refine lv_iadd hx hb dX9_bowlerAt_10 ?_
  refine lv_imul hx hb dX9_bowlerAt_11 ?_
  refine lv_iadd hx hb dX9_bowlerAt_12 ?_
  refine lv_iload_n hx hb dX9_bowlerAt_13 rfl (lv_at hl 2 rfl) ?_
  refine lv_iadd hx hb dX9_bowlerAt_14 ?_
  exact g_iret C0 G hr dX9_bowlerAt_15 (Nat.le_of_ble_eq_true rfl) (Nat.le_of_ble_eq_true rfl) (by exact ⟨(by rw [X9_bowlerAt_r0]), rfl⟩)
theorem bow_n (i p w : Nat) : X9_bowlerAt_r0 (nI i) (nI p) (nI w) = nI (333 + 7 * (11 * i + p) + w) := by
  unfold X9_bowlerAt_r0
  rw [show (333 : Int32) = nI 333 from rfl, show (11 : Int32) = nI 11 from rfl, show (7 : Int32) = nI 7 from rfl, pk_mul, nI_add, pk_mul, nI_add, nI_add]
def X9_worth_r0 (balls : Int32) (wickets : Int32) : Int32 := (10 - wickets) * ((240 * balls) - (balls * balls))
set_option maxRecDepth 100000 in
theorem k_X9_worth {l : Launch} (hfl : l.stackTraces = false) {D : va_G} {cy : Nat → ClassId} {f : Hf} {sz : Nat} (balls : Int32) (wickets : Int32)   : hMet l yX9_worth cX9_worth 2 (some .int) { frames := 0, cells := 0, slots := 0, locals := 0 } D (hTy cy) f sz [.int balls, .int wickets] (hQi (fun r u => r = (X9_worth_r0 balls wickets) ∧ u = f) D f sz) hNo := by
  refine h_enter (by decide) hfl (Nat.le_of_ble_eq_true rfl) ?_
  intro p9 e9 s9 m9 b9 t9 c9 hsz C0 hr hnm G ls hl
  have hx := C0.1.1
  have hb := C0.1.2.1
  have hl : lv_has ls 2 [(0, .int balls), (1, .int wickets)] := hl
  refine lv_bipush (v := 10) hx hb dX9_worth_0 (by decide) ?_
  refine lv_iload_n hx hb dX9_worth_2 rfl (lv_at hl 1 rfl) ?_
  refine lv_isub hx hb dX9_worth_3 ?_
  refine lv_sipush (v := 240) hx hb dX9_worth_4 (by decide) ?_
  refine lv_iload_n hx hb dX9_worth_7 rfl (lv_at hl 0 rfl) ?_
  refine lv_imul hx hb dX9_worth_8 ?_
  refine lv_iload_n hx hb dX9_worth_9 rfl (lv_at hl 0 rfl) ?_
  refine lv_iload_n hx hb dX9_worth_10 rfl (lv_at hl 0 rfl) ?_
  refine lv_imul hx hb dX9_worth_11 ?_
  refine lv_isub hx hb dX9_worth_12 ?_
  refine lv_imul hx hb dX9_worth_13 ?_
  exact g_iret C0 G hr dX9_worth_14 (Nat.le_of_ble_eq_true rfl) (Nat.le_of_ble_eq_true rfl) (by exact ⟨(by rw [X9_worth_r0]), rfl⟩)
def X9_fifth_r0 (overs : Int32) : Int32 := (overs + 4) / 5
set_option maxRecDepth 100000 in
theorem k_X9_fifth {l : Launch} (hfl : l.stackTraces = false) {D : va_G} {cy : Nat → ClassId} {f : Hf} {sz : Nat} (overs : Int32)   : hMet l yX9_fifth cX9_fifth 1 (some .int) { frames := 0, cells := 0, slots := 0, locals := 0 } D (hTy cy) f sz [.int overs] (hQi (fun r u => r = (X9_fifth_r0 overs) ∧ u = f) D f sz) hNo := by
  refine h_enter (by decide) hfl (Nat.le_of_ble_eq_true rfl) ?_
  intro p9 e9 s9 m9 b9 t9 c9 hsz C0 hr hnm G ls hl
  have hx := C0.1.1
  have hb := C0.1.2.1
  have hl : lv_has ls 1 [(0, .int overs)] := hl
  refine lv_iload_n hx hb dX9_fifth_0 rfl (lv_at hl 0 rfl) ?_
  refine lv_iconst (v := 4) hx hb dX9_fifth_1 (by decide) ?_
  refine lv_iadd hx hb dX9_fifth_2 ?_
  refine lv_iconst (v := 5) hx hb dX9_fifth_3 (by decide) ?_
  refine lv_idiv hx hb dX9_fifth_4 (by decide) ?_
  exact g_iret C0 G hr dX9_fifth_5 (Nat.le_of_ble_eq_true rfl) (Nat.le_of_ble_eq_true rfl) (by exact ⟨(by rw [X9_fifth_r0]), rfl⟩)
def X9_bit_x0 (is9 : Int32) : Int32 := if is9 = 0 then 0 else 1
set_option maxRecDepth 100000 in
theorem k_X9_bit {l : Launch} (hfl : l.stackTraces = false) {D : va_G} {cy : Nat → ClassId} {f : Hf} {sz : Nat} (is9 : Int32)  (hb_is9 : is9 = 0 ∨ is9 = 1) : hMet l yX9_bit cX9_bit 1 (some .int) { frames := 0, cells := 0, slots := 0, locals := 0 } D (hTy cy) f sz [.int is9] (hQi (fun r u => r = (X9_bit_x0 is9) ∧ u = f) D f sz) hNo := by
  refine h_enter (by decide) hfl (Nat.le_of_ble_eq_true rfl) ?_
  intro p9 e9 s9 m9 b9 t9 c9 hsz C0 hr hnm G ls hl
  have hx := C0.1.1
  have hb := C0.1.2.1
  have hl : lv_has ls 1 [(0, .int is9)] := hl
  refine lv_iload_n hx hb dX9_bit_0 rfl (lv_at hl 0 rfl) ?_
  have J13 : ∀ (y12 : Int32) (_ : y12 = (X9_bit_x0 is9)) (H : Heap) (locs : List Loc) (ls : Array Slot), hG D (hA f sz) f s9 H locs → lv_has ls 1 [(0, .int is9)] → W p9 l e9 ({ frames := 0, cells := 0, slots := 0, locals := 0 } : Room) s9 m9 ([.int is9] : List Value).toArray b9 t9 c9 H locs 0 0 (vx_MQ b9 (hQi (fun r u => r = (X9_bit_x0 is9) ∧ u = f) D f sz) (hPx hNo D f sz) ([.int is9] : List Value).toArray s9 0 0 (hA f sz)) (F0 m9 9 ls [.int y12]) := by
    intro y12 ey12 H locs ls G hl
    replace ey12 := Eq.symm ey12
    subst ey12
    exact g_iret C0 G hr dX9_bit_9 (Nat.le_of_ble_eq_true rfl) (Nat.le_of_ble_eq_true rfl) (by exact ⟨rfl, rfl⟩)
  refine lv_if_eq (tgt := 8) hx hb dX9_bit_1 (by decide) (fun c11 => ?_) (fun c11 => ?_)
  · refine lv_iconst (v := 0) hx hb dX9_bit_8 (by decide) ?_
    exact J13 0 (by rw [X9_bit_x0, if_pos c11]) _ _ _ G (lv_sub hl [0] rfl)
  · refine lv_iconst (v := 1) hx hb dX9_bit_4 (by decide) ?_
    refine lv_goto (tgt := 9) hx hb dX9_bit_5 (by decide) ?_
    exact J13 1 (by rw [X9_bit_x0, if_neg c11]) _ _ _ G (lv_sub hl [0] rfl)
theorem b_k_X9_bit (is9 : Int32) (hb_is9 : is9 = 0 ∨ is9 = 1) : (X9_bit_x0 is9) = 0 ∨ (X9_bit_x0 is9) = 1 := by
  repeat (first | exact Or.inl rfl | exact Or.inr rfl | assumption | split | unfold X9_bit_x0)
def X9_isBall_x0 (runs : Int32) : Int32 := if (X9_isIn_x1 runs 1 4) = 0 then 0 else 1
def X9_isBall_x1 (kind : Int32) (runs : Int32) : Int32 := if (X9_isIn_x1 kind 3 4) = 0 then 0 else (X9_isBall_x0 runs)
def X9_isBall_x2 (kind : Int32) (runs : Int32) : Int32 := if kind = 1 then (X9_isIn_x1 runs 0 4) else (X9_isBall_x1 kind runs)
def X9_isBall_x3 (kind : Int32) (runs : Int32) : Int32 := if kind = 2 then (X9_isIn_x1 runs 0 6) else (X9_isBall_x2 kind runs)
def X9_isBall_x4 (kind : Int32) (runs : Int32) : Int32 := if kind = 0 then (X9_isIn_x1 runs 0 6) else (X9_isBall_x3 kind runs)
def X9_isBall_x5 (runs : Int32) : Int32 := if runs = 6 then 1 else 0
def X9_isBall_x6 (runs : Int32) : Int32 := if runs = 4 then 1 else (X9_isBall_x5 runs)
def X9_isBall_x7 (kind : Int32) (runs : Int32) : Int32 := if kind = 2 then (X9_isBall_x6 runs) else 0
def X9_isBall_x8 (kind : Int32) (runs : Int32) : Int32 := if kind = 0 then (X9_isBall_x6 runs) else (X9_isBall_x7 kind runs)
def X9_isBall_x9 (kind : Int32) (runs : Int32) (bnd : Int32) : Int32 := if bnd = 0 then 1 else (X9_isBall_x8 kind runs)
def X9_isBall_x10 (kind : Int32) (runs : Int32) (bnd : Int32) : Int32 := if (X9_isBall_x4 kind runs) = 0 then 0 else (X9_isBall_x9 kind runs bnd)
set_option maxRecDepth 100000 in
theorem k_X9_isBall {l : Launch} (hfl : l.stackTraces = false) {D : va_G} {cy : Nat → ClassId} {f : Hf} {sz : Nat} (kind : Int32) (runs : Int32) (bnd : Int32)  (hb_bnd : bnd = 0 ∨ bnd = 1) : hMet l yX9_isBall cX9_isBall 4 (some .boolean) { frames := 1, cells := 0, slots := 0, locals := 22 } D (hTy cy) f sz [.int kind, .int runs, .int bnd] (hQi (fun r u => r = (X9_isBall_x10 kind runs bnd) ∧ u = f) D f sz) hNo := by
  refine h_enter (by decide) hfl (Nat.le_of_ble_eq_true rfl) ?_
  intro p9 e9 s9 m9 b9 t9 c9 hsz C0 hr hnm G ls hl
  have hx := C0.1.1
  have hb := C0.1.2.1
  have hl : lv_has ls 4 [(0, .int kind), (1, .int runs), (2, .int bnd)] := hl
  refine lv_iload_n hx hb dX9_isBall_0 rfl (lv_at hl 0 rfl) ?_
  have J13 : ∀ (y12 : Int32) (_ : y12 = (X9_isBall_x4 kind runs)) (H : Heap) (locs : List Loc) (ls : Array Slot), hG D (hA f sz) f s9 H locs → lv_has ls 4 [(0, .int kind), (1, .int runs), (2, .int bnd)] → W p9 l e9 ({ frames := 1, cells := 0, slots := 0, locals := 22 } : Room) s9 m9 ([.int kind, .int runs, .int bnd] : List Value).toArray b9 t9 c9 H locs 0 0 (vx_MQ b9 (hQi (fun r u => r = (X9_isBall_x10 kind runs bnd) ∧ u = f) D f sz) (hPx hNo D f sz) ([.int kind, .int runs, .int bnd] : List Value).toArray s9 0 0 (hA f sz)) (F0 m9 56 ls [.int y12]) := by
    intro y12 ey12 H locs ls G hl
    replace ey12 := Eq.symm ey12
    subst ey12
    refine lv_istore_n (lv' := [(3, .int (X9_isBall_x4 kind runs)), (0, .int kind), (1, .int runs), (2, .int bnd)]) hx hb dX9_isBall_56 rfl hl (by decide) rfl (fun ls hl => ?_)
    refine lv_iload_n hx hb dX9_isBall_57 rfl (lv_at hl 0 rfl) ?_
    have J17 : ∀ (y16 : Int32) (_ : y16 = (X9_isBall_x10 kind runs bnd)) (H : Heap) (locs : List Loc) (ls : Array Slot), hG D (hA f sz) f s9 H locs → lv_has ls 4 [(3, .int (X9_isBall_x4 kind runs)), (0, .int kind), (1, .int runs), (2, .int bnd)] → W p9 l e9 ({ frames := 1, cells := 0, slots := 0, locals := 22 } : Room) s9 m9 ([.int kind, .int runs, .int bnd] : List Value).toArray b9 t9 c9 H locs 0 0 (vx_MQ b9 (hQi (fun r u => r = (X9_isBall_x10 kind runs bnd) ∧ u = f) D f sz) (hPx hNo D f sz) ([.int kind, .int runs, .int bnd] : List Value).toArray s9 0 0 (hA f sz)) (F0 m9 90 ls [.int y16]) := by
      intro y16 ey16 H locs ls G hl
      replace ey16 := Eq.symm ey16
      subst ey16
      exact g_zret C0 G hr dX9_isBall_90 (hZb (by repeat (first | exact Or.inl rfl | exact Or.inr rfl | assumption | exact (b_k_X9_isIn runs 0 6) | exact (b_k_X9_isIn kind 3 4) | exact (b_k_X9_isIn runs 1 4) | exact (b_k_X9_isIn runs 0 4) | split | unfold X9_isBall_x0 | unfold X9_isBall_x1 | unfold X9_isBall_x2 | unfold X9_isBall_x3 | unfold X9_isBall_x4 | unfold X9_isBall_x5 | unfold X9_isBall_x6 | unfold X9_isBall_x7 | unfold X9_isBall_x8 | unfold X9_isBall_x9 | unfold X9_isBall_x10))) (Nat.le_of_ble_eq_true rfl) (Nat.le_of_ble_eq_true rfl) (by exact ⟨rfl, rfl⟩)
    refine lv_if_eq (tgt := 89) hx hb dX9_isBall_58 (by decide) (fun c15 => ?_) (fun c15 => ?_)
    · refine lv_iconst (v := 0) hx hb dX9_isBall_89 (by decide) ?_
      exact J17 0 (by rw [X9_isBall_x10, if_pos c15]) _ _ _ G (lv_sub hl [0, 1, 2, 3] rfl)
    · refine lv_iload_n hx hb dX9_isBall_61 rfl (lv_at hl 3 rfl) ?_
      have J21 : ∀ (y20 : Int32) (_ : y20 = (X9_isBall_x9 kind runs bnd)) (H : Heap) (locs : List Loc) (ls : Array Slot), hG D (hA f sz) f s9 H locs → lv_has ls 4 [(3, .int (X9_isBall_x4 kind runs)), (0, .int kind), (1, .int runs), (2, .int bnd)] → W p9 l e9 ({ frames := 1, cells := 0, slots := 0, locals := 22 } : Room) s9 m9 ([.int kind, .int runs, .int bnd] : List Value).toArray b9 t9 c9 H locs 0 0 (vx_MQ b9 (hQi (fun r u => r = (X9_isBall_x10 kind runs bnd) ∧ u = f) D f sz) (hPx hNo D f sz) ([.int kind, .int runs, .int bnd] : List Value).toArray s9 0 0 (hA f sz)) (F0 m9 90 ls [.int y20]) := by
        intro y20 ey20 H locs ls G hl
        replace ey20 := Eq.symm ey20
        subst ey20
        exact J17 (X9_isBall_x9 kind runs bnd) (by rw [X9_isBall_x10, if_neg c15]) _ _ _ G (lv_sub hl [0, 1, 2, 3] rfl)
      refine lv_if_eq (tgt := 85) hx hb dX9_isBall_62 (by decide) (fun c19 => ?_) (fun c19 => ?_)
      · refine lv_iconst (v := 1) hx hb dX9_isBall_85 (by decide) ?_
        refine lv_goto (tgt := 90) hx hb dX9_isBall_86 (by decide) ?_
        exact J21 1 (by rw [X9_isBall_x9, if_pos c19]) _ _ _ G (lv_sub hl [0, 1, 2, 3] rfl)
      · refine lv_iload_n hx hb dX9_isBall_65 rfl (lv_at hl 1 rfl) ?_
        have J25 : ∀ (y24 : Int32) (_ : y24 = (X9_isBall_x8 kind runs)) (H : Heap) (locs : List Loc) (ls : Array Slot), hG D (hA f sz) f s9 H locs → lv_has ls 4 [(3, .int (X9_isBall_x4 kind runs)), (0, .int kind), (1, .int runs), (2, .int bnd)] → W p9 l e9 ({ frames := 1, cells := 0, slots := 0, locals := 22 } : Room) s9 m9 ([.int kind, .int runs, .int bnd] : List Value).toArray b9 t9 c9 H locs 0 0 (vx_MQ b9 (hQi (fun r u => r = (X9_isBall_x10 kind runs bnd) ∧ u = f) D f sz) (hPx hNo D f sz) ([.int kind, .int runs, .int bnd] : List Value).toArray s9 0 0 (hA f sz)) (F0 m9 90 ls [.int y24]) := by
          intro y24 ey24 H locs ls G hl
          replace ey24 := Eq.symm ey24
          subst ey24
          exact J21 (X9_isBall_x8 kind runs) (by rw [X9_isBall_x9, if_neg c19]) _ _ _ G (lv_sub hl [0, 1, 2, 3] rfl)
        refine lv_if_eq (tgt := 74) hx hb dX9_isBall_66 (by decide) (fun c23 => ?_) (fun c23 => ?_)
        · refine lv_iload_n hx hb dX9_isBall_74 rfl (lv_at hl 2 rfl) ?_
          refine lv_iconst (v := 4) hx hb dX9_isBall_75 (by decide) ?_
          have J29 : ∀ (y28 : Int32) (_ : y28 = (X9_isBall_x6 runs)) (H : Heap) (locs : List Loc) (ls : Array Slot), hG D (hA f sz) f s9 H locs → lv_has ls 4 [(3, .int (X9_isBall_x4 kind runs)), (0, .int kind), (1, .int runs), (2, .int bnd)] → W p9 l e9 ({ frames := 1, cells := 0, slots := 0, locals := 22 } : Room) s9 m9 ([.int kind, .int runs, .int bnd] : List Value).toArray b9 t9 c9 H locs 0 0 (vx_MQ b9 (hQi (fun r u => r = (X9_isBall_x10 kind runs bnd) ∧ u = f) D f sz) (hPx hNo D f sz) ([.int kind, .int runs, .int bnd] : List Value).toArray s9 0 0 (hA f sz)) (F0 m9 90 ls [.int y28]) := by
            intro y28 ey28 H locs ls G hl
            replace ey28 := Eq.symm ey28
            subst ey28
            exact J25 (X9_isBall_x6 runs) (by rw [X9_isBall_x8, if_pos c23]) _ _ _ G (lv_sub hl [0, 1, 2, 3] rfl)
          refine lv_icmp_eq (tgt := 85) hx hb dX9_isBall_76 (by decide) (fun c27 => ?_) (fun c27 => ?_)
          · refine lv_iconst (v := 1) hx hb dX9_isBall_85 (by decide) ?_
            refine lv_goto (tgt := 90) hx hb dX9_isBall_86 (by decide) ?_
            exact J29 1 (by rw [X9_isBall_x6, if_pos c27]) _ _ _ G (lv_sub hl [0, 1, 2, 3] rfl)
          · refine lv_iload_n hx hb dX9_isBall_79 rfl (lv_at hl 2 rfl) ?_
            refine lv_bipush (v := 6) hx hb dX9_isBall_80 (by decide) ?_
            have J33 : ∀ (y32 : Int32) (_ : y32 = (X9_isBall_x5 runs)) (H : Heap) (locs : List Loc) (ls : Array Slot), hG D (hA f sz) f s9 H locs → lv_has ls 4 [(3, .int (X9_isBall_x4 kind runs)), (0, .int kind), (1, .int runs), (2, .int bnd)] → W p9 l e9 ({ frames := 1, cells := 0, slots := 0, locals := 22 } : Room) s9 m9 ([.int kind, .int runs, .int bnd] : List Value).toArray b9 t9 c9 H locs 0 0 (vx_MQ b9 (hQi (fun r u => r = (X9_isBall_x10 kind runs bnd) ∧ u = f) D f sz) (hPx hNo D f sz) ([.int kind, .int runs, .int bnd] : List Value).toArray s9 0 0 (hA f sz)) (F0 m9 90 ls [.int y32]) := by
              intro y32 ey32 H locs ls G hl
              replace ey32 := Eq.symm ey32
              subst ey32
              exact J29 (X9_isBall_x5 runs) (by rw [X9_isBall_x6, if_neg c27]) _ _ _ G (lv_sub hl [0, 1, 2, 3] rfl)
            refine lv_icmp_ne (tgt := 89) hx hb dX9_isBall_82 (by decide) (fun c31 => ?_) (fun c31 => ?_)
            · refine lv_iconst (v := 0) hx hb dX9_isBall_89 (by decide) ?_
              exact J33 0 (by rw [X9_isBall_x5, if_neg c31]) _ _ _ G (lv_sub hl [0, 1, 2, 3] rfl)
            · refine lv_iconst (v := 1) hx hb dX9_isBall_85 (by decide) ?_
              refine lv_goto (tgt := 90) hx hb dX9_isBall_86 (by decide) ?_
              exact J33 1 (by rw [X9_isBall_x5, if_pos c31]) _ _ _ G (lv_sub hl [0, 1, 2, 3] rfl)
        · refine lv_iload_n hx hb dX9_isBall_69 rfl (lv_at hl 1 rfl) ?_
          refine lv_iconst (v := 2) hx hb dX9_isBall_70 (by decide) ?_
          have J37 : ∀ (y36 : Int32) (_ : y36 = (X9_isBall_x7 kind runs)) (H : Heap) (locs : List Loc) (ls : Array Slot), hG D (hA f sz) f s9 H locs → lv_has ls 4 [(3, .int (X9_isBall_x4 kind runs)), (0, .int kind), (1, .int runs), (2, .int bnd)] → W p9 l e9 ({ frames := 1, cells := 0, slots := 0, locals := 22 } : Room) s9 m9 ([.int kind, .int runs, .int bnd] : List Value).toArray b9 t9 c9 H locs 0 0 (vx_MQ b9 (hQi (fun r u => r = (X9_isBall_x10 kind runs bnd) ∧ u = f) D f sz) (hPx hNo D f sz) ([.int kind, .int runs, .int bnd] : List Value).toArray s9 0 0 (hA f sz)) (F0 m9 90 ls [.int y36]) := by
            intro y36 ey36 H locs ls G hl
            replace ey36 := Eq.symm ey36
            subst ey36
            exact J25 (X9_isBall_x7 kind runs) (by rw [X9_isBall_x8, if_neg c23]) _ _ _ G (lv_sub hl [0, 1, 2, 3] rfl)
          refine lv_icmp_ne (tgt := 89) hx hb dX9_isBall_71 (by decide) (fun c35 => ?_) (fun c35 => ?_)
          · refine lv_iconst (v := 0) hx hb dX9_isBall_89 (by decide) ?_
            exact J37 0 (by rw [X9_isBall_x7, if_neg c35]) _ _ _ G (lv_sub hl [0, 1, 2, 3] rfl)
          · refine lv_iload_n hx hb dX9_isBall_74 rfl (lv_at hl 2 rfl) ?_
            refine lv_iconst (v := 4) hx hb dX9_isBall_75 (by decide) ?_
            have J41 : ∀ (y40 : Int32) (_ : y40 = (X9_isBall_x6 runs)) (H : Heap) (locs : List Loc) (ls : Array Slot), hG D (hA f sz) f s9 H locs → lv_has ls 4 [(3, .int (X9_isBall_x4 kind runs)), (0, .int kind), (1, .int runs), (2, .int bnd)] → W p9 l e9 ({ frames := 1, cells := 0, slots := 0, locals := 22 } : Room) s9 m9 ([.int kind, .int runs, .int bnd] : List Value).toArray b9 t9 c9 H locs 0 0 (vx_MQ b9 (hQi (fun r u => r = (X9_isBall_x10 kind runs bnd) ∧ u = f) D f sz) (hPx hNo D f sz) ([.int kind, .int runs, .int bnd] : List Value).toArray s9 0 0 (hA f sz)) (F0 m9 90 ls [.int y40]) := by
              intro y40 ey40 H locs ls G hl
              replace ey40 := Eq.symm ey40
              subst ey40
              exact J37 (X9_isBall_x6 runs) (by rw [X9_isBall_x7, if_pos c35]) _ _ _ G (lv_sub hl [0, 1, 2, 3] rfl)
            refine lv_icmp_eq (tgt := 85) hx hb dX9_isBall_76 (by decide) (fun c39 => ?_) (fun c39 => ?_)
            · refine lv_iconst (v := 1) hx hb dX9_isBall_85 (by decide) ?_
              refine lv_goto (tgt := 90) hx hb dX9_isBall_86 (by decide) ?_
              exact J41 1 (by rw [X9_isBall_x6, if_pos c39]) _ _ _ G (lv_sub hl [0, 1, 2, 3] rfl)
            · refine lv_iload_n hx hb dX9_isBall_79 rfl (lv_at hl 2 rfl) ?_
              refine lv_bipush (v := 6) hx hb dX9_isBall_80 (by decide) ?_
              have J45 : ∀ (y44 : Int32) (_ : y44 = (X9_isBall_x5 runs)) (H : Heap) (locs : List Loc) (ls : Array Slot), hG D (hA f sz) f s9 H locs → lv_has ls 4 [(3, .int (X9_isBall_x4 kind runs)), (0, .int kind), (1, .int runs), (2, .int bnd)] → W p9 l e9 ({ frames := 1, cells := 0, slots := 0, locals := 22 } : Room) s9 m9 ([.int kind, .int runs, .int bnd] : List Value).toArray b9 t9 c9 H locs 0 0 (vx_MQ b9 (hQi (fun r u => r = (X9_isBall_x10 kind runs bnd) ∧ u = f) D f sz) (hPx hNo D f sz) ([.int kind, .int runs, .int bnd] : List Value).toArray s9 0 0 (hA f sz)) (F0 m9 90 ls [.int y44]) := by
                intro y44 ey44 H locs ls G hl
                replace ey44 := Eq.symm ey44
                subst ey44
                exact J41 (X9_isBall_x5 runs) (by rw [X9_isBall_x6, if_neg c39]) _ _ _ G (lv_sub hl [0, 1, 2, 3] rfl)
              refine lv_icmp_ne (tgt := 89) hx hb dX9_isBall_82 (by decide) (fun c43 => ?_) (fun c43 => ?_)
              · refine lv_iconst (v := 0) hx hb dX9_isBall_89 (by decide) ?_
                exact J45 0 (by rw [X9_isBall_x5, if_neg c43]) _ _ _ G (lv_sub hl [0, 1, 2, 3] rfl)
              · refine lv_iconst (v := 1) hx hb dX9_isBall_85 (by decide) ?_
                refine lv_goto (tgt := 90) hx hb dX9_isBall_86 (by decide) ?_
                exact J45 1 (by rw [X9_isBall_x5, if_pos c43]) _ _ _ G (lv_sub hl [0, 1, 2, 3] rfl)
  refine lv_if_eq (tgt := 9) hx hb dX9_isBall_1 (by decide) (fun c11 => ?_) (fun c11 => ?_)
  · refine lv_iload_n hx hb dX9_isBall_9 rfl (lv_at hl 1 rfl) ?_
    refine lv_iconst (v := 0) hx hb dX9_isBall_10 (by decide) ?_
    refine lv_bipush (v := 6) hx hb dX9_isBall_11 (by decide) ?_
    refine g_cI C0 G (g_runS C0 G (rest := []) (k_X9_isIn hfl runs 0 6 ) hY_X9_isIn mm_X9_76 ms_X9_isIn ⟨(Nat.le_of_ble_eq_true rfl), (Nat.le_of_ble_eq_true rfl)⟩ rfl hl.1 rfl (Nat.le_of_ble_eq_true rfl) dX9_isBall_13 ⟨(Nat.le_of_ble_eq_true rfl), (Nat.le_of_ble_eq_true rfl)⟩) (kx_no rfl) (fun r49 u48 H locs hp47 G => ?_)
    obtain ⟨zr, eu48⟩ := hp47
    replace zr := Eq.symm zr
    subst zr
    rw [eu48] at G
    refine lv_goto (tgt := 56) hx hb dX9_isBall_16 (by decide) ?_
    exact J13 (X9_isIn_x1 runs 0 6) (by rw [X9_isBall_x4, if_pos c11]) _ _ _ G (lv_sub hl [0, 1, 2] rfl)
  · refine lv_iload_n hx hb dX9_isBall_4 rfl (lv_at hl 0 rfl) ?_
    refine lv_iconst (v := 2) hx hb dX9_isBall_5 (by decide) ?_
    have J52 : ∀ (y51 : Int32) (_ : y51 = (X9_isBall_x3 kind runs)) (H : Heap) (locs : List Loc) (ls : Array Slot), hG D (hA f sz) f s9 H locs → lv_has ls 4 [(0, .int kind), (1, .int runs), (2, .int bnd)] → W p9 l e9 ({ frames := 1, cells := 0, slots := 0, locals := 22 } : Room) s9 m9 ([.int kind, .int runs, .int bnd] : List Value).toArray b9 t9 c9 H locs 0 0 (vx_MQ b9 (hQi (fun r u => r = (X9_isBall_x10 kind runs bnd) ∧ u = f) D f sz) (hPx hNo D f sz) ([.int kind, .int runs, .int bnd] : List Value).toArray s9 0 0 (hA f sz)) (F0 m9 56 ls [.int y51]) := by
      intro y51 ey51 H locs ls G hl
      replace ey51 := Eq.symm ey51
      subst ey51
      exact J13 (X9_isBall_x3 kind runs) (by rw [X9_isBall_x4, if_neg c11]) _ _ _ G (lv_sub hl [0, 1, 2] rfl)
    refine lv_icmp_ne (tgt := 19) hx hb dX9_isBall_6 (by decide) (fun c50 => ?_) (fun c50 => ?_)
    · refine lv_iload_n hx hb dX9_isBall_19 rfl (lv_at hl 0 rfl) ?_
      refine lv_iconst (v := 1) hx hb dX9_isBall_20 (by decide) ?_
      have J56 : ∀ (y55 : Int32) (_ : y55 = (X9_isBall_x2 kind runs)) (H : Heap) (locs : List Loc) (ls : Array Slot), hG D (hA f sz) f s9 H locs → lv_has ls 4 [(0, .int kind), (1, .int runs), (2, .int bnd)] → W p9 l e9 ({ frames := 1, cells := 0, slots := 0, locals := 22 } : Room) s9 m9 ([.int kind, .int runs, .int bnd] : List Value).toArray b9 t9 c9 H locs 0 0 (vx_MQ b9 (hQi (fun r u => r = (X9_isBall_x10 kind runs bnd) ∧ u = f) D f sz) (hPx hNo D f sz) ([.int kind, .int runs, .int bnd] : List Value).toArray s9 0 0 (hA f sz)) (F0 m9 56 ls [.int y55]) := by
        intro y55 ey55 H locs ls G hl
        replace ey55 := Eq.symm ey55
        subst ey55
        exact J52 (X9_isBall_x2 kind runs) (by rw [X9_isBall_x3, if_neg c50]) _ _ _ G (lv_sub hl [0, 1, 2] rfl)
      refine lv_icmp_ne (tgt := 33) hx hb dX9_isBall_21 (by decide) (fun c54 => ?_) (fun c54 => ?_)
      · refine lv_iload_n hx hb dX9_isBall_33 rfl (lv_at hl 0 rfl) ?_
        refine lv_iconst (v := 3) hx hb dX9_isBall_34 (by decide) ?_
        refine lv_iconst (v := 4) hx hb dX9_isBall_35 (by decide) ?_
        refine g_cI C0 G (g_runS C0 G (rest := []) (k_X9_isIn hfl kind 3 4 ) hY_X9_isIn mm_X9_76 ms_X9_isIn ⟨(Nat.le_of_ble_eq_true rfl), (Nat.le_of_ble_eq_true rfl)⟩ rfl hl.1 rfl (Nat.le_of_ble_eq_true rfl) dX9_isBall_36 ⟨(Nat.le_of_ble_eq_true rfl), (Nat.le_of_ble_eq_true rfl)⟩) (kx_no rfl) (fun r60 u59 H locs hp58 G => ?_)
        obtain ⟨zr, eu59⟩ := hp58
        replace zr := Eq.symm zr
        subst zr
        rw [eu59] at G
        have J63 : ∀ (y62 : Int32) (_ : y62 = (X9_isBall_x1 kind runs)) (H : Heap) (locs : List Loc) (ls : Array Slot), hG D (hA f sz) f s9 H locs → lv_has ls 4 [(0, .int kind), (1, .int runs), (2, .int bnd)] → W p9 l e9 ({ frames := 1, cells := 0, slots := 0, locals := 22 } : Room) s9 m9 ([.int kind, .int runs, .int bnd] : List Value).toArray b9 t9 c9 H locs 0 0 (vx_MQ b9 (hQi (fun r u => r = (X9_isBall_x10 kind runs bnd) ∧ u = f) D f sz) (hPx hNo D f sz) ([.int kind, .int runs, .int bnd] : List Value).toArray s9 0 0 (hA f sz)) (F0 m9 56 ls [.int y62]) := by
          intro y62 ey62 H locs ls G hl
          replace ey62 := Eq.symm ey62
          subst ey62
          exact J56 (X9_isBall_x1 kind runs) (by rw [X9_isBall_x2, if_neg c54]) _ _ _ G (lv_sub hl [0, 1, 2] rfl)
        refine lv_if_eq (tgt := 55) hx hb dX9_isBall_39 (by decide) (fun c61 => ?_) (fun c61 => ?_)
        · refine lv_iconst (v := 0) hx hb dX9_isBall_55 (by decide) ?_
          exact J63 0 (by rw [X9_isBall_x1, if_pos c61]) _ _ _ G (lv_sub hl [0, 1, 2] rfl)
        · refine lv_iload_n hx hb dX9_isBall_42 rfl (lv_at hl 1 rfl) ?_
          refine lv_iconst (v := 1) hx hb dX9_isBall_43 (by decide) ?_
          refine lv_iconst (v := 4) hx hb dX9_isBall_44 (by decide) ?_
          refine g_cI C0 G (g_runS C0 G (rest := []) (k_X9_isIn hfl runs 1 4 ) hY_X9_isIn mm_X9_76 ms_X9_isIn ⟨(Nat.le_of_ble_eq_true rfl), (Nat.le_of_ble_eq_true rfl)⟩ rfl hl.1 rfl (Nat.le_of_ble_eq_true rfl) dX9_isBall_45 ⟨(Nat.le_of_ble_eq_true rfl), (Nat.le_of_ble_eq_true rfl)⟩) (kx_no rfl) (fun r67 u66 H locs hp65 G => ?_)
          obtain ⟨zr, eu66⟩ := hp65
          replace zr := Eq.symm zr
          subst zr
          rw [eu66] at G
          have J70 : ∀ (y69 : Int32) (_ : y69 = (X9_isBall_x0 runs)) (H : Heap) (locs : List Loc) (ls : Array Slot), hG D (hA f sz) f s9 H locs → lv_has ls 4 [(0, .int kind), (1, .int runs), (2, .int bnd)] → W p9 l e9 ({ frames := 1, cells := 0, slots := 0, locals := 22 } : Room) s9 m9 ([.int kind, .int runs, .int bnd] : List Value).toArray b9 t9 c9 H locs 0 0 (vx_MQ b9 (hQi (fun r u => r = (X9_isBall_x10 kind runs bnd) ∧ u = f) D f sz) (hPx hNo D f sz) ([.int kind, .int runs, .int bnd] : List Value).toArray s9 0 0 (hA f sz)) (F0 m9 56 ls [.int y69]) := by
            intro y69 ey69 H locs ls G hl
            replace ey69 := Eq.symm ey69
            subst ey69
            exact J63 (X9_isBall_x0 runs) (by rw [X9_isBall_x1, if_neg c61]) _ _ _ G (lv_sub hl [0, 1, 2] rfl)
          refine lv_if_eq (tgt := 55) hx hb dX9_isBall_48 (by decide) (fun c68 => ?_) (fun c68 => ?_)
          · refine lv_iconst (v := 0) hx hb dX9_isBall_55 (by decide) ?_
            exact J70 0 (by rw [X9_isBall_x0, if_pos c68]) _ _ _ G (lv_sub hl [0, 1, 2] rfl)
          · refine lv_iconst (v := 1) hx hb dX9_isBall_51 (by decide) ?_
            refine lv_goto (tgt := 56) hx hb dX9_isBall_52 (by decide) ?_
            exact J70 1 (by rw [X9_isBall_x0, if_neg c68]) _ _ _ G (lv_sub hl [0, 1, 2] rfl)
      · refine lv_iload_n hx hb dX9_isBall_24 rfl (lv_at hl 1 rfl) ?_
        refine lv_iconst (v := 0) hx hb dX9_isBall_25 (by decide) ?_
        refine lv_iconst (v := 4) hx hb dX9_isBall_26 (by decide) ?_
        refine g_cI C0 G (g_runS C0 G (rest := []) (k_X9_isIn hfl runs 0 4 ) hY_X9_isIn mm_X9_76 ms_X9_isIn ⟨(Nat.le_of_ble_eq_true rfl), (Nat.le_of_ble_eq_true rfl)⟩ rfl hl.1 rfl (Nat.le_of_ble_eq_true rfl) dX9_isBall_27 ⟨(Nat.le_of_ble_eq_true rfl), (Nat.le_of_ble_eq_true rfl)⟩) (kx_no rfl) (fun r74 u73 H locs hp72 G => ?_)
        obtain ⟨zr, eu73⟩ := hp72
        replace zr := Eq.symm zr
        subst zr
        rw [eu73] at G
        refine lv_goto (tgt := 56) hx hb dX9_isBall_30 (by decide) ?_
        exact J56 (X9_isIn_x1 runs 0 4) (by rw [X9_isBall_x2, if_pos c54]) _ _ _ G (lv_sub hl [0, 1, 2] rfl)
    · refine lv_iload_n hx hb dX9_isBall_9 rfl (lv_at hl 1 rfl) ?_
      refine lv_iconst (v := 0) hx hb dX9_isBall_10 (by decide) ?_
      refine lv_bipush (v := 6) hx hb dX9_isBall_11 (by decide) ?_
      refine g_cI C0 G (g_runS C0 G (rest := []) (k_X9_isIn hfl runs 0 6 ) hY_X9_isIn mm_X9_76 ms_X9_isIn ⟨(Nat.le_of_ble_eq_true rfl), (Nat.le_of_ble_eq_true rfl)⟩ rfl hl.1 rfl (Nat.le_of_ble_eq_true rfl) dX9_isBall_13 ⟨(Nat.le_of_ble_eq_true rfl), (Nat.le_of_ble_eq_true rfl)⟩) (kx_no rfl) (fun r77 u76 H locs hp75 G => ?_)
      obtain ⟨zr, eu76⟩ := hp75
      replace zr := Eq.symm zr
      subst zr
      rw [eu76] at G
      refine lv_goto (tgt := 56) hx hb dX9_isBall_16 (by decide) ?_
      exact J52 (X9_isIn_x1 runs 0 6) (by rw [X9_isBall_x3, if_pos c50]) _ _ _ G (lv_sub hl [0, 1, 2] rfl)
theorem b_k_X9_isBall (kind : Int32) (runs : Int32) (bnd : Int32) (hb_bnd : bnd = 0 ∨ bnd = 1) : (X9_isBall_x10 kind runs bnd) = 0 ∨ (X9_isBall_x10 kind runs bnd) = 1 := by
  repeat (first | exact Or.inl rfl | exact Or.inr rfl | assumption | exact (b_k_X9_isIn runs 0 6) | exact (b_k_X9_isIn kind 3 4) | exact (b_k_X9_isIn runs 1 4) | exact (b_k_X9_isIn runs 0 4) | split | unfold X9_isBall_x0 | unfold X9_isBall_x1 | unfold X9_isBall_x2 | unfold X9_isBall_x3 | unfold X9_isBall_x4 | unfold X9_isBall_x5 | unfold X9_isBall_x6 | unfold X9_isBall_x7 | unfold X9_isBall_x8 | unfold X9_isBall_x9 | unfold X9_isBall_x10)
def X9_last_r0 (g : Nat → Int32) : Int32 := (2 * (g 1)) - 1
set_option maxRecDepth 100000 in
theorem k_X9_last {l : Launch} (hfl : l.stackTraces = false) {D : va_G} {cy : Nat → ClassId} {f : Hf} {sz : Nat} {m : Nat} {v : Nat} {im : Nat} {kp : Nat} {pa : Nat} {de : Nat} {ide : Nat} {tx : Nat} {pt : Nat} {so : Nat} {mo : Nat} {wh : Nat} {pf : Nat} {c_th : Int32} {c_re : Int32} {c_un : Int32} {c_hi : Int32} {c_tn : Int32} {c_fa : Int32} {c_rf : Int32} {c_ps : Int32} {c_pl : Int32} {c_to : Int32} {g : Nat → Int32} (h_m : f m = some (.inr (11, [.int c_th, .int c_re, .ref v, .ref im, .ref kp, .ref pa, .ref de, .ref ide, .int c_un, .int c_hi, .ref tx, .int c_tn, .int c_fa, .int c_rf, .ref pt, .int c_ps, .int c_pl, .int c_to, .ref so, .ref mo, .ref wh, .ref pf]))) (h_v : f v = some (.inl (cy 0, 6441, .inl g)))  : hMet l yX9_last cX9_last 1 (some .int) { frames := 0, cells := 0, slots := 0, locals := 0 } D (hTy cy) f sz [.ref m] (hQi (fun r u => r = (X9_last_r0 g) ∧ u = f) D f sz) hNo := by
  refine h_enter (by decide) hfl (Nat.le_of_ble_eq_true rfl) ?_
  intro p9 e9 s9 m9 b9 t9 c9 hsz C0 hr hnm G ls hl
  have hx := C0.1.1
  have hb := C0.1.2.1
  have hl : lv_has ls 1 [(0, .ref m)] := hl
  refine lv_iconst (v := 2) hx hb dX9_last_0 (by decide) ?_
  refine lv_aload_n hx hb dX9_last_1 rfl (lv_at hl 0 rfl) ?_
  refine g_get C0 G h_m rfl hiX9 2 (by decide) mf_X9_9 rfl dX9_last_2 ?_
  refine lv_iconst (v := 1) hx hb dX9_last_5 (by decide) ?_
  refine g_iald C0 G h_v 0 rfl (by unfold vp_in; decide) dX9_last_6 ?_
  refine lv_topv (v := g 1) rfl ?_
  refine lv_imul hx hb dX9_last_7 ?_
  refine lv_iconst (v := 1) hx hb dX9_last_8 (by decide) ?_
  refine lv_isub hx hb dX9_last_9 ?_
  exact g_iret C0 G hr dX9_last_10 (Nat.le_of_ble_eq_true rfl) (Nat.le_of_ble_eq_true rfl) (by exact ⟨(by rw [X9_last_r0]), rfl⟩)
theorem last_n {g : Nat → Int32} {e : Nat} (h : g 1 = nI e) (he : 1 ≤ 2 * e) : X9_last_r0 g = nI (2 * e - 1) := by
  unfold X9_last_r0
  rw [h, show (2 : Int32) = nI 2 from rfl, show (1 : Int32) = nI 1 from rfl, pk_mul, nI_sb he]
def X9_team_r0 (g : Nat → Int32) (i : Int32) : Int32 := ((g 2) + i) - ((g 2) + i) / 2 * 2
set_option maxRecDepth 100000 in
theorem k_X9_team {l : Launch} (hfl : l.stackTraces = false) {D : va_G} {cy : Nat → ClassId} {f : Hf} {sz : Nat} {m : Nat} {v : Nat} {im : Nat} {kp : Nat} {pa : Nat} {de : Nat} {ide : Nat} {tx : Nat} {pt : Nat} {so : Nat} {mo : Nat} {wh : Nat} {pf : Nat} {c_th : Int32} {c_re : Int32} {c_un : Int32} {c_hi : Int32} {c_tn : Int32} {c_fa : Int32} {c_rf : Int32} {c_ps : Int32} {c_pl : Int32} {c_to : Int32} {g : Nat → Int32} (i : Int32) (h_m : f m = some (.inr (11, [.int c_th, .int c_re, .ref v, .ref im, .ref kp, .ref pa, .ref de, .ref ide, .int c_un, .int c_hi, .ref tx, .int c_tn, .int c_fa, .int c_rf, .ref pt, .int c_ps, .int c_pl, .int c_to, .ref so, .ref mo, .ref wh, .ref pf]))) (h_v : f v = some (.inl (cy 0, 6441, .inl g)))  : hMet l yX9_team cX9_team 2 (some .int) { frames := 0, cells := 0, slots := 0, locals := 0 } D (hTy cy) f sz [.ref m, .int i] (hQi (fun r u => r = (X9_team_r0 g i) ∧ u = f) D f sz) hNo := by
  refine h_enter (by decide) hfl (Nat.le_of_ble_eq_true rfl) ?_
  intro p9 e9 s9 m9 b9 t9 c9 hsz C0 hr hnm G ls hl
  have hx := C0.1.1
  have hb := C0.1.2.1
  have hl : lv_has ls 2 [(0, .ref m), (1, .int i)] := hl
  refine lv_aload_n hx hb dX9_team_0 rfl (lv_at hl 0 rfl) ?_
  refine g_get C0 G h_m rfl hiX9 2 (by decide) mf_X9_9 rfl dX9_team_1 ?_
  refine lv_iconst (v := 2) hx hb dX9_team_4 (by decide) ?_
  refine g_iald C0 G h_v 0 rfl (by unfold vp_in; decide) dX9_team_5 ?_
  refine lv_topv (v := g 2) rfl ?_
  refine lv_iload_n hx hb dX9_team_6 rfl (lv_at hl 1 rfl) ?_
  refine lv_iadd hx hb dX9_team_7 ?_
  refine lv_iconst (v := 2) hx hb dX9_team_8 (by decide) ?_
  refine lv_irem hx hb dX9_team_9 (by decide) ?_
  exact g_iret C0 G hr dX9_team_10 (Nat.le_of_ble_eq_true rfl) (Nat.le_of_ble_eq_true rfl) (by exact ⟨(by rw [X9_team_r0]), rfl⟩)
def X9_noMatch_x0 (g : Nat → Int32) : Int32 := if (g 5) = 1 then 1 else 0
def X9_noMatch_x1 (g : Nat → Int32) : Int32 := if (g 0) = 0 then 1 else (X9_noMatch_x0 g)
set_option maxRecDepth 100000 in
theorem k_X9_noMatch {l : Launch} (hfl : l.stackTraces = false) {D : va_G} {cy : Nat → ClassId} {f : Hf} {sz : Nat} {m : Nat} {v : Nat} {im : Nat} {kp : Nat} {pa : Nat} {de : Nat} {ide : Nat} {tx : Nat} {pt : Nat} {so : Nat} {mo : Nat} {wh : Nat} {pf : Nat} {c_th : Int32} {c_re : Int32} {c_un : Int32} {c_hi : Int32} {c_tn : Int32} {c_fa : Int32} {c_rf : Int32} {c_ps : Int32} {c_pl : Int32} {c_to : Int32} {g : Nat → Int32} (h_m : f m = some (.inr (11, [.int c_th, .int c_re, .ref v, .ref im, .ref kp, .ref pa, .ref de, .ref ide, .int c_un, .int c_hi, .ref tx, .int c_tn, .int c_fa, .int c_rf, .ref pt, .int c_ps, .int c_pl, .int c_to, .ref so, .ref mo, .ref wh, .ref pf]))) (h_v : f v = some (.inl (cy 0, 6441, .inl g)))  : hMet l yX9_noMatch cX9_noMatch 1 (some .int) { frames := 0, cells := 0, slots := 0, locals := 0 } D (hTy cy) f sz [.ref m] (hQi (fun r u => r = (X9_noMatch_x1 g) ∧ u = f) D f sz) hNo := by
  refine h_enter (by decide) hfl (Nat.le_of_ble_eq_true rfl) ?_
  intro p9 e9 s9 m9 b9 t9 c9 hsz C0 hr hnm G ls hl
  have hx := C0.1.1
  have hb := C0.1.2.1
  have hl : lv_has ls 1 [(0, .ref m)] := hl
  refine lv_aload_n hx hb dX9_noMatch_0 rfl (lv_at hl 0 rfl) ?_
  refine g_get C0 G h_m rfl hiX9 2 (by decide) mf_X9_9 rfl dX9_noMatch_1 ?_
  refine lv_iconst (v := 0) hx hb dX9_noMatch_4 (by decide) ?_
  refine g_iald C0 G h_v 0 rfl (by unfold vp_in; decide) dX9_noMatch_5 ?_
  refine lv_topv (v := g 0) rfl ?_
  have J13 : ∀ (y12 : Int32) (_ : y12 = (X9_noMatch_x1 g)) (H : Heap) (locs : List Loc) (ls : Array Slot), hG D (hA f sz) f s9 H locs → lv_has ls 1 [(0, .ref m)] → W p9 l e9 ({ frames := 0, cells := 0, slots := 0, locals := 0 } : Room) s9 m9 ([.ref m] : List Value).toArray b9 t9 c9 H locs 0 0 (vx_MQ b9 (hQi (fun r u => r = (X9_noMatch_x1 g) ∧ u = f) D f sz) (hPx hNo D f sz) ([.ref m] : List Value).toArray s9 0 0 (hA f sz)) (F0 m9 24 ls [.int y12]) := by
    intro y12 ey12 H locs ls G hl
    replace ey12 := Eq.symm ey12
    subst ey12
    exact g_iret C0 G hr dX9_noMatch_24 (Nat.le_of_ble_eq_true rfl) (Nat.le_of_ble_eq_true rfl) (by exact ⟨rfl, rfl⟩)
  refine lv_if_eq (tgt := 19) hx hb dX9_noMatch_6 (by decide) (fun c11 => ?_) (fun c11 => ?_)
  · refine lv_iconst (v := 1) hx hb dX9_noMatch_19 (by decide) ?_
    refine lv_goto (tgt := 24) hx hb dX9_noMatch_20 (by decide) ?_
    exact J13 1 (by rw [X9_noMatch_x1, if_pos c11]) _ _ _ G (lv_sub hl [0] rfl)
  · refine lv_aload_n hx hb dX9_noMatch_9 rfl (lv_at hl 0 rfl) ?_
    refine g_get C0 G h_m rfl hiX9 2 (by decide) mf_X9_9 rfl dX9_noMatch_10 ?_
    refine lv_iconst (v := 5) hx hb dX9_noMatch_13 (by decide) ?_
    refine g_iald C0 G h_v 0 rfl (by unfold vp_in; decide) dX9_noMatch_14 ?_
    refine lv_topv (v := g 5) rfl ?_
    refine lv_iconst (v := 1) hx hb dX9_noMatch_15 (by decide) ?_
    have J17 : ∀ (y16 : Int32) (_ : y16 = (X9_noMatch_x0 g)) (H : Heap) (locs : List Loc) (ls : Array Slot), hG D (hA f sz) f s9 H locs → lv_has ls 1 [(0, .ref m)] → W p9 l e9 ({ frames := 0, cells := 0, slots := 0, locals := 0 } : Room) s9 m9 ([.ref m] : List Value).toArray b9 t9 c9 H locs 0 0 (vx_MQ b9 (hQi (fun r u => r = (X9_noMatch_x1 g) ∧ u = f) D f sz) (hPx hNo D f sz) ([.ref m] : List Value).toArray s9 0 0 (hA f sz)) (F0 m9 24 ls [.int y16]) := by
      intro y16 ey16 H locs ls G hl
      replace ey16 := Eq.symm ey16
      subst ey16
      exact J13 (X9_noMatch_x0 g) (by rw [X9_noMatch_x1, if_neg c11]) _ _ _ G (lv_sub hl [0] rfl)
    refine lv_icmp_ne (tgt := 23) hx hb dX9_noMatch_16 (by decide) (fun c15 => ?_) (fun c15 => ?_)
    · refine lv_iconst (v := 0) hx hb dX9_noMatch_23 (by decide) ?_
      exact J17 0 (by rw [X9_noMatch_x0, if_neg c15]) _ _ _ G (lv_sub hl [0] rfl)
    · refine lv_iconst (v := 1) hx hb dX9_noMatch_19 (by decide) ?_
      refine lv_goto (tgt := 24) hx hb dX9_noMatch_20 (by decide) ?_
      exact J17 1 (by rw [X9_noMatch_x0, if_pos c15]) _ _ _ G (lv_sub hl [0] rfl)
theorem b_k_X9_noMatch (g : Nat → Int32) : (X9_noMatch_x1 g) = 0 ∨ (X9_noMatch_x1 g) = 1 := by
  repeat (first | exact Or.inl rfl | exact Or.inr rfl | assumption | split | unfold X9_noMatch_x0 | unfold X9_noMatch_x1)
def X9_changesEnds_g0 (g : Nat → Int32) : Nat → Int32 := upd g 6 (g 7)
def X9_changesEnds_g1 (g : Nat → Int32) : Nat → Int32 := upd (X9_changesEnds_g0 g) 7 (g 6)
set_option maxRecDepth 100000 in
theorem k_X9_changesEnds {l : Launch} (hfl : l.stackTraces = false) {D : va_G} {cy : Nat → ClassId} {f : Hf} {sz : Nat} {m : Nat} {v : Nat} {im : Nat} {kp : Nat} {pa : Nat} {de : Nat} {ide : Nat} {tx : Nat} {pt : Nat} {so : Nat} {mo : Nat} {wh : Nat} {pf : Nat} {c_th : Int32} {c_re : Int32} {c_un : Int32} {c_hi : Int32} {c_tn : Int32} {c_fa : Int32} {c_rf : Int32} {c_ps : Int32} {c_pl : Int32} {c_to : Int32} {g : Nat → Int32} (h_m : f m = some (.inr (11, [.int c_th, .int c_re, .ref v, .ref im, .ref kp, .ref pa, .ref de, .ref ide, .int c_un, .int c_hi, .ref tx, .int c_tn, .int c_fa, .int c_rf, .ref pt, .int c_ps, .int c_pl, .int c_to, .ref so, .ref mo, .ref wh, .ref pf]))) (h_v : f v = some (.inl (cy 0, 6441, .inl g)))  : hMet l yX9_changesEnds cX9_changesEnds 2 none { frames := 0, cells := 0, slots := 0, locals := 0 } D (hTy cy) f sz [.ref m] (hQv (fun u => u v = some (.inl (cy 0, 6441, .inl (X9_changesEnds_g1 g))) ∧ hFrL f u [v]) D f sz) hNo := by
  refine h_enter (by decide) hfl (Nat.le_of_ble_eq_true rfl) ?_
  intro p9 e9 s9 m9 b9 t9 c9 hsz C0 hr hnm G ls hl
  have hx := C0.1.1
  have hb := C0.1.2.1
  have hl : lv_has ls 2 [(0, .ref m)] := hl
  refine lv_aload_n hx hb dX9_changesEnds_0 rfl (lv_at hl 0 rfl) ?_
  refine g_get C0 G h_m rfl hiX9 2 (by decide) mf_X9_9 rfl dX9_changesEnds_1 ?_
  refine lv_bipush (v := 6) hx hb dX9_changesEnds_4 (by decide) ?_
  refine g_iald C0 G h_v 0 rfl (by unfold vp_in; decide) dX9_changesEnds_6 ?_
  refine lv_topv (v := g 6) rfl ?_
  refine lv_istore_n (lv' := [(1, .int (g 6)), (0, .ref m)]) hx hb dX9_changesEnds_7 rfl hl (by decide) rfl (fun ls hl => ?_)
  refine lv_aload_n hx hb dX9_changesEnds_8 rfl (lv_at hl 1 rfl) ?_
  refine g_get C0 G h_m rfl hiX9 2 (by decide) mf_X9_9 rfl dX9_changesEnds_9 ?_
  refine lv_bipush (v := 6) hx hb dX9_changesEnds_12 (by decide) ?_
  refine lv_aload_n hx hb dX9_changesEnds_14 rfl (lv_at hl 1 rfl) ?_
  refine g_get C0 G h_m rfl hiX9 2 (by decide) mf_X9_9 rfl dX9_changesEnds_15 ?_
  refine lv_bipush (v := 7) hx hb dX9_changesEnds_18 (by decide) ?_
  refine g_iald C0 G h_v 0 rfl (by unfold vp_in; decide) dX9_changesEnds_20 ?_
  refine lv_topv (v := g 7) rfl ?_
  refine g_iast C0 G h_v 0 rfl (by unfold vp_in; decide) dX9_changesEnds_21 (fun H locs f11 hf11 G => ?_)
  have k12 : f11 v = some (.inl (cy 0, 6441, .inl (X9_changesEnds_g0 g))) := hus hf11
  refine lv_aload_n hx hb dX9_changesEnds_22 rfl (lv_at hl 1 rfl) ?_
  have k13 : f11 m = some (.inr (11, [.int c_th, .int c_re, .ref v, .ref im, .ref kp, .ref pa, .ref de, .ref ide, .int c_un, .int c_hi, .ref tx, .int c_tn, .int c_fa, .int c_rf, .ref pt, .int c_ps, .int c_pl, .int c_to, .ref so, .ref mo, .ref wh, .ref pf])) := hup hf11 (hne h_m h_v (by intro q; cases q)) h_m
  refine g_get C0 G k13 rfl hiX9 2 (by decide) mf_X9_9 rfl dX9_changesEnds_23 ?_
  refine lv_bipush (v := 7) hx hb dX9_changesEnds_26 (by decide) ?_
  refine lv_iload_n hx hb dX9_changesEnds_28 rfl (lv_at hl 0 rfl) ?_
  refine g_iast C0 G k12 0 rfl (by unfold vp_in; decide) dX9_changesEnds_29 (fun H locs f14 hf14 G => ?_)
  have k15 : f14 v = some (.inl (cy 0, 6441, .inl (X9_changesEnds_g1 g))) := hus hf14
  exact g_vret C0 G hr dX9_changesEnds_30 (Nat.le_of_ble_eq_true rfl) (Nat.le_of_ble_eq_true rfl) (by exact ⟨k15, (fun a9 e9 h7 h8 => hup hf14 (fun q => h7 (by rw [q]; simp)) (hup hf11 (fun q => h7 (by rw [q]; simp)) (h8)))⟩)
theorem rd_X9_changesEnds_0 {g : Nat → Int32} : (X9_changesEnds_g1 g) 0 = g 0 := (by rw [X9_changesEnds_g1, upd_off (by omega)]; exact (by rw [X9_changesEnds_g0, upd_off (by omega)]))
theorem rd_X9_changesEnds_1 {g : Nat → Int32} : (X9_changesEnds_g1 g) 1 = g 1 := (by rw [X9_changesEnds_g1, upd_off (by omega)]; exact (by rw [X9_changesEnds_g0, upd_off (by omega)]))
theorem rd_X9_changesEnds_2 {g : Nat → Int32} : (X9_changesEnds_g1 g) 2 = g 2 := (by rw [X9_changesEnds_g1, upd_off (by omega)]; exact (by rw [X9_changesEnds_g0, upd_off (by omega)]))
theorem rd_X9_changesEnds_4 {g : Nat → Int32} : (X9_changesEnds_g1 g) 4 = g 4 := (by rw [X9_changesEnds_g1, upd_off (by omega)]; exact (by rw [X9_changesEnds_g0, upd_off (by omega)]))
theorem rd_X9_changesEnds_5 {g : Nat → Int32} : (X9_changesEnds_g1 g) 5 = g 5 := (by rw [X9_changesEnds_g1, upd_off (by omega)]; exact (by rw [X9_changesEnds_g0, upd_off (by omega)]))
theorem rd_X9_changesEnds_6 {g : Nat → Int32} : (X9_changesEnds_g1 g) 6 = g 7 := (by rw [X9_changesEnds_g1, upd_off (by omega)]; exact (by rw [X9_changesEnds_g0, upd_at]))
theorem rd_X9_changesEnds_7 {g : Nat → Int32} : (X9_changesEnds_g1 g) 7 = g 6 := (by rw [X9_changesEnds_g1, upd_at])
theorem rd_X9_changesEnds_8 {g : Nat → Int32} : (X9_changesEnds_g1 g) 8 = g 8 := (by rw [X9_changesEnds_g1, upd_off (by omega)]; exact (by rw [X9_changesEnds_g0, upd_off (by omega)]))
theorem rd_X9_changesEnds_9 {g : Nat → Int32} : (X9_changesEnds_g1 g) 9 = g 9 := (by rw [X9_changesEnds_g1, upd_off (by omega)]; exact (by rw [X9_changesEnds_g0, upd_off (by omega)]))
theorem rd_X9_changesEnds_13 {g : Nat → Int32} : (X9_changesEnds_g1 g) 13 = g 13 := (by rw [X9_changesEnds_g1, upd_off (by omega)]; exact (by rw [X9_changesEnds_g0, upd_off (by omega)]))
theorem rd_X9_changesEnds_14 {g : Nat → Int32} : (X9_changesEnds_g1 g) 14 = g 14 := (by rw [X9_changesEnds_g1, upd_off (by omega)]; exact (by rw [X9_changesEnds_g0, upd_off (by omega)]))
theorem rd_X9_changesEnds_22 {g : Nat → Int32} : (X9_changesEnds_g1 g) 22 = g 22 := (by rw [X9_changesEnds_g1, upd_off (by omega)]; exact (by rw [X9_changesEnds_g0, upd_off (by omega)]))
theorem rd_X9_changesEnds_23 {g : Nat → Int32} : (X9_changesEnds_g1 g) 23 = g 23 := (by rw [X9_changesEnds_g1, upd_off (by omega)]; exact (by rw [X9_changesEnds_g0, upd_off (by omega)]))
theorem rd_X9_changesEnds_24 {g : Nat → Int32} : (X9_changesEnds_g1 g) 24 = g 24 := (by rw [X9_changesEnds_g1, upd_off (by omega)]; exact (by rw [X9_changesEnds_g0, upd_off (by omega)]))
def X9_share_g0 (g : Nat → Int32) (s : Nat) : Nat → Int32 := upd g (841 + 8 * s + 0) 0
def X9_share_g1 (g : Nat → Int32) (s : Nat) : Nat → Int32 := upd (X9_share_g0 g s) (841 + 8 * s + 1) 0
def X9_share_g2 (g : Nat → Int32) (s : Nat) : Nat → Int32 := upd (X9_share_g1 g s) (841 + 8 * s + 2) 0
def X9_share_g3 (g : Nat → Int32) (s : Nat) : Nat → Int32 := upd (X9_share_g2 g s) (841 + 8 * s + 3) 0
def X9_share_g4 (g : Nat → Int32) (s : Nat) : Nat → Int32 := upd (X9_share_g3 g s) (841 + 8 * s + 4) 0
def X9_share_g5 (g : Nat → Int32) (s : Nat) : Nat → Int32 := upd (X9_share_g4 g s) (841 + 8 * s + 5) 0
def X9_share_g6 (g : Nat → Int32) (s : Nat) : Nat → Int32 := upd (X9_share_g5 g s) (841 + 8 * s + 6) 0
def X9_share_g7 (g : Nat → Int32) (s : Nat) : Nat → Int32 := upd (X9_share_g6 g s) (841 + 8 * s + 7) 0
def X9_share_x8 (g : Nat → Int32) : Int32 := if (g 7) ≤ (g 6) then (g 7) else (g 6)
def X9_share_g9 (g : Nat → Int32) (s : Nat) : Nat → Int32 := upd (X9_share_g7 g s) (841 + 8 * s + 2) (X9_share_x8 g)
def X9_share_x10 (g : Nat → Int32) : Int32 := if (g 7) ≤ (g 6) then (g 6) else (g 7)
def X9_share_g11 (g : Nat → Int32) (s : Nat) : Nat → Int32 := upd (X9_share_g9 g s) (841 + 8 * s + 3) (X9_share_x10 g)
def X9_share_g12 (g : Nat → Int32) (s : Nat) : Nat → Int32 := upd (X9_share_g11 g s) (841 + 8 * s + 7) 1
def X9_share_g13 (g : Nat → Int32) (s : Nat) : Nat → Int32 := upd (X9_share_g12 g s) 22 (nI (s + 1))
set_option maxRecDepth 100000 in
theorem k_X9_share {l : Launch} (hfl : l.stackTraces = false) {D : va_G} {cy : Nat → ClassId} {f : Hf} {sz : Nat} {m : Nat} {v : Nat} {im : Nat} {kp : Nat} {pa : Nat} {de : Nat} {ide : Nat} {tx : Nat} {pt : Nat} {so : Nat} {mo : Nat} {wh : Nat} {pf : Nat} {c_th : Int32} {c_re : Int32} {c_un : Int32} {c_hi : Int32} {c_tn : Int32} {c_fa : Int32} {c_rf : Int32} {c_ps : Int32} {c_pl : Int32} {c_to : Int32} {g : Nat → Int32} {s : Nat} (h_m : f m = some (.inr (11, [.int c_th, .int c_re, .ref v, .ref im, .ref kp, .ref pa, .ref de, .ref ide, .int c_un, .int c_hi, .ref tx, .int c_tn, .int c_fa, .int c_rf, .ref pt, .int c_ps, .int c_pl, .int c_to, .ref so, .ref mo, .ref wh, .ref pf]))) (h_v : f v = some (.inl (cy 0, 6441, .inl g))) (h22 : g 22 = nI s) (hs : s < 700) : hMet l yX9_share cX9_share 5 none { frames := 0, cells := 0, slots := 0, locals := 0 } D (hTy cy) f sz [.ref m] (hQv (fun u => u v = some (.inl (cy 0, 6441, .inl (X9_share_g13 g s))) ∧ hFrL f u [v]) D f sz) hNo := by
  refine h_enter (by decide) hfl (Nat.le_of_ble_eq_true rfl) ?_
  intro p9 e9 s9 m9 b9 t9 c9 hsz C0 hr hnm G ls hl
  have hx := C0.1.1
  have hb := C0.1.2.1
  have hl : lv_has ls 5 [(0, .ref m)] := hl
  refine lv_aload_n hx hb dX9_share_0 rfl (lv_at hl 0 rfl) ?_
  refine g_get C0 G h_m rfl hiX9 2 (by decide) mf_X9_9 rfl dX9_share_1 ?_
  refine lv_bipush (v := 6) hx hb dX9_share_4 (by decide) ?_
  refine g_iald C0 G h_v 0 rfl (by unfold vp_in; decide) dX9_share_6 ?_
  refine lv_topv (v := g 6) rfl ?_
  refine lv_istore_n (lv' := [(1, .int (g 6)), (0, .ref m)]) hx hb dX9_share_7 rfl hl (by decide) rfl (fun ls hl => ?_)
  refine lv_aload_n hx hb dX9_share_8 rfl (lv_at hl 1 rfl) ?_
  refine g_get C0 G h_m rfl hiX9 2 (by decide) mf_X9_9 rfl dX9_share_9 ?_
  refine lv_bipush (v := 7) hx hb dX9_share_12 (by decide) ?_
  refine g_iald C0 G h_v 0 rfl (by unfold vp_in; decide) dX9_share_14 ?_
  refine lv_topv (v := g 7) rfl ?_
  refine lv_istore_n (lv' := [(2, .int (g 7)), (1, .int (g 6)), (0, .ref m)]) hx hb dX9_share_15 rfl hl (by decide) rfl (fun ls hl => ?_)
  refine lv_sipush (v := 841) hx hb dX9_share_16 (by decide) ?_
  refine lv_bipush (v := 8) hx hb dX9_share_19 (by decide) ?_
  refine lv_aload_n hx hb dX9_share_21 rfl (lv_at hl 2 rfl) ?_
  refine g_get C0 G h_m rfl hiX9 2 (by decide) mf_X9_9 rfl dX9_share_22 ?_
  refine lv_bipush (v := 22) hx hb dX9_share_25 (by decide) ?_
  refine g_iald C0 G h_v 0 rfl (by unfold vp_in; decide) dX9_share_27 ?_
  refine lv_topv (v := g 22) rfl ?_
  refine lv_topv (v := nI s) (h22) ?_
  refine lv_imul hx hb dX9_share_28 ?_
  refine lv_topv (v := nI (8 * s)) ((pk_mul _ _)) ?_
  refine lv_iadd hx hb dX9_share_29 ?_
  refine lv_topv (v := nI (841 + 8 * s)) ((nI_add _ _)) ?_
  refine lv_istore_n (lv' := [(3, .int (nI (841 + 8 * s))), (2, .int (g 7)), (1, .int (g 6)), (0, .ref m)]) hx hb dX9_share_30 rfl hl (by decide) rfl (fun ls hl => ?_)
  refine lv_iconst (v := 0) hx hb dX9_share_31 (by decide) ?_
  refine lv_istore (lv' := [(4, .int 0), (3, .int (nI (841 + 8 * s))), (2, .int (g 7)), (1, .int (g 6)), (0, .ref m)]) hx hb dX9_share_32 hl (by decide) rfl (fun ls hl => ?_)
  refine lv_iload hx hb dX9_share_34 (lv_at hl 0 rfl) ?_
  refine lv_bipush (v := 8) hx hb dX9_share_36 (by decide) ?_
  refine lv_icmp_ge (tgt := 57) hx hb dX9_share_38 (by decide) (fun c11 => absurd c11 (by decide)) (fun _ => ?_)
  refine lv_aload_n hx hb dX9_share_41 rfl (lv_at hl 4 rfl) ?_
  refine g_get C0 G h_m rfl hiX9 2 (by decide) mf_X9_9 rfl dX9_share_42 ?_
  refine lv_iload_n hx hb dX9_share_45 rfl (lv_at hl 1 rfl) ?_
  refine lv_iload hx hb dX9_share_46 (lv_at hl 0 rfl) ?_
  refine lv_iadd hx hb dX9_share_48 ?_
  refine lv_topv (v := nI (841 + 8 * s + 0)) ((nI_add _ _)) ?_
  refine lv_iconst (v := 0) hx hb dX9_share_49 (by decide) ?_
  refine g_iast C0 G h_v 0 rfl (vp_in_nI (by omega) (by omega)) dX9_share_50 (fun H locs f12 hf12 G => ?_)
  have k13 : f12 v = some (.inl (cy 0, 6441, .inl (X9_share_g0 g s))) := (by have h9 := hus hf12; rw [nI_c (by omega)] at h9; exact h9)
  refine lv_iinc (v := 1) (lv' := [(4, .int 1), (3, .int (nI (841 + 8 * s))), (2, .int (g 7)), (1, .int (g 6)), (0, .ref m)]) hx hb dX9_share_51 hl (k := 0) rfl (by exact (by decide)) (by decide) rfl (fun ls hl => ?_)
  refine lv_goto (tgt := 34) hx hb dX9_share_54 (by decide) ?_
  refine lv_iload hx hb dX9_share_34 (lv_at hl 0 rfl) ?_
  refine lv_bipush (v := 8) hx hb dX9_share_36 (by decide) ?_
  refine lv_icmp_ge (tgt := 57) hx hb dX9_share_38 (by decide) (fun c15 => absurd c15 (by decide)) (fun _ => ?_)
  refine lv_aload_n hx hb dX9_share_41 rfl (lv_at hl 4 rfl) ?_
  have k16 : f12 m = some (.inr (11, [.int c_th, .int c_re, .ref v, .ref im, .ref kp, .ref pa, .ref de, .ref ide, .int c_un, .int c_hi, .ref tx, .int c_tn, .int c_fa, .int c_rf, .ref pt, .int c_ps, .int c_pl, .int c_to, .ref so, .ref mo, .ref wh, .ref pf])) := hup hf12 (hne h_m h_v (by intro q; cases q)) h_m
  refine g_get C0 G k16 rfl hiX9 2 (by decide) mf_X9_9 rfl dX9_share_42 ?_
  refine lv_iload_n hx hb dX9_share_45 rfl (lv_at hl 1 rfl) ?_
  refine lv_iload hx hb dX9_share_46 (lv_at hl 0 rfl) ?_
  refine lv_iadd hx hb dX9_share_48 ?_
  refine lv_topv (v := nI (841 + 8 * s + 1)) ((nI_add _ _)) ?_
  refine lv_iconst (v := 0) hx hb dX9_share_49 (by decide) ?_
  refine g_iast C0 G k13 0 rfl (vp_in_nI (by omega) (by omega)) dX9_share_50 (fun H locs f17 hf17 G => ?_)
  have k18 : f17 v = some (.inl (cy 0, 6441, .inl (X9_share_g1 g s))) := (by have h9 := hus hf17; rw [nI_c (by omega)] at h9; exact h9)
  refine lv_iinc (v := 2) (lv' := [(4, .int 2), (3, .int (nI (841 + 8 * s))), (2, .int (g 7)), (1, .int (g 6)), (0, .ref m)]) hx hb dX9_share_51 hl (k := 0) rfl (by exact (by decide)) (by decide) rfl (fun ls hl => ?_)
  refine lv_goto (tgt := 34) hx hb dX9_share_54 (by decide) ?_
  refine lv_iload hx hb dX9_share_34 (lv_at hl 0 rfl) ?_
  refine lv_bipush (v := 8) hx hb dX9_share_36 (by decide) ?_
  refine lv_icmp_ge (tgt := 57) hx hb dX9_share_38 (by decide) (fun c20 => absurd c20 (by decide)) (fun _ => ?_)
  refine lv_aload_n hx hb dX9_share_41 rfl (lv_at hl 4 rfl) ?_
  have k21 : f17 m = some (.inr (11, [.int c_th, .int c_re, .ref v, .ref im, .ref kp, .ref pa, .ref de, .ref ide, .int c_un, .int c_hi, .ref tx, .int c_tn, .int c_fa, .int c_rf, .ref pt, .int c_ps, .int c_pl, .int c_to, .ref so, .ref mo, .ref wh, .ref pf])) := hup hf17 (hne k16 k13 (by intro q; cases q)) k16
  refine g_get C0 G k21 rfl hiX9 2 (by decide) mf_X9_9 rfl dX9_share_42 ?_
  refine lv_iload_n hx hb dX9_share_45 rfl (lv_at hl 1 rfl) ?_
  refine lv_iload hx hb dX9_share_46 (lv_at hl 0 rfl) ?_
  refine lv_iadd hx hb dX9_share_48 ?_
  refine lv_topv (v := nI (841 + 8 * s + 2)) ((nI_add _ _)) ?_
  refine lv_iconst (v := 0) hx hb dX9_share_49 (by decide) ?_
  refine g_iast C0 G k18 0 rfl (vp_in_nI (by omega) (by omega)) dX9_share_50 (fun H locs f22 hf22 G => ?_)
  have k23 : f22 v = some (.inl (cy 0, 6441, .inl (X9_share_g2 g s))) := (by have h9 := hus hf22; rw [nI_c (by omega)] at h9; exact h9)
  refine lv_iinc (v := 3) (lv' := [(4, .int 3), (3, .int (nI (841 + 8 * s))), (2, .int (g 7)), (1, .int (g 6)), (0, .ref m)]) hx hb dX9_share_51 hl (k := 0) rfl (by exact (by decide)) (by decide) rfl (fun ls hl => ?_)
  refine lv_goto (tgt := 34) hx hb dX9_share_54 (by decide) ?_
  refine lv_iload hx hb dX9_share_34 (lv_at hl 0 rfl) ?_
  refine lv_bipush (v := 8) hx hb dX9_share_36 (by decide) ?_
  refine lv_icmp_ge (tgt := 57) hx hb dX9_share_38 (by decide) (fun c25 => absurd c25 (by decide)) (fun _ => ?_)
  refine lv_aload_n hx hb dX9_share_41 rfl (lv_at hl 4 rfl) ?_
  have k26 : f22 m = some (.inr (11, [.int c_th, .int c_re, .ref v, .ref im, .ref kp, .ref pa, .ref de, .ref ide, .int c_un, .int c_hi, .ref tx, .int c_tn, .int c_fa, .int c_rf, .ref pt, .int c_ps, .int c_pl, .int c_to, .ref so, .ref mo, .ref wh, .ref pf])) := hup hf22 (hne k21 k18 (by intro q; cases q)) k21
  refine g_get C0 G k26 rfl hiX9 2 (by decide) mf_X9_9 rfl dX9_share_42 ?_
  refine lv_iload_n hx hb dX9_share_45 rfl (lv_at hl 1 rfl) ?_
  refine lv_iload hx hb dX9_share_46 (lv_at hl 0 rfl) ?_
  refine lv_iadd hx hb dX9_share_48 ?_
  refine lv_topv (v := nI (841 + 8 * s + 3)) ((nI_add _ _)) ?_
  refine lv_iconst (v := 0) hx hb dX9_share_49 (by decide) ?_
  refine g_iast C0 G k23 0 rfl (vp_in_nI (by omega) (by omega)) dX9_share_50 (fun H locs f27 hf27 G => ?_)
  have k28 : f27 v = some (.inl (cy 0, 6441, .inl (X9_share_g3 g s))) := (by have h9 := hus hf27; rw [nI_c (by omega)] at h9; exact h9)
  refine lv_iinc (v := 4) (lv' := [(4, .int 4), (3, .int (nI (841 + 8 * s))), (2, .int (g 7)), (1, .int (g 6)), (0, .ref m)]) hx hb dX9_share_51 hl (k := 0) rfl (by exact (by decide)) (by decide) rfl (fun ls hl => ?_)
  refine lv_goto (tgt := 34) hx hb dX9_share_54 (by decide) ?_
  refine lv_iload hx hb dX9_share_34 (lv_at hl 0 rfl) ?_
  refine lv_bipush (v := 8) hx hb dX9_share_36 (by decide) ?_
  refine lv_icmp_ge (tgt := 57) hx hb dX9_share_38 (by decide) (fun c30 => absurd c30 (by decide)) (fun _ => ?_)
  refine lv_aload_n hx hb dX9_share_41 rfl (lv_at hl 4 rfl) ?_
  have k31 : f27 m = some (.inr (11, [.int c_th, .int c_re, .ref v, .ref im, .ref kp, .ref pa, .ref de, .ref ide, .int c_un, .int c_hi, .ref tx, .int c_tn, .int c_fa, .int c_rf, .ref pt, .int c_ps, .int c_pl, .int c_to, .ref so, .ref mo, .ref wh, .ref pf])) := hup hf27 (hne k26 k23 (by intro q; cases q)) k26
  refine g_get C0 G k31 rfl hiX9 2 (by decide) mf_X9_9 rfl dX9_share_42 ?_
  refine lv_iload_n hx hb dX9_share_45 rfl (lv_at hl 1 rfl) ?_
  refine lv_iload hx hb dX9_share_46 (lv_at hl 0 rfl) ?_
  refine lv_iadd hx hb dX9_share_48 ?_
  refine lv_topv (v := nI (841 + 8 * s + 4)) ((nI_add _ _)) ?_
  refine lv_iconst (v := 0) hx hb dX9_share_49 (by decide) ?_
  refine g_iast C0 G k28 0 rfl (vp_in_nI (by omega) (by omega)) dX9_share_50 (fun H locs f32 hf32 G => ?_)
  have k33 : f32 v = some (.inl (cy 0, 6441, .inl (X9_share_g4 g s))) := (by have h9 := hus hf32; rw [nI_c (by omega)] at h9; exact h9)
  refine lv_iinc (v := 5) (lv' := [(4, .int 5), (3, .int (nI (841 + 8 * s))), (2, .int (g 7)), (1, .int (g 6)), (0, .ref m)]) hx hb dX9_share_51 hl (k := 0) rfl (by exact (by decide)) (by decide) rfl (fun ls hl => ?_)
  refine lv_goto (tgt := 34) hx hb dX9_share_54 (by decide) ?_
  refine lv_iload hx hb dX9_share_34 (lv_at hl 0 rfl) ?_
  refine lv_bipush (v := 8) hx hb dX9_share_36 (by decide) ?_
  refine lv_icmp_ge (tgt := 57) hx hb dX9_share_38 (by decide) (fun c35 => absurd c35 (by decide)) (fun _ => ?_)
  refine lv_aload_n hx hb dX9_share_41 rfl (lv_at hl 4 rfl) ?_
  have k36 : f32 m = some (.inr (11, [.int c_th, .int c_re, .ref v, .ref im, .ref kp, .ref pa, .ref de, .ref ide, .int c_un, .int c_hi, .ref tx, .int c_tn, .int c_fa, .int c_rf, .ref pt, .int c_ps, .int c_pl, .int c_to, .ref so, .ref mo, .ref wh, .ref pf])) := hup hf32 (hne k31 k28 (by intro q; cases q)) k31
  refine g_get C0 G k36 rfl hiX9 2 (by decide) mf_X9_9 rfl dX9_share_42 ?_
  refine lv_iload_n hx hb dX9_share_45 rfl (lv_at hl 1 rfl) ?_
  refine lv_iload hx hb dX9_share_46 (lv_at hl 0 rfl) ?_
  refine lv_iadd hx hb dX9_share_48 ?_
  refine lv_topv (v := nI (841 + 8 * s + 5)) ((nI_add _ _)) ?_
  refine lv_iconst (v := 0) hx hb dX9_share_49 (by decide) ?_
  refine g_iast C0 G k33 0 rfl (vp_in_nI (by omega) (by omega)) dX9_share_50 (fun H locs f37 hf37 G => ?_)
  have k38 : f37 v = some (.inl (cy 0, 6441, .inl (X9_share_g5 g s))) := (by have h9 := hus hf37; rw [nI_c (by omega)] at h9; exact h9)
  refine lv_iinc (v := 6) (lv' := [(4, .int 6), (3, .int (nI (841 + 8 * s))), (2, .int (g 7)), (1, .int (g 6)), (0, .ref m)]) hx hb dX9_share_51 hl (k := 0) rfl (by exact (by decide)) (by decide) rfl (fun ls hl => ?_)
  refine lv_goto (tgt := 34) hx hb dX9_share_54 (by decide) ?_
  refine lv_iload hx hb dX9_share_34 (lv_at hl 0 rfl) ?_
  refine lv_bipush (v := 8) hx hb dX9_share_36 (by decide) ?_
  refine lv_icmp_ge (tgt := 57) hx hb dX9_share_38 (by decide) (fun c40 => absurd c40 (by decide)) (fun _ => ?_)
  refine lv_aload_n hx hb dX9_share_41 rfl (lv_at hl 4 rfl) ?_
  have k41 : f37 m = some (.inr (11, [.int c_th, .int c_re, .ref v, .ref im, .ref kp, .ref pa, .ref de, .ref ide, .int c_un, .int c_hi, .ref tx, .int c_tn, .int c_fa, .int c_rf, .ref pt, .int c_ps, .int c_pl, .int c_to, .ref so, .ref mo, .ref wh, .ref pf])) := hup hf37 (hne k36 k33 (by intro q; cases q)) k36
  refine g_get C0 G k41 rfl hiX9 2 (by decide) mf_X9_9 rfl dX9_share_42 ?_
  refine lv_iload_n hx hb dX9_share_45 rfl (lv_at hl 1 rfl) ?_
  refine lv_iload hx hb dX9_share_46 (lv_at hl 0 rfl) ?_
  refine lv_iadd hx hb dX9_share_48 ?_
  refine lv_topv (v := nI (841 + 8 * s + 6)) ((nI_add _ _)) ?_
  refine lv_iconst (v := 0) hx hb dX9_share_49 (by decide) ?_
  refine g_iast C0 G k38 0 rfl (vp_in_nI (by omega) (by omega)) dX9_share_50 (fun H locs f42 hf42 G => ?_)
  have k43 : f42 v = some (.inl (cy 0, 6441, .inl (X9_share_g6 g s))) := (by have h9 := hus hf42; rw [nI_c (by omega)] at h9; exact h9)
  refine lv_iinc (v := 7) (lv' := [(4, .int 7), (3, .int (nI (841 + 8 * s))), (2, .int (g 7)), (1, .int (g 6)), (0, .ref m)]) hx hb dX9_share_51 hl (k := 0) rfl (by exact (by decide)) (by decide) rfl (fun ls hl => ?_)
  refine lv_goto (tgt := 34) hx hb dX9_share_54 (by decide) ?_
  refine lv_iload hx hb dX9_share_34 (lv_at hl 0 rfl) ?_
  refine lv_bipush (v := 8) hx hb dX9_share_36 (by decide) ?_
  refine lv_icmp_ge (tgt := 57) hx hb dX9_share_38 (by decide) (fun c45 => absurd c45 (by decide)) (fun _ => ?_)
  refine lv_aload_n hx hb dX9_share_41 rfl (lv_at hl 4 rfl) ?_
  have k46 : f42 m = some (.inr (11, [.int c_th, .int c_re, .ref v, .ref im, .ref kp, .ref pa, .ref de, .ref ide, .int c_un, .int c_hi, .ref tx, .int c_tn, .int c_fa, .int c_rf, .ref pt, .int c_ps, .int c_pl, .int c_to, .ref so, .ref mo, .ref wh, .ref pf])) := hup hf42 (hne k41 k38 (by intro q; cases q)) k41
  refine g_get C0 G k46 rfl hiX9 2 (by decide) mf_X9_9 rfl dX9_share_42 ?_
  refine lv_iload_n hx hb dX9_share_45 rfl (lv_at hl 1 rfl) ?_
  refine lv_iload hx hb dX9_share_46 (lv_at hl 0 rfl) ?_
  refine lv_iadd hx hb dX9_share_48 ?_
  refine lv_topv (v := nI (841 + 8 * s + 7)) ((nI_add _ _)) ?_
  refine lv_iconst (v := 0) hx hb dX9_share_49 (by decide) ?_
  refine g_iast C0 G k43 0 rfl (vp_in_nI (by omega) (by omega)) dX9_share_50 (fun H locs f47 hf47 G => ?_)
  have k48 : f47 v = some (.inl (cy 0, 6441, .inl (X9_share_g7 g s))) := (by have h9 := hus hf47; rw [nI_c (by omega)] at h9; exact h9)
  refine lv_iinc (v := 8) (lv' := [(4, .int 8), (3, .int (nI (841 + 8 * s))), (2, .int (g 7)), (1, .int (g 6)), (0, .ref m)]) hx hb dX9_share_51 hl (k := 0) rfl (by exact (by decide)) (by decide) rfl (fun ls hl => ?_)
  refine lv_goto (tgt := 34) hx hb dX9_share_54 (by decide) ?_
  refine lv_iload hx hb dX9_share_34 (lv_at hl 0 rfl) ?_
  refine lv_bipush (v := 8) hx hb dX9_share_36 (by decide) ?_
  refine lv_icmp_ge (tgt := 57) hx hb dX9_share_38 (by decide) (fun _ => ?_) (fun c50 => absurd (by decide) c50)
  refine lv_aload_n hx hb dX9_share_57 rfl (lv_at hl 4 rfl) ?_
  have k51 : f47 m = some (.inr (11, [.int c_th, .int c_re, .ref v, .ref im, .ref kp, .ref pa, .ref de, .ref ide, .int c_un, .int c_hi, .ref tx, .int c_tn, .int c_fa, .int c_rf, .ref pt, .int c_ps, .int c_pl, .int c_to, .ref so, .ref mo, .ref wh, .ref pf])) := hup hf47 (hne k46 k43 (by intro q; cases q)) k46
  refine g_get C0 G k51 rfl hiX9 2 (by decide) mf_X9_9 rfl dX9_share_58 ?_
  refine lv_iload_n hx hb dX9_share_61 rfl (lv_at hl 1 rfl) ?_
  refine lv_iconst (v := 2) hx hb dX9_share_62 (by decide) ?_
  refine lv_iadd hx hb dX9_share_63 ?_
  refine lv_topv (v := nI (841 + 8 * s + 2)) ((nI_add _ _)) ?_
  refine lv_iload_n hx hb dX9_share_64 rfl (lv_at hl 3 rfl) ?_
  refine lv_iload_n hx hb dX9_share_65 rfl (lv_at hl 2 rfl) ?_
  have J54 : ∀ (y53 : Int32) (_ : y53 = (X9_share_x8 g)) (H : Heap) (locs : List Loc) (ls : Array Slot), hG D (hA f sz) f47 s9 H locs → lv_has ls 5 [(4, .int 8), (3, .int (nI (841 + 8 * s))), (2, .int (g 7)), (1, .int (g 6)), (0, .ref m)] → W p9 l e9 ({ frames := 0, cells := 0, slots := 0, locals := 0 } : Room) s9 m9 ([.ref m] : List Value).toArray b9 t9 c9 H locs 0 0 (vx_MQ b9 (hQv (fun u => u v = some (.inl (cy 0, 6441, .inl (X9_share_g13 g s))) ∧ hFrL f u [v]) D f sz) (hPx hNo D f sz) ([.ref m] : List Value).toArray s9 0 0 (hA f sz)) (F0 m9 74 ls [.int y53, .int (nI (841 + 8 * s + 2)), .ref v]) := by
    intro y53 ey53 H locs ls G hl
    replace ey53 := Eq.symm ey53
    subst ey53
    refine g_iast C0 G k48 0 rfl (vp_in_nI (by omega) (by omega)) dX9_share_74 (fun H locs f56 hf56 G => ?_)
    have k57 : f56 v = some (.inl (cy 0, 6441, .inl (X9_share_g9 g s))) := (by have h9 := hus hf56; rw [nI_c (by omega)] at h9; exact h9)
    refine lv_aload_n hx hb dX9_share_75 rfl (lv_at hl 4 rfl) ?_
    have k58 : f56 m = some (.inr (11, [.int c_th, .int c_re, .ref v, .ref im, .ref kp, .ref pa, .ref de, .ref ide, .int c_un, .int c_hi, .ref tx, .int c_tn, .int c_fa, .int c_rf, .ref pt, .int c_ps, .int c_pl, .int c_to, .ref so, .ref mo, .ref wh, .ref pf])) := hup hf56 (hne k51 k48 (by intro q; cases q)) k51
    refine g_get C0 G k58 rfl hiX9 2 (by decide) mf_X9_9 rfl dX9_share_76 ?_
    refine lv_iload_n hx hb dX9_share_79 rfl (lv_at hl 1 rfl) ?_
    refine lv_iconst (v := 3) hx hb dX9_share_80 (by decide) ?_
    refine lv_iadd hx hb dX9_share_81 ?_
    refine lv_topv (v := nI (841 + 8 * s + 3)) ((nI_add _ _)) ?_
    refine lv_iload_n hx hb dX9_share_82 rfl (lv_at hl 3 rfl) ?_
    refine lv_iload_n hx hb dX9_share_83 rfl (lv_at hl 2 rfl) ?_
    have J61 : ∀ (y60 : Int32) (_ : y60 = (X9_share_x10 g)) (H : Heap) (locs : List Loc) (ls : Array Slot), hG D (hA f sz) f56 s9 H locs → lv_has ls 5 [(4, .int 8), (3, .int (nI (841 + 8 * s))), (2, .int (g 7)), (1, .int (g 6)), (0, .ref m)] → W p9 l e9 ({ frames := 0, cells := 0, slots := 0, locals := 0 } : Room) s9 m9 ([.ref m] : List Value).toArray b9 t9 c9 H locs 0 0 (vx_MQ b9 (hQv (fun u => u v = some (.inl (cy 0, 6441, .inl (X9_share_g13 g s))) ∧ hFrL f u [v]) D f sz) (hPx hNo D f sz) ([.ref m] : List Value).toArray s9 0 0 (hA f sz)) (F0 m9 92 ls [.int y60, .int (nI (841 + 8 * s + 3)), .ref v]) := by
      intro y60 ey60 H locs ls G hl
      replace ey60 := Eq.symm ey60
      subst ey60
      refine g_iast C0 G k57 0 rfl (vp_in_nI (by omega) (by omega)) dX9_share_92 (fun H locs f63 hf63 G => ?_)
      have k64 : f63 v = some (.inl (cy 0, 6441, .inl (X9_share_g11 g s))) := (by have h9 := hus hf63; rw [nI_c (by omega)] at h9; exact h9)
      refine lv_aload_n hx hb dX9_share_93 rfl (lv_at hl 4 rfl) ?_
      have k65 : f63 m = some (.inr (11, [.int c_th, .int c_re, .ref v, .ref im, .ref kp, .ref pa, .ref de, .ref ide, .int c_un, .int c_hi, .ref tx, .int c_tn, .int c_fa, .int c_rf, .ref pt, .int c_ps, .int c_pl, .int c_to, .ref so, .ref mo, .ref wh, .ref pf])) := hup hf63 (hne k58 k57 (by intro q; cases q)) k58
      refine g_get C0 G k65 rfl hiX9 2 (by decide) mf_X9_9 rfl dX9_share_94 ?_
      refine lv_iload_n hx hb dX9_share_97 rfl (lv_at hl 1 rfl) ?_
      refine lv_bipush (v := 7) hx hb dX9_share_98 (by decide) ?_
      refine lv_iadd hx hb dX9_share_100 ?_
      refine lv_topv (v := nI (841 + 8 * s + 7)) ((nI_add _ _)) ?_
      refine lv_iconst (v := 1) hx hb dX9_share_101 (by decide) ?_
      refine g_iast C0 G k64 0 rfl (vp_in_nI (by omega) (by omega)) dX9_share_102 (fun H locs f66 hf66 G => ?_)
      have k67 : f66 v = some (.inl (cy 0, 6441, .inl (X9_share_g12 g s))) := (by have h9 := hus hf66; rw [nI_c (by omega)] at h9; exact h9)
      refine lv_aload_n hx hb dX9_share_103 rfl (lv_at hl 4 rfl) ?_
      have k68 : f66 m = some (.inr (11, [.int c_th, .int c_re, .ref v, .ref im, .ref kp, .ref pa, .ref de, .ref ide, .int c_un, .int c_hi, .ref tx, .int c_tn, .int c_fa, .int c_rf, .ref pt, .int c_ps, .int c_pl, .int c_to, .ref so, .ref mo, .ref wh, .ref pf])) := hup hf66 (hne k65 k64 (by intro q; cases q)) k65
      refine g_get C0 G k68 rfl hiX9 2 (by decide) mf_X9_9 rfl dX9_share_104 ?_
      refine lv_bipush (v := 22) hx hb dX9_share_107 (by decide) ?_
      refine lv_dup2_11 hx hb dX9_share_109 rfl rfl ?_
      refine g_iald C0 G k67 0 rfl (by unfold vp_in; decide) dX9_share_110 ?_
      refine lv_topv (v := (X9_share_g12 g s) 22) rfl ?_
      refine lv_topv (v := nI s) ((by rw [X9_share_g12, upd_off (by omega)]; exact (by rw [X9_share_g11, upd_off (by omega)]; exact (by rw [X9_share_g9, upd_off (by omega)]; exact (by rw [X9_share_g7, upd_off (by omega)]; exact (by rw [X9_share_g6, upd_off (by omega)]; exact (by rw [X9_share_g5, upd_off (by omega)]; exact (by rw [X9_share_g4, upd_off (by omega)]; exact (by rw [X9_share_g3, upd_off (by omega)]; exact (by rw [X9_share_g2, upd_off (by omega)]; exact (by rw [X9_share_g1, upd_off (by omega)]; exact (by rw [X9_share_g0, upd_off (by omega)]; exact h22)))))))))))) ?_
      refine lv_iconst (v := 1) hx hb dX9_share_111 (by decide) ?_
      refine lv_iadd hx hb dX9_share_112 ?_
      refine lv_topv (v := nI (s + 1)) ((nI_add _ _)) ?_
      refine g_iast C0 G k67 0 rfl (by unfold vp_in; decide) dX9_share_113 (fun H locs f69 hf69 G => ?_)
      have k70 : f69 v = some (.inl (cy 0, 6441, .inl (X9_share_g13 g s))) := hus hf69
      exact g_vret C0 G hr dX9_share_114 (Nat.le_of_ble_eq_true rfl) (Nat.le_of_ble_eq_true rfl) (by exact ⟨k70, (fun a9 e9 h7 h8 => hup hf69 (fun q => h7 (by rw [q]; simp)) (hup hf66 (fun q => h7 (by rw [q]; simp)) (hup hf63 (fun q => h7 (by rw [q]; simp)) (hup hf56 (fun q => h7 (by rw [q]; simp)) (hup hf47 (fun q => h7 (by rw [q]; simp)) (hup hf42 (fun q => h7 (by rw [q]; simp)) (hup hf37 (fun q => h7 (by rw [q]; simp)) (hup hf32 (fun q => h7 (by rw [q]; simp)) (hup hf27 (fun q => h7 (by rw [q]; simp)) (hup hf22 (fun q => h7 (by rw [q]; simp)) (hup hf17 (fun q => h7 (by rw [q]; simp)) (hup hf12 (fun q => h7 (by rw [q]; simp)) (h8)))))))))))))⟩)
    refine lv_icmp_ge (tgt := 91) hx hb dX9_share_84 (by decide) (fun c59 => ?_) (fun c59 => ?_)
    · refine lv_iload_n hx hb dX9_share_91 rfl (lv_at hl 3 rfl) ?_
      exact J61 (g 6) (by rw [X9_share_x10, if_pos c59]) _ _ _ G (lv_sub hl [0, 1, 2, 3, 4] rfl)
    · refine lv_iload_n hx hb dX9_share_87 rfl (lv_at hl 2 rfl) ?_
      refine lv_goto (tgt := 92) hx hb dX9_share_88 (by decide) ?_
      exact J61 (g 7) (by rw [X9_share_x10, if_neg c59]) _ _ _ G (lv_sub hl [0, 1, 2, 3, 4] rfl)
  refine lv_icmp_ge (tgt := 73) hx hb dX9_share_66 (by decide) (fun c52 => ?_) (fun c52 => ?_)
  · refine lv_iload_n hx hb dX9_share_73 rfl (lv_at hl 2 rfl) ?_
    exact J54 (g 7) (by rw [X9_share_x8, if_pos c52]) _ _ _ G (lv_sub hl [0, 1, 2, 3, 4] rfl)
  · refine lv_iload_n hx hb dX9_share_69 rfl (lv_at hl 3 rfl) ?_
    refine lv_goto (tgt := 74) hx hb dX9_share_70 (by decide) ?_
    exact J54 (g 6) (by rw [X9_share_x8, if_neg c52]) _ _ _ G (lv_sub hl [0, 1, 2, 3, 4] rfl)
theorem rd_X9_share_0 {g : Nat → Int32} {s : Nat} (hs : s < 700) : (X9_share_g13 g s) 0 = g 0 := (by rw [X9_share_g13, upd_off (by omega)]; exact (by rw [X9_share_g12, upd_off (by omega)]; exact (by rw [X9_share_g11, upd_off (by omega)]; exact (by rw [X9_share_g9, upd_off (by omega)]; exact (by rw [X9_share_g7, upd_off (by omega)]; exact (by rw [X9_share_g6, upd_off (by omega)]; exact (by rw [X9_share_g5, upd_off (by omega)]; exact (by rw [X9_share_g4, upd_off (by omega)]; exact (by rw [X9_share_g3, upd_off (by omega)]; exact (by rw [X9_share_g2, upd_off (by omega)]; exact (by rw [X9_share_g1, upd_off (by omega)]; exact (by rw [X9_share_g0, upd_off (by omega)]))))))))))))
theorem rd_X9_share_1 {g : Nat → Int32} {s : Nat} (hs : s < 700) : (X9_share_g13 g s) 1 = g 1 := (by rw [X9_share_g13, upd_off (by omega)]; exact (by rw [X9_share_g12, upd_off (by omega)]; exact (by rw [X9_share_g11, upd_off (by omega)]; exact (by rw [X9_share_g9, upd_off (by omega)]; exact (by rw [X9_share_g7, upd_off (by omega)]; exact (by rw [X9_share_g6, upd_off (by omega)]; exact (by rw [X9_share_g5, upd_off (by omega)]; exact (by rw [X9_share_g4, upd_off (by omega)]; exact (by rw [X9_share_g3, upd_off (by omega)]; exact (by rw [X9_share_g2, upd_off (by omega)]; exact (by rw [X9_share_g1, upd_off (by omega)]; exact (by rw [X9_share_g0, upd_off (by omega)]))))))))))))
theorem rd_X9_share_2 {g : Nat → Int32} {s : Nat} (hs : s < 700) : (X9_share_g13 g s) 2 = g 2 := (by rw [X9_share_g13, upd_off (by omega)]; exact (by rw [X9_share_g12, upd_off (by omega)]; exact (by rw [X9_share_g11, upd_off (by omega)]; exact (by rw [X9_share_g9, upd_off (by omega)]; exact (by rw [X9_share_g7, upd_off (by omega)]; exact (by rw [X9_share_g6, upd_off (by omega)]; exact (by rw [X9_share_g5, upd_off (by omega)]; exact (by rw [X9_share_g4, upd_off (by omega)]; exact (by rw [X9_share_g3, upd_off (by omega)]; exact (by rw [X9_share_g2, upd_off (by omega)]; exact (by rw [X9_share_g1, upd_off (by omega)]; exact (by rw [X9_share_g0, upd_off (by omega)]))))))))))))
theorem rd_X9_share_4 {g : Nat → Int32} {s : Nat} (hs : s < 700) : (X9_share_g13 g s) 4 = g 4 := (by rw [X9_share_g13, upd_off (by omega)]; exact (by rw [X9_share_g12, upd_off (by omega)]; exact (by rw [X9_share_g11, upd_off (by omega)]; exact (by rw [X9_share_g9, upd_off (by omega)]; exact (by rw [X9_share_g7, upd_off (by omega)]; exact (by rw [X9_share_g6, upd_off (by omega)]; exact (by rw [X9_share_g5, upd_off (by omega)]; exact (by rw [X9_share_g4, upd_off (by omega)]; exact (by rw [X9_share_g3, upd_off (by omega)]; exact (by rw [X9_share_g2, upd_off (by omega)]; exact (by rw [X9_share_g1, upd_off (by omega)]; exact (by rw [X9_share_g0, upd_off (by omega)]))))))))))))
theorem rd_X9_share_5 {g : Nat → Int32} {s : Nat} (hs : s < 700) : (X9_share_g13 g s) 5 = g 5 := (by rw [X9_share_g13, upd_off (by omega)]; exact (by rw [X9_share_g12, upd_off (by omega)]; exact (by rw [X9_share_g11, upd_off (by omega)]; exact (by rw [X9_share_g9, upd_off (by omega)]; exact (by rw [X9_share_g7, upd_off (by omega)]; exact (by rw [X9_share_g6, upd_off (by omega)]; exact (by rw [X9_share_g5, upd_off (by omega)]; exact (by rw [X9_share_g4, upd_off (by omega)]; exact (by rw [X9_share_g3, upd_off (by omega)]; exact (by rw [X9_share_g2, upd_off (by omega)]; exact (by rw [X9_share_g1, upd_off (by omega)]; exact (by rw [X9_share_g0, upd_off (by omega)]))))))))))))
theorem rd_X9_share_6 {g : Nat → Int32} {s : Nat} (hs : s < 700) : (X9_share_g13 g s) 6 = g 6 := (by rw [X9_share_g13, upd_off (by omega)]; exact (by rw [X9_share_g12, upd_off (by omega)]; exact (by rw [X9_share_g11, upd_off (by omega)]; exact (by rw [X9_share_g9, upd_off (by omega)]; exact (by rw [X9_share_g7, upd_off (by omega)]; exact (by rw [X9_share_g6, upd_off (by omega)]; exact (by rw [X9_share_g5, upd_off (by omega)]; exact (by rw [X9_share_g4, upd_off (by omega)]; exact (by rw [X9_share_g3, upd_off (by omega)]; exact (by rw [X9_share_g2, upd_off (by omega)]; exact (by rw [X9_share_g1, upd_off (by omega)]; exact (by rw [X9_share_g0, upd_off (by omega)]))))))))))))
theorem rd_X9_share_7 {g : Nat → Int32} {s : Nat} (hs : s < 700) : (X9_share_g13 g s) 7 = g 7 := (by rw [X9_share_g13, upd_off (by omega)]; exact (by rw [X9_share_g12, upd_off (by omega)]; exact (by rw [X9_share_g11, upd_off (by omega)]; exact (by rw [X9_share_g9, upd_off (by omega)]; exact (by rw [X9_share_g7, upd_off (by omega)]; exact (by rw [X9_share_g6, upd_off (by omega)]; exact (by rw [X9_share_g5, upd_off (by omega)]; exact (by rw [X9_share_g4, upd_off (by omega)]; exact (by rw [X9_share_g3, upd_off (by omega)]; exact (by rw [X9_share_g2, upd_off (by omega)]; exact (by rw [X9_share_g1, upd_off (by omega)]; exact (by rw [X9_share_g0, upd_off (by omega)]))))))))))))
theorem rd_X9_share_8 {g : Nat → Int32} {s : Nat} (hs : s < 700) : (X9_share_g13 g s) 8 = g 8 := (by rw [X9_share_g13, upd_off (by omega)]; exact (by rw [X9_share_g12, upd_off (by omega)]; exact (by rw [X9_share_g11, upd_off (by omega)]; exact (by rw [X9_share_g9, upd_off (by omega)]; exact (by rw [X9_share_g7, upd_off (by omega)]; exact (by rw [X9_share_g6, upd_off (by omega)]; exact (by rw [X9_share_g5, upd_off (by omega)]; exact (by rw [X9_share_g4, upd_off (by omega)]; exact (by rw [X9_share_g3, upd_off (by omega)]; exact (by rw [X9_share_g2, upd_off (by omega)]; exact (by rw [X9_share_g1, upd_off (by omega)]; exact (by rw [X9_share_g0, upd_off (by omega)]))))))))))))
theorem rd_X9_share_9 {g : Nat → Int32} {s : Nat} (hs : s < 700) : (X9_share_g13 g s) 9 = g 9 := (by rw [X9_share_g13, upd_off (by omega)]; exact (by rw [X9_share_g12, upd_off (by omega)]; exact (by rw [X9_share_g11, upd_off (by omega)]; exact (by rw [X9_share_g9, upd_off (by omega)]; exact (by rw [X9_share_g7, upd_off (by omega)]; exact (by rw [X9_share_g6, upd_off (by omega)]; exact (by rw [X9_share_g5, upd_off (by omega)]; exact (by rw [X9_share_g4, upd_off (by omega)]; exact (by rw [X9_share_g3, upd_off (by omega)]; exact (by rw [X9_share_g2, upd_off (by omega)]; exact (by rw [X9_share_g1, upd_off (by omega)]; exact (by rw [X9_share_g0, upd_off (by omega)]))))))))))))
theorem rd_X9_share_13 {g : Nat → Int32} {s : Nat} (hs : s < 700) : (X9_share_g13 g s) 13 = g 13 := (by rw [X9_share_g13, upd_off (by omega)]; exact (by rw [X9_share_g12, upd_off (by omega)]; exact (by rw [X9_share_g11, upd_off (by omega)]; exact (by rw [X9_share_g9, upd_off (by omega)]; exact (by rw [X9_share_g7, upd_off (by omega)]; exact (by rw [X9_share_g6, upd_off (by omega)]; exact (by rw [X9_share_g5, upd_off (by omega)]; exact (by rw [X9_share_g4, upd_off (by omega)]; exact (by rw [X9_share_g3, upd_off (by omega)]; exact (by rw [X9_share_g2, upd_off (by omega)]; exact (by rw [X9_share_g1, upd_off (by omega)]; exact (by rw [X9_share_g0, upd_off (by omega)]))))))))))))
theorem rd_X9_share_14 {g : Nat → Int32} {s : Nat} (hs : s < 700) : (X9_share_g13 g s) 14 = g 14 := (by rw [X9_share_g13, upd_off (by omega)]; exact (by rw [X9_share_g12, upd_off (by omega)]; exact (by rw [X9_share_g11, upd_off (by omega)]; exact (by rw [X9_share_g9, upd_off (by omega)]; exact (by rw [X9_share_g7, upd_off (by omega)]; exact (by rw [X9_share_g6, upd_off (by omega)]; exact (by rw [X9_share_g5, upd_off (by omega)]; exact (by rw [X9_share_g4, upd_off (by omega)]; exact (by rw [X9_share_g3, upd_off (by omega)]; exact (by rw [X9_share_g2, upd_off (by omega)]; exact (by rw [X9_share_g1, upd_off (by omega)]; exact (by rw [X9_share_g0, upd_off (by omega)]))))))))))))
theorem rd_X9_share_22 {g : Nat → Int32} {s : Nat} (hs : s < 700) : (X9_share_g13 g s) 22 = nI (s + 1) := (by rw [X9_share_g13, upd_at])
theorem rd_X9_share_23 {g : Nat → Int32} {s : Nat} (hs : s < 700) : (X9_share_g13 g s) 23 = g 23 := (by rw [X9_share_g13, upd_off (by omega)]; exact (by rw [X9_share_g12, upd_off (by omega)]; exact (by rw [X9_share_g11, upd_off (by omega)]; exact (by rw [X9_share_g9, upd_off (by omega)]; exact (by rw [X9_share_g7, upd_off (by omega)]; exact (by rw [X9_share_g6, upd_off (by omega)]; exact (by rw [X9_share_g5, upd_off (by omega)]; exact (by rw [X9_share_g4, upd_off (by omega)]; exact (by rw [X9_share_g3, upd_off (by omega)]; exact (by rw [X9_share_g2, upd_off (by omega)]; exact (by rw [X9_share_g1, upd_off (by omega)]; exact (by rw [X9_share_g0, upd_off (by omega)]))))))))))))
theorem rd_X9_share_24 {g : Nat → Int32} {s : Nat} (hs : s < 700) : (X9_share_g13 g s) 24 = g 24 := (by rw [X9_share_g13, upd_off (by omega)]; exact (by rw [X9_share_g12, upd_off (by omega)]; exact (by rw [X9_share_g11, upd_off (by omega)]; exact (by rw [X9_share_g9, upd_off (by omega)]; exact (by rw [X9_share_g7, upd_off (by omega)]; exact (by rw [X9_share_g6, upd_off (by omega)]; exact (by rw [X9_share_g5, upd_off (by omega)]; exact (by rw [X9_share_g4, upd_off (by omega)]; exact (by rw [X9_share_g3, upd_off (by omega)]; exact (by rw [X9_share_g2, upd_off (by omega)]; exact (by rw [X9_share_g1, upd_off (by omega)]; exact (by rw [X9_share_g0, upd_off (by omega)]))))))))))))
def X9_mayCome_x0 (g : Nat → Int32) (p : Nat) (i : Nat) : Int32 := if (g (69 + 6 * (11 * i + p) + 4)) = 6 then 1 else 0
def X9_mayCome_x1 (g : Nat → Int32) (p : Nat) (i : Nat) : Int32 := if (g (69 + 6 * (11 * i + p) + 4)) = (-2) then 1 else (X9_mayCome_x0 g p i)
set_option maxRecDepth 100000 in
theorem k_X9_mayCome {l : Launch} (hfl : l.stackTraces = false) {D : va_G} {cy : Nat → ClassId} {f : Hf} {sz : Nat} {m : Nat} {v : Nat} {im : Nat} {kp : Nat} {pa : Nat} {de : Nat} {ide : Nat} {tx : Nat} {pt : Nat} {so : Nat} {mo : Nat} {wh : Nat} {pf : Nat} {c_th : Int32} {c_re : Int32} {c_un : Int32} {c_hi : Int32} {c_tn : Int32} {c_fa : Int32} {c_rf : Int32} {c_ps : Int32} {c_pl : Int32} {c_to : Int32} {g : Nat → Int32} {p : Nat} {i : Nat} (h_m : f m = some (.inr (11, [.int c_th, .int c_re, .ref v, .ref im, .ref kp, .ref pa, .ref de, .ref ide, .int c_un, .int c_hi, .ref tx, .int c_tn, .int c_fa, .int c_rf, .ref pt, .int c_ps, .int c_pl, .int c_to, .ref so, .ref mo, .ref wh, .ref pf]))) (h_v : f v = some (.inl (cy 0, 6441, .inl g))) (h4 : g 4 = nI i) (hi : i < 4) (hp : p < 11) : hMet l yX9_mayCome cX9_mayCome 3 (some .boolean) { frames := 1, cells := 0, slots := 0, locals := 22 } D (hTy cy) f sz [.ref m, .int (nI p)] (hQi (fun r u => r = (X9_mayCome_x1 g p i) ∧ u = f) D f sz) hNo := by
  refine h_enter (by decide) hfl (Nat.le_of_ble_eq_true rfl) ?_
  intro p9 e9 s9 m9 b9 t9 c9 hsz C0 hr hnm G ls hl
  have hx := C0.1.1
  have hb := C0.1.2.1
  have hl : lv_has ls 3 [(0, .ref m), (1, .int (nI p))] := hl
  refine lv_aload_n hx hb dX9_mayCome_0 rfl (lv_at hl 0 rfl) ?_
  refine g_get C0 G h_m rfl hiX9 2 (by decide) mf_X9_9 rfl dX9_mayCome_1 ?_
  refine lv_aload_n hx hb dX9_mayCome_4 rfl (lv_at hl 0 rfl) ?_
  refine g_get C0 G h_m rfl hiX9 2 (by decide) mf_X9_9 rfl dX9_mayCome_5 ?_
  refine lv_iconst (v := 4) hx hb dX9_mayCome_8 (by decide) ?_
  refine g_iald C0 G h_v 0 rfl (by unfold vp_in; decide) dX9_mayCome_9 ?_
  refine lv_topv (v := g 4) rfl ?_
  refine lv_topv (v := nI i) (h4) ?_
  refine lv_iload_n hx hb dX9_mayCome_10 rfl (lv_at hl 1 rfl) ?_
  refine lv_iconst (v := 4) hx hb dX9_mayCome_11 (by decide) ?_
  refine g_cI C0 G (g_runS C0 G (rest := [.ref v]) (k_X9_batterAt hfl (nI i) (nI p) 4 ) hY_X9_batterAt mm_X9_65 ms_X9_batterAt ⟨(Nat.le_of_ble_eq_true rfl), (Nat.le_of_ble_eq_true rfl)⟩ rfl hl.1 rfl (Nat.le_of_ble_eq_true rfl) dX9_mayCome_12 ⟨(Nat.le_of_ble_eq_true rfl), (Nat.le_of_ble_eq_true rfl)⟩) (kx_no rfl) (fun r13 u12 H locs hp11 G => ?_)
  obtain ⟨zr, eu12⟩ := hp11
  replace zr := Eq.symm zr
  subst zr
  rw [eu12] at G
  refine lv_topv (v := nI (69 + 6 * (11 * i + p) + 4)) (bat_n i p 4) ?_
  refine g_iald C0 G h_v 0 rfl (vp_in_nI (by omega) (by omega)) dX9_mayCome_15 ?_
  refine lv_topv (v := g (69 + 6 * (11 * i + p) + 4)) (congrArg g (nI_c (by omega))) ?_
  refine lv_istore_n (lv' := [(2, .int (g (69 + 6 * (11 * i + p) + 4))), (0, .ref m), (1, .int (nI p))]) hx hb dX9_mayCome_16 rfl hl (by decide) rfl (fun ls hl => ?_)
  refine lv_iload_n hx hb dX9_mayCome_17 rfl (lv_at hl 0 rfl) ?_
  refine lv_bipush (v := (-2)) hx hb dX9_mayCome_18 (by decide) ?_
  have J16 : ∀ (y15 : Int32) (_ : y15 = (X9_mayCome_x1 g p i)) (H : Heap) (locs : List Loc) (ls : Array Slot), hG D (hA f sz) f s9 H locs → lv_has ls 3 [(2, .int (g (69 + 6 * (11 * i + p) + 4))), (0, .ref m), (1, .int (nI p))] → W p9 l e9 ({ frames := 1, cells := 0, slots := 0, locals := 22 } : Room) s9 m9 ([.ref m, .int (nI p)] : List Value).toArray b9 t9 c9 H locs 0 0 (vx_MQ b9 (hQi (fun r u => r = (X9_mayCome_x1 g p i) ∧ u = f) D f sz) (hPx hNo D f sz) ([.ref m, .int (nI p)] : List Value).toArray s9 0 0 (hA f sz)) (F0 m9 34 ls [.int y15]) := by
    intro y15 ey15 H locs ls G hl
    replace ey15 := Eq.symm ey15
    subst ey15
    exact g_zret C0 G hr dX9_mayCome_34 (hZb (by repeat (first | exact Or.inl rfl | exact Or.inr rfl | assumption | split | unfold X9_mayCome_x0 | unfold X9_mayCome_x1))) (Nat.le_of_ble_eq_true rfl) (Nat.le_of_ble_eq_true rfl) (by exact ⟨rfl, rfl⟩)
  refine lv_icmp_eq (tgt := 29) hx hb dX9_mayCome_20 (by decide) (fun c14 => ?_) (fun c14 => ?_)
  · refine lv_iconst (v := 1) hx hb dX9_mayCome_29 (by decide) ?_
    refine lv_goto (tgt := 34) hx hb dX9_mayCome_30 (by decide) ?_
    exact J16 1 (by rw [X9_mayCome_x1, if_pos c14]) _ _ _ G (lv_sub hl [0, 1, 2] rfl)
  · refine lv_iload_n hx hb dX9_mayCome_23 rfl (lv_at hl 0 rfl) ?_
    refine lv_bipush (v := 6) hx hb dX9_mayCome_24 (by decide) ?_
    have J20 : ∀ (y19 : Int32) (_ : y19 = (X9_mayCome_x0 g p i)) (H : Heap) (locs : List Loc) (ls : Array Slot), hG D (hA f sz) f s9 H locs → lv_has ls 3 [(2, .int (g (69 + 6 * (11 * i + p) + 4))), (0, .ref m), (1, .int (nI p))] → W p9 l e9 ({ frames := 1, cells := 0, slots := 0, locals := 22 } : Room) s9 m9 ([.ref m, .int (nI p)] : List Value).toArray b9 t9 c9 H locs 0 0 (vx_MQ b9 (hQi (fun r u => r = (X9_mayCome_x1 g p i) ∧ u = f) D f sz) (hPx hNo D f sz) ([.ref m, .int (nI p)] : List Value).toArray s9 0 0 (hA f sz)) (F0 m9 34 ls [.int y19]) := by
      intro y19 ey19 H locs ls G hl
      replace ey19 := Eq.symm ey19
      subst ey19
      exact J16 (X9_mayCome_x0 g p i) (by rw [X9_mayCome_x1, if_neg c14]) _ _ _ G (lv_sub hl [0, 1, 2] rfl)
    refine lv_icmp_ne (tgt := 33) hx hb dX9_mayCome_26 (by decide) (fun c18 => ?_) (fun c18 => ?_)
    · refine lv_iconst (v := 0) hx hb dX9_mayCome_33 (by decide) ?_
      exact J20 0 (by rw [X9_mayCome_x0, if_neg c18]) _ _ _ G (lv_sub hl [0, 1, 2] rfl)
    · refine lv_iconst (v := 1) hx hb dX9_mayCome_29 (by decide) ?_
      refine lv_goto (tgt := 34) hx hb dX9_mayCome_30 (by decide) ?_
      exact J20 1 (by rw [X9_mayCome_x0, if_pos c18]) _ _ _ G (lv_sub hl [0, 1, 2] rfl)
theorem b_k_X9_mayCome (g : Nat → Int32) (p : Nat) (i : Nat) : (X9_mayCome_x1 g p i) = 0 ∨ (X9_mayCome_x1 g p i) = 1 := by
  repeat (first | exact Or.inl rfl | exact Or.inr rfl | assumption | split | unfold X9_mayCome_x0 | unfold X9_mayCome_x1)
def X9_lowest_r0 (g : Nat → Int32) (status : Int32) (i : Nat) : Int32 := if (g (69 + 6 * (11 * i + 0) + 4)) = status then 0 else (if (g (69 + 6 * (11 * i + 1) + 4)) = status then 1 else (if (g (69 + 6 * (11 * i + 2) + 4)) = status then 2 else (if (g (69 + 6 * (11 * i + 3) + 4)) = status then 3 else (if (g (69 + 6 * (11 * i + 4) + 4)) = status then 4 else (if (g (69 + 6 * (11 * i + 5) + 4)) = status then 5 else (if (g (69 + 6 * (11 * i + 6) + 4)) = status then 6 else (if (g (69 + 6 * (11 * i + 7) + 4)) = status then 7 else (if (g (69 + 6 * (11 * i + 8) + 4)) = status then 8 else (if (g (69 + 6 * (11 * i + 9) + 4)) = status then 9 else (if (g (69 + 6 * (11 * i + 10) + 4)) = status then 10 else (-1)))))))))))
set_option maxRecDepth 100000 in
theorem k_X9_lowest {l : Launch} (hfl : l.stackTraces = false) {D : va_G} {cy : Nat → ClassId} {f : Hf} {sz : Nat} {m : Nat} {v : Nat} {im : Nat} {kp : Nat} {pa : Nat} {de : Nat} {ide : Nat} {tx : Nat} {pt : Nat} {so : Nat} {mo : Nat} {wh : Nat} {pf : Nat} {c_th : Int32} {c_re : Int32} {c_un : Int32} {c_hi : Int32} {c_tn : Int32} {c_fa : Int32} {c_rf : Int32} {c_ps : Int32} {c_pl : Int32} {c_to : Int32} {g : Nat → Int32} (status : Int32) {i : Nat} (h_m : f m = some (.inr (11, [.int c_th, .int c_re, .ref v, .ref im, .ref kp, .ref pa, .ref de, .ref ide, .int c_un, .int c_hi, .ref tx, .int c_tn, .int c_fa, .int c_rf, .ref pt, .int c_ps, .int c_pl, .int c_to, .ref so, .ref mo, .ref wh, .ref pf]))) (h_v : f v = some (.inl (cy 0, 6441, .inl g))) (h4 : g 4 = nI i) (hi : i < 4) : hMet l yX9_lowest cX9_lowest 3 (some .int) { frames := 1, cells := 0, slots := 0, locals := 22 } D (hTy cy) f sz [.ref m, .int status] (hQi (fun r u => r = (X9_lowest_r0 g status i) ∧ u = f) D f sz) hNo := by
  refine h_enter (by decide) hfl (Nat.le_of_ble_eq_true rfl) ?_
  intro p9 e9 s9 m9 b9 t9 c9 hsz C0 hr hnm G ls hl
  have hx := C0.1.1
  have hb := C0.1.2.1
  have hl : lv_has ls 3 [(0, .ref m), (1, .int status)] := hl
  refine lv_iconst (v := 0) hx hb dX9_lowest_0 (by decide) ?_
  refine lv_istore_n (lv' := [(2, .int 0), (0, .ref m), (1, .int status)]) hx hb dX9_lowest_1 rfl hl (by decide) rfl (fun ls hl => ?_)
  refine lv_iload_n hx hb dX9_lowest_2 rfl (lv_at hl 0 rfl) ?_
  refine lv_bipush (v := 11) hx hb dX9_lowest_3 (by decide) ?_
  refine lv_icmp_ge (tgt := 36) hx hb dX9_lowest_5 (by decide) (fun c11 => absurd c11 (by decide)) (fun _ => ?_)
  refine lv_aload_n hx hb dX9_lowest_8 rfl (lv_at hl 1 rfl) ?_
  refine g_get C0 G h_m rfl hiX9 2 (by decide) mf_X9_9 rfl dX9_lowest_9 ?_
  refine lv_aload_n hx hb dX9_lowest_12 rfl (lv_at hl 1 rfl) ?_
  refine g_get C0 G h_m rfl hiX9 2 (by decide) mf_X9_9 rfl dX9_lowest_13 ?_
  refine lv_iconst (v := 4) hx hb dX9_lowest_16 (by decide) ?_
  refine g_iald C0 G h_v 0 rfl (by unfold vp_in; decide) dX9_lowest_17 ?_
  refine lv_topv (v := g 4) rfl ?_
  refine lv_topv (v := nI i) (h4) ?_
  refine lv_iload_n hx hb dX9_lowest_18 rfl (lv_at hl 0 rfl) ?_
  refine lv_iconst (v := 4) hx hb dX9_lowest_19 (by decide) ?_
  refine g_cI C0 G (g_runS C0 G (rest := [.ref v]) (k_X9_batterAt hfl (nI i) 0 4 ) hY_X9_batterAt mm_X9_65 ms_X9_batterAt ⟨(Nat.le_of_ble_eq_true rfl), (Nat.le_of_ble_eq_true rfl)⟩ rfl hl.1 rfl (Nat.le_of_ble_eq_true rfl) dX9_lowest_20 ⟨(Nat.le_of_ble_eq_true rfl), (Nat.le_of_ble_eq_true rfl)⟩) (kx_no rfl) (fun r14 u13 H locs hp12 G => ?_)
  obtain ⟨zr, eu13⟩ := hp12
  replace zr := Eq.symm zr
  subst zr
  rw [eu13] at G
  refine lv_topv (v := nI (69 + 6 * (11 * i + 0) + 4)) (bat_n i 0 4) ?_
  refine g_iald C0 G h_v 0 rfl (vp_in_nI (by omega) (by omega)) dX9_lowest_23 ?_
  refine lv_topv (v := g (69 + 6 * (11 * i + 0) + 4)) (congrArg g (nI_c (by omega))) ?_
  refine lv_iload_n hx hb dX9_lowest_24 rfl (lv_at hl 2 rfl) ?_
  refine lv_icmp_ne (tgt := 30) hx hb dX9_lowest_25 (by decide) (fun c15 => ?_) (fun c15 => ?_)
  · refine lv_iinc (v := 1) (lv' := [(2, .int 1), (0, .ref m), (1, .int status)]) hx hb dX9_lowest_30 hl (k := 0) rfl (by exact (by decide)) (by decide) rfl (fun ls hl => ?_)
    refine lv_goto (tgt := 2) hx hb dX9_lowest_33 (by decide) ?_
    refine lv_iload_n hx hb dX9_lowest_2 rfl (lv_at hl 0 rfl) ?_
    refine lv_bipush (v := 11) hx hb dX9_lowest_3 (by decide) ?_
    refine lv_icmp_ge (tgt := 36) hx hb dX9_lowest_5 (by decide) (fun c17 => absurd c17 (by decide)) (fun _ => ?_)
    refine lv_aload_n hx hb dX9_lowest_8 rfl (lv_at hl 1 rfl) ?_
    refine g_get C0 G h_m rfl hiX9 2 (by decide) mf_X9_9 rfl dX9_lowest_9 ?_
    refine lv_aload_n hx hb dX9_lowest_12 rfl (lv_at hl 1 rfl) ?_
    refine g_get C0 G h_m rfl hiX9 2 (by decide) mf_X9_9 rfl dX9_lowest_13 ?_
    refine lv_iconst (v := 4) hx hb dX9_lowest_16 (by decide) ?_
    refine g_iald C0 G h_v 0 rfl (by unfold vp_in; decide) dX9_lowest_17 ?_
    refine lv_topv (v := g 4) rfl ?_
    refine lv_topv (v := nI i) (h4) ?_
    refine lv_iload_n hx hb dX9_lowest_18 rfl (lv_at hl 0 rfl) ?_
    refine lv_iconst (v := 4) hx hb dX9_lowest_19 (by decide) ?_
    refine g_cI C0 G (g_runS C0 G (rest := [.ref v]) (k_X9_batterAt hfl (nI i) 1 4 ) hY_X9_batterAt mm_X9_65 ms_X9_batterAt ⟨(Nat.le_of_ble_eq_true rfl), (Nat.le_of_ble_eq_true rfl)⟩ rfl hl.1 rfl (Nat.le_of_ble_eq_true rfl) dX9_lowest_20 ⟨(Nat.le_of_ble_eq_true rfl), (Nat.le_of_ble_eq_true rfl)⟩) (kx_no rfl) (fun r20 u19 H locs hp18 G => ?_)
    obtain ⟨zr, eu19⟩ := hp18
    replace zr := Eq.symm zr
    subst zr
    rw [eu19] at G
    refine lv_topv (v := nI (69 + 6 * (11 * i + 1) + 4)) (bat_n i 1 4) ?_
    refine g_iald C0 G h_v 0 rfl (vp_in_nI (by omega) (by omega)) dX9_lowest_23 ?_
    refine lv_topv (v := g (69 + 6 * (11 * i + 1) + 4)) (congrArg g (nI_c (by omega))) ?_
    refine lv_iload_n hx hb dX9_lowest_24 rfl (lv_at hl 2 rfl) ?_
    refine lv_icmp_ne (tgt := 30) hx hb dX9_lowest_25 (by decide) (fun c21 => ?_) (fun c21 => ?_)
    · refine lv_iinc (v := 2) (lv' := [(2, .int 2), (0, .ref m), (1, .int status)]) hx hb dX9_lowest_30 hl (k := 0) rfl (by exact (by decide)) (by decide) rfl (fun ls hl => ?_)
      refine lv_goto (tgt := 2) hx hb dX9_lowest_33 (by decide) ?_
      refine lv_iload_n hx hb dX9_lowest_2 rfl (lv_at hl 0 rfl) ?_
      refine lv_bipush (v := 11) hx hb dX9_lowest_3 (by decide) ?_
      refine lv_icmp_ge (tgt := 36) hx hb dX9_lowest_5 (by decide) (fun c23 => absurd c23 (by decide)) (fun _ => ?_)
      refine lv_aload_n hx hb dX9_lowest_8 rfl (lv_at hl 1 rfl) ?_
      refine g_get C0 G h_m rfl hiX9 2 (by decide) mf_X9_9 rfl dX9_lowest_9 ?_
      refine lv_aload_n hx hb dX9_lowest_12 rfl (lv_at hl 1 rfl) ?_
      refine g_get C0 G h_m rfl hiX9 2 (by decide) mf_X9_9 rfl dX9_lowest_13 ?_
      refine lv_iconst (v := 4) hx hb dX9_lowest_16 (by decide) ?_
      refine g_iald C0 G h_v 0 rfl (by unfold vp_in; decide) dX9_lowest_17 ?_
      refine lv_topv (v := g 4) rfl ?_
      refine lv_topv (v := nI i) (h4) ?_
      refine lv_iload_n hx hb dX9_lowest_18 rfl (lv_at hl 0 rfl) ?_
      refine lv_iconst (v := 4) hx hb dX9_lowest_19 (by decide) ?_
      refine g_cI C0 G (g_runS C0 G (rest := [.ref v]) (k_X9_batterAt hfl (nI i) 2 4 ) hY_X9_batterAt mm_X9_65 ms_X9_batterAt ⟨(Nat.le_of_ble_eq_true rfl), (Nat.le_of_ble_eq_true rfl)⟩ rfl hl.1 rfl (Nat.le_of_ble_eq_true rfl) dX9_lowest_20 ⟨(Nat.le_of_ble_eq_true rfl), (Nat.le_of_ble_eq_true rfl)⟩) (kx_no rfl) (fun r26 u25 H locs hp24 G => ?_)
      obtain ⟨zr, eu25⟩ := hp24
      replace zr := Eq.symm zr
      subst zr
      rw [eu25] at G
      refine lv_topv (v := nI (69 + 6 * (11 * i + 2) + 4)) (bat_n i 2 4) ?_
      refine g_iald C0 G h_v 0 rfl (vp_in_nI (by omega) (by omega)) dX9_lowest_23 ?_
      refine lv_topv (v := g (69 + 6 * (11 * i + 2) + 4)) (congrArg g (nI_c (by omega))) ?_
      refine lv_iload_n hx hb dX9_lowest_24 rfl (lv_at hl 2 rfl) ?_
      refine lv_icmp_ne (tgt := 30) hx hb dX9_lowest_25 (by decide) (fun c27 => ?_) (fun c27 => ?_)
      · refine lv_iinc (v := 3) (lv' := [(2, .int 3), (0, .ref m), (1, .int status)]) hx hb dX9_lowest_30 hl (k := 0) rfl (by exact (by decide)) (by decide) rfl (fun ls hl => ?_)
        refine lv_goto (tgt := 2) hx hb dX9_lowest_33 (by decide) ?_
        refine lv_iload_n hx hb dX9_lowest_2 rfl (lv_at hl 0 rfl) ?_
        refine lv_bipush (v := 11) hx hb dX9_lowest_3 (by decide) ?_
        refine lv_icmp_ge (tgt := 36) hx hb dX9_lowest_5 (by decide) (fun c29 => absurd c29 (by decide)) (fun _ => ?_)
        refine lv_aload_n hx hb dX9_lowest_8 rfl (lv_at hl 1 rfl) ?_
        refine g_get C0 G h_m rfl hiX9 2 (by decide) mf_X9_9 rfl dX9_lowest_9 ?_
        refine lv_aload_n hx hb dX9_lowest_12 rfl (lv_at hl 1 rfl) ?_
        refine g_get C0 G h_m rfl hiX9 2 (by decide) mf_X9_9 rfl dX9_lowest_13 ?_
        refine lv_iconst (v := 4) hx hb dX9_lowest_16 (by decide) ?_
        refine g_iald C0 G h_v 0 rfl (by unfold vp_in; decide) dX9_lowest_17 ?_
        refine lv_topv (v := g 4) rfl ?_
        refine lv_topv (v := nI i) (h4) ?_
        refine lv_iload_n hx hb dX9_lowest_18 rfl (lv_at hl 0 rfl) ?_
        refine lv_iconst (v := 4) hx hb dX9_lowest_19 (by decide) ?_
        refine g_cI C0 G (g_runS C0 G (rest := [.ref v]) (k_X9_batterAt hfl (nI i) 3 4 ) hY_X9_batterAt mm_X9_65 ms_X9_batterAt ⟨(Nat.le_of_ble_eq_true rfl), (Nat.le_of_ble_eq_true rfl)⟩ rfl hl.1 rfl (Nat.le_of_ble_eq_true rfl) dX9_lowest_20 ⟨(Nat.le_of_ble_eq_true rfl), (Nat.le_of_ble_eq_true rfl)⟩) (kx_no rfl) (fun r32 u31 H locs hp30 G => ?_)
        obtain ⟨zr, eu31⟩ := hp30
        replace zr := Eq.symm zr
        subst zr
        rw [eu31] at G
        refine lv_topv (v := nI (69 + 6 * (11 * i + 3) + 4)) (bat_n i 3 4) ?_
        refine g_iald C0 G h_v 0 rfl (vp_in_nI (by omega) (by omega)) dX9_lowest_23 ?_
        refine lv_topv (v := g (69 + 6 * (11 * i + 3) + 4)) (congrArg g (nI_c (by omega))) ?_
        refine lv_iload_n hx hb dX9_lowest_24 rfl (lv_at hl 2 rfl) ?_
        refine lv_icmp_ne (tgt := 30) hx hb dX9_lowest_25 (by decide) (fun c33 => ?_) (fun c33 => ?_)
        · refine lv_iinc (v := 4) (lv' := [(2, .int 4), (0, .ref m), (1, .int status)]) hx hb dX9_lowest_30 hl (k := 0) rfl (by exact (by decide)) (by decide) rfl (fun ls hl => ?_)
          refine lv_goto (tgt := 2) hx hb dX9_lowest_33 (by decide) ?_
          refine lv_iload_n hx hb dX9_lowest_2 rfl (lv_at hl 0 rfl) ?_
          refine lv_bipush (v := 11) hx hb dX9_lowest_3 (by decide) ?_
          refine lv_icmp_ge (tgt := 36) hx hb dX9_lowest_5 (by decide) (fun c35 => absurd c35 (by decide)) (fun _ => ?_)
          refine lv_aload_n hx hb dX9_lowest_8 rfl (lv_at hl 1 rfl) ?_
          refine g_get C0 G h_m rfl hiX9 2 (by decide) mf_X9_9 rfl dX9_lowest_9 ?_
          refine lv_aload_n hx hb dX9_lowest_12 rfl (lv_at hl 1 rfl) ?_
          refine g_get C0 G h_m rfl hiX9 2 (by decide) mf_X9_9 rfl dX9_lowest_13 ?_
          refine lv_iconst (v := 4) hx hb dX9_lowest_16 (by decide) ?_
          refine g_iald C0 G h_v 0 rfl (by unfold vp_in; decide) dX9_lowest_17 ?_
          refine lv_topv (v := g 4) rfl ?_
          refine lv_topv (v := nI i) (h4) ?_
          refine lv_iload_n hx hb dX9_lowest_18 rfl (lv_at hl 0 rfl) ?_
          refine lv_iconst (v := 4) hx hb dX9_lowest_19 (by decide) ?_
          refine g_cI C0 G (g_runS C0 G (rest := [.ref v]) (k_X9_batterAt hfl (nI i) 4 4 ) hY_X9_batterAt mm_X9_65 ms_X9_batterAt ⟨(Nat.le_of_ble_eq_true rfl), (Nat.le_of_ble_eq_true rfl)⟩ rfl hl.1 rfl (Nat.le_of_ble_eq_true rfl) dX9_lowest_20 ⟨(Nat.le_of_ble_eq_true rfl), (Nat.le_of_ble_eq_true rfl)⟩) (kx_no rfl) (fun r38 u37 H locs hp36 G => ?_)
          obtain ⟨zr, eu37⟩ := hp36
          replace zr := Eq.symm zr
          subst zr
          rw [eu37] at G
          refine lv_topv (v := nI (69 + 6 * (11 * i + 4) + 4)) (bat_n i 4 4) ?_
          refine g_iald C0 G h_v 0 rfl (vp_in_nI (by omega) (by omega)) dX9_lowest_23 ?_
          refine lv_topv (v := g (69 + 6 * (11 * i + 4) + 4)) (congrArg g (nI_c (by omega))) ?_
          refine lv_iload_n hx hb dX9_lowest_24 rfl (lv_at hl 2 rfl) ?_
          refine lv_icmp_ne (tgt := 30) hx hb dX9_lowest_25 (by decide) (fun c39 => ?_) (fun c39 => ?_)
          · refine lv_iinc (v := 5) (lv' := [(2, .int 5), (0, .ref m), (1, .int status)]) hx hb dX9_lowest_30 hl (k := 0) rfl (by exact (by decide)) (by decide) rfl (fun ls hl => ?_)
            refine lv_goto (tgt := 2) hx hb dX9_lowest_33 (by decide) ?_
            refine lv_iload_n hx hb dX9_lowest_2 rfl (lv_at hl 0 rfl) ?_
            refine lv_bipush (v := 11) hx hb dX9_lowest_3 (by decide) ?_
            refine lv_icmp_ge (tgt := 36) hx hb dX9_lowest_5 (by decide) (fun c41 => absurd c41 (by decide)) (fun _ => ?_)
            refine lv_aload_n hx hb dX9_lowest_8 rfl (lv_at hl 1 rfl) ?_
            refine g_get C0 G h_m rfl hiX9 2 (by decide) mf_X9_9 rfl dX9_lowest_9 ?_
            refine lv_aload_n hx hb dX9_lowest_12 rfl (lv_at hl 1 rfl) ?_
            refine g_get C0 G h_m rfl hiX9 2 (by decide) mf_X9_9 rfl dX9_lowest_13 ?_
            refine lv_iconst (v := 4) hx hb dX9_lowest_16 (by decide) ?_
            refine g_iald C0 G h_v 0 rfl (by unfold vp_in; decide) dX9_lowest_17 ?_
            refine lv_topv (v := g 4) rfl ?_
            refine lv_topv (v := nI i) (h4) ?_
            refine lv_iload_n hx hb dX9_lowest_18 rfl (lv_at hl 0 rfl) ?_
            refine lv_iconst (v := 4) hx hb dX9_lowest_19 (by decide) ?_
            refine g_cI C0 G (g_runS C0 G (rest := [.ref v]) (k_X9_batterAt hfl (nI i) 5 4 ) hY_X9_batterAt mm_X9_65 ms_X9_batterAt ⟨(Nat.le_of_ble_eq_true rfl), (Nat.le_of_ble_eq_true rfl)⟩ rfl hl.1 rfl (Nat.le_of_ble_eq_true rfl) dX9_lowest_20 ⟨(Nat.le_of_ble_eq_true rfl), (Nat.le_of_ble_eq_true rfl)⟩) (kx_no rfl) (fun r44 u43 H locs hp42 G => ?_)
            obtain ⟨zr, eu43⟩ := hp42
            replace zr := Eq.symm zr
            subst zr
            rw [eu43] at G
            refine lv_topv (v := nI (69 + 6 * (11 * i + 5) + 4)) (bat_n i 5 4) ?_
            refine g_iald C0 G h_v 0 rfl (vp_in_nI (by omega) (by omega)) dX9_lowest_23 ?_
            refine lv_topv (v := g (69 + 6 * (11 * i + 5) + 4)) (congrArg g (nI_c (by omega))) ?_
            refine lv_iload_n hx hb dX9_lowest_24 rfl (lv_at hl 2 rfl) ?_
            refine lv_icmp_ne (tgt := 30) hx hb dX9_lowest_25 (by decide) (fun c45 => ?_) (fun c45 => ?_)
            · refine lv_iinc (v := 6) (lv' := [(2, .int 6), (0, .ref m), (1, .int status)]) hx hb dX9_lowest_30 hl (k := 0) rfl (by exact (by decide)) (by decide) rfl (fun ls hl => ?_)
              refine lv_goto (tgt := 2) hx hb dX9_lowest_33 (by decide) ?_
              refine lv_iload_n hx hb dX9_lowest_2 rfl (lv_at hl 0 rfl) ?_
              refine lv_bipush (v := 11) hx hb dX9_lowest_3 (by decide) ?_
              refine lv_icmp_ge (tgt := 36) hx hb dX9_lowest_5 (by decide) (fun c47 => absurd c47 (by decide)) (fun _ => ?_)
              refine lv_aload_n hx hb dX9_lowest_8 rfl (lv_at hl 1 rfl) ?_
              refine g_get C0 G h_m rfl hiX9 2 (by decide) mf_X9_9 rfl dX9_lowest_9 ?_
              refine lv_aload_n hx hb dX9_lowest_12 rfl (lv_at hl 1 rfl) ?_
              refine g_get C0 G h_m rfl hiX9 2 (by decide) mf_X9_9 rfl dX9_lowest_13 ?_
              refine lv_iconst (v := 4) hx hb dX9_lowest_16 (by decide) ?_
              refine g_iald C0 G h_v 0 rfl (by unfold vp_in; decide) dX9_lowest_17 ?_
              refine lv_topv (v := g 4) rfl ?_
              refine lv_topv (v := nI i) (h4) ?_
              refine lv_iload_n hx hb dX9_lowest_18 rfl (lv_at hl 0 rfl) ?_
              refine lv_iconst (v := 4) hx hb dX9_lowest_19 (by decide) ?_
              refine g_cI C0 G (g_runS C0 G (rest := [.ref v]) (k_X9_batterAt hfl (nI i) 6 4 ) hY_X9_batterAt mm_X9_65 ms_X9_batterAt ⟨(Nat.le_of_ble_eq_true rfl), (Nat.le_of_ble_eq_true rfl)⟩ rfl hl.1 rfl (Nat.le_of_ble_eq_true rfl) dX9_lowest_20 ⟨(Nat.le_of_ble_eq_true rfl), (Nat.le_of_ble_eq_true rfl)⟩) (kx_no rfl) (fun r50 u49 H locs hp48 G => ?_)
              obtain ⟨zr, eu49⟩ := hp48
              replace zr := Eq.symm zr
              subst zr
              rw [eu49] at G
              refine lv_topv (v := nI (69 + 6 * (11 * i + 6) + 4)) (bat_n i 6 4) ?_
              refine g_iald C0 G h_v 0 rfl (vp_in_nI (by omega) (by omega)) dX9_lowest_23 ?_
              refine lv_topv (v := g (69 + 6 * (11 * i + 6) + 4)) (congrArg g (nI_c (by omega))) ?_
              refine lv_iload_n hx hb dX9_lowest_24 rfl (lv_at hl 2 rfl) ?_
              refine lv_icmp_ne (tgt := 30) hx hb dX9_lowest_25 (by decide) (fun c51 => ?_) (fun c51 => ?_)
              · refine lv_iinc (v := 7) (lv' := [(2, .int 7), (0, .ref m), (1, .int status)]) hx hb dX9_lowest_30 hl (k := 0) rfl (by exact (by decide)) (by decide) rfl (fun ls hl => ?_)
                refine lv_goto (tgt := 2) hx hb dX9_lowest_33 (by decide) ?_
                refine lv_iload_n hx hb dX9_lowest_2 rfl (lv_at hl 0 rfl) ?_
                refine lv_bipush (v := 11) hx hb dX9_lowest_3 (by decide) ?_
                refine lv_icmp_ge (tgt := 36) hx hb dX9_lowest_5 (by decide) (fun c53 => absurd c53 (by decide)) (fun _ => ?_)
                refine lv_aload_n hx hb dX9_lowest_8 rfl (lv_at hl 1 rfl) ?_
                refine g_get C0 G h_m rfl hiX9 2 (by decide) mf_X9_9 rfl dX9_lowest_9 ?_
                refine lv_aload_n hx hb dX9_lowest_12 rfl (lv_at hl 1 rfl) ?_
                refine g_get C0 G h_m rfl hiX9 2 (by decide) mf_X9_9 rfl dX9_lowest_13 ?_
                refine lv_iconst (v := 4) hx hb dX9_lowest_16 (by decide) ?_
                refine g_iald C0 G h_v 0 rfl (by unfold vp_in; decide) dX9_lowest_17 ?_
                refine lv_topv (v := g 4) rfl ?_
                refine lv_topv (v := nI i) (h4) ?_
                refine lv_iload_n hx hb dX9_lowest_18 rfl (lv_at hl 0 rfl) ?_
                refine lv_iconst (v := 4) hx hb dX9_lowest_19 (by decide) ?_
                refine g_cI C0 G (g_runS C0 G (rest := [.ref v]) (k_X9_batterAt hfl (nI i) 7 4 ) hY_X9_batterAt mm_X9_65 ms_X9_batterAt ⟨(Nat.le_of_ble_eq_true rfl), (Nat.le_of_ble_eq_true rfl)⟩ rfl hl.1 rfl (Nat.le_of_ble_eq_true rfl) dX9_lowest_20 ⟨(Nat.le_of_ble_eq_true rfl), (Nat.le_of_ble_eq_true rfl)⟩) (kx_no rfl) (fun r56 u55 H locs hp54 G => ?_)
                obtain ⟨zr, eu55⟩ := hp54
                replace zr := Eq.symm zr
                subst zr
                rw [eu55] at G
                refine lv_topv (v := nI (69 + 6 * (11 * i + 7) + 4)) (bat_n i 7 4) ?_
                refine g_iald C0 G h_v 0 rfl (vp_in_nI (by omega) (by omega)) dX9_lowest_23 ?_
                refine lv_topv (v := g (69 + 6 * (11 * i + 7) + 4)) (congrArg g (nI_c (by omega))) ?_
                refine lv_iload_n hx hb dX9_lowest_24 rfl (lv_at hl 2 rfl) ?_
                refine lv_icmp_ne (tgt := 30) hx hb dX9_lowest_25 (by decide) (fun c57 => ?_) (fun c57 => ?_)
                · refine lv_iinc (v := 8) (lv' := [(2, .int 8), (0, .ref m), (1, .int status)]) hx hb dX9_lowest_30 hl (k := 0) rfl (by exact (by decide)) (by decide) rfl (fun ls hl => ?_)
                  refine lv_goto (tgt := 2) hx hb dX9_lowest_33 (by decide) ?_
                  refine lv_iload_n hx hb dX9_lowest_2 rfl (lv_at hl 0 rfl) ?_
                  refine lv_bipush (v := 11) hx hb dX9_lowest_3 (by decide) ?_
                  refine lv_icmp_ge (tgt := 36) hx hb dX9_lowest_5 (by decide) (fun c59 => absurd c59 (by decide)) (fun _ => ?_)
                  refine lv_aload_n hx hb dX9_lowest_8 rfl (lv_at hl 1 rfl) ?_
                  refine g_get C0 G h_m rfl hiX9 2 (by decide) mf_X9_9 rfl dX9_lowest_9 ?_
                  refine lv_aload_n hx hb dX9_lowest_12 rfl (lv_at hl 1 rfl) ?_
                  refine g_get C0 G h_m rfl hiX9 2 (by decide) mf_X9_9 rfl dX9_lowest_13 ?_
                  refine lv_iconst (v := 4) hx hb dX9_lowest_16 (by decide) ?_
                  refine g_iald C0 G h_v 0 rfl (by unfold vp_in; decide) dX9_lowest_17 ?_
                  refine lv_topv (v := g 4) rfl ?_
                  refine lv_topv (v := nI i) (h4) ?_
                  refine lv_iload_n hx hb dX9_lowest_18 rfl (lv_at hl 0 rfl) ?_
                  refine lv_iconst (v := 4) hx hb dX9_lowest_19 (by decide) ?_
                  refine g_cI C0 G (g_runS C0 G (rest := [.ref v]) (k_X9_batterAt hfl (nI i) 8 4 ) hY_X9_batterAt mm_X9_65 ms_X9_batterAt ⟨(Nat.le_of_ble_eq_true rfl), (Nat.le_of_ble_eq_true rfl)⟩ rfl hl.1 rfl (Nat.le_of_ble_eq_true rfl) dX9_lowest_20 ⟨(Nat.le_of_ble_eq_true rfl), (Nat.le_of_ble_eq_true rfl)⟩) (kx_no rfl) (fun r62 u61 H locs hp60 G => ?_)
                  obtain ⟨zr, eu61⟩ := hp60
                  replace zr := Eq.symm zr
                  subst zr
                  rw [eu61] at G
                  refine lv_topv (v := nI (69 + 6 * (11 * i + 8) + 4)) (bat_n i 8 4) ?_
                  refine g_iald C0 G h_v 0 rfl (vp_in_nI (by omega) (by omega)) dX9_lowest_23 ?_
                  refine lv_topv (v := g (69 + 6 * (11 * i + 8) + 4)) (congrArg g (nI_c (by omega))) ?_
                  refine lv_iload_n hx hb dX9_lowest_24 rfl (lv_at hl 2 rfl) ?_
                  refine lv_icmp_ne (tgt := 30) hx hb dX9_lowest_25 (by decide) (fun c63 => ?_) (fun c63 => ?_)
                  · refine lv_iinc (v := 9) (lv' := [(2, .int 9), (0, .ref m), (1, .int status)]) hx hb dX9_lowest_30 hl (k := 0) rfl (by exact (by decide)) (by decide) rfl (fun ls hl => ?_)
                    refine lv_goto (tgt := 2) hx hb dX9_lowest_33 (by decide) ?_
                    refine lv_iload_n hx hb dX9_lowest_2 rfl (lv_at hl 0 rfl) ?_
                    refine lv_bipush (v := 11) hx hb dX9_lowest_3 (by decide) ?_
                    refine lv_icmp_ge (tgt := 36) hx hb dX9_lowest_5 (by decide) (fun c65 => absurd c65 (by decide)) (fun _ => ?_)
                    refine lv_aload_n hx hb dX9_lowest_8 rfl (lv_at hl 1 rfl) ?_
                    refine g_get C0 G h_m rfl hiX9 2 (by decide) mf_X9_9 rfl dX9_lowest_9 ?_
                    refine lv_aload_n hx hb dX9_lowest_12 rfl (lv_at hl 1 rfl) ?_
                    refine g_get C0 G h_m rfl hiX9 2 (by decide) mf_X9_9 rfl dX9_lowest_13 ?_
                    refine lv_iconst (v := 4) hx hb dX9_lowest_16 (by decide) ?_
                    refine g_iald C0 G h_v 0 rfl (by unfold vp_in; decide) dX9_lowest_17 ?_
                    refine lv_topv (v := g 4) rfl ?_
                    refine lv_topv (v := nI i) (h4) ?_
                    refine lv_iload_n hx hb dX9_lowest_18 rfl (lv_at hl 0 rfl) ?_
                    refine lv_iconst (v := 4) hx hb dX9_lowest_19 (by decide) ?_
                    refine g_cI C0 G (g_runS C0 G (rest := [.ref v]) (k_X9_batterAt hfl (nI i) 9 4 ) hY_X9_batterAt mm_X9_65 ms_X9_batterAt ⟨(Nat.le_of_ble_eq_true rfl), (Nat.le_of_ble_eq_true rfl)⟩ rfl hl.1 rfl (Nat.le_of_ble_eq_true rfl) dX9_lowest_20 ⟨(Nat.le_of_ble_eq_true rfl), (Nat.le_of_ble_eq_true rfl)⟩) (kx_no rfl) (fun r68 u67 H locs hp66 G => ?_)
                    obtain ⟨zr, eu67⟩ := hp66
                    replace zr := Eq.symm zr
                    subst zr
                    rw [eu67] at G
                    refine lv_topv (v := nI (69 + 6 * (11 * i + 9) + 4)) (bat_n i 9 4) ?_
                    refine g_iald C0 G h_v 0 rfl (vp_in_nI (by omega) (by omega)) dX9_lowest_23 ?_
                    refine lv_topv (v := g (69 + 6 * (11 * i + 9) + 4)) (congrArg g (nI_c (by omega))) ?_
                    refine lv_iload_n hx hb dX9_lowest_24 rfl (lv_at hl 2 rfl) ?_
                    refine lv_icmp_ne (tgt := 30) hx hb dX9_lowest_25 (by decide) (fun c69 => ?_) (fun c69 => ?_)
                    · refine lv_iinc (v := 10) (lv' := [(2, .int 10), (0, .ref m), (1, .int status)]) hx hb dX9_lowest_30 hl (k := 0) rfl (by exact (by decide)) (by decide) rfl (fun ls hl => ?_)
                      refine lv_goto (tgt := 2) hx hb dX9_lowest_33 (by decide) ?_
                      refine lv_iload_n hx hb dX9_lowest_2 rfl (lv_at hl 0 rfl) ?_
                      refine lv_bipush (v := 11) hx hb dX9_lowest_3 (by decide) ?_
                      refine lv_icmp_ge (tgt := 36) hx hb dX9_lowest_5 (by decide) (fun c71 => absurd c71 (by decide)) (fun _ => ?_)
                      refine lv_aload_n hx hb dX9_lowest_8 rfl (lv_at hl 1 rfl) ?_
                      refine g_get C0 G h_m rfl hiX9 2 (by decide) mf_X9_9 rfl dX9_lowest_9 ?_
                      refine lv_aload_n hx hb dX9_lowest_12 rfl (lv_at hl 1 rfl) ?_
                      refine g_get C0 G h_m rfl hiX9 2 (by decide) mf_X9_9 rfl dX9_lowest_13 ?_
                      refine lv_iconst (v := 4) hx hb dX9_lowest_16 (by decide) ?_
                      refine g_iald C0 G h_v 0 rfl (by unfold vp_in; decide) dX9_lowest_17 ?_
                      refine lv_topv (v := g 4) rfl ?_
                      refine lv_topv (v := nI i) (h4) ?_
                      refine lv_iload_n hx hb dX9_lowest_18 rfl (lv_at hl 0 rfl) ?_
                      refine lv_iconst (v := 4) hx hb dX9_lowest_19 (by decide) ?_
                      refine g_cI C0 G (g_runS C0 G (rest := [.ref v]) (k_X9_batterAt hfl (nI i) 10 4 ) hY_X9_batterAt mm_X9_65 ms_X9_batterAt ⟨(Nat.le_of_ble_eq_true rfl), (Nat.le_of_ble_eq_true rfl)⟩ rfl hl.1 rfl (Nat.le_of_ble_eq_true rfl) dX9_lowest_20 ⟨(Nat.le_of_ble_eq_true rfl), (Nat.le_of_ble_eq_true rfl)⟩) (kx_no rfl) (fun r74 u73 H locs hp72 G => ?_)
                      obtain ⟨zr, eu73⟩ := hp72
                      replace zr := Eq.symm zr
                      subst zr
                      rw [eu73] at G
                      refine lv_topv (v := nI (69 + 6 * (11 * i + 10) + 4)) (bat_n i 10 4) ?_
                      refine g_iald C0 G h_v 0 rfl (vp_in_nI (by omega) (by omega)) dX9_lowest_23 ?_
                      refine lv_topv (v := g (69 + 6 * (11 * i + 10) + 4)) (congrArg g (nI_c (by omega))) ?_
                      refine lv_iload_n hx hb dX9_lowest_24 rfl (lv_at hl 2 rfl) ?_
                      refine lv_icmp_ne (tgt := 30) hx hb dX9_lowest_25 (by decide) (fun c75 => ?_) (fun c75 => ?_)
                      · refine lv_iinc (v := 11) (lv' := [(2, .int 11), (0, .ref m), (1, .int status)]) hx hb dX9_lowest_30 hl (k := 0) rfl (by exact (by decide)) (by decide) rfl (fun ls hl => ?_)
                        refine lv_goto (tgt := 2) hx hb dX9_lowest_33 (by decide) ?_
                        refine lv_iload_n hx hb dX9_lowest_2 rfl (lv_at hl 0 rfl) ?_
                        refine lv_bipush (v := 11) hx hb dX9_lowest_3 (by decide) ?_
                        refine lv_icmp_ge (tgt := 36) hx hb dX9_lowest_5 (by decide) (fun _ => ?_) (fun c77 => absurd (by decide) c77)
                        refine lv_iconst (v := (-1)) hx hb dX9_lowest_36 (by decide) ?_
                        exact g_iret C0 G hr dX9_lowest_37 (Nat.le_of_ble_eq_true rfl) (Nat.le_of_ble_eq_true rfl) (by exact ⟨(by rw [X9_lowest_r0, if_neg c15, if_neg c21, if_neg c27, if_neg c33, if_neg c39, if_neg c45, if_neg c51, if_neg c57, if_neg c63, if_neg c69, if_neg c75]), rfl⟩)
                      · refine lv_iload_n hx hb dX9_lowest_28 rfl (lv_at hl 0 rfl) ?_
                        exact g_iret C0 G hr dX9_lowest_29 (Nat.le_of_ble_eq_true rfl) (Nat.le_of_ble_eq_true rfl) (by exact ⟨(by rw [X9_lowest_r0, if_neg c15, if_neg c21, if_neg c27, if_neg c33, if_neg c39, if_neg c45, if_neg c51, if_neg c57, if_neg c63, if_neg c69, if_pos c75]), rfl⟩)
                    · refine lv_iload_n hx hb dX9_lowest_28 rfl (lv_at hl 0 rfl) ?_
                      exact g_iret C0 G hr dX9_lowest_29 (Nat.le_of_ble_eq_true rfl) (Nat.le_of_ble_eq_true rfl) (by exact ⟨(by rw [X9_lowest_r0, if_neg c15, if_neg c21, if_neg c27, if_neg c33, if_neg c39, if_neg c45, if_neg c51, if_neg c57, if_neg c63, if_pos c69]), rfl⟩)
                  · refine lv_iload_n hx hb dX9_lowest_28 rfl (lv_at hl 0 rfl) ?_
                    exact g_iret C0 G hr dX9_lowest_29 (Nat.le_of_ble_eq_true rfl) (Nat.le_of_ble_eq_true rfl) (by exact ⟨(by rw [X9_lowest_r0, if_neg c15, if_neg c21, if_neg c27, if_neg c33, if_neg c39, if_neg c45, if_neg c51, if_neg c57, if_pos c63]), rfl⟩)
                · refine lv_iload_n hx hb dX9_lowest_28 rfl (lv_at hl 0 rfl) ?_
                  exact g_iret C0 G hr dX9_lowest_29 (Nat.le_of_ble_eq_true rfl) (Nat.le_of_ble_eq_true rfl) (by exact ⟨(by rw [X9_lowest_r0, if_neg c15, if_neg c21, if_neg c27, if_neg c33, if_neg c39, if_neg c45, if_neg c51, if_pos c57]), rfl⟩)
              · refine lv_iload_n hx hb dX9_lowest_28 rfl (lv_at hl 0 rfl) ?_
                exact g_iret C0 G hr dX9_lowest_29 (Nat.le_of_ble_eq_true rfl) (Nat.le_of_ble_eq_true rfl) (by exact ⟨(by rw [X9_lowest_r0, if_neg c15, if_neg c21, if_neg c27, if_neg c33, if_neg c39, if_neg c45, if_pos c51]), rfl⟩)
            · refine lv_iload_n hx hb dX9_lowest_28 rfl (lv_at hl 0 rfl) ?_
              exact g_iret C0 G hr dX9_lowest_29 (Nat.le_of_ble_eq_true rfl) (Nat.le_of_ble_eq_true rfl) (by exact ⟨(by rw [X9_lowest_r0, if_neg c15, if_neg c21, if_neg c27, if_neg c33, if_neg c39, if_pos c45]), rfl⟩)
          · refine lv_iload_n hx hb dX9_lowest_28 rfl (lv_at hl 0 rfl) ?_
            exact g_iret C0 G hr dX9_lowest_29 (Nat.le_of_ble_eq_true rfl) (Nat.le_of_ble_eq_true rfl) (by exact ⟨(by rw [X9_lowest_r0, if_neg c15, if_neg c21, if_neg c27, if_neg c33, if_pos c39]), rfl⟩)
        · refine lv_iload_n hx hb dX9_lowest_28 rfl (lv_at hl 0 rfl) ?_
          exact g_iret C0 G hr dX9_lowest_29 (Nat.le_of_ble_eq_true rfl) (Nat.le_of_ble_eq_true rfl) (by exact ⟨(by rw [X9_lowest_r0, if_neg c15, if_neg c21, if_neg c27, if_pos c33]), rfl⟩)
      · refine lv_iload_n hx hb dX9_lowest_28 rfl (lv_at hl 0 rfl) ?_
        exact g_iret C0 G hr dX9_lowest_29 (Nat.le_of_ble_eq_true rfl) (Nat.le_of_ble_eq_true rfl) (by exact ⟨(by rw [X9_lowest_r0, if_neg c15, if_neg c21, if_pos c27]), rfl⟩)
    · refine lv_iload_n hx hb dX9_lowest_28 rfl (lv_at hl 0 rfl) ?_
      exact g_iret C0 G hr dX9_lowest_29 (Nat.le_of_ble_eq_true rfl) (Nat.le_of_ble_eq_true rfl) (by exact ⟨(by rw [X9_lowest_r0, if_neg c15, if_pos c21]), rfl⟩)
  · refine lv_iload_n hx hb dX9_lowest_28 rfl (lv_at hl 0 rfl) ?_
    exact g_iret C0 G hr dX9_lowest_29 (Nat.le_of_ble_eq_true rfl) (Nat.le_of_ble_eq_true rfl) (by exact ⟨(by rw [X9_lowest_r0, if_pos c15]), rfl⟩)
def X9_next_x0 (g : Nat → Int32) (i : Nat) : Int32 := if (X9_lowest_r0 g (-2) i) < 0 then (X9_lowest_r0 g 6 i) else (X9_lowest_r0 g (-2) i)
def X9_next_r1 (g : Nat → Int32) (i : Nat) : Int32 := if (g 8) < 0 then (X9_next_x0 g i) else (g 8)
set_option maxRecDepth 100000 in
theorem k_X9_next {l : Launch} (hfl : l.stackTraces = false) {D : va_G} {cy : Nat → ClassId} {f : Hf} {sz : Nat} {m : Nat} {v : Nat} {im : Nat} {kp : Nat} {pa : Nat} {de : Nat} {ide : Nat} {tx : Nat} {pt : Nat} {so : Nat} {mo : Nat} {wh : Nat} {pf : Nat} {c_th : Int32} {c_re : Int32} {c_un : Int32} {c_hi : Int32} {c_tn : Int32} {c_fa : Int32} {c_rf : Int32} {c_ps : Int32} {c_pl : Int32} {c_to : Int32} {g : Nat → Int32} {i : Nat} (h_m : f m = some (.inr (11, [.int c_th, .int c_re, .ref v, .ref im, .ref kp, .ref pa, .ref de, .ref ide, .int c_un, .int c_hi, .ref tx, .int c_tn, .int c_fa, .int c_rf, .ref pt, .int c_ps, .int c_pl, .int c_to, .ref so, .ref mo, .ref wh, .ref pf]))) (h_v : f v = some (.inl (cy 0, 6441, .inl g))) (h4 : g 4 = nI i) (hi : i < 4) : hMet l yX9_next cX9_next 2 (some .int) { frames := 2, cells := 0, slots := 0, locals := 44 } D (hTy cy) f sz [.ref m] (hQi (fun r u => r = (X9_next_r1 g i) ∧ u = f) D f sz) hNo := by
  refine h_enter (by decide) hfl (Nat.le_of_ble_eq_true rfl) ?_
  intro p9 e9 s9 m9 b9 t9 c9 hsz C0 hr hnm G ls hl
  have hx := C0.1.1
  have hb := C0.1.2.1
  have hl : lv_has ls 2 [(0, .ref m)] := hl
  refine lv_aload_n hx hb dX9_next_0 rfl (lv_at hl 0 rfl) ?_
  refine g_get C0 G h_m rfl hiX9 2 (by decide) mf_X9_9 rfl dX9_next_1 ?_
  refine lv_bipush (v := 8) hx hb dX9_next_4 (by decide) ?_
  refine g_iald C0 G h_v 0 rfl (by unfold vp_in; decide) dX9_next_6 ?_
  refine lv_topv (v := g 8) rfl ?_
  refine lv_if_lt (tgt := 18) hx hb dX9_next_7 (by decide) (fun c11 => ?_) (fun c11 => ?_)
  · refine lv_aload_n hx hb dX9_next_18 rfl (lv_at hl 0 rfl) ?_
    refine lv_bipush (v := (-2)) hx hb dX9_next_19 (by decide) ?_
    refine g_cI C0 G (g_runV C0 G (rest := []) (k_X9_lowest hfl (-2) h_m h_v h4 hi) h_m rfl hY_X9_lowest mm_X9_146 mi_X9_lowest ml_X9_lowest ⟨(Nat.le_of_ble_eq_true rfl), (Nat.le_of_ble_eq_true rfl)⟩ rfl hl.1 rfl (Nat.le_of_ble_eq_true rfl) dX9_next_21 ⟨(Nat.le_of_ble_eq_true rfl), (Nat.le_of_ble_eq_true rfl)⟩) (kx_no rfl) (fun r14 u13 H locs hp12 G => ?_)
    obtain ⟨zr, eu13⟩ := hp12
    replace zr := Eq.symm zr
    subst zr
    rw [eu13] at G
    refine lv_istore_n (lv' := [(1, .int (X9_lowest_r0 g (-2) i)), (0, .ref m)]) hx hb dX9_next_24 rfl hl (by decide) rfl (fun ls hl => ?_)
    refine lv_iload_n hx hb dX9_next_25 rfl (lv_at hl 0 rfl) ?_
    have J17 : ∀ (y16 : Int32) (_ : y16 = (X9_next_x0 g i)) (H : Heap) (locs : List Loc) (ls : Array Slot), hG D (hA f sz) f s9 H locs → lv_has ls 2 [(1, .int (X9_lowest_r0 g (-2) i)), (0, .ref m)] → W p9 l e9 ({ frames := 2, cells := 0, slots := 0, locals := 44 } : Room) s9 m9 ([.ref m] : List Value).toArray b9 t9 c9 H locs 0 0 (vx_MQ b9 (hQi (fun r u => r = (X9_next_r1 g i) ∧ u = f) D f sz) (hPx hNo D f sz) ([.ref m] : List Value).toArray s9 0 0 (hA f sz)) (F0 m9 39 ls [.int y16]) := by
      intro y16 ey16 H locs ls G hl
      replace ey16 := Eq.symm ey16
      subst ey16
      exact g_iret C0 G hr dX9_next_39 (Nat.le_of_ble_eq_true rfl) (Nat.le_of_ble_eq_true rfl) (by exact ⟨(by rw [X9_next_r1, if_pos c11]), rfl⟩)
    refine lv_if_lt (tgt := 33) hx hb dX9_next_26 (by decide) (fun c15 => ?_) (fun c15 => ?_)
    · refine lv_aload_n hx hb dX9_next_33 rfl (lv_at hl 1 rfl) ?_
      refine lv_bipush (v := 6) hx hb dX9_next_34 (by decide) ?_
      refine g_cI C0 G (g_runV C0 G (rest := []) (k_X9_lowest hfl 6 h_m h_v h4 hi) h_m rfl hY_X9_lowest mm_X9_146 mi_X9_lowest ml_X9_lowest ⟨(Nat.le_of_ble_eq_true rfl), (Nat.le_of_ble_eq_true rfl)⟩ rfl hl.1 rfl (Nat.le_of_ble_eq_true rfl) dX9_next_36 ⟨(Nat.le_of_ble_eq_true rfl), (Nat.le_of_ble_eq_true rfl)⟩) (kx_no rfl) (fun r21 u20 H locs hp19 G => ?_)
      obtain ⟨zr, eu20⟩ := hp19
      replace zr := Eq.symm zr
      subst zr
      rw [eu20] at G
      exact J17 (X9_lowest_r0 g 6 i) (by rw [X9_next_x0, if_pos c15]) _ _ _ G (lv_sub hl [0, 1] rfl)
    · refine lv_iload_n hx hb dX9_next_29 rfl (lv_at hl 0 rfl) ?_
      refine lv_goto (tgt := 39) hx hb dX9_next_30 (by decide) ?_
      exact J17 (X9_lowest_r0 g (-2) i) (by rw [X9_next_x0, if_neg c15]) _ _ _ G (lv_sub hl [0, 1] rfl)
  · refine lv_aload_n hx hb dX9_next_10 rfl (lv_at hl 0 rfl) ?_
    refine g_get C0 G h_m rfl hiX9 2 (by decide) mf_X9_9 rfl dX9_next_11 ?_
    refine lv_bipush (v := 8) hx hb dX9_next_14 (by decide) ?_
    refine g_iald C0 G h_v 0 rfl (by unfold vp_in; decide) dX9_next_16 ?_
    refine lv_topv (v := g 8) rfl ?_
    exact g_iret C0 G hr dX9_next_17 (Nat.le_of_ble_eq_true rfl) (Nat.le_of_ble_eq_true rfl) (by exact ⟨(by rw [X9_next_r1, if_neg c11]), rfl⟩)
def X9_begun_r0 (g : Nat → Int32) (i : Nat) : Int32 := (g (25 + 11 * i + 8)) + (g (25 + 11 * i + 10))
set_option maxRecDepth 100000 in
theorem k_X9_begun {l : Launch} (hfl : l.stackTraces = false) {D : va_G} {cy : Nat → ClassId} {f : Hf} {sz : Nat} {m : Nat} {v : Nat} {im : Nat} {kp : Nat} {pa : Nat} {de : Nat} {ide : Nat} {tx : Nat} {pt : Nat} {so : Nat} {mo : Nat} {wh : Nat} {pf : Nat} {c_th : Int32} {c_re : Int32} {c_un : Int32} {c_hi : Int32} {c_tn : Int32} {c_fa : Int32} {c_rf : Int32} {c_ps : Int32} {c_pl : Int32} {c_to : Int32} {g : Nat → Int32} {i : Nat} (h_m : f m = some (.inr (11, [.int c_th, .int c_re, .ref v, .ref im, .ref kp, .ref pa, .ref de, .ref ide, .int c_un, .int c_hi, .ref tx, .int c_tn, .int c_fa, .int c_rf, .ref pt, .int c_ps, .int c_pl, .int c_to, .ref so, .ref mo, .ref wh, .ref pf]))) (h_v : f v = some (.inl (cy 0, 6441, .inl g))) (h4 : g 4 = nI i) (hi : i < 4) : hMet l yX9_begun cX9_begun 1 (some .int) { frames := 1, cells := 0, slots := 0, locals := 21 } D (hTy cy) f sz [.ref m] (hQi (fun r u => r = (X9_begun_r0 g i) ∧ u = f) D f sz) hNo := by
  refine h_enter (by decide) hfl (Nat.le_of_ble_eq_true rfl) ?_
  intro p9 e9 s9 m9 b9 t9 c9 hsz C0 hr hnm G ls hl
  have hx := C0.1.1
  have hb := C0.1.2.1
  have hl : lv_has ls 1 [(0, .ref m)] := hl
  refine lv_aload_n hx hb dX9_begun_0 rfl (lv_at hl 0 rfl) ?_
  refine g_get C0 G h_m rfl hiX9 2 (by decide) mf_X9_9 rfl dX9_begun_1 ?_
  refine lv_aload_n hx hb dX9_begun_4 rfl (lv_at hl 0 rfl) ?_
  refine g_get C0 G h_m rfl hiX9 2 (by decide) mf_X9_9 rfl dX9_begun_5 ?_
  refine lv_iconst (v := 4) hx hb dX9_begun_8 (by decide) ?_
  refine g_iald C0 G h_v 0 rfl (by unfold vp_in; decide) dX9_begun_9 ?_
  refine lv_topv (v := g 4) rfl ?_
  refine lv_topv (v := nI i) (h4) ?_
  refine lv_bipush (v := 8) hx hb dX9_begun_10 (by decide) ?_
  refine g_cI C0 G (g_runS C0 G (rest := [.ref v]) (k_X9_at hfl (nI i) 8 ) hY_X9_at mm_X9_62 ms_X9_at ⟨(Nat.le_of_ble_eq_true rfl), (Nat.le_of_ble_eq_true rfl)⟩ rfl hl.1 rfl (Nat.le_of_ble_eq_true rfl) dX9_begun_12 ⟨(Nat.le_of_ble_eq_true rfl), (Nat.le_of_ble_eq_true rfl)⟩) (kx_no rfl) (fun r13 u12 H locs hp11 G => ?_)
  obtain ⟨zr, eu12⟩ := hp11
  replace zr := Eq.symm zr
  subst zr
  rw [eu12] at G
  refine lv_topv (v := nI (25 + 11 * i + 8)) (at_n i 8) ?_
  refine g_iald C0 G h_v 0 rfl (vp_in_nI (by omega) (by omega)) dX9_begun_15 ?_
  refine lv_topv (v := g (25 + 11 * i + 8)) (congrArg g (nI_c (by omega))) ?_
  refine lv_aload_n hx hb dX9_begun_16 rfl (lv_at hl 0 rfl) ?_
  refine g_get C0 G h_m rfl hiX9 2 (by decide) mf_X9_9 rfl dX9_begun_17 ?_
  refine lv_aload_n hx hb dX9_begun_20 rfl (lv_at hl 0 rfl) ?_
  refine g_get C0 G h_m rfl hiX9 2 (by decide) mf_X9_9 rfl dX9_begun_21 ?_
  refine lv_iconst (v := 4) hx hb dX9_begun_24 (by decide) ?_
  refine g_iald C0 G h_v 0 rfl (by unfold vp_in; decide) dX9_begun_25 ?_
  refine lv_topv (v := g 4) rfl ?_
  refine lv_topv (v := nI i) (h4) ?_
  refine lv_bipush (v := 10) hx hb dX9_begun_26 (by decide) ?_
  refine g_cI C0 G (g_runS C0 G (rest := [.ref v, .int (g (25 + 11 * i + 8))]) (k_X9_at hfl (nI i) 10 ) hY_X9_at mm_X9_62 ms_X9_at ⟨(Nat.le_of_ble_eq_true rfl), (Nat.le_of_ble_eq_true rfl)⟩ rfl hl.1 rfl (Nat.le_of_ble_eq_true rfl) dX9_begun_28 ⟨(Nat.le_of_ble_eq_true rfl), (Nat.le_of_ble_eq_true rfl)⟩) (kx_no rfl) (fun r16 u15 H locs hp14 G => ?_)
  obtain ⟨zr, eu15⟩ := hp14
  replace zr := Eq.symm zr
  subst zr
  rw [eu15] at G
  refine lv_topv (v := nI (25 + 11 * i + 10)) (at_n i 10) ?_
  refine g_iald C0 G h_v 0 rfl (vp_in_nI (by omega) (by omega)) dX9_begun_31 ?_
  refine lv_topv (v := g (25 + 11 * i + 10)) (congrArg g (nI_c (by omega))) ?_
  refine lv_iadd hx hb dX9_begun_32 ?_
  exact g_iret C0 G hr dX9_begun_33 (Nat.le_of_ble_eq_true rfl) (Nat.le_of_ble_eq_true rfl) (by exact ⟨(by rw [X9_begun_r0]), rfl⟩)
def X9_opens_g0 (g : Nat → Int32) (i : Nat) : Nat → Int32 := upd g 4 (nI i)
def X9_opens_g1 (g : Nat → Int32) (i : Nat) : Nat → Int32 := upd (X9_opens_g0 g i) 6 0
def X9_opens_g2 (g : Nat → Int32) (i : Nat) : Nat → Int32 := upd (X9_opens_g1 g i) 7 1
def X9_opens_g3 (g : Nat → Int32) (i : Nat) : Nat → Int32 := upd (X9_opens_g2 g i) 8 (-1)
def X9_opens_g4 (g : Nat → Int32) (i : Nat) : Nat → Int32 := upd (X9_opens_g3 g i) 9 (-1)
def X9_opens_g5 (g : Nat → Int32) (i : Nat) : Nat → Int32 := upd (X9_opens_g4 g i) 10 0
def X9_opens_g6 (g : Nat → Int32) (i : Nat) : Nat → Int32 := upd (X9_opens_g5 g i) 11 0
def X9_opens_g7 (g : Nat → Int32) (i : Nat) : Nat → Int32 := upd (X9_opens_g6 g i) 12 (-1)
def X9_opens_g8 (g : Nat → Int32) (i : Nat) : Nat → Int32 := upd (X9_opens_g7 g i) 13 ((X9_opens_g7 g i) 3)
def X9_opens_g9 (g : Nat → Int32) (i : Nat) : Nat → Int32 := if ((X9_opens_g7 g i) 1) = 2 then (X9_opens_g8 g i) else (X9_opens_g7 g i)
def X9_opens_g10 (g : Nat → Int32) (i : Nat) : Nat → Int32 := if (nI i) = 0 then (X9_opens_g8 g i) else (X9_opens_g9 g i)
def X9_opens_g11 (g : Nat → Int32) (i : Nat) : Nat → Int32 := upd (X9_opens_g10 g i) (18 + i) ((X9_opens_g10 g i) 13)
def X9_opens_x12 (g : Nat → Int32) (i : Nat) : Int32 := if ((X9_opens_g11 g i) 1) = 1 then (X9_worth_r0 (6 * ((X9_opens_g11 g i) 13)) 0) else 0
def X9_opens_g13 (g : Nat → Int32) (i : Nat) : Nat → Int32 := upd (X9_opens_g11 g i) (14 + i) (X9_opens_x12 g i)
def X9_opens_g14 (g : Nat → Int32) (i : Nat) (s : Nat) : Nat → Int32 := upd (X9_opens_g13 g i) (25 + 11 * i + 9) (nI s)
def X9_opens_g15 (g : Nat → Int32) (i : Nat) (s : Nat) : Nat → Int32 := upd (X9_opens_g14 g i s) (69 + 6 * (11 * i + 0) + 4) (-1)
def X9_opens_g16 (g : Nat → Int32) (i : Nat) (s : Nat) : Nat → Int32 := upd (X9_opens_g15 g i s) (69 + 6 * (11 * i + 0) + 5) (-1)
def X9_opens_g17 (g : Nat → Int32) (i : Nat) (s : Nat) : Nat → Int32 := upd (X9_opens_g16 g i s) (69 + 6 * (11 * i + 1) + 4) (-1)
def X9_opens_g18 (g : Nat → Int32) (i : Nat) (s : Nat) : Nat → Int32 := upd (X9_opens_g17 g i s) (69 + 6 * (11 * i + 1) + 5) (-1)
def X9_opens_g19 (g : Nat → Int32) (i : Nat) (s : Nat) : Nat → Int32 := upd (X9_opens_g18 g i s) (69 + 6 * (11 * i + 2) + 4) (-2)
def X9_opens_g20 (g : Nat → Int32) (i : Nat) (s : Nat) : Nat → Int32 := upd (X9_opens_g19 g i s) (69 + 6 * (11 * i + 2) + 5) (-1)
def X9_opens_g21 (g : Nat → Int32) (i : Nat) (s : Nat) : Nat → Int32 := upd (X9_opens_g20 g i s) (69 + 6 * (11 * i + 3) + 4) (-2)
def X9_opens_g22 (g : Nat → Int32) (i : Nat) (s : Nat) : Nat → Int32 := upd (X9_opens_g21 g i s) (69 + 6 * (11 * i + 3) + 5) (-1)
def X9_opens_g23 (g : Nat → Int32) (i : Nat) (s : Nat) : Nat → Int32 := upd (X9_opens_g22 g i s) (69 + 6 * (11 * i + 4) + 4) (-2)
def X9_opens_g24 (g : Nat → Int32) (i : Nat) (s : Nat) : Nat → Int32 := upd (X9_opens_g23 g i s) (69 + 6 * (11 * i + 4) + 5) (-1)
def X9_opens_g25 (g : Nat → Int32) (i : Nat) (s : Nat) : Nat → Int32 := upd (X9_opens_g24 g i s) (69 + 6 * (11 * i + 5) + 4) (-2)
def X9_opens_g26 (g : Nat → Int32) (i : Nat) (s : Nat) : Nat → Int32 := upd (X9_opens_g25 g i s) (69 + 6 * (11 * i + 5) + 5) (-1)
def X9_opens_g27 (g : Nat → Int32) (i : Nat) (s : Nat) : Nat → Int32 := upd (X9_opens_g26 g i s) (69 + 6 * (11 * i + 6) + 4) (-2)
def X9_opens_g28 (g : Nat → Int32) (i : Nat) (s : Nat) : Nat → Int32 := upd (X9_opens_g27 g i s) (69 + 6 * (11 * i + 6) + 5) (-1)
def X9_opens_g29 (g : Nat → Int32) (i : Nat) (s : Nat) : Nat → Int32 := upd (X9_opens_g28 g i s) (69 + 6 * (11 * i + 7) + 4) (-2)
def X9_opens_g30 (g : Nat → Int32) (i : Nat) (s : Nat) : Nat → Int32 := upd (X9_opens_g29 g i s) (69 + 6 * (11 * i + 7) + 5) (-1)
def X9_opens_g31 (g : Nat → Int32) (i : Nat) (s : Nat) : Nat → Int32 := upd (X9_opens_g30 g i s) (69 + 6 * (11 * i + 8) + 4) (-2)
def X9_opens_g32 (g : Nat → Int32) (i : Nat) (s : Nat) : Nat → Int32 := upd (X9_opens_g31 g i s) (69 + 6 * (11 * i + 8) + 5) (-1)
def X9_opens_g33 (g : Nat → Int32) (i : Nat) (s : Nat) : Nat → Int32 := upd (X9_opens_g32 g i s) (69 + 6 * (11 * i + 9) + 4) (-2)
def X9_opens_g34 (g : Nat → Int32) (i : Nat) (s : Nat) : Nat → Int32 := upd (X9_opens_g33 g i s) (69 + 6 * (11 * i + 9) + 5) (-1)
def X9_opens_g35 (g : Nat → Int32) (i : Nat) (s : Nat) : Nat → Int32 := upd (X9_opens_g34 g i s) (69 + 6 * (11 * i + 10) + 4) (-2)
def X9_opens_g36 (g : Nat → Int32) (i : Nat) (s : Nat) : Nat → Int32 := upd (X9_opens_g35 g i s) (69 + 6 * (11 * i + 10) + 5) (-1)
def X9_opens_g37 (g : Nat → Int32) (i : Nat) (s : Nat) : Nat → Int32 := (X9_share_g13 (X9_opens_g36 g i s) s)
set_option maxRecDepth 100000 in
theorem k_X9_opens {l : Launch} (hfl : l.stackTraces = false) {D : va_G} {cy : Nat → ClassId} {f : Hf} {sz : Nat} {m : Nat} {v : Nat} {im : Nat} {kp : Nat} {pa : Nat} {de : Nat} {ide : Nat} {tx : Nat} {pt : Nat} {so : Nat} {mo : Nat} {wh : Nat} {pf : Nat} {c_th : Int32} {c_re : Int32} {c_un : Int32} {c_hi : Int32} {c_tn : Int32} {c_fa : Int32} {c_rf : Int32} {c_ps : Int32} {c_pl : Int32} {c_to : Int32} {g : Nat → Int32} {i : Nat} {s : Nat} (h_m : f m = some (.inr (11, [.int c_th, .int c_re, .ref v, .ref im, .ref kp, .ref pa, .ref de, .ref ide, .int c_un, .int c_hi, .ref tx, .int c_tn, .int c_fa, .int c_rf, .ref pt, .int c_ps, .int c_pl, .int c_to, .ref so, .ref mo, .ref wh, .ref pf]))) (h_v : f v = some (.inl (cy 0, 6441, .inl g))) (hi : i < 4) (h22 : g 22 = nI s) (hs : s < 700) : hMet l yX9_opens cX9_opens 3 none { frames := 1, cells := 0, slots := 0, locals := 24 } D (hTy cy) f sz [.ref m, .int (nI i)] (hQv (fun u => u v = some (.inl (cy 0, 6441, .inl (X9_opens_g37 g i s))) ∧ hFrL f u [v]) D f sz) hNo := by
  refine h_enter (by decide) hfl (Nat.le_of_ble_eq_true rfl) ?_
  intro p9 e9 s9 m9 b9 t9 c9 hsz C0 hr hnm G ls hl
  have hx := C0.1.1
  have hb := C0.1.2.1
  have hl : lv_has ls 3 [(0, .ref m), (1, .int (nI i))] := hl
  refine lv_aload_n hx hb dX9_opens_0 rfl (lv_at hl 0 rfl) ?_
  refine g_get C0 G h_m rfl hiX9 2 (by decide) mf_X9_9 rfl dX9_opens_1 ?_
  refine lv_iconst (v := 4) hx hb dX9_opens_4 (by decide) ?_
  refine lv_iload_n hx hb dX9_opens_5 rfl (lv_at hl 1 rfl) ?_
  refine g_iast C0 G h_v 0 rfl (by unfold vp_in; decide) dX9_opens_6 (fun H locs f11 hf11 G => ?_)
  have k12 : f11 v = some (.inl (cy 0, 6441, .inl (X9_opens_g0 g i))) := hus hf11
  refine lv_aload_n hx hb dX9_opens_7 rfl (lv_at hl 0 rfl) ?_
  have k13 : f11 m = some (.inr (11, [.int c_th, .int c_re, .ref v, .ref im, .ref kp, .ref pa, .ref de, .ref ide, .int c_un, .int c_hi, .ref tx, .int c_tn, .int c_fa, .int c_rf, .ref pt, .int c_ps, .int c_pl, .int c_to, .ref so, .ref mo, .ref wh, .ref pf])) := hup hf11 (hne h_m h_v (by intro q; cases q)) h_m
  refine g_get C0 G k13 rfl hiX9 2 (by decide) mf_X9_9 rfl dX9_opens_8 ?_
  refine lv_bipush (v := 6) hx hb dX9_opens_11 (by decide) ?_
  refine lv_iconst (v := 0) hx hb dX9_opens_13 (by decide) ?_
  refine g_iast C0 G k12 0 rfl (by unfold vp_in; decide) dX9_opens_14 (fun H locs f14 hf14 G => ?_)
  have k15 : f14 v = some (.inl (cy 0, 6441, .inl (X9_opens_g1 g i))) := hus hf14
  refine lv_aload_n hx hb dX9_opens_15 rfl (lv_at hl 0 rfl) ?_
  have k16 : f14 m = some (.inr (11, [.int c_th, .int c_re, .ref v, .ref im, .ref kp, .ref pa, .ref de, .ref ide, .int c_un, .int c_hi, .ref tx, .int c_tn, .int c_fa, .int c_rf, .ref pt, .int c_ps, .int c_pl, .int c_to, .ref so, .ref mo, .ref wh, .ref pf])) := hup hf14 (hne k13 k12 (by intro q; cases q)) k13
  refine g_get C0 G k16 rfl hiX9 2 (by decide) mf_X9_9 rfl dX9_opens_16 ?_
  refine lv_bipush (v := 7) hx hb dX9_opens_19 (by decide) ?_
  refine lv_iconst (v := 1) hx hb dX9_opens_21 (by decide) ?_
  refine g_iast C0 G k15 0 rfl (by unfold vp_in; decide) dX9_opens_22 (fun H locs f17 hf17 G => ?_)
  have k18 : f17 v = some (.inl (cy 0, 6441, .inl (X9_opens_g2 g i))) := hus hf17
  refine lv_aload_n hx hb dX9_opens_23 rfl (lv_at hl 0 rfl) ?_
  have k19 : f17 m = some (.inr (11, [.int c_th, .int c_re, .ref v, .ref im, .ref kp, .ref pa, .ref de, .ref ide, .int c_un, .int c_hi, .ref tx, .int c_tn, .int c_fa, .int c_rf, .ref pt, .int c_ps, .int c_pl, .int c_to, .ref so, .ref mo, .ref wh, .ref pf])) := hup hf17 (hne k16 k15 (by intro q; cases q)) k16
  refine g_get C0 G k19 rfl hiX9 2 (by decide) mf_X9_9 rfl dX9_opens_24 ?_
  refine lv_bipush (v := 8) hx hb dX9_opens_27 (by decide) ?_
  refine lv_iconst (v := (-1)) hx hb dX9_opens_29 (by decide) ?_
  refine g_iast C0 G k18 0 rfl (by unfold vp_in; decide) dX9_opens_30 (fun H locs f20 hf20 G => ?_)
  have k21 : f20 v = some (.inl (cy 0, 6441, .inl (X9_opens_g3 g i))) := hus hf20
  refine lv_aload_n hx hb dX9_opens_31 rfl (lv_at hl 0 rfl) ?_
  have k22 : f20 m = some (.inr (11, [.int c_th, .int c_re, .ref v, .ref im, .ref kp, .ref pa, .ref de, .ref ide, .int c_un, .int c_hi, .ref tx, .int c_tn, .int c_fa, .int c_rf, .ref pt, .int c_ps, .int c_pl, .int c_to, .ref so, .ref mo, .ref wh, .ref pf])) := hup hf20 (hne k19 k18 (by intro q; cases q)) k19
  refine g_get C0 G k22 rfl hiX9 2 (by decide) mf_X9_9 rfl dX9_opens_32 ?_
  refine lv_bipush (v := 9) hx hb dX9_opens_35 (by decide) ?_
  refine lv_iconst (v := (-1)) hx hb dX9_opens_37 (by decide) ?_
  refine g_iast C0 G k21 0 rfl (by unfold vp_in; decide) dX9_opens_38 (fun H locs f23 hf23 G => ?_)
  have k24 : f23 v = some (.inl (cy 0, 6441, .inl (X9_opens_g4 g i))) := hus hf23
  refine lv_aload_n hx hb dX9_opens_39 rfl (lv_at hl 0 rfl) ?_
  have k25 : f23 m = some (.inr (11, [.int c_th, .int c_re, .ref v, .ref im, .ref kp, .ref pa, .ref de, .ref ide, .int c_un, .int c_hi, .ref tx, .int c_tn, .int c_fa, .int c_rf, .ref pt, .int c_ps, .int c_pl, .int c_to, .ref so, .ref mo, .ref wh, .ref pf])) := hup hf23 (hne k22 k21 (by intro q; cases q)) k22
  refine g_get C0 G k25 rfl hiX9 2 (by decide) mf_X9_9 rfl dX9_opens_40 ?_
  refine lv_bipush (v := 10) hx hb dX9_opens_43 (by decide) ?_
  refine lv_iconst (v := 0) hx hb dX9_opens_45 (by decide) ?_
  refine g_iast C0 G k24 0 rfl (by unfold vp_in; decide) dX9_opens_46 (fun H locs f26 hf26 G => ?_)
  have k27 : f26 v = some (.inl (cy 0, 6441, .inl (X9_opens_g5 g i))) := hus hf26
  refine lv_aload_n hx hb dX9_opens_47 rfl (lv_at hl 0 rfl) ?_
  have k28 : f26 m = some (.inr (11, [.int c_th, .int c_re, .ref v, .ref im, .ref kp, .ref pa, .ref de, .ref ide, .int c_un, .int c_hi, .ref tx, .int c_tn, .int c_fa, .int c_rf, .ref pt, .int c_ps, .int c_pl, .int c_to, .ref so, .ref mo, .ref wh, .ref pf])) := hup hf26 (hne k25 k24 (by intro q; cases q)) k25
  refine g_get C0 G k28 rfl hiX9 2 (by decide) mf_X9_9 rfl dX9_opens_48 ?_
  refine lv_bipush (v := 11) hx hb dX9_opens_51 (by decide) ?_
  refine lv_iconst (v := 0) hx hb dX9_opens_53 (by decide) ?_
  refine g_iast C0 G k27 0 rfl (by unfold vp_in; decide) dX9_opens_54 (fun H locs f29 hf29 G => ?_)
  have k30 : f29 v = some (.inl (cy 0, 6441, .inl (X9_opens_g6 g i))) := hus hf29
  refine lv_aload_n hx hb dX9_opens_55 rfl (lv_at hl 0 rfl) ?_
  have k31 : f29 m = some (.inr (11, [.int c_th, .int c_re, .ref v, .ref im, .ref kp, .ref pa, .ref de, .ref ide, .int c_un, .int c_hi, .ref tx, .int c_tn, .int c_fa, .int c_rf, .ref pt, .int c_ps, .int c_pl, .int c_to, .ref so, .ref mo, .ref wh, .ref pf])) := hup hf29 (hne k28 k27 (by intro q; cases q)) k28
  refine g_get C0 G k31 rfl hiX9 2 (by decide) mf_X9_9 rfl dX9_opens_56 ?_
  refine lv_bipush (v := 12) hx hb dX9_opens_59 (by decide) ?_
  refine lv_iconst (v := (-1)) hx hb dX9_opens_61 (by decide) ?_
  refine g_iast C0 G k30 0 rfl (by unfold vp_in; decide) dX9_opens_62 (fun H locs f32 hf32 G => ?_)
  have k33 : f32 v = some (.inl (cy 0, 6441, .inl (X9_opens_g7 g i))) := hus hf32
  refine lv_iload_n hx hb dX9_opens_63 rfl (lv_at hl 1 rfl) ?_
  have J36 : ∀ (y35 : Nat → Int32) (_ : y35 = (X9_opens_g10 g i)) (f37 : Hf) (H : Heap) (locs : List Loc) (ls : Array Slot), f37 v = some (.inl (cy 0, 6441, .inl y35)) → hFrL f32 f37 [v] → hG D (hA f sz) f37 s9 H locs → lv_has ls 3 [(0, .ref m), (1, .int (nI i))] → W p9 l e9 ({ frames := 1, cells := 0, slots := 0, locals := 24 } : Room) s9 m9 ([.ref m, .int (nI i)] : List Value).toArray b9 t9 c9 H locs 0 0 (vx_MQ b9 (hQv (fun u => u v = some (.inl (cy 0, 6441, .inl (X9_opens_g37 g i s))) ∧ hFrL f u [v]) D f sz) (hPx hNo D f sz) ([.ref m, .int (nI i)] : List Value).toArray s9 0 0 (hA f sz)) (F0 m9 90 ls []) := by
    intro y35 ey35 f37 H locs ls k38 fr39 G hl
    replace ey35 := Eq.symm ey35
    subst ey35
    refine lv_aload_n hx hb dX9_opens_90 rfl (lv_at hl 0 rfl) ?_
    have k40 : f37 m = some (.inr (11, [.int c_th, .int c_re, .ref v, .ref im, .ref kp, .ref pa, .ref de, .ref ide, .int c_un, .int c_hi, .ref tx, .int c_tn, .int c_fa, .int c_rf, .ref pt, .int c_ps, .int c_pl, .int c_to, .ref so, .ref mo, .ref wh, .ref pf])) := fr39 _ _ (by simp only [List.mem_cons, List.not_mem_nil, or_false]; intro q; exact (hne (hup hf32 (hne k31 k30 (by intro q; cases q)) k31) k33 (by intro q; cases q)) q) (hup hf32 (hne k31 k30 (by intro q; cases q)) k31)
    refine g_get C0 G k40 rfl hiX9 2 (by decide) mf_X9_9 rfl dX9_opens_91 ?_
    refine lv_bipush (v := 18) hx hb dX9_opens_94 (by decide) ?_
    refine lv_iload_n hx hb dX9_opens_96 rfl (lv_at hl 1 rfl) ?_
    refine lv_iadd hx hb dX9_opens_97 ?_
    refine lv_topv (v := nI (18 + i)) ((nI_add _ _)) ?_
    refine lv_aload_n hx hb dX9_opens_98 rfl (lv_at hl 0 rfl) ?_
    refine g_get C0 G k40 rfl hiX9 2 (by decide) mf_X9_9 rfl dX9_opens_99 ?_
    refine lv_bipush (v := 13) hx hb dX9_opens_102 (by decide) ?_
    refine g_iald C0 G k38 0 rfl (by unfold vp_in; decide) dX9_opens_104 ?_
    refine lv_topv (v := (X9_opens_g10 g i) 13) rfl ?_
    refine g_iast C0 G k38 0 rfl (vp_in_nI (by omega) (by omega)) dX9_opens_105 (fun H locs f41 hf41 G => ?_)
    have k42 : f41 v = some (.inl (cy 0, 6441, .inl (X9_opens_g11 g i))) := (by have h9 := hus hf41; rw [nI_c (by omega)] at h9; exact h9)
    refine lv_aload_n hx hb dX9_opens_106 rfl (lv_at hl 0 rfl) ?_
    have k43 : f41 m = some (.inr (11, [.int c_th, .int c_re, .ref v, .ref im, .ref kp, .ref pa, .ref de, .ref ide, .int c_un, .int c_hi, .ref tx, .int c_tn, .int c_fa, .int c_rf, .ref pt, .int c_ps, .int c_pl, .int c_to, .ref so, .ref mo, .ref wh, .ref pf])) := hup hf41 (hne k40 k38 (by intro q; cases q)) k40
    refine g_get C0 G k43 rfl hiX9 2 (by decide) mf_X9_9 rfl dX9_opens_107 ?_
    refine lv_bipush (v := 14) hx hb dX9_opens_110 (by decide) ?_
    refine lv_iload_n hx hb dX9_opens_112 rfl (lv_at hl 1 rfl) ?_
    refine lv_iadd hx hb dX9_opens_113 ?_
    refine lv_topv (v := nI (14 + i)) ((nI_add _ _)) ?_
    refine lv_aload_n hx hb dX9_opens_114 rfl (lv_at hl 0 rfl) ?_
    refine g_get C0 G k43 rfl hiX9 2 (by decide) mf_X9_9 rfl dX9_opens_115 ?_
    refine lv_iconst (v := 1) hx hb dX9_opens_118 (by decide) ?_
    refine g_iald C0 G k42 0 rfl (by unfold vp_in; decide) dX9_opens_119 ?_
    refine lv_topv (v := (X9_opens_g11 g i) 1) rfl ?_
    refine lv_iconst (v := 1) hx hb dX9_opens_120 (by decide) ?_
    have J46 : ∀ (y45 : Int32) (_ : y45 = (X9_opens_x12 g i)) (H : Heap) (locs : List Loc) (ls : Array Slot), hG D (hA f sz) f41 s9 H locs → lv_has ls 3 [(0, .ref m), (1, .int (nI i))] → W p9 l e9 ({ frames := 1, cells := 0, slots := 0, locals := 24 } : Room) s9 m9 ([.ref m, .int (nI i)] : List Value).toArray b9 t9 c9 H locs 0 0 (vx_MQ b9 (hQv (fun u => u v = some (.inl (cy 0, 6441, .inl (X9_opens_g37 g i s))) ∧ hFrL f u [v]) D f sz) (hPx hNo D f sz) ([.ref m, .int (nI i)] : List Value).toArray s9 0 0 (hA f sz)) (F0 m9 142 ls [.int y45, .int (nI (14 + i)), .ref v]) := by
      intro y45 ey45 H locs ls G hl
      replace ey45 := Eq.symm ey45
      subst ey45
      refine g_iast C0 G k42 0 rfl (vp_in_nI (by omega) (by omega)) dX9_opens_142 (fun H locs f48 hf48 G => ?_)
      have k49 : f48 v = some (.inl (cy 0, 6441, .inl (X9_opens_g13 g i))) := (by have h9 := hus hf48; rw [nI_c (by omega)] at h9; exact h9)
      refine lv_aload_n hx hb dX9_opens_143 rfl (lv_at hl 0 rfl) ?_
      have k50 : f48 m = some (.inr (11, [.int c_th, .int c_re, .ref v, .ref im, .ref kp, .ref pa, .ref de, .ref ide, .int c_un, .int c_hi, .ref tx, .int c_tn, .int c_fa, .int c_rf, .ref pt, .int c_ps, .int c_pl, .int c_to, .ref so, .ref mo, .ref wh, .ref pf])) := hup hf48 (hne k43 k42 (by intro q; cases q)) k43
      refine g_get C0 G k50 rfl hiX9 2 (by decide) mf_X9_9 rfl dX9_opens_144 ?_
      refine lv_iload_n hx hb dX9_opens_147 rfl (lv_at hl 1 rfl) ?_
      refine lv_bipush (v := 9) hx hb dX9_opens_148 (by decide) ?_
      refine g_cI C0 G (g_runS C0 G (rest := [.ref v]) (k_X9_at hfl (nI i) 9 ) hY_X9_at mm_X9_62 ms_X9_at ⟨(Nat.le_of_ble_eq_true rfl), (Nat.le_of_ble_eq_true rfl)⟩ rfl hl.1 rfl (Nat.le_of_ble_eq_true rfl) dX9_opens_150 ⟨(Nat.le_of_ble_eq_true rfl), (Nat.le_of_ble_eq_true rfl)⟩) (kx_no rfl) (fun r53 u52 H locs hp51 G => ?_)
      obtain ⟨zr, eu52⟩ := hp51
      replace zr := Eq.symm zr
      subst zr
      rw [eu52] at G
      refine lv_topv (v := nI (25 + 11 * i + 9)) (at_n i 9) ?_
      refine lv_aload_n hx hb dX9_opens_153 rfl (lv_at hl 0 rfl) ?_
      refine g_get C0 G k50 rfl hiX9 2 (by decide) mf_X9_9 rfl dX9_opens_154 ?_
      refine lv_bipush (v := 22) hx hb dX9_opens_157 (by decide) ?_
      refine g_iald C0 G k49 0 rfl (by unfold vp_in; decide) dX9_opens_159 ?_
      refine lv_topv (v := (X9_opens_g13 g i) 22) rfl ?_
      refine lv_topv (v := nI s) ((by rw [X9_opens_g13, upd_off (by omega)]; exact (by rw [X9_opens_g11, upd_off (by omega)]; exact (by rw [X9_opens_g10]; split; exact (by rw [X9_opens_g8, upd_off (by omega)]; exact (by rw [X9_opens_g7, upd_off (by omega)]; exact (by rw [X9_opens_g6, upd_off (by omega)]; exact (by rw [X9_opens_g5, upd_off (by omega)]; exact (by rw [X9_opens_g4, upd_off (by omega)]; exact (by rw [X9_opens_g3, upd_off (by omega)]; exact (by rw [X9_opens_g2, upd_off (by omega)]; exact (by rw [X9_opens_g1, upd_off (by omega)]; exact (by rw [X9_opens_g0, upd_off (by omega)]; exact h22))))))))); exact (by rw [X9_opens_g9]; split; exact (by rw [X9_opens_g8, upd_off (by omega)]; exact (by rw [X9_opens_g7, upd_off (by omega)]; exact (by rw [X9_opens_g6, upd_off (by omega)]; exact (by rw [X9_opens_g5, upd_off (by omega)]; exact (by rw [X9_opens_g4, upd_off (by omega)]; exact (by rw [X9_opens_g3, upd_off (by omega)]; exact (by rw [X9_opens_g2, upd_off (by omega)]; exact (by rw [X9_opens_g1, upd_off (by omega)]; exact (by rw [X9_opens_g0, upd_off (by omega)]; exact h22))))))))); exact (by rw [X9_opens_g7, upd_off (by omega)]; exact (by rw [X9_opens_g6, upd_off (by omega)]; exact (by rw [X9_opens_g5, upd_off (by omega)]; exact (by rw [X9_opens_g4, upd_off (by omega)]; exact (by rw [X9_opens_g3, upd_off (by omega)]; exact (by rw [X9_opens_g2, upd_off (by omega)]; exact (by rw [X9_opens_g1, upd_off (by omega)]; exact (by rw [X9_opens_g0, upd_off (by omega)]; exact h22))))))))))))) ?_
      refine g_iast C0 G k49 0 rfl (vp_in_nI (by omega) (by omega)) dX9_opens_160 (fun H locs f54 hf54 G => ?_)
      have k55 : f54 v = some (.inl (cy 0, 6441, .inl (X9_opens_g14 g i s))) := (by have h9 := hus hf54; rw [nI_c (by omega)] at h9; exact h9)
      refine lv_iconst (v := 0) hx hb dX9_opens_161 (by decide) ?_
      refine lv_istore_n (lv' := [(2, .int 0), (0, .ref m), (1, .int (nI i))]) hx hb dX9_opens_162 rfl hl (by decide) rfl (fun ls hl => ?_)
      refine lv_iload_n hx hb dX9_opens_163 rfl (lv_at hl 0 rfl) ?_
      refine lv_bipush (v := 11) hx hb dX9_opens_164 (by decide) ?_
      refine lv_icmp_ge (tgt := 209) hx hb dX9_opens_166 (by decide) (fun c56 => absurd c56 (by decide)) (fun _ => ?_)
      refine lv_aload_n hx hb dX9_opens_169 rfl (lv_at hl 1 rfl) ?_
      have k57 : f54 m = some (.inr (11, [.int c_th, .int c_re, .ref v, .ref im, .ref kp, .ref pa, .ref de, .ref ide, .int c_un, .int c_hi, .ref tx, .int c_tn, .int c_fa, .int c_rf, .ref pt, .int c_ps, .int c_pl, .int c_to, .ref so, .ref mo, .ref wh, .ref pf])) := hup hf54 (hne k50 k49 (by intro q; cases q)) k50
      refine g_get C0 G k57 rfl hiX9 2 (by decide) mf_X9_9 rfl dX9_opens_170 ?_
      refine lv_iload_n hx hb dX9_opens_173 rfl (lv_at hl 2 rfl) ?_
      refine lv_iload_n hx hb dX9_opens_174 rfl (lv_at hl 0 rfl) ?_
      refine lv_iconst (v := 4) hx hb dX9_opens_175 (by decide) ?_
      refine g_cI C0 G (g_runS C0 G (rest := [.ref v]) (k_X9_batterAt hfl (nI i) 0 4 ) hY_X9_batterAt mm_X9_65 ms_X9_batterAt ⟨(Nat.le_of_ble_eq_true rfl), (Nat.le_of_ble_eq_true rfl)⟩ rfl hl.1 rfl (Nat.le_of_ble_eq_true rfl) dX9_opens_176 ⟨(Nat.le_of_ble_eq_true rfl), (Nat.le_of_ble_eq_true rfl)⟩) (kx_no rfl) (fun r60 u59 H locs hp58 G => ?_)
      obtain ⟨zr, eu59⟩ := hp58
      replace zr := Eq.symm zr
      subst zr
      rw [eu59] at G
      refine lv_topv (v := nI (69 + 6 * (11 * i + 0) + 4)) (bat_n i 0 4) ?_
      refine lv_iload_n hx hb dX9_opens_179 rfl (lv_at hl 0 rfl) ?_
      refine lv_iconst (v := 2) hx hb dX9_opens_180 (by decide) ?_
      refine lv_icmp_ge (tgt := 188) hx hb dX9_opens_181 (by decide) (fun c61 => absurd c61 (by decide)) (fun _ => ?_)
      refine lv_iconst (v := (-1)) hx hb dX9_opens_184 (by decide) ?_
      refine lv_goto (tgt := 190) hx hb dX9_opens_185 (by decide) ?_
      refine g_iast C0 G k55 0 rfl (vp_in_nI (by omega) (by omega)) dX9_opens_190 (fun H locs f62 hf62 G => ?_)
      have k63 : f62 v = some (.inl (cy 0, 6441, .inl (X9_opens_g15 g i s))) := (by have h9 := hus hf62; rw [nI_c (by omega)] at h9; exact h9)
      refine lv_aload_n hx hb dX9_opens_191 rfl (lv_at hl 1 rfl) ?_
      have k64 : f62 m = some (.inr (11, [.int c_th, .int c_re, .ref v, .ref im, .ref kp, .ref pa, .ref de, .ref ide, .int c_un, .int c_hi, .ref tx, .int c_tn, .int c_fa, .int c_rf, .ref pt, .int c_ps, .int c_pl, .int c_to, .ref so, .ref mo, .ref wh, .ref pf])) := hup hf62 (hne k57 k55 (by intro q; cases q)) k57
      refine g_get C0 G k64 rfl hiX9 2 (by decide) mf_X9_9 rfl dX9_opens_192 ?_
      refine lv_iload_n hx hb dX9_opens_195 rfl (lv_at hl 2 rfl) ?_
      refine lv_iload_n hx hb dX9_opens_196 rfl (lv_at hl 0 rfl) ?_
      refine lv_iconst (v := 5) hx hb dX9_opens_197 (by decide) ?_
      refine g_cI C0 G (g_runS C0 G (rest := [.ref v]) (k_X9_batterAt hfl (nI i) 0 5 ) hY_X9_batterAt mm_X9_65 ms_X9_batterAt ⟨(Nat.le_of_ble_eq_true rfl), (Nat.le_of_ble_eq_true rfl)⟩ rfl hl.1 rfl (Nat.le_of_ble_eq_true rfl) dX9_opens_198 ⟨(Nat.le_of_ble_eq_true rfl), (Nat.le_of_ble_eq_true rfl)⟩) (kx_no rfl) (fun r67 u66 H locs hp65 G => ?_)
      obtain ⟨zr, eu66⟩ := hp65
      replace zr := Eq.symm zr
      subst zr
      rw [eu66] at G
      refine lv_topv (v := nI (69 + 6 * (11 * i + 0) + 5)) (bat_n i 0 5) ?_
      refine lv_iconst (v := (-1)) hx hb dX9_opens_201 (by decide) ?_
      refine g_iast C0 G k63 0 rfl (vp_in_nI (by omega) (by omega)) dX9_opens_202 (fun H locs f68 hf68 G => ?_)
      have k69 : f68 v = some (.inl (cy 0, 6441, .inl (X9_opens_g16 g i s))) := (by have h9 := hus hf68; rw [nI_c (by omega)] at h9; exact h9)
      refine lv_iinc (v := 1) (lv' := [(2, .int 1), (0, .ref m), (1, .int (nI i))]) hx hb dX9_opens_203 hl (k := 0) rfl (by exact (by decide)) (by decide) rfl (fun ls hl => ?_)
      refine lv_goto (tgt := 163) hx hb dX9_opens_206 (by decide) ?_
      refine lv_iload_n hx hb dX9_opens_163 rfl (lv_at hl 0 rfl) ?_
      refine lv_bipush (v := 11) hx hb dX9_opens_164 (by decide) ?_
      refine lv_icmp_ge (tgt := 209) hx hb dX9_opens_166 (by decide) (fun c71 => absurd c71 (by decide)) (fun _ => ?_)
      refine lv_aload_n hx hb dX9_opens_169 rfl (lv_at hl 1 rfl) ?_
      have k72 : f68 m = some (.inr (11, [.int c_th, .int c_re, .ref v, .ref im, .ref kp, .ref pa, .ref de, .ref ide, .int c_un, .int c_hi, .ref tx, .int c_tn, .int c_fa, .int c_rf, .ref pt, .int c_ps, .int c_pl, .int c_to, .ref so, .ref mo, .ref wh, .ref pf])) := hup hf68 (hne k64 k63 (by intro q; cases q)) k64
      refine g_get C0 G k72 rfl hiX9 2 (by decide) mf_X9_9 rfl dX9_opens_170 ?_
      refine lv_iload_n hx hb dX9_opens_173 rfl (lv_at hl 2 rfl) ?_
      refine lv_iload_n hx hb dX9_opens_174 rfl (lv_at hl 0 rfl) ?_
      refine lv_iconst (v := 4) hx hb dX9_opens_175 (by decide) ?_
      refine g_cI C0 G (g_runS C0 G (rest := [.ref v]) (k_X9_batterAt hfl (nI i) 1 4 ) hY_X9_batterAt mm_X9_65 ms_X9_batterAt ⟨(Nat.le_of_ble_eq_true rfl), (Nat.le_of_ble_eq_true rfl)⟩ rfl hl.1 rfl (Nat.le_of_ble_eq_true rfl) dX9_opens_176 ⟨(Nat.le_of_ble_eq_true rfl), (Nat.le_of_ble_eq_true rfl)⟩) (kx_no rfl) (fun r75 u74 H locs hp73 G => ?_)
      obtain ⟨zr, eu74⟩ := hp73
      replace zr := Eq.symm zr
      subst zr
      rw [eu74] at G
      refine lv_topv (v := nI (69 + 6 * (11 * i + 1) + 4)) (bat_n i 1 4) ?_
      refine lv_iload_n hx hb dX9_opens_179 rfl (lv_at hl 0 rfl) ?_
      refine lv_iconst (v := 2) hx hb dX9_opens_180 (by decide) ?_
      refine lv_icmp_ge (tgt := 188) hx hb dX9_opens_181 (by decide) (fun c76 => absurd c76 (by decide)) (fun _ => ?_)
      refine lv_iconst (v := (-1)) hx hb dX9_opens_184 (by decide) ?_
      refine lv_goto (tgt := 190) hx hb dX9_opens_185 (by decide) ?_
      refine g_iast C0 G k69 0 rfl (vp_in_nI (by omega) (by omega)) dX9_opens_190 (fun H locs f77 hf77 G => ?_)
      have k78 : f77 v = some (.inl (cy 0, 6441, .inl (X9_opens_g17 g i s))) := (by have h9 := hus hf77; rw [nI_c (by omega)] at h9; exact h9)
      refine lv_aload_n hx hb dX9_opens_191 rfl (lv_at hl 1 rfl) ?_
      have k79 : f77 m = some (.inr (11, [.int c_th, .int c_re, .ref v, .ref im, .ref kp, .ref pa, .ref de, .ref ide, .int c_un, .int c_hi, .ref tx, .int c_tn, .int c_fa, .int c_rf, .ref pt, .int c_ps, .int c_pl, .int c_to, .ref so, .ref mo, .ref wh, .ref pf])) := hup hf77 (hne k72 k69 (by intro q; cases q)) k72
      refine g_get C0 G k79 rfl hiX9 2 (by decide) mf_X9_9 rfl dX9_opens_192 ?_
      refine lv_iload_n hx hb dX9_opens_195 rfl (lv_at hl 2 rfl) ?_
      refine lv_iload_n hx hb dX9_opens_196 rfl (lv_at hl 0 rfl) ?_
      refine lv_iconst (v := 5) hx hb dX9_opens_197 (by decide) ?_
      refine g_cI C0 G (g_runS C0 G (rest := [.ref v]) (k_X9_batterAt hfl (nI i) 1 5 ) hY_X9_batterAt mm_X9_65 ms_X9_batterAt ⟨(Nat.le_of_ble_eq_true rfl), (Nat.le_of_ble_eq_true rfl)⟩ rfl hl.1 rfl (Nat.le_of_ble_eq_true rfl) dX9_opens_198 ⟨(Nat.le_of_ble_eq_true rfl), (Nat.le_of_ble_eq_true rfl)⟩) (kx_no rfl) (fun r82 u81 H locs hp80 G => ?_)
      obtain ⟨zr, eu81⟩ := hp80
      replace zr := Eq.symm zr
      subst zr
      rw [eu81] at G
      refine lv_topv (v := nI (69 + 6 * (11 * i + 1) + 5)) (bat_n i 1 5) ?_
      refine lv_iconst (v := (-1)) hx hb dX9_opens_201 (by decide) ?_
      refine g_iast C0 G k78 0 rfl (vp_in_nI (by omega) (by omega)) dX9_opens_202 (fun H locs f83 hf83 G => ?_)
      have k84 : f83 v = some (.inl (cy 0, 6441, .inl (X9_opens_g18 g i s))) := (by have h9 := hus hf83; rw [nI_c (by omega)] at h9; exact h9)
      refine lv_iinc (v := 2) (lv' := [(2, .int 2), (0, .ref m), (1, .int (nI i))]) hx hb dX9_opens_203 hl (k := 0) rfl (by exact (by decide)) (by decide) rfl (fun ls hl => ?_)
      refine lv_goto (tgt := 163) hx hb dX9_opens_206 (by decide) ?_
      refine lv_iload_n hx hb dX9_opens_163 rfl (lv_at hl 0 rfl) ?_
      refine lv_bipush (v := 11) hx hb dX9_opens_164 (by decide) ?_
      refine lv_icmp_ge (tgt := 209) hx hb dX9_opens_166 (by decide) (fun c86 => absurd c86 (by decide)) (fun _ => ?_)
      refine lv_aload_n hx hb dX9_opens_169 rfl (lv_at hl 1 rfl) ?_
      have k87 : f83 m = some (.inr (11, [.int c_th, .int c_re, .ref v, .ref im, .ref kp, .ref pa, .ref de, .ref ide, .int c_un, .int c_hi, .ref tx, .int c_tn, .int c_fa, .int c_rf, .ref pt, .int c_ps, .int c_pl, .int c_to, .ref so, .ref mo, .ref wh, .ref pf])) := hup hf83 (hne k79 k78 (by intro q; cases q)) k79
      refine g_get C0 G k87 rfl hiX9 2 (by decide) mf_X9_9 rfl dX9_opens_170 ?_
      refine lv_iload_n hx hb dX9_opens_173 rfl (lv_at hl 2 rfl) ?_
      refine lv_iload_n hx hb dX9_opens_174 rfl (lv_at hl 0 rfl) ?_
      refine lv_iconst (v := 4) hx hb dX9_opens_175 (by decide) ?_
      refine g_cI C0 G (g_runS C0 G (rest := [.ref v]) (k_X9_batterAt hfl (nI i) 2 4 ) hY_X9_batterAt mm_X9_65 ms_X9_batterAt ⟨(Nat.le_of_ble_eq_true rfl), (Nat.le_of_ble_eq_true rfl)⟩ rfl hl.1 rfl (Nat.le_of_ble_eq_true rfl) dX9_opens_176 ⟨(Nat.le_of_ble_eq_true rfl), (Nat.le_of_ble_eq_true rfl)⟩) (kx_no rfl) (fun r90 u89 H locs hp88 G => ?_)
      obtain ⟨zr, eu89⟩ := hp88
      replace zr := Eq.symm zr
      subst zr
      rw [eu89] at G
      refine lv_topv (v := nI (69 + 6 * (11 * i + 2) + 4)) (bat_n i 2 4) ?_
      refine lv_iload_n hx hb dX9_opens_179 rfl (lv_at hl 0 rfl) ?_
      refine lv_iconst (v := 2) hx hb dX9_opens_180 (by decide) ?_
      refine lv_icmp_ge (tgt := 188) hx hb dX9_opens_181 (by decide) (fun _ => ?_) (fun c91 => absurd (by decide) c91)
      refine lv_bipush (v := (-2)) hx hb dX9_opens_188 (by decide) ?_
      refine g_iast C0 G k84 0 rfl (vp_in_nI (by omega) (by omega)) dX9_opens_190 (fun H locs f92 hf92 G => ?_)
      have k93 : f92 v = some (.inl (cy 0, 6441, .inl (X9_opens_g19 g i s))) := (by have h9 := hus hf92; rw [nI_c (by omega)] at h9; exact h9)
      refine lv_aload_n hx hb dX9_opens_191 rfl (lv_at hl 1 rfl) ?_
      have k94 : f92 m = some (.inr (11, [.int c_th, .int c_re, .ref v, .ref im, .ref kp, .ref pa, .ref de, .ref ide, .int c_un, .int c_hi, .ref tx, .int c_tn, .int c_fa, .int c_rf, .ref pt, .int c_ps, .int c_pl, .int c_to, .ref so, .ref mo, .ref wh, .ref pf])) := hup hf92 (hne k87 k84 (by intro q; cases q)) k87
      refine g_get C0 G k94 rfl hiX9 2 (by decide) mf_X9_9 rfl dX9_opens_192 ?_
      refine lv_iload_n hx hb dX9_opens_195 rfl (lv_at hl 2 rfl) ?_
      refine lv_iload_n hx hb dX9_opens_196 rfl (lv_at hl 0 rfl) ?_
      refine lv_iconst (v := 5) hx hb dX9_opens_197 (by decide) ?_
      refine g_cI C0 G (g_runS C0 G (rest := [.ref v]) (k_X9_batterAt hfl (nI i) 2 5 ) hY_X9_batterAt mm_X9_65 ms_X9_batterAt ⟨(Nat.le_of_ble_eq_true rfl), (Nat.le_of_ble_eq_true rfl)⟩ rfl hl.1 rfl (Nat.le_of_ble_eq_true rfl) dX9_opens_198 ⟨(Nat.le_of_ble_eq_true rfl), (Nat.le_of_ble_eq_true rfl)⟩) (kx_no rfl) (fun r97 u96 H locs hp95 G => ?_)
      obtain ⟨zr, eu96⟩ := hp95
      replace zr := Eq.symm zr
      subst zr
      rw [eu96] at G
      refine lv_topv (v := nI (69 + 6 * (11 * i + 2) + 5)) (bat_n i 2 5) ?_
      refine lv_iconst (v := (-1)) hx hb dX9_opens_201 (by decide) ?_
      refine g_iast C0 G k93 0 rfl (vp_in_nI (by omega) (by omega)) dX9_opens_202 (fun H locs f98 hf98 G => ?_)
      have k99 : f98 v = some (.inl (cy 0, 6441, .inl (X9_opens_g20 g i s))) := (by have h9 := hus hf98; rw [nI_c (by omega)] at h9; exact h9)
      refine lv_iinc (v := 3) (lv' := [(2, .int 3), (0, .ref m), (1, .int (nI i))]) hx hb dX9_opens_203 hl (k := 0) rfl (by exact (by decide)) (by decide) rfl (fun ls hl => ?_)
      refine lv_goto (tgt := 163) hx hb dX9_opens_206 (by decide) ?_
      refine lv_iload_n hx hb dX9_opens_163 rfl (lv_at hl 0 rfl) ?_
      refine lv_bipush (v := 11) hx hb dX9_opens_164 (by decide) ?_
      refine lv_icmp_ge (tgt := 209) hx hb dX9_opens_166 (by decide) (fun c101 => absurd c101 (by decide)) (fun _ => ?_)
      refine lv_aload_n hx hb dX9_opens_169 rfl (lv_at hl 1 rfl) ?_
      have k102 : f98 m = some (.inr (11, [.int c_th, .int c_re, .ref v, .ref im, .ref kp, .ref pa, .ref de, .ref ide, .int c_un, .int c_hi, .ref tx, .int c_tn, .int c_fa, .int c_rf, .ref pt, .int c_ps, .int c_pl, .int c_to, .ref so, .ref mo, .ref wh, .ref pf])) := hup hf98 (hne k94 k93 (by intro q; cases q)) k94
      refine g_get C0 G k102 rfl hiX9 2 (by decide) mf_X9_9 rfl dX9_opens_170 ?_
      refine lv_iload_n hx hb dX9_opens_173 rfl (lv_at hl 2 rfl) ?_
      refine lv_iload_n hx hb dX9_opens_174 rfl (lv_at hl 0 rfl) ?_
      refine lv_iconst (v := 4) hx hb dX9_opens_175 (by decide) ?_
      refine g_cI C0 G (g_runS C0 G (rest := [.ref v]) (k_X9_batterAt hfl (nI i) 3 4 ) hY_X9_batterAt mm_X9_65 ms_X9_batterAt ⟨(Nat.le_of_ble_eq_true rfl), (Nat.le_of_ble_eq_true rfl)⟩ rfl hl.1 rfl (Nat.le_of_ble_eq_true rfl) dX9_opens_176 ⟨(Nat.le_of_ble_eq_true rfl), (Nat.le_of_ble_eq_true rfl)⟩) (kx_no rfl) (fun r105 u104 H locs hp103 G => ?_)
      obtain ⟨zr, eu104⟩ := hp103
      replace zr := Eq.symm zr
      subst zr
      rw [eu104] at G
      refine lv_topv (v := nI (69 + 6 * (11 * i + 3) + 4)) (bat_n i 3 4) ?_
      refine lv_iload_n hx hb dX9_opens_179 rfl (lv_at hl 0 rfl) ?_
      refine lv_iconst (v := 2) hx hb dX9_opens_180 (by decide) ?_
      refine lv_icmp_ge (tgt := 188) hx hb dX9_opens_181 (by decide) (fun _ => ?_) (fun c106 => absurd (by decide) c106)
      refine lv_bipush (v := (-2)) hx hb dX9_opens_188 (by decide) ?_
      refine g_iast C0 G k99 0 rfl (vp_in_nI (by omega) (by omega)) dX9_opens_190 (fun H locs f107 hf107 G => ?_)
      have k108 : f107 v = some (.inl (cy 0, 6441, .inl (X9_opens_g21 g i s))) := (by have h9 := hus hf107; rw [nI_c (by omega)] at h9; exact h9)
      refine lv_aload_n hx hb dX9_opens_191 rfl (lv_at hl 1 rfl) ?_
      have k109 : f107 m = some (.inr (11, [.int c_th, .int c_re, .ref v, .ref im, .ref kp, .ref pa, .ref de, .ref ide, .int c_un, .int c_hi, .ref tx, .int c_tn, .int c_fa, .int c_rf, .ref pt, .int c_ps, .int c_pl, .int c_to, .ref so, .ref mo, .ref wh, .ref pf])) := hup hf107 (hne k102 k99 (by intro q; cases q)) k102
      refine g_get C0 G k109 rfl hiX9 2 (by decide) mf_X9_9 rfl dX9_opens_192 ?_
      refine lv_iload_n hx hb dX9_opens_195 rfl (lv_at hl 2 rfl) ?_
      refine lv_iload_n hx hb dX9_opens_196 rfl (lv_at hl 0 rfl) ?_
      refine lv_iconst (v := 5) hx hb dX9_opens_197 (by decide) ?_
      refine g_cI C0 G (g_runS C0 G (rest := [.ref v]) (k_X9_batterAt hfl (nI i) 3 5 ) hY_X9_batterAt mm_X9_65 ms_X9_batterAt ⟨(Nat.le_of_ble_eq_true rfl), (Nat.le_of_ble_eq_true rfl)⟩ rfl hl.1 rfl (Nat.le_of_ble_eq_true rfl) dX9_opens_198 ⟨(Nat.le_of_ble_eq_true rfl), (Nat.le_of_ble_eq_true rfl)⟩) (kx_no rfl) (fun r112 u111 H locs hp110 G => ?_)
      obtain ⟨zr, eu111⟩ := hp110
      replace zr := Eq.symm zr
      subst zr
      rw [eu111] at G
      refine lv_topv (v := nI (69 + 6 * (11 * i + 3) + 5)) (bat_n i 3 5) ?_
      refine lv_iconst (v := (-1)) hx hb dX9_opens_201 (by decide) ?_
      refine g_iast C0 G k108 0 rfl (vp_in_nI (by omega) (by omega)) dX9_opens_202 (fun H locs f113 hf113 G => ?_)
      have k114 : f113 v = some (.inl (cy 0, 6441, .inl (X9_opens_g22 g i s))) := (by have h9 := hus hf113; rw [nI_c (by omega)] at h9; exact h9)
      refine lv_iinc (v := 4) (lv' := [(2, .int 4), (0, .ref m), (1, .int (nI i))]) hx hb dX9_opens_203 hl (k := 0) rfl (by exact (by decide)) (by decide) rfl (fun ls hl => ?_)
      refine lv_goto (tgt := 163) hx hb dX9_opens_206 (by decide) ?_
      refine lv_iload_n hx hb dX9_opens_163 rfl (lv_at hl 0 rfl) ?_
      refine lv_bipush (v := 11) hx hb dX9_opens_164 (by decide) ?_
      refine lv_icmp_ge (tgt := 209) hx hb dX9_opens_166 (by decide) (fun c116 => absurd c116 (by decide)) (fun _ => ?_)
      refine lv_aload_n hx hb dX9_opens_169 rfl (lv_at hl 1 rfl) ?_
      have k117 : f113 m = some (.inr (11, [.int c_th, .int c_re, .ref v, .ref im, .ref kp, .ref pa, .ref de, .ref ide, .int c_un, .int c_hi, .ref tx, .int c_tn, .int c_fa, .int c_rf, .ref pt, .int c_ps, .int c_pl, .int c_to, .ref so, .ref mo, .ref wh, .ref pf])) := hup hf113 (hne k109 k108 (by intro q; cases q)) k109
      refine g_get C0 G k117 rfl hiX9 2 (by decide) mf_X9_9 rfl dX9_opens_170 ?_
      refine lv_iload_n hx hb dX9_opens_173 rfl (lv_at hl 2 rfl) ?_
      refine lv_iload_n hx hb dX9_opens_174 rfl (lv_at hl 0 rfl) ?_
      refine lv_iconst (v := 4) hx hb dX9_opens_175 (by decide) ?_
      refine g_cI C0 G (g_runS C0 G (rest := [.ref v]) (k_X9_batterAt hfl (nI i) 4 4 ) hY_X9_batterAt mm_X9_65 ms_X9_batterAt ⟨(Nat.le_of_ble_eq_true rfl), (Nat.le_of_ble_eq_true rfl)⟩ rfl hl.1 rfl (Nat.le_of_ble_eq_true rfl) dX9_opens_176 ⟨(Nat.le_of_ble_eq_true rfl), (Nat.le_of_ble_eq_true rfl)⟩) (kx_no rfl) (fun r120 u119 H locs hp118 G => ?_)
      obtain ⟨zr, eu119⟩ := hp118
      replace zr := Eq.symm zr
      subst zr
      rw [eu119] at G
      refine lv_topv (v := nI (69 + 6 * (11 * i + 4) + 4)) (bat_n i 4 4) ?_
      refine lv_iload_n hx hb dX9_opens_179 rfl (lv_at hl 0 rfl) ?_
      refine lv_iconst (v := 2) hx hb dX9_opens_180 (by decide) ?_
      refine lv_icmp_ge (tgt := 188) hx hb dX9_opens_181 (by decide) (fun _ => ?_) (fun c121 => absurd (by decide) c121)
      refine lv_bipush (v := (-2)) hx hb dX9_opens_188 (by decide) ?_
      refine g_iast C0 G k114 0 rfl (vp_in_nI (by omega) (by omega)) dX9_opens_190 (fun H locs f122 hf122 G => ?_)
      have k123 : f122 v = some (.inl (cy 0, 6441, .inl (X9_opens_g23 g i s))) := (by have h9 := hus hf122; rw [nI_c (by omega)] at h9; exact h9)
      refine lv_aload_n hx hb dX9_opens_191 rfl (lv_at hl 1 rfl) ?_
      have k124 : f122 m = some (.inr (11, [.int c_th, .int c_re, .ref v, .ref im, .ref kp, .ref pa, .ref de, .ref ide, .int c_un, .int c_hi, .ref tx, .int c_tn, .int c_fa, .int c_rf, .ref pt, .int c_ps, .int c_pl, .int c_to, .ref so, .ref mo, .ref wh, .ref pf])) := hup hf122 (hne k117 k114 (by intro q; cases q)) k117
      refine g_get C0 G k124 rfl hiX9 2 (by decide) mf_X9_9 rfl dX9_opens_192 ?_
      refine lv_iload_n hx hb dX9_opens_195 rfl (lv_at hl 2 rfl) ?_
      refine lv_iload_n hx hb dX9_opens_196 rfl (lv_at hl 0 rfl) ?_
      refine lv_iconst (v := 5) hx hb dX9_opens_197 (by decide) ?_
      refine g_cI C0 G (g_runS C0 G (rest := [.ref v]) (k_X9_batterAt hfl (nI i) 4 5 ) hY_X9_batterAt mm_X9_65 ms_X9_batterAt ⟨(Nat.le_of_ble_eq_true rfl), (Nat.le_of_ble_eq_true rfl)⟩ rfl hl.1 rfl (Nat.le_of_ble_eq_true rfl) dX9_opens_198 ⟨(Nat.le_of_ble_eq_true rfl), (Nat.le_of_ble_eq_true rfl)⟩) (kx_no rfl) (fun r127 u126 H locs hp125 G => ?_)
      obtain ⟨zr, eu126⟩ := hp125
      replace zr := Eq.symm zr
      subst zr
      rw [eu126] at G
      refine lv_topv (v := nI (69 + 6 * (11 * i + 4) + 5)) (bat_n i 4 5) ?_
      refine lv_iconst (v := (-1)) hx hb dX9_opens_201 (by decide) ?_
      refine g_iast C0 G k123 0 rfl (vp_in_nI (by omega) (by omega)) dX9_opens_202 (fun H locs f128 hf128 G => ?_)
      have k129 : f128 v = some (.inl (cy 0, 6441, .inl (X9_opens_g24 g i s))) := (by have h9 := hus hf128; rw [nI_c (by omega)] at h9; exact h9)
      refine lv_iinc (v := 5) (lv' := [(2, .int 5), (0, .ref m), (1, .int (nI i))]) hx hb dX9_opens_203 hl (k := 0) rfl (by exact (by decide)) (by decide) rfl (fun ls hl => ?_)
      refine lv_goto (tgt := 163) hx hb dX9_opens_206 (by decide) ?_
      refine lv_iload_n hx hb dX9_opens_163 rfl (lv_at hl 0 rfl) ?_
      refine lv_bipush (v := 11) hx hb dX9_opens_164 (by decide) ?_
      refine lv_icmp_ge (tgt := 209) hx hb dX9_opens_166 (by decide) (fun c131 => absurd c131 (by decide)) (fun _ => ?_)
      refine lv_aload_n hx hb dX9_opens_169 rfl (lv_at hl 1 rfl) ?_
      have k132 : f128 m = some (.inr (11, [.int c_th, .int c_re, .ref v, .ref im, .ref kp, .ref pa, .ref de, .ref ide, .int c_un, .int c_hi, .ref tx, .int c_tn, .int c_fa, .int c_rf, .ref pt, .int c_ps, .int c_pl, .int c_to, .ref so, .ref mo, .ref wh, .ref pf])) := hup hf128 (hne k124 k123 (by intro q; cases q)) k124
      refine g_get C0 G k132 rfl hiX9 2 (by decide) mf_X9_9 rfl dX9_opens_170 ?_
      refine lv_iload_n hx hb dX9_opens_173 rfl (lv_at hl 2 rfl) ?_
      refine lv_iload_n hx hb dX9_opens_174 rfl (lv_at hl 0 rfl) ?_
      refine lv_iconst (v := 4) hx hb dX9_opens_175 (by decide) ?_
      refine g_cI C0 G (g_runS C0 G (rest := [.ref v]) (k_X9_batterAt hfl (nI i) 5 4 ) hY_X9_batterAt mm_X9_65 ms_X9_batterAt ⟨(Nat.le_of_ble_eq_true rfl), (Nat.le_of_ble_eq_true rfl)⟩ rfl hl.1 rfl (Nat.le_of_ble_eq_true rfl) dX9_opens_176 ⟨(Nat.le_of_ble_eq_true rfl), (Nat.le_of_ble_eq_true rfl)⟩) (kx_no rfl) (fun r135 u134 H locs hp133 G => ?_)
      obtain ⟨zr, eu134⟩ := hp133
      replace zr := Eq.symm zr
      subst zr
      rw [eu134] at G
      refine lv_topv (v := nI (69 + 6 * (11 * i + 5) + 4)) (bat_n i 5 4) ?_
      refine lv_iload_n hx hb dX9_opens_179 rfl (lv_at hl 0 rfl) ?_
      refine lv_iconst (v := 2) hx hb dX9_opens_180 (by decide) ?_
      refine lv_icmp_ge (tgt := 188) hx hb dX9_opens_181 (by decide) (fun _ => ?_) (fun c136 => absurd (by decide) c136)
      refine lv_bipush (v := (-2)) hx hb dX9_opens_188 (by decide) ?_
      refine g_iast C0 G k129 0 rfl (vp_in_nI (by omega) (by omega)) dX9_opens_190 (fun H locs f137 hf137 G => ?_)
      have k138 : f137 v = some (.inl (cy 0, 6441, .inl (X9_opens_g25 g i s))) := (by have h9 := hus hf137; rw [nI_c (by omega)] at h9; exact h9)
      refine lv_aload_n hx hb dX9_opens_191 rfl (lv_at hl 1 rfl) ?_
      have k139 : f137 m = some (.inr (11, [.int c_th, .int c_re, .ref v, .ref im, .ref kp, .ref pa, .ref de, .ref ide, .int c_un, .int c_hi, .ref tx, .int c_tn, .int c_fa, .int c_rf, .ref pt, .int c_ps, .int c_pl, .int c_to, .ref so, .ref mo, .ref wh, .ref pf])) := hup hf137 (hne k132 k129 (by intro q; cases q)) k132
      refine g_get C0 G k139 rfl hiX9 2 (by decide) mf_X9_9 rfl dX9_opens_192 ?_
      refine lv_iload_n hx hb dX9_opens_195 rfl (lv_at hl 2 rfl) ?_
      refine lv_iload_n hx hb dX9_opens_196 rfl (lv_at hl 0 rfl) ?_
      refine lv_iconst (v := 5) hx hb dX9_opens_197 (by decide) ?_
      refine g_cI C0 G (g_runS C0 G (rest := [.ref v]) (k_X9_batterAt hfl (nI i) 5 5 ) hY_X9_batterAt mm_X9_65 ms_X9_batterAt ⟨(Nat.le_of_ble_eq_true rfl), (Nat.le_of_ble_eq_true rfl)⟩ rfl hl.1 rfl (Nat.le_of_ble_eq_true rfl) dX9_opens_198 ⟨(Nat.le_of_ble_eq_true rfl), (Nat.le_of_ble_eq_true rfl)⟩) (kx_no rfl) (fun r142 u141 H locs hp140 G => ?_)
      obtain ⟨zr, eu141⟩ := hp140
      replace zr := Eq.symm zr
      subst zr
      rw [eu141] at G
      refine lv_topv (v := nI (69 + 6 * (11 * i + 5) + 5)) (bat_n i 5 5) ?_
      refine lv_iconst (v := (-1)) hx hb dX9_opens_201 (by decide) ?_
      refine g_iast C0 G k138 0 rfl (vp_in_nI (by omega) (by omega)) dX9_opens_202 (fun H locs f143 hf143 G => ?_)
      have k144 : f143 v = some (.inl (cy 0, 6441, .inl (X9_opens_g26 g i s))) := (by have h9 := hus hf143; rw [nI_c (by omega)] at h9; exact h9)
      refine lv_iinc (v := 6) (lv' := [(2, .int 6), (0, .ref m), (1, .int (nI i))]) hx hb dX9_opens_203 hl (k := 0) rfl (by exact (by decide)) (by decide) rfl (fun ls hl => ?_)
      refine lv_goto (tgt := 163) hx hb dX9_opens_206 (by decide) ?_
      refine lv_iload_n hx hb dX9_opens_163 rfl (lv_at hl 0 rfl) ?_
      refine lv_bipush (v := 11) hx hb dX9_opens_164 (by decide) ?_
      refine lv_icmp_ge (tgt := 209) hx hb dX9_opens_166 (by decide) (fun c146 => absurd c146 (by decide)) (fun _ => ?_)
      refine lv_aload_n hx hb dX9_opens_169 rfl (lv_at hl 1 rfl) ?_
      have k147 : f143 m = some (.inr (11, [.int c_th, .int c_re, .ref v, .ref im, .ref kp, .ref pa, .ref de, .ref ide, .int c_un, .int c_hi, .ref tx, .int c_tn, .int c_fa, .int c_rf, .ref pt, .int c_ps, .int c_pl, .int c_to, .ref so, .ref mo, .ref wh, .ref pf])) := hup hf143 (hne k139 k138 (by intro q; cases q)) k139
      refine g_get C0 G k147 rfl hiX9 2 (by decide) mf_X9_9 rfl dX9_opens_170 ?_
      refine lv_iload_n hx hb dX9_opens_173 rfl (lv_at hl 2 rfl) ?_
      refine lv_iload_n hx hb dX9_opens_174 rfl (lv_at hl 0 rfl) ?_
      refine lv_iconst (v := 4) hx hb dX9_opens_175 (by decide) ?_
      refine g_cI C0 G (g_runS C0 G (rest := [.ref v]) (k_X9_batterAt hfl (nI i) 6 4 ) hY_X9_batterAt mm_X9_65 ms_X9_batterAt ⟨(Nat.le_of_ble_eq_true rfl), (Nat.le_of_ble_eq_true rfl)⟩ rfl hl.1 rfl (Nat.le_of_ble_eq_true rfl) dX9_opens_176 ⟨(Nat.le_of_ble_eq_true rfl), (Nat.le_of_ble_eq_true rfl)⟩) (kx_no rfl) (fun r150 u149 H locs hp148 G => ?_)
      obtain ⟨zr, eu149⟩ := hp148
      replace zr := Eq.symm zr
      subst zr
      rw [eu149] at G
      refine lv_topv (v := nI (69 + 6 * (11 * i + 6) + 4)) (bat_n i 6 4) ?_
      refine lv_iload_n hx hb dX9_opens_179 rfl (lv_at hl 0 rfl) ?_
      refine lv_iconst (v := 2) hx hb dX9_opens_180 (by decide) ?_
      refine lv_icmp_ge (tgt := 188) hx hb dX9_opens_181 (by decide) (fun _ => ?_) (fun c151 => absurd (by decide) c151)
      refine lv_bipush (v := (-2)) hx hb dX9_opens_188 (by decide) ?_
      refine g_iast C0 G k144 0 rfl (vp_in_nI (by omega) (by omega)) dX9_opens_190 (fun H locs f152 hf152 G => ?_)
      have k153 : f152 v = some (.inl (cy 0, 6441, .inl (X9_opens_g27 g i s))) := (by have h9 := hus hf152; rw [nI_c (by omega)] at h9; exact h9)
      refine lv_aload_n hx hb dX9_opens_191 rfl (lv_at hl 1 rfl) ?_
      have k154 : f152 m = some (.inr (11, [.int c_th, .int c_re, .ref v, .ref im, .ref kp, .ref pa, .ref de, .ref ide, .int c_un, .int c_hi, .ref tx, .int c_tn, .int c_fa, .int c_rf, .ref pt, .int c_ps, .int c_pl, .int c_to, .ref so, .ref mo, .ref wh, .ref pf])) := hup hf152 (hne k147 k144 (by intro q; cases q)) k147
      refine g_get C0 G k154 rfl hiX9 2 (by decide) mf_X9_9 rfl dX9_opens_192 ?_
      refine lv_iload_n hx hb dX9_opens_195 rfl (lv_at hl 2 rfl) ?_
      refine lv_iload_n hx hb dX9_opens_196 rfl (lv_at hl 0 rfl) ?_
      refine lv_iconst (v := 5) hx hb dX9_opens_197 (by decide) ?_
      refine g_cI C0 G (g_runS C0 G (rest := [.ref v]) (k_X9_batterAt hfl (nI i) 6 5 ) hY_X9_batterAt mm_X9_65 ms_X9_batterAt ⟨(Nat.le_of_ble_eq_true rfl), (Nat.le_of_ble_eq_true rfl)⟩ rfl hl.1 rfl (Nat.le_of_ble_eq_true rfl) dX9_opens_198 ⟨(Nat.le_of_ble_eq_true rfl), (Nat.le_of_ble_eq_true rfl)⟩) (kx_no rfl) (fun r157 u156 H locs hp155 G => ?_)
      obtain ⟨zr, eu156⟩ := hp155
      replace zr := Eq.symm zr
      subst zr
      rw [eu156] at G
      refine lv_topv (v := nI (69 + 6 * (11 * i + 6) + 5)) (bat_n i 6 5) ?_
      refine lv_iconst (v := (-1)) hx hb dX9_opens_201 (by decide) ?_
      refine g_iast C0 G k153 0 rfl (vp_in_nI (by omega) (by omega)) dX9_opens_202 (fun H locs f158 hf158 G => ?_)
      have k159 : f158 v = some (.inl (cy 0, 6441, .inl (X9_opens_g28 g i s))) := (by have h9 := hus hf158; rw [nI_c (by omega)] at h9; exact h9)
      refine lv_iinc (v := 7) (lv' := [(2, .int 7), (0, .ref m), (1, .int (nI i))]) hx hb dX9_opens_203 hl (k := 0) rfl (by exact (by decide)) (by decide) rfl (fun ls hl => ?_)
      refine lv_goto (tgt := 163) hx hb dX9_opens_206 (by decide) ?_
      refine lv_iload_n hx hb dX9_opens_163 rfl (lv_at hl 0 rfl) ?_
      refine lv_bipush (v := 11) hx hb dX9_opens_164 (by decide) ?_
      refine lv_icmp_ge (tgt := 209) hx hb dX9_opens_166 (by decide) (fun c161 => absurd c161 (by decide)) (fun _ => ?_)
      refine lv_aload_n hx hb dX9_opens_169 rfl (lv_at hl 1 rfl) ?_
      have k162 : f158 m = some (.inr (11, [.int c_th, .int c_re, .ref v, .ref im, .ref kp, .ref pa, .ref de, .ref ide, .int c_un, .int c_hi, .ref tx, .int c_tn, .int c_fa, .int c_rf, .ref pt, .int c_ps, .int c_pl, .int c_to, .ref so, .ref mo, .ref wh, .ref pf])) := hup hf158 (hne k154 k153 (by intro q; cases q)) k154
      refine g_get C0 G k162 rfl hiX9 2 (by decide) mf_X9_9 rfl dX9_opens_170 ?_
      refine lv_iload_n hx hb dX9_opens_173 rfl (lv_at hl 2 rfl) ?_
      refine lv_iload_n hx hb dX9_opens_174 rfl (lv_at hl 0 rfl) ?_
      refine lv_iconst (v := 4) hx hb dX9_opens_175 (by decide) ?_
      refine g_cI C0 G (g_runS C0 G (rest := [.ref v]) (k_X9_batterAt hfl (nI i) 7 4 ) hY_X9_batterAt mm_X9_65 ms_X9_batterAt ⟨(Nat.le_of_ble_eq_true rfl), (Nat.le_of_ble_eq_true rfl)⟩ rfl hl.1 rfl (Nat.le_of_ble_eq_true rfl) dX9_opens_176 ⟨(Nat.le_of_ble_eq_true rfl), (Nat.le_of_ble_eq_true rfl)⟩) (kx_no rfl) (fun r165 u164 H locs hp163 G => ?_)
      obtain ⟨zr, eu164⟩ := hp163
      replace zr := Eq.symm zr
      subst zr
      rw [eu164] at G
      refine lv_topv (v := nI (69 + 6 * (11 * i + 7) + 4)) (bat_n i 7 4) ?_
      refine lv_iload_n hx hb dX9_opens_179 rfl (lv_at hl 0 rfl) ?_
      refine lv_iconst (v := 2) hx hb dX9_opens_180 (by decide) ?_
      refine lv_icmp_ge (tgt := 188) hx hb dX9_opens_181 (by decide) (fun _ => ?_) (fun c166 => absurd (by decide) c166)
      refine lv_bipush (v := (-2)) hx hb dX9_opens_188 (by decide) ?_
      refine g_iast C0 G k159 0 rfl (vp_in_nI (by omega) (by omega)) dX9_opens_190 (fun H locs f167 hf167 G => ?_)
      have k168 : f167 v = some (.inl (cy 0, 6441, .inl (X9_opens_g29 g i s))) := (by have h9 := hus hf167; rw [nI_c (by omega)] at h9; exact h9)
      refine lv_aload_n hx hb dX9_opens_191 rfl (lv_at hl 1 rfl) ?_
      have k169 : f167 m = some (.inr (11, [.int c_th, .int c_re, .ref v, .ref im, .ref kp, .ref pa, .ref de, .ref ide, .int c_un, .int c_hi, .ref tx, .int c_tn, .int c_fa, .int c_rf, .ref pt, .int c_ps, .int c_pl, .int c_to, .ref so, .ref mo, .ref wh, .ref pf])) := hup hf167 (hne k162 k159 (by intro q; cases q)) k162
      refine g_get C0 G k169 rfl hiX9 2 (by decide) mf_X9_9 rfl dX9_opens_192 ?_
      refine lv_iload_n hx hb dX9_opens_195 rfl (lv_at hl 2 rfl) ?_
      refine lv_iload_n hx hb dX9_opens_196 rfl (lv_at hl 0 rfl) ?_
      refine lv_iconst (v := 5) hx hb dX9_opens_197 (by decide) ?_
      refine g_cI C0 G (g_runS C0 G (rest := [.ref v]) (k_X9_batterAt hfl (nI i) 7 5 ) hY_X9_batterAt mm_X9_65 ms_X9_batterAt ⟨(Nat.le_of_ble_eq_true rfl), (Nat.le_of_ble_eq_true rfl)⟩ rfl hl.1 rfl (Nat.le_of_ble_eq_true rfl) dX9_opens_198 ⟨(Nat.le_of_ble_eq_true rfl), (Nat.le_of_ble_eq_true rfl)⟩) (kx_no rfl) (fun r172 u171 H locs hp170 G => ?_)
      obtain ⟨zr, eu171⟩ := hp170
      replace zr := Eq.symm zr
      subst zr
      rw [eu171] at G
      refine lv_topv (v := nI (69 + 6 * (11 * i + 7) + 5)) (bat_n i 7 5) ?_
      refine lv_iconst (v := (-1)) hx hb dX9_opens_201 (by decide) ?_
      refine g_iast C0 G k168 0 rfl (vp_in_nI (by omega) (by omega)) dX9_opens_202 (fun H locs f173 hf173 G => ?_)
      have k174 : f173 v = some (.inl (cy 0, 6441, .inl (X9_opens_g30 g i s))) := (by have h9 := hus hf173; rw [nI_c (by omega)] at h9; exact h9)
      refine lv_iinc (v := 8) (lv' := [(2, .int 8), (0, .ref m), (1, .int (nI i))]) hx hb dX9_opens_203 hl (k := 0) rfl (by exact (by decide)) (by decide) rfl (fun ls hl => ?_)
      refine lv_goto (tgt := 163) hx hb dX9_opens_206 (by decide) ?_
      refine lv_iload_n hx hb dX9_opens_163 rfl (lv_at hl 0 rfl) ?_
      refine lv_bipush (v := 11) hx hb dX9_opens_164 (by decide) ?_
      refine lv_icmp_ge (tgt := 209) hx hb dX9_opens_166 (by decide) (fun c176 => absurd c176 (by decide)) (fun _ => ?_)
      refine lv_aload_n hx hb dX9_opens_169 rfl (lv_at hl 1 rfl) ?_
      have k177 : f173 m = some (.inr (11, [.int c_th, .int c_re, .ref v, .ref im, .ref kp, .ref pa, .ref de, .ref ide, .int c_un, .int c_hi, .ref tx, .int c_tn, .int c_fa, .int c_rf, .ref pt, .int c_ps, .int c_pl, .int c_to, .ref so, .ref mo, .ref wh, .ref pf])) := hup hf173 (hne k169 k168 (by intro q; cases q)) k169
      refine g_get C0 G k177 rfl hiX9 2 (by decide) mf_X9_9 rfl dX9_opens_170 ?_
      refine lv_iload_n hx hb dX9_opens_173 rfl (lv_at hl 2 rfl) ?_
      refine lv_iload_n hx hb dX9_opens_174 rfl (lv_at hl 0 rfl) ?_
      refine lv_iconst (v := 4) hx hb dX9_opens_175 (by decide) ?_
      refine g_cI C0 G (g_runS C0 G (rest := [.ref v]) (k_X9_batterAt hfl (nI i) 8 4 ) hY_X9_batterAt mm_X9_65 ms_X9_batterAt ⟨(Nat.le_of_ble_eq_true rfl), (Nat.le_of_ble_eq_true rfl)⟩ rfl hl.1 rfl (Nat.le_of_ble_eq_true rfl) dX9_opens_176 ⟨(Nat.le_of_ble_eq_true rfl), (Nat.le_of_ble_eq_true rfl)⟩) (kx_no rfl) (fun r180 u179 H locs hp178 G => ?_)
      obtain ⟨zr, eu179⟩ := hp178
      replace zr := Eq.symm zr
      subst zr
      rw [eu179] at G
      refine lv_topv (v := nI (69 + 6 * (11 * i + 8) + 4)) (bat_n i 8 4) ?_
      refine lv_iload_n hx hb dX9_opens_179 rfl (lv_at hl 0 rfl) ?_
      refine lv_iconst (v := 2) hx hb dX9_opens_180 (by decide) ?_
      refine lv_icmp_ge (tgt := 188) hx hb dX9_opens_181 (by decide) (fun _ => ?_) (fun c181 => absurd (by decide) c181)
      refine lv_bipush (v := (-2)) hx hb dX9_opens_188 (by decide) ?_
      refine g_iast C0 G k174 0 rfl (vp_in_nI (by omega) (by omega)) dX9_opens_190 (fun H locs f182 hf182 G => ?_)
      have k183 : f182 v = some (.inl (cy 0, 6441, .inl (X9_opens_g31 g i s))) := (by have h9 := hus hf182; rw [nI_c (by omega)] at h9; exact h9)
      refine lv_aload_n hx hb dX9_opens_191 rfl (lv_at hl 1 rfl) ?_
      have k184 : f182 m = some (.inr (11, [.int c_th, .int c_re, .ref v, .ref im, .ref kp, .ref pa, .ref de, .ref ide, .int c_un, .int c_hi, .ref tx, .int c_tn, .int c_fa, .int c_rf, .ref pt, .int c_ps, .int c_pl, .int c_to, .ref so, .ref mo, .ref wh, .ref pf])) := hup hf182 (hne k177 k174 (by intro q; cases q)) k177
      refine g_get C0 G k184 rfl hiX9 2 (by decide) mf_X9_9 rfl dX9_opens_192 ?_
      refine lv_iload_n hx hb dX9_opens_195 rfl (lv_at hl 2 rfl) ?_
      refine lv_iload_n hx hb dX9_opens_196 rfl (lv_at hl 0 rfl) ?_
      refine lv_iconst (v := 5) hx hb dX9_opens_197 (by decide) ?_
      refine g_cI C0 G (g_runS C0 G (rest := [.ref v]) (k_X9_batterAt hfl (nI i) 8 5 ) hY_X9_batterAt mm_X9_65 ms_X9_batterAt ⟨(Nat.le_of_ble_eq_true rfl), (Nat.le_of_ble_eq_true rfl)⟩ rfl hl.1 rfl (Nat.le_of_ble_eq_true rfl) dX9_opens_198 ⟨(Nat.le_of_ble_eq_true rfl), (Nat.le_of_ble_eq_true rfl)⟩) (kx_no rfl) (fun r187 u186 H locs hp185 G => ?_)
      obtain ⟨zr, eu186⟩ := hp185
      replace zr := Eq.symm zr
      subst zr
      rw [eu186] at G
      refine lv_topv (v := nI (69 + 6 * (11 * i + 8) + 5)) (bat_n i 8 5) ?_
      refine lv_iconst (v := (-1)) hx hb dX9_opens_201 (by decide) ?_
      refine g_iast C0 G k183 0 rfl (vp_in_nI (by omega) (by omega)) dX9_opens_202 (fun H locs f188 hf188 G => ?_)
      have k189 : f188 v = some (.inl (cy 0, 6441, .inl (X9_opens_g32 g i s))) := (by have h9 := hus hf188; rw [nI_c (by omega)] at h9; exact h9)
      refine lv_iinc (v := 9) (lv' := [(2, .int 9), (0, .ref m), (1, .int (nI i))]) hx hb dX9_opens_203 hl (k := 0) rfl (by exact (by decide)) (by decide) rfl (fun ls hl => ?_)
      refine lv_goto (tgt := 163) hx hb dX9_opens_206 (by decide) ?_
      refine lv_iload_n hx hb dX9_opens_163 rfl (lv_at hl 0 rfl) ?_
      refine lv_bipush (v := 11) hx hb dX9_opens_164 (by decide) ?_
      refine lv_icmp_ge (tgt := 209) hx hb dX9_opens_166 (by decide) (fun c191 => absurd c191 (by decide)) (fun _ => ?_)
      refine lv_aload_n hx hb dX9_opens_169 rfl (lv_at hl 1 rfl) ?_
      have k192 : f188 m = some (.inr (11, [.int c_th, .int c_re, .ref v, .ref im, .ref kp, .ref pa, .ref de, .ref ide, .int c_un, .int c_hi, .ref tx, .int c_tn, .int c_fa, .int c_rf, .ref pt, .int c_ps, .int c_pl, .int c_to, .ref so, .ref mo, .ref wh, .ref pf])) := hup hf188 (hne k184 k183 (by intro q; cases q)) k184
      refine g_get C0 G k192 rfl hiX9 2 (by decide) mf_X9_9 rfl dX9_opens_170 ?_
      refine lv_iload_n hx hb dX9_opens_173 rfl (lv_at hl 2 rfl) ?_
      refine lv_iload_n hx hb dX9_opens_174 rfl (lv_at hl 0 rfl) ?_
      refine lv_iconst (v := 4) hx hb dX9_opens_175 (by decide) ?_
      refine g_cI C0 G (g_runS C0 G (rest := [.ref v]) (k_X9_batterAt hfl (nI i) 9 4 ) hY_X9_batterAt mm_X9_65 ms_X9_batterAt ⟨(Nat.le_of_ble_eq_true rfl), (Nat.le_of_ble_eq_true rfl)⟩ rfl hl.1 rfl (Nat.le_of_ble_eq_true rfl) dX9_opens_176 ⟨(Nat.le_of_ble_eq_true rfl), (Nat.le_of_ble_eq_true rfl)⟩) (kx_no rfl) (fun r195 u194 H locs hp193 G => ?_)
      obtain ⟨zr, eu194⟩ := hp193
      replace zr := Eq.symm zr
      subst zr
      rw [eu194] at G
      refine lv_topv (v := nI (69 + 6 * (11 * i + 9) + 4)) (bat_n i 9 4) ?_
      refine lv_iload_n hx hb dX9_opens_179 rfl (lv_at hl 0 rfl) ?_
      refine lv_iconst (v := 2) hx hb dX9_opens_180 (by decide) ?_
      refine lv_icmp_ge (tgt := 188) hx hb dX9_opens_181 (by decide) (fun _ => ?_) (fun c196 => absurd (by decide) c196)
      refine lv_bipush (v := (-2)) hx hb dX9_opens_188 (by decide) ?_
      refine g_iast C0 G k189 0 rfl (vp_in_nI (by omega) (by omega)) dX9_opens_190 (fun H locs f197 hf197 G => ?_)
      have k198 : f197 v = some (.inl (cy 0, 6441, .inl (X9_opens_g33 g i s))) := (by have h9 := hus hf197; rw [nI_c (by omega)] at h9; exact h9)
      refine lv_aload_n hx hb dX9_opens_191 rfl (lv_at hl 1 rfl) ?_
      have k199 : f197 m = some (.inr (11, [.int c_th, .int c_re, .ref v, .ref im, .ref kp, .ref pa, .ref de, .ref ide, .int c_un, .int c_hi, .ref tx, .int c_tn, .int c_fa, .int c_rf, .ref pt, .int c_ps, .int c_pl, .int c_to, .ref so, .ref mo, .ref wh, .ref pf])) := hup hf197 (hne k192 k189 (by intro q; cases q)) k192
      refine g_get C0 G k199 rfl hiX9 2 (by decide) mf_X9_9 rfl dX9_opens_192 ?_
      refine lv_iload_n hx hb dX9_opens_195 rfl (lv_at hl 2 rfl) ?_
      refine lv_iload_n hx hb dX9_opens_196 rfl (lv_at hl 0 rfl) ?_
      refine lv_iconst (v := 5) hx hb dX9_opens_197 (by decide) ?_
      refine g_cI C0 G (g_runS C0 G (rest := [.ref v]) (k_X9_batterAt hfl (nI i) 9 5 ) hY_X9_batterAt mm_X9_65 ms_X9_batterAt ⟨(Nat.le_of_ble_eq_true rfl), (Nat.le_of_ble_eq_true rfl)⟩ rfl hl.1 rfl (Nat.le_of_ble_eq_true rfl) dX9_opens_198 ⟨(Nat.le_of_ble_eq_true rfl), (Nat.le_of_ble_eq_true rfl)⟩) (kx_no rfl) (fun r202 u201 H locs hp200 G => ?_)
      obtain ⟨zr, eu201⟩ := hp200
      replace zr := Eq.symm zr
      subst zr
      rw [eu201] at G
      refine lv_topv (v := nI (69 + 6 * (11 * i + 9) + 5)) (bat_n i 9 5) ?_
      refine lv_iconst (v := (-1)) hx hb dX9_opens_201 (by decide) ?_
      refine g_iast C0 G k198 0 rfl (vp_in_nI (by omega) (by omega)) dX9_opens_202 (fun H locs f203 hf203 G => ?_)
      have k204 : f203 v = some (.inl (cy 0, 6441, .inl (X9_opens_g34 g i s))) := (by have h9 := hus hf203; rw [nI_c (by omega)] at h9; exact h9)
      refine lv_iinc (v := 10) (lv' := [(2, .int 10), (0, .ref m), (1, .int (nI i))]) hx hb dX9_opens_203 hl (k := 0) rfl (by exact (by decide)) (by decide) rfl (fun ls hl => ?_)
      refine lv_goto (tgt := 163) hx hb dX9_opens_206 (by decide) ?_
      refine lv_iload_n hx hb dX9_opens_163 rfl (lv_at hl 0 rfl) ?_
      refine lv_bipush (v := 11) hx hb dX9_opens_164 (by decide) ?_
      refine lv_icmp_ge (tgt := 209) hx hb dX9_opens_166 (by decide) (fun c206 => absurd c206 (by decide)) (fun _ => ?_)
      refine lv_aload_n hx hb dX9_opens_169 rfl (lv_at hl 1 rfl) ?_
      have k207 : f203 m = some (.inr (11, [.int c_th, .int c_re, .ref v, .ref im, .ref kp, .ref pa, .ref de, .ref ide, .int c_un, .int c_hi, .ref tx, .int c_tn, .int c_fa, .int c_rf, .ref pt, .int c_ps, .int c_pl, .int c_to, .ref so, .ref mo, .ref wh, .ref pf])) := hup hf203 (hne k199 k198 (by intro q; cases q)) k199
      refine g_get C0 G k207 rfl hiX9 2 (by decide) mf_X9_9 rfl dX9_opens_170 ?_
      refine lv_iload_n hx hb dX9_opens_173 rfl (lv_at hl 2 rfl) ?_
      refine lv_iload_n hx hb dX9_opens_174 rfl (lv_at hl 0 rfl) ?_
      refine lv_iconst (v := 4) hx hb dX9_opens_175 (by decide) ?_
      refine g_cI C0 G (g_runS C0 G (rest := [.ref v]) (k_X9_batterAt hfl (nI i) 10 4 ) hY_X9_batterAt mm_X9_65 ms_X9_batterAt ⟨(Nat.le_of_ble_eq_true rfl), (Nat.le_of_ble_eq_true rfl)⟩ rfl hl.1 rfl (Nat.le_of_ble_eq_true rfl) dX9_opens_176 ⟨(Nat.le_of_ble_eq_true rfl), (Nat.le_of_ble_eq_true rfl)⟩) (kx_no rfl) (fun r210 u209 H locs hp208 G => ?_)
      obtain ⟨zr, eu209⟩ := hp208
      replace zr := Eq.symm zr
      subst zr
      rw [eu209] at G
      refine lv_topv (v := nI (69 + 6 * (11 * i + 10) + 4)) (bat_n i 10 4) ?_
      refine lv_iload_n hx hb dX9_opens_179 rfl (lv_at hl 0 rfl) ?_
      refine lv_iconst (v := 2) hx hb dX9_opens_180 (by decide) ?_
      refine lv_icmp_ge (tgt := 188) hx hb dX9_opens_181 (by decide) (fun _ => ?_) (fun c211 => absurd (by decide) c211)
      refine lv_bipush (v := (-2)) hx hb dX9_opens_188 (by decide) ?_
      refine g_iast C0 G k204 0 rfl (vp_in_nI (by omega) (by omega)) dX9_opens_190 (fun H locs f212 hf212 G => ?_)
      have k213 : f212 v = some (.inl (cy 0, 6441, .inl (X9_opens_g35 g i s))) := (by have h9 := hus hf212; rw [nI_c (by omega)] at h9; exact h9)
      refine lv_aload_n hx hb dX9_opens_191 rfl (lv_at hl 1 rfl) ?_
      have k214 : f212 m = some (.inr (11, [.int c_th, .int c_re, .ref v, .ref im, .ref kp, .ref pa, .ref de, .ref ide, .int c_un, .int c_hi, .ref tx, .int c_tn, .int c_fa, .int c_rf, .ref pt, .int c_ps, .int c_pl, .int c_to, .ref so, .ref mo, .ref wh, .ref pf])) := hup hf212 (hne k207 k204 (by intro q; cases q)) k207
      refine g_get C0 G k214 rfl hiX9 2 (by decide) mf_X9_9 rfl dX9_opens_192 ?_
      refine lv_iload_n hx hb dX9_opens_195 rfl (lv_at hl 2 rfl) ?_
      refine lv_iload_n hx hb dX9_opens_196 rfl (lv_at hl 0 rfl) ?_
      refine lv_iconst (v := 5) hx hb dX9_opens_197 (by decide) ?_
      refine g_cI C0 G (g_runS C0 G (rest := [.ref v]) (k_X9_batterAt hfl (nI i) 10 5 ) hY_X9_batterAt mm_X9_65 ms_X9_batterAt ⟨(Nat.le_of_ble_eq_true rfl), (Nat.le_of_ble_eq_true rfl)⟩ rfl hl.1 rfl (Nat.le_of_ble_eq_true rfl) dX9_opens_198 ⟨(Nat.le_of_ble_eq_true rfl), (Nat.le_of_ble_eq_true rfl)⟩) (kx_no rfl) (fun r217 u216 H locs hp215 G => ?_)
      obtain ⟨zr, eu216⟩ := hp215
      replace zr := Eq.symm zr
      subst zr
      rw [eu216] at G
      refine lv_topv (v := nI (69 + 6 * (11 * i + 10) + 5)) (bat_n i 10 5) ?_
      refine lv_iconst (v := (-1)) hx hb dX9_opens_201 (by decide) ?_
      refine g_iast C0 G k213 0 rfl (vp_in_nI (by omega) (by omega)) dX9_opens_202 (fun H locs f218 hf218 G => ?_)
      have k219 : f218 v = some (.inl (cy 0, 6441, .inl (X9_opens_g36 g i s))) := (by have h9 := hus hf218; rw [nI_c (by omega)] at h9; exact h9)
      refine lv_iinc (v := 11) (lv' := [(2, .int 11), (0, .ref m), (1, .int (nI i))]) hx hb dX9_opens_203 hl (k := 0) rfl (by exact (by decide)) (by decide) rfl (fun ls hl => ?_)
      refine lv_goto (tgt := 163) hx hb dX9_opens_206 (by decide) ?_
      refine lv_iload_n hx hb dX9_opens_163 rfl (lv_at hl 0 rfl) ?_
      refine lv_bipush (v := 11) hx hb dX9_opens_164 (by decide) ?_
      refine lv_icmp_ge (tgt := 209) hx hb dX9_opens_166 (by decide) (fun _ => ?_) (fun c221 => absurd (by decide) c221)
      refine lv_aload_n hx hb dX9_opens_209 rfl (lv_at hl 1 rfl) ?_
      have k222 : f218 m = some (.inr (11, [.int c_th, .int c_re, .ref v, .ref im, .ref kp, .ref pa, .ref de, .ref ide, .int c_un, .int c_hi, .ref tx, .int c_tn, .int c_fa, .int c_rf, .ref pt, .int c_ps, .int c_pl, .int c_to, .ref so, .ref mo, .ref wh, .ref pf])) := hup hf218 (hne k214 k213 (by intro q; cases q)) k214
      refine g_cV C0 G (g_runV C0 G (rest := []) (k_X9_share hfl k222 k219 (by rw [X9_opens_g36, upd_off (by omega)]; exact (by rw [X9_opens_g35, upd_off (by omega)]; exact (by rw [X9_opens_g34, upd_off (by omega)]; exact (by rw [X9_opens_g33, upd_off (by omega)]; exact (by rw [X9_opens_g32, upd_off (by omega)]; exact (by rw [X9_opens_g31, upd_off (by omega)]; exact (by rw [X9_opens_g30, upd_off (by omega)]; exact (by rw [X9_opens_g29, upd_off (by omega)]; exact (by rw [X9_opens_g28, upd_off (by omega)]; exact (by rw [X9_opens_g27, upd_off (by omega)]; exact (by rw [X9_opens_g26, upd_off (by omega)]; exact (by rw [X9_opens_g25, upd_off (by omega)]; exact (by rw [X9_opens_g24, upd_off (by omega)]; exact (by rw [X9_opens_g23, upd_off (by omega)]; exact (by rw [X9_opens_g22, upd_off (by omega)]; exact (by rw [X9_opens_g21, upd_off (by omega)]; exact (by rw [X9_opens_g20, upd_off (by omega)]; exact (by rw [X9_opens_g19, upd_off (by omega)]; exact (by rw [X9_opens_g18, upd_off (by omega)]; exact (by rw [X9_opens_g17, upd_off (by omega)]; exact (by rw [X9_opens_g16, upd_off (by omega)]; exact (by rw [X9_opens_g15, upd_off (by omega)]; exact (by rw [X9_opens_g14, upd_off (by omega)]; exact (by rw [X9_opens_g13, upd_off (by omega)]; exact (by rw [X9_opens_g11, upd_off (by omega)]; exact (by rw [X9_opens_g10]; split; exact (by rw [X9_opens_g8, upd_off (by omega)]; exact (by rw [X9_opens_g7, upd_off (by omega)]; exact (by rw [X9_opens_g6, upd_off (by omega)]; exact (by rw [X9_opens_g5, upd_off (by omega)]; exact (by rw [X9_opens_g4, upd_off (by omega)]; exact (by rw [X9_opens_g3, upd_off (by omega)]; exact (by rw [X9_opens_g2, upd_off (by omega)]; exact (by rw [X9_opens_g1, upd_off (by omega)]; exact (by rw [X9_opens_g0, upd_off (by omega)]; exact h22))))))))); exact (by rw [X9_opens_g9]; split; exact (by rw [X9_opens_g8, upd_off (by omega)]; exact (by rw [X9_opens_g7, upd_off (by omega)]; exact (by rw [X9_opens_g6, upd_off (by omega)]; exact (by rw [X9_opens_g5, upd_off (by omega)]; exact (by rw [X9_opens_g4, upd_off (by omega)]; exact (by rw [X9_opens_g3, upd_off (by omega)]; exact (by rw [X9_opens_g2, upd_off (by omega)]; exact (by rw [X9_opens_g1, upd_off (by omega)]; exact (by rw [X9_opens_g0, upd_off (by omega)]; exact h22))))))))); exact (by rw [X9_opens_g7, upd_off (by omega)]; exact (by rw [X9_opens_g6, upd_off (by omega)]; exact (by rw [X9_opens_g5, upd_off (by omega)]; exact (by rw [X9_opens_g4, upd_off (by omega)]; exact (by rw [X9_opens_g3, upd_off (by omega)]; exact (by rw [X9_opens_g2, upd_off (by omega)]; exact (by rw [X9_opens_g1, upd_off (by omega)]; exact (by rw [X9_opens_g0, upd_off (by omega)]; exact h22))))))))))))))))))))))))))))))))))) hs) k222 rfl hY_X9_share mm_X9_69 mi_X9_share ml_X9_share ⟨(Nat.le_of_ble_eq_true rfl), (Nat.le_of_ble_eq_true rfl)⟩ rfl hl.1 rfl (Nat.le_of_ble_eq_true rfl) dX9_opens_210 ⟨(Nat.le_of_ble_eq_true rfl), (Nat.le_of_ble_eq_true rfl)⟩) (kx_no rfl) (fun u224 H locs hp223 G => ?_)
      obtain ⟨k225, fr226⟩ := hp223
      exact g_vret C0 G hr dX9_opens_213 (Nat.le_of_ble_eq_true rfl) (Nat.le_of_ble_eq_true rfl) (by exact ⟨(by rw [(by rw [X9_opens_g37] : (X9_opens_g37 g i s) = (X9_share_g13 (X9_opens_g36 g i s) s))]; exact k225), (fun a9 e9 h7 h8 => fr226 _ _ (fun q => h7 (by simp only [List.mem_cons, List.not_mem_nil, or_false] at q ⊢; first | exact q | (rcases q with q <;> simp [q]) | omega)) (hup hf218 (fun q => h7 (by rw [q]; simp)) (hup hf212 (fun q => h7 (by rw [q]; simp)) (hup hf203 (fun q => h7 (by rw [q]; simp)) (hup hf197 (fun q => h7 (by rw [q]; simp)) (hup hf188 (fun q => h7 (by rw [q]; simp)) (hup hf182 (fun q => h7 (by rw [q]; simp)) (hup hf173 (fun q => h7 (by rw [q]; simp)) (hup hf167 (fun q => h7 (by rw [q]; simp)) (hup hf158 (fun q => h7 (by rw [q]; simp)) (hup hf152 (fun q => h7 (by rw [q]; simp)) (hup hf143 (fun q => h7 (by rw [q]; simp)) (hup hf137 (fun q => h7 (by rw [q]; simp)) (hup hf128 (fun q => h7 (by rw [q]; simp)) (hup hf122 (fun q => h7 (by rw [q]; simp)) (hup hf113 (fun q => h7 (by rw [q]; simp)) (hup hf107 (fun q => h7 (by rw [q]; simp)) (hup hf98 (fun q => h7 (by rw [q]; simp)) (hup hf92 (fun q => h7 (by rw [q]; simp)) (hup hf83 (fun q => h7 (by rw [q]; simp)) (hup hf77 (fun q => h7 (by rw [q]; simp)) (hup hf68 (fun q => h7 (by rw [q]; simp)) (hup hf62 (fun q => h7 (by rw [q]; simp)) (hup hf54 (fun q => h7 (by rw [q]; simp)) (hup hf48 (fun q => h7 (by rw [q]; simp)) (hup hf41 (fun q => h7 (by rw [q]; simp)) (fr39 _ _ (fun q => h7 (by simp only [List.mem_cons, List.not_mem_nil, or_false] at q ⊢; first | exact q | (rcases q with q <;> simp [q]) | omega)) (hup hf32 (fun q => h7 (by rw [q]; simp)) (hup hf29 (fun q => h7 (by rw [q]; simp)) (hup hf26 (fun q => h7 (by rw [q]; simp)) (hup hf23 (fun q => h7 (by rw [q]; simp)) (hup hf20 (fun q => h7 (by rw [q]; simp)) (hup hf17 (fun q => h7 (by rw [q]; simp)) (hup hf14 (fun q => h7 (by rw [q]; simp)) (hup hf11 (fun q => h7 (by rw [q]; simp)) (h8))))))))))))))))))))))))))))))))))))⟩)
    refine lv_icmp_ne (tgt := 141) hx hb dX9_opens_121 (by decide) (fun c44 => ?_) (fun c44 => ?_)
    · refine lv_iconst (v := 0) hx hb dX9_opens_141 (by decide) ?_
      exact J46 0 (by rw [X9_opens_x12, if_neg c44]) _ _ _ G (lv_sub hl [0, 1] rfl)
    · refine lv_bipush (v := 6) hx hb dX9_opens_124 (by decide) ?_
      refine lv_aload_n hx hb dX9_opens_126 rfl (lv_at hl 0 rfl) ?_
      refine g_get C0 G k43 rfl hiX9 2 (by decide) mf_X9_9 rfl dX9_opens_127 ?_
      refine lv_bipush (v := 13) hx hb dX9_opens_130 (by decide) ?_
      refine g_iald C0 G k42 0 rfl (by unfold vp_in; decide) dX9_opens_132 ?_
      refine lv_topv (v := (X9_opens_g11 g i) 13) rfl ?_
      refine lv_imul hx hb dX9_opens_133 ?_
      refine lv_iconst (v := 0) hx hb dX9_opens_134 (by decide) ?_
      refine g_cI C0 G (g_runS C0 G (rest := [.int (nI (14 + i)), .ref v]) (k_X9_worth hfl (6 * ((X9_opens_g11 g i) 13)) 0 ) hY_X9_worth mm_X9_58 ms_X9_worth ⟨(Nat.le_of_ble_eq_true rfl), (Nat.le_of_ble_eq_true rfl)⟩ rfl hl.1 rfl (Nat.le_of_ble_eq_true rfl) dX9_opens_135 ⟨(Nat.le_of_ble_eq_true rfl), (Nat.le_of_ble_eq_true rfl)⟩) (kx_no rfl) (fun r229 u228 H locs hp227 G => ?_)
      obtain ⟨zr, eu228⟩ := hp227
      replace zr := Eq.symm zr
      subst zr
      rw [eu228] at G
      refine lv_goto (tgt := 142) hx hb dX9_opens_138 (by decide) ?_
      exact J46 (X9_worth_r0 (6 * ((X9_opens_g11 g i) 13)) 0) (by rw [X9_opens_x12, if_pos c44]) _ _ _ G (lv_sub hl [0, 1] rfl)
  refine lv_if_eq (tgt := 77) hx hb dX9_opens_64 (by decide) (fun c34 => ?_) (fun c34 => ?_)
  · have n230 : i = 0 := (nI_eq (a := i) (b := 0) (by omega) (by omega)).mp c34
    refine lv_aload_n hx hb dX9_opens_77 rfl (lv_at hl 0 rfl) ?_
    have k231 : f32 m = some (.inr (11, [.int c_th, .int c_re, .ref v, .ref im, .ref kp, .ref pa, .ref de, .ref ide, .int c_un, .int c_hi, .ref tx, .int c_tn, .int c_fa, .int c_rf, .ref pt, .int c_ps, .int c_pl, .int c_to, .ref so, .ref mo, .ref wh, .ref pf])) := hup hf32 (hne k31 k30 (by intro q; cases q)) k31
    refine g_get C0 G k231 rfl hiX9 2 (by decide) mf_X9_9 rfl dX9_opens_78 ?_
    refine lv_bipush (v := 13) hx hb dX9_opens_81 (by decide) ?_
    refine lv_aload_n hx hb dX9_opens_83 rfl (lv_at hl 0 rfl) ?_
    refine g_get C0 G k231 rfl hiX9 2 (by decide) mf_X9_9 rfl dX9_opens_84 ?_
    refine lv_iconst (v := 3) hx hb dX9_opens_87 (by decide) ?_
    refine g_iald C0 G k33 0 rfl (by unfold vp_in; decide) dX9_opens_88 ?_
    refine lv_topv (v := (X9_opens_g7 g i) 3) rfl ?_
    refine g_iast C0 G k33 0 rfl (by unfold vp_in; decide) dX9_opens_89 (fun H locs f232 hf232 G => ?_)
    have k233 : f232 v = some (.inl (cy 0, 6441, .inl (X9_opens_g8 g i))) := hus hf232
    exact J36 (X9_opens_g8 g i) (by rw [X9_opens_g10, if_pos c34]) f232 _ _ _ k233 (fun a9 e9 h7 h8 => hup hf232 (fun q => h7 (by rw [q]; simp)) (h8)) G (lv_sub hl [0, 1] rfl)
  · have n234 : ¬ i = 0 := fun q => c34 ((nI_eq (a := i) (b := 0) (by omega) (by omega)).mpr q)
    refine lv_aload_n hx hb dX9_opens_67 rfl (lv_at hl 0 rfl) ?_
    have k235 : f32 m = some (.inr (11, [.int c_th, .int c_re, .ref v, .ref im, .ref kp, .ref pa, .ref de, .ref ide, .int c_un, .int c_hi, .ref tx, .int c_tn, .int c_fa, .int c_rf, .ref pt, .int c_ps, .int c_pl, .int c_to, .ref so, .ref mo, .ref wh, .ref pf])) := hup hf32 (hne k31 k30 (by intro q; cases q)) k31
    refine g_get C0 G k235 rfl hiX9 2 (by decide) mf_X9_9 rfl dX9_opens_68 ?_
    refine lv_iconst (v := 1) hx hb dX9_opens_71 (by decide) ?_
    refine g_iald C0 G k33 0 rfl (by unfold vp_in; decide) dX9_opens_72 ?_
    refine lv_topv (v := (X9_opens_g7 g i) 1) rfl ?_
    refine lv_iconst (v := 2) hx hb dX9_opens_73 (by decide) ?_
    have J238 : ∀ (y237 : Nat → Int32) (_ : y237 = (X9_opens_g9 g i)) (f239 : Hf) (H : Heap) (locs : List Loc) (ls : Array Slot), f239 v = some (.inl (cy 0, 6441, .inl y237)) → hFrL f32 f239 [v] → hG D (hA f sz) f239 s9 H locs → lv_has ls 3 [(0, .ref m), (1, .int (nI i))] → W p9 l e9 ({ frames := 1, cells := 0, slots := 0, locals := 24 } : Room) s9 m9 ([.ref m, .int (nI i)] : List Value).toArray b9 t9 c9 H locs 0 0 (vx_MQ b9 (hQv (fun u => u v = some (.inl (cy 0, 6441, .inl (X9_opens_g37 g i s))) ∧ hFrL f u [v]) D f sz) (hPx hNo D f sz) ([.ref m, .int (nI i)] : List Value).toArray s9 0 0 (hA f sz)) (F0 m9 90 ls []) := by
      intro y237 ey237 f239 H locs ls k240 fr241 G hl
      replace ey237 := Eq.symm ey237
      subst ey237
      exact J36 (X9_opens_g9 g i) (by rw [X9_opens_g10, if_neg c34]) f239 _ _ _ k240 (fun a9 e9 h7 h8 => fr241 _ _ (fun q => h7 (by simp only [List.mem_cons, List.not_mem_nil, or_false] at q ⊢; first | exact q | (rcases q with q <;> simp [q]) | omega)) (h8)) G (lv_sub hl [0, 1] rfl)
    refine lv_icmp_ne (tgt := 90) hx hb dX9_opens_74 (by decide) (fun c236 => ?_) (fun c236 => ?_)
    · exact J238 (X9_opens_g7 g i) (by rw [X9_opens_g9, if_neg c236]) f32 _ _ _ k33 (fun a9 e9 h7 h8 => h8) G (lv_sub hl [0, 1] rfl)
    · refine lv_aload_n hx hb dX9_opens_77 rfl (lv_at hl 0 rfl) ?_
      refine g_get C0 G k235 rfl hiX9 2 (by decide) mf_X9_9 rfl dX9_opens_78 ?_
      refine lv_bipush (v := 13) hx hb dX9_opens_81 (by decide) ?_
      refine lv_aload_n hx hb dX9_opens_83 rfl (lv_at hl 0 rfl) ?_
      refine g_get C0 G k235 rfl hiX9 2 (by decide) mf_X9_9 rfl dX9_opens_84 ?_
      refine lv_iconst (v := 3) hx hb dX9_opens_87 (by decide) ?_
      refine g_iald C0 G k33 0 rfl (by unfold vp_in; decide) dX9_opens_88 ?_
      refine lv_topv (v := (X9_opens_g7 g i) 3) rfl ?_
      refine g_iast C0 G k33 0 rfl (by unfold vp_in; decide) dX9_opens_89 (fun H locs f242 hf242 G => ?_)
      have k243 : f242 v = some (.inl (cy 0, 6441, .inl (X9_opens_g8 g i))) := hus hf242
      exact J238 (X9_opens_g8 g i) (by rw [X9_opens_g9, if_pos c236]) f242 _ _ _ k243 (fun a9 e9 h7 h8 => hup hf242 (fun q => h7 (by rw [q]; simp)) (h8)) G (lv_sub hl [0, 1] rfl)
theorem rd_X9_opens_0 {g : Nat → Int32} {i : Nat} {s : Nat} (hi : i < 4) (hs : s < 700) : (X9_opens_g37 g i s) 0 = g 0 := (by rw [X9_opens_g37]; exact ((rd_X9_share_0 (by omega)).trans (by rw [X9_opens_g36, upd_off (by omega)]; exact (by rw [X9_opens_g35, upd_off (by omega)]; exact (by rw [X9_opens_g34, upd_off (by omega)]; exact (by rw [X9_opens_g33, upd_off (by omega)]; exact (by rw [X9_opens_g32, upd_off (by omega)]; exact (by rw [X9_opens_g31, upd_off (by omega)]; exact (by rw [X9_opens_g30, upd_off (by omega)]; exact (by rw [X9_opens_g29, upd_off (by omega)]; exact (by rw [X9_opens_g28, upd_off (by omega)]; exact (by rw [X9_opens_g27, upd_off (by omega)]; exact (by rw [X9_opens_g26, upd_off (by omega)]; exact (by rw [X9_opens_g25, upd_off (by omega)]; exact (by rw [X9_opens_g24, upd_off (by omega)]; exact (by rw [X9_opens_g23, upd_off (by omega)]; exact (by rw [X9_opens_g22, upd_off (by omega)]; exact (by rw [X9_opens_g21, upd_off (by omega)]; exact (by rw [X9_opens_g20, upd_off (by omega)]; exact (by rw [X9_opens_g19, upd_off (by omega)]; exact (by rw [X9_opens_g18, upd_off (by omega)]; exact (by rw [X9_opens_g17, upd_off (by omega)]; exact (by rw [X9_opens_g16, upd_off (by omega)]; exact (by rw [X9_opens_g15, upd_off (by omega)]; exact (by rw [X9_opens_g14, upd_off (by omega)]; exact (by rw [X9_opens_g13, upd_off (by omega)]; exact (by rw [X9_opens_g11, upd_off (by omega)]; exact (by rw [X9_opens_g10]; split; exact (by rw [X9_opens_g8, upd_off (by omega)]; exact (by rw [X9_opens_g7, upd_off (by omega)]; exact (by rw [X9_opens_g6, upd_off (by omega)]; exact (by rw [X9_opens_g5, upd_off (by omega)]; exact (by rw [X9_opens_g4, upd_off (by omega)]; exact (by rw [X9_opens_g3, upd_off (by omega)]; exact (by rw [X9_opens_g2, upd_off (by omega)]; exact (by rw [X9_opens_g1, upd_off (by omega)]; exact (by rw [X9_opens_g0, upd_off (by omega)]))))))))); exact (by rw [X9_opens_g9]; split; exact (by rw [X9_opens_g8, upd_off (by omega)]; exact (by rw [X9_opens_g7, upd_off (by omega)]; exact (by rw [X9_opens_g6, upd_off (by omega)]; exact (by rw [X9_opens_g5, upd_off (by omega)]; exact (by rw [X9_opens_g4, upd_off (by omega)]; exact (by rw [X9_opens_g3, upd_off (by omega)]; exact (by rw [X9_opens_g2, upd_off (by omega)]; exact (by rw [X9_opens_g1, upd_off (by omega)]; exact (by rw [X9_opens_g0, upd_off (by omega)]))))))))); exact (by rw [X9_opens_g7, upd_off (by omega)]; exact (by rw [X9_opens_g6, upd_off (by omega)]; exact (by rw [X9_opens_g5, upd_off (by omega)]; exact (by rw [X9_opens_g4, upd_off (by omega)]; exact (by rw [X9_opens_g3, upd_off (by omega)]; exact (by rw [X9_opens_g2, upd_off (by omega)]; exact (by rw [X9_opens_g1, upd_off (by omega)]; exact (by rw [X9_opens_g0, upd_off (by omega)])))))))))))))))))))))))))))))))))))))
theorem rd_X9_opens_1 {g : Nat → Int32} {i : Nat} {s : Nat} (hi : i < 4) (hs : s < 700) : (X9_opens_g37 g i s) 1 = g 1 := (by rw [X9_opens_g37]; exact ((rd_X9_share_1 (by omega)).trans (by rw [X9_opens_g36, upd_off (by omega)]; exact (by rw [X9_opens_g35, upd_off (by omega)]; exact (by rw [X9_opens_g34, upd_off (by omega)]; exact (by rw [X9_opens_g33, upd_off (by omega)]; exact (by rw [X9_opens_g32, upd_off (by omega)]; exact (by rw [X9_opens_g31, upd_off (by omega)]; exact (by rw [X9_opens_g30, upd_off (by omega)]; exact (by rw [X9_opens_g29, upd_off (by omega)]; exact (by rw [X9_opens_g28, upd_off (by omega)]; exact (by rw [X9_opens_g27, upd_off (by omega)]; exact (by rw [X9_opens_g26, upd_off (by omega)]; exact (by rw [X9_opens_g25, upd_off (by omega)]; exact (by rw [X9_opens_g24, upd_off (by omega)]; exact (by rw [X9_opens_g23, upd_off (by omega)]; exact (by rw [X9_opens_g22, upd_off (by omega)]; exact (by rw [X9_opens_g21, upd_off (by omega)]; exact (by rw [X9_opens_g20, upd_off (by omega)]; exact (by rw [X9_opens_g19, upd_off (by omega)]; exact (by rw [X9_opens_g18, upd_off (by omega)]; exact (by rw [X9_opens_g17, upd_off (by omega)]; exact (by rw [X9_opens_g16, upd_off (by omega)]; exact (by rw [X9_opens_g15, upd_off (by omega)]; exact (by rw [X9_opens_g14, upd_off (by omega)]; exact (by rw [X9_opens_g13, upd_off (by omega)]; exact (by rw [X9_opens_g11, upd_off (by omega)]; exact (by rw [X9_opens_g10]; split; exact (by rw [X9_opens_g8, upd_off (by omega)]; exact (by rw [X9_opens_g7, upd_off (by omega)]; exact (by rw [X9_opens_g6, upd_off (by omega)]; exact (by rw [X9_opens_g5, upd_off (by omega)]; exact (by rw [X9_opens_g4, upd_off (by omega)]; exact (by rw [X9_opens_g3, upd_off (by omega)]; exact (by rw [X9_opens_g2, upd_off (by omega)]; exact (by rw [X9_opens_g1, upd_off (by omega)]; exact (by rw [X9_opens_g0, upd_off (by omega)]))))))))); exact (by rw [X9_opens_g9]; split; exact (by rw [X9_opens_g8, upd_off (by omega)]; exact (by rw [X9_opens_g7, upd_off (by omega)]; exact (by rw [X9_opens_g6, upd_off (by omega)]; exact (by rw [X9_opens_g5, upd_off (by omega)]; exact (by rw [X9_opens_g4, upd_off (by omega)]; exact (by rw [X9_opens_g3, upd_off (by omega)]; exact (by rw [X9_opens_g2, upd_off (by omega)]; exact (by rw [X9_opens_g1, upd_off (by omega)]; exact (by rw [X9_opens_g0, upd_off (by omega)]))))))))); exact (by rw [X9_opens_g7, upd_off (by omega)]; exact (by rw [X9_opens_g6, upd_off (by omega)]; exact (by rw [X9_opens_g5, upd_off (by omega)]; exact (by rw [X9_opens_g4, upd_off (by omega)]; exact (by rw [X9_opens_g3, upd_off (by omega)]; exact (by rw [X9_opens_g2, upd_off (by omega)]; exact (by rw [X9_opens_g1, upd_off (by omega)]; exact (by rw [X9_opens_g0, upd_off (by omega)])))))))))))))))))))))))))))))))))))))
theorem rd_X9_opens_2 {g : Nat → Int32} {i : Nat} {s : Nat} (hi : i < 4) (hs : s < 700) : (X9_opens_g37 g i s) 2 = g 2 := (by rw [X9_opens_g37]; exact ((rd_X9_share_2 (by omega)).trans (by rw [X9_opens_g36, upd_off (by omega)]; exact (by rw [X9_opens_g35, upd_off (by omega)]; exact (by rw [X9_opens_g34, upd_off (by omega)]; exact (by rw [X9_opens_g33, upd_off (by omega)]; exact (by rw [X9_opens_g32, upd_off (by omega)]; exact (by rw [X9_opens_g31, upd_off (by omega)]; exact (by rw [X9_opens_g30, upd_off (by omega)]; exact (by rw [X9_opens_g29, upd_off (by omega)]; exact (by rw [X9_opens_g28, upd_off (by omega)]; exact (by rw [X9_opens_g27, upd_off (by omega)]; exact (by rw [X9_opens_g26, upd_off (by omega)]; exact (by rw [X9_opens_g25, upd_off (by omega)]; exact (by rw [X9_opens_g24, upd_off (by omega)]; exact (by rw [X9_opens_g23, upd_off (by omega)]; exact (by rw [X9_opens_g22, upd_off (by omega)]; exact (by rw [X9_opens_g21, upd_off (by omega)]; exact (by rw [X9_opens_g20, upd_off (by omega)]; exact (by rw [X9_opens_g19, upd_off (by omega)]; exact (by rw [X9_opens_g18, upd_off (by omega)]; exact (by rw [X9_opens_g17, upd_off (by omega)]; exact (by rw [X9_opens_g16, upd_off (by omega)]; exact (by rw [X9_opens_g15, upd_off (by omega)]; exact (by rw [X9_opens_g14, upd_off (by omega)]; exact (by rw [X9_opens_g13, upd_off (by omega)]; exact (by rw [X9_opens_g11, upd_off (by omega)]; exact (by rw [X9_opens_g10]; split; exact (by rw [X9_opens_g8, upd_off (by omega)]; exact (by rw [X9_opens_g7, upd_off (by omega)]; exact (by rw [X9_opens_g6, upd_off (by omega)]; exact (by rw [X9_opens_g5, upd_off (by omega)]; exact (by rw [X9_opens_g4, upd_off (by omega)]; exact (by rw [X9_opens_g3, upd_off (by omega)]; exact (by rw [X9_opens_g2, upd_off (by omega)]; exact (by rw [X9_opens_g1, upd_off (by omega)]; exact (by rw [X9_opens_g0, upd_off (by omega)]))))))))); exact (by rw [X9_opens_g9]; split; exact (by rw [X9_opens_g8, upd_off (by omega)]; exact (by rw [X9_opens_g7, upd_off (by omega)]; exact (by rw [X9_opens_g6, upd_off (by omega)]; exact (by rw [X9_opens_g5, upd_off (by omega)]; exact (by rw [X9_opens_g4, upd_off (by omega)]; exact (by rw [X9_opens_g3, upd_off (by omega)]; exact (by rw [X9_opens_g2, upd_off (by omega)]; exact (by rw [X9_opens_g1, upd_off (by omega)]; exact (by rw [X9_opens_g0, upd_off (by omega)]))))))))); exact (by rw [X9_opens_g7, upd_off (by omega)]; exact (by rw [X9_opens_g6, upd_off (by omega)]; exact (by rw [X9_opens_g5, upd_off (by omega)]; exact (by rw [X9_opens_g4, upd_off (by omega)]; exact (by rw [X9_opens_g3, upd_off (by omega)]; exact (by rw [X9_opens_g2, upd_off (by omega)]; exact (by rw [X9_opens_g1, upd_off (by omega)]; exact (by rw [X9_opens_g0, upd_off (by omega)])))))))))))))))))))))))))))))))))))))
theorem rd_X9_opens_4 {g : Nat → Int32} {i : Nat} {s : Nat} (hi : i < 4) (hs : s < 700) : (X9_opens_g37 g i s) 4 = nI i := (by rw [X9_opens_g37]; exact ((rd_X9_share_4 (by omega)).trans (by rw [X9_opens_g36, upd_off (by omega)]; exact (by rw [X9_opens_g35, upd_off (by omega)]; exact (by rw [X9_opens_g34, upd_off (by omega)]; exact (by rw [X9_opens_g33, upd_off (by omega)]; exact (by rw [X9_opens_g32, upd_off (by omega)]; exact (by rw [X9_opens_g31, upd_off (by omega)]; exact (by rw [X9_opens_g30, upd_off (by omega)]; exact (by rw [X9_opens_g29, upd_off (by omega)]; exact (by rw [X9_opens_g28, upd_off (by omega)]; exact (by rw [X9_opens_g27, upd_off (by omega)]; exact (by rw [X9_opens_g26, upd_off (by omega)]; exact (by rw [X9_opens_g25, upd_off (by omega)]; exact (by rw [X9_opens_g24, upd_off (by omega)]; exact (by rw [X9_opens_g23, upd_off (by omega)]; exact (by rw [X9_opens_g22, upd_off (by omega)]; exact (by rw [X9_opens_g21, upd_off (by omega)]; exact (by rw [X9_opens_g20, upd_off (by omega)]; exact (by rw [X9_opens_g19, upd_off (by omega)]; exact (by rw [X9_opens_g18, upd_off (by omega)]; exact (by rw [X9_opens_g17, upd_off (by omega)]; exact (by rw [X9_opens_g16, upd_off (by omega)]; exact (by rw [X9_opens_g15, upd_off (by omega)]; exact (by rw [X9_opens_g14, upd_off (by omega)]; exact (by rw [X9_opens_g13, upd_off (by omega)]; exact (by rw [X9_opens_g11, upd_off (by omega)]; exact (by rw [X9_opens_g10]; split; exact (by rw [X9_opens_g8, upd_off (by omega)]; exact (by rw [X9_opens_g7, upd_off (by omega)]; exact (by rw [X9_opens_g6, upd_off (by omega)]; exact (by rw [X9_opens_g5, upd_off (by omega)]; exact (by rw [X9_opens_g4, upd_off (by omega)]; exact (by rw [X9_opens_g3, upd_off (by omega)]; exact (by rw [X9_opens_g2, upd_off (by omega)]; exact (by rw [X9_opens_g1, upd_off (by omega)]; exact (by rw [X9_opens_g0, upd_at]))))))))); exact (by rw [X9_opens_g9]; split; exact (by rw [X9_opens_g8, upd_off (by omega)]; exact (by rw [X9_opens_g7, upd_off (by omega)]; exact (by rw [X9_opens_g6, upd_off (by omega)]; exact (by rw [X9_opens_g5, upd_off (by omega)]; exact (by rw [X9_opens_g4, upd_off (by omega)]; exact (by rw [X9_opens_g3, upd_off (by omega)]; exact (by rw [X9_opens_g2, upd_off (by omega)]; exact (by rw [X9_opens_g1, upd_off (by omega)]; exact (by rw [X9_opens_g0, upd_at]))))))))); exact (by rw [X9_opens_g7, upd_off (by omega)]; exact (by rw [X9_opens_g6, upd_off (by omega)]; exact (by rw [X9_opens_g5, upd_off (by omega)]; exact (by rw [X9_opens_g4, upd_off (by omega)]; exact (by rw [X9_opens_g3, upd_off (by omega)]; exact (by rw [X9_opens_g2, upd_off (by omega)]; exact (by rw [X9_opens_g1, upd_off (by omega)]; exact (by rw [X9_opens_g0, upd_at])))))))))))))))))))))))))))))))))))))
theorem rd_X9_opens_5 {g : Nat → Int32} {i : Nat} {s : Nat} (hi : i < 4) (hs : s < 700) : (X9_opens_g37 g i s) 5 = g 5 := (by rw [X9_opens_g37]; exact ((rd_X9_share_5 (by omega)).trans (by rw [X9_opens_g36, upd_off (by omega)]; exact (by rw [X9_opens_g35, upd_off (by omega)]; exact (by rw [X9_opens_g34, upd_off (by omega)]; exact (by rw [X9_opens_g33, upd_off (by omega)]; exact (by rw [X9_opens_g32, upd_off (by omega)]; exact (by rw [X9_opens_g31, upd_off (by omega)]; exact (by rw [X9_opens_g30, upd_off (by omega)]; exact (by rw [X9_opens_g29, upd_off (by omega)]; exact (by rw [X9_opens_g28, upd_off (by omega)]; exact (by rw [X9_opens_g27, upd_off (by omega)]; exact (by rw [X9_opens_g26, upd_off (by omega)]; exact (by rw [X9_opens_g25, upd_off (by omega)]; exact (by rw [X9_opens_g24, upd_off (by omega)]; exact (by rw [X9_opens_g23, upd_off (by omega)]; exact (by rw [X9_opens_g22, upd_off (by omega)]; exact (by rw [X9_opens_g21, upd_off (by omega)]; exact (by rw [X9_opens_g20, upd_off (by omega)]; exact (by rw [X9_opens_g19, upd_off (by omega)]; exact (by rw [X9_opens_g18, upd_off (by omega)]; exact (by rw [X9_opens_g17, upd_off (by omega)]; exact (by rw [X9_opens_g16, upd_off (by omega)]; exact (by rw [X9_opens_g15, upd_off (by omega)]; exact (by rw [X9_opens_g14, upd_off (by omega)]; exact (by rw [X9_opens_g13, upd_off (by omega)]; exact (by rw [X9_opens_g11, upd_off (by omega)]; exact (by rw [X9_opens_g10]; split; exact (by rw [X9_opens_g8, upd_off (by omega)]; exact (by rw [X9_opens_g7, upd_off (by omega)]; exact (by rw [X9_opens_g6, upd_off (by omega)]; exact (by rw [X9_opens_g5, upd_off (by omega)]; exact (by rw [X9_opens_g4, upd_off (by omega)]; exact (by rw [X9_opens_g3, upd_off (by omega)]; exact (by rw [X9_opens_g2, upd_off (by omega)]; exact (by rw [X9_opens_g1, upd_off (by omega)]; exact (by rw [X9_opens_g0, upd_off (by omega)]))))))))); exact (by rw [X9_opens_g9]; split; exact (by rw [X9_opens_g8, upd_off (by omega)]; exact (by rw [X9_opens_g7, upd_off (by omega)]; exact (by rw [X9_opens_g6, upd_off (by omega)]; exact (by rw [X9_opens_g5, upd_off (by omega)]; exact (by rw [X9_opens_g4, upd_off (by omega)]; exact (by rw [X9_opens_g3, upd_off (by omega)]; exact (by rw [X9_opens_g2, upd_off (by omega)]; exact (by rw [X9_opens_g1, upd_off (by omega)]; exact (by rw [X9_opens_g0, upd_off (by omega)]))))))))); exact (by rw [X9_opens_g7, upd_off (by omega)]; exact (by rw [X9_opens_g6, upd_off (by omega)]; exact (by rw [X9_opens_g5, upd_off (by omega)]; exact (by rw [X9_opens_g4, upd_off (by omega)]; exact (by rw [X9_opens_g3, upd_off (by omega)]; exact (by rw [X9_opens_g2, upd_off (by omega)]; exact (by rw [X9_opens_g1, upd_off (by omega)]; exact (by rw [X9_opens_g0, upd_off (by omega)])))))))))))))))))))))))))))))))))))))
theorem rd_X9_opens_6 {g : Nat → Int32} {i : Nat} {s : Nat} (hi : i < 4) (hs : s < 700) : (X9_opens_g37 g i s) 6 = 0 := (by rw [X9_opens_g37]; exact ((rd_X9_share_6 (by omega)).trans (by rw [X9_opens_g36, upd_off (by omega)]; exact (by rw [X9_opens_g35, upd_off (by omega)]; exact (by rw [X9_opens_g34, upd_off (by omega)]; exact (by rw [X9_opens_g33, upd_off (by omega)]; exact (by rw [X9_opens_g32, upd_off (by omega)]; exact (by rw [X9_opens_g31, upd_off (by omega)]; exact (by rw [X9_opens_g30, upd_off (by omega)]; exact (by rw [X9_opens_g29, upd_off (by omega)]; exact (by rw [X9_opens_g28, upd_off (by omega)]; exact (by rw [X9_opens_g27, upd_off (by omega)]; exact (by rw [X9_opens_g26, upd_off (by omega)]; exact (by rw [X9_opens_g25, upd_off (by omega)]; exact (by rw [X9_opens_g24, upd_off (by omega)]; exact (by rw [X9_opens_g23, upd_off (by omega)]; exact (by rw [X9_opens_g22, upd_off (by omega)]; exact (by rw [X9_opens_g21, upd_off (by omega)]; exact (by rw [X9_opens_g20, upd_off (by omega)]; exact (by rw [X9_opens_g19, upd_off (by omega)]; exact (by rw [X9_opens_g18, upd_off (by omega)]; exact (by rw [X9_opens_g17, upd_off (by omega)]; exact (by rw [X9_opens_g16, upd_off (by omega)]; exact (by rw [X9_opens_g15, upd_off (by omega)]; exact (by rw [X9_opens_g14, upd_off (by omega)]; exact (by rw [X9_opens_g13, upd_off (by omega)]; exact (by rw [X9_opens_g11, upd_off (by omega)]; exact (by rw [X9_opens_g10]; split; exact (by rw [X9_opens_g8, upd_off (by omega)]; exact (by rw [X9_opens_g7, upd_off (by omega)]; exact (by rw [X9_opens_g6, upd_off (by omega)]; exact (by rw [X9_opens_g5, upd_off (by omega)]; exact (by rw [X9_opens_g4, upd_off (by omega)]; exact (by rw [X9_opens_g3, upd_off (by omega)]; exact (by rw [X9_opens_g2, upd_off (by omega)]; exact (by rw [X9_opens_g1, upd_at])))))))); exact (by rw [X9_opens_g9]; split; exact (by rw [X9_opens_g8, upd_off (by omega)]; exact (by rw [X9_opens_g7, upd_off (by omega)]; exact (by rw [X9_opens_g6, upd_off (by omega)]; exact (by rw [X9_opens_g5, upd_off (by omega)]; exact (by rw [X9_opens_g4, upd_off (by omega)]; exact (by rw [X9_opens_g3, upd_off (by omega)]; exact (by rw [X9_opens_g2, upd_off (by omega)]; exact (by rw [X9_opens_g1, upd_at])))))))); exact (by rw [X9_opens_g7, upd_off (by omega)]; exact (by rw [X9_opens_g6, upd_off (by omega)]; exact (by rw [X9_opens_g5, upd_off (by omega)]; exact (by rw [X9_opens_g4, upd_off (by omega)]; exact (by rw [X9_opens_g3, upd_off (by omega)]; exact (by rw [X9_opens_g2, upd_off (by omega)]; exact (by rw [X9_opens_g1, upd_at]))))))))))))))))))))))))))))))))))))
theorem rd_X9_opens_7 {g : Nat → Int32} {i : Nat} {s : Nat} (hi : i < 4) (hs : s < 700) : (X9_opens_g37 g i s) 7 = 1 := (by rw [X9_opens_g37]; exact ((rd_X9_share_7 (by omega)).trans (by rw [X9_opens_g36, upd_off (by omega)]; exact (by rw [X9_opens_g35, upd_off (by omega)]; exact (by rw [X9_opens_g34, upd_off (by omega)]; exact (by rw [X9_opens_g33, upd_off (by omega)]; exact (by rw [X9_opens_g32, upd_off (by omega)]; exact (by rw [X9_opens_g31, upd_off (by omega)]; exact (by rw [X9_opens_g30, upd_off (by omega)]; exact (by rw [X9_opens_g29, upd_off (by omega)]; exact (by rw [X9_opens_g28, upd_off (by omega)]; exact (by rw [X9_opens_g27, upd_off (by omega)]; exact (by rw [X9_opens_g26, upd_off (by omega)]; exact (by rw [X9_opens_g25, upd_off (by omega)]; exact (by rw [X9_opens_g24, upd_off (by omega)]; exact (by rw [X9_opens_g23, upd_off (by omega)]; exact (by rw [X9_opens_g22, upd_off (by omega)]; exact (by rw [X9_opens_g21, upd_off (by omega)]; exact (by rw [X9_opens_g20, upd_off (by omega)]; exact (by rw [X9_opens_g19, upd_off (by omega)]; exact (by rw [X9_opens_g18, upd_off (by omega)]; exact (by rw [X9_opens_g17, upd_off (by omega)]; exact (by rw [X9_opens_g16, upd_off (by omega)]; exact (by rw [X9_opens_g15, upd_off (by omega)]; exact (by rw [X9_opens_g14, upd_off (by omega)]; exact (by rw [X9_opens_g13, upd_off (by omega)]; exact (by rw [X9_opens_g11, upd_off (by omega)]; exact (by rw [X9_opens_g10]; split; exact (by rw [X9_opens_g8, upd_off (by omega)]; exact (by rw [X9_opens_g7, upd_off (by omega)]; exact (by rw [X9_opens_g6, upd_off (by omega)]; exact (by rw [X9_opens_g5, upd_off (by omega)]; exact (by rw [X9_opens_g4, upd_off (by omega)]; exact (by rw [X9_opens_g3, upd_off (by omega)]; exact (by rw [X9_opens_g2, upd_at]))))))); exact (by rw [X9_opens_g9]; split; exact (by rw [X9_opens_g8, upd_off (by omega)]; exact (by rw [X9_opens_g7, upd_off (by omega)]; exact (by rw [X9_opens_g6, upd_off (by omega)]; exact (by rw [X9_opens_g5, upd_off (by omega)]; exact (by rw [X9_opens_g4, upd_off (by omega)]; exact (by rw [X9_opens_g3, upd_off (by omega)]; exact (by rw [X9_opens_g2, upd_at]))))))); exact (by rw [X9_opens_g7, upd_off (by omega)]; exact (by rw [X9_opens_g6, upd_off (by omega)]; exact (by rw [X9_opens_g5, upd_off (by omega)]; exact (by rw [X9_opens_g4, upd_off (by omega)]; exact (by rw [X9_opens_g3, upd_off (by omega)]; exact (by rw [X9_opens_g2, upd_at])))))))))))))))))))))))))))))))))))
theorem rd_X9_opens_8 {g : Nat → Int32} {i : Nat} {s : Nat} (hi : i < 4) (hs : s < 700) : (X9_opens_g37 g i s) 8 = -1 := (by rw [X9_opens_g37]; exact ((rd_X9_share_8 (by omega)).trans (by rw [X9_opens_g36, upd_off (by omega)]; exact (by rw [X9_opens_g35, upd_off (by omega)]; exact (by rw [X9_opens_g34, upd_off (by omega)]; exact (by rw [X9_opens_g33, upd_off (by omega)]; exact (by rw [X9_opens_g32, upd_off (by omega)]; exact (by rw [X9_opens_g31, upd_off (by omega)]; exact (by rw [X9_opens_g30, upd_off (by omega)]; exact (by rw [X9_opens_g29, upd_off (by omega)]; exact (by rw [X9_opens_g28, upd_off (by omega)]; exact (by rw [X9_opens_g27, upd_off (by omega)]; exact (by rw [X9_opens_g26, upd_off (by omega)]; exact (by rw [X9_opens_g25, upd_off (by omega)]; exact (by rw [X9_opens_g24, upd_off (by omega)]; exact (by rw [X9_opens_g23, upd_off (by omega)]; exact (by rw [X9_opens_g22, upd_off (by omega)]; exact (by rw [X9_opens_g21, upd_off (by omega)]; exact (by rw [X9_opens_g20, upd_off (by omega)]; exact (by rw [X9_opens_g19, upd_off (by omega)]; exact (by rw [X9_opens_g18, upd_off (by omega)]; exact (by rw [X9_opens_g17, upd_off (by omega)]; exact (by rw [X9_opens_g16, upd_off (by omega)]; exact (by rw [X9_opens_g15, upd_off (by omega)]; exact (by rw [X9_opens_g14, upd_off (by omega)]; exact (by rw [X9_opens_g13, upd_off (by omega)]; exact (by rw [X9_opens_g11, upd_off (by omega)]; exact (by rw [X9_opens_g10]; split; exact (by rw [X9_opens_g8, upd_off (by omega)]; exact (by rw [X9_opens_g7, upd_off (by omega)]; exact (by rw [X9_opens_g6, upd_off (by omega)]; exact (by rw [X9_opens_g5, upd_off (by omega)]; exact (by rw [X9_opens_g4, upd_off (by omega)]; exact (by rw [X9_opens_g3, upd_at])))))); exact (by rw [X9_opens_g9]; split; exact (by rw [X9_opens_g8, upd_off (by omega)]; exact (by rw [X9_opens_g7, upd_off (by omega)]; exact (by rw [X9_opens_g6, upd_off (by omega)]; exact (by rw [X9_opens_g5, upd_off (by omega)]; exact (by rw [X9_opens_g4, upd_off (by omega)]; exact (by rw [X9_opens_g3, upd_at])))))); exact (by rw [X9_opens_g7, upd_off (by omega)]; exact (by rw [X9_opens_g6, upd_off (by omega)]; exact (by rw [X9_opens_g5, upd_off (by omega)]; exact (by rw [X9_opens_g4, upd_off (by omega)]; exact (by rw [X9_opens_g3, upd_at]))))))))))))))))))))))))))))))))))
theorem rd_X9_opens_9 {g : Nat → Int32} {i : Nat} {s : Nat} (hi : i < 4) (hs : s < 700) : (X9_opens_g37 g i s) 9 = -1 := (by rw [X9_opens_g37]; exact ((rd_X9_share_9 (by omega)).trans (by rw [X9_opens_g36, upd_off (by omega)]; exact (by rw [X9_opens_g35, upd_off (by omega)]; exact (by rw [X9_opens_g34, upd_off (by omega)]; exact (by rw [X9_opens_g33, upd_off (by omega)]; exact (by rw [X9_opens_g32, upd_off (by omega)]; exact (by rw [X9_opens_g31, upd_off (by omega)]; exact (by rw [X9_opens_g30, upd_off (by omega)]; exact (by rw [X9_opens_g29, upd_off (by omega)]; exact (by rw [X9_opens_g28, upd_off (by omega)]; exact (by rw [X9_opens_g27, upd_off (by omega)]; exact (by rw [X9_opens_g26, upd_off (by omega)]; exact (by rw [X9_opens_g25, upd_off (by omega)]; exact (by rw [X9_opens_g24, upd_off (by omega)]; exact (by rw [X9_opens_g23, upd_off (by omega)]; exact (by rw [X9_opens_g22, upd_off (by omega)]; exact (by rw [X9_opens_g21, upd_off (by omega)]; exact (by rw [X9_opens_g20, upd_off (by omega)]; exact (by rw [X9_opens_g19, upd_off (by omega)]; exact (by rw [X9_opens_g18, upd_off (by omega)]; exact (by rw [X9_opens_g17, upd_off (by omega)]; exact (by rw [X9_opens_g16, upd_off (by omega)]; exact (by rw [X9_opens_g15, upd_off (by omega)]; exact (by rw [X9_opens_g14, upd_off (by omega)]; exact (by rw [X9_opens_g13, upd_off (by omega)]; exact (by rw [X9_opens_g11, upd_off (by omega)]; exact (by rw [X9_opens_g10]; split; exact (by rw [X9_opens_g8, upd_off (by omega)]; exact (by rw [X9_opens_g7, upd_off (by omega)]; exact (by rw [X9_opens_g6, upd_off (by omega)]; exact (by rw [X9_opens_g5, upd_off (by omega)]; exact (by rw [X9_opens_g4, upd_at]))))); exact (by rw [X9_opens_g9]; split; exact (by rw [X9_opens_g8, upd_off (by omega)]; exact (by rw [X9_opens_g7, upd_off (by omega)]; exact (by rw [X9_opens_g6, upd_off (by omega)]; exact (by rw [X9_opens_g5, upd_off (by omega)]; exact (by rw [X9_opens_g4, upd_at]))))); exact (by rw [X9_opens_g7, upd_off (by omega)]; exact (by rw [X9_opens_g6, upd_off (by omega)]; exact (by rw [X9_opens_g5, upd_off (by omega)]; exact (by rw [X9_opens_g4, upd_at])))))))))))))))))))))))))))))))))
theorem rd_X9_opens_22 {g : Nat → Int32} {i : Nat} {s : Nat} (hi : i < 4) (hs : s < 700) : (X9_opens_g37 g i s) 22 = nI (s + 1) := (by rw [X9_opens_g37]; exact (rd_X9_share_22 (by omega)))
theorem rd_X9_opens_23 {g : Nat → Int32} {i : Nat} {s : Nat} (hi : i < 4) (hs : s < 700) : (X9_opens_g37 g i s) 23 = g 23 := (by rw [X9_opens_g37]; exact ((rd_X9_share_23 (by omega)).trans (by rw [X9_opens_g36, upd_off (by omega)]; exact (by rw [X9_opens_g35, upd_off (by omega)]; exact (by rw [X9_opens_g34, upd_off (by omega)]; exact (by rw [X9_opens_g33, upd_off (by omega)]; exact (by rw [X9_opens_g32, upd_off (by omega)]; exact (by rw [X9_opens_g31, upd_off (by omega)]; exact (by rw [X9_opens_g30, upd_off (by omega)]; exact (by rw [X9_opens_g29, upd_off (by omega)]; exact (by rw [X9_opens_g28, upd_off (by omega)]; exact (by rw [X9_opens_g27, upd_off (by omega)]; exact (by rw [X9_opens_g26, upd_off (by omega)]; exact (by rw [X9_opens_g25, upd_off (by omega)]; exact (by rw [X9_opens_g24, upd_off (by omega)]; exact (by rw [X9_opens_g23, upd_off (by omega)]; exact (by rw [X9_opens_g22, upd_off (by omega)]; exact (by rw [X9_opens_g21, upd_off (by omega)]; exact (by rw [X9_opens_g20, upd_off (by omega)]; exact (by rw [X9_opens_g19, upd_off (by omega)]; exact (by rw [X9_opens_g18, upd_off (by omega)]; exact (by rw [X9_opens_g17, upd_off (by omega)]; exact (by rw [X9_opens_g16, upd_off (by omega)]; exact (by rw [X9_opens_g15, upd_off (by omega)]; exact (by rw [X9_opens_g14, upd_off (by omega)]; exact (by rw [X9_opens_g13, upd_off (by omega)]; exact (by rw [X9_opens_g11, upd_off (by omega)]; exact (by rw [X9_opens_g10]; split; exact (by rw [X9_opens_g8, upd_off (by omega)]; exact (by rw [X9_opens_g7, upd_off (by omega)]; exact (by rw [X9_opens_g6, upd_off (by omega)]; exact (by rw [X9_opens_g5, upd_off (by omega)]; exact (by rw [X9_opens_g4, upd_off (by omega)]; exact (by rw [X9_opens_g3, upd_off (by omega)]; exact (by rw [X9_opens_g2, upd_off (by omega)]; exact (by rw [X9_opens_g1, upd_off (by omega)]; exact (by rw [X9_opens_g0, upd_off (by omega)]))))))))); exact (by rw [X9_opens_g9]; split; exact (by rw [X9_opens_g8, upd_off (by omega)]; exact (by rw [X9_opens_g7, upd_off (by omega)]; exact (by rw [X9_opens_g6, upd_off (by omega)]; exact (by rw [X9_opens_g5, upd_off (by omega)]; exact (by rw [X9_opens_g4, upd_off (by omega)]; exact (by rw [X9_opens_g3, upd_off (by omega)]; exact (by rw [X9_opens_g2, upd_off (by omega)]; exact (by rw [X9_opens_g1, upd_off (by omega)]; exact (by rw [X9_opens_g0, upd_off (by omega)]))))))))); exact (by rw [X9_opens_g7, upd_off (by omega)]; exact (by rw [X9_opens_g6, upd_off (by omega)]; exact (by rw [X9_opens_g5, upd_off (by omega)]; exact (by rw [X9_opens_g4, upd_off (by omega)]; exact (by rw [X9_opens_g3, upd_off (by omega)]; exact (by rw [X9_opens_g2, upd_off (by omega)]; exact (by rw [X9_opens_g1, upd_off (by omega)]; exact (by rw [X9_opens_g0, upd_off (by omega)])))))))))))))))))))))))))))))))))))))
theorem rd_X9_opens_24 {g : Nat → Int32} {i : Nat} {s : Nat} (hi : i < 4) (hs : s < 700) : (X9_opens_g37 g i s) 24 = g 24 := (by rw [X9_opens_g37]; exact ((rd_X9_share_24 (by omega)).trans (by rw [X9_opens_g36, upd_off (by omega)]; exact (by rw [X9_opens_g35, upd_off (by omega)]; exact (by rw [X9_opens_g34, upd_off (by omega)]; exact (by rw [X9_opens_g33, upd_off (by omega)]; exact (by rw [X9_opens_g32, upd_off (by omega)]; exact (by rw [X9_opens_g31, upd_off (by omega)]; exact (by rw [X9_opens_g30, upd_off (by omega)]; exact (by rw [X9_opens_g29, upd_off (by omega)]; exact (by rw [X9_opens_g28, upd_off (by omega)]; exact (by rw [X9_opens_g27, upd_off (by omega)]; exact (by rw [X9_opens_g26, upd_off (by omega)]; exact (by rw [X9_opens_g25, upd_off (by omega)]; exact (by rw [X9_opens_g24, upd_off (by omega)]; exact (by rw [X9_opens_g23, upd_off (by omega)]; exact (by rw [X9_opens_g22, upd_off (by omega)]; exact (by rw [X9_opens_g21, upd_off (by omega)]; exact (by rw [X9_opens_g20, upd_off (by omega)]; exact (by rw [X9_opens_g19, upd_off (by omega)]; exact (by rw [X9_opens_g18, upd_off (by omega)]; exact (by rw [X9_opens_g17, upd_off (by omega)]; exact (by rw [X9_opens_g16, upd_off (by omega)]; exact (by rw [X9_opens_g15, upd_off (by omega)]; exact (by rw [X9_opens_g14, upd_off (by omega)]; exact (by rw [X9_opens_g13, upd_off (by omega)]; exact (by rw [X9_opens_g11, upd_off (by omega)]; exact (by rw [X9_opens_g10]; split; exact (by rw [X9_opens_g8, upd_off (by omega)]; exact (by rw [X9_opens_g7, upd_off (by omega)]; exact (by rw [X9_opens_g6, upd_off (by omega)]; exact (by rw [X9_opens_g5, upd_off (by omega)]; exact (by rw [X9_opens_g4, upd_off (by omega)]; exact (by rw [X9_opens_g3, upd_off (by omega)]; exact (by rw [X9_opens_g2, upd_off (by omega)]; exact (by rw [X9_opens_g1, upd_off (by omega)]; exact (by rw [X9_opens_g0, upd_off (by omega)]))))))))); exact (by rw [X9_opens_g9]; split; exact (by rw [X9_opens_g8, upd_off (by omega)]; exact (by rw [X9_opens_g7, upd_off (by omega)]; exact (by rw [X9_opens_g6, upd_off (by omega)]; exact (by rw [X9_opens_g5, upd_off (by omega)]; exact (by rw [X9_opens_g4, upd_off (by omega)]; exact (by rw [X9_opens_g3, upd_off (by omega)]; exact (by rw [X9_opens_g2, upd_off (by omega)]; exact (by rw [X9_opens_g1, upd_off (by omega)]; exact (by rw [X9_opens_g0, upd_off (by omega)]))))))))); exact (by rw [X9_opens_g7, upd_off (by omega)]; exact (by rw [X9_opens_g6, upd_off (by omega)]; exact (by rw [X9_opens_g5, upd_off (by omega)]; exact (by rw [X9_opens_g4, upd_off (by omega)]; exact (by rw [X9_opens_g3, upd_off (by omega)]; exact (by rw [X9_opens_g2, upd_off (by omega)]; exact (by rw [X9_opens_g1, upd_off (by omega)]; exact (by rw [X9_opens_g0, upd_off (by omega)])))))))))))))))))))))))))))))))))))))
theorem rd_X9_opens_25_11_i_1 {g : Nat → Int32} {i : Nat} {s : Nat} (hi : i < 4) (hs : s < 700) : (X9_opens_g37 g i s) (25 + 11 * i + 1) = g (25 + 11 * i + 1) := (by rw [X9_opens_g37]; exact (by rw [X9_share_g13, upd_off (by omega)]; exact (by rw [X9_share_g12, upd_off (by omega)]; exact (by rw [X9_share_g11, upd_off (by omega)]; exact (by rw [X9_share_g9, upd_off (by omega)]; exact (by rw [X9_share_g7, upd_off (by omega)]; exact (by rw [X9_share_g6, upd_off (by omega)]; exact (by rw [X9_share_g5, upd_off (by omega)]; exact (by rw [X9_share_g4, upd_off (by omega)]; exact (by rw [X9_share_g3, upd_off (by omega)]; exact (by rw [X9_share_g2, upd_off (by omega)]; exact (by rw [X9_share_g1, upd_off (by omega)]; exact (by rw [X9_share_g0, upd_off (by omega)]; exact (by rw [X9_opens_g36, upd_off (by omega)]; exact (by rw [X9_opens_g35, upd_off (by omega)]; exact (by rw [X9_opens_g34, upd_off (by omega)]; exact (by rw [X9_opens_g33, upd_off (by omega)]; exact (by rw [X9_opens_g32, upd_off (by omega)]; exact (by rw [X9_opens_g31, upd_off (by omega)]; exact (by rw [X9_opens_g30, upd_off (by omega)]; exact (by rw [X9_opens_g29, upd_off (by omega)]; exact (by rw [X9_opens_g28, upd_off (by omega)]; exact (by rw [X9_opens_g27, upd_off (by omega)]; exact (by rw [X9_opens_g26, upd_off (by omega)]; exact (by rw [X9_opens_g25, upd_off (by omega)]; exact (by rw [X9_opens_g24, upd_off (by omega)]; exact (by rw [X9_opens_g23, upd_off (by omega)]; exact (by rw [X9_opens_g22, upd_off (by omega)]; exact (by rw [X9_opens_g21, upd_off (by omega)]; exact (by rw [X9_opens_g20, upd_off (by omega)]; exact (by rw [X9_opens_g19, upd_off (by omega)]; exact (by rw [X9_opens_g18, upd_off (by omega)]; exact (by rw [X9_opens_g17, upd_off (by omega)]; exact (by rw [X9_opens_g16, upd_off (by omega)]; exact (by rw [X9_opens_g15, upd_off (by omega)]; exact (by rw [X9_opens_g14, upd_off (by omega)]; exact (by rw [X9_opens_g13, upd_off (by omega)]; exact (by rw [X9_opens_g11, upd_off (by omega)]; exact (by rw [X9_opens_g10]; split; exact (by rw [X9_opens_g8, upd_off (by omega)]; exact (by rw [X9_opens_g7, upd_off (by omega)]; exact (by rw [X9_opens_g6, upd_off (by omega)]; exact (by rw [X9_opens_g5, upd_off (by omega)]; exact (by rw [X9_opens_g4, upd_off (by omega)]; exact (by rw [X9_opens_g3, upd_off (by omega)]; exact (by rw [X9_opens_g2, upd_off (by omega)]; exact (by rw [X9_opens_g1, upd_off (by omega)]; exact (by rw [X9_opens_g0, upd_off (by omega)]))))))))); exact (by rw [X9_opens_g9]; split; exact (by rw [X9_opens_g8, upd_off (by omega)]; exact (by rw [X9_opens_g7, upd_off (by omega)]; exact (by rw [X9_opens_g6, upd_off (by omega)]; exact (by rw [X9_opens_g5, upd_off (by omega)]; exact (by rw [X9_opens_g4, upd_off (by omega)]; exact (by rw [X9_opens_g3, upd_off (by omega)]; exact (by rw [X9_opens_g2, upd_off (by omega)]; exact (by rw [X9_opens_g1, upd_off (by omega)]; exact (by rw [X9_opens_g0, upd_off (by omega)]))))))))); exact (by rw [X9_opens_g7, upd_off (by omega)]; exact (by rw [X9_opens_g6, upd_off (by omega)]; exact (by rw [X9_opens_g5, upd_off (by omega)]; exact (by rw [X9_opens_g4, upd_off (by omega)]; exact (by rw [X9_opens_g3, upd_off (by omega)]; exact (by rw [X9_opens_g2, upd_off (by omega)]; exact (by rw [X9_opens_g1, upd_off (by omega)]; exact (by rw [X9_opens_g0, upd_off (by omega)]))))))))))))))))))))))))))))))))))))))))))))))))
theorem rd_X9_opens_25_11_i_8 {g : Nat → Int32} {i : Nat} {s : Nat} (hi : i < 4) (hs : s < 700) : (X9_opens_g37 g i s) (25 + 11 * i + 8) = g (25 + 11 * i + 8) := (by rw [X9_opens_g37]; exact (by rw [X9_share_g13, upd_off (by omega)]; exact (by rw [X9_share_g12, upd_off (by omega)]; exact (by rw [X9_share_g11, upd_off (by omega)]; exact (by rw [X9_share_g9, upd_off (by omega)]; exact (by rw [X9_share_g7, upd_off (by omega)]; exact (by rw [X9_share_g6, upd_off (by omega)]; exact (by rw [X9_share_g5, upd_off (by omega)]; exact (by rw [X9_share_g4, upd_off (by omega)]; exact (by rw [X9_share_g3, upd_off (by omega)]; exact (by rw [X9_share_g2, upd_off (by omega)]; exact (by rw [X9_share_g1, upd_off (by omega)]; exact (by rw [X9_share_g0, upd_off (by omega)]; exact (by rw [X9_opens_g36, upd_off (by omega)]; exact (by rw [X9_opens_g35, upd_off (by omega)]; exact (by rw [X9_opens_g34, upd_off (by omega)]; exact (by rw [X9_opens_g33, upd_off (by omega)]; exact (by rw [X9_opens_g32, upd_off (by omega)]; exact (by rw [X9_opens_g31, upd_off (by omega)]; exact (by rw [X9_opens_g30, upd_off (by omega)]; exact (by rw [X9_opens_g29, upd_off (by omega)]; exact (by rw [X9_opens_g28, upd_off (by omega)]; exact (by rw [X9_opens_g27, upd_off (by omega)]; exact (by rw [X9_opens_g26, upd_off (by omega)]; exact (by rw [X9_opens_g25, upd_off (by omega)]; exact (by rw [X9_opens_g24, upd_off (by omega)]; exact (by rw [X9_opens_g23, upd_off (by omega)]; exact (by rw [X9_opens_g22, upd_off (by omega)]; exact (by rw [X9_opens_g21, upd_off (by omega)]; exact (by rw [X9_opens_g20, upd_off (by omega)]; exact (by rw [X9_opens_g19, upd_off (by omega)]; exact (by rw [X9_opens_g18, upd_off (by omega)]; exact (by rw [X9_opens_g17, upd_off (by omega)]; exact (by rw [X9_opens_g16, upd_off (by omega)]; exact (by rw [X9_opens_g15, upd_off (by omega)]; exact (by rw [X9_opens_g14, upd_off (by omega)]; exact (by rw [X9_opens_g13, upd_off (by omega)]; exact (by rw [X9_opens_g11, upd_off (by omega)]; exact (by rw [X9_opens_g10]; split; exact (by rw [X9_opens_g8, upd_off (by omega)]; exact (by rw [X9_opens_g7, upd_off (by omega)]; exact (by rw [X9_opens_g6, upd_off (by omega)]; exact (by rw [X9_opens_g5, upd_off (by omega)]; exact (by rw [X9_opens_g4, upd_off (by omega)]; exact (by rw [X9_opens_g3, upd_off (by omega)]; exact (by rw [X9_opens_g2, upd_off (by omega)]; exact (by rw [X9_opens_g1, upd_off (by omega)]; exact (by rw [X9_opens_g0, upd_off (by omega)]))))))))); exact (by rw [X9_opens_g9]; split; exact (by rw [X9_opens_g8, upd_off (by omega)]; exact (by rw [X9_opens_g7, upd_off (by omega)]; exact (by rw [X9_opens_g6, upd_off (by omega)]; exact (by rw [X9_opens_g5, upd_off (by omega)]; exact (by rw [X9_opens_g4, upd_off (by omega)]; exact (by rw [X9_opens_g3, upd_off (by omega)]; exact (by rw [X9_opens_g2, upd_off (by omega)]; exact (by rw [X9_opens_g1, upd_off (by omega)]; exact (by rw [X9_opens_g0, upd_off (by omega)]))))))))); exact (by rw [X9_opens_g7, upd_off (by omega)]; exact (by rw [X9_opens_g6, upd_off (by omega)]; exact (by rw [X9_opens_g5, upd_off (by omega)]; exact (by rw [X9_opens_g4, upd_off (by omega)]; exact (by rw [X9_opens_g3, upd_off (by omega)]; exact (by rw [X9_opens_g2, upd_off (by omega)]; exact (by rw [X9_opens_g1, upd_off (by omega)]; exact (by rw [X9_opens_g0, upd_off (by omega)]))))))))))))))))))))))))))))))))))))))))))))))))
def X9_scores_x0 (kind : Nat) (runs : Int32) : Int32 := if (nI kind) = 2 then (runs + 1) else runs
def X9_scores_x1 (kind : Nat) (runs : Int32) : Int32 := if (nI kind) = 1 then (runs + 1) else (X9_scores_x0 kind runs)
def X9_scores_x2 (kind : Nat) : Int32 := if (nI kind) = 2 then 1 else 0
def X9_scores_x3 (kind : Nat) : Int32 := if (nI kind) = 0 then 1 else (X9_scores_x2 kind)
def X9_scores_x4 (kind : Nat) : Int32 := if (nI kind) = 2 then 0 else 1
def X9_scores_x5 (kind : Nat) : Int32 := if (nI kind) = 1 then 0 else (X9_scores_x4 kind)
def X9_scores_g6 (g : Nat → Int32) (i : Nat) : Nat → Int32 := upd g (25 + 11 * i + 10) 1
def X9_scores_g7 (g : Nat → Int32) (kind : Nat) (runs : Int32) (i : Nat) : Nat → Int32 := upd (X9_scores_g6 g i) (25 + 11 * i + 0) (((X9_scores_g6 g i) (25 + 11 * i + 0)) + (X9_scores_x1 kind runs))
def X9_scores_g8 (g : Nat → Int32) (kind : Nat) (runs : Int32) (i : Nat) : Nat → Int32 := upd (X9_scores_g7 g kind runs i) (25 + 11 * i + 2) (((X9_scores_g7 g kind runs i) (25 + 11 * i + 2)) + (X9_scores_x5 kind))
def X9_scores_x9 (kind : Nat) (runs : Int32) : Int32 := if (nI kind) = 2 then 1 else (X9_scores_x1 kind runs)
def X9_scores_x10 (g : Nat → Int32) (kind : Nat) (runs : Int32) (i : Nat) : Int32 := ((X9_scores_g8 g kind runs i) (25 + 11 * i + (2 + kind))) + (X9_scores_x9 kind runs)
def X9_scores_g11 (g : Nat → Int32) (kind : Nat) (runs : Int32) (i : Nat) : Nat → Int32 := upd (X9_scores_g8 g kind runs i) (25 + 11 * i + (2 + kind)) (X9_scores_x10 g kind runs i)
def X9_scores_g12 (g : Nat → Int32) (kind : Nat) (runs : Int32) (i : Nat) : Nat → Int32 := if (nI kind) ≤ 0 then (X9_scores_g8 g kind runs i) else (X9_scores_g11 g kind runs i)
def X9_scores_x13 (kind : Nat) : Int32 := if (nI kind) = 1 then 0 else 1
def X9_scores_x14 (g : Nat → Int32) (kind : Nat) (runs : Int32) (i : Nat) (a : Nat) : Int32 := ((X9_scores_g12 g kind runs i) (69 + 6 * (11 * i + a) + 1)) + (X9_scores_x13 kind)
def X9_scores_g15 (g : Nat → Int32) (kind : Nat) (runs : Int32) (i : Nat) (a : Nat) : Nat → Int32 := upd (X9_scores_g12 g kind runs i) (69 + 6 * (11 * i + a) + 1) (X9_scores_x14 g kind runs i a)
def X9_scores_x16 (kind : Nat) (runs : Int32) : Int32 := if (X9_scores_x3 kind) = 0 then 0 else runs
def X9_scores_x17 (g : Nat → Int32) (kind : Nat) (runs : Int32) (i : Nat) (a : Nat) : Int32 := ((X9_scores_g15 g kind runs i a) (69 + 6 * (11 * i + a) + 0)) + (X9_scores_x16 kind runs)
def X9_scores_g18 (g : Nat → Int32) (kind : Nat) (runs : Int32) (i : Nat) (a : Nat) : Nat → Int32 := upd (X9_scores_g15 g kind runs i a) (69 + 6 * (11 * i + a) + 0) (X9_scores_x17 g kind runs i a)
def X9_scores_n19 (runs : Int32) : Nat := if runs = 4 then 2 else 3
def X9_scores_x20 (g : Nat → Int32) (kind : Nat) (runs : Int32) (i : Nat) (a : Nat) : Int32 := ((X9_scores_g18 g kind runs i a) (69 + 6 * (11 * i + a) + (X9_scores_n19 runs))) + 1
def X9_scores_g21 (g : Nat → Int32) (kind : Nat) (runs : Int32) (i : Nat) (a : Nat) : Nat → Int32 := upd (X9_scores_g18 g kind runs i a) (69 + 6 * (11 * i + a) + (X9_scores_n19 runs)) (X9_scores_x20 g kind runs i a)
def X9_scores_g22 (g : Nat → Int32) (kind : Nat) (runs : Int32) (bnd : Int32) (i : Nat) (a : Nat) : Nat → Int32 := if bnd = 0 then (X9_scores_g18 g kind runs i a) else (X9_scores_g21 g kind runs i a)
def X9_scores_x23 (g : Nat → Int32) (kind : Nat) (runs : Int32) (bnd : Int32) (i : Nat) (a : Nat) (bo : Nat) : Int32 := ((X9_scores_g22 g kind runs bnd i a) (333 + 7 * (11 * i + bo) + 0)) + (X9_scores_x5 kind)
def X9_scores_g24 (g : Nat → Int32) (kind : Nat) (runs : Int32) (bnd : Int32) (i : Nat) (a : Nat) (bo : Nat) : Nat → Int32 := upd (X9_scores_g22 g kind runs bnd i a) (333 + 7 * (11 * i + bo) + 0) (X9_scores_x23 g kind runs bnd i a bo)
def X9_scores_x25 (kind : Nat) (runs : Int32) : Int32 := if 3 ≤ (nI kind) then 0 else (X9_scores_x1 kind runs)
def X9_scores_x26 (g : Nat → Int32) (kind : Nat) (runs : Int32) (bnd : Int32) (i : Nat) (a : Nat) (bo : Nat) : Int32 := ((X9_scores_g24 g kind runs bnd i a bo) (333 + 7 * (11 * i + bo) + 1)) + (X9_scores_x25 kind runs)
def X9_scores_g27 (g : Nat → Int32) (kind : Nat) (runs : Int32) (bnd : Int32) (i : Nat) (a : Nat) (bo : Nat) : Nat → Int32 := upd (X9_scores_g24 g kind runs bnd i a bo) (333 + 7 * (11 * i + bo) + 1) (X9_scores_x26 g kind runs bnd i a bo)
def X9_scores_x28 (g : Nat → Int32) (kind : Nat) (runs : Int32) (bnd : Int32) (i : Nat) (a : Nat) (bo : Nat) : Int32 := ((X9_scores_g27 g kind runs bnd i a bo) 11) + (X9_scores_x25 kind runs)
def X9_scores_g29 (g : Nat → Int32) (kind : Nat) (runs : Int32) (bnd : Int32) (i : Nat) (a : Nat) (bo : Nat) : Nat → Int32 := upd (X9_scores_g27 g kind runs bnd i a bo) 11 (X9_scores_x28 g kind runs bnd i a bo)
def X9_scores_x30 (g : Nat → Int32) (kind : Nat) (runs : Int32) (bnd : Int32) (i : Nat) (a : Nat) (bo : Nat) : Int32 := ((X9_scores_g29 g kind runs bnd i a bo) (333 + 7 * (11 * i + bo) + (3 + kind))) + 1
def X9_scores_g31 (g : Nat → Int32) (kind : Nat) (runs : Int32) (bnd : Int32) (i : Nat) (a : Nat) (bo : Nat) : Nat → Int32 := upd (X9_scores_g29 g kind runs bnd i a bo) (333 + 7 * (11 * i + bo) + (3 + kind)) (X9_scores_x30 g kind runs bnd i a bo)
def X9_scores_g32 (g : Nat → Int32) (kind : Nat) (runs : Int32) (bnd : Int32) (i : Nat) (a : Nat) (bo : Nat) : Nat → Int32 := if (X9_scores_x5 kind) = 0 then (X9_scores_g31 g kind runs bnd i a bo) else (X9_scores_g29 g kind runs bnd i a bo)
def X9_scores_g33 (g : Nat → Int32) (kind : Nat) (runs : Int32) (bnd : Int32) (i : Nat) (a : Nat) (bo : Nat) : Nat → Int32 := upd (X9_scores_g32 g kind runs bnd i a bo) 10 (((X9_scores_g32 g kind runs bnd i a bo) 10) + (X9_scores_x5 kind))
def X9_scores_x34 (g : Nat → Int32) (kind : Nat) (runs : Int32) (bnd : Int32) (i : Nat) (a : Nat) (bo : Nat) (s : Nat) : Int32 := ((X9_scores_g33 g kind runs bnd i a bo) (841 + 8 * (s - 1))) + (X9_scores_x1 kind runs)
def X9_scores_g35 (g : Nat → Int32) (kind : Nat) (runs : Int32) (bnd : Int32) (i : Nat) (a : Nat) (bo : Nat) (s : Nat) : Nat → Int32 := upd (X9_scores_g33 g kind runs bnd i a bo) (841 + 8 * (s - 1)) (X9_scores_x34 g kind runs bnd i a bo s)
def X9_scores_x36 (g : Nat → Int32) (kind : Nat) (runs : Int32) (bnd : Int32) (i : Nat) (a : Nat) (bo : Nat) (s : Nat) : Int32 := ((X9_scores_g35 g kind runs bnd i a bo s) (841 + 8 * (s - 1) + 1)) + (X9_scores_x5 kind)
def X9_scores_g37 (g : Nat → Int32) (kind : Nat) (runs : Int32) (bnd : Int32) (i : Nat) (a : Nat) (bo : Nat) (s : Nat) : Nat → Int32 := upd (X9_scores_g35 g kind runs bnd i a bo s) (841 + 8 * (s - 1) + 1) (X9_scores_x36 g kind runs bnd i a bo s)
def X9_scores_n38 (g : Nat → Int32) (kind : Nat) (runs : Int32) (bnd : Int32) (i : Nat) (a : Nat) (bo : Nat) (s : Nat) : Nat := if ((X9_scores_g37 g kind runs bnd i a bo s) (841 + 8 * (s - 1) + 2)) = (nI a) then 4 else 5
def X9_scores_x39 (g : Nat → Int32) (kind : Nat) (runs : Int32) (bnd : Int32) (i : Nat) (a : Nat) (bo : Nat) (s : Nat) : Int32 := ((X9_scores_g37 g kind runs bnd i a bo s) (841 + 8 * (s - 1) + X9_scores_n38 g kind runs bnd i a bo s)) + runs
def X9_scores_g40 (g : Nat → Int32) (kind : Nat) (runs : Int32) (bnd : Int32) (i : Nat) (a : Nat) (bo : Nat) (s : Nat) : Nat → Int32 := upd (X9_scores_g37 g kind runs bnd i a bo s) (841 + 8 * (s - 1) + X9_scores_n38 g kind runs bnd i a bo s) (X9_scores_x39 g kind runs bnd i a bo s)
def X9_scores_g41 (g : Nat → Int32) (kind : Nat) (runs : Int32) (bnd : Int32) (i : Nat) (a : Nat) (bo : Nat) (s : Nat) : Nat → Int32 := if (X9_scores_x3 kind) = 0 then (X9_scores_g37 g kind runs bnd i a bo s) else (X9_scores_g40 g kind runs bnd i a bo s)
def X9_scores_x42 (kind : Nat) (runs : Int32) : Int32 := if (X9_scores_x3 kind) = 0 then (X9_scores_x1 kind runs) else ((X9_scores_x1 kind runs) - runs)
def X9_scores_x43 (g : Nat → Int32) (kind : Nat) (runs : Int32) (bnd : Int32) (i : Nat) (a : Nat) (bo : Nat) (s : Nat) : Int32 := ((X9_scores_g41 g kind runs bnd i a bo s) (841 + 8 * (s - 1) + 6)) + (X9_scores_x42 kind runs)
def X9_scores_g44 (g : Nat → Int32) (kind : Nat) (runs : Int32) (bnd : Int32) (i : Nat) (a : Nat) (bo : Nat) (s : Nat) : Nat → Int32 := upd (X9_scores_g41 g kind runs bnd i a bo s) (841 + 8 * (s - 1) + 6) (X9_scores_x43 g kind runs bnd i a bo s)
set_option maxRecDepth 100000 in
theorem k_X9_scores {l : Launch} (hfl : l.stackTraces = false) {D : va_G} {cy : Nat → ClassId} {f : Hf} {sz : Nat} {m : Nat} {v : Nat} {im : Nat} {kp : Nat} {pa : Nat} {de : Nat} {ide : Nat} {tx : Nat} {pt : Nat} {so : Nat} {mo : Nat} {wh : Nat} {pf : Nat} {c_th : Int32} {c_re : Int32} {c_un : Int32} {c_hi : Int32} {c_tn : Int32} {c_fa : Int32} {c_rf : Int32} {c_ps : Int32} {c_pl : Int32} {c_to : Int32} {g : Nat → Int32} {kind : Nat} (runs : Int32) (bnd : Int32) {i : Nat} {a : Nat} {bo : Nat} {s : Nat} (h_m : f m = some (.inr (11, [.int c_th, .int c_re, .ref v, .ref im, .ref kp, .ref pa, .ref de, .ref ide, .int c_un, .int c_hi, .ref tx, .int c_tn, .int c_fa, .int c_rf, .ref pt, .int c_ps, .int c_pl, .int c_to, .ref so, .ref mo, .ref wh, .ref pf]))) (h_v : f v = some (.inl (cy 0, 6441, .inl g))) (h4 : g 4 = nI i) (hi : i < 4) (h6 : g 6 = nI a) (ha : a < 11) (h9 : g 9 = nI bo) (hbo : bo < 11) (h22 : g 22 = nI s) (hs1 : 1 ≤ s) (hs : s < 701) (hk : kind < 5) (hb_bnd : bnd = 0 ∨ bnd = 1) : hMet l yX9_scores cX9_scores 11 (some .int) { frames := 1, cells := 0, slots := 0, locals := 22 } D (hTy cy) f sz [.ref m, .int (nI kind), .int runs, .int bnd] (hQi (fun r u => r = (X9_scores_x1 kind runs) ∧ u v = some (.inl (cy 0, 6441, .inl (X9_scores_g44 g kind runs bnd i a bo s))) ∧ hFrL f u [v]) D f sz) hNo := by
  refine h_enter (by decide) hfl (Nat.le_of_ble_eq_true rfl) ?_
  intro p9 e9 s9 m9 b9 t9 c9 hsz C0 hr hnm G ls hl
  have hx := C0.1.1
  have hb := C0.1.2.1
  have hl : lv_has ls 11 [(0, .ref m), (1, .int (nI kind)), (2, .int runs), (3, .int bnd)] := hl
  refine lv_aload_n hx hb dX9_scores_0 rfl (lv_at hl 0 rfl) ?_
  refine g_get C0 G h_m rfl hiX9 2 (by decide) mf_X9_9 rfl dX9_scores_1 ?_
  refine lv_iconst (v := 4) hx hb dX9_scores_4 (by decide) ?_
  refine g_iald C0 G h_v 0 rfl (by unfold vp_in; decide) dX9_scores_5 ?_
  refine lv_topv (v := g 4) rfl ?_
  refine lv_topv (v := nI i) (h4) ?_
  refine lv_istore (lv' := [(4, .int (nI i)), (0, .ref m), (1, .int (nI kind)), (2, .int runs), (3, .int bnd)]) hx hb dX9_scores_6 hl (by decide) rfl (fun ls hl => ?_)
  refine lv_aload_n hx hb dX9_scores_8 rfl (lv_at hl 1 rfl) ?_
  refine g_get C0 G h_m rfl hiX9 2 (by decide) mf_X9_9 rfl dX9_scores_9 ?_
  refine lv_bipush (v := 6) hx hb dX9_scores_12 (by decide) ?_
  refine g_iald C0 G h_v 0 rfl (by unfold vp_in; decide) dX9_scores_14 ?_
  refine lv_topv (v := g 6) rfl ?_
  refine lv_topv (v := nI a) (h6) ?_
  refine lv_istore (lv' := [(5, .int (nI a)), (4, .int (nI i)), (0, .ref m), (1, .int (nI kind)), (2, .int runs), (3, .int bnd)]) hx hb dX9_scores_15 hl (by decide) rfl (fun ls hl => ?_)
  refine lv_iload_n hx hb dX9_scores_17 rfl (lv_at hl 3 rfl) ?_
  refine lv_iconst (v := 1) hx hb dX9_scores_18 (by decide) ?_
  have J13 : ∀ (y12 : Int32) (_ : y12 = (X9_scores_x1 kind runs)) (H : Heap) (locs : List Loc) (ls : Array Slot), hG D (hA f sz) f s9 H locs → lv_has ls 11 [(5, .int (nI a)), (4, .int (nI i)), (0, .ref m), (1, .int (nI kind)), (2, .int runs), (3, .int bnd)] → W p9 l e9 ({ frames := 1, cells := 0, slots := 0, locals := 22 } : Room) s9 m9 ([.ref m, .int (nI kind), .int runs, .int bnd] : List Value).toArray b9 t9 c9 H locs 0 0 (vx_MQ b9 (hQi (fun r u => r = (X9_scores_x1 kind runs) ∧ u v = some (.inl (cy 0, 6441, .inl (X9_scores_g44 g kind runs bnd i a bo s))) ∧ hFrL f u [v]) D f sz) (hPx hNo D f sz) ([.ref m, .int (nI kind), .int runs, .int bnd] : List Value).toArray s9 0 0 (hA f sz)) (F0 m9 34 ls [.int y12]) := by
    intro y12 ey12 H locs ls G hl
    replace ey12 := Eq.symm ey12
    subst ey12
    refine lv_istore (lv' := [(6, .int (X9_scores_x1 kind runs)), (5, .int (nI a)), (4, .int (nI i)), (0, .ref m), (1, .int (nI kind)), (2, .int runs), (3, .int bnd)]) hx hb dX9_scores_34 hl (by decide) rfl (fun ls hl => ?_)
    refine lv_iload_n hx hb dX9_scores_36 rfl (lv_at hl 4 rfl) ?_
    have J17 : ∀ (y16 : Int32) (_ : y16 = (X9_scores_x3 kind)) (H : Heap) (locs : List Loc) (ls : Array Slot), hG D (hA f sz) f s9 H locs → lv_has ls 11 [(6, .int (X9_scores_x1 kind runs)), (5, .int (nI a)), (4, .int (nI i)), (0, .ref m), (1, .int (nI kind)), (2, .int runs), (3, .int bnd)] → W p9 l e9 ({ frames := 1, cells := 0, slots := 0, locals := 22 } : Room) s9 m9 ([.ref m, .int (nI kind), .int runs, .int bnd] : List Value).toArray b9 t9 c9 H locs 0 0 (vx_MQ b9 (hQi (fun r u => r = (X9_scores_x1 kind runs) ∧ u v = some (.inl (cy 0, 6441, .inl (X9_scores_g44 g kind runs bnd i a bo s))) ∧ hFrL f u [v]) D f sz) (hPx hNo D f sz) ([.ref m, .int (nI kind), .int runs, .int bnd] : List Value).toArray s9 0 0 (hA f sz)) (F0 m9 50 ls [.int y16]) := by
      intro y16 ey16 H locs ls G hl
      replace ey16 := Eq.symm ey16
      subst ey16
      refine lv_istore (lv' := [(7, .int (X9_scores_x3 kind)), (6, .int (X9_scores_x1 kind runs)), (5, .int (nI a)), (4, .int (nI i)), (0, .ref m), (1, .int (nI kind)), (2, .int runs), (3, .int bnd)]) hx hb dX9_scores_50 hl (by decide) rfl (fun ls hl => ?_)
      refine lv_iload_n hx hb dX9_scores_52 rfl (lv_at hl 5 rfl) ?_
      refine lv_iconst (v := 1) hx hb dX9_scores_53 (by decide) ?_
      have J21 : ∀ (y20 : Int32) (_ : y20 = (X9_scores_x5 kind)) (H : Heap) (locs : List Loc) (ls : Array Slot), hG D (hA f sz) f s9 H locs → lv_has ls 11 [(7, .int (X9_scores_x3 kind)), (6, .int (X9_scores_x1 kind runs)), (5, .int (nI a)), (4, .int (nI i)), (0, .ref m), (1, .int (nI kind)), (2, .int runs), (3, .int bnd)] → W p9 l e9 ({ frames := 1, cells := 0, slots := 0, locals := 22 } : Room) s9 m9 ([.ref m, .int (nI kind), .int runs, .int bnd] : List Value).toArray b9 t9 c9 H locs 0 0 (vx_MQ b9 (hQi (fun r u => r = (X9_scores_x1 kind runs) ∧ u v = some (.inl (cy 0, 6441, .inl (X9_scores_g44 g kind runs bnd i a bo s))) ∧ hFrL f u [v]) D f sz) (hPx hNo D f sz) ([.ref m, .int (nI kind), .int runs, .int bnd] : List Value).toArray s9 0 0 (hA f sz)) (F0 m9 67 ls [.int y20]) := by
        intro y20 ey20 H locs ls G hl
        replace ey20 := Eq.symm ey20
        subst ey20
        refine lv_istore (lv' := [(8, .int (X9_scores_x5 kind)), (7, .int (X9_scores_x3 kind)), (6, .int (X9_scores_x1 kind runs)), (5, .int (nI a)), (4, .int (nI i)), (0, .ref m), (1, .int (nI kind)), (2, .int runs), (3, .int bnd)]) hx hb dX9_scores_67 hl (by decide) rfl (fun ls hl => ?_)
        refine lv_aload_n hx hb dX9_scores_69 rfl (lv_at hl 5 rfl) ?_
        refine g_get C0 G h_m rfl hiX9 2 (by decide) mf_X9_9 rfl dX9_scores_70 ?_
        refine lv_iload hx hb dX9_scores_73 (lv_at hl 4 rfl) ?_
        refine lv_bipush (v := 10) hx hb dX9_scores_75 (by decide) ?_
        refine g_cI C0 G (g_runS C0 G (rest := [.ref v]) (k_X9_at hfl (nI i) 10 ) hY_X9_at mm_X9_62 ms_X9_at ⟨(Nat.le_of_ble_eq_true rfl), (Nat.le_of_ble_eq_true rfl)⟩ rfl hl.1 rfl (Nat.le_of_ble_eq_true rfl) dX9_scores_77 ⟨(Nat.le_of_ble_eq_true rfl), (Nat.le_of_ble_eq_true rfl)⟩) (kx_no rfl) (fun r25 u24 H locs hp23 G => ?_)
        obtain ⟨zr, eu24⟩ := hp23
        replace zr := Eq.symm zr
        subst zr
        rw [eu24] at G
        refine lv_topv (v := nI (25 + 11 * i + 10)) (at_n i 10) ?_
        refine lv_iconst (v := 1) hx hb dX9_scores_80 (by decide) ?_
        refine g_iast C0 G h_v 0 rfl (vp_in_nI (by omega) (by omega)) dX9_scores_81 (fun H locs f26 hf26 G => ?_)
        have k27 : f26 v = some (.inl (cy 0, 6441, .inl (X9_scores_g6 g i))) := (by have h9 := hus hf26; rw [nI_c (by omega)] at h9; exact h9)
        refine lv_aload_n hx hb dX9_scores_82 rfl (lv_at hl 5 rfl) ?_
        have k28 : f26 m = some (.inr (11, [.int c_th, .int c_re, .ref v, .ref im, .ref kp, .ref pa, .ref de, .ref ide, .int c_un, .int c_hi, .ref tx, .int c_tn, .int c_fa, .int c_rf, .ref pt, .int c_ps, .int c_pl, .int c_to, .ref so, .ref mo, .ref wh, .ref pf])) := hup hf26 (hne h_m h_v (by intro q; cases q)) h_m
        refine g_get C0 G k28 rfl hiX9 2 (by decide) mf_X9_9 rfl dX9_scores_83 ?_
        refine lv_iload hx hb dX9_scores_86 (lv_at hl 4 rfl) ?_
        refine lv_iconst (v := 0) hx hb dX9_scores_88 (by decide) ?_
        refine g_cI C0 G (g_runS C0 G (rest := [.ref v]) (k_X9_at hfl (nI i) 0 ) hY_X9_at mm_X9_62 ms_X9_at ⟨(Nat.le_of_ble_eq_true rfl), (Nat.le_of_ble_eq_true rfl)⟩ rfl hl.1 rfl (Nat.le_of_ble_eq_true rfl) dX9_scores_89 ⟨(Nat.le_of_ble_eq_true rfl), (Nat.le_of_ble_eq_true rfl)⟩) (kx_no rfl) (fun r31 u30 H locs hp29 G => ?_)
        obtain ⟨zr, eu30⟩ := hp29
        replace zr := Eq.symm zr
        subst zr
        rw [eu30] at G
        refine lv_topv (v := nI (25 + 11 * i + 0)) (at_n i 0) ?_
        refine lv_dup2_11 hx hb dX9_scores_92 rfl rfl ?_
        refine g_iald C0 G k27 0 rfl (vp_in_nI (by omega) (by omega)) dX9_scores_93 ?_
        refine lv_topv (v := (X9_scores_g6 g i) (25 + 11 * i + 0)) (congrArg (X9_scores_g6 g i) (nI_c (by omega))) ?_
        refine lv_iload hx hb dX9_scores_94 (lv_at hl 2 rfl) ?_
        refine lv_iadd hx hb dX9_scores_96 ?_
        refine g_iast C0 G k27 0 rfl (vp_in_nI (by omega) (by omega)) dX9_scores_97 (fun H locs f32 hf32 G => ?_)
        have k33 : f32 v = some (.inl (cy 0, 6441, .inl (X9_scores_g7 g kind runs i))) := (by have h9 := hus hf32; rw [nI_c (by omega)] at h9; exact h9)
        refine lv_aload_n hx hb dX9_scores_98 rfl (lv_at hl 5 rfl) ?_
        have k34 : f32 m = some (.inr (11, [.int c_th, .int c_re, .ref v, .ref im, .ref kp, .ref pa, .ref de, .ref ide, .int c_un, .int c_hi, .ref tx, .int c_tn, .int c_fa, .int c_rf, .ref pt, .int c_ps, .int c_pl, .int c_to, .ref so, .ref mo, .ref wh, .ref pf])) := hup hf32 (hne k28 k27 (by intro q; cases q)) k28
        refine g_get C0 G k34 rfl hiX9 2 (by decide) mf_X9_9 rfl dX9_scores_99 ?_
        refine lv_iload hx hb dX9_scores_102 (lv_at hl 4 rfl) ?_
        refine lv_iconst (v := 2) hx hb dX9_scores_104 (by decide) ?_
        refine g_cI C0 G (g_runS C0 G (rest := [.ref v]) (k_X9_at hfl (nI i) 2 ) hY_X9_at mm_X9_62 ms_X9_at ⟨(Nat.le_of_ble_eq_true rfl), (Nat.le_of_ble_eq_true rfl)⟩ rfl hl.1 rfl (Nat.le_of_ble_eq_true rfl) dX9_scores_105 ⟨(Nat.le_of_ble_eq_true rfl), (Nat.le_of_ble_eq_true rfl)⟩) (kx_no rfl) (fun r37 u36 H locs hp35 G => ?_)
        obtain ⟨zr, eu36⟩ := hp35
        replace zr := Eq.symm zr
        subst zr
        rw [eu36] at G
        refine lv_topv (v := nI (25 + 11 * i + 2)) (at_n i 2) ?_
        refine lv_dup2_11 hx hb dX9_scores_108 rfl rfl ?_
        refine g_iald C0 G k33 0 rfl (vp_in_nI (by omega) (by omega)) dX9_scores_109 ?_
        refine lv_topv (v := (X9_scores_g7 g kind runs i) (25 + 11 * i + 2)) (congrArg (X9_scores_g7 g kind runs i) (nI_c (by omega))) ?_
        refine lv_iload hx hb dX9_scores_110 (lv_at hl 0 rfl) ?_
        refine lv_iadd hx hb dX9_scores_112 ?_
        refine g_iast C0 G k33 0 rfl (vp_in_nI (by omega) (by omega)) dX9_scores_113 (fun H locs f38 hf38 G => ?_)
        have k39 : f38 v = some (.inl (cy 0, 6441, .inl (X9_scores_g8 g kind runs i))) := (by have h9 := hus hf38; rw [nI_c (by omega)] at h9; exact h9)
        refine lv_iload_n hx hb dX9_scores_114 rfl (lv_at hl 6 rfl) ?_
        have J42 : ∀ (y41 : Nat → Int32) (_ : y41 = (X9_scores_g12 g kind runs i)) (f43 : Hf) (H : Heap) (locs : List Loc) (ls : Array Slot), f43 v = some (.inl (cy 0, 6441, .inl y41)) → hFrL f38 f43 [v] → hG D (hA f sz) f43 s9 H locs → lv_has ls 11 [(8, .int (X9_scores_x5 kind)), (7, .int (X9_scores_x3 kind)), (6, .int (X9_scores_x1 kind runs)), (5, .int (nI a)), (4, .int (nI i)), (0, .ref m), (1, .int (nI kind)), (2, .int runs), (3, .int bnd)] → W p9 l e9 ({ frames := 1, cells := 0, slots := 0, locals := 22 } : Room) s9 m9 ([.ref m, .int (nI kind), .int runs, .int bnd] : List Value).toArray b9 t9 c9 H locs 0 0 (vx_MQ b9 (hQi (fun r u => r = (X9_scores_x1 kind runs) ∧ u v = some (.inl (cy 0, 6441, .inl (X9_scores_g44 g kind runs bnd i a bo s))) ∧ hFrL f u [v]) D f sz) (hPx hNo D f sz) ([.ref m, .int (nI kind), .int runs, .int bnd] : List Value).toArray s9 0 0 (hA f sz)) (F0 m9 145 ls []) := by
          intro y41 ey41 f43 H locs ls k44 fr45 G hl
          replace ey41 := Eq.symm ey41
          subst ey41
          refine lv_aload_n hx hb dX9_scores_145 rfl (lv_at hl 5 rfl) ?_
          have k46 : f43 m = some (.inr (11, [.int c_th, .int c_re, .ref v, .ref im, .ref kp, .ref pa, .ref de, .ref ide, .int c_un, .int c_hi, .ref tx, .int c_tn, .int c_fa, .int c_rf, .ref pt, .int c_ps, .int c_pl, .int c_to, .ref so, .ref mo, .ref wh, .ref pf])) := fr45 _ _ (by simp only [List.mem_cons, List.not_mem_nil, or_false]; intro q; exact (hne (hup hf38 (hne k34 k33 (by intro q; cases q)) k34) k39 (by intro q; cases q)) q) (hup hf38 (hne k34 k33 (by intro q; cases q)) k34)
          refine g_get C0 G k46 rfl hiX9 2 (by decide) mf_X9_9 rfl dX9_scores_146 ?_
          refine lv_iload hx hb dX9_scores_149 (lv_at hl 4 rfl) ?_
          refine lv_iload hx hb dX9_scores_151 (lv_at hl 3 rfl) ?_
          refine lv_iconst (v := 1) hx hb dX9_scores_153 (by decide) ?_
          refine g_cI C0 G (g_runS C0 G (rest := [.ref v]) (k_X9_batterAt hfl (nI i) (nI a) 1 ) hY_X9_batterAt mm_X9_65 ms_X9_batterAt ⟨(Nat.le_of_ble_eq_true rfl), (Nat.le_of_ble_eq_true rfl)⟩ rfl hl.1 rfl (Nat.le_of_ble_eq_true rfl) dX9_scores_154 ⟨(Nat.le_of_ble_eq_true rfl), (Nat.le_of_ble_eq_true rfl)⟩) (kx_no rfl) (fun r49 u48 H locs hp47 G => ?_)
          obtain ⟨zr, eu48⟩ := hp47
          replace zr := Eq.symm zr
          subst zr
          rw [eu48] at G
          refine lv_topv (v := nI (69 + 6 * (11 * i + a) + 1)) (bat_n i a 1) ?_
          refine lv_dup2_11 hx hb dX9_scores_157 rfl rfl ?_
          refine g_iald C0 G k44 0 rfl (vp_in_nI (by omega) (by omega)) dX9_scores_158 ?_
          refine lv_topv (v := (X9_scores_g12 g kind runs i) (69 + 6 * (11 * i + a) + 1)) (congrArg (X9_scores_g12 g kind runs i) (nI_c (by omega))) ?_
          refine lv_iload_n hx hb dX9_scores_159 rfl (lv_at hl 6 rfl) ?_
          refine lv_iconst (v := 1) hx hb dX9_scores_160 (by decide) ?_
          have J52 : ∀ (y51 : Int32) (_ : y51 = (X9_scores_x13 kind)) (H : Heap) (locs : List Loc) (ls : Array Slot), hG D (hA f sz) f43 s9 H locs → lv_has ls 11 [(8, .int (X9_scores_x5 kind)), (7, .int (X9_scores_x3 kind)), (6, .int (X9_scores_x1 kind runs)), (5, .int (nI a)), (4, .int (nI i)), (0, .ref m), (1, .int (nI kind)), (2, .int runs), (3, .int bnd)] → W p9 l e9 ({ frames := 1, cells := 0, slots := 0, locals := 22 } : Room) s9 m9 ([.ref m, .int (nI kind), .int runs, .int bnd] : List Value).toArray b9 t9 c9 H locs 0 0 (vx_MQ b9 (hQi (fun r u => r = (X9_scores_x1 kind runs) ∧ u v = some (.inl (cy 0, 6441, .inl (X9_scores_g44 g kind runs bnd i a bo s))) ∧ hFrL f u [v]) D f sz) (hPx hNo D f sz) ([.ref m, .int (nI kind), .int runs, .int bnd] : List Value).toArray s9 0 0 (hA f sz)) (F0 m9 169 ls [.int y51, .int ((X9_scores_g12 g kind runs i) (69 + 6 * (11 * i + a) + 1)), .int (nI (69 + 6 * (11 * i + a) + 1)), .ref v]) := by
            intro y51 ey51 H locs ls G hl
            replace ey51 := Eq.symm ey51
            subst ey51
            refine lv_iadd hx hb dX9_scores_169 ?_
            refine g_iast C0 G k44 0 rfl (vp_in_nI (by omega) (by omega)) dX9_scores_170 (fun H locs f54 hf54 G => ?_)
            have k55 : f54 v = some (.inl (cy 0, 6441, .inl (X9_scores_g15 g kind runs i a))) := (by have h9 := hus hf54; rw [nI_c (by omega)] at h9; exact h9)
            refine lv_aload_n hx hb dX9_scores_171 rfl (lv_at hl 5 rfl) ?_
            have k56 : f54 m = some (.inr (11, [.int c_th, .int c_re, .ref v, .ref im, .ref kp, .ref pa, .ref de, .ref ide, .int c_un, .int c_hi, .ref tx, .int c_tn, .int c_fa, .int c_rf, .ref pt, .int c_ps, .int c_pl, .int c_to, .ref so, .ref mo, .ref wh, .ref pf])) := hup hf54 (hne k46 k44 (by intro q; cases q)) k46
            refine g_get C0 G k56 rfl hiX9 2 (by decide) mf_X9_9 rfl dX9_scores_172 ?_
            refine lv_iload hx hb dX9_scores_175 (lv_at hl 4 rfl) ?_
            refine lv_iload hx hb dX9_scores_177 (lv_at hl 3 rfl) ?_
            refine lv_iconst (v := 0) hx hb dX9_scores_179 (by decide) ?_
            refine g_cI C0 G (g_runS C0 G (rest := [.ref v]) (k_X9_batterAt hfl (nI i) (nI a) 0 ) hY_X9_batterAt mm_X9_65 ms_X9_batterAt ⟨(Nat.le_of_ble_eq_true rfl), (Nat.le_of_ble_eq_true rfl)⟩ rfl hl.1 rfl (Nat.le_of_ble_eq_true rfl) dX9_scores_180 ⟨(Nat.le_of_ble_eq_true rfl), (Nat.le_of_ble_eq_true rfl)⟩) (kx_no rfl) (fun r59 u58 H locs hp57 G => ?_)
            obtain ⟨zr, eu58⟩ := hp57
            replace zr := Eq.symm zr
            subst zr
            rw [eu58] at G
            refine lv_topv (v := nI (69 + 6 * (11 * i + a) + 0)) (bat_n i a 0) ?_
            refine lv_dup2_11 hx hb dX9_scores_183 rfl rfl ?_
            refine g_iald C0 G k55 0 rfl (vp_in_nI (by omega) (by omega)) dX9_scores_184 ?_
            refine lv_topv (v := (X9_scores_g15 g kind runs i a) (69 + 6 * (11 * i + a) + 0)) (congrArg (X9_scores_g15 g kind runs i a) (nI_c (by omega))) ?_
            refine lv_iload hx hb dX9_scores_185 (lv_at hl 1 rfl) ?_
            have J62 : ∀ (y61 : Int32) (_ : y61 = (X9_scores_x16 kind runs)) (H : Heap) (locs : List Loc) (ls : Array Slot), hG D (hA f sz) f54 s9 H locs → lv_has ls 11 [(8, .int (X9_scores_x5 kind)), (7, .int (X9_scores_x3 kind)), (6, .int (X9_scores_x1 kind runs)), (5, .int (nI a)), (4, .int (nI i)), (0, .ref m), (1, .int (nI kind)), (2, .int runs), (3, .int bnd)] → W p9 l e9 ({ frames := 1, cells := 0, slots := 0, locals := 22 } : Room) s9 m9 ([.ref m, .int (nI kind), .int runs, .int bnd] : List Value).toArray b9 t9 c9 H locs 0 0 (vx_MQ b9 (hQi (fun r u => r = (X9_scores_x1 kind runs) ∧ u v = some (.inl (cy 0, 6441, .inl (X9_scores_g44 g kind runs bnd i a bo s))) ∧ hFrL f u [v]) D f sz) (hPx hNo D f sz) ([.ref m, .int (nI kind), .int runs, .int bnd] : List Value).toArray s9 0 0 (hA f sz)) (F0 m9 195 ls [.int y61, .int ((X9_scores_g15 g kind runs i a) (69 + 6 * (11 * i + a) + 0)), .int (nI (69 + 6 * (11 * i + a) + 0)), .ref v]) := by
              intro y61 ey61 H locs ls G hl
              replace ey61 := Eq.symm ey61
              subst ey61
              refine lv_iadd hx hb dX9_scores_195 ?_
              refine g_iast C0 G k55 0 rfl (vp_in_nI (by omega) (by omega)) dX9_scores_196 (fun H locs f64 hf64 G => ?_)
              have k65 : f64 v = some (.inl (cy 0, 6441, .inl (X9_scores_g18 g kind runs i a))) := (by have h9 := hus hf64; rw [nI_c (by omega)] at h9; exact h9)
              refine lv_iload_n hx hb dX9_scores_197 rfl (lv_at hl 8 rfl) ?_
              have J68 : ∀ (y67 : Nat → Int32) (_ : y67 = (X9_scores_g22 g kind runs bnd i a)) (f69 : Hf) (H : Heap) (locs : List Loc) (ls : Array Slot), f69 v = some (.inl (cy 0, 6441, .inl y67)) → hFrL f64 f69 [v] → hG D (hA f sz) f69 s9 H locs → lv_has ls 11 [(8, .int (X9_scores_x5 kind)), (7, .int (X9_scores_x3 kind)), (6, .int (X9_scores_x1 kind runs)), (5, .int (nI a)), (4, .int (nI i)), (0, .ref m), (1, .int (nI kind)), (2, .int runs), (3, .int bnd)] → W p9 l e9 ({ frames := 1, cells := 0, slots := 0, locals := 22 } : Room) s9 m9 ([.ref m, .int (nI kind), .int runs, .int bnd] : List Value).toArray b9 t9 c9 H locs 0 0 (vx_MQ b9 (hQi (fun r u => r = (X9_scores_x1 kind runs) ∧ u v = some (.inl (cy 0, 6441, .inl (X9_scores_g44 g kind runs bnd i a bo s))) ∧ hFrL f u [v]) D f sz) (hPx hNo D f sz) ([.ref m, .int (nI kind), .int runs, .int bnd] : List Value).toArray s9 0 0 (hA f sz)) (F0 m9 227 ls []) := by
                intro y67 ey67 f69 H locs ls k70 fr71 G hl
                replace ey67 := Eq.symm ey67
                subst ey67
                refine lv_aload_n hx hb dX9_scores_227 rfl (lv_at hl 5 rfl) ?_
                have k72 : f69 m = some (.inr (11, [.int c_th, .int c_re, .ref v, .ref im, .ref kp, .ref pa, .ref de, .ref ide, .int c_un, .int c_hi, .ref tx, .int c_tn, .int c_fa, .int c_rf, .ref pt, .int c_ps, .int c_pl, .int c_to, .ref so, .ref mo, .ref wh, .ref pf])) := fr71 _ _ (by simp only [List.mem_cons, List.not_mem_nil, or_false]; intro q; exact (hne (hup hf64 (hne k56 k55 (by intro q; cases q)) k56) k65 (by intro q; cases q)) q) (hup hf64 (hne k56 k55 (by intro q; cases q)) k56)
                refine g_get C0 G k72 rfl hiX9 2 (by decide) mf_X9_9 rfl dX9_scores_228 ?_
                refine lv_bipush (v := 9) hx hb dX9_scores_231 (by decide) ?_
                refine g_iald C0 G k70 0 rfl (by unfold vp_in; decide) dX9_scores_233 ?_
                refine lv_topv (v := (X9_scores_g22 g kind runs bnd i a) 9) rfl ?_
                refine lv_topv (v := nI bo) ((by rw [X9_scores_g22]; split; exact (by rw [X9_scores_g18, upd_off (by omega)]; exact (by rw [X9_scores_g15, upd_off (by omega)]; exact (by rw [X9_scores_g12]; split; exact (by rw [X9_scores_g8, upd_off (by omega)]; exact (by rw [X9_scores_g7, upd_off (by omega)]; exact (by rw [X9_scores_g6, upd_off (by omega)]; exact h9))); exact (by rw [X9_scores_g11, upd_off (by omega)]; exact (by rw [X9_scores_g8, upd_off (by omega)]; exact (by rw [X9_scores_g7, upd_off (by omega)]; exact (by rw [X9_scores_g6, upd_off (by omega)]; exact h9))))))); exact (by rw [X9_scores_g21, upd_off (by omega)]; exact (by rw [X9_scores_g18, upd_off (by omega)]; exact (by rw [X9_scores_g15, upd_off (by omega)]; exact (by rw [X9_scores_g12]; split; exact (by rw [X9_scores_g8, upd_off (by omega)]; exact (by rw [X9_scores_g7, upd_off (by omega)]; exact (by rw [X9_scores_g6, upd_off (by omega)]; exact h9))); exact (by rw [X9_scores_g11, upd_off (by omega)]; exact (by rw [X9_scores_g8, upd_off (by omega)]; exact (by rw [X9_scores_g7, upd_off (by omega)]; exact (by rw [X9_scores_g6, upd_off (by omega)]; exact h9)))))))))) ?_
                refine lv_istore (lv' := [(9, .int (nI bo)), (8, .int (X9_scores_x5 kind)), (7, .int (X9_scores_x3 kind)), (6, .int (X9_scores_x1 kind runs)), (5, .int (nI a)), (4, .int (nI i)), (0, .ref m), (1, .int (nI kind)), (2, .int runs), (3, .int bnd)]) hx hb dX9_scores_234 hl (by decide) rfl (fun ls hl => ?_)
                refine lv_aload_n hx hb dX9_scores_236 rfl (lv_at hl 6 rfl) ?_
                refine g_get C0 G k72 rfl hiX9 2 (by decide) mf_X9_9 rfl dX9_scores_237 ?_
                refine lv_iload hx hb dX9_scores_240 (lv_at hl 5 rfl) ?_
                refine lv_iload hx hb dX9_scores_242 (lv_at hl 0 rfl) ?_
                refine lv_iconst (v := 0) hx hb dX9_scores_244 (by decide) ?_
                refine g_cI C0 G (g_runS C0 G (rest := [.ref v]) (k_X9_bowlerAt hfl (nI i) (nI bo) 0 ) hY_X9_bowlerAt mm_X9_105 ms_X9_bowlerAt ⟨(Nat.le_of_ble_eq_true rfl), (Nat.le_of_ble_eq_true rfl)⟩ rfl hl.1 rfl (Nat.le_of_ble_eq_true rfl) dX9_scores_245 ⟨(Nat.le_of_ble_eq_true rfl), (Nat.le_of_ble_eq_true rfl)⟩) (kx_no rfl) (fun r75 u74 H locs hp73 G => ?_)
                obtain ⟨zr, eu74⟩ := hp73
                replace zr := Eq.symm zr
                subst zr
                rw [eu74] at G
                refine lv_topv (v := nI (333 + 7 * (11 * i + bo) + 0)) (bow_n i bo 0) ?_
                refine lv_dup2_11 hx hb dX9_scores_248 rfl rfl ?_
                refine g_iald C0 G k70 0 rfl (vp_in_nI (by omega) (by omega)) dX9_scores_249 ?_
                refine lv_topv (v := (X9_scores_g22 g kind runs bnd i a) (333 + 7 * (11 * i + bo) + 0)) (congrArg (X9_scores_g22 g kind runs bnd i a) (nI_c (by omega))) ?_
                refine lv_iload hx hb dX9_scores_250 (lv_at hl 1 rfl) ?_
                refine lv_iadd hx hb dX9_scores_252 ?_
                refine g_iast C0 G k70 0 rfl (vp_in_nI (by omega) (by omega)) dX9_scores_253 (fun H locs f76 hf76 G => ?_)
                have k77 : f76 v = some (.inl (cy 0, 6441, .inl (X9_scores_g24 g kind runs bnd i a bo))) := (by have h9 := hus hf76; rw [nI_c (by omega)] at h9; exact h9)
                refine lv_aload_n hx hb dX9_scores_254 rfl (lv_at hl 6 rfl) ?_
                have k78 : f76 m = some (.inr (11, [.int c_th, .int c_re, .ref v, .ref im, .ref kp, .ref pa, .ref de, .ref ide, .int c_un, .int c_hi, .ref tx, .int c_tn, .int c_fa, .int c_rf, .ref pt, .int c_ps, .int c_pl, .int c_to, .ref so, .ref mo, .ref wh, .ref pf])) := hup hf76 (hne k72 k70 (by intro q; cases q)) k72
                refine g_get C0 G k78 rfl hiX9 2 (by decide) mf_X9_9 rfl dX9_scores_255 ?_
                refine lv_iload hx hb dX9_scores_258 (lv_at hl 5 rfl) ?_
                refine lv_iload hx hb dX9_scores_260 (lv_at hl 0 rfl) ?_
                refine lv_iconst (v := 1) hx hb dX9_scores_262 (by decide) ?_
                refine g_cI C0 G (g_runS C0 G (rest := [.ref v]) (k_X9_bowlerAt hfl (nI i) (nI bo) 1 ) hY_X9_bowlerAt mm_X9_105 ms_X9_bowlerAt ⟨(Nat.le_of_ble_eq_true rfl), (Nat.le_of_ble_eq_true rfl)⟩ rfl hl.1 rfl (Nat.le_of_ble_eq_true rfl) dX9_scores_263 ⟨(Nat.le_of_ble_eq_true rfl), (Nat.le_of_ble_eq_true rfl)⟩) (kx_no rfl) (fun r81 u80 H locs hp79 G => ?_)
                obtain ⟨zr, eu80⟩ := hp79
                replace zr := Eq.symm zr
                subst zr
                rw [eu80] at G
                refine lv_topv (v := nI (333 + 7 * (11 * i + bo) + 1)) (bow_n i bo 1) ?_
                refine lv_dup2_11 hx hb dX9_scores_266 rfl rfl ?_
                refine g_iald C0 G k77 0 rfl (vp_in_nI (by omega) (by omega)) dX9_scores_267 ?_
                refine lv_topv (v := (X9_scores_g24 g kind runs bnd i a bo) (333 + 7 * (11 * i + bo) + 1)) (congrArg (X9_scores_g24 g kind runs bnd i a bo) (nI_c (by omega))) ?_
                refine lv_iload_n hx hb dX9_scores_268 rfl (lv_at hl 7 rfl) ?_
                refine lv_iconst (v := 3) hx hb dX9_scores_269 (by decide) ?_
                have J84 : ∀ (y83 : Int32) (_ : y83 = (X9_scores_x25 kind runs)) (H : Heap) (locs : List Loc) (ls : Array Slot), hG D (hA f sz) f76 s9 H locs → lv_has ls 11 [(9, .int (nI bo)), (8, .int (X9_scores_x5 kind)), (7, .int (X9_scores_x3 kind)), (6, .int (X9_scores_x1 kind runs)), (5, .int (nI a)), (4, .int (nI i)), (0, .ref m), (1, .int (nI kind)), (2, .int runs), (3, .int bnd)] → W p9 l e9 ({ frames := 1, cells := 0, slots := 0, locals := 22 } : Room) s9 m9 ([.ref m, .int (nI kind), .int runs, .int bnd] : List Value).toArray b9 t9 c9 H locs 0 0 (vx_MQ b9 (hQi (fun r u => r = (X9_scores_x1 kind runs) ∧ u v = some (.inl (cy 0, 6441, .inl (X9_scores_g44 g kind runs bnd i a bo s))) ∧ hFrL f u [v]) D f sz) (hPx hNo D f sz) ([.ref m, .int (nI kind), .int runs, .int bnd] : List Value).toArray s9 0 0 (hA f sz)) (F0 m9 279 ls [.int y83, .int ((X9_scores_g24 g kind runs bnd i a bo) (333 + 7 * (11 * i + bo) + 1)), .int (nI (333 + 7 * (11 * i + bo) + 1)), .ref v]) := by
                  intro y83 ey83 H locs ls G hl
                  replace ey83 := Eq.symm ey83
                  subst ey83
                  refine lv_iadd hx hb dX9_scores_279 ?_
                  refine g_iast C0 G k77 0 rfl (vp_in_nI (by omega) (by omega)) dX9_scores_280 (fun H locs f86 hf86 G => ?_)
                  have k87 : f86 v = some (.inl (cy 0, 6441, .inl (X9_scores_g27 g kind runs bnd i a bo))) := (by have h9 := hus hf86; rw [nI_c (by omega)] at h9; exact h9)
                  refine lv_aload_n hx hb dX9_scores_281 rfl (lv_at hl 6 rfl) ?_
                  have k88 : f86 m = some (.inr (11, [.int c_th, .int c_re, .ref v, .ref im, .ref kp, .ref pa, .ref de, .ref ide, .int c_un, .int c_hi, .ref tx, .int c_tn, .int c_fa, .int c_rf, .ref pt, .int c_ps, .int c_pl, .int c_to, .ref so, .ref mo, .ref wh, .ref pf])) := hup hf86 (hne k78 k77 (by intro q; cases q)) k78
                  refine g_get C0 G k88 rfl hiX9 2 (by decide) mf_X9_9 rfl dX9_scores_282 ?_
                  refine lv_bipush (v := 11) hx hb dX9_scores_285 (by decide) ?_
                  refine lv_dup2_11 hx hb dX9_scores_287 rfl rfl ?_
                  refine g_iald C0 G k87 0 rfl (by unfold vp_in; decide) dX9_scores_288 ?_
                  refine lv_topv (v := (X9_scores_g27 g kind runs bnd i a bo) 11) rfl ?_
                  refine lv_iload_n hx hb dX9_scores_289 rfl (lv_at hl 7 rfl) ?_
                  refine lv_iconst (v := 3) hx hb dX9_scores_290 (by decide) ?_
                  have J91 : ∀ (y90 : Int32) (_ : y90 = (X9_scores_x25 kind runs)) (H : Heap) (locs : List Loc) (ls : Array Slot), hG D (hA f sz) f86 s9 H locs → lv_has ls 11 [(9, .int (nI bo)), (8, .int (X9_scores_x5 kind)), (7, .int (X9_scores_x3 kind)), (6, .int (X9_scores_x1 kind runs)), (5, .int (nI a)), (4, .int (nI i)), (0, .ref m), (1, .int (nI kind)), (2, .int runs), (3, .int bnd)] → W p9 l e9 ({ frames := 1, cells := 0, slots := 0, locals := 22 } : Room) s9 m9 ([.ref m, .int (nI kind), .int runs, .int bnd] : List Value).toArray b9 t9 c9 H locs 0 0 (vx_MQ b9 (hQi (fun r u => r = (X9_scores_x1 kind runs) ∧ u v = some (.inl (cy 0, 6441, .inl (X9_scores_g44 g kind runs bnd i a bo s))) ∧ hFrL f u [v]) D f sz) (hPx hNo D f sz) ([.ref m, .int (nI kind), .int runs, .int bnd] : List Value).toArray s9 0 0 (hA f sz)) (F0 m9 300 ls [.int y90, .int ((X9_scores_g27 g kind runs bnd i a bo) 11), .int 11, .ref v]) := by
                    intro y90 ey90 H locs ls G hl
                    replace ey90 := Eq.symm ey90
                    subst ey90
                    refine lv_iadd hx hb dX9_scores_300 ?_
                    refine g_iast C0 G k87 0 rfl (by unfold vp_in; decide) dX9_scores_301 (fun H locs f93 hf93 G => ?_)
                    have k94 : f93 v = some (.inl (cy 0, 6441, .inl (X9_scores_g29 g kind runs bnd i a bo))) := hus hf93
                    refine lv_iload hx hb dX9_scores_302 (lv_at hl 1 rfl) ?_
                    have J97 : ∀ (y96 : Nat → Int32) (_ : y96 = (X9_scores_g32 g kind runs bnd i a bo)) (f98 : Hf) (H : Heap) (locs : List Loc) (ls : Array Slot), f98 v = some (.inl (cy 0, 6441, .inl y96)) → hFrL f93 f98 [v] → hG D (hA f sz) f98 s9 H locs → lv_has ls 11 [(9, .int (nI bo)), (8, .int (X9_scores_x5 kind)), (7, .int (X9_scores_x3 kind)), (6, .int (X9_scores_x1 kind runs)), (5, .int (nI a)), (4, .int (nI i)), (0, .ref m), (1, .int (nI kind)), (2, .int runs), (3, .int bnd)] → W p9 l e9 ({ frames := 1, cells := 0, slots := 0, locals := 22 } : Room) s9 m9 ([.ref m, .int (nI kind), .int runs, .int bnd] : List Value).toArray b9 t9 c9 H locs 0 0 (vx_MQ b9 (hQi (fun r u => r = (X9_scores_x1 kind runs) ∧ u v = some (.inl (cy 0, 6441, .inl (X9_scores_g44 g kind runs bnd i a bo s))) ∧ hFrL f u [v]) D f sz) (hPx hNo D f sz) ([.ref m, .int (nI kind), .int runs, .int bnd] : List Value).toArray s9 0 0 (hA f sz)) (F0 m9 326 ls []) := by
                      intro y96 ey96 f98 H locs ls k99 fr100 G hl
                      replace ey96 := Eq.symm ey96
                      subst ey96
                      refine lv_aload_n hx hb dX9_scores_326 rfl (lv_at hl 6 rfl) ?_
                      have k101 : f98 m = some (.inr (11, [.int c_th, .int c_re, .ref v, .ref im, .ref kp, .ref pa, .ref de, .ref ide, .int c_un, .int c_hi, .ref tx, .int c_tn, .int c_fa, .int c_rf, .ref pt, .int c_ps, .int c_pl, .int c_to, .ref so, .ref mo, .ref wh, .ref pf])) := fr100 _ _ (by simp only [List.mem_cons, List.not_mem_nil, or_false]; intro q; exact (hne (hup hf93 (hne k88 k87 (by intro q; cases q)) k88) k94 (by intro q; cases q)) q) (hup hf93 (hne k88 k87 (by intro q; cases q)) k88)
                      refine g_get C0 G k101 rfl hiX9 2 (by decide) mf_X9_9 rfl dX9_scores_327 ?_
                      refine lv_bipush (v := 10) hx hb dX9_scores_330 (by decide) ?_
                      refine lv_dup2_11 hx hb dX9_scores_332 rfl rfl ?_
                      refine g_iald C0 G k99 0 rfl (by unfold vp_in; decide) dX9_scores_333 ?_
                      refine lv_topv (v := (X9_scores_g32 g kind runs bnd i a bo) 10) rfl ?_
                      refine lv_iload hx hb dX9_scores_334 (lv_at hl 1 rfl) ?_
                      refine lv_iadd hx hb dX9_scores_336 ?_
                      refine g_iast C0 G k99 0 rfl (by unfold vp_in; decide) dX9_scores_337 (fun H locs f102 hf102 G => ?_)
                      have k103 : f102 v = some (.inl (cy 0, 6441, .inl (X9_scores_g33 g kind runs bnd i a bo))) := hus hf102
                      refine lv_sipush (v := 841) hx hb dX9_scores_338 (by decide) ?_
                      refine lv_bipush (v := 8) hx hb dX9_scores_341 (by decide) ?_
                      refine lv_aload_n hx hb dX9_scores_343 rfl (lv_at hl 6 rfl) ?_
                      have k104 : f102 m = some (.inr (11, [.int c_th, .int c_re, .ref v, .ref im, .ref kp, .ref pa, .ref de, .ref ide, .int c_un, .int c_hi, .ref tx, .int c_tn, .int c_fa, .int c_rf, .ref pt, .int c_ps, .int c_pl, .int c_to, .ref so, .ref mo, .ref wh, .ref pf])) := hup hf102 (hne k101 k99 (by intro q; cases q)) k101
                      refine g_get C0 G k104 rfl hiX9 2 (by decide) mf_X9_9 rfl dX9_scores_344 ?_
                      refine lv_bipush (v := 22) hx hb dX9_scores_347 (by decide) ?_
                      refine g_iald C0 G k103 0 rfl (by unfold vp_in; decide) dX9_scores_349 ?_
                      refine lv_topv (v := (X9_scores_g33 g kind runs bnd i a bo) 22) rfl ?_
                      refine lv_topv (v := nI s) ((by rw [X9_scores_g33, upd_off (by omega)]; exact (by rw [X9_scores_g32]; split; exact (by rw [X9_scores_g31, upd_off (by omega)]; exact (by rw [X9_scores_g29, upd_off (by omega)]; exact (by rw [X9_scores_g27, upd_off (by omega)]; exact (by rw [X9_scores_g24, upd_off (by omega)]; exact (by rw [X9_scores_g22]; split; exact (by rw [X9_scores_g18, upd_off (by omega)]; exact (by rw [X9_scores_g15, upd_off (by omega)]; exact (by rw [X9_scores_g12]; split; exact (by rw [X9_scores_g8, upd_off (by omega)]; exact (by rw [X9_scores_g7, upd_off (by omega)]; exact (by rw [X9_scores_g6, upd_off (by omega)]; exact h22))); exact (by rw [X9_scores_g11, upd_off (by omega)]; exact (by rw [X9_scores_g8, upd_off (by omega)]; exact (by rw [X9_scores_g7, upd_off (by omega)]; exact (by rw [X9_scores_g6, upd_off (by omega)]; exact h22))))))); exact (by rw [X9_scores_g21, upd_off (by omega)]; exact (by rw [X9_scores_g18, upd_off (by omega)]; exact (by rw [X9_scores_g15, upd_off (by omega)]; exact (by rw [X9_scores_g12]; split; exact (by rw [X9_scores_g8, upd_off (by omega)]; exact (by rw [X9_scores_g7, upd_off (by omega)]; exact (by rw [X9_scores_g6, upd_off (by omega)]; exact h22))); exact (by rw [X9_scores_g11, upd_off (by omega)]; exact (by rw [X9_scores_g8, upd_off (by omega)]; exact (by rw [X9_scores_g7, upd_off (by omega)]; exact (by rw [X9_scores_g6, upd_off (by omega)]; exact h22))))))))))))); exact (by rw [X9_scores_g29, upd_off (by omega)]; exact (by rw [X9_scores_g27, upd_off (by omega)]; exact (by rw [X9_scores_g24, upd_off (by omega)]; exact (by rw [X9_scores_g22]; split; exact (by rw [X9_scores_g18, upd_off (by omega)]; exact (by rw [X9_scores_g15, upd_off (by omega)]; exact (by rw [X9_scores_g12]; split; exact (by rw [X9_scores_g8, upd_off (by omega)]; exact (by rw [X9_scores_g7, upd_off (by omega)]; exact (by rw [X9_scores_g6, upd_off (by omega)]; exact h22))); exact (by rw [X9_scores_g11, upd_off (by omega)]; exact (by rw [X9_scores_g8, upd_off (by omega)]; exact (by rw [X9_scores_g7, upd_off (by omega)]; exact (by rw [X9_scores_g6, upd_off (by omega)]; exact h22))))))); exact (by rw [X9_scores_g21, upd_off (by omega)]; exact (by rw [X9_scores_g18, upd_off (by omega)]; exact (by rw [X9_scores_g15, upd_off (by omega)]; exact (by rw [X9_scores_g12]; split; exact (by rw [X9_scores_g8, upd_off (by omega)]; exact (by rw [X9_scores_g7, upd_off (by omega)]; exact (by rw [X9_scores_g6, upd_off (by omega)]; exact h22))); exact (by rw [X9_scores_g11, upd_off (by omega)]; exact (by rw [X9_scores_g8, upd_off (by omega)]; exact (by rw [X9_scores_g7, upd_off (by omega)]; exact (by rw [X9_scores_g6, upd_off (by omega)]; exact h22))))))))))))))) ?_
                      refine lv_iconst (v := 1) hx hb dX9_scores_350 (by decide) ?_
                      refine lv_isub hx hb dX9_scores_351 ?_
                      refine lv_topv (v := nI (s - 1)) ((nI_sb (by omega))) ?_
                      refine lv_imul hx hb dX9_scores_352 ?_
                      refine lv_topv (v := nI (8 * (s - 1))) ((pk_mul _ _)) ?_
                      refine lv_iadd hx hb dX9_scores_353 ?_
                      refine lv_topv (v := nI (841 + 8 * (s - 1))) ((nI_add _ _)) ?_
                      refine lv_istore (lv' := [(10, .int (nI (841 + 8 * (s - 1)))), (9, .int (nI bo)), (8, .int (X9_scores_x5 kind)), (7, .int (X9_scores_x3 kind)), (6, .int (X9_scores_x1 kind runs)), (5, .int (nI a)), (4, .int (nI i)), (0, .ref m), (1, .int (nI kind)), (2, .int runs), (3, .int bnd)]) hx hb dX9_scores_354 hl (by decide) rfl (fun ls hl => ?_)
                      refine lv_aload_n hx hb dX9_scores_356 rfl (lv_at hl 7 rfl) ?_
                      refine g_get C0 G k104 rfl hiX9 2 (by decide) mf_X9_9 rfl dX9_scores_357 ?_
                      refine lv_iload hx hb dX9_scores_360 (lv_at hl 0 rfl) ?_
                      refine lv_dup2_11 hx hb dX9_scores_362 rfl rfl ?_
                      refine g_iald C0 G k103 0 rfl (vp_in_nI (by omega) (by omega)) dX9_scores_363 ?_
                      refine lv_topv (v := (X9_scores_g33 g kind runs bnd i a bo) (841 + 8 * (s - 1))) (congrArg (X9_scores_g33 g kind runs bnd i a bo) (nI_c (by omega))) ?_
                      refine lv_iload hx hb dX9_scores_364 (lv_at hl 4 rfl) ?_
                      refine lv_iadd hx hb dX9_scores_366 ?_
                      refine g_iast C0 G k103 0 rfl (vp_in_nI (by omega) (by omega)) dX9_scores_367 (fun H locs f105 hf105 G => ?_)
                      have k106 : f105 v = some (.inl (cy 0, 6441, .inl (X9_scores_g35 g kind runs bnd i a bo s))) := (by have h9 := hus hf105; rw [nI_c (by omega)] at h9; exact h9)
                      refine lv_aload_n hx hb dX9_scores_368 rfl (lv_at hl 7 rfl) ?_
                      have k107 : f105 m = some (.inr (11, [.int c_th, .int c_re, .ref v, .ref im, .ref kp, .ref pa, .ref de, .ref ide, .int c_un, .int c_hi, .ref tx, .int c_tn, .int c_fa, .int c_rf, .ref pt, .int c_ps, .int c_pl, .int c_to, .ref so, .ref mo, .ref wh, .ref pf])) := hup hf105 (hne k104 k103 (by intro q; cases q)) k104
                      refine g_get C0 G k107 rfl hiX9 2 (by decide) mf_X9_9 rfl dX9_scores_369 ?_
                      refine lv_iload hx hb dX9_scores_372 (lv_at hl 0 rfl) ?_
                      refine lv_iconst (v := 1) hx hb dX9_scores_374 (by decide) ?_
                      refine lv_iadd hx hb dX9_scores_375 ?_
                      refine lv_topv (v := nI (841 + 8 * (s - 1) + 1)) ((nI_add _ _)) ?_
                      refine lv_dup2_11 hx hb dX9_scores_376 rfl rfl ?_
                      refine g_iald C0 G k106 0 rfl (vp_in_nI (by omega) (by omega)) dX9_scores_377 ?_
                      refine lv_topv (v := (X9_scores_g35 g kind runs bnd i a bo s) (841 + 8 * (s - 1) + 1)) (congrArg (X9_scores_g35 g kind runs bnd i a bo s) (nI_c (by omega))) ?_
                      refine lv_iload hx hb dX9_scores_378 (lv_at hl 2 rfl) ?_
                      refine lv_iadd hx hb dX9_scores_380 ?_
                      refine g_iast C0 G k106 0 rfl (vp_in_nI (by omega) (by omega)) dX9_scores_381 (fun H locs f108 hf108 G => ?_)
                      have k109 : f108 v = some (.inl (cy 0, 6441, .inl (X9_scores_g37 g kind runs bnd i a bo s))) := (by have h9 := hus hf108; rw [nI_c (by omega)] at h9; exact h9)
                      refine lv_iload hx hb dX9_scores_382 (lv_at hl 3 rfl) ?_
                      have J112 : ∀ (y111 : Nat → Int32) (_ : y111 = (X9_scores_g41 g kind runs bnd i a bo s)) (f113 : Hf) (H : Heap) (locs : List Loc) (ls : Array Slot), f113 v = some (.inl (cy 0, 6441, .inl y111)) → hFrL f108 f113 [v] → hG D (hA f sz) f113 s9 H locs → lv_has ls 11 [(10, .int (nI (841 + 8 * (s - 1)))), (9, .int (nI bo)), (8, .int (X9_scores_x5 kind)), (7, .int (X9_scores_x3 kind)), (6, .int (X9_scores_x1 kind runs)), (5, .int (nI a)), (4, .int (nI i)), (0, .ref m), (1, .int (nI kind)), (2, .int runs), (3, .int bnd)] → W p9 l e9 ({ frames := 1, cells := 0, slots := 0, locals := 22 } : Room) s9 m9 ([.ref m, .int (nI kind), .int runs, .int bnd] : List Value).toArray b9 t9 c9 H locs 0 0 (vx_MQ b9 (hQi (fun r u => r = (X9_scores_x1 kind runs) ∧ u v = some (.inl (cy 0, 6441, .inl (X9_scores_g44 g kind runs bnd i a bo s))) ∧ hFrL f u [v]) D f sz) (hPx hNo D f sz) ([.ref m, .int (nI kind), .int runs, .int bnd] : List Value).toArray s9 0 0 (hA f sz)) (F0 m9 418 ls []) := by
                        intro y111 ey111 f113 H locs ls k114 fr115 G hl
                        replace ey111 := Eq.symm ey111
                        subst ey111
                        refine lv_aload_n hx hb dX9_scores_418 rfl (lv_at hl 7 rfl) ?_
                        have k116 : f113 m = some (.inr (11, [.int c_th, .int c_re, .ref v, .ref im, .ref kp, .ref pa, .ref de, .ref ide, .int c_un, .int c_hi, .ref tx, .int c_tn, .int c_fa, .int c_rf, .ref pt, .int c_ps, .int c_pl, .int c_to, .ref so, .ref mo, .ref wh, .ref pf])) := fr115 _ _ (by simp only [List.mem_cons, List.not_mem_nil, or_false]; intro q; exact (hne (hup hf108 (hne k107 k106 (by intro q; cases q)) k107) k109 (by intro q; cases q)) q) (hup hf108 (hne k107 k106 (by intro q; cases q)) k107)
                        refine g_get C0 G k116 rfl hiX9 2 (by decide) mf_X9_9 rfl dX9_scores_419 ?_
                        refine lv_iload hx hb dX9_scores_422 (lv_at hl 0 rfl) ?_
                        refine lv_bipush (v := 6) hx hb dX9_scores_424 (by decide) ?_
                        refine lv_iadd hx hb dX9_scores_426 ?_
                        refine lv_topv (v := nI (841 + 8 * (s - 1) + 6)) ((nI_add _ _)) ?_
                        refine lv_dup2_11 hx hb dX9_scores_427 rfl rfl ?_
                        refine g_iald C0 G k114 0 rfl (vp_in_nI (by omega) (by omega)) dX9_scores_428 ?_
                        refine lv_topv (v := (X9_scores_g41 g kind runs bnd i a bo s) (841 + 8 * (s - 1) + 6)) (congrArg (X9_scores_g41 g kind runs bnd i a bo s) (nI_c (by omega))) ?_
                        refine lv_iload hx hb dX9_scores_429 (lv_at hl 3 rfl) ?_
                        have J119 : ∀ (y118 : Int32) (_ : y118 = (X9_scores_x42 kind runs)) (H : Heap) (locs : List Loc) (ls : Array Slot), hG D (hA f sz) f113 s9 H locs → lv_has ls 11 [(10, .int (nI (841 + 8 * (s - 1)))), (9, .int (nI bo)), (8, .int (X9_scores_x5 kind)), (7, .int (X9_scores_x3 kind)), (6, .int (X9_scores_x1 kind runs)), (5, .int (nI a)), (4, .int (nI i)), (0, .ref m), (1, .int (nI kind)), (2, .int runs), (3, .int bnd)] → W p9 l e9 ({ frames := 1, cells := 0, slots := 0, locals := 22 } : Room) s9 m9 ([.ref m, .int (nI kind), .int runs, .int bnd] : List Value).toArray b9 t9 c9 H locs 0 0 (vx_MQ b9 (hQi (fun r u => r = (X9_scores_x1 kind runs) ∧ u v = some (.inl (cy 0, 6441, .inl (X9_scores_g44 g kind runs bnd i a bo s))) ∧ hFrL f u [v]) D f sz) (hPx hNo D f sz) ([.ref m, .int (nI kind), .int runs, .int bnd] : List Value).toArray s9 0 0 (hA f sz)) (F0 m9 443 ls [.int y118, .int ((X9_scores_g41 g kind runs bnd i a bo s) (841 + 8 * (s - 1) + 6)), .int (nI (841 + 8 * (s - 1) + 6)), .ref v]) := by
                          intro y118 ey118 H locs ls G hl
                          replace ey118 := Eq.symm ey118
                          subst ey118
                          refine lv_iadd hx hb dX9_scores_443 ?_
                          refine g_iast C0 G k114 0 rfl (vp_in_nI (by omega) (by omega)) dX9_scores_444 (fun H locs f121 hf121 G => ?_)
                          have k122 : f121 v = some (.inl (cy 0, 6441, .inl (X9_scores_g44 g kind runs bnd i a bo s))) := (by have h9 := hus hf121; rw [nI_c (by omega)] at h9; exact h9)
                          refine lv_iload hx hb dX9_scores_445 (lv_at hl 4 rfl) ?_
                          exact g_iret C0 G hr dX9_scores_447 (Nat.le_of_ble_eq_true rfl) (Nat.le_of_ble_eq_true rfl) (by exact ⟨rfl, k122, (fun a9 e9 h7 h8 => hup hf121 (fun q => h7 (by rw [q]; simp)) (fr115 _ _ (fun q => h7 (by simp only [List.mem_cons, List.not_mem_nil, or_false] at q ⊢; first | exact q | (rcases q with q <;> simp [q]) | omega)) (hup hf108 (fun q => h7 (by rw [q]; simp)) (hup hf105 (fun q => h7 (by rw [q]; simp)) (hup hf102 (fun q => h7 (by rw [q]; simp)) (fr100 _ _ (fun q => h7 (by simp only [List.mem_cons, List.not_mem_nil, or_false] at q ⊢; first | exact q | (rcases q with q <;> simp [q]) | omega)) (hup hf93 (fun q => h7 (by rw [q]; simp)) (hup hf86 (fun q => h7 (by rw [q]; simp)) (hup hf76 (fun q => h7 (by rw [q]; simp)) (fr71 _ _ (fun q => h7 (by simp only [List.mem_cons, List.not_mem_nil, or_false] at q ⊢; first | exact q | (rcases q with q <;> simp [q]) | omega)) (hup hf64 (fun q => h7 (by rw [q]; simp)) (hup hf54 (fun q => h7 (by rw [q]; simp)) (fr45 _ _ (fun q => h7 (by simp only [List.mem_cons, List.not_mem_nil, or_false] at q ⊢; first | exact q | (rcases q with q <;> simp [q]) | omega)) (hup hf38 (fun q => h7 (by rw [q]; simp)) (hup hf32 (fun q => h7 (by rw [q]; simp)) (hup hf26 (fun q => h7 (by rw [q]; simp)) (h8)))))))))))))))))⟩)
                        refine lv_if_eq (tgt := 441) hx hb dX9_scores_431 (by decide) (fun c117 => ?_) (fun c117 => ?_)
                        · refine lv_iload hx hb dX9_scores_441 (lv_at hl 4 rfl) ?_
                          exact J119 (X9_scores_x1 kind runs) (by rw [X9_scores_x42, if_pos c117]) _ _ _ G (lv_sub hl [0, 1, 2, 3, 4, 5, 6, 7, 8, 9, 10] rfl)
                        · refine lv_iload hx hb dX9_scores_434 (lv_at hl 4 rfl) ?_
                          refine lv_iload_n hx hb dX9_scores_436 rfl (lv_at hl 9 rfl) ?_
                          refine lv_isub hx hb dX9_scores_437 ?_
                          refine lv_goto (tgt := 443) hx hb dX9_scores_438 (by decide) ?_
                          exact J119 ((X9_scores_x1 kind runs) - runs) (by rw [X9_scores_x42, if_neg c117]) _ _ _ G (lv_sub hl [0, 1, 2, 3, 4, 5, 6, 7, 8, 9, 10] rfl)
                      refine lv_if_eq (tgt := 418) hx hb dX9_scores_384 (by decide) (fun c110 => ?_) (fun c110 => ?_)
                      · exact J112 (X9_scores_g37 g kind runs bnd i a bo s) (by rw [X9_scores_g41, if_pos c110]) f108 _ _ _ k109 (fun a9 e9 h7 h8 => h8) G (lv_sub hl [0, 1, 2, 3, 4, 5, 6, 7, 8, 9, 10] rfl)
                      · refine lv_aload_n hx hb dX9_scores_387 rfl (lv_at hl 7 rfl) ?_
                        have k123 : f108 m = some (.inr (11, [.int c_th, .int c_re, .ref v, .ref im, .ref kp, .ref pa, .ref de, .ref ide, .int c_un, .int c_hi, .ref tx, .int c_tn, .int c_fa, .int c_rf, .ref pt, .int c_ps, .int c_pl, .int c_to, .ref so, .ref mo, .ref wh, .ref pf])) := hup hf108 (hne k107 k106 (by intro q; cases q)) k107
                        refine g_get C0 G k123 rfl hiX9 2 (by decide) mf_X9_9 rfl dX9_scores_388 ?_
                        refine lv_iload hx hb dX9_scores_391 (lv_at hl 0 rfl) ?_
                        refine lv_aload_n hx hb dX9_scores_393 rfl (lv_at hl 7 rfl) ?_
                        refine g_get C0 G k123 rfl hiX9 2 (by decide) mf_X9_9 rfl dX9_scores_394 ?_
                        refine lv_iload hx hb dX9_scores_397 (lv_at hl 0 rfl) ?_
                        refine lv_iconst (v := 2) hx hb dX9_scores_399 (by decide) ?_
                        refine lv_iadd hx hb dX9_scores_400 ?_
                        refine lv_topv (v := nI (841 + 8 * (s - 1) + 2)) ((nI_add _ _)) ?_
                        refine g_iald C0 G k109 0 rfl (vp_in_nI (by omega) (by omega)) dX9_scores_401 ?_
                        refine lv_topv (v := (X9_scores_g37 g kind runs bnd i a bo s) (841 + 8 * (s - 1) + 2)) (congrArg (X9_scores_g37 g kind runs bnd i a bo s) (nI_c (by omega))) ?_
                        refine lv_iload hx hb dX9_scores_402 (lv_at hl 5 rfl) ?_
                        have J126 : ∀ (y125 : Int32) (_ : y125 = nI (X9_scores_n38 g kind runs bnd i a bo s)) (H : Heap) (locs : List Loc) (ls : Array Slot), hG D (hA f sz) f108 s9 H locs → lv_has ls 11 [(10, .int (nI (841 + 8 * (s - 1)))), (9, .int (nI bo)), (8, .int (X9_scores_x5 kind)), (7, .int (X9_scores_x3 kind)), (6, .int (X9_scores_x1 kind runs)), (5, .int (nI a)), (4, .int (nI i)), (0, .ref m), (1, .int (nI kind)), (2, .int runs), (3, .int bnd)] → W p9 l e9 ({ frames := 1, cells := 0, slots := 0, locals := 22 } : Room) s9 m9 ([.ref m, .int (nI kind), .int runs, .int bnd] : List Value).toArray b9 t9 c9 H locs 0 0 (vx_MQ b9 (hQi (fun r u => r = (X9_scores_x1 kind runs) ∧ u v = some (.inl (cy 0, 6441, .inl (X9_scores_g44 g kind runs bnd i a bo s))) ∧ hFrL f u [v]) D f sz) (hPx hNo D f sz) ([.ref m, .int (nI kind), .int runs, .int bnd] : List Value).toArray s9 0 0 (hA f sz)) (F0 m9 412 ls [.int y125, .int (nI (841 + 8 * (s - 1))), .ref v]) := by
                          intro y125 ey125 H locs ls G hl
                          replace ey125 := Eq.symm ey125
                          subst ey125
                          have bd128 : (X9_scores_n38 g kind runs bnd i a bo s) ≤ 5 := by unfold X9_scores_n38; repeat (first | omega | split)
                          refine lv_iadd hx hb dX9_scores_412 ?_
                          refine lv_topv (v := nI (841 + 8 * (s - 1) + X9_scores_n38 g kind runs bnd i a bo s)) ((nI_add _ _)) ?_
                          refine lv_dup2_11 hx hb dX9_scores_413 rfl rfl ?_
                          refine g_iald C0 G k109 0 rfl (vp_in_nI (by omega) (by omega)) dX9_scores_414 ?_
                          refine lv_topv (v := (X9_scores_g37 g kind runs bnd i a bo s) (841 + 8 * (s - 1) + X9_scores_n38 g kind runs bnd i a bo s)) (congrArg (X9_scores_g37 g kind runs bnd i a bo s) (nI_c (by omega))) ?_
                          refine lv_iload_n hx hb dX9_scores_415 rfl (lv_at hl 9 rfl) ?_
                          refine lv_iadd hx hb dX9_scores_416 ?_
                          refine g_iast C0 G k109 0 rfl (vp_in_nI (by omega) (by omega)) dX9_scores_417 (fun H locs f129 hf129 G => ?_)
                          have k130 : f129 v = some (.inl (cy 0, 6441, .inl (X9_scores_g40 g kind runs bnd i a bo s))) := (by have h9 := hus hf129; rw [nI_c (by omega)] at h9; exact h9)
                          exact J112 (X9_scores_g40 g kind runs bnd i a bo s) (by rw [X9_scores_g41, if_neg c110]) f129 _ _ _ k130 (fun a9 e9 h7 h8 => hup hf129 (fun q => h7 (by rw [q]; simp)) (h8)) G (lv_sub hl [0, 1, 2, 3, 4, 5, 6, 7, 8, 9, 10] rfl)
                        refine lv_icmp_ne (tgt := 411) hx hb dX9_scores_404 (by decide) (fun c124 => ?_) (fun c124 => ?_)
                        · refine lv_iconst (v := 5) hx hb dX9_scores_411 (by decide) ?_
                          exact J126 5 (by rw [X9_scores_n38, if_neg c124] <;> rfl) _ _ _ G (lv_sub hl [0, 1, 2, 3, 4, 5, 6, 7, 8, 9, 10] rfl)
                        · refine lv_iconst (v := 4) hx hb dX9_scores_407 (by decide) ?_
                          refine lv_goto (tgt := 412) hx hb dX9_scores_408 (by decide) ?_
                          exact J126 4 (by rw [X9_scores_n38, if_pos c124] <;> rfl) _ _ _ G (lv_sub hl [0, 1, 2, 3, 4, 5, 6, 7, 8, 9, 10] rfl)
                    refine lv_if_ne (tgt := 326) hx hb dX9_scores_304 (by decide) (fun c95 => ?_) (fun c95 => ?_)
                    · exact J97 (X9_scores_g29 g kind runs bnd i a bo) (by rw [X9_scores_g32, if_neg c95]) f93 _ _ _ k94 (fun a9 e9 h7 h8 => h8) G (lv_sub hl [0, 1, 2, 3, 4, 5, 6, 7, 8, 9] rfl)
                    · refine lv_aload_n hx hb dX9_scores_307 rfl (lv_at hl 6 rfl) ?_
                      have k131 : f93 m = some (.inr (11, [.int c_th, .int c_re, .ref v, .ref im, .ref kp, .ref pa, .ref de, .ref ide, .int c_un, .int c_hi, .ref tx, .int c_tn, .int c_fa, .int c_rf, .ref pt, .int c_ps, .int c_pl, .int c_to, .ref so, .ref mo, .ref wh, .ref pf])) := hup hf93 (hne k88 k87 (by intro q; cases q)) k88
                      refine g_get C0 G k131 rfl hiX9 2 (by decide) mf_X9_9 rfl dX9_scores_308 ?_
                      refine lv_iload hx hb dX9_scores_311 (lv_at hl 5 rfl) ?_
                      refine lv_iload hx hb dX9_scores_313 (lv_at hl 0 rfl) ?_
                      refine lv_iconst (v := 3) hx hb dX9_scores_315 (by decide) ?_
                      refine lv_iload_n hx hb dX9_scores_316 rfl (lv_at hl 7 rfl) ?_
                      refine lv_iadd hx hb dX9_scores_317 ?_
                      refine lv_topv (v := nI (3 + kind)) ((nI_add _ _)) ?_
                      refine g_cI C0 G (g_runS C0 G (rest := [.ref v]) (k_X9_bowlerAt hfl (nI i) (nI bo) (nI (3 + kind)) ) hY_X9_bowlerAt mm_X9_105 ms_X9_bowlerAt ⟨(Nat.le_of_ble_eq_true rfl), (Nat.le_of_ble_eq_true rfl)⟩ rfl hl.1 rfl (Nat.le_of_ble_eq_true rfl) dX9_scores_318 ⟨(Nat.le_of_ble_eq_true rfl), (Nat.le_of_ble_eq_true rfl)⟩) (kx_no rfl) (fun r134 u133 H locs hp132 G => ?_)
                      obtain ⟨zr, eu133⟩ := hp132
                      replace zr := Eq.symm zr
                      subst zr
                      rw [eu133] at G
                      refine lv_topv (v := nI (333 + 7 * (11 * i + bo) + (3 + kind))) (bow_n i bo (3 + kind)) ?_
                      refine lv_dup2_11 hx hb dX9_scores_321 rfl rfl ?_
                      refine g_iald C0 G k94 0 rfl (vp_in_nI (by omega) (by omega)) dX9_scores_322 ?_
                      refine lv_topv (v := (X9_scores_g29 g kind runs bnd i a bo) (333 + 7 * (11 * i + bo) + (3 + kind))) (congrArg (X9_scores_g29 g kind runs bnd i a bo) (nI_c (by omega))) ?_
                      refine lv_iconst (v := 1) hx hb dX9_scores_323 (by decide) ?_
                      refine lv_iadd hx hb dX9_scores_324 ?_
                      refine g_iast C0 G k94 0 rfl (vp_in_nI (by omega) (by omega)) dX9_scores_325 (fun H locs f135 hf135 G => ?_)
                      have k136 : f135 v = some (.inl (cy 0, 6441, .inl (X9_scores_g31 g kind runs bnd i a bo))) := (by have h9 := hus hf135; rw [nI_c (by omega)] at h9; exact h9)
                      exact J97 (X9_scores_g31 g kind runs bnd i a bo) (by rw [X9_scores_g32, if_pos c95]) f135 _ _ _ k136 (fun a9 e9 h7 h8 => hup hf135 (fun q => h7 (by rw [q]; simp)) (h8)) G (lv_sub hl [0, 1, 2, 3, 4, 5, 6, 7, 8, 9] rfl)
                  refine lv_icmp_ge (tgt := 299) hx hb dX9_scores_291 (by decide) (fun c89 => ?_) (fun c89 => ?_)
                  · have n137 : 3 ≤ kind := (nI_leI (a := 3) (b := kind) (by omega) (by omega)).mp c89
                    refine lv_iconst (v := 0) hx hb dX9_scores_299 (by decide) ?_
                    exact J91 0 (by rw [X9_scores_x25, if_pos c89]) _ _ _ G (lv_sub hl [0, 1, 2, 3, 4, 5, 6, 7, 8, 9] rfl)
                  · have n138 : ¬ 3 ≤ kind := fun q => c89 ((nI_leI (a := 3) (b := kind) (by omega) (by omega)).mpr q)
                    refine lv_iload hx hb dX9_scores_294 (lv_at hl 3 rfl) ?_
                    refine lv_goto (tgt := 300) hx hb dX9_scores_296 (by decide) ?_
                    exact J91 (X9_scores_x1 kind runs) (by rw [X9_scores_x25, if_neg c89]) _ _ _ G (lv_sub hl [0, 1, 2, 3, 4, 5, 6, 7, 8, 9] rfl)
                refine lv_icmp_ge (tgt := 278) hx hb dX9_scores_270 (by decide) (fun c82 => ?_) (fun c82 => ?_)
                · have n139 : 3 ≤ kind := (nI_leI (a := 3) (b := kind) (by omega) (by omega)).mp c82
                  refine lv_iconst (v := 0) hx hb dX9_scores_278 (by decide) ?_
                  exact J84 0 (by rw [X9_scores_x25, if_pos c82]) _ _ _ G (lv_sub hl [0, 1, 2, 3, 4, 5, 6, 7, 8, 9] rfl)
                · have n140 : ¬ 3 ≤ kind := fun q => c82 ((nI_leI (a := 3) (b := kind) (by omega) (by omega)).mpr q)
                  refine lv_iload hx hb dX9_scores_273 (lv_at hl 3 rfl) ?_
                  refine lv_goto (tgt := 279) hx hb dX9_scores_275 (by decide) ?_
                  exact J84 (X9_scores_x1 kind runs) (by rw [X9_scores_x25, if_neg c82]) _ _ _ G (lv_sub hl [0, 1, 2, 3, 4, 5, 6, 7, 8, 9] rfl)
              refine lv_if_eq (tgt := 227) hx hb dX9_scores_198 (by decide) (fun c66 => ?_) (fun c66 => ?_)
              · exact J68 (X9_scores_g18 g kind runs i a) (by rw [X9_scores_g22, if_pos c66]) f64 _ _ _ k65 (fun a9 e9 h7 h8 => h8) G (lv_sub hl [0, 1, 2, 3, 4, 5, 6, 7, 8] rfl)
              · refine lv_aload_n hx hb dX9_scores_201 rfl (lv_at hl 5 rfl) ?_
                have k141 : f64 m = some (.inr (11, [.int c_th, .int c_re, .ref v, .ref im, .ref kp, .ref pa, .ref de, .ref ide, .int c_un, .int c_hi, .ref tx, .int c_tn, .int c_fa, .int c_rf, .ref pt, .int c_ps, .int c_pl, .int c_to, .ref so, .ref mo, .ref wh, .ref pf])) := hup hf64 (hne k56 k55 (by intro q; cases q)) k56
                refine g_get C0 G k141 rfl hiX9 2 (by decide) mf_X9_9 rfl dX9_scores_202 ?_
                refine lv_iload hx hb dX9_scores_205 (lv_at hl 4 rfl) ?_
                refine lv_iload hx hb dX9_scores_207 (lv_at hl 3 rfl) ?_
                refine lv_iload_n hx hb dX9_scores_209 rfl (lv_at hl 7 rfl) ?_
                refine lv_iconst (v := 4) hx hb dX9_scores_210 (by decide) ?_
                have J144 : ∀ (y143 : Int32) (_ : y143 = nI (X9_scores_n19 runs)) (H : Heap) (locs : List Loc) (ls : Array Slot), hG D (hA f sz) f64 s9 H locs → lv_has ls 11 [(8, .int (X9_scores_x5 kind)), (7, .int (X9_scores_x3 kind)), (6, .int (X9_scores_x1 kind runs)), (5, .int (nI a)), (4, .int (nI i)), (0, .ref m), (1, .int (nI kind)), (2, .int runs), (3, .int bnd)] → W p9 l e9 ({ frames := 1, cells := 0, slots := 0, locals := 22 } : Room) s9 m9 ([.ref m, .int (nI kind), .int runs, .int bnd] : List Value).toArray b9 t9 c9 H locs 0 0 (vx_MQ b9 (hQi (fun r u => r = (X9_scores_x1 kind runs) ∧ u v = some (.inl (cy 0, 6441, .inl (X9_scores_g44 g kind runs bnd i a bo s))) ∧ hFrL f u [v]) D f sz) (hPx hNo D f sz) ([.ref m, .int (nI kind), .int runs, .int bnd] : List Value).toArray s9 0 0 (hA f sz)) (F0 m9 219 ls [.int y143, .int (nI a), .int (nI i), .ref v]) := by
                  intro y143 ey143 H locs ls G hl
                  replace ey143 := Eq.symm ey143
                  subst ey143
                  have bd146 : (X9_scores_n19 runs) ≤ 3 := by unfold X9_scores_n19; repeat (first | omega | split)
                  refine g_cI C0 G (g_runS C0 G (rest := [.ref v]) (k_X9_batterAt hfl (nI i) (nI a) (nI (X9_scores_n19 runs)) ) hY_X9_batterAt mm_X9_65 ms_X9_batterAt ⟨(Nat.le_of_ble_eq_true rfl), (Nat.le_of_ble_eq_true rfl)⟩ rfl hl.1 rfl (Nat.le_of_ble_eq_true rfl) dX9_scores_219 ⟨(Nat.le_of_ble_eq_true rfl), (Nat.le_of_ble_eq_true rfl)⟩) (kx_no rfl) (fun r149 u148 H locs hp147 G => ?_)
                  obtain ⟨zr, eu148⟩ := hp147
                  replace zr := Eq.symm zr
                  subst zr
                  rw [eu148] at G
                  refine lv_topv (v := nI (69 + 6 * (11 * i + a) + (X9_scores_n19 runs))) (bat_n i a (X9_scores_n19 runs)) ?_
                  refine lv_dup2_11 hx hb dX9_scores_222 rfl rfl ?_
                  refine g_iald C0 G k65 0 rfl (vp_in_nI (by omega) (by omega)) dX9_scores_223 ?_
                  refine lv_topv (v := (X9_scores_g18 g kind runs i a) (69 + 6 * (11 * i + a) + (X9_scores_n19 runs))) (congrArg (X9_scores_g18 g kind runs i a) (nI_c (by omega))) ?_
                  refine lv_iconst (v := 1) hx hb dX9_scores_224 (by decide) ?_
                  refine lv_iadd hx hb dX9_scores_225 ?_
                  refine g_iast C0 G k65 0 rfl (vp_in_nI (by omega) (by omega)) dX9_scores_226 (fun H locs f150 hf150 G => ?_)
                  have k151 : f150 v = some (.inl (cy 0, 6441, .inl (X9_scores_g21 g kind runs i a))) := (by have h9 := hus hf150; rw [nI_c (by omega)] at h9; exact h9)
                  exact J68 (X9_scores_g21 g kind runs i a) (by rw [X9_scores_g22, if_neg c66]) f150 _ _ _ k151 (fun a9 e9 h7 h8 => hup hf150 (fun q => h7 (by rw [q]; simp)) (h8)) G (lv_sub hl [0, 1, 2, 3, 4, 5, 6, 7, 8] rfl)
                refine lv_icmp_ne (tgt := 218) hx hb dX9_scores_211 (by decide) (fun c142 => ?_) (fun c142 => ?_)
                · refine lv_iconst (v := 3) hx hb dX9_scores_218 (by decide) ?_
                  exact J144 3 (by rw [X9_scores_n19, if_neg c142] <;> rfl) _ _ _ G (lv_sub hl [0, 1, 2, 3, 4, 5, 6, 7, 8] rfl)
                · refine lv_iconst (v := 2) hx hb dX9_scores_214 (by decide) ?_
                  refine lv_goto (tgt := 219) hx hb dX9_scores_215 (by decide) ?_
                  exact J144 2 (by rw [X9_scores_n19, if_pos c142] <;> rfl) _ _ _ G (lv_sub hl [0, 1, 2, 3, 4, 5, 6, 7, 8] rfl)
            refine lv_if_eq (tgt := 194) hx hb dX9_scores_187 (by decide) (fun c60 => ?_) (fun c60 => ?_)
            · refine lv_iconst (v := 0) hx hb dX9_scores_194 (by decide) ?_
              exact J62 0 (by rw [X9_scores_x16, if_pos c60]) _ _ _ G (lv_sub hl [0, 1, 2, 3, 4, 5, 6, 7, 8] rfl)
            · refine lv_iload_n hx hb dX9_scores_190 rfl (lv_at hl 7 rfl) ?_
              refine lv_goto (tgt := 195) hx hb dX9_scores_191 (by decide) ?_
              exact J62 runs (by rw [X9_scores_x16, if_neg c60]) _ _ _ G (lv_sub hl [0, 1, 2, 3, 4, 5, 6, 7, 8] rfl)
          refine lv_icmp_ne (tgt := 168) hx hb dX9_scores_161 (by decide) (fun c50 => ?_) (fun c50 => ?_)
          · have n152 : ¬ kind = 1 := fun q => c50 ((nI_eq (a := kind) (b := 1) (by omega) (by omega)).mpr q)
            refine lv_iconst (v := 1) hx hb dX9_scores_168 (by decide) ?_
            exact J52 1 (by rw [X9_scores_x13, if_neg c50]) _ _ _ G (lv_sub hl [0, 1, 2, 3, 4, 5, 6, 7, 8] rfl)
          · have n153 : kind = 1 := (nI_eq (a := kind) (b := 1) (by omega) (by omega)).mp c50
            refine lv_iconst (v := 0) hx hb dX9_scores_164 (by decide) ?_
            refine lv_goto (tgt := 169) hx hb dX9_scores_165 (by decide) ?_
            exact J52 0 (by rw [X9_scores_x13, if_pos c50]) _ _ _ G (lv_sub hl [0, 1, 2, 3, 4, 5, 6, 7, 8] rfl)
        refine lv_if_le (tgt := 145) hx hb dX9_scores_115 (by decide) (fun c40 => ?_) (fun c40 => ?_)
        · have n154 : kind ≤ 0 := (nI_leI (a := kind) (b := 0) (by omega) (by omega)).mp c40
          exact J42 (X9_scores_g8 g kind runs i) (by rw [X9_scores_g12, if_pos c40]) f38 _ _ _ k39 (fun a9 e9 h7 h8 => h8) G (lv_sub hl [0, 1, 2, 3, 4, 5, 6, 7, 8] rfl)
        · have n155 : ¬ kind ≤ 0 := fun q => c40 ((nI_leI (a := kind) (b := 0) (by omega) (by omega)).mpr q)
          refine lv_aload_n hx hb dX9_scores_118 rfl (lv_at hl 5 rfl) ?_
          have k156 : f38 m = some (.inr (11, [.int c_th, .int c_re, .ref v, .ref im, .ref kp, .ref pa, .ref de, .ref ide, .int c_un, .int c_hi, .ref tx, .int c_tn, .int c_fa, .int c_rf, .ref pt, .int c_ps, .int c_pl, .int c_to, .ref so, .ref mo, .ref wh, .ref pf])) := hup hf38 (hne k34 k33 (by intro q; cases q)) k34
          refine g_get C0 G k156 rfl hiX9 2 (by decide) mf_X9_9 rfl dX9_scores_119 ?_
          refine lv_iload hx hb dX9_scores_122 (lv_at hl 4 rfl) ?_
          refine lv_iconst (v := 2) hx hb dX9_scores_124 (by decide) ?_
          refine lv_iload_n hx hb dX9_scores_125 rfl (lv_at hl 6 rfl) ?_
          refine lv_iadd hx hb dX9_scores_126 ?_
          refine lv_topv (v := nI (2 + kind)) ((nI_add _ _)) ?_
          refine g_cI C0 G (g_runS C0 G (rest := [.ref v]) (k_X9_at hfl (nI i) (nI (2 + kind)) ) hY_X9_at mm_X9_62 ms_X9_at ⟨(Nat.le_of_ble_eq_true rfl), (Nat.le_of_ble_eq_true rfl)⟩ rfl hl.1 rfl (Nat.le_of_ble_eq_true rfl) dX9_scores_127 ⟨(Nat.le_of_ble_eq_true rfl), (Nat.le_of_ble_eq_true rfl)⟩) (kx_no rfl) (fun r159 u158 H locs hp157 G => ?_)
          obtain ⟨zr, eu158⟩ := hp157
          replace zr := Eq.symm zr
          subst zr
          rw [eu158] at G
          refine lv_topv (v := nI (25 + 11 * i + (2 + kind))) (at_n i (2 + kind)) ?_
          refine lv_dup2_11 hx hb dX9_scores_130 rfl rfl ?_
          refine g_iald C0 G k39 0 rfl (vp_in_nI (by omega) (by omega)) dX9_scores_131 ?_
          refine lv_topv (v := (X9_scores_g8 g kind runs i) (25 + 11 * i + (2 + kind))) (congrArg (X9_scores_g8 g kind runs i) (nI_c (by omega))) ?_
          refine lv_iload_n hx hb dX9_scores_132 rfl (lv_at hl 6 rfl) ?_
          refine lv_iconst (v := 2) hx hb dX9_scores_133 (by decide) ?_
          have J162 : ∀ (y161 : Int32) (_ : y161 = (X9_scores_x9 kind runs)) (H : Heap) (locs : List Loc) (ls : Array Slot), hG D (hA f sz) f38 s9 H locs → lv_has ls 11 [(8, .int (X9_scores_x5 kind)), (7, .int (X9_scores_x3 kind)), (6, .int (X9_scores_x1 kind runs)), (5, .int (nI a)), (4, .int (nI i)), (0, .ref m), (1, .int (nI kind)), (2, .int runs), (3, .int bnd)] → W p9 l e9 ({ frames := 1, cells := 0, slots := 0, locals := 22 } : Room) s9 m9 ([.ref m, .int (nI kind), .int runs, .int bnd] : List Value).toArray b9 t9 c9 H locs 0 0 (vx_MQ b9 (hQi (fun r u => r = (X9_scores_x1 kind runs) ∧ u v = some (.inl (cy 0, 6441, .inl (X9_scores_g44 g kind runs bnd i a bo s))) ∧ hFrL f u [v]) D f sz) (hPx hNo D f sz) ([.ref m, .int (nI kind), .int runs, .int bnd] : List Value).toArray s9 0 0 (hA f sz)) (F0 m9 143 ls [.int y161, .int ((X9_scores_g8 g kind runs i) (25 + 11 * i + (2 + kind))), .int (nI (25 + 11 * i + (2 + kind))), .ref v]) := by
            intro y161 ey161 H locs ls G hl
            replace ey161 := Eq.symm ey161
            subst ey161
            refine lv_iadd hx hb dX9_scores_143 ?_
            refine g_iast C0 G k39 0 rfl (vp_in_nI (by omega) (by omega)) dX9_scores_144 (fun H locs f164 hf164 G => ?_)
            have k165 : f164 v = some (.inl (cy 0, 6441, .inl (X9_scores_g11 g kind runs i))) := (by have h9 := hus hf164; rw [nI_c (by omega)] at h9; exact h9)
            exact J42 (X9_scores_g11 g kind runs i) (by rw [X9_scores_g12, if_neg c40]) f164 _ _ _ k165 (fun a9 e9 h7 h8 => hup hf164 (fun q => h7 (by rw [q]; simp)) (h8)) G (lv_sub hl [0, 1, 2, 3, 4, 5, 6, 7, 8] rfl)
          refine lv_icmp_ne (tgt := 141) hx hb dX9_scores_134 (by decide) (fun c160 => ?_) (fun c160 => ?_)
          · have n166 : ¬ kind = 2 := fun q => c160 ((nI_eq (a := kind) (b := 2) (by omega) (by omega)).mpr q)
            refine lv_iload hx hb dX9_scores_141 (lv_at hl 2 rfl) ?_
            exact J162 (X9_scores_x1 kind runs) (by rw [X9_scores_x9, if_neg c160]) _ _ _ G (lv_sub hl [0, 1, 2, 3, 4, 5, 6, 7, 8] rfl)
          · have n167 : kind = 2 := (nI_eq (a := kind) (b := 2) (by omega) (by omega)).mp c160
            refine lv_iconst (v := 1) hx hb dX9_scores_137 (by decide) ?_
            refine lv_goto (tgt := 143) hx hb dX9_scores_138 (by decide) ?_
            exact J162 1 (by rw [X9_scores_x9, if_pos c160]) _ _ _ G (lv_sub hl [0, 1, 2, 3, 4, 5, 6, 7, 8] rfl)
      refine lv_icmp_eq (tgt := 62) hx hb dX9_scores_54 (by decide) (fun c19 => ?_) (fun c19 => ?_)
      · have n168 : kind = 1 := (nI_eq (a := kind) (b := 1) (by omega) (by omega)).mp c19
        refine lv_iconst (v := 0) hx hb dX9_scores_62 (by decide) ?_
        refine lv_goto (tgt := 67) hx hb dX9_scores_63 (by decide) ?_
        exact J21 0 (by rw [X9_scores_x5, if_pos c19]) _ _ _ G (lv_sub hl [0, 1, 2, 3, 4, 5, 6, 7] rfl)
      · have n169 : ¬ kind = 1 := fun q => c19 ((nI_eq (a := kind) (b := 1) (by omega) (by omega)).mpr q)
        refine lv_iload_n hx hb dX9_scores_57 rfl (lv_at hl 5 rfl) ?_
        refine lv_iconst (v := 2) hx hb dX9_scores_58 (by decide) ?_
        have J172 : ∀ (y171 : Int32) (_ : y171 = (X9_scores_x4 kind)) (H : Heap) (locs : List Loc) (ls : Array Slot), hG D (hA f sz) f s9 H locs → lv_has ls 11 [(7, .int (X9_scores_x3 kind)), (6, .int (X9_scores_x1 kind runs)), (5, .int (nI a)), (4, .int (nI i)), (0, .ref m), (1, .int (nI kind)), (2, .int runs), (3, .int bnd)] → W p9 l e9 ({ frames := 1, cells := 0, slots := 0, locals := 22 } : Room) s9 m9 ([.ref m, .int (nI kind), .int runs, .int bnd] : List Value).toArray b9 t9 c9 H locs 0 0 (vx_MQ b9 (hQi (fun r u => r = (X9_scores_x1 kind runs) ∧ u v = some (.inl (cy 0, 6441, .inl (X9_scores_g44 g kind runs bnd i a bo s))) ∧ hFrL f u [v]) D f sz) (hPx hNo D f sz) ([.ref m, .int (nI kind), .int runs, .int bnd] : List Value).toArray s9 0 0 (hA f sz)) (F0 m9 67 ls [.int y171]) := by
          intro y171 ey171 H locs ls G hl
          replace ey171 := Eq.symm ey171
          subst ey171
          exact J21 (X9_scores_x4 kind) (by rw [X9_scores_x5, if_neg c19]) _ _ _ G (lv_sub hl [0, 1, 2, 3, 4, 5, 6, 7] rfl)
        refine lv_icmp_ne (tgt := 66) hx hb dX9_scores_59 (by decide) (fun c170 => ?_) (fun c170 => ?_)
        · have n174 : ¬ kind = 2 := fun q => c170 ((nI_eq (a := kind) (b := 2) (by omega) (by omega)).mpr q)
          refine lv_iconst (v := 1) hx hb dX9_scores_66 (by decide) ?_
          exact J172 1 (by rw [X9_scores_x4, if_neg c170]) _ _ _ G (lv_sub hl [0, 1, 2, 3, 4, 5, 6, 7] rfl)
        · have n175 : kind = 2 := (nI_eq (a := kind) (b := 2) (by omega) (by omega)).mp c170
          refine lv_iconst (v := 0) hx hb dX9_scores_62 (by decide) ?_
          refine lv_goto (tgt := 67) hx hb dX9_scores_63 (by decide) ?_
          exact J172 0 (by rw [X9_scores_x4, if_pos c170]) _ _ _ G (lv_sub hl [0, 1, 2, 3, 4, 5, 6, 7] rfl)
    refine lv_if_eq (tgt := 45) hx hb dX9_scores_37 (by decide) (fun c15 => ?_) (fun c15 => ?_)
    · have n176 : kind = 0 := (nI_eq (a := kind) (b := 0) (by omega) (by omega)).mp c15
      refine lv_iconst (v := 1) hx hb dX9_scores_45 (by decide) ?_
      refine lv_goto (tgt := 50) hx hb dX9_scores_46 (by decide) ?_
      exact J17 1 (by rw [X9_scores_x3, if_pos c15]) _ _ _ G (lv_sub hl [0, 1, 2, 3, 4, 5, 6] rfl)
    · have n177 : ¬ kind = 0 := fun q => c15 ((nI_eq (a := kind) (b := 0) (by omega) (by omega)).mpr q)
      refine lv_iload_n hx hb dX9_scores_40 rfl (lv_at hl 4 rfl) ?_
      refine lv_iconst (v := 2) hx hb dX9_scores_41 (by decide) ?_
      have J180 : ∀ (y179 : Int32) (_ : y179 = (X9_scores_x2 kind)) (H : Heap) (locs : List Loc) (ls : Array Slot), hG D (hA f sz) f s9 H locs → lv_has ls 11 [(6, .int (X9_scores_x1 kind runs)), (5, .int (nI a)), (4, .int (nI i)), (0, .ref m), (1, .int (nI kind)), (2, .int runs), (3, .int bnd)] → W p9 l e9 ({ frames := 1, cells := 0, slots := 0, locals := 22 } : Room) s9 m9 ([.ref m, .int (nI kind), .int runs, .int bnd] : List Value).toArray b9 t9 c9 H locs 0 0 (vx_MQ b9 (hQi (fun r u => r = (X9_scores_x1 kind runs) ∧ u v = some (.inl (cy 0, 6441, .inl (X9_scores_g44 g kind runs bnd i a bo s))) ∧ hFrL f u [v]) D f sz) (hPx hNo D f sz) ([.ref m, .int (nI kind), .int runs, .int bnd] : List Value).toArray s9 0 0 (hA f sz)) (F0 m9 50 ls [.int y179]) := by
        intro y179 ey179 H locs ls G hl
        replace ey179 := Eq.symm ey179
        subst ey179
        exact J17 (X9_scores_x2 kind) (by rw [X9_scores_x3, if_neg c15]) _ _ _ G (lv_sub hl [0, 1, 2, 3, 4, 5, 6] rfl)
      refine lv_icmp_ne (tgt := 49) hx hb dX9_scores_42 (by decide) (fun c178 => ?_) (fun c178 => ?_)
      · have n182 : ¬ kind = 2 := fun q => c178 ((nI_eq (a := kind) (b := 2) (by omega) (by omega)).mpr q)
        refine lv_iconst (v := 0) hx hb dX9_scores_49 (by decide) ?_
        exact J180 0 (by rw [X9_scores_x2, if_neg c178]) _ _ _ G (lv_sub hl [0, 1, 2, 3, 4, 5, 6] rfl)
      · have n183 : kind = 2 := (nI_eq (a := kind) (b := 2) (by omega) (by omega)).mp c178
        refine lv_iconst (v := 1) hx hb dX9_scores_45 (by decide) ?_
        refine lv_goto (tgt := 50) hx hb dX9_scores_46 (by decide) ?_
        exact J180 1 (by rw [X9_scores_x2, if_pos c178]) _ _ _ G (lv_sub hl [0, 1, 2, 3, 4, 5, 6] rfl)
  refine lv_icmp_eq (tgt := 27) hx hb dX9_scores_19 (by decide) (fun c11 => ?_) (fun c11 => ?_)
  · have n184 : kind = 1 := (nI_eq (a := kind) (b := 1) (by omega) (by omega)).mp c11
    refine lv_iload_n hx hb dX9_scores_27 rfl (lv_at hl 4 rfl) ?_
    refine lv_iconst (v := 1) hx hb dX9_scores_28 (by decide) ?_
    refine lv_iadd hx hb dX9_scores_29 ?_
    refine lv_goto (tgt := 34) hx hb dX9_scores_30 (by decide) ?_
    exact J13 (runs + 1) (by rw [X9_scores_x1, if_pos c11]) _ _ _ G (lv_sub hl [0, 1, 2, 3, 4, 5] rfl)
  · have n185 : ¬ kind = 1 := fun q => c11 ((nI_eq (a := kind) (b := 1) (by omega) (by omega)).mpr q)
    refine lv_iload_n hx hb dX9_scores_22 rfl (lv_at hl 3 rfl) ?_
    refine lv_iconst (v := 2) hx hb dX9_scores_23 (by decide) ?_
    have J188 : ∀ (y187 : Int32) (_ : y187 = (X9_scores_x0 kind runs)) (H : Heap) (locs : List Loc) (ls : Array Slot), hG D (hA f sz) f s9 H locs → lv_has ls 11 [(5, .int (nI a)), (4, .int (nI i)), (0, .ref m), (1, .int (nI kind)), (2, .int runs), (3, .int bnd)] → W p9 l e9 ({ frames := 1, cells := 0, slots := 0, locals := 22 } : Room) s9 m9 ([.ref m, .int (nI kind), .int runs, .int bnd] : List Value).toArray b9 t9 c9 H locs 0 0 (vx_MQ b9 (hQi (fun r u => r = (X9_scores_x1 kind runs) ∧ u v = some (.inl (cy 0, 6441, .inl (X9_scores_g44 g kind runs bnd i a bo s))) ∧ hFrL f u [v]) D f sz) (hPx hNo D f sz) ([.ref m, .int (nI kind), .int runs, .int bnd] : List Value).toArray s9 0 0 (hA f sz)) (F0 m9 34 ls [.int y187]) := by
      intro y187 ey187 H locs ls G hl
      replace ey187 := Eq.symm ey187
      subst ey187
      exact J13 (X9_scores_x0 kind runs) (by rw [X9_scores_x1, if_neg c11]) _ _ _ G (lv_sub hl [0, 1, 2, 3, 4, 5] rfl)
    refine lv_icmp_ne (tgt := 33) hx hb dX9_scores_24 (by decide) (fun c186 => ?_) (fun c186 => ?_)
    · have n190 : ¬ kind = 2 := fun q => c186 ((nI_eq (a := kind) (b := 2) (by omega) (by omega)).mpr q)
      refine lv_iload_n hx hb dX9_scores_33 rfl (lv_at hl 4 rfl) ?_
      exact J188 runs (by rw [X9_scores_x0, if_neg c186]) _ _ _ G (lv_sub hl [0, 1, 2, 3, 4, 5] rfl)
    · have n191 : kind = 2 := (nI_eq (a := kind) (b := 2) (by omega) (by omega)).mp c186
      refine lv_iload_n hx hb dX9_scores_27 rfl (lv_at hl 4 rfl) ?_
      refine lv_iconst (v := 1) hx hb dX9_scores_28 (by decide) ?_
      refine lv_iadd hx hb dX9_scores_29 ?_
      refine lv_goto (tgt := 34) hx hb dX9_scores_30 (by decide) ?_
      exact J188 (runs + 1) (by rw [X9_scores_x0, if_pos c186]) _ _ _ G (lv_sub hl [0, 1, 2, 3, 4, 5] rfl)
theorem rj_X9_scores_g6_2275 {g : Nat → Int32} {kind : Nat} {i : Nat} {a : Nat} {bo : Nat} {s : Nat} (hi : i < 4) (ha : a < 11) (hbo : bo < 11) (hs1 : 1 ≤ s) (hs : s < 701) (hk : kind < 5) : (X9_scores_g6 g i) 0 = g 0 := (by rw [X9_scores_g6, upd_off (by omega)])
theorem rj_X9_scores_g7_2275 {g : Nat → Int32} {kind : Nat} {runs : Int32} {i : Nat} {a : Nat} {bo : Nat} {s : Nat} (hi : i < 4) (ha : a < 11) (hbo : bo < 11) (hs1 : 1 ≤ s) (hs : s < 701) (hk : kind < 5) : (X9_scores_g7 g kind runs i) 0 = g 0 := (by rw [X9_scores_g7, upd_off (by omega)]; exact (rj_X9_scores_g6_2275 hi ha hbo hs1 hs hk))
theorem rj_X9_scores_g8_2275 {g : Nat → Int32} {kind : Nat} {runs : Int32} {i : Nat} {a : Nat} {bo : Nat} {s : Nat} (hi : i < 4) (ha : a < 11) (hbo : bo < 11) (hs1 : 1 ≤ s) (hs : s < 701) (hk : kind < 5) : (X9_scores_g8 g kind runs i) 0 = g 0 := (by rw [X9_scores_g8, upd_off (by omega)]; exact (rj_X9_scores_g7_2275 hi ha hbo hs1 hs hk))
theorem rj_X9_scores_g11_2275 {g : Nat → Int32} {kind : Nat} {runs : Int32} {i : Nat} {a : Nat} {bo : Nat} {s : Nat} (hi : i < 4) (ha : a < 11) (hbo : bo < 11) (hs1 : 1 ≤ s) (hs : s < 701) (hk : kind < 5) : (X9_scores_g11 g kind runs i) 0 = g 0 := (by rw [X9_scores_g11, upd_off (by omega)]; exact (rj_X9_scores_g8_2275 hi ha hbo hs1 hs hk))
theorem rj_X9_scores_g12_2275 {g : Nat → Int32} {kind : Nat} {runs : Int32} {i : Nat} {a : Nat} {bo : Nat} {s : Nat} (hi : i < 4) (ha : a < 11) (hbo : bo < 11) (hs1 : 1 ≤ s) (hs : s < 701) (hk : kind < 5) : (X9_scores_g12 g kind runs i) 0 = g 0 := (by rw [X9_scores_g12]; split; exact (rj_X9_scores_g8_2275 hi ha hbo hs1 hs hk); exact (rj_X9_scores_g11_2275 hi ha hbo hs1 hs hk))
theorem rj_X9_scores_g15_2275 {g : Nat → Int32} {kind : Nat} {runs : Int32} {i : Nat} {a : Nat} {bo : Nat} {s : Nat} (hi : i < 4) (ha : a < 11) (hbo : bo < 11) (hs1 : 1 ≤ s) (hs : s < 701) (hk : kind < 5) : (X9_scores_g15 g kind runs i a) 0 = g 0 := (by rw [X9_scores_g15, upd_off (by omega)]; exact (rj_X9_scores_g12_2275 hi ha hbo hs1 hs hk))
theorem rj_X9_scores_g18_2275 {g : Nat → Int32} {kind : Nat} {runs : Int32} {i : Nat} {a : Nat} {bo : Nat} {s : Nat} (hi : i < 4) (ha : a < 11) (hbo : bo < 11) (hs1 : 1 ≤ s) (hs : s < 701) (hk : kind < 5) : (X9_scores_g18 g kind runs i a) 0 = g 0 := (by rw [X9_scores_g18, upd_off (by omega)]; exact (rj_X9_scores_g15_2275 hi ha hbo hs1 hs hk))
theorem rj_X9_scores_g21_2275 {g : Nat → Int32} {kind : Nat} {runs : Int32} {i : Nat} {a : Nat} {bo : Nat} {s : Nat} (hi : i < 4) (ha : a < 11) (hbo : bo < 11) (hs1 : 1 ≤ s) (hs : s < 701) (hk : kind < 5) : (X9_scores_g21 g kind runs i a) 0 = g 0 := (by rw [X9_scores_g21, upd_off (by omega)]; exact (rj_X9_scores_g18_2275 hi ha hbo hs1 hs hk))
theorem rj_X9_scores_g22_2275 {g : Nat → Int32} {kind : Nat} {runs : Int32} {bnd : Int32} {i : Nat} {a : Nat} {bo : Nat} {s : Nat} (hi : i < 4) (ha : a < 11) (hbo : bo < 11) (hs1 : 1 ≤ s) (hs : s < 701) (hk : kind < 5) : (X9_scores_g22 g kind runs bnd i a) 0 = g 0 := (by rw [X9_scores_g22]; split; exact (rj_X9_scores_g18_2275 hi ha hbo hs1 hs hk); exact (rj_X9_scores_g21_2275 hi ha hbo hs1 hs hk))
theorem rj_X9_scores_g24_2275 {g : Nat → Int32} {kind : Nat} {runs : Int32} {bnd : Int32} {i : Nat} {a : Nat} {bo : Nat} {s : Nat} (hi : i < 4) (ha : a < 11) (hbo : bo < 11) (hs1 : 1 ≤ s) (hs : s < 701) (hk : kind < 5) : (X9_scores_g24 g kind runs bnd i a bo) 0 = g 0 := (by rw [X9_scores_g24, upd_off (by omega)]; exact (rj_X9_scores_g22_2275 hi ha hbo hs1 hs hk))
theorem rj_X9_scores_g27_2275 {g : Nat → Int32} {kind : Nat} {runs : Int32} {bnd : Int32} {i : Nat} {a : Nat} {bo : Nat} {s : Nat} (hi : i < 4) (ha : a < 11) (hbo : bo < 11) (hs1 : 1 ≤ s) (hs : s < 701) (hk : kind < 5) : (X9_scores_g27 g kind runs bnd i a bo) 0 = g 0 := (by rw [X9_scores_g27, upd_off (by omega)]; exact (rj_X9_scores_g24_2275 hi ha hbo hs1 hs hk))
theorem rj_X9_scores_g29_2275 {g : Nat → Int32} {kind : Nat} {runs : Int32} {bnd : Int32} {i : Nat} {a : Nat} {bo : Nat} {s : Nat} (hi : i < 4) (ha : a < 11) (hbo : bo < 11) (hs1 : 1 ≤ s) (hs : s < 701) (hk : kind < 5) : (X9_scores_g29 g kind runs bnd i a bo) 0 = g 0 := (by rw [X9_scores_g29, upd_off (by omega)]; exact (rj_X9_scores_g27_2275 hi ha hbo hs1 hs hk))
theorem rj_X9_scores_g31_2275 {g : Nat → Int32} {kind : Nat} {runs : Int32} {bnd : Int32} {i : Nat} {a : Nat} {bo : Nat} {s : Nat} (hi : i < 4) (ha : a < 11) (hbo : bo < 11) (hs1 : 1 ≤ s) (hs : s < 701) (hk : kind < 5) : (X9_scores_g31 g kind runs bnd i a bo) 0 = g 0 := (by rw [X9_scores_g31, upd_off (by omega)]; exact (rj_X9_scores_g29_2275 hi ha hbo hs1 hs hk))
theorem rj_X9_scores_g32_2275 {g : Nat → Int32} {kind : Nat} {runs : Int32} {bnd : Int32} {i : Nat} {a : Nat} {bo : Nat} {s : Nat} (hi : i < 4) (ha : a < 11) (hbo : bo < 11) (hs1 : 1 ≤ s) (hs : s < 701) (hk : kind < 5) : (X9_scores_g32 g kind runs bnd i a bo) 0 = g 0 := (by rw [X9_scores_g32]; split; exact (rj_X9_scores_g31_2275 hi ha hbo hs1 hs hk); exact (rj_X9_scores_g29_2275 hi ha hbo hs1 hs hk))
theorem rj_X9_scores_g33_2275 {g : Nat → Int32} {kind : Nat} {runs : Int32} {bnd : Int32} {i : Nat} {a : Nat} {bo : Nat} {s : Nat} (hi : i < 4) (ha : a < 11) (hbo : bo < 11) (hs1 : 1 ≤ s) (hs : s < 701) (hk : kind < 5) : (X9_scores_g33 g kind runs bnd i a bo) 0 = g 0 := (by rw [X9_scores_g33, upd_off (by omega)]; exact (rj_X9_scores_g32_2275 hi ha hbo hs1 hs hk))
theorem rj_X9_scores_g35_2275 {g : Nat → Int32} {kind : Nat} {runs : Int32} {bnd : Int32} {i : Nat} {a : Nat} {bo : Nat} {s : Nat} (hi : i < 4) (ha : a < 11) (hbo : bo < 11) (hs1 : 1 ≤ s) (hs : s < 701) (hk : kind < 5) : (X9_scores_g35 g kind runs bnd i a bo s) 0 = g 0 := (by rw [X9_scores_g35, upd_off (by omega)]; exact (rj_X9_scores_g33_2275 hi ha hbo hs1 hs hk))
theorem rj_X9_scores_g37_2275 {g : Nat → Int32} {kind : Nat} {runs : Int32} {bnd : Int32} {i : Nat} {a : Nat} {bo : Nat} {s : Nat} (hi : i < 4) (ha : a < 11) (hbo : bo < 11) (hs1 : 1 ≤ s) (hs : s < 701) (hk : kind < 5) : (X9_scores_g37 g kind runs bnd i a bo s) 0 = g 0 := (by rw [X9_scores_g37, upd_off (by omega)]; exact (rj_X9_scores_g35_2275 hi ha hbo hs1 hs hk))
theorem rd_X9_scores_0 {g : Nat → Int32} {kind : Nat} {runs : Int32} {bnd : Int32} {i : Nat} {a : Nat} {bo : Nat} {s : Nat} (hi : i < 4) (ha : a < 11) (hbo : bo < 11) (hs1 : 1 ≤ s) (hs : s < 701) (hk : kind < 5) : (X9_scores_g44 g kind runs bnd i a bo s) 0 = g 0 := (by rw [X9_scores_g44, upd_off (by omega)]; exact (by rw [X9_scores_g41]; split; exact (rj_X9_scores_g37_2275 hi ha hbo hs1 hs hk); exact (by rw [X9_scores_g40, upd_off (by omega)]; exact (rj_X9_scores_g37_2275 hi ha hbo hs1 hs hk))))
theorem rj_X9_scores_g6_2276 {g : Nat → Int32} {kind : Nat} {i : Nat} {a : Nat} {bo : Nat} {s : Nat} (hi : i < 4) (ha : a < 11) (hbo : bo < 11) (hs1 : 1 ≤ s) (hs : s < 701) (hk : kind < 5) : (X9_scores_g6 g i) 1 = g 1 := (by rw [X9_scores_g6, upd_off (by omega)])
theorem rj_X9_scores_g7_2276 {g : Nat → Int32} {kind : Nat} {runs : Int32} {i : Nat} {a : Nat} {bo : Nat} {s : Nat} (hi : i < 4) (ha : a < 11) (hbo : bo < 11) (hs1 : 1 ≤ s) (hs : s < 701) (hk : kind < 5) : (X9_scores_g7 g kind runs i) 1 = g 1 := (by rw [X9_scores_g7, upd_off (by omega)]; exact (rj_X9_scores_g6_2276 hi ha hbo hs1 hs hk))
theorem rj_X9_scores_g8_2276 {g : Nat → Int32} {kind : Nat} {runs : Int32} {i : Nat} {a : Nat} {bo : Nat} {s : Nat} (hi : i < 4) (ha : a < 11) (hbo : bo < 11) (hs1 : 1 ≤ s) (hs : s < 701) (hk : kind < 5) : (X9_scores_g8 g kind runs i) 1 = g 1 := (by rw [X9_scores_g8, upd_off (by omega)]; exact (rj_X9_scores_g7_2276 hi ha hbo hs1 hs hk))
theorem rj_X9_scores_g11_2276 {g : Nat → Int32} {kind : Nat} {runs : Int32} {i : Nat} {a : Nat} {bo : Nat} {s : Nat} (hi : i < 4) (ha : a < 11) (hbo : bo < 11) (hs1 : 1 ≤ s) (hs : s < 701) (hk : kind < 5) : (X9_scores_g11 g kind runs i) 1 = g 1 := (by rw [X9_scores_g11, upd_off (by omega)]; exact (rj_X9_scores_g8_2276 hi ha hbo hs1 hs hk))
theorem rj_X9_scores_g12_2276 {g : Nat → Int32} {kind : Nat} {runs : Int32} {i : Nat} {a : Nat} {bo : Nat} {s : Nat} (hi : i < 4) (ha : a < 11) (hbo : bo < 11) (hs1 : 1 ≤ s) (hs : s < 701) (hk : kind < 5) : (X9_scores_g12 g kind runs i) 1 = g 1 := (by rw [X9_scores_g12]; split; exact (rj_X9_scores_g8_2276 hi ha hbo hs1 hs hk); exact (rj_X9_scores_g11_2276 hi ha hbo hs1 hs hk))
theorem rj_X9_scores_g15_2276 {g : Nat → Int32} {kind : Nat} {runs : Int32} {i : Nat} {a : Nat} {bo : Nat} {s : Nat} (hi : i < 4) (ha : a < 11) (hbo : bo < 11) (hs1 : 1 ≤ s) (hs : s < 701) (hk : kind < 5) : (X9_scores_g15 g kind runs i a) 1 = g 1 := (by rw [X9_scores_g15, upd_off (by omega)]; exact (rj_X9_scores_g12_2276 hi ha hbo hs1 hs hk))
theorem rj_X9_scores_g18_2276 {g : Nat → Int32} {kind : Nat} {runs : Int32} {i : Nat} {a : Nat} {bo : Nat} {s : Nat} (hi : i < 4) (ha : a < 11) (hbo : bo < 11) (hs1 : 1 ≤ s) (hs : s < 701) (hk : kind < 5) : (X9_scores_g18 g kind runs i a) 1 = g 1 := (by rw [X9_scores_g18, upd_off (by omega)]; exact (rj_X9_scores_g15_2276 hi ha hbo hs1 hs hk))
theorem rj_X9_scores_g21_2276 {g : Nat → Int32} {kind : Nat} {runs : Int32} {i : Nat} {a : Nat} {bo : Nat} {s : Nat} (hi : i < 4) (ha : a < 11) (hbo : bo < 11) (hs1 : 1 ≤ s) (hs : s < 701) (hk : kind < 5) : (X9_scores_g21 g kind runs i a) 1 = g 1 := (by rw [X9_scores_g21, upd_off (by omega)]; exact (rj_X9_scores_g18_2276 hi ha hbo hs1 hs hk))
theorem rj_X9_scores_g22_2276 {g : Nat → Int32} {kind : Nat} {runs : Int32} {bnd : Int32} {i : Nat} {a : Nat} {bo : Nat} {s : Nat} (hi : i < 4) (ha : a < 11) (hbo : bo < 11) (hs1 : 1 ≤ s) (hs : s < 701) (hk : kind < 5) : (X9_scores_g22 g kind runs bnd i a) 1 = g 1 := (by rw [X9_scores_g22]; split; exact (rj_X9_scores_g18_2276 hi ha hbo hs1 hs hk); exact (rj_X9_scores_g21_2276 hi ha hbo hs1 hs hk))
theorem rj_X9_scores_g24_2276 {g : Nat → Int32} {kind : Nat} {runs : Int32} {bnd : Int32} {i : Nat} {a : Nat} {bo : Nat} {s : Nat} (hi : i < 4) (ha : a < 11) (hbo : bo < 11) (hs1 : 1 ≤ s) (hs : s < 701) (hk : kind < 5) : (X9_scores_g24 g kind runs bnd i a bo) 1 = g 1 := (by rw [X9_scores_g24, upd_off (by omega)]; exact (rj_X9_scores_g22_2276 hi ha hbo hs1 hs hk))
theorem rj_X9_scores_g27_2276 {g : Nat → Int32} {kind : Nat} {runs : Int32} {bnd : Int32} {i : Nat} {a : Nat} {bo : Nat} {s : Nat} (hi : i < 4) (ha : a < 11) (hbo : bo < 11) (hs1 : 1 ≤ s) (hs : s < 701) (hk : kind < 5) : (X9_scores_g27 g kind runs bnd i a bo) 1 = g 1 := (by rw [X9_scores_g27, upd_off (by omega)]; exact (rj_X9_scores_g24_2276 hi ha hbo hs1 hs hk))
theorem rj_X9_scores_g29_2276 {g : Nat → Int32} {kind : Nat} {runs : Int32} {bnd : Int32} {i : Nat} {a : Nat} {bo : Nat} {s : Nat} (hi : i < 4) (ha : a < 11) (hbo : bo < 11) (hs1 : 1 ≤ s) (hs : s < 701) (hk : kind < 5) : (X9_scores_g29 g kind runs bnd i a bo) 1 = g 1 := (by rw [X9_scores_g29, upd_off (by omega)]; exact (rj_X9_scores_g27_2276 hi ha hbo hs1 hs hk))
theorem rj_X9_scores_g31_2276 {g : Nat → Int32} {kind : Nat} {runs : Int32} {bnd : Int32} {i : Nat} {a : Nat} {bo : Nat} {s : Nat} (hi : i < 4) (ha : a < 11) (hbo : bo < 11) (hs1 : 1 ≤ s) (hs : s < 701) (hk : kind < 5) : (X9_scores_g31 g kind runs bnd i a bo) 1 = g 1 := (by rw [X9_scores_g31, upd_off (by omega)]; exact (rj_X9_scores_g29_2276 hi ha hbo hs1 hs hk))
theorem rj_X9_scores_g32_2276 {g : Nat → Int32} {kind : Nat} {runs : Int32} {bnd : Int32} {i : Nat} {a : Nat} {bo : Nat} {s : Nat} (hi : i < 4) (ha : a < 11) (hbo : bo < 11) (hs1 : 1 ≤ s) (hs : s < 701) (hk : kind < 5) : (X9_scores_g32 g kind runs bnd i a bo) 1 = g 1 := (by rw [X9_scores_g32]; split; exact (rj_X9_scores_g31_2276 hi ha hbo hs1 hs hk); exact (rj_X9_scores_g29_2276 hi ha hbo hs1 hs hk))
theorem rj_X9_scores_g33_2276 {g : Nat → Int32} {kind : Nat} {runs : Int32} {bnd : Int32} {i : Nat} {a : Nat} {bo : Nat} {s : Nat} (hi : i < 4) (ha : a < 11) (hbo : bo < 11) (hs1 : 1 ≤ s) (hs : s < 701) (hk : kind < 5) : (X9_scores_g33 g kind runs bnd i a bo) 1 = g 1 := (by rw [X9_scores_g33, upd_off (by omega)]; exact (rj_X9_scores_g32_2276 hi ha hbo hs1 hs hk))
theorem rj_X9_scores_g35_2276 {g : Nat → Int32} {kind : Nat} {runs : Int32} {bnd : Int32} {i : Nat} {a : Nat} {bo : Nat} {s : Nat} (hi : i < 4) (ha : a < 11) (hbo : bo < 11) (hs1 : 1 ≤ s) (hs : s < 701) (hk : kind < 5) : (X9_scores_g35 g kind runs bnd i a bo s) 1 = g 1 := (by rw [X9_scores_g35, upd_off (by omega)]; exact (rj_X9_scores_g33_2276 hi ha hbo hs1 hs hk))
theorem rj_X9_scores_g37_2276 {g : Nat → Int32} {kind : Nat} {runs : Int32} {bnd : Int32} {i : Nat} {a : Nat} {bo : Nat} {s : Nat} (hi : i < 4) (ha : a < 11) (hbo : bo < 11) (hs1 : 1 ≤ s) (hs : s < 701) (hk : kind < 5) : (X9_scores_g37 g kind runs bnd i a bo s) 1 = g 1 := (by rw [X9_scores_g37, upd_off (by omega)]; exact (rj_X9_scores_g35_2276 hi ha hbo hs1 hs hk))
theorem rd_X9_scores_1 {g : Nat → Int32} {kind : Nat} {runs : Int32} {bnd : Int32} {i : Nat} {a : Nat} {bo : Nat} {s : Nat} (hi : i < 4) (ha : a < 11) (hbo : bo < 11) (hs1 : 1 ≤ s) (hs : s < 701) (hk : kind < 5) : (X9_scores_g44 g kind runs bnd i a bo s) 1 = g 1 := (by rw [X9_scores_g44, upd_off (by omega)]; exact (by rw [X9_scores_g41]; split; exact (rj_X9_scores_g37_2276 hi ha hbo hs1 hs hk); exact (by rw [X9_scores_g40, upd_off (by omega)]; exact (rj_X9_scores_g37_2276 hi ha hbo hs1 hs hk))))
theorem rj_X9_scores_g6_2277 {g : Nat → Int32} {kind : Nat} {i : Nat} {a : Nat} {bo : Nat} {s : Nat} (hi : i < 4) (ha : a < 11) (hbo : bo < 11) (hs1 : 1 ≤ s) (hs : s < 701) (hk : kind < 5) : (X9_scores_g6 g i) 2 = g 2 := (by rw [X9_scores_g6, upd_off (by omega)])
theorem rj_X9_scores_g7_2277 {g : Nat → Int32} {kind : Nat} {runs : Int32} {i : Nat} {a : Nat} {bo : Nat} {s : Nat} (hi : i < 4) (ha : a < 11) (hbo : bo < 11) (hs1 : 1 ≤ s) (hs : s < 701) (hk : kind < 5) : (X9_scores_g7 g kind runs i) 2 = g 2 := (by rw [X9_scores_g7, upd_off (by omega)]; exact (rj_X9_scores_g6_2277 hi ha hbo hs1 hs hk))
theorem rj_X9_scores_g8_2277 {g : Nat → Int32} {kind : Nat} {runs : Int32} {i : Nat} {a : Nat} {bo : Nat} {s : Nat} (hi : i < 4) (ha : a < 11) (hbo : bo < 11) (hs1 : 1 ≤ s) (hs : s < 701) (hk : kind < 5) : (X9_scores_g8 g kind runs i) 2 = g 2 := (by rw [X9_scores_g8, upd_off (by omega)]; exact (rj_X9_scores_g7_2277 hi ha hbo hs1 hs hk))
theorem rj_X9_scores_g11_2277 {g : Nat → Int32} {kind : Nat} {runs : Int32} {i : Nat} {a : Nat} {bo : Nat} {s : Nat} (hi : i < 4) (ha : a < 11) (hbo : bo < 11) (hs1 : 1 ≤ s) (hs : s < 701) (hk : kind < 5) : (X9_scores_g11 g kind runs i) 2 = g 2 := (by rw [X9_scores_g11, upd_off (by omega)]; exact (rj_X9_scores_g8_2277 hi ha hbo hs1 hs hk))
theorem rj_X9_scores_g12_2277 {g : Nat → Int32} {kind : Nat} {runs : Int32} {i : Nat} {a : Nat} {bo : Nat} {s : Nat} (hi : i < 4) (ha : a < 11) (hbo : bo < 11) (hs1 : 1 ≤ s) (hs : s < 701) (hk : kind < 5) : (X9_scores_g12 g kind runs i) 2 = g 2 := (by rw [X9_scores_g12]; split; exact (rj_X9_scores_g8_2277 hi ha hbo hs1 hs hk); exact (rj_X9_scores_g11_2277 hi ha hbo hs1 hs hk))
theorem rj_X9_scores_g15_2277 {g : Nat → Int32} {kind : Nat} {runs : Int32} {i : Nat} {a : Nat} {bo : Nat} {s : Nat} (hi : i < 4) (ha : a < 11) (hbo : bo < 11) (hs1 : 1 ≤ s) (hs : s < 701) (hk : kind < 5) : (X9_scores_g15 g kind runs i a) 2 = g 2 := (by rw [X9_scores_g15, upd_off (by omega)]; exact (rj_X9_scores_g12_2277 hi ha hbo hs1 hs hk))
theorem rj_X9_scores_g18_2277 {g : Nat → Int32} {kind : Nat} {runs : Int32} {i : Nat} {a : Nat} {bo : Nat} {s : Nat} (hi : i < 4) (ha : a < 11) (hbo : bo < 11) (hs1 : 1 ≤ s) (hs : s < 701) (hk : kind < 5) : (X9_scores_g18 g kind runs i a) 2 = g 2 := (by rw [X9_scores_g18, upd_off (by omega)]; exact (rj_X9_scores_g15_2277 hi ha hbo hs1 hs hk))
theorem rj_X9_scores_g21_2277 {g : Nat → Int32} {kind : Nat} {runs : Int32} {i : Nat} {a : Nat} {bo : Nat} {s : Nat} (hi : i < 4) (ha : a < 11) (hbo : bo < 11) (hs1 : 1 ≤ s) (hs : s < 701) (hk : kind < 5) : (X9_scores_g21 g kind runs i a) 2 = g 2 := (by rw [X9_scores_g21, upd_off (by omega)]; exact (rj_X9_scores_g18_2277 hi ha hbo hs1 hs hk))
theorem rj_X9_scores_g22_2277 {g : Nat → Int32} {kind : Nat} {runs : Int32} {bnd : Int32} {i : Nat} {a : Nat} {bo : Nat} {s : Nat} (hi : i < 4) (ha : a < 11) (hbo : bo < 11) (hs1 : 1 ≤ s) (hs : s < 701) (hk : kind < 5) : (X9_scores_g22 g kind runs bnd i a) 2 = g 2 := (by rw [X9_scores_g22]; split; exact (rj_X9_scores_g18_2277 hi ha hbo hs1 hs hk); exact (rj_X9_scores_g21_2277 hi ha hbo hs1 hs hk))
theorem rj_X9_scores_g24_2277 {g : Nat → Int32} {kind : Nat} {runs : Int32} {bnd : Int32} {i : Nat} {a : Nat} {bo : Nat} {s : Nat} (hi : i < 4) (ha : a < 11) (hbo : bo < 11) (hs1 : 1 ≤ s) (hs : s < 701) (hk : kind < 5) : (X9_scores_g24 g kind runs bnd i a bo) 2 = g 2 := (by rw [X9_scores_g24, upd_off (by omega)]; exact (rj_X9_scores_g22_2277 hi ha hbo hs1 hs hk))
theorem rj_X9_scores_g27_2277 {g : Nat → Int32} {kind : Nat} {runs : Int32} {bnd : Int32} {i : Nat} {a : Nat} {bo : Nat} {s : Nat} (hi : i < 4) (ha : a < 11) (hbo : bo < 11) (hs1 : 1 ≤ s) (hs : s < 701) (hk : kind < 5) : (X9_scores_g27 g kind runs bnd i a bo) 2 = g 2 := (by rw [X9_scores_g27, upd_off (by omega)]; exact (rj_X9_scores_g24_2277 hi ha hbo hs1 hs hk))
theorem rj_X9_scores_g29_2277 {g : Nat → Int32} {kind : Nat} {runs : Int32} {bnd : Int32} {i : Nat} {a : Nat} {bo : Nat} {s : Nat} (hi : i < 4) (ha : a < 11) (hbo : bo < 11) (hs1 : 1 ≤ s) (hs : s < 701) (hk : kind < 5) : (X9_scores_g29 g kind runs bnd i a bo) 2 = g 2 := (by rw [X9_scores_g29, upd_off (by omega)]; exact (rj_X9_scores_g27_2277 hi ha hbo hs1 hs hk))
theorem rj_X9_scores_g31_2277 {g : Nat → Int32} {kind : Nat} {runs : Int32} {bnd : Int32} {i : Nat} {a : Nat} {bo : Nat} {s : Nat} (hi : i < 4) (ha : a < 11) (hbo : bo < 11) (hs1 : 1 ≤ s) (hs : s < 701) (hk : kind < 5) : (X9_scores_g31 g kind runs bnd i a bo) 2 = g 2 := (by rw [X9_scores_g31, upd_off (by omega)]; exact (rj_X9_scores_g29_2277 hi ha hbo hs1 hs hk))
theorem rj_X9_scores_g32_2277 {g : Nat → Int32} {kind : Nat} {runs : Int32} {bnd : Int32} {i : Nat} {a : Nat} {bo : Nat} {s : Nat} (hi : i < 4) (ha : a < 11) (hbo : bo < 11) (hs1 : 1 ≤ s) (hs : s < 701) (hk : kind < 5) : (X9_scores_g32 g kind runs bnd i a bo) 2 = g 2 := (by rw [X9_scores_g32]; split; exact (rj_X9_scores_g31_2277 hi ha hbo hs1 hs hk); exact (rj_X9_scores_g29_2277 hi ha hbo hs1 hs hk))
theorem rj_X9_scores_g33_2277 {g : Nat → Int32} {kind : Nat} {runs : Int32} {bnd : Int32} {i : Nat} {a : Nat} {bo : Nat} {s : Nat} (hi : i < 4) (ha : a < 11) (hbo : bo < 11) (hs1 : 1 ≤ s) (hs : s < 701) (hk : kind < 5) : (X9_scores_g33 g kind runs bnd i a bo) 2 = g 2 := (by rw [X9_scores_g33, upd_off (by omega)]; exact (rj_X9_scores_g32_2277 hi ha hbo hs1 hs hk))
theorem rj_X9_scores_g35_2277 {g : Nat → Int32} {kind : Nat} {runs : Int32} {bnd : Int32} {i : Nat} {a : Nat} {bo : Nat} {s : Nat} (hi : i < 4) (ha : a < 11) (hbo : bo < 11) (hs1 : 1 ≤ s) (hs : s < 701) (hk : kind < 5) : (X9_scores_g35 g kind runs bnd i a bo s) 2 = g 2 := (by rw [X9_scores_g35, upd_off (by omega)]; exact (rj_X9_scores_g33_2277 hi ha hbo hs1 hs hk))
theorem rj_X9_scores_g37_2277 {g : Nat → Int32} {kind : Nat} {runs : Int32} {bnd : Int32} {i : Nat} {a : Nat} {bo : Nat} {s : Nat} (hi : i < 4) (ha : a < 11) (hbo : bo < 11) (hs1 : 1 ≤ s) (hs : s < 701) (hk : kind < 5) : (X9_scores_g37 g kind runs bnd i a bo s) 2 = g 2 := (by rw [X9_scores_g37, upd_off (by omega)]; exact (rj_X9_scores_g35_2277 hi ha hbo hs1 hs hk))
theorem rd_X9_scores_2 {g : Nat → Int32} {kind : Nat} {runs : Int32} {bnd : Int32} {i : Nat} {a : Nat} {bo : Nat} {s : Nat} (hi : i < 4) (ha : a < 11) (hbo : bo < 11) (hs1 : 1 ≤ s) (hs : s < 701) (hk : kind < 5) : (X9_scores_g44 g kind runs bnd i a bo s) 2 = g 2 := (by rw [X9_scores_g44, upd_off (by omega)]; exact (by rw [X9_scores_g41]; split; exact (rj_X9_scores_g37_2277 hi ha hbo hs1 hs hk); exact (by rw [X9_scores_g40, upd_off (by omega)]; exact (rj_X9_scores_g37_2277 hi ha hbo hs1 hs hk))))
theorem rj_X9_scores_g6_2278 {g : Nat → Int32} {kind : Nat} {i : Nat} {a : Nat} {bo : Nat} {s : Nat} (hi : i < 4) (ha : a < 11) (hbo : bo < 11) (hs1 : 1 ≤ s) (hs : s < 701) (hk : kind < 5) : (X9_scores_g6 g i) 4 = g 4 := (by rw [X9_scores_g6, upd_off (by omega)])
theorem rj_X9_scores_g7_2278 {g : Nat → Int32} {kind : Nat} {runs : Int32} {i : Nat} {a : Nat} {bo : Nat} {s : Nat} (hi : i < 4) (ha : a < 11) (hbo : bo < 11) (hs1 : 1 ≤ s) (hs : s < 701) (hk : kind < 5) : (X9_scores_g7 g kind runs i) 4 = g 4 := (by rw [X9_scores_g7, upd_off (by omega)]; exact (rj_X9_scores_g6_2278 hi ha hbo hs1 hs hk))
theorem rj_X9_scores_g8_2278 {g : Nat → Int32} {kind : Nat} {runs : Int32} {i : Nat} {a : Nat} {bo : Nat} {s : Nat} (hi : i < 4) (ha : a < 11) (hbo : bo < 11) (hs1 : 1 ≤ s) (hs : s < 701) (hk : kind < 5) : (X9_scores_g8 g kind runs i) 4 = g 4 := (by rw [X9_scores_g8, upd_off (by omega)]; exact (rj_X9_scores_g7_2278 hi ha hbo hs1 hs hk))
theorem rj_X9_scores_g11_2278 {g : Nat → Int32} {kind : Nat} {runs : Int32} {i : Nat} {a : Nat} {bo : Nat} {s : Nat} (hi : i < 4) (ha : a < 11) (hbo : bo < 11) (hs1 : 1 ≤ s) (hs : s < 701) (hk : kind < 5) : (X9_scores_g11 g kind runs i) 4 = g 4 := (by rw [X9_scores_g11, upd_off (by omega)]; exact (rj_X9_scores_g8_2278 hi ha hbo hs1 hs hk))
theorem rj_X9_scores_g12_2278 {g : Nat → Int32} {kind : Nat} {runs : Int32} {i : Nat} {a : Nat} {bo : Nat} {s : Nat} (hi : i < 4) (ha : a < 11) (hbo : bo < 11) (hs1 : 1 ≤ s) (hs : s < 701) (hk : kind < 5) : (X9_scores_g12 g kind runs i) 4 = g 4 := (by rw [X9_scores_g12]; split; exact (rj_X9_scores_g8_2278 hi ha hbo hs1 hs hk); exact (rj_X9_scores_g11_2278 hi ha hbo hs1 hs hk))
theorem rj_X9_scores_g15_2278 {g : Nat → Int32} {kind : Nat} {runs : Int32} {i : Nat} {a : Nat} {bo : Nat} {s : Nat} (hi : i < 4) (ha : a < 11) (hbo : bo < 11) (hs1 : 1 ≤ s) (hs : s < 701) (hk : kind < 5) : (X9_scores_g15 g kind runs i a) 4 = g 4 := (by rw [X9_scores_g15, upd_off (by omega)]; exact (rj_X9_scores_g12_2278 hi ha hbo hs1 hs hk))
theorem rj_X9_scores_g18_2278 {g : Nat → Int32} {kind : Nat} {runs : Int32} {i : Nat} {a : Nat} {bo : Nat} {s : Nat} (hi : i < 4) (ha : a < 11) (hbo : bo < 11) (hs1 : 1 ≤ s) (hs : s < 701) (hk : kind < 5) : (X9_scores_g18 g kind runs i a) 4 = g 4 := (by rw [X9_scores_g18, upd_off (by omega)]; exact (rj_X9_scores_g15_2278 hi ha hbo hs1 hs hk))
theorem rj_X9_scores_g21_2278 {g : Nat → Int32} {kind : Nat} {runs : Int32} {i : Nat} {a : Nat} {bo : Nat} {s : Nat} (hi : i < 4) (ha : a < 11) (hbo : bo < 11) (hs1 : 1 ≤ s) (hs : s < 701) (hk : kind < 5) : (X9_scores_g21 g kind runs i a) 4 = g 4 := (by rw [X9_scores_g21, upd_off (by omega)]; exact (rj_X9_scores_g18_2278 hi ha hbo hs1 hs hk))
theorem rj_X9_scores_g22_2278 {g : Nat → Int32} {kind : Nat} {runs : Int32} {bnd : Int32} {i : Nat} {a : Nat} {bo : Nat} {s : Nat} (hi : i < 4) (ha : a < 11) (hbo : bo < 11) (hs1 : 1 ≤ s) (hs : s < 701) (hk : kind < 5) : (X9_scores_g22 g kind runs bnd i a) 4 = g 4 := (by rw [X9_scores_g22]; split; exact (rj_X9_scores_g18_2278 hi ha hbo hs1 hs hk); exact (rj_X9_scores_g21_2278 hi ha hbo hs1 hs hk))
theorem rj_X9_scores_g24_2278 {g : Nat → Int32} {kind : Nat} {runs : Int32} {bnd : Int32} {i : Nat} {a : Nat} {bo : Nat} {s : Nat} (hi : i < 4) (ha : a < 11) (hbo : bo < 11) (hs1 : 1 ≤ s) (hs : s < 701) (hk : kind < 5) : (X9_scores_g24 g kind runs bnd i a bo) 4 = g 4 := (by rw [X9_scores_g24, upd_off (by omega)]; exact (rj_X9_scores_g22_2278 hi ha hbo hs1 hs hk))
theorem rj_X9_scores_g27_2278 {g : Nat → Int32} {kind : Nat} {runs : Int32} {bnd : Int32} {i : Nat} {a : Nat} {bo : Nat} {s : Nat} (hi : i < 4) (ha : a < 11) (hbo : bo < 11) (hs1 : 1 ≤ s) (hs : s < 701) (hk : kind < 5) : (X9_scores_g27 g kind runs bnd i a bo) 4 = g 4 := (by rw [X9_scores_g27, upd_off (by omega)]; exact (rj_X9_scores_g24_2278 hi ha hbo hs1 hs hk))
theorem rj_X9_scores_g29_2278 {g : Nat → Int32} {kind : Nat} {runs : Int32} {bnd : Int32} {i : Nat} {a : Nat} {bo : Nat} {s : Nat} (hi : i < 4) (ha : a < 11) (hbo : bo < 11) (hs1 : 1 ≤ s) (hs : s < 701) (hk : kind < 5) : (X9_scores_g29 g kind runs bnd i a bo) 4 = g 4 := (by rw [X9_scores_g29, upd_off (by omega)]; exact (rj_X9_scores_g27_2278 hi ha hbo hs1 hs hk))
theorem rj_X9_scores_g31_2278 {g : Nat → Int32} {kind : Nat} {runs : Int32} {bnd : Int32} {i : Nat} {a : Nat} {bo : Nat} {s : Nat} (hi : i < 4) (ha : a < 11) (hbo : bo < 11) (hs1 : 1 ≤ s) (hs : s < 701) (hk : kind < 5) : (X9_scores_g31 g kind runs bnd i a bo) 4 = g 4 := (by rw [X9_scores_g31, upd_off (by omega)]; exact (rj_X9_scores_g29_2278 hi ha hbo hs1 hs hk))
theorem rj_X9_scores_g32_2278 {g : Nat → Int32} {kind : Nat} {runs : Int32} {bnd : Int32} {i : Nat} {a : Nat} {bo : Nat} {s : Nat} (hi : i < 4) (ha : a < 11) (hbo : bo < 11) (hs1 : 1 ≤ s) (hs : s < 701) (hk : kind < 5) : (X9_scores_g32 g kind runs bnd i a bo) 4 = g 4 := (by rw [X9_scores_g32]; split; exact (rj_X9_scores_g31_2278 hi ha hbo hs1 hs hk); exact (rj_X9_scores_g29_2278 hi ha hbo hs1 hs hk))
theorem rj_X9_scores_g33_2278 {g : Nat → Int32} {kind : Nat} {runs : Int32} {bnd : Int32} {i : Nat} {a : Nat} {bo : Nat} {s : Nat} (hi : i < 4) (ha : a < 11) (hbo : bo < 11) (hs1 : 1 ≤ s) (hs : s < 701) (hk : kind < 5) : (X9_scores_g33 g kind runs bnd i a bo) 4 = g 4 := (by rw [X9_scores_g33, upd_off (by omega)]; exact (rj_X9_scores_g32_2278 hi ha hbo hs1 hs hk))
theorem rj_X9_scores_g35_2278 {g : Nat → Int32} {kind : Nat} {runs : Int32} {bnd : Int32} {i : Nat} {a : Nat} {bo : Nat} {s : Nat} (hi : i < 4) (ha : a < 11) (hbo : bo < 11) (hs1 : 1 ≤ s) (hs : s < 701) (hk : kind < 5) : (X9_scores_g35 g kind runs bnd i a bo s) 4 = g 4 := (by rw [X9_scores_g35, upd_off (by omega)]; exact (rj_X9_scores_g33_2278 hi ha hbo hs1 hs hk))
theorem rj_X9_scores_g37_2278 {g : Nat → Int32} {kind : Nat} {runs : Int32} {bnd : Int32} {i : Nat} {a : Nat} {bo : Nat} {s : Nat} (hi : i < 4) (ha : a < 11) (hbo : bo < 11) (hs1 : 1 ≤ s) (hs : s < 701) (hk : kind < 5) : (X9_scores_g37 g kind runs bnd i a bo s) 4 = g 4 := (by rw [X9_scores_g37, upd_off (by omega)]; exact (rj_X9_scores_g35_2278 hi ha hbo hs1 hs hk))
theorem rd_X9_scores_4 {g : Nat → Int32} {kind : Nat} {runs : Int32} {bnd : Int32} {i : Nat} {a : Nat} {bo : Nat} {s : Nat} (hi : i < 4) (ha : a < 11) (hbo : bo < 11) (hs1 : 1 ≤ s) (hs : s < 701) (hk : kind < 5) : (X9_scores_g44 g kind runs bnd i a bo s) 4 = g 4 := (by rw [X9_scores_g44, upd_off (by omega)]; exact (by rw [X9_scores_g41]; split; exact (rj_X9_scores_g37_2278 hi ha hbo hs1 hs hk); exact (by rw [X9_scores_g40, upd_off (by omega)]; exact (rj_X9_scores_g37_2278 hi ha hbo hs1 hs hk))))
theorem rj_X9_scores_g6_2279 {g : Nat → Int32} {kind : Nat} {i : Nat} {a : Nat} {bo : Nat} {s : Nat} (hi : i < 4) (ha : a < 11) (hbo : bo < 11) (hs1 : 1 ≤ s) (hs : s < 701) (hk : kind < 5) : (X9_scores_g6 g i) 5 = g 5 := (by rw [X9_scores_g6, upd_off (by omega)])
theorem rj_X9_scores_g7_2279 {g : Nat → Int32} {kind : Nat} {runs : Int32} {i : Nat} {a : Nat} {bo : Nat} {s : Nat} (hi : i < 4) (ha : a < 11) (hbo : bo < 11) (hs1 : 1 ≤ s) (hs : s < 701) (hk : kind < 5) : (X9_scores_g7 g kind runs i) 5 = g 5 := (by rw [X9_scores_g7, upd_off (by omega)]; exact (rj_X9_scores_g6_2279 hi ha hbo hs1 hs hk))
theorem rj_X9_scores_g8_2279 {g : Nat → Int32} {kind : Nat} {runs : Int32} {i : Nat} {a : Nat} {bo : Nat} {s : Nat} (hi : i < 4) (ha : a < 11) (hbo : bo < 11) (hs1 : 1 ≤ s) (hs : s < 701) (hk : kind < 5) : (X9_scores_g8 g kind runs i) 5 = g 5 := (by rw [X9_scores_g8, upd_off (by omega)]; exact (rj_X9_scores_g7_2279 hi ha hbo hs1 hs hk))
theorem rj_X9_scores_g11_2279 {g : Nat → Int32} {kind : Nat} {runs : Int32} {i : Nat} {a : Nat} {bo : Nat} {s : Nat} (hi : i < 4) (ha : a < 11) (hbo : bo < 11) (hs1 : 1 ≤ s) (hs : s < 701) (hk : kind < 5) : (X9_scores_g11 g kind runs i) 5 = g 5 := (by rw [X9_scores_g11, upd_off (by omega)]; exact (rj_X9_scores_g8_2279 hi ha hbo hs1 hs hk))
theorem rj_X9_scores_g12_2279 {g : Nat → Int32} {kind : Nat} {runs : Int32} {i : Nat} {a : Nat} {bo : Nat} {s : Nat} (hi : i < 4) (ha : a < 11) (hbo : bo < 11) (hs1 : 1 ≤ s) (hs : s < 701) (hk : kind < 5) : (X9_scores_g12 g kind runs i) 5 = g 5 := (by rw [X9_scores_g12]; split; exact (rj_X9_scores_g8_2279 hi ha hbo hs1 hs hk); exact (rj_X9_scores_g11_2279 hi ha hbo hs1 hs hk))
theorem rj_X9_scores_g15_2279 {g : Nat → Int32} {kind : Nat} {runs : Int32} {i : Nat} {a : Nat} {bo : Nat} {s : Nat} (hi : i < 4) (ha : a < 11) (hbo : bo < 11) (hs1 : 1 ≤ s) (hs : s < 701) (hk : kind < 5) : (X9_scores_g15 g kind runs i a) 5 = g 5 := (by rw [X9_scores_g15, upd_off (by omega)]; exact (rj_X9_scores_g12_2279 hi ha hbo hs1 hs hk))
theorem rj_X9_scores_g18_2279 {g : Nat → Int32} {kind : Nat} {runs : Int32} {i : Nat} {a : Nat} {bo : Nat} {s : Nat} (hi : i < 4) (ha : a < 11) (hbo : bo < 11) (hs1 : 1 ≤ s) (hs : s < 701) (hk : kind < 5) : (X9_scores_g18 g kind runs i a) 5 = g 5 := (by rw [X9_scores_g18, upd_off (by omega)]; exact (rj_X9_scores_g15_2279 hi ha hbo hs1 hs hk))
theorem rj_X9_scores_g21_2279 {g : Nat → Int32} {kind : Nat} {runs : Int32} {i : Nat} {a : Nat} {bo : Nat} {s : Nat} (hi : i < 4) (ha : a < 11) (hbo : bo < 11) (hs1 : 1 ≤ s) (hs : s < 701) (hk : kind < 5) : (X9_scores_g21 g kind runs i a) 5 = g 5 := (by rw [X9_scores_g21, upd_off (by omega)]; exact (rj_X9_scores_g18_2279 hi ha hbo hs1 hs hk))
theorem rj_X9_scores_g22_2279 {g : Nat → Int32} {kind : Nat} {runs : Int32} {bnd : Int32} {i : Nat} {a : Nat} {bo : Nat} {s : Nat} (hi : i < 4) (ha : a < 11) (hbo : bo < 11) (hs1 : 1 ≤ s) (hs : s < 701) (hk : kind < 5) : (X9_scores_g22 g kind runs bnd i a) 5 = g 5 := (by rw [X9_scores_g22]; split; exact (rj_X9_scores_g18_2279 hi ha hbo hs1 hs hk); exact (rj_X9_scores_g21_2279 hi ha hbo hs1 hs hk))
theorem rj_X9_scores_g24_2279 {g : Nat → Int32} {kind : Nat} {runs : Int32} {bnd : Int32} {i : Nat} {a : Nat} {bo : Nat} {s : Nat} (hi : i < 4) (ha : a < 11) (hbo : bo < 11) (hs1 : 1 ≤ s) (hs : s < 701) (hk : kind < 5) : (X9_scores_g24 g kind runs bnd i a bo) 5 = g 5 := (by rw [X9_scores_g24, upd_off (by omega)]; exact (rj_X9_scores_g22_2279 hi ha hbo hs1 hs hk))
theorem rj_X9_scores_g27_2279 {g : Nat → Int32} {kind : Nat} {runs : Int32} {bnd : Int32} {i : Nat} {a : Nat} {bo : Nat} {s : Nat} (hi : i < 4) (ha : a < 11) (hbo : bo < 11) (hs1 : 1 ≤ s) (hs : s < 701) (hk : kind < 5) : (X9_scores_g27 g kind runs bnd i a bo) 5 = g 5 := (by rw [X9_scores_g27, upd_off (by omega)]; exact (rj_X9_scores_g24_2279 hi ha hbo hs1 hs hk))
theorem rj_X9_scores_g29_2279 {g : Nat → Int32} {kind : Nat} {runs : Int32} {bnd : Int32} {i : Nat} {a : Nat} {bo : Nat} {s : Nat} (hi : i < 4) (ha : a < 11) (hbo : bo < 11) (hs1 : 1 ≤ s) (hs : s < 701) (hk : kind < 5) : (X9_scores_g29 g kind runs bnd i a bo) 5 = g 5 := (by rw [X9_scores_g29, upd_off (by omega)]; exact (rj_X9_scores_g27_2279 hi ha hbo hs1 hs hk))
theorem rj_X9_scores_g31_2279 {g : Nat → Int32} {kind : Nat} {runs : Int32} {bnd : Int32} {i : Nat} {a : Nat} {bo : Nat} {s : Nat} (hi : i < 4) (ha : a < 11) (hbo : bo < 11) (hs1 : 1 ≤ s) (hs : s < 701) (hk : kind < 5) : (X9_scores_g31 g kind runs bnd i a bo) 5 = g 5 := (by rw [X9_scores_g31, upd_off (by omega)]; exact (rj_X9_scores_g29_2279 hi ha hbo hs1 hs hk))
theorem rj_X9_scores_g32_2279 {g : Nat → Int32} {kind : Nat} {runs : Int32} {bnd : Int32} {i : Nat} {a : Nat} {bo : Nat} {s : Nat} (hi : i < 4) (ha : a < 11) (hbo : bo < 11) (hs1 : 1 ≤ s) (hs : s < 701) (hk : kind < 5) : (X9_scores_g32 g kind runs bnd i a bo) 5 = g 5 := (by rw [X9_scores_g32]; split; exact (rj_X9_scores_g31_2279 hi ha hbo hs1 hs hk); exact (rj_X9_scores_g29_2279 hi ha hbo hs1 hs hk))
theorem rj_X9_scores_g33_2279 {g : Nat → Int32} {kind : Nat} {runs : Int32} {bnd : Int32} {i : Nat} {a : Nat} {bo : Nat} {s : Nat} (hi : i < 4) (ha : a < 11) (hbo : bo < 11) (hs1 : 1 ≤ s) (hs : s < 701) (hk : kind < 5) : (X9_scores_g33 g kind runs bnd i a bo) 5 = g 5 := (by rw [X9_scores_g33, upd_off (by omega)]; exact (rj_X9_scores_g32_2279 hi ha hbo hs1 hs hk))
theorem rj_X9_scores_g35_2279 {g : Nat → Int32} {kind : Nat} {runs : Int32} {bnd : Int32} {i : Nat} {a : Nat} {bo : Nat} {s : Nat} (hi : i < 4) (ha : a < 11) (hbo : bo < 11) (hs1 : 1 ≤ s) (hs : s < 701) (hk : kind < 5) : (X9_scores_g35 g kind runs bnd i a bo s) 5 = g 5 := (by rw [X9_scores_g35, upd_off (by omega)]; exact (rj_X9_scores_g33_2279 hi ha hbo hs1 hs hk))
theorem rj_X9_scores_g37_2279 {g : Nat → Int32} {kind : Nat} {runs : Int32} {bnd : Int32} {i : Nat} {a : Nat} {bo : Nat} {s : Nat} (hi : i < 4) (ha : a < 11) (hbo : bo < 11) (hs1 : 1 ≤ s) (hs : s < 701) (hk : kind < 5) : (X9_scores_g37 g kind runs bnd i a bo s) 5 = g 5 := (by rw [X9_scores_g37, upd_off (by omega)]; exact (rj_X9_scores_g35_2279 hi ha hbo hs1 hs hk))
theorem rd_X9_scores_5 {g : Nat → Int32} {kind : Nat} {runs : Int32} {bnd : Int32} {i : Nat} {a : Nat} {bo : Nat} {s : Nat} (hi : i < 4) (ha : a < 11) (hbo : bo < 11) (hs1 : 1 ≤ s) (hs : s < 701) (hk : kind < 5) : (X9_scores_g44 g kind runs bnd i a bo s) 5 = g 5 := (by rw [X9_scores_g44, upd_off (by omega)]; exact (by rw [X9_scores_g41]; split; exact (rj_X9_scores_g37_2279 hi ha hbo hs1 hs hk); exact (by rw [X9_scores_g40, upd_off (by omega)]; exact (rj_X9_scores_g37_2279 hi ha hbo hs1 hs hk))))
theorem rj_X9_scores_g6_2280 {g : Nat → Int32} {kind : Nat} {i : Nat} {a : Nat} {bo : Nat} {s : Nat} (hi : i < 4) (ha : a < 11) (hbo : bo < 11) (hs1 : 1 ≤ s) (hs : s < 701) (hk : kind < 5) : (X9_scores_g6 g i) 6 = g 6 := (by rw [X9_scores_g6, upd_off (by omega)])
theorem rj_X9_scores_g7_2280 {g : Nat → Int32} {kind : Nat} {runs : Int32} {i : Nat} {a : Nat} {bo : Nat} {s : Nat} (hi : i < 4) (ha : a < 11) (hbo : bo < 11) (hs1 : 1 ≤ s) (hs : s < 701) (hk : kind < 5) : (X9_scores_g7 g kind runs i) 6 = g 6 := (by rw [X9_scores_g7, upd_off (by omega)]; exact (rj_X9_scores_g6_2280 hi ha hbo hs1 hs hk))
theorem rj_X9_scores_g8_2280 {g : Nat → Int32} {kind : Nat} {runs : Int32} {i : Nat} {a : Nat} {bo : Nat} {s : Nat} (hi : i < 4) (ha : a < 11) (hbo : bo < 11) (hs1 : 1 ≤ s) (hs : s < 701) (hk : kind < 5) : (X9_scores_g8 g kind runs i) 6 = g 6 := (by rw [X9_scores_g8, upd_off (by omega)]; exact (rj_X9_scores_g7_2280 hi ha hbo hs1 hs hk))
theorem rj_X9_scores_g11_2280 {g : Nat → Int32} {kind : Nat} {runs : Int32} {i : Nat} {a : Nat} {bo : Nat} {s : Nat} (hi : i < 4) (ha : a < 11) (hbo : bo < 11) (hs1 : 1 ≤ s) (hs : s < 701) (hk : kind < 5) : (X9_scores_g11 g kind runs i) 6 = g 6 := (by rw [X9_scores_g11, upd_off (by omega)]; exact (rj_X9_scores_g8_2280 hi ha hbo hs1 hs hk))
theorem rj_X9_scores_g12_2280 {g : Nat → Int32} {kind : Nat} {runs : Int32} {i : Nat} {a : Nat} {bo : Nat} {s : Nat} (hi : i < 4) (ha : a < 11) (hbo : bo < 11) (hs1 : 1 ≤ s) (hs : s < 701) (hk : kind < 5) : (X9_scores_g12 g kind runs i) 6 = g 6 := (by rw [X9_scores_g12]; split; exact (rj_X9_scores_g8_2280 hi ha hbo hs1 hs hk); exact (rj_X9_scores_g11_2280 hi ha hbo hs1 hs hk))
theorem rj_X9_scores_g15_2280 {g : Nat → Int32} {kind : Nat} {runs : Int32} {i : Nat} {a : Nat} {bo : Nat} {s : Nat} (hi : i < 4) (ha : a < 11) (hbo : bo < 11) (hs1 : 1 ≤ s) (hs : s < 701) (hk : kind < 5) : (X9_scores_g15 g kind runs i a) 6 = g 6 := (by rw [X9_scores_g15, upd_off (by omega)]; exact (rj_X9_scores_g12_2280 hi ha hbo hs1 hs hk))
theorem rj_X9_scores_g18_2280 {g : Nat → Int32} {kind : Nat} {runs : Int32} {i : Nat} {a : Nat} {bo : Nat} {s : Nat} (hi : i < 4) (ha : a < 11) (hbo : bo < 11) (hs1 : 1 ≤ s) (hs : s < 701) (hk : kind < 5) : (X9_scores_g18 g kind runs i a) 6 = g 6 := (by rw [X9_scores_g18, upd_off (by omega)]; exact (rj_X9_scores_g15_2280 hi ha hbo hs1 hs hk))
theorem rj_X9_scores_g21_2280 {g : Nat → Int32} {kind : Nat} {runs : Int32} {i : Nat} {a : Nat} {bo : Nat} {s : Nat} (hi : i < 4) (ha : a < 11) (hbo : bo < 11) (hs1 : 1 ≤ s) (hs : s < 701) (hk : kind < 5) : (X9_scores_g21 g kind runs i a) 6 = g 6 := (by rw [X9_scores_g21, upd_off (by omega)]; exact (rj_X9_scores_g18_2280 hi ha hbo hs1 hs hk))
theorem rj_X9_scores_g22_2280 {g : Nat → Int32} {kind : Nat} {runs : Int32} {bnd : Int32} {i : Nat} {a : Nat} {bo : Nat} {s : Nat} (hi : i < 4) (ha : a < 11) (hbo : bo < 11) (hs1 : 1 ≤ s) (hs : s < 701) (hk : kind < 5) : (X9_scores_g22 g kind runs bnd i a) 6 = g 6 := (by rw [X9_scores_g22]; split; exact (rj_X9_scores_g18_2280 hi ha hbo hs1 hs hk); exact (rj_X9_scores_g21_2280 hi ha hbo hs1 hs hk))
theorem rj_X9_scores_g24_2280 {g : Nat → Int32} {kind : Nat} {runs : Int32} {bnd : Int32} {i : Nat} {a : Nat} {bo : Nat} {s : Nat} (hi : i < 4) (ha : a < 11) (hbo : bo < 11) (hs1 : 1 ≤ s) (hs : s < 701) (hk : kind < 5) : (X9_scores_g24 g kind runs bnd i a bo) 6 = g 6 := (by rw [X9_scores_g24, upd_off (by omega)]; exact (rj_X9_scores_g22_2280 hi ha hbo hs1 hs hk))
theorem rj_X9_scores_g27_2280 {g : Nat → Int32} {kind : Nat} {runs : Int32} {bnd : Int32} {i : Nat} {a : Nat} {bo : Nat} {s : Nat} (hi : i < 4) (ha : a < 11) (hbo : bo < 11) (hs1 : 1 ≤ s) (hs : s < 701) (hk : kind < 5) : (X9_scores_g27 g kind runs bnd i a bo) 6 = g 6 := (by rw [X9_scores_g27, upd_off (by omega)]; exact (rj_X9_scores_g24_2280 hi ha hbo hs1 hs hk))
theorem rj_X9_scores_g29_2280 {g : Nat → Int32} {kind : Nat} {runs : Int32} {bnd : Int32} {i : Nat} {a : Nat} {bo : Nat} {s : Nat} (hi : i < 4) (ha : a < 11) (hbo : bo < 11) (hs1 : 1 ≤ s) (hs : s < 701) (hk : kind < 5) : (X9_scores_g29 g kind runs bnd i a bo) 6 = g 6 := (by rw [X9_scores_g29, upd_off (by omega)]; exact (rj_X9_scores_g27_2280 hi ha hbo hs1 hs hk))
theorem rj_X9_scores_g31_2280 {g : Nat → Int32} {kind : Nat} {runs : Int32} {bnd : Int32} {i : Nat} {a : Nat} {bo : Nat} {s : Nat} (hi : i < 4) (ha : a < 11) (hbo : bo < 11) (hs1 : 1 ≤ s) (hs : s < 701) (hk : kind < 5) : (X9_scores_g31 g kind runs bnd i a bo) 6 = g 6 := (by rw [X9_scores_g31, upd_off (by omega)]; exact (rj_X9_scores_g29_2280 hi ha hbo hs1 hs hk))
theorem rj_X9_scores_g32_2280 {g : Nat → Int32} {kind : Nat} {runs : Int32} {bnd : Int32} {i : Nat} {a : Nat} {bo : Nat} {s : Nat} (hi : i < 4) (ha : a < 11) (hbo : bo < 11) (hs1 : 1 ≤ s) (hs : s < 701) (hk : kind < 5) : (X9_scores_g32 g kind runs bnd i a bo) 6 = g 6 := (by rw [X9_scores_g32]; split; exact (rj_X9_scores_g31_2280 hi ha hbo hs1 hs hk); exact (rj_X9_scores_g29_2280 hi ha hbo hs1 hs hk))
theorem rj_X9_scores_g33_2280 {g : Nat → Int32} {kind : Nat} {runs : Int32} {bnd : Int32} {i : Nat} {a : Nat} {bo : Nat} {s : Nat} (hi : i < 4) (ha : a < 11) (hbo : bo < 11) (hs1 : 1 ≤ s) (hs : s < 701) (hk : kind < 5) : (X9_scores_g33 g kind runs bnd i a bo) 6 = g 6 := (by rw [X9_scores_g33, upd_off (by omega)]; exact (rj_X9_scores_g32_2280 hi ha hbo hs1 hs hk))
theorem rj_X9_scores_g35_2280 {g : Nat → Int32} {kind : Nat} {runs : Int32} {bnd : Int32} {i : Nat} {a : Nat} {bo : Nat} {s : Nat} (hi : i < 4) (ha : a < 11) (hbo : bo < 11) (hs1 : 1 ≤ s) (hs : s < 701) (hk : kind < 5) : (X9_scores_g35 g kind runs bnd i a bo s) 6 = g 6 := (by rw [X9_scores_g35, upd_off (by omega)]; exact (rj_X9_scores_g33_2280 hi ha hbo hs1 hs hk))
theorem rj_X9_scores_g37_2280 {g : Nat → Int32} {kind : Nat} {runs : Int32} {bnd : Int32} {i : Nat} {a : Nat} {bo : Nat} {s : Nat} (hi : i < 4) (ha : a < 11) (hbo : bo < 11) (hs1 : 1 ≤ s) (hs : s < 701) (hk : kind < 5) : (X9_scores_g37 g kind runs bnd i a bo s) 6 = g 6 := (by rw [X9_scores_g37, upd_off (by omega)]; exact (rj_X9_scores_g35_2280 hi ha hbo hs1 hs hk))
theorem rd_X9_scores_6 {g : Nat → Int32} {kind : Nat} {runs : Int32} {bnd : Int32} {i : Nat} {a : Nat} {bo : Nat} {s : Nat} (hi : i < 4) (ha : a < 11) (hbo : bo < 11) (hs1 : 1 ≤ s) (hs : s < 701) (hk : kind < 5) : (X9_scores_g44 g kind runs bnd i a bo s) 6 = g 6 := (by rw [X9_scores_g44, upd_off (by omega)]; exact (by rw [X9_scores_g41]; split; exact (rj_X9_scores_g37_2280 hi ha hbo hs1 hs hk); exact (by rw [X9_scores_g40, upd_off (by omega)]; exact (rj_X9_scores_g37_2280 hi ha hbo hs1 hs hk))))
theorem rj_X9_scores_g6_2281 {g : Nat → Int32} {kind : Nat} {i : Nat} {a : Nat} {bo : Nat} {s : Nat} (hi : i < 4) (ha : a < 11) (hbo : bo < 11) (hs1 : 1 ≤ s) (hs : s < 701) (hk : kind < 5) : (X9_scores_g6 g i) 7 = g 7 := (by rw [X9_scores_g6, upd_off (by omega)])
theorem rj_X9_scores_g7_2281 {g : Nat → Int32} {kind : Nat} {runs : Int32} {i : Nat} {a : Nat} {bo : Nat} {s : Nat} (hi : i < 4) (ha : a < 11) (hbo : bo < 11) (hs1 : 1 ≤ s) (hs : s < 701) (hk : kind < 5) : (X9_scores_g7 g kind runs i) 7 = g 7 := (by rw [X9_scores_g7, upd_off (by omega)]; exact (rj_X9_scores_g6_2281 hi ha hbo hs1 hs hk))
theorem rj_X9_scores_g8_2281 {g : Nat → Int32} {kind : Nat} {runs : Int32} {i : Nat} {a : Nat} {bo : Nat} {s : Nat} (hi : i < 4) (ha : a < 11) (hbo : bo < 11) (hs1 : 1 ≤ s) (hs : s < 701) (hk : kind < 5) : (X9_scores_g8 g kind runs i) 7 = g 7 := (by rw [X9_scores_g8, upd_off (by omega)]; exact (rj_X9_scores_g7_2281 hi ha hbo hs1 hs hk))
theorem rj_X9_scores_g11_2281 {g : Nat → Int32} {kind : Nat} {runs : Int32} {i : Nat} {a : Nat} {bo : Nat} {s : Nat} (hi : i < 4) (ha : a < 11) (hbo : bo < 11) (hs1 : 1 ≤ s) (hs : s < 701) (hk : kind < 5) : (X9_scores_g11 g kind runs i) 7 = g 7 := (by rw [X9_scores_g11, upd_off (by omega)]; exact (rj_X9_scores_g8_2281 hi ha hbo hs1 hs hk))
theorem rj_X9_scores_g12_2281 {g : Nat → Int32} {kind : Nat} {runs : Int32} {i : Nat} {a : Nat} {bo : Nat} {s : Nat} (hi : i < 4) (ha : a < 11) (hbo : bo < 11) (hs1 : 1 ≤ s) (hs : s < 701) (hk : kind < 5) : (X9_scores_g12 g kind runs i) 7 = g 7 := (by rw [X9_scores_g12]; split; exact (rj_X9_scores_g8_2281 hi ha hbo hs1 hs hk); exact (rj_X9_scores_g11_2281 hi ha hbo hs1 hs hk))
theorem rj_X9_scores_g15_2281 {g : Nat → Int32} {kind : Nat} {runs : Int32} {i : Nat} {a : Nat} {bo : Nat} {s : Nat} (hi : i < 4) (ha : a < 11) (hbo : bo < 11) (hs1 : 1 ≤ s) (hs : s < 701) (hk : kind < 5) : (X9_scores_g15 g kind runs i a) 7 = g 7 := (by rw [X9_scores_g15, upd_off (by omega)]; exact (rj_X9_scores_g12_2281 hi ha hbo hs1 hs hk))
theorem rj_X9_scores_g18_2281 {g : Nat → Int32} {kind : Nat} {runs : Int32} {i : Nat} {a : Nat} {bo : Nat} {s : Nat} (hi : i < 4) (ha : a < 11) (hbo : bo < 11) (hs1 : 1 ≤ s) (hs : s < 701) (hk : kind < 5) : (X9_scores_g18 g kind runs i a) 7 = g 7 := (by rw [X9_scores_g18, upd_off (by omega)]; exact (rj_X9_scores_g15_2281 hi ha hbo hs1 hs hk))
theorem rj_X9_scores_g21_2281 {g : Nat → Int32} {kind : Nat} {runs : Int32} {i : Nat} {a : Nat} {bo : Nat} {s : Nat} (hi : i < 4) (ha : a < 11) (hbo : bo < 11) (hs1 : 1 ≤ s) (hs : s < 701) (hk : kind < 5) : (X9_scores_g21 g kind runs i a) 7 = g 7 := (by rw [X9_scores_g21, upd_off (by omega)]; exact (rj_X9_scores_g18_2281 hi ha hbo hs1 hs hk))
theorem rj_X9_scores_g22_2281 {g : Nat → Int32} {kind : Nat} {runs : Int32} {bnd : Int32} {i : Nat} {a : Nat} {bo : Nat} {s : Nat} (hi : i < 4) (ha : a < 11) (hbo : bo < 11) (hs1 : 1 ≤ s) (hs : s < 701) (hk : kind < 5) : (X9_scores_g22 g kind runs bnd i a) 7 = g 7 := (by rw [X9_scores_g22]; split; exact (rj_X9_scores_g18_2281 hi ha hbo hs1 hs hk); exact (rj_X9_scores_g21_2281 hi ha hbo hs1 hs hk))
theorem rj_X9_scores_g24_2281 {g : Nat → Int32} {kind : Nat} {runs : Int32} {bnd : Int32} {i : Nat} {a : Nat} {bo : Nat} {s : Nat} (hi : i < 4) (ha : a < 11) (hbo : bo < 11) (hs1 : 1 ≤ s) (hs : s < 701) (hk : kind < 5) : (X9_scores_g24 g kind runs bnd i a bo) 7 = g 7 := (by rw [X9_scores_g24, upd_off (by omega)]; exact (rj_X9_scores_g22_2281 hi ha hbo hs1 hs hk))
theorem rj_X9_scores_g27_2281 {g : Nat → Int32} {kind : Nat} {runs : Int32} {bnd : Int32} {i : Nat} {a : Nat} {bo : Nat} {s : Nat} (hi : i < 4) (ha : a < 11) (hbo : bo < 11) (hs1 : 1 ≤ s) (hs : s < 701) (hk : kind < 5) : (X9_scores_g27 g kind runs bnd i a bo) 7 = g 7 := (by rw [X9_scores_g27, upd_off (by omega)]; exact (rj_X9_scores_g24_2281 hi ha hbo hs1 hs hk))
theorem rj_X9_scores_g29_2281 {g : Nat → Int32} {kind : Nat} {runs : Int32} {bnd : Int32} {i : Nat} {a : Nat} {bo : Nat} {s : Nat} (hi : i < 4) (ha : a < 11) (hbo : bo < 11) (hs1 : 1 ≤ s) (hs : s < 701) (hk : kind < 5) : (X9_scores_g29 g kind runs bnd i a bo) 7 = g 7 := (by rw [X9_scores_g29, upd_off (by omega)]; exact (rj_X9_scores_g27_2281 hi ha hbo hs1 hs hk))
theorem rj_X9_scores_g31_2281 {g : Nat → Int32} {kind : Nat} {runs : Int32} {bnd : Int32} {i : Nat} {a : Nat} {bo : Nat} {s : Nat} (hi : i < 4) (ha : a < 11) (hbo : bo < 11) (hs1 : 1 ≤ s) (hs : s < 701) (hk : kind < 5) : (X9_scores_g31 g kind runs bnd i a bo) 7 = g 7 := (by rw [X9_scores_g31, upd_off (by omega)]; exact (rj_X9_scores_g29_2281 hi ha hbo hs1 hs hk))
theorem rj_X9_scores_g32_2281 {g : Nat → Int32} {kind : Nat} {runs : Int32} {bnd : Int32} {i : Nat} {a : Nat} {bo : Nat} {s : Nat} (hi : i < 4) (ha : a < 11) (hbo : bo < 11) (hs1 : 1 ≤ s) (hs : s < 701) (hk : kind < 5) : (X9_scores_g32 g kind runs bnd i a bo) 7 = g 7 := (by rw [X9_scores_g32]; split; exact (rj_X9_scores_g31_2281 hi ha hbo hs1 hs hk); exact (rj_X9_scores_g29_2281 hi ha hbo hs1 hs hk))
theorem rj_X9_scores_g33_2281 {g : Nat → Int32} {kind : Nat} {runs : Int32} {bnd : Int32} {i : Nat} {a : Nat} {bo : Nat} {s : Nat} (hi : i < 4) (ha : a < 11) (hbo : bo < 11) (hs1 : 1 ≤ s) (hs : s < 701) (hk : kind < 5) : (X9_scores_g33 g kind runs bnd i a bo) 7 = g 7 := (by rw [X9_scores_g33, upd_off (by omega)]; exact (rj_X9_scores_g32_2281 hi ha hbo hs1 hs hk))
theorem rj_X9_scores_g35_2281 {g : Nat → Int32} {kind : Nat} {runs : Int32} {bnd : Int32} {i : Nat} {a : Nat} {bo : Nat} {s : Nat} (hi : i < 4) (ha : a < 11) (hbo : bo < 11) (hs1 : 1 ≤ s) (hs : s < 701) (hk : kind < 5) : (X9_scores_g35 g kind runs bnd i a bo s) 7 = g 7 := (by rw [X9_scores_g35, upd_off (by omega)]; exact (rj_X9_scores_g33_2281 hi ha hbo hs1 hs hk))
theorem rj_X9_scores_g37_2281 {g : Nat → Int32} {kind : Nat} {runs : Int32} {bnd : Int32} {i : Nat} {a : Nat} {bo : Nat} {s : Nat} (hi : i < 4) (ha : a < 11) (hbo : bo < 11) (hs1 : 1 ≤ s) (hs : s < 701) (hk : kind < 5) : (X9_scores_g37 g kind runs bnd i a bo s) 7 = g 7 := (by rw [X9_scores_g37, upd_off (by omega)]; exact (rj_X9_scores_g35_2281 hi ha hbo hs1 hs hk))
theorem rd_X9_scores_7 {g : Nat → Int32} {kind : Nat} {runs : Int32} {bnd : Int32} {i : Nat} {a : Nat} {bo : Nat} {s : Nat} (hi : i < 4) (ha : a < 11) (hbo : bo < 11) (hs1 : 1 ≤ s) (hs : s < 701) (hk : kind < 5) : (X9_scores_g44 g kind runs bnd i a bo s) 7 = g 7 := (by rw [X9_scores_g44, upd_off (by omega)]; exact (by rw [X9_scores_g41]; split; exact (rj_X9_scores_g37_2281 hi ha hbo hs1 hs hk); exact (by rw [X9_scores_g40, upd_off (by omega)]; exact (rj_X9_scores_g37_2281 hi ha hbo hs1 hs hk))))
theorem rj_X9_scores_g6_2282 {g : Nat → Int32} {kind : Nat} {i : Nat} {a : Nat} {bo : Nat} {s : Nat} (hi : i < 4) (ha : a < 11) (hbo : bo < 11) (hs1 : 1 ≤ s) (hs : s < 701) (hk : kind < 5) : (X9_scores_g6 g i) 8 = g 8 := (by rw [X9_scores_g6, upd_off (by omega)])
theorem rj_X9_scores_g7_2282 {g : Nat → Int32} {kind : Nat} {runs : Int32} {i : Nat} {a : Nat} {bo : Nat} {s : Nat} (hi : i < 4) (ha : a < 11) (hbo : bo < 11) (hs1 : 1 ≤ s) (hs : s < 701) (hk : kind < 5) : (X9_scores_g7 g kind runs i) 8 = g 8 := (by rw [X9_scores_g7, upd_off (by omega)]; exact (rj_X9_scores_g6_2282 hi ha hbo hs1 hs hk))
theorem rj_X9_scores_g8_2282 {g : Nat → Int32} {kind : Nat} {runs : Int32} {i : Nat} {a : Nat} {bo : Nat} {s : Nat} (hi : i < 4) (ha : a < 11) (hbo : bo < 11) (hs1 : 1 ≤ s) (hs : s < 701) (hk : kind < 5) : (X9_scores_g8 g kind runs i) 8 = g 8 := (by rw [X9_scores_g8, upd_off (by omega)]; exact (rj_X9_scores_g7_2282 hi ha hbo hs1 hs hk))
theorem rj_X9_scores_g11_2282 {g : Nat → Int32} {kind : Nat} {runs : Int32} {i : Nat} {a : Nat} {bo : Nat} {s : Nat} (hi : i < 4) (ha : a < 11) (hbo : bo < 11) (hs1 : 1 ≤ s) (hs : s < 701) (hk : kind < 5) : (X9_scores_g11 g kind runs i) 8 = g 8 := (by rw [X9_scores_g11, upd_off (by omega)]; exact (rj_X9_scores_g8_2282 hi ha hbo hs1 hs hk))
theorem rj_X9_scores_g12_2282 {g : Nat → Int32} {kind : Nat} {runs : Int32} {i : Nat} {a : Nat} {bo : Nat} {s : Nat} (hi : i < 4) (ha : a < 11) (hbo : bo < 11) (hs1 : 1 ≤ s) (hs : s < 701) (hk : kind < 5) : (X9_scores_g12 g kind runs i) 8 = g 8 := (by rw [X9_scores_g12]; split; exact (rj_X9_scores_g8_2282 hi ha hbo hs1 hs hk); exact (rj_X9_scores_g11_2282 hi ha hbo hs1 hs hk))
theorem rj_X9_scores_g15_2282 {g : Nat → Int32} {kind : Nat} {runs : Int32} {i : Nat} {a : Nat} {bo : Nat} {s : Nat} (hi : i < 4) (ha : a < 11) (hbo : bo < 11) (hs1 : 1 ≤ s) (hs : s < 701) (hk : kind < 5) : (X9_scores_g15 g kind runs i a) 8 = g 8 := (by rw [X9_scores_g15, upd_off (by omega)]; exact (rj_X9_scores_g12_2282 hi ha hbo hs1 hs hk))
theorem rj_X9_scores_g18_2282 {g : Nat → Int32} {kind : Nat} {runs : Int32} {i : Nat} {a : Nat} {bo : Nat} {s : Nat} (hi : i < 4) (ha : a < 11) (hbo : bo < 11) (hs1 : 1 ≤ s) (hs : s < 701) (hk : kind < 5) : (X9_scores_g18 g kind runs i a) 8 = g 8 := (by rw [X9_scores_g18, upd_off (by omega)]; exact (rj_X9_scores_g15_2282 hi ha hbo hs1 hs hk))
theorem rj_X9_scores_g21_2282 {g : Nat → Int32} {kind : Nat} {runs : Int32} {i : Nat} {a : Nat} {bo : Nat} {s : Nat} (hi : i < 4) (ha : a < 11) (hbo : bo < 11) (hs1 : 1 ≤ s) (hs : s < 701) (hk : kind < 5) : (X9_scores_g21 g kind runs i a) 8 = g 8 := (by rw [X9_scores_g21, upd_off (by omega)]; exact (rj_X9_scores_g18_2282 hi ha hbo hs1 hs hk))
theorem rj_X9_scores_g22_2282 {g : Nat → Int32} {kind : Nat} {runs : Int32} {bnd : Int32} {i : Nat} {a : Nat} {bo : Nat} {s : Nat} (hi : i < 4) (ha : a < 11) (hbo : bo < 11) (hs1 : 1 ≤ s) (hs : s < 701) (hk : kind < 5) : (X9_scores_g22 g kind runs bnd i a) 8 = g 8 := (by rw [X9_scores_g22]; split; exact (rj_X9_scores_g18_2282 hi ha hbo hs1 hs hk); exact (rj_X9_scores_g21_2282 hi ha hbo hs1 hs hk))
theorem rj_X9_scores_g24_2282 {g : Nat → Int32} {kind : Nat} {runs : Int32} {bnd : Int32} {i : Nat} {a : Nat} {bo : Nat} {s : Nat} (hi : i < 4) (ha : a < 11) (hbo : bo < 11) (hs1 : 1 ≤ s) (hs : s < 701) (hk : kind < 5) : (X9_scores_g24 g kind runs bnd i a bo) 8 = g 8 := (by rw [X9_scores_g24, upd_off (by omega)]; exact (rj_X9_scores_g22_2282 hi ha hbo hs1 hs hk))
theorem rj_X9_scores_g27_2282 {g : Nat → Int32} {kind : Nat} {runs : Int32} {bnd : Int32} {i : Nat} {a : Nat} {bo : Nat} {s : Nat} (hi : i < 4) (ha : a < 11) (hbo : bo < 11) (hs1 : 1 ≤ s) (hs : s < 701) (hk : kind < 5) : (X9_scores_g27 g kind runs bnd i a bo) 8 = g 8 := (by rw [X9_scores_g27, upd_off (by omega)]; exact (rj_X9_scores_g24_2282 hi ha hbo hs1 hs hk))
theorem rj_X9_scores_g29_2282 {g : Nat → Int32} {kind : Nat} {runs : Int32} {bnd : Int32} {i : Nat} {a : Nat} {bo : Nat} {s : Nat} (hi : i < 4) (ha : a < 11) (hbo : bo < 11) (hs1 : 1 ≤ s) (hs : s < 701) (hk : kind < 5) : (X9_scores_g29 g kind runs bnd i a bo) 8 = g 8 := (by rw [X9_scores_g29, upd_off (by omega)]; exact (rj_X9_scores_g27_2282 hi ha hbo hs1 hs hk))
theorem rj_X9_scores_g31_2282 {g : Nat → Int32} {kind : Nat} {runs : Int32} {bnd : Int32} {i : Nat} {a : Nat} {bo : Nat} {s : Nat} (hi : i < 4) (ha : a < 11) (hbo : bo < 11) (hs1 : 1 ≤ s) (hs : s < 701) (hk : kind < 5) : (X9_scores_g31 g kind runs bnd i a bo) 8 = g 8 := (by rw [X9_scores_g31, upd_off (by omega)]; exact (rj_X9_scores_g29_2282 hi ha hbo hs1 hs hk))
theorem rj_X9_scores_g32_2282 {g : Nat → Int32} {kind : Nat} {runs : Int32} {bnd : Int32} {i : Nat} {a : Nat} {bo : Nat} {s : Nat} (hi : i < 4) (ha : a < 11) (hbo : bo < 11) (hs1 : 1 ≤ s) (hs : s < 701) (hk : kind < 5) : (X9_scores_g32 g kind runs bnd i a bo) 8 = g 8 := (by rw [X9_scores_g32]; split; exact (rj_X9_scores_g31_2282 hi ha hbo hs1 hs hk); exact (rj_X9_scores_g29_2282 hi ha hbo hs1 hs hk))
theorem rj_X9_scores_g33_2282 {g : Nat → Int32} {kind : Nat} {runs : Int32} {bnd : Int32} {i : Nat} {a : Nat} {bo : Nat} {s : Nat} (hi : i < 4) (ha : a < 11) (hbo : bo < 11) (hs1 : 1 ≤ s) (hs : s < 701) (hk : kind < 5) : (X9_scores_g33 g kind runs bnd i a bo) 8 = g 8 := (by rw [X9_scores_g33, upd_off (by omega)]; exact (rj_X9_scores_g32_2282 hi ha hbo hs1 hs hk))
theorem rj_X9_scores_g35_2282 {g : Nat → Int32} {kind : Nat} {runs : Int32} {bnd : Int32} {i : Nat} {a : Nat} {bo : Nat} {s : Nat} (hi : i < 4) (ha : a < 11) (hbo : bo < 11) (hs1 : 1 ≤ s) (hs : s < 701) (hk : kind < 5) : (X9_scores_g35 g kind runs bnd i a bo s) 8 = g 8 := (by rw [X9_scores_g35, upd_off (by omega)]; exact (rj_X9_scores_g33_2282 hi ha hbo hs1 hs hk))
theorem rj_X9_scores_g37_2282 {g : Nat → Int32} {kind : Nat} {runs : Int32} {bnd : Int32} {i : Nat} {a : Nat} {bo : Nat} {s : Nat} (hi : i < 4) (ha : a < 11) (hbo : bo < 11) (hs1 : 1 ≤ s) (hs : s < 701) (hk : kind < 5) : (X9_scores_g37 g kind runs bnd i a bo s) 8 = g 8 := (by rw [X9_scores_g37, upd_off (by omega)]; exact (rj_X9_scores_g35_2282 hi ha hbo hs1 hs hk))
theorem rd_X9_scores_8 {g : Nat → Int32} {kind : Nat} {runs : Int32} {bnd : Int32} {i : Nat} {a : Nat} {bo : Nat} {s : Nat} (hi : i < 4) (ha : a < 11) (hbo : bo < 11) (hs1 : 1 ≤ s) (hs : s < 701) (hk : kind < 5) : (X9_scores_g44 g kind runs bnd i a bo s) 8 = g 8 := (by rw [X9_scores_g44, upd_off (by omega)]; exact (by rw [X9_scores_g41]; split; exact (rj_X9_scores_g37_2282 hi ha hbo hs1 hs hk); exact (by rw [X9_scores_g40, upd_off (by omega)]; exact (rj_X9_scores_g37_2282 hi ha hbo hs1 hs hk))))
theorem rj_X9_scores_g6_2283 {g : Nat → Int32} {kind : Nat} {i : Nat} {a : Nat} {bo : Nat} {s : Nat} (hi : i < 4) (ha : a < 11) (hbo : bo < 11) (hs1 : 1 ≤ s) (hs : s < 701) (hk : kind < 5) : (X9_scores_g6 g i) 9 = g 9 := (by rw [X9_scores_g6, upd_off (by omega)])
theorem rj_X9_scores_g7_2283 {g : Nat → Int32} {kind : Nat} {runs : Int32} {i : Nat} {a : Nat} {bo : Nat} {s : Nat} (hi : i < 4) (ha : a < 11) (hbo : bo < 11) (hs1 : 1 ≤ s) (hs : s < 701) (hk : kind < 5) : (X9_scores_g7 g kind runs i) 9 = g 9 := (by rw [X9_scores_g7, upd_off (by omega)]; exact (rj_X9_scores_g6_2283 hi ha hbo hs1 hs hk))
theorem rj_X9_scores_g8_2283 {g : Nat → Int32} {kind : Nat} {runs : Int32} {i : Nat} {a : Nat} {bo : Nat} {s : Nat} (hi : i < 4) (ha : a < 11) (hbo : bo < 11) (hs1 : 1 ≤ s) (hs : s < 701) (hk : kind < 5) : (X9_scores_g8 g kind runs i) 9 = g 9 := (by rw [X9_scores_g8, upd_off (by omega)]; exact (rj_X9_scores_g7_2283 hi ha hbo hs1 hs hk))
theorem rj_X9_scores_g11_2283 {g : Nat → Int32} {kind : Nat} {runs : Int32} {i : Nat} {a : Nat} {bo : Nat} {s : Nat} (hi : i < 4) (ha : a < 11) (hbo : bo < 11) (hs1 : 1 ≤ s) (hs : s < 701) (hk : kind < 5) : (X9_scores_g11 g kind runs i) 9 = g 9 := (by rw [X9_scores_g11, upd_off (by omega)]; exact (rj_X9_scores_g8_2283 hi ha hbo hs1 hs hk))
theorem rj_X9_scores_g12_2283 {g : Nat → Int32} {kind : Nat} {runs : Int32} {i : Nat} {a : Nat} {bo : Nat} {s : Nat} (hi : i < 4) (ha : a < 11) (hbo : bo < 11) (hs1 : 1 ≤ s) (hs : s < 701) (hk : kind < 5) : (X9_scores_g12 g kind runs i) 9 = g 9 := (by rw [X9_scores_g12]; split; exact (rj_X9_scores_g8_2283 hi ha hbo hs1 hs hk); exact (rj_X9_scores_g11_2283 hi ha hbo hs1 hs hk))
theorem rj_X9_scores_g15_2283 {g : Nat → Int32} {kind : Nat} {runs : Int32} {i : Nat} {a : Nat} {bo : Nat} {s : Nat} (hi : i < 4) (ha : a < 11) (hbo : bo < 11) (hs1 : 1 ≤ s) (hs : s < 701) (hk : kind < 5) : (X9_scores_g15 g kind runs i a) 9 = g 9 := (by rw [X9_scores_g15, upd_off (by omega)]; exact (rj_X9_scores_g12_2283 hi ha hbo hs1 hs hk))
theorem rj_X9_scores_g18_2283 {g : Nat → Int32} {kind : Nat} {runs : Int32} {i : Nat} {a : Nat} {bo : Nat} {s : Nat} (hi : i < 4) (ha : a < 11) (hbo : bo < 11) (hs1 : 1 ≤ s) (hs : s < 701) (hk : kind < 5) : (X9_scores_g18 g kind runs i a) 9 = g 9 := (by rw [X9_scores_g18, upd_off (by omega)]; exact (rj_X9_scores_g15_2283 hi ha hbo hs1 hs hk))
theorem rj_X9_scores_g21_2283 {g : Nat → Int32} {kind : Nat} {runs : Int32} {i : Nat} {a : Nat} {bo : Nat} {s : Nat} (hi : i < 4) (ha : a < 11) (hbo : bo < 11) (hs1 : 1 ≤ s) (hs : s < 701) (hk : kind < 5) : (X9_scores_g21 g kind runs i a) 9 = g 9 := (by rw [X9_scores_g21, upd_off (by omega)]; exact (rj_X9_scores_g18_2283 hi ha hbo hs1 hs hk))
theorem rj_X9_scores_g22_2283 {g : Nat → Int32} {kind : Nat} {runs : Int32} {bnd : Int32} {i : Nat} {a : Nat} {bo : Nat} {s : Nat} (hi : i < 4) (ha : a < 11) (hbo : bo < 11) (hs1 : 1 ≤ s) (hs : s < 701) (hk : kind < 5) : (X9_scores_g22 g kind runs bnd i a) 9 = g 9 := (by rw [X9_scores_g22]; split; exact (rj_X9_scores_g18_2283 hi ha hbo hs1 hs hk); exact (rj_X9_scores_g21_2283 hi ha hbo hs1 hs hk))
theorem rj_X9_scores_g24_2283 {g : Nat → Int32} {kind : Nat} {runs : Int32} {bnd : Int32} {i : Nat} {a : Nat} {bo : Nat} {s : Nat} (hi : i < 4) (ha : a < 11) (hbo : bo < 11) (hs1 : 1 ≤ s) (hs : s < 701) (hk : kind < 5) : (X9_scores_g24 g kind runs bnd i a bo) 9 = g 9 := (by rw [X9_scores_g24, upd_off (by omega)]; exact (rj_X9_scores_g22_2283 hi ha hbo hs1 hs hk))
theorem rj_X9_scores_g27_2283 {g : Nat → Int32} {kind : Nat} {runs : Int32} {bnd : Int32} {i : Nat} {a : Nat} {bo : Nat} {s : Nat} (hi : i < 4) (ha : a < 11) (hbo : bo < 11) (hs1 : 1 ≤ s) (hs : s < 701) (hk : kind < 5) : (X9_scores_g27 g kind runs bnd i a bo) 9 = g 9 := (by rw [X9_scores_g27, upd_off (by omega)]; exact (rj_X9_scores_g24_2283 hi ha hbo hs1 hs hk))
theorem rj_X9_scores_g29_2283 {g : Nat → Int32} {kind : Nat} {runs : Int32} {bnd : Int32} {i : Nat} {a : Nat} {bo : Nat} {s : Nat} (hi : i < 4) (ha : a < 11) (hbo : bo < 11) (hs1 : 1 ≤ s) (hs : s < 701) (hk : kind < 5) : (X9_scores_g29 g kind runs bnd i a bo) 9 = g 9 := (by rw [X9_scores_g29, upd_off (by omega)]; exact (rj_X9_scores_g27_2283 hi ha hbo hs1 hs hk))
theorem rj_X9_scores_g31_2283 {g : Nat → Int32} {kind : Nat} {runs : Int32} {bnd : Int32} {i : Nat} {a : Nat} {bo : Nat} {s : Nat} (hi : i < 4) (ha : a < 11) (hbo : bo < 11) (hs1 : 1 ≤ s) (hs : s < 701) (hk : kind < 5) : (X9_scores_g31 g kind runs bnd i a bo) 9 = g 9 := (by rw [X9_scores_g31, upd_off (by omega)]; exact (rj_X9_scores_g29_2283 hi ha hbo hs1 hs hk))
theorem rj_X9_scores_g32_2283 {g : Nat → Int32} {kind : Nat} {runs : Int32} {bnd : Int32} {i : Nat} {a : Nat} {bo : Nat} {s : Nat} (hi : i < 4) (ha : a < 11) (hbo : bo < 11) (hs1 : 1 ≤ s) (hs : s < 701) (hk : kind < 5) : (X9_scores_g32 g kind runs bnd i a bo) 9 = g 9 := (by rw [X9_scores_g32]; split; exact (rj_X9_scores_g31_2283 hi ha hbo hs1 hs hk); exact (rj_X9_scores_g29_2283 hi ha hbo hs1 hs hk))
theorem rj_X9_scores_g33_2283 {g : Nat → Int32} {kind : Nat} {runs : Int32} {bnd : Int32} {i : Nat} {a : Nat} {bo : Nat} {s : Nat} (hi : i < 4) (ha : a < 11) (hbo : bo < 11) (hs1 : 1 ≤ s) (hs : s < 701) (hk : kind < 5) : (X9_scores_g33 g kind runs bnd i a bo) 9 = g 9 := (by rw [X9_scores_g33, upd_off (by omega)]; exact (rj_X9_scores_g32_2283 hi ha hbo hs1 hs hk))
theorem rj_X9_scores_g35_2283 {g : Nat → Int32} {kind : Nat} {runs : Int32} {bnd : Int32} {i : Nat} {a : Nat} {bo : Nat} {s : Nat} (hi : i < 4) (ha : a < 11) (hbo : bo < 11) (hs1 : 1 ≤ s) (hs : s < 701) (hk : kind < 5) : (X9_scores_g35 g kind runs bnd i a bo s) 9 = g 9 := (by rw [X9_scores_g35, upd_off (by omega)]; exact (rj_X9_scores_g33_2283 hi ha hbo hs1 hs hk))
theorem rj_X9_scores_g37_2283 {g : Nat → Int32} {kind : Nat} {runs : Int32} {bnd : Int32} {i : Nat} {a : Nat} {bo : Nat} {s : Nat} (hi : i < 4) (ha : a < 11) (hbo : bo < 11) (hs1 : 1 ≤ s) (hs : s < 701) (hk : kind < 5) : (X9_scores_g37 g kind runs bnd i a bo s) 9 = g 9 := (by rw [X9_scores_g37, upd_off (by omega)]; exact (rj_X9_scores_g35_2283 hi ha hbo hs1 hs hk))
theorem rd_X9_scores_9 {g : Nat → Int32} {kind : Nat} {runs : Int32} {bnd : Int32} {i : Nat} {a : Nat} {bo : Nat} {s : Nat} (hi : i < 4) (ha : a < 11) (hbo : bo < 11) (hs1 : 1 ≤ s) (hs : s < 701) (hk : kind < 5) : (X9_scores_g44 g kind runs bnd i a bo s) 9 = g 9 := (by rw [X9_scores_g44, upd_off (by omega)]; exact (by rw [X9_scores_g41]; split; exact (rj_X9_scores_g37_2283 hi ha hbo hs1 hs hk); exact (by rw [X9_scores_g40, upd_off (by omega)]; exact (rj_X9_scores_g37_2283 hi ha hbo hs1 hs hk))))
theorem rj_X9_scores_g6_2284 {g : Nat → Int32} {kind : Nat} {i : Nat} {a : Nat} {bo : Nat} {s : Nat} (hi : i < 4) (ha : a < 11) (hbo : bo < 11) (hs1 : 1 ≤ s) (hs : s < 701) (hk : kind < 5) : (X9_scores_g6 g i) 13 = g 13 := (by rw [X9_scores_g6, upd_off (by omega)])
theorem rj_X9_scores_g7_2284 {g : Nat → Int32} {kind : Nat} {runs : Int32} {i : Nat} {a : Nat} {bo : Nat} {s : Nat} (hi : i < 4) (ha : a < 11) (hbo : bo < 11) (hs1 : 1 ≤ s) (hs : s < 701) (hk : kind < 5) : (X9_scores_g7 g kind runs i) 13 = g 13 := (by rw [X9_scores_g7, upd_off (by omega)]; exact (rj_X9_scores_g6_2284 hi ha hbo hs1 hs hk))
theorem rj_X9_scores_g8_2284 {g : Nat → Int32} {kind : Nat} {runs : Int32} {i : Nat} {a : Nat} {bo : Nat} {s : Nat} (hi : i < 4) (ha : a < 11) (hbo : bo < 11) (hs1 : 1 ≤ s) (hs : s < 701) (hk : kind < 5) : (X9_scores_g8 g kind runs i) 13 = g 13 := (by rw [X9_scores_g8, upd_off (by omega)]; exact (rj_X9_scores_g7_2284 hi ha hbo hs1 hs hk))
theorem rj_X9_scores_g11_2284 {g : Nat → Int32} {kind : Nat} {runs : Int32} {i : Nat} {a : Nat} {bo : Nat} {s : Nat} (hi : i < 4) (ha : a < 11) (hbo : bo < 11) (hs1 : 1 ≤ s) (hs : s < 701) (hk : kind < 5) : (X9_scores_g11 g kind runs i) 13 = g 13 := (by rw [X9_scores_g11, upd_off (by omega)]; exact (rj_X9_scores_g8_2284 hi ha hbo hs1 hs hk))
theorem rj_X9_scores_g12_2284 {g : Nat → Int32} {kind : Nat} {runs : Int32} {i : Nat} {a : Nat} {bo : Nat} {s : Nat} (hi : i < 4) (ha : a < 11) (hbo : bo < 11) (hs1 : 1 ≤ s) (hs : s < 701) (hk : kind < 5) : (X9_scores_g12 g kind runs i) 13 = g 13 := (by rw [X9_scores_g12]; split; exact (rj_X9_scores_g8_2284 hi ha hbo hs1 hs hk); exact (rj_X9_scores_g11_2284 hi ha hbo hs1 hs hk))
theorem rj_X9_scores_g15_2284 {g : Nat → Int32} {kind : Nat} {runs : Int32} {i : Nat} {a : Nat} {bo : Nat} {s : Nat} (hi : i < 4) (ha : a < 11) (hbo : bo < 11) (hs1 : 1 ≤ s) (hs : s < 701) (hk : kind < 5) : (X9_scores_g15 g kind runs i a) 13 = g 13 := (by rw [X9_scores_g15, upd_off (by omega)]; exact (rj_X9_scores_g12_2284 hi ha hbo hs1 hs hk))
theorem rj_X9_scores_g18_2284 {g : Nat → Int32} {kind : Nat} {runs : Int32} {i : Nat} {a : Nat} {bo : Nat} {s : Nat} (hi : i < 4) (ha : a < 11) (hbo : bo < 11) (hs1 : 1 ≤ s) (hs : s < 701) (hk : kind < 5) : (X9_scores_g18 g kind runs i a) 13 = g 13 := (by rw [X9_scores_g18, upd_off (by omega)]; exact (rj_X9_scores_g15_2284 hi ha hbo hs1 hs hk))
theorem rj_X9_scores_g21_2284 {g : Nat → Int32} {kind : Nat} {runs : Int32} {i : Nat} {a : Nat} {bo : Nat} {s : Nat} (hi : i < 4) (ha : a < 11) (hbo : bo < 11) (hs1 : 1 ≤ s) (hs : s < 701) (hk : kind < 5) : (X9_scores_g21 g kind runs i a) 13 = g 13 := (by rw [X9_scores_g21, upd_off (by omega)]; exact (rj_X9_scores_g18_2284 hi ha hbo hs1 hs hk))
theorem rj_X9_scores_g22_2284 {g : Nat → Int32} {kind : Nat} {runs : Int32} {bnd : Int32} {i : Nat} {a : Nat} {bo : Nat} {s : Nat} (hi : i < 4) (ha : a < 11) (hbo : bo < 11) (hs1 : 1 ≤ s) (hs : s < 701) (hk : kind < 5) : (X9_scores_g22 g kind runs bnd i a) 13 = g 13 := (by rw [X9_scores_g22]; split; exact (rj_X9_scores_g18_2284 hi ha hbo hs1 hs hk); exact (rj_X9_scores_g21_2284 hi ha hbo hs1 hs hk))
theorem rj_X9_scores_g24_2284 {g : Nat → Int32} {kind : Nat} {runs : Int32} {bnd : Int32} {i : Nat} {a : Nat} {bo : Nat} {s : Nat} (hi : i < 4) (ha : a < 11) (hbo : bo < 11) (hs1 : 1 ≤ s) (hs : s < 701) (hk : kind < 5) : (X9_scores_g24 g kind runs bnd i a bo) 13 = g 13 := (by rw [X9_scores_g24, upd_off (by omega)]; exact (rj_X9_scores_g22_2284 hi ha hbo hs1 hs hk))
theorem rj_X9_scores_g27_2284 {g : Nat → Int32} {kind : Nat} {runs : Int32} {bnd : Int32} {i : Nat} {a : Nat} {bo : Nat} {s : Nat} (hi : i < 4) (ha : a < 11) (hbo : bo < 11) (hs1 : 1 ≤ s) (hs : s < 701) (hk : kind < 5) : (X9_scores_g27 g kind runs bnd i a bo) 13 = g 13 := (by rw [X9_scores_g27, upd_off (by omega)]; exact (rj_X9_scores_g24_2284 hi ha hbo hs1 hs hk))
theorem rj_X9_scores_g29_2284 {g : Nat → Int32} {kind : Nat} {runs : Int32} {bnd : Int32} {i : Nat} {a : Nat} {bo : Nat} {s : Nat} (hi : i < 4) (ha : a < 11) (hbo : bo < 11) (hs1 : 1 ≤ s) (hs : s < 701) (hk : kind < 5) : (X9_scores_g29 g kind runs bnd i a bo) 13 = g 13 := (by rw [X9_scores_g29, upd_off (by omega)]; exact (rj_X9_scores_g27_2284 hi ha hbo hs1 hs hk))
theorem rj_X9_scores_g31_2284 {g : Nat → Int32} {kind : Nat} {runs : Int32} {bnd : Int32} {i : Nat} {a : Nat} {bo : Nat} {s : Nat} (hi : i < 4) (ha : a < 11) (hbo : bo < 11) (hs1 : 1 ≤ s) (hs : s < 701) (hk : kind < 5) : (X9_scores_g31 g kind runs bnd i a bo) 13 = g 13 := (by rw [X9_scores_g31, upd_off (by omega)]; exact (rj_X9_scores_g29_2284 hi ha hbo hs1 hs hk))
theorem rj_X9_scores_g32_2284 {g : Nat → Int32} {kind : Nat} {runs : Int32} {bnd : Int32} {i : Nat} {a : Nat} {bo : Nat} {s : Nat} (hi : i < 4) (ha : a < 11) (hbo : bo < 11) (hs1 : 1 ≤ s) (hs : s < 701) (hk : kind < 5) : (X9_scores_g32 g kind runs bnd i a bo) 13 = g 13 := (by rw [X9_scores_g32]; split; exact (rj_X9_scores_g31_2284 hi ha hbo hs1 hs hk); exact (rj_X9_scores_g29_2284 hi ha hbo hs1 hs hk))
theorem rj_X9_scores_g33_2284 {g : Nat → Int32} {kind : Nat} {runs : Int32} {bnd : Int32} {i : Nat} {a : Nat} {bo : Nat} {s : Nat} (hi : i < 4) (ha : a < 11) (hbo : bo < 11) (hs1 : 1 ≤ s) (hs : s < 701) (hk : kind < 5) : (X9_scores_g33 g kind runs bnd i a bo) 13 = g 13 := (by rw [X9_scores_g33, upd_off (by omega)]; exact (rj_X9_scores_g32_2284 hi ha hbo hs1 hs hk))
theorem rj_X9_scores_g35_2284 {g : Nat → Int32} {kind : Nat} {runs : Int32} {bnd : Int32} {i : Nat} {a : Nat} {bo : Nat} {s : Nat} (hi : i < 4) (ha : a < 11) (hbo : bo < 11) (hs1 : 1 ≤ s) (hs : s < 701) (hk : kind < 5) : (X9_scores_g35 g kind runs bnd i a bo s) 13 = g 13 := (by rw [X9_scores_g35, upd_off (by omega)]; exact (rj_X9_scores_g33_2284 hi ha hbo hs1 hs hk))
theorem rj_X9_scores_g37_2284 {g : Nat → Int32} {kind : Nat} {runs : Int32} {bnd : Int32} {i : Nat} {a : Nat} {bo : Nat} {s : Nat} (hi : i < 4) (ha : a < 11) (hbo : bo < 11) (hs1 : 1 ≤ s) (hs : s < 701) (hk : kind < 5) : (X9_scores_g37 g kind runs bnd i a bo s) 13 = g 13 := (by rw [X9_scores_g37, upd_off (by omega)]; exact (rj_X9_scores_g35_2284 hi ha hbo hs1 hs hk))
theorem rd_X9_scores_13 {g : Nat → Int32} {kind : Nat} {runs : Int32} {bnd : Int32} {i : Nat} {a : Nat} {bo : Nat} {s : Nat} (hi : i < 4) (ha : a < 11) (hbo : bo < 11) (hs1 : 1 ≤ s) (hs : s < 701) (hk : kind < 5) : (X9_scores_g44 g kind runs bnd i a bo s) 13 = g 13 := (by rw [X9_scores_g44, upd_off (by omega)]; exact (by rw [X9_scores_g41]; split; exact (rj_X9_scores_g37_2284 hi ha hbo hs1 hs hk); exact (by rw [X9_scores_g40, upd_off (by omega)]; exact (rj_X9_scores_g37_2284 hi ha hbo hs1 hs hk))))
theorem rj_X9_scores_g6_2285 {g : Nat → Int32} {kind : Nat} {i : Nat} {a : Nat} {bo : Nat} {s : Nat} (hi : i < 4) (ha : a < 11) (hbo : bo < 11) (hs1 : 1 ≤ s) (hs : s < 701) (hk : kind < 5) : (X9_scores_g6 g i) 14 = g 14 := (by rw [X9_scores_g6, upd_off (by omega)])
theorem rj_X9_scores_g7_2285 {g : Nat → Int32} {kind : Nat} {runs : Int32} {i : Nat} {a : Nat} {bo : Nat} {s : Nat} (hi : i < 4) (ha : a < 11) (hbo : bo < 11) (hs1 : 1 ≤ s) (hs : s < 701) (hk : kind < 5) : (X9_scores_g7 g kind runs i) 14 = g 14 := (by rw [X9_scores_g7, upd_off (by omega)]; exact (rj_X9_scores_g6_2285 hi ha hbo hs1 hs hk))
theorem rj_X9_scores_g8_2285 {g : Nat → Int32} {kind : Nat} {runs : Int32} {i : Nat} {a : Nat} {bo : Nat} {s : Nat} (hi : i < 4) (ha : a < 11) (hbo : bo < 11) (hs1 : 1 ≤ s) (hs : s < 701) (hk : kind < 5) : (X9_scores_g8 g kind runs i) 14 = g 14 := (by rw [X9_scores_g8, upd_off (by omega)]; exact (rj_X9_scores_g7_2285 hi ha hbo hs1 hs hk))
theorem rj_X9_scores_g11_2285 {g : Nat → Int32} {kind : Nat} {runs : Int32} {i : Nat} {a : Nat} {bo : Nat} {s : Nat} (hi : i < 4) (ha : a < 11) (hbo : bo < 11) (hs1 : 1 ≤ s) (hs : s < 701) (hk : kind < 5) : (X9_scores_g11 g kind runs i) 14 = g 14 := (by rw [X9_scores_g11, upd_off (by omega)]; exact (rj_X9_scores_g8_2285 hi ha hbo hs1 hs hk))
theorem rj_X9_scores_g12_2285 {g : Nat → Int32} {kind : Nat} {runs : Int32} {i : Nat} {a : Nat} {bo : Nat} {s : Nat} (hi : i < 4) (ha : a < 11) (hbo : bo < 11) (hs1 : 1 ≤ s) (hs : s < 701) (hk : kind < 5) : (X9_scores_g12 g kind runs i) 14 = g 14 := (by rw [X9_scores_g12]; split; exact (rj_X9_scores_g8_2285 hi ha hbo hs1 hs hk); exact (rj_X9_scores_g11_2285 hi ha hbo hs1 hs hk))
theorem rj_X9_scores_g15_2285 {g : Nat → Int32} {kind : Nat} {runs : Int32} {i : Nat} {a : Nat} {bo : Nat} {s : Nat} (hi : i < 4) (ha : a < 11) (hbo : bo < 11) (hs1 : 1 ≤ s) (hs : s < 701) (hk : kind < 5) : (X9_scores_g15 g kind runs i a) 14 = g 14 := (by rw [X9_scores_g15, upd_off (by omega)]; exact (rj_X9_scores_g12_2285 hi ha hbo hs1 hs hk))
theorem rj_X9_scores_g18_2285 {g : Nat → Int32} {kind : Nat} {runs : Int32} {i : Nat} {a : Nat} {bo : Nat} {s : Nat} (hi : i < 4) (ha : a < 11) (hbo : bo < 11) (hs1 : 1 ≤ s) (hs : s < 701) (hk : kind < 5) : (X9_scores_g18 g kind runs i a) 14 = g 14 := (by rw [X9_scores_g18, upd_off (by omega)]; exact (rj_X9_scores_g15_2285 hi ha hbo hs1 hs hk))
theorem rj_X9_scores_g21_2285 {g : Nat → Int32} {kind : Nat} {runs : Int32} {i : Nat} {a : Nat} {bo : Nat} {s : Nat} (hi : i < 4) (ha : a < 11) (hbo : bo < 11) (hs1 : 1 ≤ s) (hs : s < 701) (hk : kind < 5) : (X9_scores_g21 g kind runs i a) 14 = g 14 := (by rw [X9_scores_g21, upd_off (by omega)]; exact (rj_X9_scores_g18_2285 hi ha hbo hs1 hs hk))
theorem rj_X9_scores_g22_2285 {g : Nat → Int32} {kind : Nat} {runs : Int32} {bnd : Int32} {i : Nat} {a : Nat} {bo : Nat} {s : Nat} (hi : i < 4) (ha : a < 11) (hbo : bo < 11) (hs1 : 1 ≤ s) (hs : s < 701) (hk : kind < 5) : (X9_scores_g22 g kind runs bnd i a) 14 = g 14 := (by rw [X9_scores_g22]; split; exact (rj_X9_scores_g18_2285 hi ha hbo hs1 hs hk); exact (rj_X9_scores_g21_2285 hi ha hbo hs1 hs hk))
theorem rj_X9_scores_g24_2285 {g : Nat → Int32} {kind : Nat} {runs : Int32} {bnd : Int32} {i : Nat} {a : Nat} {bo : Nat} {s : Nat} (hi : i < 4) (ha : a < 11) (hbo : bo < 11) (hs1 : 1 ≤ s) (hs : s < 701) (hk : kind < 5) : (X9_scores_g24 g kind runs bnd i a bo) 14 = g 14 := (by rw [X9_scores_g24, upd_off (by omega)]; exact (rj_X9_scores_g22_2285 hi ha hbo hs1 hs hk))
theorem rj_X9_scores_g27_2285 {g : Nat → Int32} {kind : Nat} {runs : Int32} {bnd : Int32} {i : Nat} {a : Nat} {bo : Nat} {s : Nat} (hi : i < 4) (ha : a < 11) (hbo : bo < 11) (hs1 : 1 ≤ s) (hs : s < 701) (hk : kind < 5) : (X9_scores_g27 g kind runs bnd i a bo) 14 = g 14 := (by rw [X9_scores_g27, upd_off (by omega)]; exact (rj_X9_scores_g24_2285 hi ha hbo hs1 hs hk))
theorem rj_X9_scores_g29_2285 {g : Nat → Int32} {kind : Nat} {runs : Int32} {bnd : Int32} {i : Nat} {a : Nat} {bo : Nat} {s : Nat} (hi : i < 4) (ha : a < 11) (hbo : bo < 11) (hs1 : 1 ≤ s) (hs : s < 701) (hk : kind < 5) : (X9_scores_g29 g kind runs bnd i a bo) 14 = g 14 := (by rw [X9_scores_g29, upd_off (by omega)]; exact (rj_X9_scores_g27_2285 hi ha hbo hs1 hs hk))
theorem rj_X9_scores_g31_2285 {g : Nat → Int32} {kind : Nat} {runs : Int32} {bnd : Int32} {i : Nat} {a : Nat} {bo : Nat} {s : Nat} (hi : i < 4) (ha : a < 11) (hbo : bo < 11) (hs1 : 1 ≤ s) (hs : s < 701) (hk : kind < 5) : (X9_scores_g31 g kind runs bnd i a bo) 14 = g 14 := (by rw [X9_scores_g31, upd_off (by omega)]; exact (rj_X9_scores_g29_2285 hi ha hbo hs1 hs hk))
theorem rj_X9_scores_g32_2285 {g : Nat → Int32} {kind : Nat} {runs : Int32} {bnd : Int32} {i : Nat} {a : Nat} {bo : Nat} {s : Nat} (hi : i < 4) (ha : a < 11) (hbo : bo < 11) (hs1 : 1 ≤ s) (hs : s < 701) (hk : kind < 5) : (X9_scores_g32 g kind runs bnd i a bo) 14 = g 14 := (by rw [X9_scores_g32]; split; exact (rj_X9_scores_g31_2285 hi ha hbo hs1 hs hk); exact (rj_X9_scores_g29_2285 hi ha hbo hs1 hs hk))
theorem rj_X9_scores_g33_2285 {g : Nat → Int32} {kind : Nat} {runs : Int32} {bnd : Int32} {i : Nat} {a : Nat} {bo : Nat} {s : Nat} (hi : i < 4) (ha : a < 11) (hbo : bo < 11) (hs1 : 1 ≤ s) (hs : s < 701) (hk : kind < 5) : (X9_scores_g33 g kind runs bnd i a bo) 14 = g 14 := (by rw [X9_scores_g33, upd_off (by omega)]; exact (rj_X9_scores_g32_2285 hi ha hbo hs1 hs hk))
theorem rj_X9_scores_g35_2285 {g : Nat → Int32} {kind : Nat} {runs : Int32} {bnd : Int32} {i : Nat} {a : Nat} {bo : Nat} {s : Nat} (hi : i < 4) (ha : a < 11) (hbo : bo < 11) (hs1 : 1 ≤ s) (hs : s < 701) (hk : kind < 5) : (X9_scores_g35 g kind runs bnd i a bo s) 14 = g 14 := (by rw [X9_scores_g35, upd_off (by omega)]; exact (rj_X9_scores_g33_2285 hi ha hbo hs1 hs hk))
theorem rj_X9_scores_g37_2285 {g : Nat → Int32} {kind : Nat} {runs : Int32} {bnd : Int32} {i : Nat} {a : Nat} {bo : Nat} {s : Nat} (hi : i < 4) (ha : a < 11) (hbo : bo < 11) (hs1 : 1 ≤ s) (hs : s < 701) (hk : kind < 5) : (X9_scores_g37 g kind runs bnd i a bo s) 14 = g 14 := (by rw [X9_scores_g37, upd_off (by omega)]; exact (rj_X9_scores_g35_2285 hi ha hbo hs1 hs hk))
theorem rd_X9_scores_14 {g : Nat → Int32} {kind : Nat} {runs : Int32} {bnd : Int32} {i : Nat} {a : Nat} {bo : Nat} {s : Nat} (hi : i < 4) (ha : a < 11) (hbo : bo < 11) (hs1 : 1 ≤ s) (hs : s < 701) (hk : kind < 5) : (X9_scores_g44 g kind runs bnd i a bo s) 14 = g 14 := (by rw [X9_scores_g44, upd_off (by omega)]; exact (by rw [X9_scores_g41]; split; exact (rj_X9_scores_g37_2285 hi ha hbo hs1 hs hk); exact (by rw [X9_scores_g40, upd_off (by omega)]; exact (rj_X9_scores_g37_2285 hi ha hbo hs1 hs hk))))
theorem rj_X9_scores_g6_2286 {g : Nat → Int32} {kind : Nat} {i : Nat} {a : Nat} {bo : Nat} {s : Nat} (hi : i < 4) (ha : a < 11) (hbo : bo < 11) (hs1 : 1 ≤ s) (hs : s < 701) (hk : kind < 5) : (X9_scores_g6 g i) 22 = g 22 := (by rw [X9_scores_g6, upd_off (by omega)])
theorem rj_X9_scores_g7_2286 {g : Nat → Int32} {kind : Nat} {runs : Int32} {i : Nat} {a : Nat} {bo : Nat} {s : Nat} (hi : i < 4) (ha : a < 11) (hbo : bo < 11) (hs1 : 1 ≤ s) (hs : s < 701) (hk : kind < 5) : (X9_scores_g7 g kind runs i) 22 = g 22 := (by rw [X9_scores_g7, upd_off (by omega)]; exact (rj_X9_scores_g6_2286 hi ha hbo hs1 hs hk))
theorem rj_X9_scores_g8_2286 {g : Nat → Int32} {kind : Nat} {runs : Int32} {i : Nat} {a : Nat} {bo : Nat} {s : Nat} (hi : i < 4) (ha : a < 11) (hbo : bo < 11) (hs1 : 1 ≤ s) (hs : s < 701) (hk : kind < 5) : (X9_scores_g8 g kind runs i) 22 = g 22 := (by rw [X9_scores_g8, upd_off (by omega)]; exact (rj_X9_scores_g7_2286 hi ha hbo hs1 hs hk))
theorem rj_X9_scores_g11_2286 {g : Nat → Int32} {kind : Nat} {runs : Int32} {i : Nat} {a : Nat} {bo : Nat} {s : Nat} (hi : i < 4) (ha : a < 11) (hbo : bo < 11) (hs1 : 1 ≤ s) (hs : s < 701) (hk : kind < 5) : (X9_scores_g11 g kind runs i) 22 = g 22 := (by rw [X9_scores_g11, upd_off (by omega)]; exact (rj_X9_scores_g8_2286 hi ha hbo hs1 hs hk))
theorem rj_X9_scores_g12_2286 {g : Nat → Int32} {kind : Nat} {runs : Int32} {i : Nat} {a : Nat} {bo : Nat} {s : Nat} (hi : i < 4) (ha : a < 11) (hbo : bo < 11) (hs1 : 1 ≤ s) (hs : s < 701) (hk : kind < 5) : (X9_scores_g12 g kind runs i) 22 = g 22 := (by rw [X9_scores_g12]; split; exact (rj_X9_scores_g8_2286 hi ha hbo hs1 hs hk); exact (rj_X9_scores_g11_2286 hi ha hbo hs1 hs hk))
theorem rj_X9_scores_g15_2286 {g : Nat → Int32} {kind : Nat} {runs : Int32} {i : Nat} {a : Nat} {bo : Nat} {s : Nat} (hi : i < 4) (ha : a < 11) (hbo : bo < 11) (hs1 : 1 ≤ s) (hs : s < 701) (hk : kind < 5) : (X9_scores_g15 g kind runs i a) 22 = g 22 := (by rw [X9_scores_g15, upd_off (by omega)]; exact (rj_X9_scores_g12_2286 hi ha hbo hs1 hs hk))
theorem rj_X9_scores_g18_2286 {g : Nat → Int32} {kind : Nat} {runs : Int32} {i : Nat} {a : Nat} {bo : Nat} {s : Nat} (hi : i < 4) (ha : a < 11) (hbo : bo < 11) (hs1 : 1 ≤ s) (hs : s < 701) (hk : kind < 5) : (X9_scores_g18 g kind runs i a) 22 = g 22 := (by rw [X9_scores_g18, upd_off (by omega)]; exact (rj_X9_scores_g15_2286 hi ha hbo hs1 hs hk))
theorem rj_X9_scores_g21_2286 {g : Nat → Int32} {kind : Nat} {runs : Int32} {i : Nat} {a : Nat} {bo : Nat} {s : Nat} (hi : i < 4) (ha : a < 11) (hbo : bo < 11) (hs1 : 1 ≤ s) (hs : s < 701) (hk : kind < 5) : (X9_scores_g21 g kind runs i a) 22 = g 22 := (by rw [X9_scores_g21, upd_off (by omega)]; exact (rj_X9_scores_g18_2286 hi ha hbo hs1 hs hk))
theorem rj_X9_scores_g22_2286 {g : Nat → Int32} {kind : Nat} {runs : Int32} {bnd : Int32} {i : Nat} {a : Nat} {bo : Nat} {s : Nat} (hi : i < 4) (ha : a < 11) (hbo : bo < 11) (hs1 : 1 ≤ s) (hs : s < 701) (hk : kind < 5) : (X9_scores_g22 g kind runs bnd i a) 22 = g 22 := (by rw [X9_scores_g22]; split; exact (rj_X9_scores_g18_2286 hi ha hbo hs1 hs hk); exact (rj_X9_scores_g21_2286 hi ha hbo hs1 hs hk))
theorem rj_X9_scores_g24_2286 {g : Nat → Int32} {kind : Nat} {runs : Int32} {bnd : Int32} {i : Nat} {a : Nat} {bo : Nat} {s : Nat} (hi : i < 4) (ha : a < 11) (hbo : bo < 11) (hs1 : 1 ≤ s) (hs : s < 701) (hk : kind < 5) : (X9_scores_g24 g kind runs bnd i a bo) 22 = g 22 := (by rw [X9_scores_g24, upd_off (by omega)]; exact (rj_X9_scores_g22_2286 hi ha hbo hs1 hs hk))
theorem rj_X9_scores_g27_2286 {g : Nat → Int32} {kind : Nat} {runs : Int32} {bnd : Int32} {i : Nat} {a : Nat} {bo : Nat} {s : Nat} (hi : i < 4) (ha : a < 11) (hbo : bo < 11) (hs1 : 1 ≤ s) (hs : s < 701) (hk : kind < 5) : (X9_scores_g27 g kind runs bnd i a bo) 22 = g 22 := (by rw [X9_scores_g27, upd_off (by omega)]; exact (rj_X9_scores_g24_2286 hi ha hbo hs1 hs hk))
theorem rj_X9_scores_g29_2286 {g : Nat → Int32} {kind : Nat} {runs : Int32} {bnd : Int32} {i : Nat} {a : Nat} {bo : Nat} {s : Nat} (hi : i < 4) (ha : a < 11) (hbo : bo < 11) (hs1 : 1 ≤ s) (hs : s < 701) (hk : kind < 5) : (X9_scores_g29 g kind runs bnd i a bo) 22 = g 22 := (by rw [X9_scores_g29, upd_off (by omega)]; exact (rj_X9_scores_g27_2286 hi ha hbo hs1 hs hk))
theorem rj_X9_scores_g31_2286 {g : Nat → Int32} {kind : Nat} {runs : Int32} {bnd : Int32} {i : Nat} {a : Nat} {bo : Nat} {s : Nat} (hi : i < 4) (ha : a < 11) (hbo : bo < 11) (hs1 : 1 ≤ s) (hs : s < 701) (hk : kind < 5) : (X9_scores_g31 g kind runs bnd i a bo) 22 = g 22 := (by rw [X9_scores_g31, upd_off (by omega)]; exact (rj_X9_scores_g29_2286 hi ha hbo hs1 hs hk))
theorem rj_X9_scores_g32_2286 {g : Nat → Int32} {kind : Nat} {runs : Int32} {bnd : Int32} {i : Nat} {a : Nat} {bo : Nat} {s : Nat} (hi : i < 4) (ha : a < 11) (hbo : bo < 11) (hs1 : 1 ≤ s) (hs : s < 701) (hk : kind < 5) : (X9_scores_g32 g kind runs bnd i a bo) 22 = g 22 := (by rw [X9_scores_g32]; split; exact (rj_X9_scores_g31_2286 hi ha hbo hs1 hs hk); exact (rj_X9_scores_g29_2286 hi ha hbo hs1 hs hk))
theorem rj_X9_scores_g33_2286 {g : Nat → Int32} {kind : Nat} {runs : Int32} {bnd : Int32} {i : Nat} {a : Nat} {bo : Nat} {s : Nat} (hi : i < 4) (ha : a < 11) (hbo : bo < 11) (hs1 : 1 ≤ s) (hs : s < 701) (hk : kind < 5) : (X9_scores_g33 g kind runs bnd i a bo) 22 = g 22 := (by rw [X9_scores_g33, upd_off (by omega)]; exact (rj_X9_scores_g32_2286 hi ha hbo hs1 hs hk))
theorem rj_X9_scores_g35_2286 {g : Nat → Int32} {kind : Nat} {runs : Int32} {bnd : Int32} {i : Nat} {a : Nat} {bo : Nat} {s : Nat} (hi : i < 4) (ha : a < 11) (hbo : bo < 11) (hs1 : 1 ≤ s) (hs : s < 701) (hk : kind < 5) : (X9_scores_g35 g kind runs bnd i a bo s) 22 = g 22 := (by rw [X9_scores_g35, upd_off (by omega)]; exact (rj_X9_scores_g33_2286 hi ha hbo hs1 hs hk))
theorem rj_X9_scores_g37_2286 {g : Nat → Int32} {kind : Nat} {runs : Int32} {bnd : Int32} {i : Nat} {a : Nat} {bo : Nat} {s : Nat} (hi : i < 4) (ha : a < 11) (hbo : bo < 11) (hs1 : 1 ≤ s) (hs : s < 701) (hk : kind < 5) : (X9_scores_g37 g kind runs bnd i a bo s) 22 = g 22 := (by rw [X9_scores_g37, upd_off (by omega)]; exact (rj_X9_scores_g35_2286 hi ha hbo hs1 hs hk))
theorem rd_X9_scores_22 {g : Nat → Int32} {kind : Nat} {runs : Int32} {bnd : Int32} {i : Nat} {a : Nat} {bo : Nat} {s : Nat} (hi : i < 4) (ha : a < 11) (hbo : bo < 11) (hs1 : 1 ≤ s) (hs : s < 701) (hk : kind < 5) : (X9_scores_g44 g kind runs bnd i a bo s) 22 = g 22 := (by rw [X9_scores_g44, upd_off (by omega)]; exact (by rw [X9_scores_g41]; split; exact (rj_X9_scores_g37_2286 hi ha hbo hs1 hs hk); exact (by rw [X9_scores_g40, upd_off (by omega)]; exact (rj_X9_scores_g37_2286 hi ha hbo hs1 hs hk))))
theorem rj_X9_scores_g6_2287 {g : Nat → Int32} {kind : Nat} {i : Nat} {a : Nat} {bo : Nat} {s : Nat} (hi : i < 4) (ha : a < 11) (hbo : bo < 11) (hs1 : 1 ≤ s) (hs : s < 701) (hk : kind < 5) : (X9_scores_g6 g i) 23 = g 23 := (by rw [X9_scores_g6, upd_off (by omega)])
theorem rj_X9_scores_g7_2287 {g : Nat → Int32} {kind : Nat} {runs : Int32} {i : Nat} {a : Nat} {bo : Nat} {s : Nat} (hi : i < 4) (ha : a < 11) (hbo : bo < 11) (hs1 : 1 ≤ s) (hs : s < 701) (hk : kind < 5) : (X9_scores_g7 g kind runs i) 23 = g 23 := (by rw [X9_scores_g7, upd_off (by omega)]; exact (rj_X9_scores_g6_2287 hi ha hbo hs1 hs hk))
theorem rj_X9_scores_g8_2287 {g : Nat → Int32} {kind : Nat} {runs : Int32} {i : Nat} {a : Nat} {bo : Nat} {s : Nat} (hi : i < 4) (ha : a < 11) (hbo : bo < 11) (hs1 : 1 ≤ s) (hs : s < 701) (hk : kind < 5) : (X9_scores_g8 g kind runs i) 23 = g 23 := (by rw [X9_scores_g8, upd_off (by omega)]; exact (rj_X9_scores_g7_2287 hi ha hbo hs1 hs hk))
theorem rj_X9_scores_g11_2287 {g : Nat → Int32} {kind : Nat} {runs : Int32} {i : Nat} {a : Nat} {bo : Nat} {s : Nat} (hi : i < 4) (ha : a < 11) (hbo : bo < 11) (hs1 : 1 ≤ s) (hs : s < 701) (hk : kind < 5) : (X9_scores_g11 g kind runs i) 23 = g 23 := (by rw [X9_scores_g11, upd_off (by omega)]; exact (rj_X9_scores_g8_2287 hi ha hbo hs1 hs hk))
theorem rj_X9_scores_g12_2287 {g : Nat → Int32} {kind : Nat} {runs : Int32} {i : Nat} {a : Nat} {bo : Nat} {s : Nat} (hi : i < 4) (ha : a < 11) (hbo : bo < 11) (hs1 : 1 ≤ s) (hs : s < 701) (hk : kind < 5) : (X9_scores_g12 g kind runs i) 23 = g 23 := (by rw [X9_scores_g12]; split; exact (rj_X9_scores_g8_2287 hi ha hbo hs1 hs hk); exact (rj_X9_scores_g11_2287 hi ha hbo hs1 hs hk))
theorem rj_X9_scores_g15_2287 {g : Nat → Int32} {kind : Nat} {runs : Int32} {i : Nat} {a : Nat} {bo : Nat} {s : Nat} (hi : i < 4) (ha : a < 11) (hbo : bo < 11) (hs1 : 1 ≤ s) (hs : s < 701) (hk : kind < 5) : (X9_scores_g15 g kind runs i a) 23 = g 23 := (by rw [X9_scores_g15, upd_off (by omega)]; exact (rj_X9_scores_g12_2287 hi ha hbo hs1 hs hk))
theorem rj_X9_scores_g18_2287 {g : Nat → Int32} {kind : Nat} {runs : Int32} {i : Nat} {a : Nat} {bo : Nat} {s : Nat} (hi : i < 4) (ha : a < 11) (hbo : bo < 11) (hs1 : 1 ≤ s) (hs : s < 701) (hk : kind < 5) : (X9_scores_g18 g kind runs i a) 23 = g 23 := (by rw [X9_scores_g18, upd_off (by omega)]; exact (rj_X9_scores_g15_2287 hi ha hbo hs1 hs hk))
theorem rj_X9_scores_g21_2287 {g : Nat → Int32} {kind : Nat} {runs : Int32} {i : Nat} {a : Nat} {bo : Nat} {s : Nat} (hi : i < 4) (ha : a < 11) (hbo : bo < 11) (hs1 : 1 ≤ s) (hs : s < 701) (hk : kind < 5) : (X9_scores_g21 g kind runs i a) 23 = g 23 := (by rw [X9_scores_g21, upd_off (by omega)]; exact (rj_X9_scores_g18_2287 hi ha hbo hs1 hs hk))
theorem rj_X9_scores_g22_2287 {g : Nat → Int32} {kind : Nat} {runs : Int32} {bnd : Int32} {i : Nat} {a : Nat} {bo : Nat} {s : Nat} (hi : i < 4) (ha : a < 11) (hbo : bo < 11) (hs1 : 1 ≤ s) (hs : s < 701) (hk : kind < 5) : (X9_scores_g22 g kind runs bnd i a) 23 = g 23 := (by rw [X9_scores_g22]; split; exact (rj_X9_scores_g18_2287 hi ha hbo hs1 hs hk); exact (rj_X9_scores_g21_2287 hi ha hbo hs1 hs hk))
theorem rj_X9_scores_g24_2287 {g : Nat → Int32} {kind : Nat} {runs : Int32} {bnd : Int32} {i : Nat} {a : Nat} {bo : Nat} {s : Nat} (hi : i < 4) (ha : a < 11) (hbo : bo < 11) (hs1 : 1 ≤ s) (hs : s < 701) (hk : kind < 5) : (X9_scores_g24 g kind runs bnd i a bo) 23 = g 23 := (by rw [X9_scores_g24, upd_off (by omega)]; exact (rj_X9_scores_g22_2287 hi ha hbo hs1 hs hk))
theorem rj_X9_scores_g27_2287 {g : Nat → Int32} {kind : Nat} {runs : Int32} {bnd : Int32} {i : Nat} {a : Nat} {bo : Nat} {s : Nat} (hi : i < 4) (ha : a < 11) (hbo : bo < 11) (hs1 : 1 ≤ s) (hs : s < 701) (hk : kind < 5) : (X9_scores_g27 g kind runs bnd i a bo) 23 = g 23 := (by rw [X9_scores_g27, upd_off (by omega)]; exact (rj_X9_scores_g24_2287 hi ha hbo hs1 hs hk))
theorem rj_X9_scores_g29_2287 {g : Nat → Int32} {kind : Nat} {runs : Int32} {bnd : Int32} {i : Nat} {a : Nat} {bo : Nat} {s : Nat} (hi : i < 4) (ha : a < 11) (hbo : bo < 11) (hs1 : 1 ≤ s) (hs : s < 701) (hk : kind < 5) : (X9_scores_g29 g kind runs bnd i a bo) 23 = g 23 := (by rw [X9_scores_g29, upd_off (by omega)]; exact (rj_X9_scores_g27_2287 hi ha hbo hs1 hs hk))
theorem rj_X9_scores_g31_2287 {g : Nat → Int32} {kind : Nat} {runs : Int32} {bnd : Int32} {i : Nat} {a : Nat} {bo : Nat} {s : Nat} (hi : i < 4) (ha : a < 11) (hbo : bo < 11) (hs1 : 1 ≤ s) (hs : s < 701) (hk : kind < 5) : (X9_scores_g31 g kind runs bnd i a bo) 23 = g 23 := (by rw [X9_scores_g31, upd_off (by omega)]; exact (rj_X9_scores_g29_2287 hi ha hbo hs1 hs hk))
theorem rj_X9_scores_g32_2287 {g : Nat → Int32} {kind : Nat} {runs : Int32} {bnd : Int32} {i : Nat} {a : Nat} {bo : Nat} {s : Nat} (hi : i < 4) (ha : a < 11) (hbo : bo < 11) (hs1 : 1 ≤ s) (hs : s < 701) (hk : kind < 5) : (X9_scores_g32 g kind runs bnd i a bo) 23 = g 23 := (by rw [X9_scores_g32]; split; exact (rj_X9_scores_g31_2287 hi ha hbo hs1 hs hk); exact (rj_X9_scores_g29_2287 hi ha hbo hs1 hs hk))
theorem rj_X9_scores_g33_2287 {g : Nat → Int32} {kind : Nat} {runs : Int32} {bnd : Int32} {i : Nat} {a : Nat} {bo : Nat} {s : Nat} (hi : i < 4) (ha : a < 11) (hbo : bo < 11) (hs1 : 1 ≤ s) (hs : s < 701) (hk : kind < 5) : (X9_scores_g33 g kind runs bnd i a bo) 23 = g 23 := (by rw [X9_scores_g33, upd_off (by omega)]; exact (rj_X9_scores_g32_2287 hi ha hbo hs1 hs hk))
theorem rj_X9_scores_g35_2287 {g : Nat → Int32} {kind : Nat} {runs : Int32} {bnd : Int32} {i : Nat} {a : Nat} {bo : Nat} {s : Nat} (hi : i < 4) (ha : a < 11) (hbo : bo < 11) (hs1 : 1 ≤ s) (hs : s < 701) (hk : kind < 5) : (X9_scores_g35 g kind runs bnd i a bo s) 23 = g 23 := (by rw [X9_scores_g35, upd_off (by omega)]; exact (rj_X9_scores_g33_2287 hi ha hbo hs1 hs hk))
theorem rj_X9_scores_g37_2287 {g : Nat → Int32} {kind : Nat} {runs : Int32} {bnd : Int32} {i : Nat} {a : Nat} {bo : Nat} {s : Nat} (hi : i < 4) (ha : a < 11) (hbo : bo < 11) (hs1 : 1 ≤ s) (hs : s < 701) (hk : kind < 5) : (X9_scores_g37 g kind runs bnd i a bo s) 23 = g 23 := (by rw [X9_scores_g37, upd_off (by omega)]; exact (rj_X9_scores_g35_2287 hi ha hbo hs1 hs hk))
theorem rd_X9_scores_23 {g : Nat → Int32} {kind : Nat} {runs : Int32} {bnd : Int32} {i : Nat} {a : Nat} {bo : Nat} {s : Nat} (hi : i < 4) (ha : a < 11) (hbo : bo < 11) (hs1 : 1 ≤ s) (hs : s < 701) (hk : kind < 5) : (X9_scores_g44 g kind runs bnd i a bo s) 23 = g 23 := (by rw [X9_scores_g44, upd_off (by omega)]; exact (by rw [X9_scores_g41]; split; exact (rj_X9_scores_g37_2287 hi ha hbo hs1 hs hk); exact (by rw [X9_scores_g40, upd_off (by omega)]; exact (rj_X9_scores_g37_2287 hi ha hbo hs1 hs hk))))
theorem rj_X9_scores_g6_2288 {g : Nat → Int32} {kind : Nat} {i : Nat} {a : Nat} {bo : Nat} {s : Nat} (hi : i < 4) (ha : a < 11) (hbo : bo < 11) (hs1 : 1 ≤ s) (hs : s < 701) (hk : kind < 5) : (X9_scores_g6 g i) 24 = g 24 := (by rw [X9_scores_g6, upd_off (by omega)])
theorem rj_X9_scores_g7_2288 {g : Nat → Int32} {kind : Nat} {runs : Int32} {i : Nat} {a : Nat} {bo : Nat} {s : Nat} (hi : i < 4) (ha : a < 11) (hbo : bo < 11) (hs1 : 1 ≤ s) (hs : s < 701) (hk : kind < 5) : (X9_scores_g7 g kind runs i) 24 = g 24 := (by rw [X9_scores_g7, upd_off (by omega)]; exact (rj_X9_scores_g6_2288 hi ha hbo hs1 hs hk))
theorem rj_X9_scores_g8_2288 {g : Nat → Int32} {kind : Nat} {runs : Int32} {i : Nat} {a : Nat} {bo : Nat} {s : Nat} (hi : i < 4) (ha : a < 11) (hbo : bo < 11) (hs1 : 1 ≤ s) (hs : s < 701) (hk : kind < 5) : (X9_scores_g8 g kind runs i) 24 = g 24 := (by rw [X9_scores_g8, upd_off (by omega)]; exact (rj_X9_scores_g7_2288 hi ha hbo hs1 hs hk))
theorem rj_X9_scores_g11_2288 {g : Nat → Int32} {kind : Nat} {runs : Int32} {i : Nat} {a : Nat} {bo : Nat} {s : Nat} (hi : i < 4) (ha : a < 11) (hbo : bo < 11) (hs1 : 1 ≤ s) (hs : s < 701) (hk : kind < 5) : (X9_scores_g11 g kind runs i) 24 = g 24 := (by rw [X9_scores_g11, upd_off (by omega)]; exact (rj_X9_scores_g8_2288 hi ha hbo hs1 hs hk))
theorem rj_X9_scores_g12_2288 {g : Nat → Int32} {kind : Nat} {runs : Int32} {i : Nat} {a : Nat} {bo : Nat} {s : Nat} (hi : i < 4) (ha : a < 11) (hbo : bo < 11) (hs1 : 1 ≤ s) (hs : s < 701) (hk : kind < 5) : (X9_scores_g12 g kind runs i) 24 = g 24 := (by rw [X9_scores_g12]; split; exact (rj_X9_scores_g8_2288 hi ha hbo hs1 hs hk); exact (rj_X9_scores_g11_2288 hi ha hbo hs1 hs hk))
theorem rj_X9_scores_g15_2288 {g : Nat → Int32} {kind : Nat} {runs : Int32} {i : Nat} {a : Nat} {bo : Nat} {s : Nat} (hi : i < 4) (ha : a < 11) (hbo : bo < 11) (hs1 : 1 ≤ s) (hs : s < 701) (hk : kind < 5) : (X9_scores_g15 g kind runs i a) 24 = g 24 := (by rw [X9_scores_g15, upd_off (by omega)]; exact (rj_X9_scores_g12_2288 hi ha hbo hs1 hs hk))
theorem rj_X9_scores_g18_2288 {g : Nat → Int32} {kind : Nat} {runs : Int32} {i : Nat} {a : Nat} {bo : Nat} {s : Nat} (hi : i < 4) (ha : a < 11) (hbo : bo < 11) (hs1 : 1 ≤ s) (hs : s < 701) (hk : kind < 5) : (X9_scores_g18 g kind runs i a) 24 = g 24 := (by rw [X9_scores_g18, upd_off (by omega)]; exact (rj_X9_scores_g15_2288 hi ha hbo hs1 hs hk))
theorem rj_X9_scores_g21_2288 {g : Nat → Int32} {kind : Nat} {runs : Int32} {i : Nat} {a : Nat} {bo : Nat} {s : Nat} (hi : i < 4) (ha : a < 11) (hbo : bo < 11) (hs1 : 1 ≤ s) (hs : s < 701) (hk : kind < 5) : (X9_scores_g21 g kind runs i a) 24 = g 24 := (by rw [X9_scores_g21, upd_off (by omega)]; exact (rj_X9_scores_g18_2288 hi ha hbo hs1 hs hk))
theorem rj_X9_scores_g22_2288 {g : Nat → Int32} {kind : Nat} {runs : Int32} {bnd : Int32} {i : Nat} {a : Nat} {bo : Nat} {s : Nat} (hi : i < 4) (ha : a < 11) (hbo : bo < 11) (hs1 : 1 ≤ s) (hs : s < 701) (hk : kind < 5) : (X9_scores_g22 g kind runs bnd i a) 24 = g 24 := (by rw [X9_scores_g22]; split; exact (rj_X9_scores_g18_2288 hi ha hbo hs1 hs hk); exact (rj_X9_scores_g21_2288 hi ha hbo hs1 hs hk))
theorem rj_X9_scores_g24_2288 {g : Nat → Int32} {kind : Nat} {runs : Int32} {bnd : Int32} {i : Nat} {a : Nat} {bo : Nat} {s : Nat} (hi : i < 4) (ha : a < 11) (hbo : bo < 11) (hs1 : 1 ≤ s) (hs : s < 701) (hk : kind < 5) : (X9_scores_g24 g kind runs bnd i a bo) 24 = g 24 := (by rw [X9_scores_g24, upd_off (by omega)]; exact (rj_X9_scores_g22_2288 hi ha hbo hs1 hs hk))
theorem rj_X9_scores_g27_2288 {g : Nat → Int32} {kind : Nat} {runs : Int32} {bnd : Int32} {i : Nat} {a : Nat} {bo : Nat} {s : Nat} (hi : i < 4) (ha : a < 11) (hbo : bo < 11) (hs1 : 1 ≤ s) (hs : s < 701) (hk : kind < 5) : (X9_scores_g27 g kind runs bnd i a bo) 24 = g 24 := (by rw [X9_scores_g27, upd_off (by omega)]; exact (rj_X9_scores_g24_2288 hi ha hbo hs1 hs hk))
theorem rj_X9_scores_g29_2288 {g : Nat → Int32} {kind : Nat} {runs : Int32} {bnd : Int32} {i : Nat} {a : Nat} {bo : Nat} {s : Nat} (hi : i < 4) (ha : a < 11) (hbo : bo < 11) (hs1 : 1 ≤ s) (hs : s < 701) (hk : kind < 5) : (X9_scores_g29 g kind runs bnd i a bo) 24 = g 24 := (by rw [X9_scores_g29, upd_off (by omega)]; exact (rj_X9_scores_g27_2288 hi ha hbo hs1 hs hk))
theorem rj_X9_scores_g31_2288 {g : Nat → Int32} {kind : Nat} {runs : Int32} {bnd : Int32} {i : Nat} {a : Nat} {bo : Nat} {s : Nat} (hi : i < 4) (ha : a < 11) (hbo : bo < 11) (hs1 : 1 ≤ s) (hs : s < 701) (hk : kind < 5) : (X9_scores_g31 g kind runs bnd i a bo) 24 = g 24 := (by rw [X9_scores_g31, upd_off (by omega)]; exact (rj_X9_scores_g29_2288 hi ha hbo hs1 hs hk))
theorem rj_X9_scores_g32_2288 {g : Nat → Int32} {kind : Nat} {runs : Int32} {bnd : Int32} {i : Nat} {a : Nat} {bo : Nat} {s : Nat} (hi : i < 4) (ha : a < 11) (hbo : bo < 11) (hs1 : 1 ≤ s) (hs : s < 701) (hk : kind < 5) : (X9_scores_g32 g kind runs bnd i a bo) 24 = g 24 := (by rw [X9_scores_g32]; split; exact (rj_X9_scores_g31_2288 hi ha hbo hs1 hs hk); exact (rj_X9_scores_g29_2288 hi ha hbo hs1 hs hk))
theorem rj_X9_scores_g33_2288 {g : Nat → Int32} {kind : Nat} {runs : Int32} {bnd : Int32} {i : Nat} {a : Nat} {bo : Nat} {s : Nat} (hi : i < 4) (ha : a < 11) (hbo : bo < 11) (hs1 : 1 ≤ s) (hs : s < 701) (hk : kind < 5) : (X9_scores_g33 g kind runs bnd i a bo) 24 = g 24 := (by rw [X9_scores_g33, upd_off (by omega)]; exact (rj_X9_scores_g32_2288 hi ha hbo hs1 hs hk))
theorem rj_X9_scores_g35_2288 {g : Nat → Int32} {kind : Nat} {runs : Int32} {bnd : Int32} {i : Nat} {a : Nat} {bo : Nat} {s : Nat} (hi : i < 4) (ha : a < 11) (hbo : bo < 11) (hs1 : 1 ≤ s) (hs : s < 701) (hk : kind < 5) : (X9_scores_g35 g kind runs bnd i a bo s) 24 = g 24 := (by rw [X9_scores_g35, upd_off (by omega)]; exact (rj_X9_scores_g33_2288 hi ha hbo hs1 hs hk))
theorem rj_X9_scores_g37_2288 {g : Nat → Int32} {kind : Nat} {runs : Int32} {bnd : Int32} {i : Nat} {a : Nat} {bo : Nat} {s : Nat} (hi : i < 4) (ha : a < 11) (hbo : bo < 11) (hs1 : 1 ≤ s) (hs : s < 701) (hk : kind < 5) : (X9_scores_g37 g kind runs bnd i a bo s) 24 = g 24 := (by rw [X9_scores_g37, upd_off (by omega)]; exact (rj_X9_scores_g35_2288 hi ha hbo hs1 hs hk))
theorem rd_X9_scores_24 {g : Nat → Int32} {kind : Nat} {runs : Int32} {bnd : Int32} {i : Nat} {a : Nat} {bo : Nat} {s : Nat} (hi : i < 4) (ha : a < 11) (hbo : bo < 11) (hs1 : 1 ≤ s) (hs : s < 701) (hk : kind < 5) : (X9_scores_g44 g kind runs bnd i a bo s) 24 = g 24 := (by rw [X9_scores_g44, upd_off (by omega)]; exact (by rw [X9_scores_g41]; split; exact (rj_X9_scores_g37_2288 hi ha hbo hs1 hs hk); exact (by rw [X9_scores_g40, upd_off (by omega)]; exact (rj_X9_scores_g37_2288 hi ha hbo hs1 hs hk))))
theorem rj_X9_scores_g6_2289 {g : Nat → Int32} {kind : Nat} {i : Nat} {a : Nat} {bo : Nat} {s : Nat} (hi : i < 4) (ha : a < 11) (hbo : bo < 11) (hs1 : 1 ≤ s) (hs : s < 701) (hk : kind < 5) : (X9_scores_g6 g i) (25 + 11 * i + 1) = g (25 + 11 * i + 1) := (by rw [X9_scores_g6, upd_off (by omega)])
theorem rj_X9_scores_g7_2289 {g : Nat → Int32} {kind : Nat} {runs : Int32} {i : Nat} {a : Nat} {bo : Nat} {s : Nat} (hi : i < 4) (ha : a < 11) (hbo : bo < 11) (hs1 : 1 ≤ s) (hs : s < 701) (hk : kind < 5) : (X9_scores_g7 g kind runs i) (25 + 11 * i + 1) = g (25 + 11 * i + 1) := (by rw [X9_scores_g7, upd_off (by omega)]; exact (rj_X9_scores_g6_2289 hi ha hbo hs1 hs hk))
theorem rj_X9_scores_g8_2289 {g : Nat → Int32} {kind : Nat} {runs : Int32} {i : Nat} {a : Nat} {bo : Nat} {s : Nat} (hi : i < 4) (ha : a < 11) (hbo : bo < 11) (hs1 : 1 ≤ s) (hs : s < 701) (hk : kind < 5) : (X9_scores_g8 g kind runs i) (25 + 11 * i + 1) = g (25 + 11 * i + 1) := (by rw [X9_scores_g8, upd_off (by omega)]; exact (rj_X9_scores_g7_2289 hi ha hbo hs1 hs hk))
theorem rj_X9_scores_g11_2289 {g : Nat → Int32} {kind : Nat} {runs : Int32} {i : Nat} {a : Nat} {bo : Nat} {s : Nat} (hi : i < 4) (ha : a < 11) (hbo : bo < 11) (hs1 : 1 ≤ s) (hs : s < 701) (hk : kind < 5) : (X9_scores_g11 g kind runs i) (25 + 11 * i + 1) = g (25 + 11 * i + 1) := (by rw [X9_scores_g11, upd_off (by omega)]; exact (rj_X9_scores_g8_2289 hi ha hbo hs1 hs hk))
theorem rj_X9_scores_g12_2289 {g : Nat → Int32} {kind : Nat} {runs : Int32} {i : Nat} {a : Nat} {bo : Nat} {s : Nat} (hi : i < 4) (ha : a < 11) (hbo : bo < 11) (hs1 : 1 ≤ s) (hs : s < 701) (hk : kind < 5) : (X9_scores_g12 g kind runs i) (25 + 11 * i + 1) = g (25 + 11 * i + 1) := (by rw [X9_scores_g12]; split; exact (rj_X9_scores_g8_2289 hi ha hbo hs1 hs hk); exact (rj_X9_scores_g11_2289 hi ha hbo hs1 hs hk))
theorem rj_X9_scores_g15_2289 {g : Nat → Int32} {kind : Nat} {runs : Int32} {i : Nat} {a : Nat} {bo : Nat} {s : Nat} (hi : i < 4) (ha : a < 11) (hbo : bo < 11) (hs1 : 1 ≤ s) (hs : s < 701) (hk : kind < 5) : (X9_scores_g15 g kind runs i a) (25 + 11 * i + 1) = g (25 + 11 * i + 1) := (by rw [X9_scores_g15, upd_off (by omega)]; exact (rj_X9_scores_g12_2289 hi ha hbo hs1 hs hk))
theorem rj_X9_scores_g18_2289 {g : Nat → Int32} {kind : Nat} {runs : Int32} {i : Nat} {a : Nat} {bo : Nat} {s : Nat} (hi : i < 4) (ha : a < 11) (hbo : bo < 11) (hs1 : 1 ≤ s) (hs : s < 701) (hk : kind < 5) : (X9_scores_g18 g kind runs i a) (25 + 11 * i + 1) = g (25 + 11 * i + 1) := (by rw [X9_scores_g18, upd_off (by omega)]; exact (rj_X9_scores_g15_2289 hi ha hbo hs1 hs hk))
theorem rj_X9_scores_g21_2289 {g : Nat → Int32} {kind : Nat} {runs : Int32} {i : Nat} {a : Nat} {bo : Nat} {s : Nat} (hi : i < 4) (ha : a < 11) (hbo : bo < 11) (hs1 : 1 ≤ s) (hs : s < 701) (hk : kind < 5) : (X9_scores_g21 g kind runs i a) (25 + 11 * i + 1) = g (25 + 11 * i + 1) := (by rw [X9_scores_g21, upd_off (by omega)]; exact (rj_X9_scores_g18_2289 hi ha hbo hs1 hs hk))
theorem rj_X9_scores_g22_2289 {g : Nat → Int32} {kind : Nat} {runs : Int32} {bnd : Int32} {i : Nat} {a : Nat} {bo : Nat} {s : Nat} (hi : i < 4) (ha : a < 11) (hbo : bo < 11) (hs1 : 1 ≤ s) (hs : s < 701) (hk : kind < 5) : (X9_scores_g22 g kind runs bnd i a) (25 + 11 * i + 1) = g (25 + 11 * i + 1) := (by rw [X9_scores_g22]; split; exact (rj_X9_scores_g18_2289 hi ha hbo hs1 hs hk); exact (rj_X9_scores_g21_2289 hi ha hbo hs1 hs hk))
theorem rj_X9_scores_g24_2289 {g : Nat → Int32} {kind : Nat} {runs : Int32} {bnd : Int32} {i : Nat} {a : Nat} {bo : Nat} {s : Nat} (hi : i < 4) (ha : a < 11) (hbo : bo < 11) (hs1 : 1 ≤ s) (hs : s < 701) (hk : kind < 5) : (X9_scores_g24 g kind runs bnd i a bo) (25 + 11 * i + 1) = g (25 + 11 * i + 1) := (by rw [X9_scores_g24, upd_off (by omega)]; exact (rj_X9_scores_g22_2289 hi ha hbo hs1 hs hk))
theorem rj_X9_scores_g27_2289 {g : Nat → Int32} {kind : Nat} {runs : Int32} {bnd : Int32} {i : Nat} {a : Nat} {bo : Nat} {s : Nat} (hi : i < 4) (ha : a < 11) (hbo : bo < 11) (hs1 : 1 ≤ s) (hs : s < 701) (hk : kind < 5) : (X9_scores_g27 g kind runs bnd i a bo) (25 + 11 * i + 1) = g (25 + 11 * i + 1) := (by rw [X9_scores_g27, upd_off (by omega)]; exact (rj_X9_scores_g24_2289 hi ha hbo hs1 hs hk))
theorem rj_X9_scores_g29_2289 {g : Nat → Int32} {kind : Nat} {runs : Int32} {bnd : Int32} {i : Nat} {a : Nat} {bo : Nat} {s : Nat} (hi : i < 4) (ha : a < 11) (hbo : bo < 11) (hs1 : 1 ≤ s) (hs : s < 701) (hk : kind < 5) : (X9_scores_g29 g kind runs bnd i a bo) (25 + 11 * i + 1) = g (25 + 11 * i + 1) := (by rw [X9_scores_g29, upd_off (by omega)]; exact (rj_X9_scores_g27_2289 hi ha hbo hs1 hs hk))
theorem rj_X9_scores_g31_2289 {g : Nat → Int32} {kind : Nat} {runs : Int32} {bnd : Int32} {i : Nat} {a : Nat} {bo : Nat} {s : Nat} (hi : i < 4) (ha : a < 11) (hbo : bo < 11) (hs1 : 1 ≤ s) (hs : s < 701) (hk : kind < 5) : (X9_scores_g31 g kind runs bnd i a bo) (25 + 11 * i + 1) = g (25 + 11 * i + 1) := (by rw [X9_scores_g31, upd_off (by omega)]; exact (rj_X9_scores_g29_2289 hi ha hbo hs1 hs hk))
theorem rj_X9_scores_g32_2289 {g : Nat → Int32} {kind : Nat} {runs : Int32} {bnd : Int32} {i : Nat} {a : Nat} {bo : Nat} {s : Nat} (hi : i < 4) (ha : a < 11) (hbo : bo < 11) (hs1 : 1 ≤ s) (hs : s < 701) (hk : kind < 5) : (X9_scores_g32 g kind runs bnd i a bo) (25 + 11 * i + 1) = g (25 + 11 * i + 1) := (by rw [X9_scores_g32]; split; exact (rj_X9_scores_g31_2289 hi ha hbo hs1 hs hk); exact (rj_X9_scores_g29_2289 hi ha hbo hs1 hs hk))
theorem rj_X9_scores_g33_2289 {g : Nat → Int32} {kind : Nat} {runs : Int32} {bnd : Int32} {i : Nat} {a : Nat} {bo : Nat} {s : Nat} (hi : i < 4) (ha : a < 11) (hbo : bo < 11) (hs1 : 1 ≤ s) (hs : s < 701) (hk : kind < 5) : (X9_scores_g33 g kind runs bnd i a bo) (25 + 11 * i + 1) = g (25 + 11 * i + 1) := (by rw [X9_scores_g33, upd_off (by omega)]; exact (rj_X9_scores_g32_2289 hi ha hbo hs1 hs hk))
theorem rj_X9_scores_g35_2289 {g : Nat → Int32} {kind : Nat} {runs : Int32} {bnd : Int32} {i : Nat} {a : Nat} {bo : Nat} {s : Nat} (hi : i < 4) (ha : a < 11) (hbo : bo < 11) (hs1 : 1 ≤ s) (hs : s < 701) (hk : kind < 5) : (X9_scores_g35 g kind runs bnd i a bo s) (25 + 11 * i + 1) = g (25 + 11 * i + 1) := (by rw [X9_scores_g35, upd_off (by omega)]; exact (rj_X9_scores_g33_2289 hi ha hbo hs1 hs hk))
theorem rj_X9_scores_g37_2289 {g : Nat → Int32} {kind : Nat} {runs : Int32} {bnd : Int32} {i : Nat} {a : Nat} {bo : Nat} {s : Nat} (hi : i < 4) (ha : a < 11) (hbo : bo < 11) (hs1 : 1 ≤ s) (hs : s < 701) (hk : kind < 5) : (X9_scores_g37 g kind runs bnd i a bo s) (25 + 11 * i + 1) = g (25 + 11 * i + 1) := (by rw [X9_scores_g37, upd_off (by omega)]; exact (rj_X9_scores_g35_2289 hi ha hbo hs1 hs hk))
theorem rd_X9_scores_25_11_i_1 {g : Nat → Int32} {kind : Nat} {runs : Int32} {bnd : Int32} {i : Nat} {a : Nat} {bo : Nat} {s : Nat} (hi : i < 4) (ha : a < 11) (hbo : bo < 11) (hs1 : 1 ≤ s) (hs : s < 701) (hk : kind < 5) : (X9_scores_g44 g kind runs bnd i a bo s) (25 + 11 * i + 1) = g (25 + 11 * i + 1) := (by rw [X9_scores_g44, upd_off (by omega)]; exact (by rw [X9_scores_g41]; split; exact (rj_X9_scores_g37_2289 hi ha hbo hs1 hs hk); exact (by rw [X9_scores_g40, upd_off (by omega)]; exact (rj_X9_scores_g37_2289 hi ha hbo hs1 hs hk))))
theorem rj_X9_scores_g6_2290 {g : Nat → Int32} {kind : Nat} {i : Nat} {a : Nat} {bo : Nat} {s : Nat} (hi : i < 4) (ha : a < 11) (hbo : bo < 11) (hs1 : 1 ≤ s) (hs : s < 701) (hk : kind < 5) : (X9_scores_g6 g i) (25 + 11 * i + 8) = g (25 + 11 * i + 8) := (by rw [X9_scores_g6, upd_off (by omega)])
theorem rj_X9_scores_g7_2290 {g : Nat → Int32} {kind : Nat} {runs : Int32} {i : Nat} {a : Nat} {bo : Nat} {s : Nat} (hi : i < 4) (ha : a < 11) (hbo : bo < 11) (hs1 : 1 ≤ s) (hs : s < 701) (hk : kind < 5) : (X9_scores_g7 g kind runs i) (25 + 11 * i + 8) = g (25 + 11 * i + 8) := (by rw [X9_scores_g7, upd_off (by omega)]; exact (rj_X9_scores_g6_2290 hi ha hbo hs1 hs hk))
theorem rj_X9_scores_g8_2290 {g : Nat → Int32} {kind : Nat} {runs : Int32} {i : Nat} {a : Nat} {bo : Nat} {s : Nat} (hi : i < 4) (ha : a < 11) (hbo : bo < 11) (hs1 : 1 ≤ s) (hs : s < 701) (hk : kind < 5) : (X9_scores_g8 g kind runs i) (25 + 11 * i + 8) = g (25 + 11 * i + 8) := (by rw [X9_scores_g8, upd_off (by omega)]; exact (rj_X9_scores_g7_2290 hi ha hbo hs1 hs hk))
theorem rj_X9_scores_g11_2290 {g : Nat → Int32} {kind : Nat} {runs : Int32} {i : Nat} {a : Nat} {bo : Nat} {s : Nat} (hi : i < 4) (ha : a < 11) (hbo : bo < 11) (hs1 : 1 ≤ s) (hs : s < 701) (hk : kind < 5) : (X9_scores_g11 g kind runs i) (25 + 11 * i + 8) = g (25 + 11 * i + 8) := (by rw [X9_scores_g11, upd_off (by omega)]; exact (rj_X9_scores_g8_2290 hi ha hbo hs1 hs hk))
theorem rj_X9_scores_g12_2290 {g : Nat → Int32} {kind : Nat} {runs : Int32} {i : Nat} {a : Nat} {bo : Nat} {s : Nat} (hi : i < 4) (ha : a < 11) (hbo : bo < 11) (hs1 : 1 ≤ s) (hs : s < 701) (hk : kind < 5) : (X9_scores_g12 g kind runs i) (25 + 11 * i + 8) = g (25 + 11 * i + 8) := (by rw [X9_scores_g12]; split; exact (rj_X9_scores_g8_2290 hi ha hbo hs1 hs hk); exact (rj_X9_scores_g11_2290 hi ha hbo hs1 hs hk))
theorem rj_X9_scores_g15_2290 {g : Nat → Int32} {kind : Nat} {runs : Int32} {i : Nat} {a : Nat} {bo : Nat} {s : Nat} (hi : i < 4) (ha : a < 11) (hbo : bo < 11) (hs1 : 1 ≤ s) (hs : s < 701) (hk : kind < 5) : (X9_scores_g15 g kind runs i a) (25 + 11 * i + 8) = g (25 + 11 * i + 8) := (by rw [X9_scores_g15, upd_off (by omega)]; exact (rj_X9_scores_g12_2290 hi ha hbo hs1 hs hk))
theorem rj_X9_scores_g18_2290 {g : Nat → Int32} {kind : Nat} {runs : Int32} {i : Nat} {a : Nat} {bo : Nat} {s : Nat} (hi : i < 4) (ha : a < 11) (hbo : bo < 11) (hs1 : 1 ≤ s) (hs : s < 701) (hk : kind < 5) : (X9_scores_g18 g kind runs i a) (25 + 11 * i + 8) = g (25 + 11 * i + 8) := (by rw [X9_scores_g18, upd_off (by omega)]; exact (rj_X9_scores_g15_2290 hi ha hbo hs1 hs hk))
theorem rj_X9_scores_g21_2290 {g : Nat → Int32} {kind : Nat} {runs : Int32} {i : Nat} {a : Nat} {bo : Nat} {s : Nat} (hi : i < 4) (ha : a < 11) (hbo : bo < 11) (hs1 : 1 ≤ s) (hs : s < 701) (hk : kind < 5) : (X9_scores_g21 g kind runs i a) (25 + 11 * i + 8) = g (25 + 11 * i + 8) := (by rw [X9_scores_g21, upd_off (by omega)]; exact (rj_X9_scores_g18_2290 hi ha hbo hs1 hs hk))
theorem rj_X9_scores_g22_2290 {g : Nat → Int32} {kind : Nat} {runs : Int32} {bnd : Int32} {i : Nat} {a : Nat} {bo : Nat} {s : Nat} (hi : i < 4) (ha : a < 11) (hbo : bo < 11) (hs1 : 1 ≤ s) (hs : s < 701) (hk : kind < 5) : (X9_scores_g22 g kind runs bnd i a) (25 + 11 * i + 8) = g (25 + 11 * i + 8) := (by rw [X9_scores_g22]; split; exact (rj_X9_scores_g18_2290 hi ha hbo hs1 hs hk); exact (rj_X9_scores_g21_2290 hi ha hbo hs1 hs hk))
theorem rj_X9_scores_g24_2290 {g : Nat → Int32} {kind : Nat} {runs : Int32} {bnd : Int32} {i : Nat} {a : Nat} {bo : Nat} {s : Nat} (hi : i < 4) (ha : a < 11) (hbo : bo < 11) (hs1 : 1 ≤ s) (hs : s < 701) (hk : kind < 5) : (X9_scores_g24 g kind runs bnd i a bo) (25 + 11 * i + 8) = g (25 + 11 * i + 8) := (by rw [X9_scores_g24, upd_off (by omega)]; exact (rj_X9_scores_g22_2290 hi ha hbo hs1 hs hk))
theorem rj_X9_scores_g27_2290 {g : Nat → Int32} {kind : Nat} {runs : Int32} {bnd : Int32} {i : Nat} {a : Nat} {bo : Nat} {s : Nat} (hi : i < 4) (ha : a < 11) (hbo : bo < 11) (hs1 : 1 ≤ s) (hs : s < 701) (hk : kind < 5) : (X9_scores_g27 g kind runs bnd i a bo) (25 + 11 * i + 8) = g (25 + 11 * i + 8) := (by rw [X9_scores_g27, upd_off (by omega)]; exact (rj_X9_scores_g24_2290 hi ha hbo hs1 hs hk))
theorem rj_X9_scores_g29_2290 {g : Nat → Int32} {kind : Nat} {runs : Int32} {bnd : Int32} {i : Nat} {a : Nat} {bo : Nat} {s : Nat} (hi : i < 4) (ha : a < 11) (hbo : bo < 11) (hs1 : 1 ≤ s) (hs : s < 701) (hk : kind < 5) : (X9_scores_g29 g kind runs bnd i a bo) (25 + 11 * i + 8) = g (25 + 11 * i + 8) := (by rw [X9_scores_g29, upd_off (by omega)]; exact (rj_X9_scores_g27_2290 hi ha hbo hs1 hs hk))
theorem rj_X9_scores_g31_2290 {g : Nat → Int32} {kind : Nat} {runs : Int32} {bnd : Int32} {i : Nat} {a : Nat} {bo : Nat} {s : Nat} (hi : i < 4) (ha : a < 11) (hbo : bo < 11) (hs1 : 1 ≤ s) (hs : s < 701) (hk : kind < 5) : (X9_scores_g31 g kind runs bnd i a bo) (25 + 11 * i + 8) = g (25 + 11 * i + 8) := (by rw [X9_scores_g31, upd_off (by omega)]; exact (rj_X9_scores_g29_2290 hi ha hbo hs1 hs hk))
theorem rj_X9_scores_g32_2290 {g : Nat → Int32} {kind : Nat} {runs : Int32} {bnd : Int32} {i : Nat} {a : Nat} {bo : Nat} {s : Nat} (hi : i < 4) (ha : a < 11) (hbo : bo < 11) (hs1 : 1 ≤ s) (hs : s < 701) (hk : kind < 5) : (X9_scores_g32 g kind runs bnd i a bo) (25 + 11 * i + 8) = g (25 + 11 * i + 8) := (by rw [X9_scores_g32]; split; exact (rj_X9_scores_g31_2290 hi ha hbo hs1 hs hk); exact (rj_X9_scores_g29_2290 hi ha hbo hs1 hs hk))
theorem rj_X9_scores_g33_2290 {g : Nat → Int32} {kind : Nat} {runs : Int32} {bnd : Int32} {i : Nat} {a : Nat} {bo : Nat} {s : Nat} (hi : i < 4) (ha : a < 11) (hbo : bo < 11) (hs1 : 1 ≤ s) (hs : s < 701) (hk : kind < 5) : (X9_scores_g33 g kind runs bnd i a bo) (25 + 11 * i + 8) = g (25 + 11 * i + 8) := (by rw [X9_scores_g33, upd_off (by omega)]; exact (rj_X9_scores_g32_2290 hi ha hbo hs1 hs hk))
theorem rj_X9_scores_g35_2290 {g : Nat → Int32} {kind : Nat} {runs : Int32} {bnd : Int32} {i : Nat} {a : Nat} {bo : Nat} {s : Nat} (hi : i < 4) (ha : a < 11) (hbo : bo < 11) (hs1 : 1 ≤ s) (hs : s < 701) (hk : kind < 5) : (X9_scores_g35 g kind runs bnd i a bo s) (25 + 11 * i + 8) = g (25 + 11 * i + 8) := (by rw [X9_scores_g35, upd_off (by omega)]; exact (rj_X9_scores_g33_2290 hi ha hbo hs1 hs hk))
theorem rj_X9_scores_g37_2290 {g : Nat → Int32} {kind : Nat} {runs : Int32} {bnd : Int32} {i : Nat} {a : Nat} {bo : Nat} {s : Nat} (hi : i < 4) (ha : a < 11) (hbo : bo < 11) (hs1 : 1 ≤ s) (hs : s < 701) (hk : kind < 5) : (X9_scores_g37 g kind runs bnd i a bo s) (25 + 11 * i + 8) = g (25 + 11 * i + 8) := (by rw [X9_scores_g37, upd_off (by omega)]; exact (rj_X9_scores_g35_2290 hi ha hbo hs1 hs hk))
theorem rd_X9_scores_25_11_i_8 {g : Nat → Int32} {kind : Nat} {runs : Int32} {bnd : Int32} {i : Nat} {a : Nat} {bo : Nat} {s : Nat} (hi : i < 4) (ha : a < 11) (hbo : bo < 11) (hs1 : 1 ≤ s) (hs : s < 701) (hk : kind < 5) : (X9_scores_g44 g kind runs bnd i a bo s) (25 + 11 * i + 8) = g (25 + 11 * i + 8) := (by rw [X9_scores_g44, upd_off (by omega)]; exact (by rw [X9_scores_g41]; split; exact (rj_X9_scores_g37_2290 hi ha hbo hs1 hs hk); exact (by rw [X9_scores_g40, upd_off (by omega)]; exact (rj_X9_scores_g37_2290 hi ha hbo hs1 hs hk))))
