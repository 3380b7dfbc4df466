def cpf (s d : Nat → Int32) (n : Nat) : Nat → Int32 := fun j => if j < n then s j else d j
theorem cpf_0 (s d : Nat → Int32) : cpf s d 0 = d := by funext j; simp [cpf]
theorem cpf_s (s d : Nat → Int32) (n : Nat) : upd (cpf s d n) n (s n) = cpf s d (n + 1) := by
  funext j
  by_cases h : j = n
  · subst h; simp [upd, cpf]
  · simp only [upd, cpf, if_neg h]
    by_cases h2 : j < n
    · rw [if_pos h2, if_pos (by omega)]
    · rw [if_neg h2, if_neg (by omega)]
def X9_copies_g0 (n : Nat) (ga : Nat → Int32) (gb : Nat → Int32) : Nat → Int32 := cpf ga gb n
set_option maxRecDepth 100000 in
theorem k_X9_copies {l : Launch} (hfl : l.stackTraces = false) {D : va_G} {cy : Nat → ClassId} {f : Hf} {sz : Nat} {xa : Nat} {xb : Nat} {na : Nat} {nb : Nat} {n : Nat} {ga : Nat → Int32} {gb : Nat → Int32} (h_a : f xa = some (.inl (cy 0, na, .inl ga))) (h_b : f xb = some (.inl (cy 0, nb, .inl gb))) (hxy : xa ≠ xb) (hna : n ≤ na) (hnb : n ≤ nb) (hnc : na < 100000) (hnd : nb < 100000) : hMet l yX9_copies cX9_copies 4 none { frames := 0, cells := 0, slots := 0, locals := 0 } D (hTy cy) f sz [.ref xa, .ref xb, .int (nI n)] (hQv (fun u => u xb = some (.inl (cy 0, nb, .inl (X9_copies_g0 n ga gb))) ∧ hFrL f u [xb]) D f sz) hNo := by
  refine h_enter (by decide) hfl (Nat.le_of_ble_eq_true rfl) ?_
  intro p9 e9 s9 m9 b9 t9 c9 hsz C0 hr hnm G ls hl
  have hx := C0.1.1
  have hb := C0.1.2.1
  have hl : lv_has ls 4 [(0, .ref xa), (1, .ref xb), (2, .int (nI n))] := hl
  refine lv_iconst (v := 0) hx hb dX9_copies_0 (by decide) ?_
  refine lv_istore_n (lv' := [(3, .int 0), (0, .ref xa), (1, .ref xb), (2, .int (nI n))]) hx hb dX9_copies_1 rfl hl (by decide) rfl (fun ls hl => ?_)
  refine W.widen (k := 0) (n := 0) (Nat.le_of_ble_eq_true rfl) (Nat.le_of_ble_eq_true rfl) ?_
  have LOOP2 : ∀ (k : Nat) (i : Nat) (f1 : Hf) (H : Heap) (locs : List Loc) (ls : Array Slot), (i ≤ n) → (n - i < k) → (f1 = va_up f xb (some (.inl (cy 0, nb, .inl (cpf ga gb i))))) → f1 xa = some (.inl (cy 0, na, .inl ga)) → f1 xb = some (.inl (cy 0, nb, .inl (cpf ga gb i))) → hG D (hA f sz) f1 s9 H locs → lv_has ls 4 [(3, .int (nI i)), (0, .ref xa), (1, .ref xb), (2, .int (nI n))] → W p9 l e9 ({ frames := 0, cells := 0, slots := 0, locals := 0 } : Room) s9 m9 ([.ref xa, .ref xb, .int (nI n)] : List Value).toArray b9 t9 c9 H locs 0 0 (vx_MQ b9 (hQv (fun u => u xb = some (.inl (cy 0, nb, .inl (X9_copies_g0 n ga gb))) ∧ hFrL f u [xb]) D f sz) (hPx hNo D f sz) ([.ref xa, .ref xb, .int (nI n)] : List Value).toArray s9 0 0 (hA f sz)) (F0 m9 2 ls []) := by
    intro k
    induction k with
    | zero =>
      intro i f1 H locs ls hi2 hk he h_a1 h_b1 G hl
      exact absurd hk (by omega)
    | succ k ih =>
      intro i f1 H locs ls hi2 hk he h_a1 h_b1 G hl
      refine lv_iload_n hx hb dX9_copies_2 rfl (lv_at hl 0 rfl) ?_
      refine lv_iload_n hx hb dX9_copies_3 rfl (lv_at hl 3 rfl) ?_
      refine lv_icmp_ge (tgt := 19) hx hb dX9_copies_4 (by decide) (fun c11 => ?_) (fun c11 => ?_)
      · have n12 : n ≤ i := (nI_leI (a := n) (b := i) (by omega) (by omega)).mp c11
        have hi9 : n = i := by omega
        subst hi9
        exact g_vret C0 G hr dX9_copies_19 (Nat.le_of_ble_eq_true rfl) (Nat.le_of_ble_eq_true rfl) (by exact ⟨(by rw [(by rw [X9_copies_g0] : (X9_copies_g0 n ga gb) = (cpf ga gb n))]; exact h_b1), (fun a9 e9 h7 h8 => hup he (fun q => h7 (by rw [q]; simp)) (h8))⟩)
      · have n13 : ¬ n ≤ i := fun q => c11 ((nI_leI (a := n) (b := i) (by omega) (by omega)).mpr q)
        refine lv_aload_n hx hb dX9_copies_7 rfl (lv_at hl 2 rfl) ?_
        refine lv_iload_n hx hb dX9_copies_8 rfl (lv_at hl 0 rfl) ?_
        refine lv_aload_n hx hb dX9_copies_9 rfl (lv_at hl 1 rfl) ?_
        refine lv_iload_n hx hb dX9_copies_10 rfl (lv_at hl 0 rfl) ?_
        refine g_iald C0 G h_a1 0 rfl (vp_in_nI (by omega) (by omega)) dX9_copies_11 ?_
        refine lv_topv (v := ga i) (congrArg ga (nI_c (by omega))) ?_
        refine g_iast C0 G h_b1 0 rfl (vp_in_nI (by omega) (by omega)) dX9_copies_12 (fun H locs f14 hf14 G => ?_)
        have k15 : f14 xb = some (.inl (cy 0, nb, .inl (upd (cpf ga gb i) (nI i).toNatClampNeg (ga i)))) := hus hf14
        refine lv_iinc (v := nI (i + 1)) (lv' := [(3, .int (nI (i + 1))), (0, .ref xa), (1, .ref xb), (2, .int (nI n))]) hx hb dX9_copies_13 hl (k := 0) rfl (by exact (nI_add _ _)) (by decide) rfl (fun ls hl => ?_)
        refine lv_goto (tgt := 2) hx hb dX9_copies_16 (by decide) ?_
        have k17 : f14 xa = some (.inl (cy 0, na, .inl ga)) := hup hf14 hxy h_a1
        exact ih (i + 1) f14 _ _ _ (by omega) (by omega) (by rw [hf14, he, hup2, nI_c (by omega), cpf_s]) k17 (by have h9 := k15; rw [nI_c (by omega), cpf_s] at h9; exact h9) G (lv_sub hl [0, 1, 2, 3] rfl)
  exact LOOP2 (n + 1) 0 f _ _ _ (by omega) (by omega) (by rw [cpf_0, hupid h_b]) h_a (by rw [cpf_0]; exact h_b) G (lv_sub hl [0, 1, 2, 3] rfl)
