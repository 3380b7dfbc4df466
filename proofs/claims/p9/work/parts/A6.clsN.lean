def psB (tl : Nat) (gb : Nat → Int32) (p : Nat) : Int32 := (X8_isWithin_x1 (X7_sign_x1 tl (p + 1) gb) (X7_leastSecond_r1 (X7_sign_x1 tl p gb)) (X7_mostSecond_r0 (X7_sign_x1 tl p gb)))
def psP (tl : Nat) (gb : Nat → Int32) : Nat → Nat
  | 0 => 0
  | n + 1 => psP tl gb n + (if psB tl gb (psP tl gb n) = 0 then 1 else 2)
def psW (tl : Nat) (gb : Nat → Int32) (p : Nat) : Nat → Int32
  | 0 => if psB tl gb p = 0 then (X7_single_x0 (X7_sign_x1 tl p gb)) else (X7_pair_x0 (X7_sign_x1 tl p gb))
  | 1 => if psB tl gb p = 0 then 0 else (X7_pair_x1 (X7_sign_x1 tl p gb) (X7_sign_x1 tl (p + 1) gb))
  | 2 => if psB tl gb p = 0 then (X7_single_x1 (X7_sign_x1 tl p gb)) else 0
  | 3 => if psB tl gb p = 0 then (X7_single_x2 (X7_sign_x1 tl p gb)) else (X7_pair_x2 (X7_sign_x1 tl p gb))
  | 4 => if psB tl gb p = 0 then (X7_single_x3 (X7_sign_x1 tl p gb)) else (X7_pair_x3 (X7_sign_x1 tl p gb) (X7_sign_x1 tl (p + 1) gb))
  | 5 => if psB tl gb p = 0 then 0 else 0
  | 6 => if psB tl gb p = 0 then (X7_single_x4 (X7_sign_x1 tl p gb)) else (X7_pair_x4 (X7_sign_x1 tl p gb) (X7_sign_x1 tl (p + 1) gb))
  | 7 => if psB tl gb p = 0 then 0 else 0
  | _ => if psB tl gb p = 0 then 0 else 0
def psS (tl : Nat) (gb : Nat → Int32) (n : Nat) : Nat → Int32 := psW tl gb (psP tl gb n)
theorem psP_s (tl : Nat) (gb : Nat → Int32) (n : Nat) : psP tl gb (n + 1) = psP tl gb n + (if psB tl gb (psP tl gb n) = 0 then 1 else 2) := rfl
def tkC (gf ga : Nat → UInt32) : Nat → Int32
  | 0 => 0
  | n + 1 => if tkC gf ga n = 0 then (if Op.cmpValue (FP.fcmp (gf n) (ga n)) .l = 0 then 0 else 1) else 1
theorem tkC_b (gf ga : Nat → UInt32) (n : Nat) : tkC gf ga n = 0 ∨ tkC gf ga n = 1 := by
  cases n with
  | zero => exact Or.inl rfl
  | succ n =>
    unfold tkC
    split
    · split
      · exact Or.inl rfl
      · exact Or.inr rfl
    · exact Or.inr rfl
def cpq (s d : Nat → Option Nat) (n : Nat) : Nat → Option Nat := fun j => if j < n then s j else d j
theorem cpq_0 (s d : Nat → Option Nat) : cpq s d 0 = d := by funext j; simp [cpq]
theorem va_up_at (f : Nat → Option Nat) (k : Nat) (x : Option Nat) : va_up f k x k = x := by simp [va_up]
theorem va_up_off (f : Nat → Option Nat) {k j : Nat} (x : Option Nat) (h : j ≠ k) : va_up f k x j = f j := by simp [va_up, h]
theorem cpq_s (s d : Nat → Option Nat) (n a : Nat) (h : s n = some a) : va_up (cpq s d n) n (some a) = cpq s d (n + 1) := by
  funext j
  by_cases hj : j = n
  · subst hj; rw [va_up_at]; simp only [cpq]; rw [if_pos (by omega), h]
  · rw [va_up_off _ _ hj]
    simp only [cpq]
    by_cases h2 : j < n
    · rw [if_pos h2, if_pos (by omega)]
    · rw [if_neg h2, if_neg (by omega)]
set_option maxRecDepth 100000 in
theorem c_X7_parseOK {l : Launch} (hfl : l.stackTraces = false) {D : va_G} {cy : Nat → ClassId} {f : Hf} {sz : Nat} {tx : Nat} {bu : Nat} {no : Nat} {pd : Nat} {tl : Nat} {N : Nat} {tc : Int32} {gb : Nat → Int32} {qp : Nat → Option Nat} (h_tx : f tx = some (.inr (9, [.ref bu, .ref no, .ref pd, .int (nI tl), .int tc]))) (h_bu : f bu = some (.inl (cy 1, 60, .inl gb))) (h_pd : f pd = some (.inl (cy 4, 60, .inr (.inr (.inr (.inr qp)))))) (htl : tl ≤ 60) (hN : N ≤ 60) (hcb : ∀ k, narrow .char (.int (gb k)) = .int (gb k)) (hpP : ∀ j, j ≤ N → psP tl gb j ≤ 61) (hps : ∀ j, j < N → psP tl gb j < tl ∧ ¬ X7_isFirst_r2 (X7_sign_x1 tl (psP tl gb j) gb) = 0 ∧ (psB tl gb (psP tl gb j) = 0 → X7_needsSecond_x2 (X7_sign_x1 tl (psP tl gb j) gb) = 0)) (hpe : tl ≤ psP tl gb N) : hMet l yX7_parse cX7_parse 5 (some .int) { frames := 4, cells := 60, slots := 540, locals := 78 } D (hTy cy) f sz [.ref tx] (hQi (fun r u => r = (if nI tl = 0 then 0 else -1) ∧ u tx = some (.inr (9, [.ref bu, .ref no, .ref pd, .int (nI tl), .int (nI N)])) ∧ (∃ Q, u pd = some (.inl (cy 4, 60, .inr (.inr (.inr (.inr Q))))) ∧ ∀ k, k < N → ∃ a, Q k = some a ∧ u a = some (scell (psS tl gb k))) ∧ hFrL f u [tx, pd]) D f sz) hNo := by
  refine h_enter (by decide) hfl (Nat.le_of_ble_eq_true rfl) ?_
  intro p9 e9 s9 m9 b9 t9 c9 hsz C0 hr hnm G ls hl
  have hx := C0.1.1
  have hb := C0.1.2.1
  have hl : lv_has ls 5 [(0, .ref tx)] := hl
  refine lv_aload_n hx hb dX7_parse_0 rfl (lv_at hl 0 rfl) ?_
  refine lv_iconst (v := 0) hx hb dX7_parse_1 (by decide) ?_
  refine g_put C0 G h_tx rfl hiX7 tyX7 tyX7_ok nmX7 4 (by decide) mf_X7_32 rfl rfl rfl rfl (Nat.le_of_ble_eq_true rfl) dX7_parse_2 (fun H locs f11 hf11 G => ?_)
  have k12 : f11 tx = some (.inr (9, [.ref bu, .ref no, .ref pd, .int (nI tl), .int 0])) := hus hf11
  refine lv_iconst (v := 0) hx hb dX7_parse_5 (by decide) ?_
  refine lv_istore_n (lv' := [(1, .int 0), (0, .ref tx)]) hx hb dX7_parse_6 rfl hl (by decide) rfl (fun ls hl => ?_)
  have k13 : f11 pd = some (.inl (cy 4, 60, .inr (.inr (.inr (.inr qp))))) := hup hf11 (hne h_pd h_tx (by intro q; cases q)) h_pd
  have LOOP7 : ∀ (k9 : Nat) (jj : Nat) (Qf : Nat → Option Nat) (f1 : Hf) (H : Heap) (locs : List Loc) (ls : Array Slot), (jj ≤ N) → (N - jj < k9) → (∀ k, k < jj → ∃ a, Qf k = some a ∧ f1 a = some (scell (psS tl gb k))) → f1 tx = some (.inr (9, [.ref bu, .ref no, .ref pd, .int (nI tl), .int (nI jj)])) → f1 pd = some (.inl (cy 4, 60, .inr (.inr (.inr (.inr Qf))))) → hFrL f11 f1 [tx, pd] → hG D (hA f sz) f1 s9 H locs → lv_has ls 5 [(0, .ref tx), (1, .int (nI (psP tl gb jj)))] → W p9 l e9 ({ frames := 4, cells := 60, slots := 540, locals := 78 } : Room) s9 m9 ([.ref tx] : List Value).toArray b9 t9 c9 H locs jj (9 * jj) (vx_MQ b9 (hQi (fun r u => r = (if nI tl = 0 then 0 else -1) ∧ u tx = some (.inr (9, [.ref bu, .ref no, .ref pd, .int (nI tl), .int (nI N)])) ∧ (∃ Q, u pd = some (.inl (cy 4, 60, .inr (.inr (.inr (.inr Q))))) ∧ ∀ k, k < N → ∃ a, Q k = some a ∧ u a = some (scell (psS tl gb k))) ∧ hFrL f u [tx, pd]) D f sz) (hPx hNo D f sz) ([.ref tx] : List Value).toArray s9 60 540 (hA f sz)) (F0 m9 7 ls []) := by
    intro k9
    induction k9 with
    | zero =>
      intro jj Qf f1 H locs ls hi2 hk hpq h_tx1 h_pd1 hfr G hl
      exact absurd hk (by omega)
    | succ k9 ih =>
      intro jj Qf f1 H locs ls hi2 hk hpq h_tx1 h_pd1 hfr G hl
      rcases Nat.lt_or_ge jj N with hlt | hge
      · refine lv_iload_n hx hb dX7_parse_7 rfl (lv_at hl 1 rfl) ?_
        refine lv_aload_n hx hb dX7_parse_8 rfl (lv_at hl 0 rfl) ?_
        refine g_get C0 G h_tx1 rfl hiX7 3 (by decide) mf_X7_28 rfl dX7_parse_9 ?_
        refine lv_icmp_ge (tgt := 105) hx hb dX7_parse_12 (by decide) (fun c14 => absurd c14 ((fun q => absurd ((nI_leI (by omega) (by have := hpP jj (by omega); omega)).mp q) (by have h9 := (hps jj hlt).1; omega)))) (fun _ => ?_)
        refine lv_aload_n hx hb dX7_parse_15 rfl (lv_at hl 0 rfl) ?_
        refine lv_iload_n hx hb dX7_parse_16 rfl (lv_at hl 1 rfl) ?_
        have k15 : f1 bu = some (.inl (cy 1, 60, .inl gb)) := hfr _ _ (by simp only [List.mem_cons, List.not_mem_nil, or_false]; intro q; rcases q with q | q; exact (hne (hup hf11 (hne h_bu h_tx (by intro q; cases q)) h_bu) k12 (by intro q; cases q)) q; exact (hne (hup hf11 (hne h_bu h_tx (by intro q; cases q)) h_bu) k13 (by intro q; first | (cases q; done) | (simp at q; done))) q) (hup hf11 (hne h_bu h_tx (by intro q; cases q)) h_bu)
        refine g_cI C0 G (g_runV C0 G (rest := []) (c_X7_sign hfl (tl := tl) (jj := (psP tl gb jj)) (tc := nI jj) (gb := gb) h_tx1 k15 (by have h9 := (hps jj hlt).1; omega) htl hcb) h_tx1 rfl hY_X7_sign mm_X7_35 mi_X7_sign ml_X7_sign ⟨(Nat.le_of_ble_eq_true rfl), (Nat.le_of_ble_eq_true rfl)⟩ rfl hl.1 rfl (Nat.le_of_ble_eq_true rfl) dX7_parse_17 ⟨(by show jj ≤ 60; omega), (by show (9 * jj) ≤ 540; omega)⟩) (kx_no rfl) (fun r18 u17 H locs hp16 G => ?_)
        obtain ⟨er19, eu17⟩ := hp16
        rw [eu17] at G
        refine lv_topv (v := (X7_sign_x1 tl (psP tl gb jj) gb)) er19 ?_
        refine lv_istore_n (lv' := [(2, .int (X7_sign_x1 tl (psP tl gb jj) gb)), (0, .ref tx), (1, .int (nI (psP tl gb jj)))]) hx hb dX7_parse_20 rfl hl (by decide) rfl (fun ls hl => ?_)
        refine lv_aload_n hx hb dX7_parse_21 rfl (lv_at hl 1 rfl) ?_
        refine lv_iload_n hx hb dX7_parse_22 rfl (lv_at hl 2 rfl) ?_
        refine lv_iconst (v := 1) hx hb dX7_parse_23 (by decide) ?_
        refine lv_iadd hx hb dX7_parse_24 ?_
        refine lv_topv (v := nI (psP tl gb jj + 1)) ((nI_add _ _)) ?_
        refine g_cI C0 G (g_runV C0 G (rest := []) (c_X7_sign hfl (tl := tl) (jj := (psP tl gb jj + 1)) (tc := nI jj) (gb := gb) h_tx1 k15 (by have h9 := (hps jj hlt).1; omega) htl hcb) h_tx1 rfl hY_X7_sign mm_X7_35 mi_X7_sign ml_X7_sign ⟨(Nat.le_of_ble_eq_true rfl), (Nat.le_of_ble_eq_true rfl)⟩ rfl hl.1 rfl (Nat.le_of_ble_eq_true rfl) dX7_parse_25 ⟨(by show jj ≤ 60; omega), (by show (9 * jj) ≤ 540; omega)⟩) (kx_no rfl) (fun r22 u21 H locs hp20 G => ?_)
        obtain ⟨er23, eu21⟩ := hp20
        rw [eu21] at G
        refine lv_topv (v := (X7_sign_x1 tl (psP tl gb jj + 1) gb)) er23 ?_
        refine lv_istore_n (lv' := [(3, .int (X7_sign_x1 tl (psP tl gb jj + 1) gb)), (2, .int (X7_sign_x1 tl (psP tl gb jj) gb)), (0, .ref tx), (1, .int (nI (psP tl gb jj)))]) hx hb dX7_parse_28 rfl hl (by decide) rfl (fun ls hl => ?_)
        refine lv_iload_n hx hb dX7_parse_29 rfl (lv_at hl 1 rfl) ?_
        refine g_cI C0 G (g_runS C0 G (rest := []) (c_X7_isFirst hfl (X7_sign_x1 tl (psP tl gb jj) gb) ) hY_X7_isFirst mm_X7_39 ms_X7_isFirst ⟨(Nat.le_of_ble_eq_true rfl), (Nat.le_of_ble_eq_true rfl)⟩ rfl hl.1 rfl (Nat.le_of_ble_eq_true rfl) dX7_parse_30 ⟨(by show jj ≤ 60; omega), (by show (9 * jj) ≤ 540; omega)⟩) (kx_no rfl) (fun r26 u25 H locs hp24 G => ?_)
        obtain ⟨er27, eu25⟩ := hp24
        rw [eu25] at G
        refine lv_topv (v := (X7_isFirst_r2 (X7_sign_x1 tl (psP tl gb jj) gb))) er27 ?_
        refine lv_if_ne (tgt := 38) hx hb dX7_parse_33 (by decide) (fun _ => ?_) (fun c28 => absurd c28 ((hps jj hlt).2.1))
        refine lv_iload_n hx hb dX7_parse_38 rfl (lv_at hl 0 rfl) ?_
        refine lv_iload_n hx hb dX7_parse_39 rfl (lv_at hl 1 rfl) ?_
        refine g_cI C0 G (g_runS C0 G (rest := [.int (X7_sign_x1 tl (psP tl gb jj + 1) gb)]) (c_X7_leastSecond hfl (X7_sign_x1 tl (psP tl gb jj) gb) ) hY_X7_leastSecond mm_X7_43 ms_X7_leastSecond ⟨(Nat.le_of_ble_eq_true rfl), (Nat.le_of_ble_eq_true rfl)⟩ rfl hl.1 rfl (Nat.le_of_ble_eq_true rfl) dX7_parse_40 ⟨(by show jj ≤ 60; omega), (by show (9 * jj) ≤ 540; omega)⟩) (kx_no rfl) (fun r31 u30 H locs hp29 G => ?_)
        obtain ⟨er32, eu30⟩ := hp29
        rw [eu30] at G
        refine lv_topv (v := (X7_leastSecond_r1 (X7_sign_x1 tl (psP tl gb jj) gb))) er32 ?_
        refine lv_iload_n hx hb dX7_parse_43 rfl (lv_at hl 1 rfl) ?_
        refine g_cI C0 G (g_runS C0 G (rest := [.int (X7_leastSecond_r1 (X7_sign_x1 tl (psP tl gb jj) gb)), .int (X7_sign_x1 tl (psP tl gb jj + 1) gb)]) (c_X7_mostSecond hfl (X7_sign_x1 tl (psP tl gb jj) gb) ) hY_X7_mostSecond mm_X7_47 ms_X7_mostSecond ⟨(Nat.le_of_ble_eq_true rfl), (Nat.le_of_ble_eq_true rfl)⟩ rfl hl.1 rfl (Nat.le_of_ble_eq_true rfl) dX7_parse_44 ⟨(by show jj ≤ 60; omega), (by show (9 * jj) ≤ 540; omega)⟩) (kx_no rfl) (fun r35 u34 H locs hp33 G => ?_)
        obtain ⟨er36, eu34⟩ := hp33
        rw [eu34] at G
        refine lv_topv (v := (X7_mostSecond_r0 (X7_sign_x1 tl (psP tl gb jj) gb))) er36 ?_
        refine g_cI C0 G (g_runSN C0 G (rest := []) (c_X8_isWithin hfl (X7_sign_x1 tl (psP tl gb jj + 1) gb) (X7_leastSecond_r1 (X7_sign_x1 tl (psP tl gb jj) gb)) (X7_mostSecond_r0 (X7_sign_x1 tl (psP tl gb jj) gb)) ) hY_X8_isWithin mq_X7_50 ms_X8_isWithin ⟨(Nat.le_of_ble_eq_true rfl), (Nat.le_of_ble_eq_true rfl)⟩ rfl hl.1 rfl (Nat.le_of_ble_eq_true rfl) dX7_parse_47 ⟨(by show jj ≤ 60; omega), (by show (9 * jj) ≤ 540; omega)⟩) (kx_no rfl) (fun r39 u38 H locs hp37 G => ?_)
        obtain ⟨er40, eu38⟩ := hp37
        rw [eu38] at G
        refine lv_topv (v := (X8_isWithin_x1 (X7_sign_x1 tl (psP tl gb jj + 1) gb) (X7_leastSecond_r1 (X7_sign_x1 tl (psP tl gb jj) gb)) (X7_mostSecond_r0 (X7_sign_x1 tl (psP tl gb jj) gb)))) er40 ?_
        refine lv_istore (lv' := [(4, .int (X8_isWithin_x1 (X7_sign_x1 tl (psP tl gb jj + 1) gb) (X7_leastSecond_r1 (X7_sign_x1 tl (psP tl gb jj) gb)) (X7_mostSecond_r0 (X7_sign_x1 tl (psP tl gb jj) gb)))), (3, .int (X7_sign_x1 tl (psP tl gb jj + 1) gb)), (2, .int (X7_sign_x1 tl (psP tl gb jj) gb)), (0, .ref tx), (1, .int (nI (psP tl gb jj)))]) hx hb dX7_parse_50 hl (by decide) rfl (fun ls hl => ?_)
        refine lv_iload hx hb dX7_parse_52 (lv_at hl 0 rfl) ?_
        refine lv_if_ne (tgt := 68) hx hb dX7_parse_54 (by decide) (fun c41 => ?_) (fun c41 => ?_)
        · refine lv_aload_n hx hb dX7_parse_68 rfl (lv_at hl 3 rfl) ?_
          refine lv_iload hx hb dX7_parse_69 (lv_at hl 0 rfl) ?_
          refine lv_if_eq (tgt := 82) hx hb dX7_parse_71 (by decide) (fun c42 => absurd c42 (c41)) (fun _ => ?_)
          refine lv_iload_n hx hb dX7_parse_74 rfl (lv_at hl 2 rfl) ?_
          refine lv_iload_n hx hb dX7_parse_75 rfl (lv_at hl 1 rfl) ?_
          refine g_cR C0 G (g_runS C0 G (rest := [.ref tx]) (c_X7_pair hfl (X7_sign_x1 tl (psP tl gb jj) gb) (X7_sign_x1 tl (psP tl gb jj + 1) gb) ) hY_X7_pair mm_X7_57 ms_X7_pair ⟨(Nat.le_of_ble_eq_true rfl), (Nat.le_of_ble_eq_true rfl)⟩ rfl hl.1 rfl (Nat.le_of_ble_eq_true rfl) dX7_parse_76 ⟨(by show (jj + 1) ≤ 60; omega), (by show (9 * jj + 9) ≤ 540; omega)⟩) (kx_no rfl) (fun a45 u44 H locs hp43 G => ?_)
          obtain ⟨nn46, k47, fr48⟩ := hp43
          refine lv_goto (tgt := 86) hx hb dX7_parse_79 (by decide) ?_
          have k49 : u44 tx = some (.inr (9, [.ref bu, .ref no, .ref pd, .int (nI tl), .int (nI jj)])) := fr48 _ _ (by simp) h_tx1
          have k50 : u44 pd = some (.inl (cy 4, 60, .inr (.inr (.inr (.inr Qf))))) := fr48 _ _ (by simp) h_pd1
          refine g_cV C0 G (g_runV C0 G (rest := []) (c_X7_keep hfl (tl := nI tl) (tc := jj) (qp := Qf) (ty := (X7_pair_x0 (X7_sign_x1 tl (psP tl gb jj) gb))) (nu := (X7_pair_x1 (X7_sign_x1 tl (psP tl gb jj) gb) (X7_sign_x1 tl (psP tl gb jj + 1) gb))) (wy := 0) (kd := (X7_pair_x2 (X7_sign_x1 tl (psP tl gb jj) gb))) (ru := (X7_pair_x3 (X7_sign_x1 tl (psP tl gb jj) gb) (X7_sign_x1 tl (psP tl gb jj + 1) gb))) (so := 0) (sb := (X7_pair_x4 (X7_sign_x1 tl (psP tl gb jj) gb) (X7_sign_x1 tl (psP tl gb jj + 1) gb))) (sc := 0) (sh := 0) k49 k50 k47 (by omega)) k49 rfl hY_X7_keep mm_X7_65 mi_X7_keep ml_X7_keep ⟨(Nat.le_of_ble_eq_true rfl), (Nat.le_of_ble_eq_true rfl)⟩ rfl hl.1 rfl (Nat.le_of_ble_eq_true rfl) dX7_parse_86 ⟨(by show (jj + 1) ≤ 60; omega), (by show (9 * jj + 9) ≤ 540; omega)⟩) (kx_no rfl) (fun u52 H locs hp51 G => ?_)
          obtain ⟨k53, k54, fr55⟩ := hp51
          refine lv_iload_n hx hb dX7_parse_89 rfl (lv_at hl 4 rfl) ?_
          refine lv_iload hx hb dX7_parse_90 (lv_at hl 0 rfl) ?_
          refine lv_if_eq (tgt := 99) hx hb dX7_parse_92 (by decide) (fun c56 => absurd c56 (c41)) (fun _ => ?_)
          refine lv_iconst (v := 2) hx hb dX7_parse_95 (by decide) ?_
          refine lv_goto (tgt := 100) hx hb dX7_parse_96 (by decide) ?_
          refine lv_iadd hx hb dX7_parse_100 ?_
          refine lv_topv (v := nI (psP tl gb jj + 2)) ((nI_add _ _)) ?_
          refine lv_istore_n (lv' := [(1, .int (nI (psP tl gb jj + 2))), (4, .int (X8_isWithin_x1 (X7_sign_x1 tl (psP tl gb jj + 1) gb) (X7_leastSecond_r1 (X7_sign_x1 tl (psP tl gb jj) gb)) (X7_mostSecond_r0 (X7_sign_x1 tl (psP tl gb jj) gb)))), (3, .int (X7_sign_x1 tl (psP tl gb jj + 1) gb)), (2, .int (X7_sign_x1 tl (psP tl gb jj) gb)), (0, .ref tx)]) hx hb dX7_parse_101 rfl hl (by decide) rfl (fun ls hl => ?_)
          refine lv_goto (tgt := 7) hx hb dX7_parse_102 (by decide) ?_
          have k57 : u52 a45 = some (.inr (7, [.int (X7_pair_x0 (X7_sign_x1 tl (psP tl gb jj) gb)), .int (X7_pair_x1 (X7_sign_x1 tl (psP tl gb jj) gb) (X7_sign_x1 tl (psP tl gb jj + 1) gb)), .int 0, .int (X7_pair_x2 (X7_sign_x1 tl (psP tl gb jj) gb)), .int (X7_pair_x3 (X7_sign_x1 tl (psP tl gb jj) gb) (X7_sign_x1 tl (psP tl gb jj + 1) gb)), .int 0, .int (X7_pair_x4 (X7_sign_x1 tl (psP tl gb jj) gb) (X7_sign_x1 tl (psP tl gb jj + 1) gb)), .int 0, .int 0])) := fr55 _ _ (by simp only [List.mem_cons, List.not_mem_nil, or_false]; intro q; rcases q with q | q; exact (Ne.symm (hneN h_pd1 nn46)) q; exact (Ne.symm (hneN h_tx1 nn46)) q) k47
          have hpq2 : ∀ k, k < jj + 1 → ∃ a, (va_up Qf jj (some a45)) k = some a ∧ u52 a = some (scell (psS tl gb k)) := by
            intro k hk9
            rcases Nat.lt_or_ge k jj with hl9 | hl9
            · obtain ⟨a7, ea7, ka7⟩ := hpq k hl9
              replace ka7 : f1 a7 = some (.inr (7, [.int (psS tl gb k 0), .int (psS tl gb k 1), .int (psS tl gb k 2), .int (psS tl gb k 3), .int (psS tl gb k 4), .int (psS tl gb k 5), .int (psS tl gb k 6), .int (psS tl gb k 7), .int (psS tl gb k 8)])) := ka7
              have k58 : u52 a7 = some (.inr (7, [.int (psS tl gb k 0), .int (psS tl gb k 1), .int (psS tl gb k 2), .int (psS tl gb k 3), .int (psS tl gb k 4), .int (psS tl gb k 5), .int (psS tl gb k 6), .int (psS tl gb k 7), .int (psS tl gb k 8)])) := fr55 _ _ (by simp only [List.mem_cons, List.not_mem_nil, or_false]; intro q; rcases q with q | q; exact (hne (fr48 _ _ (by simp) ka7) k50 (by intro q; cases q)) q; exact (hne (fr48 _ _ (by simp) ka7) k49 (by intro q; cases q)) q) (fr48 _ _ (by simp) ka7)
              exact ⟨a7, (va_up_off _ _ (by omega)).trans ea7, k58⟩
            · have e9 : k = jj := by omega
              subst e9
              refine ⟨a45, va_up_at _ _ _, ?_⟩
              have es0 : psS tl gb k 0 = (X7_pair_x0 (X7_sign_x1 tl (psP tl gb k) gb)) := if_neg c41
              have es1 : psS tl gb k 1 = (X7_pair_x1 (X7_sign_x1 tl (psP tl gb k) gb) (X7_sign_x1 tl (psP tl gb k + 1) gb)) := if_neg c41
              have es2 : psS tl gb k 2 = 0 := if_neg c41
              have es3 : psS tl gb k 3 = (X7_pair_x2 (X7_sign_x1 tl (psP tl gb k) gb)) := if_neg c41
              have es4 : psS tl gb k 4 = (X7_pair_x3 (X7_sign_x1 tl (psP tl gb k) gb) (X7_sign_x1 tl (psP tl gb k + 1) gb)) := if_neg c41
              have es5 : psS tl gb k 5 = 0 := if_neg c41
              have es6 : psS tl gb k 6 = (X7_pair_x4 (X7_sign_x1 tl (psP tl gb k) gb) (X7_sign_x1 tl (psP tl gb k + 1) gb)) := if_neg c41
              have es7 : psS tl gb k 7 = 0 := if_neg c41
              have es8 : psS tl gb k 8 = 0 := if_neg c41
              show u52 a45 = some (.inr (7, [.int (psS tl gb k 0), .int (psS tl gb k 1), .int (psS tl gb k 2), .int (psS tl gb k 3), .int (psS tl gb k 4), .int (psS tl gb k 5), .int (psS tl gb k 6), .int (psS tl gb k 7), .int (psS tl gb k 8)]))
              rw [es0, es1, es2, es3, es4, es5, es6, es7, es8]
              exact k57
          exact ih (jj + 1) _ u52 _ _ _ (by omega) (by omega) hpq2 k54 k53 (fun a9 e9 h7 h8 => fr55 _ _ (fun q => h7 (by simp only [List.mem_cons, List.not_mem_nil, or_false] at q ⊢; first | exact q | (rcases q with q | q <;> simp [q]) | omega)) (fr48 _ _ (by simp) (hfr _ _ (fun q => h7 (by simp only [List.mem_cons, List.not_mem_nil, or_false] at q ⊢; first | exact q | (rcases q with q | q <;> simp [q]) | omega)) (h8)))) G (by rw [show psP tl gb (jj + 1) = psP tl gb jj + 2 from by rw [psP_s, if_neg (show ¬ psB tl gb (psP tl gb jj) = 0 from c41)]]; exact (lv_sub hl [4, 0] rfl))
        · refine lv_iload_n hx hb dX7_parse_57 rfl (lv_at hl 2 rfl) ?_
          refine g_cI C0 G (g_runS C0 G (rest := []) (c_X7_needsSecond hfl (X7_sign_x1 tl (psP tl gb jj) gb) ) hY_X7_needsSecond mm_X7_54 ms_X7_needsSecond ⟨(Nat.le_of_ble_eq_true rfl), (Nat.le_of_ble_eq_true rfl)⟩ rfl hl.1 rfl (Nat.le_of_ble_eq_true rfl) dX7_parse_58 ⟨(by show jj ≤ 60; omega), (by show (9 * jj) ≤ 540; omega)⟩) (kx_no rfl) (fun r61 u60 H locs hp59 G => ?_)
          obtain ⟨er62, eu60⟩ := hp59
          rw [eu60] at G
          refine lv_topv (v := (X7_needsSecond_x2 (X7_sign_x1 tl (psP tl gb jj) gb))) er62 ?_
          refine lv_if_eq (tgt := 68) hx hb dX7_parse_61 (by decide) (fun _ => ?_) (fun c63 => absurd (((hps jj hlt).2.2 c41)) c63)
          refine lv_aload_n hx hb dX7_parse_68 rfl (lv_at hl 3 rfl) ?_
          refine lv_iload hx hb dX7_parse_69 (lv_at hl 0 rfl) ?_
          refine lv_if_eq (tgt := 82) hx hb dX7_parse_71 (by decide) (fun _ => ?_) (fun c64 => absurd (c41) c64)
          refine lv_iload_n hx hb dX7_parse_82 rfl (lv_at hl 2 rfl) ?_
          refine g_cR C0 G (g_runS C0 G (rest := [.ref tx]) (c_X7_single hfl (X7_sign_x1 tl (psP tl gb jj) gb) ) hY_X7_single mm_X7_61 ms_X7_single ⟨(Nat.le_of_ble_eq_true rfl), (Nat.le_of_ble_eq_true rfl)⟩ rfl hl.1 rfl (Nat.le_of_ble_eq_true rfl) dX7_parse_83 ⟨(by show (jj + 1) ≤ 60; omega), (by show (9 * jj + 9) ≤ 540; omega)⟩) (kx_no rfl) (fun a67 u66 H locs hp65 G => ?_)
          obtain ⟨nn68, k69, fr70⟩ := hp65
          have k71 : u66 tx = some (.inr (9, [.ref bu, .ref no, .ref pd, .int (nI tl), .int (nI jj)])) := fr70 _ _ (by simp) h_tx1
          have k72 : u66 pd = some (.inl (cy 4, 60, .inr (.inr (.inr (.inr Qf))))) := fr70 _ _ (by simp) h_pd1
          refine g_cV C0 G (g_runV C0 G (rest := []) (c_X7_keep hfl (tl := nI tl) (tc := jj) (qp := Qf) (ty := (X7_single_x0 (X7_sign_x1 tl (psP tl gb jj) gb))) (nu := 0) (wy := (X7_single_x1 (X7_sign_x1 tl (psP tl gb jj) gb))) (kd := (X7_single_x2 (X7_sign_x1 tl (psP tl gb jj) gb))) (ru := (X7_single_x3 (X7_sign_x1 tl (psP tl gb jj) gb))) (so := 0) (sb := (X7_single_x4 (X7_sign_x1 tl (psP tl gb jj) gb))) (sc := 0) (sh := 0) k71 k72 k69 (by omega)) k71 rfl hY_X7_keep mm_X7_65 mi_X7_keep ml_X7_keep ⟨(Nat.le_of_ble_eq_true rfl), (Nat.le_of_ble_eq_true rfl)⟩ rfl hl.1 rfl (Nat.le_of_ble_eq_true rfl) dX7_parse_86 ⟨(by show (jj + 1) ≤ 60; omega), (by show (9 * jj + 9) ≤ 540; omega)⟩) (kx_no rfl) (fun u74 H locs hp73 G => ?_)
          obtain ⟨k75, k76, fr77⟩ := hp73
          refine lv_iload_n hx hb dX7_parse_89 rfl (lv_at hl 4 rfl) ?_
          refine lv_iload hx hb dX7_parse_90 (lv_at hl 0 rfl) ?_
          refine lv_if_eq (tgt := 99) hx hb dX7_parse_92 (by decide) (fun _ => ?_) (fun c78 => absurd (c41) c78)
          refine lv_iconst (v := 1) hx hb dX7_parse_99 (by decide) ?_
          refine lv_iadd hx hb dX7_parse_100 ?_
          refine lv_topv (v := nI (psP tl gb jj + 1)) ((nI_add _ _)) ?_
          refine lv_istore_n (lv' := [(1, .int (nI (psP tl gb jj + 1))), (4, .int (X8_isWithin_x1 (X7_sign_x1 tl (psP tl gb jj + 1) gb) (X7_leastSecond_r1 (X7_sign_x1 tl (psP tl gb jj) gb)) (X7_mostSecond_r0 (X7_sign_x1 tl (psP tl gb jj) gb)))), (3, .int (X7_sign_x1 tl (psP tl gb jj + 1) gb)), (2, .int (X7_sign_x1 tl (psP tl gb jj) gb)), (0, .ref tx)]) hx hb dX7_parse_101 rfl hl (by decide) rfl (fun ls hl => ?_)
          refine lv_goto (tgt := 7) hx hb dX7_parse_102 (by decide) ?_
          have k79 : u74 a67 = some (.inr (7, [.int (X7_single_x0 (X7_sign_x1 tl (psP tl gb jj) gb)), .int 0, .int (X7_single_x1 (X7_sign_x1 tl (psP tl gb jj) gb)), .int (X7_single_x2 (X7_sign_x1 tl (psP tl gb jj) gb)), .int (X7_single_x3 (X7_sign_x1 tl (psP tl gb jj) gb)), .int 0, .int (X7_single_x4 (X7_sign_x1 tl (psP tl gb jj) gb)), .int 0, .int 0])) := fr77 _ _ (by simp only [List.mem_cons, List.not_mem_nil, or_false]; intro q; rcases q with q | q; exact (Ne.symm (hneN h_pd1 nn68)) q; exact (Ne.symm (hneN h_tx1 nn68)) q) k69
          have hpq2 : ∀ k, k < jj + 1 → ∃ a, (va_up Qf jj (some a67)) k = some a ∧ u74 a = some (scell (psS tl gb k)) := by
            intro k hk9
            rcases Nat.lt_or_ge k jj with hl9 | hl9
            · obtain ⟨a7, ea7, ka7⟩ := hpq k hl9
              replace ka7 : f1 a7 = some (.inr (7, [.int (psS tl gb k 0), .int (psS tl gb k 1), .int (psS tl gb k 2), .int (psS tl gb k 3), .int (psS tl gb k 4), .int (psS tl gb k 5), .int (psS tl gb k 6), .int (psS tl gb k 7), .int (psS tl gb k 8)])) := ka7
              have k80 : u74 a7 = some (.inr (7, [.int (psS tl gb k 0), .int (psS tl gb k 1), .int (psS tl gb k 2), .int (psS tl gb k 3), .int (psS tl gb k 4), .int (psS tl gb k 5), .int (psS tl gb k 6), .int (psS tl gb k 7), .int (psS tl gb k 8)])) := fr77 _ _ (by simp only [List.mem_cons, List.not_mem_nil, or_false]; intro q; rcases q with q | q; exact (hne (fr70 _ _ (by simp) ka7) k72 (by intro q; cases q)) q; exact (hne (fr70 _ _ (by simp) ka7) k71 (by intro q; cases q)) q) (fr70 _ _ (by simp) ka7)
              exact ⟨a7, (va_up_off _ _ (by omega)).trans ea7, k80⟩
            · have e9 : k = jj := by omega
              subst e9
              refine ⟨a67, va_up_at _ _ _, ?_⟩
              have es0 : psS tl gb k 0 = (X7_single_x0 (X7_sign_x1 tl (psP tl gb k) gb)) := if_pos c41
              have es1 : psS tl gb k 1 = 0 := if_pos c41
              have es2 : psS tl gb k 2 = (X7_single_x1 (X7_sign_x1 tl (psP tl gb k) gb)) := if_pos c41
              have es3 : psS tl gb k 3 = (X7_single_x2 (X7_sign_x1 tl (psP tl gb k) gb)) := if_pos c41
              have es4 : psS tl gb k 4 = (X7_single_x3 (X7_sign_x1 tl (psP tl gb k) gb)) := if_pos c41
              have es5 : psS tl gb k 5 = 0 := if_pos c41
              have es6 : psS tl gb k 6 = (X7_single_x4 (X7_sign_x1 tl (psP tl gb k) gb)) := if_pos c41
              have es7 : psS tl gb k 7 = 0 := if_pos c41
              have es8 : psS tl gb k 8 = 0 := if_pos c41
              show u74 a67 = some (.inr (7, [.int (psS tl gb k 0), .int (psS tl gb k 1), .int (psS tl gb k 2), .int (psS tl gb k 3), .int (psS tl gb k 4), .int (psS tl gb k 5), .int (psS tl gb k 6), .int (psS tl gb k 7), .int (psS tl gb k 8)]))
              rw [es0, es1, es2, es3, es4, es5, es6, es7, es8]
              exact k79
          exact ih (jj + 1) _ u74 _ _ _ (by omega) (by omega) hpq2 k76 k75 (fun a9 e9 h7 h8 => fr77 _ _ (fun q => h7 (by simp only [List.mem_cons, List.not_mem_nil, or_false] at q ⊢; first | exact q | (rcases q with q | q <;> simp [q]) | omega)) (fr70 _ _ (by simp) (hfr _ _ (fun q => h7 (by simp only [List.mem_cons, List.not_mem_nil, or_false] at q ⊢; first | exact q | (rcases q with q | q <;> simp [q]) | omega)) (h8)))) G (by rw [show psP tl gb (jj + 1) = psP tl gb jj + 1 from by rw [psP_s, if_pos (show psB tl gb (psP tl gb jj) = 0 from c41)]]; exact (lv_sub hl [4, 0] rfl))
      · have hi9 : N = jj := by omega
        subst hi9
        refine lv_iload_n hx hb dX7_parse_7 rfl (lv_at hl 1 rfl) ?_
        refine lv_aload_n hx hb dX7_parse_8 rfl (lv_at hl 0 rfl) ?_
        refine g_get C0 G h_tx1 rfl hiX7 3 (by decide) mf_X7_28 rfl dX7_parse_9 ?_
        refine lv_icmp_ge (tgt := 105) hx hb dX7_parse_12 (by decide) (fun _ => ?_) (fun c81 => absurd (((nI_leI (by omega) (by have := hpP N (by omega); omega)).mpr hpe)) c81)
        refine lv_aload_n hx hb dX7_parse_105 rfl (lv_at hl 0 rfl) ?_
        refine g_get C0 G h_tx1 rfl hiX7 3 (by decide) mf_X7_28 rfl dX7_parse_106 ?_
        refine lv_if_ne (tgt := 116) hx hb dX7_parse_109 (by decide) (fun c82 => ?_) (fun c82 => ?_)
        · have n83 : ¬ tl = 0 := fun q => c82 ((nI_eq (a := tl) (b := 0) (by omega) (by omega)).mpr q)
          refine lv_iconst (v := (-1)) hx hb dX7_parse_116 (by decide) ?_
          exact g_iret C0 G hr dX7_parse_117 (by first | (show N ≤ 60; omega) | (show (9 * N) ≤ 540; omega)) (by first | (show N ≤ 60; omega) | (show (9 * N) ≤ 540; omega)) (by exact ⟨(if_neg c82).symm, h_tx1, ⟨_, h_pd1, hpq⟩, (fun a9 e9 h7 h8 => hfr _ _ (fun q => h7 (by simp only [List.mem_cons, List.not_mem_nil, or_false] at q ⊢; first | exact q | (rcases q with q | q <;> simp [q]) | omega)) (hup hf11 (fun q => h7 (by rw [q]; simp)) (h8)))⟩)
        · have n84 : tl = 0 := (nI_eq (a := tl) (b := 0) (by omega) (by omega)).mp c82
          refine lv_iconst (v := 0) hx hb dX7_parse_112 (by decide) ?_
          refine lv_goto (tgt := 117) hx hb dX7_parse_113 (by decide) ?_
          exact g_iret C0 G hr dX7_parse_117 (by first | (show N ≤ 60; omega) | (show (9 * N) ≤ 540; omega)) (by first | (show N ≤ 60; omega) | (show (9 * N) ≤ 540; omega)) (by exact ⟨(if_pos c82).symm, h_tx1, ⟨_, h_pd1, hpq⟩, (fun a9 e9 h7 h8 => hfr _ _ (fun q => h7 (by simp only [List.mem_cons, List.not_mem_nil, or_false] at q ⊢; first | exact q | (rcases q with q | q <;> simp [q]) | omega)) (hup hf11 (fun q => h7 (by rw [q]; simp)) (h8)))⟩)
  exact LOOP7 (N + 1) 0 qp f11 _ _ _ (by omega) (by omega) (fun k h => absurd h (by omega)) k12 k13 (fun a9 e9 h7 h8 => h8) G (lv_sub hl [1, 0] rfl)
set_option maxRecDepth 100000 in
theorem c_X7_parseE1 {l : Launch} (hfl : l.stackTraces = false) {D : va_G} {cy : Nat → ClassId} {f : Hf} {sz : Nat} {tx : Nat} {bu : Nat} {no : Nat} {pd : Nat} {tl : Nat} {N : Nat} {tc : Int32} {gb : Nat → Int32} {qp : Nat → Option Nat} (h_tx : f tx = some (.inr (9, [.ref bu, .ref no, .ref pd, .int (nI tl), .int tc]))) (h_bu : f bu = some (.inl (cy 1, 60, .inl gb))) (h_pd : f pd = some (.inl (cy 4, 60, .inr (.inr (.inr (.inr qp)))))) (htl : tl ≤ 60) (hN : N ≤ 60) (hcb : ∀ k, narrow .char (.int (gb k)) = .int (gb k)) (hpP : ∀ j, j ≤ N → psP tl gb j ≤ 61) (hps : ∀ j, j < N → psP tl gb j < tl ∧ ¬ X7_isFirst_r2 (X7_sign_x1 tl (psP tl gb j) gb) = 0 ∧ (psB tl gb (psP tl gb j) = 0 → X7_needsSecond_x2 (X7_sign_x1 tl (psP tl gb j) gb) = 0)) (hpe : psP tl gb N < tl ∧ X7_isFirst_r2 (X7_sign_x1 tl (psP tl gb N) gb) = 0) : hMet l yX7_parse cX7_parse 5 (some .int) { frames := 4, cells := 60, slots := 540, locals := 78 } D (hTy cy) f sz [.ref tx] (hQi (fun r u => r = nI (psP tl gb N) ∧ u tx = some (.inr (9, [.ref bu, .ref no, .ref pd, .int (nI tl), .int (nI N)])) ∧ (∃ Q, u pd = some (.inl (cy 4, 60, .inr (.inr (.inr (.inr Q))))) ∧ ∀ k, k < N → ∃ a, Q k = some a ∧ u a = some (scell (psS tl gb k))) ∧ hFrL f u [tx, pd]) D f sz) hNo := by
  refine h_enter (by decide) hfl (Nat.le_of_ble_eq_true rfl) ?_
  intro p9 e9 s9 m9 b9 t9 c9 hsz C0 hr hnm G ls hl
  have hx := C0.1.1
  have hb := C0.1.2.1
  have hl : lv_has ls 5 [(0, .ref tx)] := hl
  refine lv_aload_n hx hb dX7_parse_0 rfl (lv_at hl 0 rfl) ?_
  refine lv_iconst (v := 0) hx hb dX7_parse_1 (by decide) ?_
  refine g_put C0 G h_tx rfl hiX7 tyX7 tyX7_ok nmX7 4 (by decide) mf_X7_32 rfl rfl rfl rfl (Nat.le_of_ble_eq_true rfl) dX7_parse_2 (fun H locs f11 hf11 G => ?_)
  have k12 : f11 tx = some (.inr (9, [.ref bu, .ref no, .ref pd, .int (nI tl), .int 0])) := hus hf11
  refine lv_iconst (v := 0) hx hb dX7_parse_5 (by decide) ?_
  refine lv_istore_n (lv' := [(1, .int 0), (0, .ref tx)]) hx hb dX7_parse_6 rfl hl (by decide) rfl (fun ls hl => ?_)
  have k13 : f11 pd = some (.inl (cy 4, 60, .inr (.inr (.inr (.inr qp))))) := hup hf11 (hne h_pd h_tx (by intro q; cases q)) h_pd
  have LOOP7 : ∀ (k9 : Nat) (jj : Nat) (Qf : Nat → Option Nat) (f1 : Hf) (H : Heap) (locs : List Loc) (ls : Array Slot), (jj ≤ N) → (N - jj < k9) → (∀ k, k < jj → ∃ a, Qf k = some a ∧ f1 a = some (scell (psS tl gb k))) → f1 tx = some (.inr (9, [.ref bu, .ref no, .ref pd, .int (nI tl), .int (nI jj)])) → f1 pd = some (.inl (cy 4, 60, .inr (.inr (.inr (.inr Qf))))) → hFrL f11 f1 [tx, pd] → hG D (hA f sz) f1 s9 H locs → lv_has ls 5 [(0, .ref tx), (1, .int (nI (psP tl gb jj)))] → W p9 l e9 ({ frames := 4, cells := 60, slots := 540, locals := 78 } : Room) s9 m9 ([.ref tx] : List Value).toArray b9 t9 c9 H locs jj (9 * jj) (vx_MQ b9 (hQi (fun r u => r = nI (psP tl gb N) ∧ u tx = some (.inr (9, [.ref bu, .ref no, .ref pd, .int (nI tl), .int (nI N)])) ∧ (∃ Q, u pd = some (.inl (cy 4, 60, .inr (.inr (.inr (.inr Q))))) ∧ ∀ k, k < N → ∃ a, Q k = some a ∧ u a = some (scell (psS tl gb k))) ∧ hFrL f u [tx, pd]) D f sz) (hPx hNo D f sz) ([.ref tx] : List Value).toArray s9 60 540 (hA f sz)) (F0 m9 7 ls []) := by
    intro k9
    induction k9 with
    | zero =>
      intro jj Qf f1 H locs ls hi2 hk hpq h_tx1 h_pd1 hfr G hl
      exact absurd hk (by omega)
    | succ k9 ih =>
      intro jj Qf f1 H locs ls hi2 hk hpq h_tx1 h_pd1 hfr G hl
      rcases Nat.lt_or_ge jj N with hlt | hge
      · refine lv_iload_n hx hb dX7_parse_7 rfl (lv_at hl 1 rfl) ?_
        refine lv_aload_n hx hb dX7_parse_8 rfl (lv_at hl 0 rfl) ?_
        refine g_get C0 G h_tx1 rfl hiX7 3 (by decide) mf_X7_28 rfl dX7_parse_9 ?_
        refine lv_icmp_ge (tgt := 105) hx hb dX7_parse_12 (by decide) (fun c14 => absurd c14 ((fun q => absurd ((nI_leI (by omega) (by have := hpP jj (by omega); omega)).mp q) (by have h9 := (hps jj hlt).1; omega)))) (fun _ => ?_)
        refine lv_aload_n hx hb dX7_parse_15 rfl (lv_at hl 0 rfl) ?_
        refine lv_iload_n hx hb dX7_parse_16 rfl (lv_at hl 1 rfl) ?_
        have k15 : f1 bu = some (.inl (cy 1, 60, .inl gb)) := hfr _ _ (by simp only [List.mem_cons, List.not_mem_nil, or_false]; intro q; rcases q with q | q; exact (hne (hup hf11 (hne h_bu h_tx (by intro q; cases q)) h_bu) k12 (by intro q; cases q)) q; exact (hne (hup hf11 (hne h_bu h_tx (by intro q; cases q)) h_bu) k13 (by intro q; first | (cases q; done) | (simp at q; done))) q) (hup hf11 (hne h_bu h_tx (by intro q; cases q)) h_bu)
        refine g_cI C0 G (g_runV C0 G (rest := []) (c_X7_sign hfl (tl := tl) (jj := (psP tl gb jj)) (tc := nI jj) (gb := gb) h_tx1 k15 (by have h9 := (hps jj hlt).1; omega) htl hcb) h_tx1 rfl hY_X7_sign mm_X7_35 mi_X7_sign ml_X7_sign ⟨(Nat.le_of_ble_eq_true rfl), (Nat.le_of_ble_eq_true rfl)⟩ rfl hl.1 rfl (Nat.le_of_ble_eq_true rfl) dX7_parse_17 ⟨(by show jj ≤ 60; omega), (by show (9 * jj) ≤ 540; omega)⟩) (kx_no rfl) (fun r18 u17 H locs hp16 G => ?_)
        obtain ⟨er19, eu17⟩ := hp16
        rw [eu17] at G
        refine lv_topv (v := (X7_sign_x1 tl (psP tl gb jj) gb)) er19 ?_
        refine lv_istore_n (lv' := [(2, .int (X7_sign_x1 tl (psP tl gb jj) gb)), (0, .ref tx), (1, .int (nI (psP tl gb jj)))]) hx hb dX7_parse_20 rfl hl (by decide) rfl (fun ls hl => ?_)
        refine lv_aload_n hx hb dX7_parse_21 rfl (lv_at hl 1 rfl) ?_
        refine lv_iload_n hx hb dX7_parse_22 rfl (lv_at hl 2 rfl) ?_
        refine lv_iconst (v := 1) hx hb dX7_parse_23 (by decide) ?_
        refine lv_iadd hx hb dX7_parse_24 ?_
        refine lv_topv (v := nI (psP tl gb jj + 1)) ((nI_add _ _)) ?_
        refine g_cI C0 G (g_runV C0 G (rest := []) (c_X7_sign hfl (tl := tl) (jj := (psP tl gb jj + 1)) (tc := nI jj) (gb := gb) h_tx1 k15 (by have h9 := (hps jj hlt).1; omega) htl hcb) h_tx1 rfl hY_X7_sign mm_X7_35 mi_X7_sign ml_X7_sign ⟨(Nat.le_of_ble_eq_true rfl), (Nat.le_of_ble_eq_true rfl)⟩ rfl hl.1 rfl (Nat.le_of_ble_eq_true rfl) dX7_parse_25 ⟨(by show jj ≤ 60; omega), (by show (9 * jj) ≤ 540; omega)⟩) (kx_no rfl) (fun r22 u21 H locs hp20 G => ?_)
        obtain ⟨er23, eu21⟩ := hp20
        rw [eu21] at G
        refine lv_topv (v := (X7_sign_x1 tl (psP tl gb jj + 1) gb)) er23 ?_
        refine lv_istore_n (lv' := [(3, .int (X7_sign_x1 tl (psP tl gb jj + 1) gb)), (2, .int (X7_sign_x1 tl (psP tl gb jj) gb)), (0, .ref tx), (1, .int (nI (psP tl gb jj)))]) hx hb dX7_parse_28 rfl hl (by decide) rfl (fun ls hl => ?_)
        refine lv_iload_n hx hb dX7_parse_29 rfl (lv_at hl 1 rfl) ?_
        refine g_cI C0 G (g_runS C0 G (rest := []) (c_X7_isFirst hfl (X7_sign_x1 tl (psP tl gb jj) gb) ) hY_X7_isFirst mm_X7_39 ms_X7_isFirst ⟨(Nat.le_of_ble_eq_true rfl), (Nat.le_of_ble_eq_true rfl)⟩ rfl hl.1 rfl (Nat.le_of_ble_eq_true rfl) dX7_parse_30 ⟨(by show jj ≤ 60; omega), (by show (9 * jj) ≤ 540; omega)⟩) (kx_no rfl) (fun r26 u25 H locs hp24 G => ?_)
        obtain ⟨er27, eu25⟩ := hp24
        rw [eu25] at G
        refine lv_topv (v := (X7_isFirst_r2 (X7_sign_x1 tl (psP tl gb jj) gb))) er27 ?_
        refine lv_if_ne (tgt := 38) hx hb dX7_parse_33 (by decide) (fun _ => ?_) (fun c28 => absurd c28 ((hps jj hlt).2.1))
        refine lv_iload_n hx hb dX7_parse_38 rfl (lv_at hl 0 rfl) ?_
        refine lv_iload_n hx hb dX7_parse_39 rfl (lv_at hl 1 rfl) ?_
        refine g_cI C0 G (g_runS C0 G (rest := [.int (X7_sign_x1 tl (psP tl gb jj + 1) gb)]) (c_X7_leastSecond hfl (X7_sign_x1 tl (psP tl gb jj) gb) ) hY_X7_leastSecond mm_X7_43 ms_X7_leastSecond ⟨(Nat.le_of_ble_eq_true rfl), (Nat.le_of_ble_eq_true rfl)⟩ rfl hl.1 rfl (Nat.le_of_ble_eq_true rfl) dX7_parse_40 ⟨(by show jj ≤ 60; omega), (by show (9 * jj) ≤ 540; omega)⟩) (kx_no rfl) (fun r31 u30 H locs hp29 G => ?_)
        obtain ⟨er32, eu30⟩ := hp29
        rw [eu30] at G
        refine lv_topv (v := (X7_leastSecond_r1 (X7_sign_x1 tl (psP tl gb jj) gb))) er32 ?_
        refine lv_iload_n hx hb dX7_parse_43 rfl (lv_at hl 1 rfl) ?_
        refine g_cI C0 G (g_runS C0 G (rest := [.int (X7_leastSecond_r1 (X7_sign_x1 tl (psP tl gb jj) gb)), .int (X7_sign_x1 tl (psP tl gb jj + 1) gb)]) (c_X7_mostSecond hfl (X7_sign_x1 tl (psP tl gb jj) gb) ) hY_X7_mostSecond mm_X7_47 ms_X7_mostSecond ⟨(Nat.le_of_ble_eq_true rfl), (Nat.le_of_ble_eq_true rfl)⟩ rfl hl.1 rfl (Nat.le_of_ble_eq_true rfl) dX7_parse_44 ⟨(by show jj ≤ 60; omega), (by show (9 * jj) ≤ 540; omega)⟩) (kx_no rfl) (fun r35 u34 H locs hp33 G => ?_)
        obtain ⟨er36, eu34⟩ := hp33
        rw [eu34] at G
        refine lv_topv (v := (X7_mostSecond_r0 (X7_sign_x1 tl (psP tl gb jj) gb))) er36 ?_
        refine g_cI C0 G (g_runSN C0 G (rest := []) (c_X8_isWithin hfl (X7_sign_x1 tl (psP tl gb jj + 1) gb) (X7_leastSecond_r1 (X7_sign_x1 tl (psP tl gb jj) gb)) (X7_mostSecond_r0 (X7_sign_x1 tl (psP tl gb jj) gb)) ) hY_X8_isWithin mq_X7_50 ms_X8_isWithin ⟨(Nat.le_of_ble_eq_true rfl), (Nat.le_of_ble_eq_true rfl)⟩ rfl hl.1 rfl (Nat.le_of_ble_eq_true rfl) dX7_parse_47 ⟨(by show jj ≤ 60; omega), (by show (9 * jj) ≤ 540; omega)⟩) (kx_no rfl) (fun r39 u38 H locs hp37 G => ?_)
        obtain ⟨er40, eu38⟩ := hp37
        rw [eu38] at G
        refine lv_topv (v := (X8_isWithin_x1 (X7_sign_x1 tl (psP tl gb jj + 1) gb) (X7_leastSecond_r1 (X7_sign_x1 tl (psP tl gb jj) gb)) (X7_mostSecond_r0 (X7_sign_x1 tl (psP tl gb jj) gb)))) er40 ?_
        refine lv_istore (lv' := [(4, .int (X8_isWithin_x1 (X7_sign_x1 tl (psP tl gb jj + 1) gb) (X7_leastSecond_r1 (X7_sign_x1 tl (psP tl gb jj) gb)) (X7_mostSecond_r0 (X7_sign_x1 tl (psP tl gb jj) gb)))), (3, .int (X7_sign_x1 tl (psP tl gb jj + 1) gb)), (2, .int (X7_sign_x1 tl (psP tl gb jj) gb)), (0, .ref tx), (1, .int (nI (psP tl gb jj)))]) hx hb dX7_parse_50 hl (by decide) rfl (fun ls hl => ?_)
        refine lv_iload hx hb dX7_parse_52 (lv_at hl 0 rfl) ?_
        refine lv_if_ne (tgt := 68) hx hb dX7_parse_54 (by decide) (fun c41 => ?_) (fun c41 => ?_)
        · refine lv_aload_n hx hb dX7_parse_68 rfl (lv_at hl 3 rfl) ?_
          refine lv_iload hx hb dX7_parse_69 (lv_at hl 0 rfl) ?_
          refine lv_if_eq (tgt := 82) hx hb dX7_parse_71 (by decide) (fun c42 => absurd c42 (c41)) (fun _ => ?_)
          refine lv_iload_n hx hb dX7_parse_74 rfl (lv_at hl 2 rfl) ?_
          refine lv_iload_n hx hb dX7_parse_75 rfl (lv_at hl 1 rfl) ?_
          refine g_cR C0 G (g_runS C0 G (rest := [.ref tx]) (c_X7_pair hfl (X7_sign_x1 tl (psP tl gb jj) gb) (X7_sign_x1 tl (psP tl gb jj + 1) gb) ) hY_X7_pair mm_X7_57 ms_X7_pair ⟨(Nat.le_of_ble_eq_true rfl), (Nat.le_of_ble_eq_true rfl)⟩ rfl hl.1 rfl (Nat.le_of_ble_eq_true rfl) dX7_parse_76 ⟨(by show (jj + 1) ≤ 60; omega), (by show (9 * jj + 9) ≤ 540; omega)⟩) (kx_no rfl) (fun a45 u44 H locs hp43 G => ?_)
          obtain ⟨nn46, k47, fr48⟩ := hp43
          refine lv_goto (tgt := 86) hx hb dX7_parse_79 (by decide) ?_
          have k49 : u44 tx = some (.inr (9, [.ref bu, .ref no, .ref pd, .int (nI tl), .int (nI jj)])) := fr48 _ _ (by simp) h_tx1
          have k50 : u44 pd = some (.inl (cy 4, 60, .inr (.inr (.inr (.inr Qf))))) := fr48 _ _ (by simp) h_pd1
          refine g_cV C0 G (g_runV C0 G (rest := []) (c_X7_keep hfl (tl := nI tl) (tc := jj) (qp := Qf) (ty := (X7_pair_x0 (X7_sign_x1 tl (psP tl gb jj) gb))) (nu := (X7_pair_x1 (X7_sign_x1 tl (psP tl gb jj) gb) (X7_sign_x1 tl (psP tl gb jj + 1) gb))) (wy := 0) (kd := (X7_pair_x2 (X7_sign_x1 tl (psP tl gb jj) gb))) (ru := (X7_pair_x3 (X7_sign_x1 tl (psP tl gb jj) gb) (X7_sign_x1 tl (psP tl gb jj + 1) gb))) (so := 0) (sb := (X7_pair_x4 (X7_sign_x1 tl (psP tl gb jj) gb) (X7_sign_x1 tl (psP tl gb jj + 1) gb))) (sc := 0) (sh := 0) k49 k50 k47 (by omega)) k49 rfl hY_X7_keep mm_X7_65 mi_X7_keep ml_X7_keep ⟨(Nat.le_of_ble_eq_true rfl), (Nat.le_of_ble_eq_true rfl)⟩ rfl hl.1 rfl (Nat.le_of_ble_eq_true rfl) dX7_parse_86 ⟨(by show (jj + 1) ≤ 60; omega), (by show (9 * jj + 9) ≤ 540; omega)⟩) (kx_no rfl) (fun u52 H locs hp51 G => ?_)
          obtain ⟨k53, k54, fr55⟩ := hp51
          refine lv_iload_n hx hb dX7_parse_89 rfl (lv_at hl 4 rfl) ?_
          refine lv_iload hx hb dX7_parse_90 (lv_at hl 0 rfl) ?_
          refine lv_if_eq (tgt := 99) hx hb dX7_parse_92 (by decide) (fun c56 => absurd c56 (c41)) (fun _ => ?_)
          refine lv_iconst (v := 2) hx hb dX7_parse_95 (by decide) ?_
          refine lv_goto (tgt := 100) hx hb dX7_parse_96 (by decide) ?_
          refine lv_iadd hx hb dX7_parse_100 ?_
          refine lv_topv (v := nI (psP tl gb jj + 2)) ((nI_add _ _)) ?_
          refine lv_istore_n (lv' := [(1, .int (nI (psP tl gb jj + 2))), (4, .int (X8_isWithin_x1 (X7_sign_x1 tl (psP tl gb jj + 1) gb) (X7_leastSecond_r1 (X7_sign_x1 tl (psP tl gb jj) gb)) (X7_mostSecond_r0 (X7_sign_x1 tl (psP tl gb jj) gb)))), (3, .int (X7_sign_x1 tl (psP tl gb jj + 1) gb)), (2, .int (X7_sign_x1 tl (psP tl gb jj) gb)), (0, .ref tx)]) hx hb dX7_parse_101 rfl hl (by decide) rfl (fun ls hl => ?_)
          refine lv_goto (tgt := 7) hx hb dX7_parse_102 (by decide) ?_
          have k57 : u52 a45 = some (.inr (7, [.int (X7_pair_x0 (X7_sign_x1 tl (psP tl gb jj) gb)), .int (X7_pair_x1 (X7_sign_x1 tl (psP tl gb jj) gb) (X7_sign_x1 tl (psP tl gb jj + 1) gb)), .int 0, .int (X7_pair_x2 (X7_sign_x1 tl (psP tl gb jj) gb)), .int (X7_pair_x3 (X7_sign_x1 tl (psP tl gb jj) gb) (X7_sign_x1 tl (psP tl gb jj + 1) gb)), .int 0, .int (X7_pair_x4 (X7_sign_x1 tl (psP tl gb jj) gb) (X7_sign_x1 tl (psP tl gb jj + 1) gb)), .int 0, .int 0])) := fr55 _ _ (by simp only [List.mem_cons, List.not_mem_nil, or_false]; intro q; rcases q with q | q; exact (Ne.symm (hneN h_pd1 nn46)) q; exact (Ne.symm (hneN h_tx1 nn46)) q) k47
          have hpq2 : ∀ k, k < jj + 1 → ∃ a, (va_up Qf jj (some a45)) k = some a ∧ u52 a = some (scell (psS tl gb k)) := by
            intro k hk9
            rcases Nat.lt_or_ge k jj with hl9 | hl9
            · obtain ⟨a7, ea7, ka7⟩ := hpq k hl9
              replace ka7 : f1 a7 = some (.inr (7, [.int (psS tl gb k 0), .int (psS tl gb k 1), .int (psS tl gb k 2), .int (psS tl gb k 3), .int (psS tl gb k 4), .int (psS tl gb k 5), .int (psS tl gb k 6), .int (psS tl gb k 7), .int (psS tl gb k 8)])) := ka7
              have k58 : u52 a7 = some (.inr (7, [.int (psS tl gb k 0), .int (psS tl gb k 1), .int (psS tl gb k 2), .int (psS tl gb k 3), .int (psS tl gb k 4), .int (psS tl gb k 5), .int (psS tl gb k 6), .int (psS tl gb k 7), .int (psS tl gb k 8)])) := fr55 _ _ (by simp only [List.mem_cons, List.not_mem_nil, or_false]; intro q; rcases q with q | q; exact (hne (fr48 _ _ (by simp) ka7) k50 (by intro q; cases q)) q; exact (hne (fr48 _ _ (by simp) ka7) k49 (by intro q; cases q)) q) (fr48 _ _ (by simp) ka7)
              exact ⟨a7, (va_up_off _ _ (by omega)).trans ea7, k58⟩
            · have e9 : k = jj := by omega
              subst e9
              refine ⟨a45, va_up_at _ _ _, ?_⟩
              have es0 : psS tl gb k 0 = (X7_pair_x0 (X7_sign_x1 tl (psP tl gb k) gb)) := if_neg c41
              have es1 : psS tl gb k 1 = (X7_pair_x1 (X7_sign_x1 tl (psP tl gb k) gb) (X7_sign_x1 tl (psP tl gb k + 1) gb)) := if_neg c41
              have es2 : psS tl gb k 2 = 0 := if_neg c41
              have es3 : psS tl gb k 3 = (X7_pair_x2 (X7_sign_x1 tl (psP tl gb k) gb)) := if_neg c41
              have es4 : psS tl gb k 4 = (X7_pair_x3 (X7_sign_x1 tl (psP tl gb k) gb) (X7_sign_x1 tl (psP tl gb k + 1) gb)) := if_neg c41
              have es5 : psS tl gb k 5 = 0 := if_neg c41
              have es6 : psS tl gb k 6 = (X7_pair_x4 (X7_sign_x1 tl (psP tl gb k) gb) (X7_sign_x1 tl (psP tl gb k + 1) gb)) := if_neg c41
              have es7 : psS tl gb k 7 = 0 := if_neg c41
              have es8 : psS tl gb k 8 = 0 := if_neg c41
              show u52 a45 = some (.inr (7, [.int (psS tl gb k 0), .int (psS tl gb k 1), .int (psS tl gb k 2), .int (psS tl gb k 3), .int (psS tl gb k 4), .int (psS tl gb k 5), .int (psS tl gb k 6), .int (psS tl gb k 7), .int (psS tl gb k 8)]))
              rw [es0, es1, es2, es3, es4, es5, es6, es7, es8]
              exact k57
          exact ih (jj + 1) _ u52 _ _ _ (by omega) (by omega) hpq2 k54 k53 (fun a9 e9 h7 h8 => fr55 _ _ (fun q => h7 (by simp only [List.mem_cons, List.not_mem_nil, or_false] at q ⊢; first | exact q | (rcases q with q | q <;> simp [q]) | omega)) (fr48 _ _ (by simp) (hfr _ _ (fun q => h7 (by simp only [List.mem_cons, List.not_mem_nil, or_false] at q ⊢; first | exact q | (rcases q with q | q <;> simp [q]) | omega)) (h8)))) G (by rw [show psP tl gb (jj + 1) = psP tl gb jj + 2 from by rw [psP_s, if_neg (show ¬ psB tl gb (psP tl gb jj) = 0 from c41)]]; exact (lv_sub hl [4, 0] rfl))
        · refine lv_iload_n hx hb dX7_parse_57 rfl (lv_at hl 2 rfl) ?_
          refine g_cI C0 G (g_runS C0 G (rest := []) (c_X7_needsSecond hfl (X7_sign_x1 tl (psP tl gb jj) gb) ) hY_X7_needsSecond mm_X7_54 ms_X7_needsSecond ⟨(Nat.le_of_ble_eq_true rfl), (Nat.le_of_ble_eq_true rfl)⟩ rfl hl.1 rfl (Nat.le_of_ble_eq_true rfl) dX7_parse_58 ⟨(by show jj ≤ 60; omega), (by show (9 * jj) ≤ 540; omega)⟩) (kx_no rfl) (fun r61 u60 H locs hp59 G => ?_)
          obtain ⟨er62, eu60⟩ := hp59
          rw [eu60] at G
          refine lv_topv (v := (X7_needsSecond_x2 (X7_sign_x1 tl (psP tl gb jj) gb))) er62 ?_
          refine lv_if_eq (tgt := 68) hx hb dX7_parse_61 (by decide) (fun _ => ?_) (fun c63 => absurd (((hps jj hlt).2.2 c41)) c63)
          refine lv_aload_n hx hb dX7_parse_68 rfl (lv_at hl 3 rfl) ?_
          refine lv_iload hx hb dX7_parse_69 (lv_at hl 0 rfl) ?_
          refine lv_if_eq (tgt := 82) hx hb dX7_parse_71 (by decide) (fun _ => ?_) (fun c64 => absurd (c41) c64)
          refine lv_iload_n hx hb dX7_parse_82 rfl (lv_at hl 2 rfl) ?_
          refine g_cR C0 G (g_runS C0 G (rest := [.ref tx]) (c_X7_single hfl (X7_sign_x1 tl (psP tl gb jj) gb) ) hY_X7_single mm_X7_61 ms_X7_single ⟨(Nat.le_of_ble_eq_true rfl), (Nat.le_of_ble_eq_true rfl)⟩ rfl hl.1 rfl (Nat.le_of_ble_eq_true rfl) dX7_parse_83 ⟨(by show (jj + 1) ≤ 60; omega), (by show (9 * jj + 9) ≤ 540; omega)⟩) (kx_no rfl) (fun a67 u66 H locs hp65 G => ?_)
          obtain ⟨nn68, k69, fr70⟩ := hp65
          have k71 : u66 tx = some (.inr (9, [.ref bu, .ref no, .ref pd, .int (nI tl), .int (nI jj)])) := fr70 _ _ (by simp) h_tx1
          have k72 : u66 pd = some (.inl (cy 4, 60, .inr (.inr (.inr (.inr Qf))))) := fr70 _ _ (by simp) h_pd1
          refine g_cV C0 G (g_runV C0 G (rest := []) (c_X7_keep hfl (tl := nI tl) (tc := jj) (qp := Qf) (ty := (X7_single_x0 (X7_sign_x1 tl (psP tl gb jj) gb))) (nu := 0) (wy := (X7_single_x1 (X7_sign_x1 tl (psP tl gb jj) gb))) (kd := (X7_single_x2 (X7_sign_x1 tl (psP tl gb jj) gb))) (ru := (X7_single_x3 (X7_sign_x1 tl (psP tl gb jj) gb))) (so := 0) (sb := (X7_single_x4 (X7_sign_x1 tl (psP tl gb jj) gb))) (sc := 0) (sh := 0) k71 k72 k69 (by omega)) k71 rfl hY_X7_keep mm_X7_65 mi_X7_keep ml_X7_keep ⟨(Nat.le_of_ble_eq_true rfl), (Nat.le_of_ble_eq_true rfl)⟩ rfl hl.1 rfl (Nat.le_of_ble_eq_true rfl) dX7_parse_86 ⟨(by show (jj + 1) ≤ 60; omega), (by show (9 * jj + 9) ≤ 540; omega)⟩) (kx_no rfl) (fun u74 H locs hp73 G => ?_)
          obtain ⟨k75, k76, fr77⟩ := hp73
          refine lv_iload_n hx hb dX7_parse_89 rfl (lv_at hl 4 rfl) ?_
          refine lv_iload hx hb dX7_parse_90 (lv_at hl 0 rfl) ?_
          refine lv_if_eq (tgt := 99) hx hb dX7_parse_92 (by decide) (fun _ => ?_) (fun c78 => absurd (c41) c78)
          refine lv_iconst (v := 1) hx hb dX7_parse_99 (by decide) ?_
          refine lv_iadd hx hb dX7_parse_100 ?_
          refine lv_topv (v := nI (psP tl gb jj + 1)) ((nI_add _ _)) ?_
          refine lv_istore_n (lv' := [(1, .int (nI (psP tl gb jj + 1))), (4, .int (X8_isWithin_x1 (X7_sign_x1 tl (psP tl gb jj + 1) gb) (X7_leastSecond_r1 (X7_sign_x1 tl (psP tl gb jj) gb)) (X7_mostSecond_r0 (X7_sign_x1 tl (psP tl gb jj) gb)))), (3, .int (X7_sign_x1 tl (psP tl gb jj + 1) gb)), (2, .int (X7_sign_x1 tl (psP tl gb jj) gb)), (0, .ref tx)]) hx hb dX7_parse_101 rfl hl (by decide) rfl (fun ls hl => ?_)
          refine lv_goto (tgt := 7) hx hb dX7_parse_102 (by decide) ?_
          have k79 : u74 a67 = some (.inr (7, [.int (X7_single_x0 (X7_sign_x1 tl (psP tl gb jj) gb)), .int 0, .int (X7_single_x1 (X7_sign_x1 tl (psP tl gb jj) gb)), .int (X7_single_x2 (X7_sign_x1 tl (psP tl gb jj) gb)), .int (X7_single_x3 (X7_sign_x1 tl (psP tl gb jj) gb)), .int 0, .int (X7_single_x4 (X7_sign_x1 tl (psP tl gb jj) gb)), .int 0, .int 0])) := fr77 _ _ (by simp only [List.mem_cons, List.not_mem_nil, or_false]; intro q; rcases q with q | q; exact (Ne.symm (hneN h_pd1 nn68)) q; exact (Ne.symm (hneN h_tx1 nn68)) q) k69
          have hpq2 : ∀ k, k < jj + 1 → ∃ a, (va_up Qf jj (some a67)) k = some a ∧ u74 a = some (scell (psS tl gb k)) := by
            intro k hk9
            rcases Nat.lt_or_ge k jj with hl9 | hl9
            · obtain ⟨a7, ea7, ka7⟩ := hpq k hl9
              replace ka7 : f1 a7 = some (.inr (7, [.int (psS tl gb k 0), .int (psS tl gb k 1), .int (psS tl gb k 2), .int (psS tl gb k 3), .int (psS tl gb k 4), .int (psS tl gb k 5), .int (psS tl gb k 6), .int (psS tl gb k 7), .int (psS tl gb k 8)])) := ka7
              have k80 : u74 a7 = some (.inr (7, [.int (psS tl gb k 0), .int (psS tl gb k 1), .int (psS tl gb k 2), .int (psS tl gb k 3), .int (psS tl gb k 4), .int (psS tl gb k 5), .int (psS tl gb k 6), .int (psS tl gb k 7), .int (psS tl gb k 8)])) := fr77 _ _ (by simp only [List.mem_cons, List.not_mem_nil, or_false]; intro q; rcases q with q | q; exact (hne (fr70 _ _ (by simp) ka7) k72 (by intro q; cases q)) q; exact (hne (fr70 _ _ (by simp) ka7) k71 (by intro q; cases q)) q) (fr70 _ _ (by simp) ka7)
              exact ⟨a7, (va_up_off _ _ (by omega)).trans ea7, k80⟩
            · have e9 : k = jj := by omega
              subst e9
              refine ⟨a67, va_up_at _ _ _, ?_⟩
              have es0 : psS tl gb k 0 = (X7_single_x0 (X7_sign_x1 tl (psP tl gb k) gb)) := if_pos c41
              have es1 : psS tl gb k 1 = 0 := if_pos c41
              have es2 : psS tl gb k 2 = (X7_single_x1 (X7_sign_x1 tl (psP tl gb k) gb)) := if_pos c41
              have es3 : psS tl gb k 3 = (X7_single_x2 (X7_sign_x1 tl (psP tl gb k) gb)) := if_pos c41
              have es4 : psS tl gb k 4 = (X7_single_x3 (X7_sign_x1 tl (psP tl gb k) gb)) := if_pos c41
              have es5 : psS tl gb k 5 = 0 := if_pos c41
              have es6 : psS tl gb k 6 = (X7_single_x4 (X7_sign_x1 tl (psP tl gb k) gb)) := if_pos c41
              have es7 : psS tl gb k 7 = 0 := if_pos c41
              have es8 : psS tl gb k 8 = 0 := if_pos c41
              show u74 a67 = some (.inr (7, [.int (psS tl gb k 0), .int (psS tl gb k 1), .int (psS tl gb k 2), .int (psS tl gb k 3), .int (psS tl gb k 4), .int (psS tl gb k 5), .int (psS tl gb k 6), .int (psS tl gb k 7), .int (psS tl gb k 8)]))
              rw [es0, es1, es2, es3, es4, es5, es6, es7, es8]
              exact k79
          exact ih (jj + 1) _ u74 _ _ _ (by omega) (by omega) hpq2 k76 k75 (fun a9 e9 h7 h8 => fr77 _ _ (fun q => h7 (by simp only [List.mem_cons, List.not_mem_nil, or_false] at q ⊢; first | exact q | (rcases q with q | q <;> simp [q]) | omega)) (fr70 _ _ (by simp) (hfr _ _ (fun q => h7 (by simp only [List.mem_cons, List.not_mem_nil, or_false] at q ⊢; first | exact q | (rcases q with q | q <;> simp [q]) | omega)) (h8)))) G (by rw [show psP tl gb (jj + 1) = psP tl gb jj + 1 from by rw [psP_s, if_pos (show psB tl gb (psP tl gb jj) = 0 from c41)]]; exact (lv_sub hl [4, 0] rfl))
      · have hi9 : N = jj := by omega
        subst hi9
        refine lv_iload_n hx hb dX7_parse_7 rfl (lv_at hl 1 rfl) ?_
        refine lv_aload_n hx hb dX7_parse_8 rfl (lv_at hl 0 rfl) ?_
        refine g_get C0 G h_tx1 rfl hiX7 3 (by decide) mf_X7_28 rfl dX7_parse_9 ?_
        refine lv_icmp_ge (tgt := 105) hx hb dX7_parse_12 (by decide) (fun c81 => absurd c81 ((fun q => absurd ((nI_leI (by omega) (by have := hpP N (by omega); omega)).mp q) (by have h9 := hpe.1; omega)))) (fun _ => ?_)
        refine lv_aload_n hx hb dX7_parse_15 rfl (lv_at hl 0 rfl) ?_
        refine lv_iload_n hx hb dX7_parse_16 rfl (lv_at hl 1 rfl) ?_
        have k82 : f1 bu = some (.inl (cy 1, 60, .inl gb)) := hfr _ _ (by simp only [List.mem_cons, List.not_mem_nil, or_false]; intro q; rcases q with q | q; exact (hne (hup hf11 (hne h_bu h_tx (by intro q; cases q)) h_bu) k12 (by intro q; cases q)) q; exact (hne (hup hf11 (hne h_bu h_tx (by intro q; cases q)) h_bu) k13 (by intro q; first | (cases q; done) | (simp at q; done))) q) (hup hf11 (hne h_bu h_tx (by intro q; cases q)) h_bu)
        refine g_cI C0 G (g_runV C0 G (rest := []) (c_X7_sign hfl (tl := tl) (jj := (psP tl gb N)) (tc := nI N) (gb := gb) h_tx1 k82 (by have h9 := hpe.1; omega) htl hcb) h_tx1 rfl hY_X7_sign mm_X7_35 mi_X7_sign ml_X7_sign ⟨(Nat.le_of_ble_eq_true rfl), (Nat.le_of_ble_eq_true rfl)⟩ rfl hl.1 rfl (Nat.le_of_ble_eq_true rfl) dX7_parse_17 ⟨(by show N ≤ 60; omega), (by show (9 * N) ≤ 540; omega)⟩) (kx_no rfl) (fun r85 u84 H locs hp83 G => ?_)
        obtain ⟨er86, eu84⟩ := hp83
        rw [eu84] at G
        refine lv_topv (v := (X7_sign_x1 tl (psP tl gb N) gb)) er86 ?_
        refine lv_istore_n (lv' := [(2, .int (X7_sign_x1 tl (psP tl gb N) gb)), (0, .ref tx), (1, .int (nI (psP tl gb N)))]) hx hb dX7_parse_20 rfl hl (by decide) rfl (fun ls hl => ?_)
        refine lv_aload_n hx hb dX7_parse_21 rfl (lv_at hl 1 rfl) ?_
        refine lv_iload_n hx hb dX7_parse_22 rfl (lv_at hl 2 rfl) ?_
        refine lv_iconst (v := 1) hx hb dX7_parse_23 (by decide) ?_
        refine lv_iadd hx hb dX7_parse_24 ?_
        refine lv_topv (v := nI (psP tl gb N + 1)) ((nI_add _ _)) ?_
        refine g_cI C0 G (g_runV C0 G (rest := []) (c_X7_sign hfl (tl := tl) (jj := (psP tl gb N + 1)) (tc := nI N) (gb := gb) h_tx1 k82 (by have h9 := hpe.1; omega) htl hcb) h_tx1 rfl hY_X7_sign mm_X7_35 mi_X7_sign ml_X7_sign ⟨(Nat.le_of_ble_eq_true rfl), (Nat.le_of_ble_eq_true rfl)⟩ rfl hl.1 rfl (Nat.le_of_ble_eq_true rfl) dX7_parse_25 ⟨(by show N ≤ 60; omega), (by show (9 * N) ≤ 540; omega)⟩) (kx_no rfl) (fun r89 u88 H locs hp87 G => ?_)
        obtain ⟨er90, eu88⟩ := hp87
        rw [eu88] at G
        refine lv_topv (v := (X7_sign_x1 tl (psP tl gb N + 1) gb)) er90 ?_
        refine lv_istore_n (lv' := [(3, .int (X7_sign_x1 tl (psP tl gb N + 1) gb)), (2, .int (X7_sign_x1 tl (psP tl gb N) gb)), (0, .ref tx), (1, .int (nI (psP tl gb N)))]) hx hb dX7_parse_28 rfl hl (by decide) rfl (fun ls hl => ?_)
        refine lv_iload_n hx hb dX7_parse_29 rfl (lv_at hl 1 rfl) ?_
        refine g_cI C0 G (g_runS C0 G (rest := []) (c_X7_isFirst hfl (X7_sign_x1 tl (psP tl gb N) gb) ) hY_X7_isFirst mm_X7_39 ms_X7_isFirst ⟨(Nat.le_of_ble_eq_true rfl), (Nat.le_of_ble_eq_true rfl)⟩ rfl hl.1 rfl (Nat.le_of_ble_eq_true rfl) dX7_parse_30 ⟨(by show N ≤ 60; omega), (by show (9 * N) ≤ 540; omega)⟩) (kx_no rfl) (fun r93 u92 H locs hp91 G => ?_)
        obtain ⟨er94, eu92⟩ := hp91
        rw [eu92] at G
        refine lv_topv (v := (X7_isFirst_r2 (X7_sign_x1 tl (psP tl gb N) gb))) er94 ?_
        refine lv_if_ne (tgt := 38) hx hb dX7_parse_33 (by decide) (fun c95 => absurd (hpe.2) c95) (fun _ => ?_)
        refine lv_iload_n hx hb dX7_parse_36 rfl (lv_at hl 3 rfl) ?_
        exact g_iret C0 G hr dX7_parse_37 (by first | (show N ≤ 60; omega) | (show (9 * N) ≤ 540; omega)) (by first | (show N ≤ 60; omega) | (show (9 * N) ≤ 540; omega)) (by exact ⟨rfl, h_tx1, ⟨_, h_pd1, hpq⟩, (fun a9 e9 h7 h8 => hfr _ _ (fun q => h7 (by simp only [List.mem_cons, List.not_mem_nil, or_false] at q ⊢; first | exact q | (rcases q with q | q <;> simp [q]) | omega)) (hup hf11 (fun q => h7 (by rw [q]; simp)) (h8)))⟩)
  exact LOOP7 (N + 1) 0 qp f11 _ _ _ (by omega) (by omega) (fun k h => absurd h (by omega)) k12 k13 (fun a9 e9 h7 h8 => h8) G (lv_sub hl [1, 0] rfl)
set_option maxRecDepth 100000 in
theorem c_X7_parseE2 {l : Launch} (hfl : l.stackTraces = false) {D : va_G} {cy : Nat → ClassId} {f : Hf} {sz : Nat} {tx : Nat} {bu : Nat} {no : Nat} {pd : Nat} {tl : Nat} {N : Nat} {tc : Int32} {gb : Nat → Int32} {qp : Nat → Option Nat} (h_tx : f tx = some (.inr (9, [.ref bu, .ref no, .ref pd, .int (nI tl), .int tc]))) (h_bu : f bu = some (.inl (cy 1, 60, .inl gb))) (h_pd : f pd = some (.inl (cy 4, 60, .inr (.inr (.inr (.inr qp)))))) (htl : tl ≤ 60) (hN : N ≤ 60) (hcb : ∀ k, narrow .char (.int (gb k)) = .int (gb k)) (hpP : ∀ j, j ≤ N → psP tl gb j ≤ 61) (hps : ∀ j, j < N → psP tl gb j < tl ∧ ¬ X7_isFirst_r2 (X7_sign_x1 tl (psP tl gb j) gb) = 0 ∧ (psB tl gb (psP tl gb j) = 0 → X7_needsSecond_x2 (X7_sign_x1 tl (psP tl gb j) gb) = 0)) (hpe : psP tl gb N < tl ∧ ¬ X7_isFirst_r2 (X7_sign_x1 tl (psP tl gb N) gb) = 0 ∧ psB tl gb (psP tl gb N) = 0 ∧ ¬ X7_needsSecond_x2 (X7_sign_x1 tl (psP tl gb N) gb) = 0) : hMet l yX7_parse cX7_parse 5 (some .int) { frames := 4, cells := 60, slots := 540, locals := 78 } D (hTy cy) f sz [.ref tx] (hQi (fun r u => r = nI (psP tl gb N + 1) ∧ u tx = some (.inr (9, [.ref bu, .ref no, .ref pd, .int (nI tl), .int (nI N)])) ∧ (∃ Q, u pd = some (.inl (cy 4, 60, .inr (.inr (.inr (.inr Q))))) ∧ ∀ k, k < N → ∃ a, Q k = some a ∧ u a = some (scell (psS tl gb k))) ∧ hFrL f u [tx, pd]) D f sz) hNo := by
  refine h_enter (by decide) hfl (Nat.le_of_ble_eq_true rfl) ?_
  intro p9 e9 s9 m9 b9 t9 c9 hsz C0 hr hnm G ls hl
  have hx := C0.1.1
  have hb := C0.1.2.1
  have hl : lv_has ls 5 [(0, .ref tx)] := hl
  refine lv_aload_n hx hb dX7_parse_0 rfl (lv_at hl 0 rfl) ?_
  refine lv_iconst (v := 0) hx hb dX7_parse_1 (by decide) ?_
  refine g_put C0 G h_tx rfl hiX7 tyX7 tyX7_ok nmX7 4 (by decide) mf_X7_32 rfl rfl rfl rfl (Nat.le_of_ble_eq_true rfl) dX7_parse_2 (fun H locs f11 hf11 G => ?_)
  have k12 : f11 tx = some (.inr (9, [.ref bu, .ref no, .ref pd, .int (nI tl), .int 0])) := hus hf11
  refine lv_iconst (v := 0) hx hb dX7_parse_5 (by decide) ?_
  refine lv_istore_n (lv' := [(1, .int 0), (0, .ref tx)]) hx hb dX7_parse_6 rfl hl (by decide) rfl (fun ls hl => ?_)
  have k13 : f11 pd = some (.inl (cy 4, 60, .inr (.inr (.inr (.inr qp))))) := hup hf11 (hne h_pd h_tx (by intro q; cases q)) h_pd
  have LOOP7 : ∀ (k9 : Nat) (jj : Nat) (Qf : Nat → Option Nat) (f1 : Hf) (H : Heap) (locs : List Loc) (ls : Array Slot), (jj ≤ N) → (N - jj < k9) → (∀ k, k < jj → ∃ a, Qf k = some a ∧ f1 a = some (scell (psS tl gb k))) → f1 tx = some (.inr (9, [.ref bu, .ref no, .ref pd, .int (nI tl), .int (nI jj)])) → f1 pd = some (.inl (cy 4, 60, .inr (.inr (.inr (.inr Qf))))) → hFrL f11 f1 [tx, pd] → hG D (hA f sz) f1 s9 H locs → lv_has ls 5 [(0, .ref tx), (1, .int (nI (psP tl gb jj)))] → W p9 l e9 ({ frames := 4, cells := 60, slots := 540, locals := 78 } : Room) s9 m9 ([.ref tx] : List Value).toArray b9 t9 c9 H locs jj (9 * jj) (vx_MQ b9 (hQi (fun r u => r = nI (psP tl gb N + 1) ∧ u tx = some (.inr (9, [.ref bu, .ref no, .ref pd, .int (nI tl), .int (nI N)])) ∧ (∃ Q, u pd = some (.inl (cy 4, 60, .inr (.inr (.inr (.inr Q))))) ∧ ∀ k, k < N → ∃ a, Q k = some a ∧ u a = some (scell (psS tl gb k))) ∧ hFrL f u [tx, pd]) D f sz) (hPx hNo D f sz) ([.ref tx] : List Value).toArray s9 60 540 (hA f sz)) (F0 m9 7 ls []) := by
    intro k9
    induction k9 with
    | zero =>
      intro jj Qf f1 H locs ls hi2 hk hpq h_tx1 h_pd1 hfr G hl
      exact absurd hk (by omega)
    | succ k9 ih =>
      intro jj Qf f1 H locs ls hi2 hk hpq h_tx1 h_pd1 hfr G hl
      rcases Nat.lt_or_ge jj N with hlt | hge
      · refine lv_iload_n hx hb dX7_parse_7 rfl (lv_at hl 1 rfl) ?_
        refine lv_aload_n hx hb dX7_parse_8 rfl (lv_at hl 0 rfl) ?_
        refine g_get C0 G h_tx1 rfl hiX7 3 (by decide) mf_X7_28 rfl dX7_parse_9 ?_
        refine lv_icmp_ge (tgt := 105) hx hb dX7_parse_12 (by decide) (fun c14 => absurd c14 ((fun q => absurd ((nI_leI (by omega) (by have := hpP jj (by omega); omega)).mp q) (by have h9 := (hps jj hlt).1; omega)))) (fun _ => ?_)
        refine lv_aload_n hx hb dX7_parse_15 rfl (lv_at hl 0 rfl) ?_
        refine lv_iload_n hx hb dX7_parse_16 rfl (lv_at hl 1 rfl) ?_
        have k15 : f1 bu = some (.inl (cy 1, 60, .inl gb)) := hfr _ _ (by simp only [List.mem_cons, List.not_mem_nil, or_false]; intro q; rcases q with q | q; exact (hne (hup hf11 (hne h_bu h_tx (by intro q; cases q)) h_bu) k12 (by intro q; cases q)) q; exact (hne (hup hf11 (hne h_bu h_tx (by intro q; cases q)) h_bu) k13 (by intro q; first | (cases q; done) | (simp at q; done))) q) (hup hf11 (hne h_bu h_tx (by intro q; cases q)) h_bu)
        refine g_cI C0 G (g_runV C0 G (rest := []) (c_X7_sign hfl (tl := tl) (jj := (psP tl gb jj)) (tc := nI jj) (gb := gb) h_tx1 k15 (by have h9 := (hps jj hlt).1; omega) htl hcb) h_tx1 rfl hY_X7_sign mm_X7_35 mi_X7_sign ml_X7_sign ⟨(Nat.le_of_ble_eq_true rfl), (Nat.le_of_ble_eq_true rfl)⟩ rfl hl.1 rfl (Nat.le_of_ble_eq_true rfl) dX7_parse_17 ⟨(by show jj ≤ 60; omega), (by show (9 * jj) ≤ 540; omega)⟩) (kx_no rfl) (fun r18 u17 H locs hp16 G => ?_)
        obtain ⟨er19, eu17⟩ := hp16
        rw [eu17] at G
        refine lv_topv (v := (X7_sign_x1 tl (psP tl gb jj) gb)) er19 ?_
        refine lv_istore_n (lv' := [(2, .int (X7_sign_x1 tl (psP tl gb jj) gb)), (0, .ref tx), (1, .int (nI (psP tl gb jj)))]) hx hb dX7_parse_20 rfl hl (by decide) rfl (fun ls hl => ?_)
        refine lv_aload_n hx hb dX7_parse_21 rfl (lv_at hl 1 rfl) ?_
        refine lv_iload_n hx hb dX7_parse_22 rfl (lv_at hl 2 rfl) ?_
        refine lv_iconst (v := 1) hx hb dX7_parse_23 (by decide) ?_
        refine lv_iadd hx hb dX7_parse_24 ?_
        refine lv_topv (v := nI (psP tl gb jj + 1)) ((nI_add _ _)) ?_
        refine g_cI C0 G (g_runV C0 G (rest := []) (c_X7_sign hfl (tl := tl) (jj := (psP tl gb jj + 1)) (tc := nI jj) (gb := gb) h_tx1 k15 (by have h9 := (hps jj hlt).1; omega) htl hcb) h_tx1 rfl hY_X7_sign mm_X7_35 mi_X7_sign ml_X7_sign ⟨(Nat.le_of_ble_eq_true rfl), (Nat.le_of_ble_eq_true rfl)⟩ rfl hl.1 rfl (Nat.le_of_ble_eq_true rfl) dX7_parse_25 ⟨(by show jj ≤ 60; omega), (by show (9 * jj) ≤ 540; omega)⟩) (kx_no rfl) (fun r22 u21 H locs hp20 G => ?_)
        obtain ⟨er23, eu21⟩ := hp20
        rw [eu21] at G
        refine lv_topv (v := (X7_sign_x1 tl (psP tl gb jj + 1) gb)) er23 ?_
        refine lv_istore_n (lv' := [(3, .int (X7_sign_x1 tl (psP tl gb jj + 1) gb)), (2, .int (X7_sign_x1 tl (psP tl gb jj) gb)), (0, .ref tx), (1, .int (nI (psP tl gb jj)))]) hx hb dX7_parse_28 rfl hl (by decide) rfl (fun ls hl => ?_)
        refine lv_iload_n hx hb dX7_parse_29 rfl (lv_at hl 1 rfl) ?_
        refine g_cI C0 G (g_runS C0 G (rest := []) (c_X7_isFirst hfl (X7_sign_x1 tl (psP tl gb jj) gb) ) hY_X7_isFirst mm_X7_39 ms_X7_isFirst ⟨(Nat.le_of_ble_eq_true rfl), (Nat.le_of_ble_eq_true rfl)⟩ rfl hl.1 rfl (Nat.le_of_ble_eq_true rfl) dX7_parse_30 ⟨(by show jj ≤ 60; omega), (by show (9 * jj) ≤ 540; omega)⟩) (kx_no rfl) (fun r26 u25 H locs hp24 G => ?_)
        obtain ⟨er27, eu25⟩ := hp24
        rw [eu25] at G
        refine lv_topv (v := (X7_isFirst_r2 (X7_sign_x1 tl (psP tl gb jj) gb))) er27 ?_
        refine lv_if_ne (tgt := 38) hx hb dX7_parse_33 (by decide) (fun _ => ?_) (fun c28 => absurd c28 ((hps jj hlt).2.1))
        refine lv_iload_n hx hb dX7_parse_38 rfl (lv_at hl 0 rfl) ?_
        refine lv_iload_n hx hb dX7_parse_39 rfl (lv_at hl 1 rfl) ?_
        refine g_cI C0 G (g_runS C0 G (rest := [.int (X7_sign_x1 tl (psP tl gb jj + 1) gb)]) (c_X7_leastSecond hfl (X7_sign_x1 tl (psP tl gb jj) gb) ) hY_X7_leastSecond mm_X7_43 ms_X7_leastSecond ⟨(Nat.le_of_ble_eq_true rfl), (Nat.le_of_ble_eq_true rfl)⟩ rfl hl.1 rfl (Nat.le_of_ble_eq_true rfl) dX7_parse_40 ⟨(by show jj ≤ 60; omega), (by show (9 * jj) ≤ 540; omega)⟩) (kx_no rfl) (fun r31 u30 H locs hp29 G => ?_)
        obtain ⟨er32, eu30⟩ := hp29
        rw [eu30] at G
        refine lv_topv (v := (X7_leastSecond_r1 (X7_sign_x1 tl (psP tl gb jj) gb))) er32 ?_
        refine lv_iload_n hx hb dX7_parse_43 rfl (lv_at hl 1 rfl) ?_
        refine g_cI C0 G (g_runS C0 G (rest := [.int (X7_leastSecond_r1 (X7_sign_x1 tl (psP tl gb jj) gb)), .int (X7_sign_x1 tl (psP tl gb jj + 1) gb)]) (c_X7_mostSecond hfl (X7_sign_x1 tl (psP tl gb jj) gb) ) hY_X7_mostSecond mm_X7_47 ms_X7_mostSecond ⟨(Nat.le_of_ble_eq_true rfl), (Nat.le_of_ble_eq_true rfl)⟩ rfl hl.1 rfl (Nat.le_of_ble_eq_true rfl) dX7_parse_44 ⟨(by show jj ≤ 60; omega), (by show (9 * jj) ≤ 540; omega)⟩) (kx_no rfl) (fun r35 u34 H locs hp33 G => ?_)
        obtain ⟨er36, eu34⟩ := hp33
        rw [eu34] at G
        refine lv_topv (v := (X7_mostSecond_r0 (X7_sign_x1 tl (psP tl gb jj) gb))) er36 ?_
        refine g_cI C0 G (g_runSN C0 G (rest := []) (c_X8_isWithin hfl (X7_sign_x1 tl (psP tl gb jj + 1) gb) (X7_leastSecond_r1 (X7_sign_x1 tl (psP tl gb jj) gb)) (X7_mostSecond_r0 (X7_sign_x1 tl (psP tl gb jj) gb)) ) hY_X8_isWithin mq_X7_50 ms_X8_isWithin ⟨(Nat.le_of_ble_eq_true rfl), (Nat.le_of_ble_eq_true rfl)⟩ rfl hl.1 rfl (Nat.le_of_ble_eq_true rfl) dX7_parse_47 ⟨(by show jj ≤ 60; omega), (by show (9 * jj) ≤ 540; omega)⟩) (kx_no rfl) (fun r39 u38 H locs hp37 G => ?_)
        obtain ⟨er40, eu38⟩ := hp37
        rw [eu38] at G
        refine lv_topv (v := (X8_isWithin_x1 (X7_sign_x1 tl (psP tl gb jj + 1) gb) (X7_leastSecond_r1 (X7_sign_x1 tl (psP tl gb jj) gb)) (X7_mostSecond_r0 (X7_sign_x1 tl (psP tl gb jj) gb)))) er40 ?_
        refine lv_istore (lv' := [(4, .int (X8_isWithin_x1 (X7_sign_x1 tl (psP tl gb jj + 1) gb) (X7_leastSecond_r1 (X7_sign_x1 tl (psP tl gb jj) gb)) (X7_mostSecond_r0 (X7_sign_x1 tl (psP tl gb jj) gb)))), (3, .int (X7_sign_x1 tl (psP tl gb jj + 1) gb)), (2, .int (X7_sign_x1 tl (psP tl gb jj) gb)), (0, .ref tx), (1, .int (nI (psP tl gb jj)))]) hx hb dX7_parse_50 hl (by decide) rfl (fun ls hl => ?_)
        refine lv_iload hx hb dX7_parse_52 (lv_at hl 0 rfl) ?_
        refine lv_if_ne (tgt := 68) hx hb dX7_parse_54 (by decide) (fun c41 => ?_) (fun c41 => ?_)
        · refine lv_aload_n hx hb dX7_parse_68 rfl (lv_at hl 3 rfl) ?_
          refine lv_iload hx hb dX7_parse_69 (lv_at hl 0 rfl) ?_
          refine lv_if_eq (tgt := 82) hx hb dX7_parse_71 (by decide) (fun c42 => absurd c42 (c41)) (fun _ => ?_)
          refine lv_iload_n hx hb dX7_parse_74 rfl (lv_at hl 2 rfl) ?_
          refine lv_iload_n hx hb dX7_parse_75 rfl (lv_at hl 1 rfl) ?_
          refine g_cR C0 G (g_runS C0 G (rest := [.ref tx]) (c_X7_pair hfl (X7_sign_x1 tl (psP tl gb jj) gb) (X7_sign_x1 tl (psP tl gb jj + 1) gb) ) hY_X7_pair mm_X7_57 ms_X7_pair ⟨(Nat.le_of_ble_eq_true rfl), (Nat.le_of_ble_eq_true rfl)⟩ rfl hl.1 rfl (Nat.le_of_ble_eq_true rfl) dX7_parse_76 ⟨(by show (jj + 1) ≤ 60; omega), (by show (9 * jj + 9) ≤ 540; omega)⟩) (kx_no rfl) (fun a45 u44 H locs hp43 G => ?_)
          obtain ⟨nn46, k47, fr48⟩ := hp43
          refine lv_goto (tgt := 86) hx hb dX7_parse_79 (by decide) ?_
          have k49 : u44 tx = some (.inr (9, [.ref bu, .ref no, .ref pd, .int (nI tl), .int (nI jj)])) := fr48 _ _ (by simp) h_tx1
          have k50 : u44 pd = some (.inl (cy 4, 60, .inr (.inr (.inr (.inr Qf))))) := fr48 _ _ (by simp) h_pd1
          refine g_cV C0 G (g_runV C0 G (rest := []) (c_X7_keep hfl (tl := nI tl) (tc := jj) (qp := Qf) (ty := (X7_pair_x0 (X7_sign_x1 tl (psP tl gb jj) gb))) (nu := (X7_pair_x1 (X7_sign_x1 tl (psP tl gb jj) gb) (X7_sign_x1 tl (psP tl gb jj + 1) gb))) (wy := 0) (kd := (X7_pair_x2 (X7_sign_x1 tl (psP tl gb jj) gb))) (ru := (X7_pair_x3 (X7_sign_x1 tl (psP tl gb jj) gb) (X7_sign_x1 tl (psP tl gb jj + 1) gb))) (so := 0) (sb := (X7_pair_x4 (X7_sign_x1 tl (psP tl gb jj) gb) (X7_sign_x1 tl (psP tl gb jj + 1) gb))) (sc := 0) (sh := 0) k49 k50 k47 (by omega)) k49 rfl hY_X7_keep mm_X7_65 mi_X7_keep ml_X7_keep ⟨(Nat.le_of_ble_eq_true rfl), (Nat.le_of_ble_eq_true rfl)⟩ rfl hl.1 rfl (Nat.le_of_ble_eq_true rfl) dX7_parse_86 ⟨(by show (jj + 1) ≤ 60; omega), (by show (9 * jj + 9) ≤ 540; omega)⟩) (kx_no rfl) (fun u52 H locs hp51 G => ?_)
          obtain ⟨k53, k54, fr55⟩ := hp51
          refine lv_iload_n hx hb dX7_parse_89 rfl (lv_at hl 4 rfl) ?_
          refine lv_iload hx hb dX7_parse_90 (lv_at hl 0 rfl) ?_
          refine lv_if_eq (tgt := 99) hx hb dX7_parse_92 (by decide) (fun c56 => absurd c56 (c41)) (fun _ => ?_)
          refine lv_iconst (v := 2) hx hb dX7_parse_95 (by decide) ?_
          refine lv_goto (tgt := 100) hx hb dX7_parse_96 (by decide) ?_
          refine lv_iadd hx hb dX7_parse_100 ?_
          refine lv_topv (v := nI (psP tl gb jj + 2)) ((nI_add _ _)) ?_
          refine lv_istore_n (lv' := [(1, .int (nI (psP tl gb jj + 2))), (4, .int (X8_isWithin_x1 (X7_sign_x1 tl (psP tl gb jj + 1) gb) (X7_leastSecond_r1 (X7_sign_x1 tl (psP tl gb jj) gb)) (X7_mostSecond_r0 (X7_sign_x1 tl (psP tl gb jj) gb)))), (3, .int (X7_sign_x1 tl (psP tl gb jj + 1) gb)), (2, .int (X7_sign_x1 tl (psP tl gb jj) gb)), (0, .ref tx)]) hx hb dX7_parse_101 rfl hl (by decide) rfl (fun ls hl => ?_)
          refine lv_goto (tgt := 7) hx hb dX7_parse_102 (by decide) ?_
          have k57 : u52 a45 = some (.inr (7, [.int (X7_pair_x0 (X7_sign_x1 tl (psP tl gb jj) gb)), .int (X7_pair_x1 (X7_sign_x1 tl (psP tl gb jj) gb) (X7_sign_x1 tl (psP tl gb jj + 1) gb)), .int 0, .int (X7_pair_x2 (X7_sign_x1 tl (psP tl gb jj) gb)), .int (X7_pair_x3 (X7_sign_x1 tl (psP tl gb jj) gb) (X7_sign_x1 tl (psP tl gb jj + 1) gb)), .int 0, .int (X7_pair_x4 (X7_sign_x1 tl (psP tl gb jj) gb) (X7_sign_x1 tl (psP tl gb jj + 1) gb)), .int 0, .int 0])) := fr55 _ _ (by simp only [List.mem_cons, List.not_mem_nil, or_false]; intro q; rcases q with q | q; exact (Ne.symm (hneN h_pd1 nn46)) q; exact (Ne.symm (hneN h_tx1 nn46)) q) k47
          have hpq2 : ∀ k, k < jj + 1 → ∃ a, (va_up Qf jj (some a45)) k = some a ∧ u52 a = some (scell (psS tl gb k)) := by
            intro k hk9
            rcases Nat.lt_or_ge k jj with hl9 | hl9
            · obtain ⟨a7, ea7, ka7⟩ := hpq k hl9
              replace ka7 : f1 a7 = some (.inr (7, [.int (psS tl gb k 0), .int (psS tl gb k 1), .int (psS tl gb k 2), .int (psS tl gb k 3), .int (psS tl gb k 4), .int (psS tl gb k 5), .int (psS tl gb k 6), .int (psS tl gb k 7), .int (psS tl gb k 8)])) := ka7
              have k58 : u52 a7 = some (.inr (7, [.int (psS tl gb k 0), .int (psS tl gb k 1), .int (psS tl gb k 2), .int (psS tl gb k 3), .int (psS tl gb k 4), .int (psS tl gb k 5), .int (psS tl gb k 6), .int (psS tl gb k 7), .int (psS tl gb k 8)])) := fr55 _ _ (by simp only [List.mem_cons, List.not_mem_nil, or_false]; intro q; rcases q with q | q; exact (hne (fr48 _ _ (by simp) ka7) k50 (by intro q; cases q)) q; exact (hne (fr48 _ _ (by simp) ka7) k49 (by intro q; cases q)) q) (fr48 _ _ (by simp) ka7)
              exact ⟨a7, (va_up_off _ _ (by omega)).trans ea7, k58⟩
            · have e9 : k = jj := by omega
              subst e9
              refine ⟨a45, va_up_at _ _ _, ?_⟩
              have es0 : psS tl gb k 0 = (X7_pair_x0 (X7_sign_x1 tl (psP tl gb k) gb)) := if_neg c41
              have es1 : psS tl gb k 1 = (X7_pair_x1 (X7_sign_x1 tl (psP tl gb k) gb) (X7_sign_x1 tl (psP tl gb k + 1) gb)) := if_neg c41
              have es2 : psS tl gb k 2 = 0 := if_neg c41
              have es3 : psS tl gb k 3 = (X7_pair_x2 (X7_sign_x1 tl (psP tl gb k) gb)) := if_neg c41
              have es4 : psS tl gb k 4 = (X7_pair_x3 (X7_sign_x1 tl (psP tl gb k) gb) (X7_sign_x1 tl (psP tl gb k + 1) gb)) := if_neg c41
              have es5 : psS tl gb k 5 = 0 := if_neg c41
              have es6 : psS tl gb k 6 = (X7_pair_x4 (X7_sign_x1 tl (psP tl gb k) gb) (X7_sign_x1 tl (psP tl gb k + 1) gb)) := if_neg c41
              have es7 : psS tl gb k 7 = 0 := if_neg c41
              have es8 : psS tl gb k 8 = 0 := if_neg c41
              show u52 a45 = some (.inr (7, [.int (psS tl gb k 0), .int (psS tl gb k 1), .int (psS tl gb k 2), .int (psS tl gb k 3), .int (psS tl gb k 4), .int (psS tl gb k 5), .int (psS tl gb k 6), .int (psS tl gb k 7), .int (psS tl gb k 8)]))
              rw [es0, es1, es2, es3, es4, es5, es6, es7, es8]
              exact k57
          exact ih (jj + 1) _ u52 _ _ _ (by omega) (by omega) hpq2 k54 k53 (fun a9 e9 h7 h8 => fr55 _ _ (fun q => h7 (by simp only [List.mem_cons, List.not_mem_nil, or_false] at q ⊢; first | exact q | (rcases q with q | q <;> simp [q]) | omega)) (fr48 _ _ (by simp) (hfr _ _ (fun q => h7 (by simp only [List.mem_cons, List.not_mem_nil, or_false] at q ⊢; first | exact q | (rcases q with q | q <;> simp [q]) | omega)) (h8)))) G (by rw [show psP tl gb (jj + 1) = psP tl gb jj + 2 from by rw [psP_s, if_neg (show ¬ psB tl gb (psP tl gb jj) = 0 from c41)]]; exact (lv_sub hl [4, 0] rfl))
        · refine lv_iload_n hx hb dX7_parse_57 rfl (lv_at hl 2 rfl) ?_
          refine g_cI C0 G (g_runS C0 G (rest := []) (c_X7_needsSecond hfl (X7_sign_x1 tl (psP tl gb jj) gb) ) hY_X7_needsSecond mm_X7_54 ms_X7_needsSecond ⟨(Nat.le_of_ble_eq_true rfl), (Nat.le_of_ble_eq_true rfl)⟩ rfl hl.1 rfl (Nat.le_of_ble_eq_true rfl) dX7_parse_58 ⟨(by show jj ≤ 60; omega), (by show (9 * jj) ≤ 540; omega)⟩) (kx_no rfl) (fun r61 u60 H locs hp59 G => ?_)
          obtain ⟨er62, eu60⟩ := hp59
          rw [eu60] at G
          refine lv_topv (v := (X7_needsSecond_x2 (X7_sign_x1 tl (psP tl gb jj) gb))) er62 ?_
          refine lv_if_eq (tgt := 68) hx hb dX7_parse_61 (by decide) (fun _ => ?_) (fun c63 => absurd (((hps jj hlt).2.2 c41)) c63)
          refine lv_aload_n hx hb dX7_parse_68 rfl (lv_at hl 3 rfl) ?_
          refine lv_iload hx hb dX7_parse_69 (lv_at hl 0 rfl) ?_
          refine lv_if_eq (tgt := 82) hx hb dX7_parse_71 (by decide) (fun _ => ?_) (fun c64 => absurd (c41) c64)
          refine lv_iload_n hx hb dX7_parse_82 rfl (lv_at hl 2 rfl) ?_
          refine g_cR C0 G (g_runS C0 G (rest := [.ref tx]) (c_X7_single hfl (X7_sign_x1 tl (psP tl gb jj) gb) ) hY_X7_single mm_X7_61 ms_X7_single ⟨(Nat.le_of_ble_eq_true rfl), (Nat.le_of_ble_eq_true rfl)⟩ rfl hl.1 rfl (Nat.le_of_ble_eq_true rfl) dX7_parse_83 ⟨(by show (jj + 1) ≤ 60; omega), (by show (9 * jj + 9) ≤ 540; omega)⟩) (kx_no rfl) (fun a67 u66 H locs hp65 G => ?_)
          obtain ⟨nn68, k69, fr70⟩ := hp65
          have k71 : u66 tx = some (.inr (9, [.ref bu, .ref no, .ref pd, .int (nI tl), .int (nI jj)])) := fr70 _ _ (by simp) h_tx1
          have k72 : u66 pd = some (.inl (cy 4, 60, .inr (.inr (.inr (.inr Qf))))) := fr70 _ _ (by simp) h_pd1
          refine g_cV C0 G (g_runV C0 G (rest := []) (c_X7_keep hfl (tl := nI tl) (tc := jj) (qp := Qf) (ty := (X7_single_x0 (X7_sign_x1 tl (psP tl gb jj) gb))) (nu := 0) (wy := (X7_single_x1 (X7_sign_x1 tl (psP tl gb jj) gb))) (kd := (X7_single_x2 (X7_sign_x1 tl (psP tl gb jj) gb))) (ru := (X7_single_x3 (X7_sign_x1 tl (psP tl gb jj) gb))) (so := 0) (sb := (X7_single_x4 (X7_sign_x1 tl (psP tl gb jj) gb))) (sc := 0) (sh := 0) k71 k72 k69 (by omega)) k71 rfl hY_X7_keep mm_X7_65 mi_X7_keep ml_X7_keep ⟨(Nat.le_of_ble_eq_true rfl), (Nat.le_of_ble_eq_true rfl)⟩ rfl hl.1 rfl (Nat.le_of_ble_eq_true rfl) dX7_parse_86 ⟨(by show (jj + 1) ≤ 60; omega), (by show (9 * jj + 9) ≤ 540; omega)⟩) (kx_no rfl) (fun u74 H locs hp73 G => ?_)
          obtain ⟨k75, k76, fr77⟩ := hp73
          refine lv_iload_n hx hb dX7_parse_89 rfl (lv_at hl 4 rfl) ?_
          refine lv_iload hx hb dX7_parse_90 (lv_at hl 0 rfl) ?_
          refine lv_if_eq (tgt := 99) hx hb dX7_parse_92 (by decide) (fun _ => ?_) (fun c78 => absurd (c41) c78)
          refine lv_iconst (v := 1) hx hb dX7_parse_99 (by decide) ?_
          refine lv_iadd hx hb dX7_parse_100 ?_
          refine lv_topv (v := nI (psP tl gb jj + 1)) ((nI_add _ _)) ?_
          refine lv_istore_n (lv' := [(1, .int (nI (psP tl gb jj + 1))), (4, .int (X8_isWithin_x1 (X7_sign_x1 tl (psP tl gb jj + 1) gb) (X7_leastSecond_r1 (X7_sign_x1 tl (psP tl gb jj) gb)) (X7_mostSecond_r0 (X7_sign_x1 tl (psP tl gb jj) gb)))), (3, .int (X7_sign_x1 tl (psP tl gb jj + 1) gb)), (2, .int (X7_sign_x1 tl (psP tl gb jj) gb)), (0, .ref tx)]) hx hb dX7_parse_101 rfl hl (by decide) rfl (fun ls hl => ?_)
          refine lv_goto (tgt := 7) hx hb dX7_parse_102 (by decide) ?_
          have k79 : u74 a67 = some (.inr (7, [.int (X7_single_x0 (X7_sign_x1 tl (psP tl gb jj) gb)), .int 0, .int (X7_single_x1 (X7_sign_x1 tl (psP tl gb jj) gb)), .int (X7_single_x2 (X7_sign_x1 tl (psP tl gb jj) gb)), .int (X7_single_x3 (X7_sign_x1 tl (psP tl gb jj) gb)), .int 0, .int (X7_single_x4 (X7_sign_x1 tl (psP tl gb jj) gb)), .int 0, .int 0])) := fr77 _ _ (by simp only [List.mem_cons, List.not_mem_nil, or_false]; intro q; rcases q with q | q; exact (Ne.symm (hneN h_pd1 nn68)) q; exact (Ne.symm (hneN h_tx1 nn68)) q) k69
          have hpq2 : ∀ k, k < jj + 1 → ∃ a, (va_up Qf jj (some a67)) k = some a ∧ u74 a = some (scell (psS tl gb k)) := by
            intro k hk9
            rcases Nat.lt_or_ge k jj with hl9 | hl9
            · obtain ⟨a7, ea7, ka7⟩ := hpq k hl9
              replace ka7 : f1 a7 = some (.inr (7, [.int (psS tl gb k 0), .int (psS tl gb k 1), .int (psS tl gb k 2), .int (psS tl gb k 3), .int (psS tl gb k 4), .int (psS tl gb k 5), .int (psS tl gb k 6), .int (psS tl gb k 7), .int (psS tl gb k 8)])) := ka7
              have k80 : u74 a7 = some (.inr (7, [.int (psS tl gb k 0), .int (psS tl gb k 1), .int (psS tl gb k 2), .int (psS tl gb k 3), .int (psS tl gb k 4), .int (psS tl gb k 5), .int (psS tl gb k 6), .int (psS tl gb k 7), .int (psS tl gb k 8)])) := fr77 _ _ (by simp only [List.mem_cons, List.not_mem_nil, or_false]; intro q; rcases q with q | q; exact (hne (fr70 _ _ (by simp) ka7) k72 (by intro q; cases q)) q; exact (hne (fr70 _ _ (by simp) ka7) k71 (by intro q; cases q)) q) (fr70 _ _ (by simp) ka7)
              exact ⟨a7, (va_up_off _ _ (by omega)).trans ea7, k80⟩
            · have e9 : k = jj := by omega
              subst e9
              refine ⟨a67, va_up_at _ _ _, ?_⟩
              have es0 : psS tl gb k 0 = (X7_single_x0 (X7_sign_x1 tl (psP tl gb k) gb)) := if_pos c41
              have es1 : psS tl gb k 1 = 0 := if_pos c41
              have es2 : psS tl gb k 2 = (X7_single_x1 (X7_sign_x1 tl (psP tl gb k) gb)) := if_pos c41
              have es3 : psS tl gb k 3 = (X7_single_x2 (X7_sign_x1 tl (psP tl gb k) gb)) := if_pos c41
              have es4 : psS tl gb k 4 = (X7_single_x3 (X7_sign_x1 tl (psP tl gb k) gb)) := if_pos c41
              have es5 : psS tl gb k 5 = 0 := if_pos c41
              have es6 : psS tl gb k 6 = (X7_single_x4 (X7_sign_x1 tl (psP tl gb k) gb)) := if_pos c41
              have es7 : psS tl gb k 7 = 0 := if_pos c41
              have es8 : psS tl gb k 8 = 0 := if_pos c41
              show u74 a67 = some (.inr (7, [.int (psS tl gb k 0), .int (psS tl gb k 1), .int (psS tl gb k 2), .int (psS tl gb k 3), .int (psS tl gb k 4), .int (psS tl gb k 5), .int (psS tl gb k 6), .int (psS tl gb k 7), .int (psS tl gb k 8)]))
              rw [es0, es1, es2, es3, es4, es5, es6, es7, es8]
              exact k79
          exact ih (jj + 1) _ u74 _ _ _ (by omega) (by omega) hpq2 k76 k75 (fun a9 e9 h7 h8 => fr77 _ _ (fun q => h7 (by simp only [List.mem_cons, List.not_mem_nil, or_false] at q ⊢; first | exact q | (rcases q with q | q <;> simp [q]) | omega)) (fr70 _ _ (by simp) (hfr _ _ (fun q => h7 (by simp only [List.mem_cons, List.not_mem_nil, or_false] at q ⊢; first | exact q | (rcases q with q | q <;> simp [q]) | omega)) (h8)))) G (by rw [show psP tl gb (jj + 1) = psP tl gb jj + 1 from by rw [psP_s, if_pos (show psB tl gb (psP tl gb jj) = 0 from c41)]]; exact (lv_sub hl [4, 0] rfl))
      · have hi9 : N = jj := by omega
        subst hi9
        refine lv_iload_n hx hb dX7_parse_7 rfl (lv_at hl 1 rfl) ?_
        refine lv_aload_n hx hb dX7_parse_8 rfl (lv_at hl 0 rfl) ?_
        refine g_get C0 G h_tx1 rfl hiX7 3 (by decide) mf_X7_28 rfl dX7_parse_9 ?_
        refine lv_icmp_ge (tgt := 105) hx hb dX7_parse_12 (by decide) (fun c81 => absurd c81 ((fun q => absurd ((nI_leI (by omega) (by have := hpP N (by omega); omega)).mp q) (by have h9 := hpe.1; omega)))) (fun _ => ?_)
        refine lv_aload_n hx hb dX7_parse_15 rfl (lv_at hl 0 rfl) ?_
        refine lv_iload_n hx hb dX7_parse_16 rfl (lv_at hl 1 rfl) ?_
        have k82 : f1 bu = some (.inl (cy 1, 60, .inl gb)) := hfr _ _ (by simp only [List.mem_cons, List.not_mem_nil, or_false]; intro q; rcases q with q | q; exact (hne (hup hf11 (hne h_bu h_tx (by intro q; cases q)) h_bu) k12 (by intro q; cases q)) q; exact (hne (hup hf11 (hne h_bu h_tx (by intro q; cases q)) h_bu) k13 (by intro q; first | (cases q; done) | (simp at q; done))) q) (hup hf11 (hne h_bu h_tx (by intro q; cases q)) h_bu)
        refine g_cI C0 G (g_runV C0 G (rest := []) (c_X7_sign hfl (tl := tl) (jj := (psP tl gb N)) (tc := nI N) (gb := gb) h_tx1 k82 (by have h9 := hpe.1; omega) htl hcb) h_tx1 rfl hY_X7_sign mm_X7_35 mi_X7_sign ml_X7_sign ⟨(Nat.le_of_ble_eq_true rfl), (Nat.le_of_ble_eq_true rfl)⟩ rfl hl.1 rfl (Nat.le_of_ble_eq_true rfl) dX7_parse_17 ⟨(by show N ≤ 60; omega), (by show (9 * N) ≤ 540; omega)⟩) (kx_no rfl) (fun r85 u84 H locs hp83 G => ?_)
        obtain ⟨er86, eu84⟩ := hp83
        rw [eu84] at G
        refine lv_topv (v := (X7_sign_x1 tl (psP tl gb N) gb)) er86 ?_
        refine lv_istore_n (lv' := [(2, .int (X7_sign_x1 tl (psP tl gb N) gb)), (0, .ref tx), (1, .int (nI (psP tl gb N)))]) hx hb dX7_parse_20 rfl hl (by decide) rfl (fun ls hl => ?_)
        refine lv_aload_n hx hb dX7_parse_21 rfl (lv_at hl 1 rfl) ?_
        refine lv_iload_n hx hb dX7_parse_22 rfl (lv_at hl 2 rfl) ?_
        refine lv_iconst (v := 1) hx hb dX7_parse_23 (by decide) ?_
        refine lv_iadd hx hb dX7_parse_24 ?_
        refine lv_topv (v := nI (psP tl gb N + 1)) ((nI_add _ _)) ?_
        refine g_cI C0 G (g_runV C0 G (rest := []) (c_X7_sign hfl (tl := tl) (jj := (psP tl gb N + 1)) (tc := nI N) (gb := gb) h_tx1 k82 (by have h9 := hpe.1; omega) htl hcb) h_tx1 rfl hY_X7_sign mm_X7_35 mi_X7_sign ml_X7_sign ⟨(Nat.le_of_ble_eq_true rfl), (Nat.le_of_ble_eq_true rfl)⟩ rfl hl.1 rfl (Nat.le_of_ble_eq_true rfl) dX7_parse_25 ⟨(by show N ≤ 60; omega), (by show (9 * N) ≤ 540; omega)⟩) (kx_no rfl) (fun r89 u88 H locs hp87 G => ?_)
        obtain ⟨er90, eu88⟩ := hp87
        rw [eu88] at G
        refine lv_topv (v := (X7_sign_x1 tl (psP tl gb N + 1) gb)) er90 ?_
        refine lv_istore_n (lv' := [(3, .int (X7_sign_x1 tl (psP tl gb N + 1) gb)), (2, .int (X7_sign_x1 tl (psP tl gb N) gb)), (0, .ref tx), (1, .int (nI (psP tl gb N)))]) hx hb dX7_parse_28 rfl hl (by decide) rfl (fun ls hl => ?_)
        refine lv_iload_n hx hb dX7_parse_29 rfl (lv_at hl 1 rfl) ?_
        refine g_cI C0 G (g_runS C0 G (rest := []) (c_X7_isFirst hfl (X7_sign_x1 tl (psP tl gb N) gb) ) hY_X7_isFirst mm_X7_39 ms_X7_isFirst ⟨(Nat.le_of_ble_eq_true rfl), (Nat.le_of_ble_eq_true rfl)⟩ rfl hl.1 rfl (Nat.le_of_ble_eq_true rfl) dX7_parse_30 ⟨(by show N ≤ 60; omega), (by show (9 * N) ≤ 540; omega)⟩) (kx_no rfl) (fun r93 u92 H locs hp91 G => ?_)
        obtain ⟨er94, eu92⟩ := hp91
        rw [eu92] at G
        refine lv_topv (v := (X7_isFirst_r2 (X7_sign_x1 tl (psP tl gb N) gb))) er94 ?_
        refine lv_if_ne (tgt := 38) hx hb dX7_parse_33 (by decide) (fun _ => ?_) (fun c95 => absurd c95 (hpe.2.1))
        refine lv_iload_n hx hb dX7_parse_38 rfl (lv_at hl 0 rfl) ?_
        refine lv_iload_n hx hb dX7_parse_39 rfl (lv_at hl 1 rfl) ?_
        refine g_cI C0 G (g_runS C0 G (rest := [.int (X7_sign_x1 tl (psP tl gb N + 1) gb)]) (c_X7_leastSecond hfl (X7_sign_x1 tl (psP tl gb N) gb) ) hY_X7_leastSecond mm_X7_43 ms_X7_leastSecond ⟨(Nat.le_of_ble_eq_true rfl), (Nat.le_of_ble_eq_true rfl)⟩ rfl hl.1 rfl (Nat.le_of_ble_eq_true rfl) dX7_parse_40 ⟨(by show N ≤ 60; omega), (by show (9 * N) ≤ 540; omega)⟩) (kx_no rfl) (fun r98 u97 H locs hp96 G => ?_)
        obtain ⟨er99, eu97⟩ := hp96
        rw [eu97] at G
        refine lv_topv (v := (X7_leastSecond_r1 (X7_sign_x1 tl (psP tl gb N) gb))) er99 ?_
        refine lv_iload_n hx hb dX7_parse_43 rfl (lv_at hl 1 rfl) ?_
        refine g_cI C0 G (g_runS C0 G (rest := [.int (X7_leastSecond_r1 (X7_sign_x1 tl (psP tl gb N) gb)), .int (X7_sign_x1 tl (psP tl gb N + 1) gb)]) (c_X7_mostSecond hfl (X7_sign_x1 tl (psP tl gb N) gb) ) hY_X7_mostSecond mm_X7_47 ms_X7_mostSecond ⟨(Nat.le_of_ble_eq_true rfl), (Nat.le_of_ble_eq_true rfl)⟩ rfl hl.1 rfl (Nat.le_of_ble_eq_true rfl) dX7_parse_44 ⟨(by show N ≤ 60; omega), (by show (9 * N) ≤ 540; omega)⟩) (kx_no rfl) (fun r102 u101 H locs hp100 G => ?_)
        obtain ⟨er103, eu101⟩ := hp100
        rw [eu101] at G
        refine lv_topv (v := (X7_mostSecond_r0 (X7_sign_x1 tl (psP tl gb N) gb))) er103 ?_
        refine g_cI C0 G (g_runSN C0 G (rest := []) (c_X8_isWithin hfl (X7_sign_x1 tl (psP tl gb N + 1) gb) (X7_leastSecond_r1 (X7_sign_x1 tl (psP tl gb N) gb)) (X7_mostSecond_r0 (X7_sign_x1 tl (psP tl gb N) gb)) ) hY_X8_isWithin mq_X7_50 ms_X8_isWithin ⟨(Nat.le_of_ble_eq_true rfl), (Nat.le_of_ble_eq_true rfl)⟩ rfl hl.1 rfl (Nat.le_of_ble_eq_true rfl) dX7_parse_47 ⟨(by show N ≤ 60; omega), (by show (9 * N) ≤ 540; omega)⟩) (kx_no rfl) (fun r106 u105 H locs hp104 G => ?_)
        obtain ⟨er107, eu105⟩ := hp104
        rw [eu105] at G
        refine lv_topv (v := (X8_isWithin_x1 (X7_sign_x1 tl (psP tl gb N + 1) gb) (X7_leastSecond_r1 (X7_sign_x1 tl (psP tl gb N) gb)) (X7_mostSecond_r0 (X7_sign_x1 tl (psP tl gb N) gb)))) er107 ?_
        refine lv_istore (lv' := [(4, .int (X8_isWithin_x1 (X7_sign_x1 tl (psP tl gb N + 1) gb) (X7_leastSecond_r1 (X7_sign_x1 tl (psP tl gb N) gb)) (X7_mostSecond_r0 (X7_sign_x1 tl (psP tl gb N) gb)))), (3, .int (X7_sign_x1 tl (psP tl gb N + 1) gb)), (2, .int (X7_sign_x1 tl (psP tl gb N) gb)), (0, .ref tx), (1, .int (nI (psP tl gb N)))]) hx hb dX7_parse_50 hl (by decide) rfl (fun ls hl => ?_)
        refine lv_iload hx hb dX7_parse_52 (lv_at hl 0 rfl) ?_
        refine lv_if_ne (tgt := 68) hx hb dX7_parse_54 (by decide) (fun c108 => absurd (hpe.2.2.1) c108) (fun _ => ?_)
        refine lv_iload_n hx hb dX7_parse_57 rfl (lv_at hl 2 rfl) ?_
        refine g_cI C0 G (g_runS C0 G (rest := []) (c_X7_needsSecond hfl (X7_sign_x1 tl (psP tl gb N) gb) ) hY_X7_needsSecond mm_X7_54 ms_X7_needsSecond ⟨(Nat.le_of_ble_eq_true rfl), (Nat.le_of_ble_eq_true rfl)⟩ rfl hl.1 rfl (Nat.le_of_ble_eq_true rfl) dX7_parse_58 ⟨(by show N ≤ 60; omega), (by show (9 * N) ≤ 540; omega)⟩) (kx_no rfl) (fun r111 u110 H locs hp109 G => ?_)
        obtain ⟨er112, eu110⟩ := hp109
        rw [eu110] at G
        refine lv_topv (v := (X7_needsSecond_x2 (X7_sign_x1 tl (psP tl gb N) gb))) er112 ?_
        refine lv_if_eq (tgt := 68) hx hb dX7_parse_61 (by decide) (fun c113 => absurd c113 (hpe.2.2.2)) (fun _ => ?_)
        refine lv_iload_n hx hb dX7_parse_64 rfl (lv_at hl 4 rfl) ?_
        refine lv_iconst (v := 1) hx hb dX7_parse_65 (by decide) ?_
        refine lv_iadd hx hb dX7_parse_66 ?_
        refine lv_topv (v := nI (psP tl gb N + 1)) ((nI_add _ _)) ?_
        exact g_iret C0 G hr dX7_parse_67 (by first | (show N ≤ 60; omega) | (show (9 * N) ≤ 540; omega)) (by first | (show N ≤ 60; omega) | (show (9 * N) ≤ 540; omega)) (by exact ⟨rfl, h_tx1, ⟨_, h_pd1, hpq⟩, (fun a9 e9 h7 h8 => hfr _ _ (fun q => h7 (by simp only [List.mem_cons, List.not_mem_nil, or_false] at q ⊢; first | exact q | (rcases q with q | q <;> simp [q]) | omega)) (hup hf11 (fun q => h7 (by rw [q]; simp)) (h8)))⟩)
  exact LOOP7 (N + 1) 0 qp f11 _ _ _ (by omega) (by omega) (fun k h => absurd h (by omega)) k12 k13 (fun a9 e9 h7 h8 => h8) G (lv_sub hl [1, 0] rfl)
