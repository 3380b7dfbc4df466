set_option maxHeartbeats 8000000 in
set_option maxRecDepth 100000 in
theorem k_X9_isElement_f {l : Launch} (hfl : l.stackTraces = false) {D : va_G} {cy : Nat → ClassId} {f : Hf} {sz : Nat} {m : Nat} {v : Nat} {im : Nat} {kp : Nat} {pa : Nat} {de : Nat} {ide : Nat} {tx : Nat} {pt : Nat} {so : Nat} {mo : Nat} {wh : Nat} {pf : Nat} {c_th : Int32} {c_re : Int32} {c_un : Int32} {c_hi : Int32} {c_fa : Int32} {c_rf : Int32} {c_to : Int32} {gx : Nat → Int32} {gq : Nat → Int32} {tn : Nat} {pl : Nat} {ps : Nat} (h_m : f m = some (.inr (11, [.int c_th, .int c_re, .ref v, .ref im, .ref kp, .ref pa, .ref de, .ref ide, .int c_un, .int c_hi, .ref tx, .int (nI tn), .int c_fa, .int c_rf, .ref pt, .int (nI ps), .int (nI pl), .int c_to, .ref so, .ref mo, .ref wh, .ref pf]))) (h_tx : f tx = some (.inl (cy 0, 60, .inl gx))) (h_pt : f pt = some (.inl (cy 0, 240, .inl gq))) (htn : tn ≤ 60) (hpl : pl < 60) (hps : ps < 60) : hMet l yX9_isElement cX9_isElement 3 (some .boolean) { frames := 2, cells := 0, slots := 0, locals := 44 } D (hTy cy) f sz [.ref m] (hQi (fun r u => r = (X9_isElement_r11 gx tn pl) ∧ u m = some (.inr (11, [.int c_th, .int c_re, .ref v, .ref im, .ref kp, .ref pa, .ref de, .ref ide, .int c_un, .int c_hi, .ref tx, .int (nI tn), .int c_fa, .int c_rf, .ref pt, .int (nI (ps + 1)), .int (X9_isElement_x12 gx tn pl), .int c_to, .ref so, .ref mo, .ref wh, .ref pf])) ∧ u pt = some (.inl (cy 0, 240, .inl (X9_isElement_g13 gx gq tn pl ps))) ∧ hFrL f u [m, pt]) D f sz) hNo := by
  refine h_enter (by decide) hfl (Nat.le_of_ble_eq_true rfl) ?_
  intro p9 e9 s9 m9 b9 t9 c9 hsz C0 hr hnm G ls hl
  have hx := C0.1.1
  have hb := C0.1.2.1
  have hl : lv_has ls 3 [(0, .ref m)] := hl
  refine lv_aload_n hx hb dX9_isElement_0 rfl (lv_at hl 0 rfl) ?_
  refine g_cI C0 G (g_runV C0 G (rest := []) (k_X9_here hfl h_m h_tx htn (by omega)) h_m rfl hY_X9_here mm_X9_200 mi_X9_here ml_X9_here ⟨(Nat.le_of_ble_eq_true rfl), (Nat.le_of_ble_eq_true rfl)⟩ rfl hl.1 rfl (Nat.le_of_ble_eq_true rfl) dX9_isElement_1 ⟨(Nat.le_of_ble_eq_true rfl), (Nat.le_of_ble_eq_true rfl)⟩) (kx_no rfl) (fun r13 u12 H locs hp11 G => ?_)
  obtain ⟨rfl, eu12⟩ := hp11
  rw [eu12] at G
  refine lv_istore_n (lv' := [(1, .int (X9_here_x0 gx tn pl)), (0, .ref m)]) hx hb dX9_isElement_4 rfl hl (by decide) rfl (fun ls hl => ?_)
  refine lv_aload_n hx hb dX9_isElement_5 rfl (lv_at hl 1 rfl) ?_
  refine lv_dup hx hb dX9_isElement_6 rfl ?_
  refine g_get C0 G h_m rfl hiX9 16 (by decide) mf_X9_194 rfl dX9_isElement_7 ?_
  refine lv_iconst (v := 1) hx hb dX9_isElement_10 (by decide) ?_
  refine lv_iadd hx hb dX9_isElement_11 ?_
  refine lv_topv (v := nI (pl + 1)) ((nI_add _ _)) ?_
  refine g_put C0 G h_m rfl hiX9 tyX9 tyX9_ok nmX9 16 (by decide) mf_X9_194 rfl rfl rfl rfl (Nat.le_of_ble_eq_true rfl) dX9_isElement_12 (fun H locs f14 hf14 G => ?_)
  have k15 : f14 m = some (.inr (11, [.int c_th, .int c_re, .ref v, .ref im, .ref kp, .ref pa, .ref de, .ref ide, .int c_un, .int c_hi, .ref tx, .int (nI tn), .int c_fa, .int c_rf, .ref pt, .int (nI ps), .int (nI (pl + 1)), .int c_to, .ref so, .ref mo, .ref wh, .ref pf])) := hus hf14
  refine lv_iload_n hx hb dX9_isElement_15 rfl (lv_at hl 0 rfl) ?_
  by_cases w16 : (X9_here_x0 gx tn pl) = 46
  · sorry
  rename ¬ (X9_here_x0 gx tn pl) = 46 => nw16
  by_cases w17 : (X9_here_x0 gx tn pl) = 64
  · sorry
  rename ¬ (X9_here_x0 gx tn pl) = 64 => nw17
  by_cases w18 : (X9_here_x0 gx tn pl) = 67
  · sorry
  rename ¬ (X9_here_x0 gx tn pl) = 67 => nw18
  by_cases w19 : (X9_here_x0 gx tn pl) = 76
  · sorry
  rename ¬ (X9_here_x0 gx tn pl) = 76 => nw19
  by_cases w20 : (X9_here_x0 gx tn pl) = 82
  · sorry
  rename ¬ (X9_here_x0 gx tn pl) = 82 => nw20
  by_cases w21 : (X9_here_x0 gx tn pl) = 87
  · sorry
  rename ¬ (X9_here_x0 gx tn pl) = 87 => nw21
  by_cases w22 : (X9_here_x0 gx tn pl) = 98
  · sorry
  rename ¬ (X9_here_x0 gx tn pl) = 98 => nw22
  by_cases w23 : (X9_here_x0 gx tn pl) = 108
  · sorry
  rename ¬ (X9_here_x0 gx tn pl) = 108 => nw23
  by_cases w24 : (X9_here_x0 gx tn pl) = 110
  · refine lv_lookup (off := 116) (tgt := 132) hx hb dX9_isElement_16 rfl (by show Op.lookupswitch.offset [(46, 92), (64, 225), (67, 185), (76, 185), (82, 185), (87, 185), (98, 151), (108, 151), (110, 116), (119, 102)] 273 ((X9_here_x0 gx tn pl)).toInt = 116; rw [lv_osw nw16 (by decide), lv_osw nw17 (by decide), lv_osw nw18 (by decide), lv_osw nw19 (by decide), lv_osw nw20 (by decide), lv_osw nw21 (by decide), lv_osw nw22 (by decide), lv_osw nw23 (by decide)]; rw [w24]; decide) (by decide) ?_
    refine lv_aload_n hx hb dX9_isElement_132 rfl (lv_at hl 1 rfl) ?_
    refine lv_bipush (v := 6) hx hb dX9_isElement_133 (by decide) ?_
    have k181 : f14 tx = some (.inl (cy 0, 60, .inl gx)) := hup hf14 (hne h_tx h_m (by intro q; cases q)) h_tx
    refine g_cI C0 G (g_runV C0 G (rest := []) (k_X9_follows hfl 6 k15 k181 htn (by omega)) k15 rfl hY_X9_follows mm_X9_207 mi_X9_follows ml_X9_follows ⟨(Nat.le_of_ble_eq_true rfl), (Nat.le_of_ble_eq_true rfl)⟩ rfl hl.1 rfl (Nat.le_of_ble_eq_true rfl) dX9_isElement_135 ⟨(Nat.le_of_ble_eq_true rfl), (Nat.le_of_ble_eq_true rfl)⟩) (kx_no rfl) (fun r184 u183 H locs hp182 G => ?_)
    obtain ⟨rfl, k185, fr186⟩ := hp182
    refine lv_istore_n (lv' := [(2, .int (X9_follows_r0 gx 6 tn (pl + 1))), (1, .int (X9_here_x0 gx tn pl)), (0, .ref m)]) hx hb dX9_isElement_138 rfl hl (by decide) rfl (fun ls hl => ?_)
    refine lv_aload_n hx hb dX9_isElement_139 rfl (lv_at hl 2 rfl) ?_
    refine lv_iconst (v := 1) hx hb dX9_isElement_140 (by decide) ?_
    refine lv_iconst (v := 2) hx hb dX9_isElement_141 (by decide) ?_
    refine lv_iload_n hx hb dX9_isElement_142 rfl (lv_at hl 0 rfl) ?_
    refine lv_iload_n hx hb dX9_isElement_143 rfl (lv_at hl 0 rfl) ?_
    refine lv_iconst (v := 4) hx hb dX9_isElement_144 (by decide) ?_
    have J189 : ∀ (y188 : Int32) (_ : y188 = (X9_isElement_x7 gx tn pl)) (H : Heap) (locs : List Loc) (ls : Array Slot), hG D (hA f sz) u183 s9 H locs → lv_has ls 3 [(2, .int (X9_follows_r0 gx 6 tn (pl + 1))), (1, .int (X9_here_x0 gx tn pl)), (0, .ref m)] → W p9 l e9 ({ frames := 2, cells := 0, slots := 0, locals := 44 } : Room) s9 m9 ([.ref m] : List Value).toArray b9 t9 c9 H locs 0 0 (vx_MQ b9 (hQi (fun r u => r = (X9_isElement_r11 gx tn pl) ∧ u m = some (.inr (11, [.int c_th, .int c_re, .ref v, .ref im, .ref kp, .ref pa, .ref de, .ref ide, .int c_un, .int c_hi, .ref tx, .int (nI tn), .int c_fa, .int c_rf, .ref pt, .int (nI (ps + 1)), .int (X9_isElement_x12 gx tn pl), .int c_to, .ref so, .ref mo, .ref wh, .ref pf])) ∧ u pt = some (.inl (cy 0, 240, .inl (X9_isElement_g13 gx gq tn pl ps))) ∧ hFrL f u [m, pt]) D f sz) (hPx hNo D f sz) ([.ref m] : List Value).toArray s9 0 0 (hA f sz)) (F0 m9 159 ls [.int y188, .int (X9_follows_r0 gx 6 tn (pl + 1)), .int 2, .int 1, .ref m]) := by
      sorry
    refine lv_icmp_eq (tgt := 154) hx hb dX9_isElement_145 (by decide) (fun c187 => ?_) (fun c187 => ?_)
    · refine lv_iconst (v := 1) hx hb dX9_isElement_154 (by decide) ?_
      refine lv_goto (tgt := 159) hx hb dX9_isElement_155 (by decide) ?_
      exact J189 1 (by rw [X9_isElement_x7, if_pos c187]) _ _ _ G (lv_sub hl [0, 1, 2] rfl)
    · refine lv_iload_n hx hb dX9_isElement_148 rfl (lv_at hl 0 rfl) ?_
      refine lv_bipush (v := 6) hx hb dX9_isElement_149 (by decide) ?_
      have J202 : ∀ (y201 : Int32) (_ : y201 = (X9_isElement_x6 gx tn pl)) (H : Heap) (locs : List Loc) (ls : Array Slot), hG D (hA f sz) u183 s9 H locs → lv_has ls 3 [(2, .int (X9_follows_r0 gx 6 tn (pl + 1))), (1, .int (X9_here_x0 gx tn pl)), (0, .ref m)] → W p9 l e9 ({ frames := 2, cells := 0, slots := 0, locals := 44 } : Room) s9 m9 ([.ref m] : List Value).toArray b9 t9 c9 H locs 0 0 (vx_MQ b9 (hQi (fun r u => r = (X9_isElement_r11 gx tn pl) ∧ u m = some (.inr (11, [.int c_th, .int c_re, .ref v, .ref im, .ref kp, .ref pa, .ref de, .ref ide, .int c_un, .int c_hi, .ref tx, .int (nI tn), .int c_fa, .int c_rf, .ref pt, .int (nI (ps + 1)), .int (X9_isElement_x12 gx tn pl), .int c_to, .ref so, .ref mo, .ref wh, .ref pf])) ∧ u pt = some (.inl (cy 0, 240, .inl (X9_isElement_g13 gx gq tn pl ps))) ∧ hFrL f u [m, pt]) D f sz) (hPx hNo D f sz) ([.ref m] : List Value).toArray s9 0 0 (hA f sz)) (F0 m9 159 ls [.int y201, .int (X9_follows_r0 gx 6 tn (pl + 1)), .int 2, .int 1, .ref m]) := by
        intro y201 ey201 H locs ls G hl
        subst ey201
        exact J189 (X9_isElement_x6 gx tn pl) (by rw [X9_isElement_x7, if_neg c187]) _ _ _ G (lv_sub hl [0, 1, 2] rfl)
      refine lv_icmp_ne (tgt := 158) hx hb dX9_isElement_151 (by decide) (fun c200 => ?_) (fun c200 => ?_)
      · refine lv_iconst (v := 0) hx hb dX9_isElement_158 (by decide) ?_
        exact J202 0 (by rw [X9_isElement_x6, if_neg c200]) _ _ _ G (lv_sub hl [0, 1, 2] rfl)
      · refine lv_iconst (v := 1) hx hb dX9_isElement_154 (by decide) ?_
        refine lv_goto (tgt := 159) hx hb dX9_isElement_155 (by decide) ?_
        exact J202 1 (by rw [X9_isElement_x6, if_pos c200]) _ _ _ G (lv_sub hl [0, 1, 2] rfl)
  rename ¬ (X9_here_x0 gx tn pl) = 110 => nw24
  sorry
