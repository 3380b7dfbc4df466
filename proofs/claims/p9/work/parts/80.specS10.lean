theorem cpo_out {g : Nat → Int32} {o : Nat} {s : Nat → Int32} {n j : Nat} (h : j < o ∨ o + n ≤ j) : cpo g o s n j = g j := by simp only [cpo]; rw [if_neg (by omega)]
theorem cpoF_out {g : Nat → UInt32} {o : Nat} {s : Nat → UInt32} {n j : Nat} (h : j < o ∨ o + n ≤ j) : cpoF g o s n j = g j := by simp only [cpoF]; rw [if_neg (by omega)]
def cvB (s0 a b : Int32) (x y : UInt32) : Int32 := if s0 = 1 then (if a = b then 0 else 1) else (if Op.cmpValue (FP.fcmp x y) .l = 0 then 0 else 1)
def cvC (s0 : Int32) (gw : Nat → Int32) (gf : Nat → UInt32) (o1 o2 : Nat) : Nat → Int32
  | 0 => 0
  | n + 1 => cvC s0 gw gf o1 o2 n ||| cvB s0 (gw (o1 + n)) (gw (o2 + n)) (gf (o1 + n)) (gf (o2 + n))
theorem cvB_b (s0 a b : Int32) (x y : UInt32) : cvB s0 a b x y = 0 ∨ cvB s0 a b x y = 1 := by
  unfold cvB
  split <;> split <;> first | exact Or.inl rfl | exact Or.inr rfl
theorem cvC_b (s0 : Int32) (gw : Nat → Int32) (gf : Nat → UInt32) (o1 o2 n : Nat) : cvC s0 gw gf o1 o2 n = 0 ∨ cvC s0 gw gf o1 o2 n = 1 := by
  induction n with
  | zero => exact Or.inl rfl
  | succ n ih =>
    show (cvC s0 gw gf o1 o2 n ||| cvB s0 (gw (o1 + n)) (gw (o2 + n)) (gf (o1 + n)) (gf (o2 + n))) = 0 ∨ (cvC s0 gw gf o1 o2 n ||| cvB s0 (gw (o1 + n)) (gw (o2 + n)) (gf (o1 + n)) (gf (o2 + n))) = 1
    rcases ih with e | e <;> rcases cvB_b s0 (gw (o1 + n)) (gw (o2 + n)) (gf (o1 + n)) (gf (o2 + n)) with e2 | e2 <;> rw [e, e2] <;> decide
def X9_copyOversE_n0 (gm : Nat → Int32) (ct : Int32) : Nat := if ct ≤ (gm 1) then 0 else 4
def X9_copyOversE_n1 (gm : Nat → Int32) (ct : Int32) : Nat := if (gm 0) < ct then 4 else (X9_copyOversE_n0 gm ct)
def X9_copyOversE_n2 (gm : Nat → Int32) (ct : Int32) : Nat := if ct < 0 then 4 else (X9_copyOversE_n1 gm ct)
def X9_copyOversE_n3 (gs : Nat → Int32) (gm : Nat → Int32) (ct : Int32) : Nat := if (gs 0) = (gs 1) then (X9_copyOversE_n2 gm ct) else 3
def X9_copyOversE_n4 (gs : Nat → Int32) (gm : Nat → Int32) (ct : Int32) : Nat := if (gs 1) = 0 then 2 else (X9_copyOversE_n3 gs gm ct)
def X9_copyOversE_n5 (gs : Nat → Int32) (gm : Nat → Int32) (ct : Int32) : Nat := if (gs 0) = 0 then 2 else (X9_copyOversE_n4 gs gm ct)
def X9_copyOversE_n6 (gs : Nat → Int32) (gm : Nat → Int32) (fr : Int32) (ct : Int32) : Nat := if (X9_isIn_x1 fr 0 1) = 0 then 1 else (X9_copyOversE_n5 gs gm ct)
set_option maxRecDepth 100000 in
theorem k_X9_copyOversE {l : Launch} (hfl : l.stackTraces = false) {D : va_G} {cy : Nat → ClassId} {f : Hf} {sz : Nat} {m : Nat} {v : Nat} {im : Nat} {kp : Nat} {pa : Nat} {de : Nat} {ide : Nat} {tx : Nat} {pt : Nat} {so : Nat} {mo : Nat} {wh : Nat} {pf : Nat} {c_th : Int32} {c_re : Int32} {c_un : Int32} {c_hi : Int32} {c_tn : Int32} {c_fa : Int32} {c_rf : Int32} {c_ps : Int32} {c_pl : Int32} {c_to : Int32} {gs : Nat → Int32} {gm : Nat → Int32} (fr : Int32) (ct : Int32) (h_m : f m = some (.inr (11, [.int c_th, .int c_re, .ref v, .ref im, .ref kp, .ref pa, .ref de, .ref ide, .int c_un, .int c_hi, .ref tx, .int c_tn, .int c_fa, .int c_rf, .ref pt, .int c_ps, .int c_pl, .int c_to, .ref so, .ref mo, .ref wh, .ref pf]))) (h_so : f so = some (.inl (cy 0, 2, .inl gs))) (h_mo : f mo = some (.inl (cy 0, 2, .inl gm))) (herr : ¬ (nI (X9_copyOversE_n6 gs gm fr ct)) ≤ 0) : hMet l yX9_copyOvers cX9_copyOvers 7 (some .boolean) { frames := 1, cells := 0, slots := 0, locals := 22 } D (hTy cy) f sz [.ref m, .int fr, .int ct] (hQi (fun r u => r = 0 ∧ u m = some (.inr (11, [.int (nI (X9_copyOversE_n6 gs gm fr ct)), .int c_re, .ref v, .ref im, .ref kp, .ref pa, .ref de, .ref ide, .int c_un, .int c_hi, .ref tx, .int c_tn, .int c_fa, .int c_rf, .ref pt, .int c_ps, .int c_pl, .int c_to, .ref so, .ref mo, .ref wh, .ref pf])) ∧ hFrL f u [m]) D f sz) hNo := by
  refine h_enter (by decide) hfl (Nat.le_of_ble_eq_true rfl) ?_
  intro p9 e9 s9 m9 b9 t9 c9 hsz C0 hr hnm G ls hl
  have hx := C0.1.1
  have hb := C0.1.2.1
  have hl : lv_has ls 7 [(0, .ref m), (1, .int fr), (2, .int ct)] := hl
  refine lv_aload_n hx hb dX9_copyOvers_0 rfl (lv_at hl 0 rfl) ?_
  refine lv_iload_n hx hb dX9_copyOvers_1 rfl (lv_at hl 1 rfl) ?_
  refine lv_iconst (v := 0) hx hb dX9_copyOvers_2 (by decide) ?_
  refine lv_iconst (v := 1) hx hb dX9_copyOvers_3 (by decide) ?_
  refine g_cI C0 G (g_runS C0 G (rest := [.ref m]) (k_X9_isIn hfl fr 0 1 ) hY_X9_isIn mm_X9_76 ms_X9_isIn ⟨(Nat.le_of_ble_eq_true rfl), (Nat.le_of_ble_eq_true rfl)⟩ rfl hl.1 rfl (Nat.le_of_ble_eq_true rfl) dX9_copyOvers_4 ⟨(Nat.le_of_ble_eq_true rfl), (Nat.le_of_ble_eq_true rfl)⟩) (kx_no rfl) (fun r13 u12 H locs hp11 G => ?_)
  obtain ⟨zr, eu12⟩ := hp11
  replace zr := Eq.symm zr
  subst zr
  rw [eu12] at G
  have J16 : ∀ (y15 : Int32) (_ : y15 = nI (X9_copyOversE_n6 gs gm fr ct)) (H : Heap) (locs : List Loc) (ls : Array Slot), hG D (hA f sz) f s9 H locs → lv_has ls 7 [(0, .ref m), (1, .int fr), (2, .int ct)] → W p9 l e9 ({ frames := 1, cells := 0, slots := 0, locals := 22 } : Room) s9 m9 ([.ref m, .int fr, .int ct] : List Value).toArray b9 t9 c9 H locs 0 0 (vx_MQ b9 (hQi (fun r u => r = 0 ∧ u m = some (.inr (11, [.int (nI (X9_copyOversE_n6 gs gm fr ct)), .int c_re, .ref v, .ref im, .ref kp, .ref pa, .ref de, .ref ide, .int c_un, .int c_hi, .ref tx, .int c_tn, .int c_fa, .int c_rf, .ref pt, .int c_ps, .int c_pl, .int c_to, .ref so, .ref mo, .ref wh, .ref pf])) ∧ hFrL f u [m]) D f sz) (hPx hNo D f sz) ([.ref m, .int fr, .int ct] : List Value).toArray s9 0 0 (hA f sz)) (F0 m9 84 ls [.int y15, .ref m]) := by
    intro y15 ey15 H locs ls G hl
    replace ey15 := Eq.symm ey15
    subst ey15
    have bd18 : (X9_copyOversE_n6 gs gm fr ct) ≤ 4 := by unfold X9_copyOversE_n6 X9_copyOversE_n5 X9_copyOversE_n4 X9_copyOversE_n3 X9_copyOversE_n2 X9_copyOversE_n1 X9_copyOversE_n0; repeat (first | omega | split)
    refine g_put C0 G h_m rfl hiX9 tyX9 tyX9_ok nmX9 0 (by decide) mf_X9_55 rfl rfl rfl rfl (Nat.le_of_ble_eq_true rfl) dX9_copyOvers_84 (fun H locs f19 hf19 G => ?_)
    have k20 : f19 m = some (.inr (11, [.int (nI (X9_copyOversE_n6 gs gm fr ct)), .int c_re, .ref v, .ref im, .ref kp, .ref pa, .ref de, .ref ide, .int c_un, .int c_hi, .ref tx, .int c_tn, .int c_fa, .int c_rf, .ref pt, .int c_ps, .int c_pl, .int c_to, .ref so, .ref mo, .ref wh, .ref pf])) := hus hf19
    refine lv_aload_n hx hb dX9_copyOvers_87 rfl (lv_at hl 0 rfl) ?_
    refine g_get C0 G k20 rfl hiX9 0 (by decide) mf_X9_55 rfl dX9_copyOvers_88 ?_
    refine lv_if_le (tgt := 96) hx hb dX9_copyOvers_91 (by decide) (fun c21 => absurd c21 (herr)) (fun _ => ?_)
    refine lv_iconst (v := 0) hx hb dX9_copyOvers_94 (by decide) ?_
    exact g_zret C0 G hr dX9_copyOvers_95 rfl (Nat.le_of_ble_eq_true rfl) (Nat.le_of_ble_eq_true rfl) (by exact ⟨rfl, k20, (fun a9 e9 h7 h8 => hup hf19 (fun q => h7 (by rw [q]; simp)) (h8))⟩)
  refine lv_if_ne (tgt := 14) hx hb dX9_copyOvers_7 (by decide) (fun c14 => ?_) (fun c14 => ?_)
  · refine lv_aload_n hx hb dX9_copyOvers_14 rfl (lv_at hl 0 rfl) ?_
    refine g_get C0 G h_m rfl hiX9 18 (by decide) mf_X9_42 rfl dX9_copyOvers_15 ?_
    refine lv_iconst (v := 0) hx hb dX9_copyOvers_18 (by decide) ?_
    refine g_iald C0 G h_so 0 rfl (by unfold vp_in; decide) dX9_copyOvers_19 ?_
    refine lv_topv (v := gs 0) rfl ?_
    have J24 : ∀ (y23 : Int32) (_ : y23 = nI (X9_copyOversE_n5 gs gm ct)) (H : Heap) (locs : List Loc) (ls : Array Slot), hG D (hA f sz) f s9 H locs → lv_has ls 7 [(0, .ref m), (1, .int fr), (2, .int ct)] → W p9 l e9 ({ frames := 1, cells := 0, slots := 0, locals := 22 } : Room) s9 m9 ([.ref m, .int fr, .int ct] : List Value).toArray b9 t9 c9 H locs 0 0 (vx_MQ b9 (hQi (fun r u => r = 0 ∧ u m = some (.inr (11, [.int (nI (X9_copyOversE_n6 gs gm fr ct)), .int c_re, .ref v, .ref im, .ref kp, .ref pa, .ref de, .ref ide, .int c_un, .int c_hi, .ref tx, .int c_tn, .int c_fa, .int c_rf, .ref pt, .int c_ps, .int c_pl, .int c_to, .ref so, .ref mo, .ref wh, .ref pf])) ∧ hFrL f u [m]) D f sz) (hPx hNo D f sz) ([.ref m, .int fr, .int ct] : List Value).toArray s9 0 0 (hA f sz)) (F0 m9 84 ls [.int y23, .ref m]) := by
      intro y23 ey23 H locs ls G hl
      replace ey23 := Eq.symm ey23
      subst ey23
      have bd26 : (X9_copyOversE_n5 gs gm ct) ≤ 4 := by unfold X9_copyOversE_n5 X9_copyOversE_n4 X9_copyOversE_n3 X9_copyOversE_n2 X9_copyOversE_n1 X9_copyOversE_n0; repeat (first | omega | split)
      exact J16 (nI (X9_copyOversE_n5 gs gm ct)) (by rw [X9_copyOversE_n6, if_neg c14] <;> rfl) _ _ _ G (lv_sub hl [0, 1, 2] rfl)
    refine lv_if_eq (tgt := 32) hx hb dX9_copyOvers_20 (by decide) (fun c22 => ?_) (fun c22 => ?_)
    · refine lv_iconst (v := 2) hx hb dX9_copyOvers_32 (by decide) ?_
      refine lv_goto (tgt := 84) hx hb dX9_copyOvers_33 (by decide) ?_
      exact J24 2 (by rw [X9_copyOversE_n5, if_pos c22] <;> rfl) _ _ _ G (lv_sub hl [0, 1, 2] rfl)
    · refine lv_aload_n hx hb dX9_copyOvers_23 rfl (lv_at hl 0 rfl) ?_
      refine g_get C0 G h_m rfl hiX9 18 (by decide) mf_X9_42 rfl dX9_copyOvers_24 ?_
      refine lv_iconst (v := 1) hx hb dX9_copyOvers_27 (by decide) ?_
      refine g_iald C0 G h_so 0 rfl (by unfold vp_in; decide) dX9_copyOvers_28 ?_
      refine lv_topv (v := gs 1) rfl ?_
      have J29 : ∀ (y28 : Int32) (_ : y28 = nI (X9_copyOversE_n4 gs gm ct)) (H : Heap) (locs : List Loc) (ls : Array Slot), hG D (hA f sz) f s9 H locs → lv_has ls 7 [(0, .ref m), (1, .int fr), (2, .int ct)] → W p9 l e9 ({ frames := 1, cells := 0, slots := 0, locals := 22 } : Room) s9 m9 ([.ref m, .int fr, .int ct] : List Value).toArray b9 t9 c9 H locs 0 0 (vx_MQ b9 (hQi (fun r u => r = 0 ∧ u m = some (.inr (11, [.int (nI (X9_copyOversE_n6 gs gm fr ct)), .int c_re, .ref v, .ref im, .ref kp, .ref pa, .ref de, .ref ide, .int c_un, .int c_hi, .ref tx, .int c_tn, .int c_fa, .int c_rf, .ref pt, .int c_ps, .int c_pl, .int c_to, .ref so, .ref mo, .ref wh, .ref pf])) ∧ hFrL f u [m]) D f sz) (hPx hNo D f sz) ([.ref m, .int fr, .int ct] : List Value).toArray s9 0 0 (hA f sz)) (F0 m9 84 ls [.int y28, .ref m]) := by
        intro y28 ey28 H locs ls G hl
        replace ey28 := Eq.symm ey28
        subst ey28
        have bd31 : (X9_copyOversE_n4 gs gm ct) ≤ 4 := by unfold X9_copyOversE_n4 X9_copyOversE_n3 X9_copyOversE_n2 X9_copyOversE_n1 X9_copyOversE_n0; repeat (first | omega | split)
        exact J24 (nI (X9_copyOversE_n4 gs gm ct)) (by rw [X9_copyOversE_n5, if_neg c22] <;> rfl) _ _ _ G (lv_sub hl [0, 1, 2] rfl)
      refine lv_if_ne (tgt := 36) hx hb dX9_copyOvers_29 (by decide) (fun c27 => ?_) (fun c27 => ?_)
      · refine lv_aload_n hx hb dX9_copyOvers_36 rfl (lv_at hl 0 rfl) ?_
        refine g_get C0 G h_m rfl hiX9 18 (by decide) mf_X9_42 rfl dX9_copyOvers_37 ?_
        refine lv_iconst (v := 0) hx hb dX9_copyOvers_40 (by decide) ?_
        refine g_iald C0 G h_so 0 rfl (by unfold vp_in; decide) dX9_copyOvers_41 ?_
        refine lv_topv (v := gs 0) rfl ?_
        refine lv_aload_n hx hb dX9_copyOvers_42 rfl (lv_at hl 0 rfl) ?_
        refine g_get C0 G h_m rfl hiX9 18 (by decide) mf_X9_42 rfl dX9_copyOvers_43 ?_
        refine lv_iconst (v := 1) hx hb dX9_copyOvers_46 (by decide) ?_
        refine g_iald C0 G h_so 0 rfl (by unfold vp_in; decide) dX9_copyOvers_47 ?_
        refine lv_topv (v := gs 1) rfl ?_
        have J34 : ∀ (y33 : Int32) (_ : y33 = nI (X9_copyOversE_n3 gs gm ct)) (H : Heap) (locs : List Loc) (ls : Array Slot), hG D (hA f sz) f s9 H locs → lv_has ls 7 [(0, .ref m), (1, .int fr), (2, .int ct)] → W p9 l e9 ({ frames := 1, cells := 0, slots := 0, locals := 22 } : Room) s9 m9 ([.ref m, .int fr, .int ct] : List Value).toArray b9 t9 c9 H locs 0 0 (vx_MQ b9 (hQi (fun r u => r = 0 ∧ u m = some (.inr (11, [.int (nI (X9_copyOversE_n6 gs gm fr ct)), .int c_re, .ref v, .ref im, .ref kp, .ref pa, .ref de, .ref ide, .int c_un, .int c_hi, .ref tx, .int c_tn, .int c_fa, .int c_rf, .ref pt, .int c_ps, .int c_pl, .int c_to, .ref so, .ref mo, .ref wh, .ref pf])) ∧ hFrL f u [m]) D f sz) (hPx hNo D f sz) ([.ref m, .int fr, .int ct] : List Value).toArray s9 0 0 (hA f sz)) (F0 m9 84 ls [.int y33, .ref m]) := by
          intro y33 ey33 H locs ls G hl
          replace ey33 := Eq.symm ey33
          subst ey33
          have bd36 : (X9_copyOversE_n3 gs gm ct) ≤ 4 := by unfold X9_copyOversE_n3 X9_copyOversE_n2 X9_copyOversE_n1 X9_copyOversE_n0; repeat (first | omega | split)
          exact J29 (nI (X9_copyOversE_n3 gs gm ct)) (by rw [X9_copyOversE_n4, if_neg c27] <;> rfl) _ _ _ G (lv_sub hl [0, 1, 2] rfl)
        refine lv_icmp_eq (tgt := 55) hx hb dX9_copyOvers_48 (by decide) (fun c32 => ?_) (fun c32 => ?_)
        · refine lv_iload_n hx hb dX9_copyOvers_55 rfl (lv_at hl 2 rfl) ?_
          have J39 : ∀ (y38 : Int32) (_ : y38 = nI (X9_copyOversE_n2 gm ct)) (H : Heap) (locs : List Loc) (ls : Array Slot), hG D (hA f sz) f s9 H locs → lv_has ls 7 [(0, .ref m), (1, .int fr), (2, .int ct)] → W p9 l e9 ({ frames := 1, cells := 0, slots := 0, locals := 22 } : Room) s9 m9 ([.ref m, .int fr, .int ct] : List Value).toArray b9 t9 c9 H locs 0 0 (vx_MQ b9 (hQi (fun r u => r = 0 ∧ u m = some (.inr (11, [.int (nI (X9_copyOversE_n6 gs gm fr ct)), .int c_re, .ref v, .ref im, .ref kp, .ref pa, .ref de, .ref ide, .int c_un, .int c_hi, .ref tx, .int c_tn, .int c_fa, .int c_rf, .ref pt, .int c_ps, .int c_pl, .int c_to, .ref so, .ref mo, .ref wh, .ref pf])) ∧ hFrL f u [m]) D f sz) (hPx hNo D f sz) ([.ref m, .int fr, .int ct] : List Value).toArray s9 0 0 (hA f sz)) (F0 m9 84 ls [.int y38, .ref m]) := by
            intro y38 ey38 H locs ls G hl
            replace ey38 := Eq.symm ey38
            subst ey38
            have bd41 : (X9_copyOversE_n2 gm ct) ≤ 4 := by unfold X9_copyOversE_n2 X9_copyOversE_n1 X9_copyOversE_n0; repeat (first | omega | split)
            exact J34 (nI (X9_copyOversE_n2 gm ct)) (by rw [X9_copyOversE_n3, if_pos c32] <;> rfl) _ _ _ G (lv_sub hl [0, 1, 2] rfl)
          refine lv_if_lt (tgt := 79) hx hb dX9_copyOvers_56 (by decide) (fun c37 => ?_) (fun c37 => ?_)
          · refine lv_iconst (v := 4) hx hb dX9_copyOvers_79 (by decide) ?_
            refine lv_goto (tgt := 84) hx hb dX9_copyOvers_80 (by decide) ?_
            exact J39 4 (by rw [X9_copyOversE_n2, if_pos c37] <;> rfl) _ _ _ G (lv_sub hl [0, 1, 2] rfl)
          · refine lv_iload_n hx hb dX9_copyOvers_59 rfl (lv_at hl 2 rfl) ?_
            refine lv_aload_n hx hb dX9_copyOvers_60 rfl (lv_at hl 0 rfl) ?_
            refine g_get C0 G h_m rfl hiX9 19 (by decide) mf_X9_45 rfl dX9_copyOvers_61 ?_
            refine lv_iconst (v := 0) hx hb dX9_copyOvers_64 (by decide) ?_
            refine g_iald C0 G h_mo 0 rfl (by unfold vp_in; decide) dX9_copyOvers_65 ?_
            refine lv_topv (v := gm 0) rfl ?_
            have J44 : ∀ (y43 : Int32) (_ : y43 = nI (X9_copyOversE_n1 gm ct)) (H : Heap) (locs : List Loc) (ls : Array Slot), hG D (hA f sz) f s9 H locs → lv_has ls 7 [(0, .ref m), (1, .int fr), (2, .int ct)] → W p9 l e9 ({ frames := 1, cells := 0, slots := 0, locals := 22 } : Room) s9 m9 ([.ref m, .int fr, .int ct] : List Value).toArray b9 t9 c9 H locs 0 0 (vx_MQ b9 (hQi (fun r u => r = 0 ∧ u m = some (.inr (11, [.int (nI (X9_copyOversE_n6 gs gm fr ct)), .int c_re, .ref v, .ref im, .ref kp, .ref pa, .ref de, .ref ide, .int c_un, .int c_hi, .ref tx, .int c_tn, .int c_fa, .int c_rf, .ref pt, .int c_ps, .int c_pl, .int c_to, .ref so, .ref mo, .ref wh, .ref pf])) ∧ hFrL f u [m]) D f sz) (hPx hNo D f sz) ([.ref m, .int fr, .int ct] : List Value).toArray s9 0 0 (hA f sz)) (F0 m9 84 ls [.int y43, .ref m]) := by
              intro y43 ey43 H locs ls G hl
              replace ey43 := Eq.symm ey43
              subst ey43
              have bd46 : (X9_copyOversE_n1 gm ct) ≤ 4 := by unfold X9_copyOversE_n1 X9_copyOversE_n0; repeat (first | omega | split)
              exact J39 (nI (X9_copyOversE_n1 gm ct)) (by rw [X9_copyOversE_n2, if_neg c37] <;> rfl) _ _ _ G (lv_sub hl [0, 1, 2] rfl)
            refine lv_icmp_gt (tgt := 79) hx hb dX9_copyOvers_66 (by decide) (fun c42 => ?_) (fun c42 => ?_)
            · refine lv_iconst (v := 4) hx hb dX9_copyOvers_79 (by decide) ?_
              refine lv_goto (tgt := 84) hx hb dX9_copyOvers_80 (by decide) ?_
              exact J44 4 (by rw [X9_copyOversE_n1, if_pos c42] <;> rfl) _ _ _ G (lv_sub hl [0, 1, 2] rfl)
            · refine lv_iload_n hx hb dX9_copyOvers_69 rfl (lv_at hl 2 rfl) ?_
              refine lv_aload_n hx hb dX9_copyOvers_70 rfl (lv_at hl 0 rfl) ?_
              refine g_get C0 G h_m rfl hiX9 19 (by decide) mf_X9_45 rfl dX9_copyOvers_71 ?_
              refine lv_iconst (v := 1) hx hb dX9_copyOvers_74 (by decide) ?_
              refine g_iald C0 G h_mo 0 rfl (by unfold vp_in; decide) dX9_copyOvers_75 ?_
              refine lv_topv (v := gm 1) rfl ?_
              have J49 : ∀ (y48 : Int32) (_ : y48 = nI (X9_copyOversE_n0 gm ct)) (H : Heap) (locs : List Loc) (ls : Array Slot), hG D (hA f sz) f s9 H locs → lv_has ls 7 [(0, .ref m), (1, .int fr), (2, .int ct)] → W p9 l e9 ({ frames := 1, cells := 0, slots := 0, locals := 22 } : Room) s9 m9 ([.ref m, .int fr, .int ct] : List Value).toArray b9 t9 c9 H locs 0 0 (vx_MQ b9 (hQi (fun r u => r = 0 ∧ u m = some (.inr (11, [.int (nI (X9_copyOversE_n6 gs gm fr ct)), .int c_re, .ref v, .ref im, .ref kp, .ref pa, .ref de, .ref ide, .int c_un, .int c_hi, .ref tx, .int c_tn, .int c_fa, .int c_rf, .ref pt, .int c_ps, .int c_pl, .int c_to, .ref so, .ref mo, .ref wh, .ref pf])) ∧ hFrL f u [m]) D f sz) (hPx hNo D f sz) ([.ref m, .int fr, .int ct] : List Value).toArray s9 0 0 (hA f sz)) (F0 m9 84 ls [.int y48, .ref m]) := by
                intro y48 ey48 H locs ls G hl
                replace ey48 := Eq.symm ey48
                subst ey48
                have bd51 : (X9_copyOversE_n0 gm ct) ≤ 4 := by unfold X9_copyOversE_n0; repeat (first | omega | split)
                exact J44 (nI (X9_copyOversE_n0 gm ct)) (by rw [X9_copyOversE_n1, if_neg c42] <;> rfl) _ _ _ G (lv_sub hl [0, 1, 2] rfl)
              refine lv_icmp_le (tgt := 83) hx hb dX9_copyOvers_76 (by decide) (fun c47 => ?_) (fun c47 => ?_)
              · refine lv_iconst (v := 0) hx hb dX9_copyOvers_83 (by decide) ?_
                exact J49 0 (by rw [X9_copyOversE_n0, if_pos c47] <;> rfl) _ _ _ G (lv_sub hl [0, 1, 2] rfl)
              · refine lv_iconst (v := 4) hx hb dX9_copyOvers_79 (by decide) ?_
                refine lv_goto (tgt := 84) hx hb dX9_copyOvers_80 (by decide) ?_
                exact J49 4 (by rw [X9_copyOversE_n0, if_neg c47] <;> rfl) _ _ _ G (lv_sub hl [0, 1, 2] rfl)
        · refine lv_iconst (v := 3) hx hb dX9_copyOvers_51 (by decide) ?_
          refine lv_goto (tgt := 84) hx hb dX9_copyOvers_52 (by decide) ?_
          exact J34 3 (by rw [X9_copyOversE_n3, if_neg c32] <;> rfl) _ _ _ G (lv_sub hl [0, 1, 2] rfl)
      · refine lv_iconst (v := 2) hx hb dX9_copyOvers_32 (by decide) ?_
        refine lv_goto (tgt := 84) hx hb dX9_copyOvers_33 (by decide) ?_
        exact J29 2 (by rw [X9_copyOversE_n4, if_pos c27] <;> rfl) _ _ _ G (lv_sub hl [0, 1, 2] rfl)
  · refine lv_iconst (v := 1) hx hb dX9_copyOvers_10 (by decide) ?_
    refine lv_goto (tgt := 84) hx hb dX9_copyOvers_11 (by decide) ?_
    exact J16 1 (by rw [X9_copyOversE_n6, if_pos c14] <;> rfl) _ _ _ G (lv_sub hl [0, 1, 2] rfl)
def X9_copyOvers0_n0 (gm : Nat → Int32) (cn : Nat) : Nat := if (nI cn) ≤ (gm 1) then 0 else 4
def X9_copyOvers0_n1 (gm : Nat → Int32) (cn : Nat) : Nat := if (gm 0) < (nI cn) then 4 else (X9_copyOvers0_n0 gm cn)
def X9_copyOvers0_n2 (gm : Nat → Int32) (cn : Nat) : Nat := if (nI cn) < 0 then 4 else (X9_copyOvers0_n1 gm cn)
def X9_copyOvers0_n3 (gs : Nat → Int32) (gm : Nat → Int32) (cn : Nat) : Nat := if (gs 0) = (gs 1) then (X9_copyOvers0_n2 gm cn) else 3
def X9_copyOvers0_n4 (gs : Nat → Int32) (gm : Nat → Int32) (cn : Nat) : Nat := if (gs 1) = 0 then 2 else (X9_copyOvers0_n3 gs gm cn)
def X9_copyOvers0_n5 (gs : Nat → Int32) (gm : Nat → Int32) (cn : Nat) : Nat := if (gs 0) = 0 then 2 else (X9_copyOvers0_n4 gs gm cn)
def X9_copyOvers0_x6 (gf : Nat → UInt32) (jj : Nat) : Int32 := if (Op.cmpValue (FP.fcmp (gf (0 + jj)) (gf (21 + jj))) .l) = 0 then 0 else 1
def X9_copyOvers0_x7 (gw : Nat → Int32) (jj : Nat) : Int32 := if (gw (0 + jj)) = (gw (21 + jj)) then 0 else 1
def X9_copyOvers0_x8 (gs : Nat → Int32) (gw : Nat → Int32) (gf : Nat → UInt32) (jj : Nat) : Int32 := if (gs 0) = 1 then (X9_copyOvers0_x7 gw jj) else (X9_copyOvers0_x6 gf jj)
def X9_copyOvers0_r9 (gs : Nat → Int32) (gw : Nat → Int32) (gf : Nat → UInt32) (cn : Nat) : Int32 := (cvC (gs 0) gw gf 0 21 cn)
def X9_copyOvers0_g10 (gw : Nat → Int32) (cn : Nat) : Nat → Int32 := cpo gw 21 (fun k => gw (0 + k)) cn
def X9_copyOvers0_g11 (gf : Nat → UInt32) (cn : Nat) : Nat → UInt32 := cpoF gf 21 (fun k => gf (0 + k)) cn
set_option maxRecDepth 100000 in
theorem k_X9_copyOvers0 {l : Launch} (hfl : l.stackTraces = false) {D : va_G} {cy : Nat → ClassId} {f : Hf} {sz : Nat} {m : Nat} {v : Nat} {im : Nat} {kp : Nat} {pa : Nat} {de : Nat} {ide : Nat} {tx : Nat} {pt : Nat} {so : Nat} {mo : Nat} {wh : Nat} {pf : Nat} {c_th : Int32} {c_re : Int32} {c_un : Int32} {c_hi : Int32} {c_tn : Int32} {c_fa : Int32} {c_rf : Int32} {c_ps : Int32} {c_pl : Int32} {c_to : Int32} {gs : Nat → Int32} {gm : Nat → Int32} {gw : Nat → Int32} {gf : Nat → UInt32} {ct : Int32} {cn : Nat} (h_m : f m = some (.inr (11, [.int c_th, .int c_re, .ref v, .ref im, .ref kp, .ref pa, .ref de, .ref ide, .int c_un, .int c_hi, .ref tx, .int c_tn, .int c_fa, .int c_rf, .ref pt, .int c_ps, .int c_pl, .int c_to, .ref so, .ref mo, .ref wh, .ref pf]))) (h_so : f so = some (.inl (cy 0, 2, .inl gs))) (h_mo : f mo = some (.inl (cy 0, 2, .inl gm))) (h_wh : f wh = some (.inl (cy 0, 42, .inl gw))) (h_pf : f pf = some (.inl (cy 2, 42, .inr (.inr (.inl gf))))) (hcn : cn < 21) (hgo : (nI (X9_copyOvers0_n5 gs gm cn)) ≤ 0) : hMet l yX9_copyOvers cX9_copyOvers 7 (some .boolean) { frames := 1, cells := 0, slots := 0, locals := 22 } D (hTy cy) f sz [.ref m, .int 0, .int (nI cn)] (hQi (fun r u => r = (X9_copyOvers0_r9 gs gw gf cn) ∧ u m = some (.inr (11, [.int (nI (X9_copyOvers0_n5 gs gm cn)), .int c_re, .ref v, .ref im, .ref kp, .ref pa, .ref de, .ref ide, .int c_un, .int c_hi, .ref tx, .int c_tn, .int c_fa, .int c_rf, .ref pt, .int c_ps, .int c_pl, .int c_to, .ref so, .ref mo, .ref wh, .ref pf])) ∧ u wh = some (.inl (cy 0, 42, .inl (X9_copyOvers0_g10 gw cn))) ∧ u pf = some (.inl (cy 2, 42, .inr (.inr (.inl (X9_copyOvers0_g11 gf cn))))) ∧ hFrL f u [m, wh, pf]) D f sz) hNo := by
  refine h_enter (by decide) hfl (Nat.le_of_ble_eq_true rfl) ?_
  intro p9 e9 s9 m9 b9 t9 c9 hsz C0 hr hnm G ls hl
  have hx := C0.1.1
  have hb := C0.1.2.1
  have hl : lv_has ls 7 [(0, .ref m), (1, .int 0), (2, .int (nI cn))] := hl
  refine lv_aload_n hx hb dX9_copyOvers_0 rfl (lv_at hl 0 rfl) ?_
  refine lv_iload_n hx hb dX9_copyOvers_1 rfl (lv_at hl 1 rfl) ?_
  refine lv_iconst (v := 0) hx hb dX9_copyOvers_2 (by decide) ?_
  refine lv_iconst (v := 1) hx hb dX9_copyOvers_3 (by decide) ?_
  refine g_cI C0 G (g_runS C0 G (rest := [.ref m]) (k_X9_isIn hfl 0 0 1 ) hY_X9_isIn mm_X9_76 ms_X9_isIn ⟨(Nat.le_of_ble_eq_true rfl), (Nat.le_of_ble_eq_true rfl)⟩ rfl hl.1 rfl (Nat.le_of_ble_eq_true rfl) dX9_copyOvers_4 ⟨(Nat.le_of_ble_eq_true rfl), (Nat.le_of_ble_eq_true rfl)⟩) (kx_no rfl) (fun r13 u12 H locs hp11 G => ?_)
  obtain ⟨zr, eu12⟩ := hp11
  replace zr := Eq.symm zr
  subst zr
  rw [eu12] at G
  refine lv_topv (v := 1) (by decide) ?_
  refine lv_if_ne (tgt := 14) hx hb dX9_copyOvers_7 (by decide) (fun _ => ?_) (fun c14 => absurd c14 (by decide))
  refine lv_aload_n hx hb dX9_copyOvers_14 rfl (lv_at hl 0 rfl) ?_
  refine g_get C0 G h_m rfl hiX9 18 (by decide) mf_X9_42 rfl dX9_copyOvers_15 ?_
  refine lv_iconst (v := 0) hx hb dX9_copyOvers_18 (by decide) ?_
  refine g_iald C0 G h_so 0 rfl (by unfold vp_in; decide) dX9_copyOvers_19 ?_
  refine lv_topv (v := gs 0) rfl ?_
  have J17 : ∀ (y16 : Int32) (_ : y16 = nI (X9_copyOvers0_n5 gs gm cn)) (H : Heap) (locs : List Loc) (ls : Array Slot), hG D (hA f sz) f s9 H locs → lv_has ls 7 [(0, .ref m), (1, .int 0), (2, .int (nI cn))] → W p9 l e9 ({ frames := 1, cells := 0, slots := 0, locals := 22 } : Room) s9 m9 ([.ref m, .int 0, .int (nI cn)] : List Value).toArray b9 t9 c9 H locs 0 0 (vx_MQ b9 (hQi (fun r u => r = (X9_copyOvers0_r9 gs gw gf cn) ∧ u m = some (.inr (11, [.int (nI (X9_copyOvers0_n5 gs gm cn)), .int c_re, .ref v, .ref im, .ref kp, .ref pa, .ref de, .ref ide, .int c_un, .int c_hi, .ref tx, .int c_tn, .int c_fa, .int c_rf, .ref pt, .int c_ps, .int c_pl, .int c_to, .ref so, .ref mo, .ref wh, .ref pf])) ∧ u wh = some (.inl (cy 0, 42, .inl (X9_copyOvers0_g10 gw cn))) ∧ u pf = some (.inl (cy 2, 42, .inr (.inr (.inl (X9_copyOvers0_g11 gf cn))))) ∧ hFrL f u [m, wh, pf]) D f sz) (hPx hNo D f sz) ([.ref m, .int 0, .int (nI cn)] : List Value).toArray s9 0 0 (hA f sz)) (F0 m9 84 ls [.int y16, .ref m]) := by
    intro y16 ey16 H locs ls G hl
    replace ey16 := Eq.symm ey16
    subst ey16
    have bd19 : (X9_copyOvers0_n5 gs gm cn) ≤ 4 := by unfold X9_copyOvers0_n5 X9_copyOvers0_n4 X9_copyOvers0_n3 X9_copyOvers0_n2 X9_copyOvers0_n1 X9_copyOvers0_n0; repeat (first | omega | split)
    refine g_put C0 G h_m rfl hiX9 tyX9 tyX9_ok nmX9 0 (by decide) mf_X9_55 rfl rfl rfl rfl (Nat.le_of_ble_eq_true rfl) dX9_copyOvers_84 (fun H locs f20 hf20 G => ?_)
    have k21 : f20 m = some (.inr (11, [.int (nI (X9_copyOvers0_n5 gs gm cn)), .int c_re, .ref v, .ref im, .ref kp, .ref pa, .ref de, .ref ide, .int c_un, .int c_hi, .ref tx, .int c_tn, .int c_fa, .int c_rf, .ref pt, .int c_ps, .int c_pl, .int c_to, .ref so, .ref mo, .ref wh, .ref pf])) := hus hf20
    refine lv_aload_n hx hb dX9_copyOvers_87 rfl (lv_at hl 0 rfl) ?_
    refine g_get C0 G k21 rfl hiX9 0 (by decide) mf_X9_55 rfl dX9_copyOvers_88 ?_
    refine lv_if_le (tgt := 96) hx hb dX9_copyOvers_91 (by decide) (fun _ => ?_) (fun c22 => absurd (hgo) c22)
    refine lv_iconst (v := 0) hx hb dX9_copyOvers_96 (by decide) ?_
    refine lv_istore_n (lv' := [(3, .int 0), (0, .ref m), (1, .int 0), (2, .int (nI cn))]) hx hb dX9_copyOvers_97 rfl hl (by decide) rfl (fun ls hl => ?_)
    refine lv_iconst (v := 0) hx hb dX9_copyOvers_98 (by decide) ?_
    refine lv_istore (lv' := [(4, .int 0), (3, .int 0), (0, .ref m), (1, .int 0), (2, .int (nI cn))]) hx hb dX9_copyOvers_99 hl (by decide) rfl (fun ls hl => ?_)
    have k23 : f20 wh = some (.inl (cy 0, 42, .inl gw)) := hup hf20 (hne h_wh h_m (by intro q; cases q)) h_wh
    have k24 : f20 pf = some (.inl (cy 2, 42, .inr (.inr (.inl gf)))) := hup hf20 (hne h_pf h_m (by intro q; first | (cases q; done) | (simp at q; done))) h_pf
    refine W.widen (k := 0) (n := 0) (Nat.le_of_ble_eq_true rfl) (Nat.le_of_ble_eq_true rfl) ?_
    have LOOP101 : ∀ (k : Nat) (jj : Nat) (f1 : Hf) (H : Heap) (locs : List Loc) (ls : Array Slot), (jj ≤ cn) → (cn - jj < k) → f1 wh = some (.inl (cy 0, 42, .inl (cpo gw 21 (fun k => gw (0 + k)) jj))) → f1 pf = some (.inl (cy 2, 42, .inr (.inr (.inl (cpoF gf 21 (fun k => gf (0 + k)) jj))))) → hFrL f20 f1 [wh, pf] → hG D (hA f sz) f1 s9 H locs → lv_has ls 7 [(4, .int (nI jj)), (3, .int (cvC (gs 0) gw gf 0 21 jj)), (0, .ref m), (1, .int 0), (2, .int (nI cn))] → W p9 l e9 ({ frames := 1, cells := 0, slots := 0, locals := 22 } : Room) s9 m9 ([.ref m, .int 0, .int (nI cn)] : List Value).toArray b9 t9 c9 H locs 0 0 (vx_MQ b9 (hQi (fun r u => r = (X9_copyOvers0_r9 gs gw gf cn) ∧ u m = some (.inr (11, [.int (nI (X9_copyOvers0_n5 gs gm cn)), .int c_re, .ref v, .ref im, .ref kp, .ref pa, .ref de, .ref ide, .int c_un, .int c_hi, .ref tx, .int c_tn, .int c_fa, .int c_rf, .ref pt, .int c_ps, .int c_pl, .int c_to, .ref so, .ref mo, .ref wh, .ref pf])) ∧ u wh = some (.inl (cy 0, 42, .inl (X9_copyOvers0_g10 gw cn))) ∧ u pf = some (.inl (cy 2, 42, .inr (.inr (.inl (X9_copyOvers0_g11 gf cn))))) ∧ hFrL f u [m, wh, pf]) D f sz) (hPx hNo D f sz) ([.ref m, .int 0, .int (nI cn)] : List Value).toArray s9 0 0 (hA f sz)) (F0 m9 101 ls []) := by
      intro k
      induction k with
      | zero =>
        intro jj f1 H locs ls hi2 hk h_wh1 h_pf1 hfr G hl
        exact absurd hk (by omega)
      | succ k ih =>
        intro jj f1 H locs ls hi2 hk h_wh1 h_pf1 hfr G hl
        refine lv_iload hx hb dX9_copyOvers_101 (lv_at hl 0 rfl) ?_
        refine lv_iload_n hx hb dX9_copyOvers_103 rfl (lv_at hl 4 rfl) ?_
        refine lv_icmp_ge (tgt := 222) hx hb dX9_copyOvers_104 (by decide) (fun c25 => ?_) (fun c25 => ?_)
        · have n26 : cn ≤ jj := (nI_leI (a := cn) (b := jj) (by omega) (by omega)).mp c25
          have hi9 : cn = jj := by omega
          subst hi9
          refine lv_iload_n hx hb dX9_copyOvers_222 rfl (lv_at hl 1 rfl) ?_
          have k27 : f1 m = some (.inr (11, [.int (nI (X9_copyOvers0_n5 gs gm cn)), .int c_re, .ref v, .ref im, .ref kp, .ref pa, .ref de, .ref ide, .int c_un, .int c_hi, .ref tx, .int c_tn, .int c_fa, .int c_rf, .ref pt, .int c_ps, .int c_pl, .int c_to, .ref so, .ref mo, .ref wh, .ref pf])) := hfr _ _ (by simp only [List.mem_cons, List.not_mem_nil, or_false]; intro q; rcases q with q | q; exact (hne k21 k23 (by intro q; cases q)) q; exact (hne k21 k24 (by intro q; first | (cases q; done) | (simp at q; done))) q) k21
          exact g_zret C0 G hr dX9_copyOvers_223 (hZb (cvC_b _ _ _ _ _ _)) (Nat.le_of_ble_eq_true rfl) (Nat.le_of_ble_eq_true rfl) (by exact ⟨(by rw [X9_copyOvers0_r9]), k27, (by rw [(by rw [X9_copyOvers0_g10] : (X9_copyOvers0_g10 gw cn) = (cpo gw 21 (fun k => gw (0 + k)) cn))]; exact h_wh1), (by rw [(by rw [X9_copyOvers0_g11] : (X9_copyOvers0_g11 gf cn) = (cpoF gf 21 (fun k => gf (0 + k)) cn))]; exact h_pf1), (fun a9 e9 h7 h8 => hfr _ _ (fun q => h7 (by simp only [List.mem_cons, List.not_mem_nil, or_false] at q ⊢; first | exact q | (rcases q with q | q <;> simp [q]) | omega)) (hup hf20 (fun q => h7 (by rw [q]; simp)) (h8)))⟩)
        · have n28 : ¬ cn ≤ jj := fun q => c25 ((nI_leI (a := cn) (b := jj) (by omega) (by omega)).mpr q)
          refine lv_bipush (v := 21) hx hb dX9_copyOvers_107 (by decide) ?_
          refine lv_iload_n hx hb dX9_copyOvers_109 rfl (lv_at hl 3 rfl) ?_
          refine lv_imul hx hb dX9_copyOvers_110 ?_
          refine lv_topv (v := 0) (by decide) ?_
          refine lv_iload hx hb dX9_copyOvers_111 (lv_at hl 0 rfl) ?_
          refine lv_iadd hx hb dX9_copyOvers_113 ?_
          refine lv_topv (v := nI (0 + jj)) ((nI_add _ _)) ?_
          refine lv_istore (lv' := [(5, .int (nI (0 + jj))), (4, .int (nI jj)), (3, .int (cvC (gs 0) gw gf 0 21 jj)), (0, .ref m), (1, .int 0), (2, .int (nI cn))]) hx hb dX9_copyOvers_114 hl (by decide) rfl (fun ls hl => ?_)
          refine lv_bipush (v := 21) hx hb dX9_copyOvers_116 (by decide) ?_
          refine lv_iconst (v := 1) hx hb dX9_copyOvers_118 (by decide) ?_
          refine lv_iload_n hx hb dX9_copyOvers_119 rfl (lv_at hl 4 rfl) ?_
          refine lv_isub hx hb dX9_copyOvers_120 ?_
          refine lv_topv (v := 1) (by decide) ?_
          refine lv_imul hx hb dX9_copyOvers_121 ?_
          refine lv_topv (v := 21) (by decide) ?_
          refine lv_iload hx hb dX9_copyOvers_122 (lv_at hl 1 rfl) ?_
          refine lv_iadd hx hb dX9_copyOvers_124 ?_
          refine lv_topv (v := nI (21 + jj)) ((nI_add _ _)) ?_
          refine lv_istore (lv' := [(6, .int (nI (21 + jj))), (5, .int (nI (0 + jj))), (4, .int (nI jj)), (3, .int (cvC (gs 0) gw gf 0 21 jj)), (0, .ref m), (1, .int 0), (2, .int (nI cn))]) hx hb dX9_copyOvers_125 hl (by decide) rfl (fun ls hl => ?_)
          refine lv_iload_n hx hb dX9_copyOvers_127 rfl (lv_at hl 3 rfl) ?_
          refine lv_aload_n hx hb dX9_copyOvers_128 rfl (lv_at hl 4 rfl) ?_
          have k29 : f1 m = some (.inr (11, [.int (nI (X9_copyOvers0_n5 gs gm cn)), .int c_re, .ref v, .ref im, .ref kp, .ref pa, .ref de, .ref ide, .int c_un, .int c_hi, .ref tx, .int c_tn, .int c_fa, .int c_rf, .ref pt, .int c_ps, .int c_pl, .int c_to, .ref so, .ref mo, .ref wh, .ref pf])) := hfr _ _ (by simp only [List.mem_cons, List.not_mem_nil, or_false]; intro q; rcases q with q | q; exact (hne k21 k23 (by intro q; cases q)) q; exact (hne k21 k24 (by intro q; first | (cases q; done) | (simp at q; done))) q) k21
          refine g_get C0 G k29 rfl hiX9 18 (by decide) mf_X9_42 rfl dX9_copyOvers_129 ?_
          refine lv_iconst (v := 0) hx hb dX9_copyOvers_132 (by decide) ?_
          have k30 : f1 so = some (.inl (cy 0, 2, .inl gs)) := hfr _ _ (by simp only [List.mem_cons, List.not_mem_nil, or_false]; intro q; rcases q with q | q; exact (hne (hup hf20 (hne h_so h_m (by intro q; cases q)) h_so) k23 (by intro q; cases q)) q; exact (hne (hup hf20 (hne h_so h_m (by intro q; cases q)) h_so) k24 (by intro q; first | (cases q; done) | (simp at q; done))) q) (hup hf20 (hne h_so h_m (by intro q; cases q)) h_so)
          refine g_iald C0 G k30 0 rfl (by unfold vp_in; decide) dX9_copyOvers_133 ?_
          refine lv_topv (v := gs 0) rfl ?_
          refine lv_iconst (v := 1) hx hb dX9_copyOvers_134 (by decide) ?_
          have J33 : ∀ (y32 : Int32) (_ : y32 = (X9_copyOvers0_x8 gs gw gf jj)) (H : Heap) (locs : List Loc) (ls : Array Slot), hG D (hA f sz) f1 s9 H locs → lv_has ls 7 [(6, .int (nI (21 + jj))), (5, .int (nI (0 + jj))), (4, .int (nI jj)), (3, .int (cvC (gs 0) gw gf 0 21 jj)), (0, .ref m), (1, .int 0), (2, .int (nI cn))] → W p9 l e9 ({ frames := 1, cells := 0, slots := 0, locals := 22 } : Room) s9 m9 ([.ref m, .int 0, .int (nI cn)] : List Value).toArray b9 t9 c9 H locs 0 0 (vx_MQ b9 (hQi (fun r u => r = (X9_copyOvers0_r9 gs gw gf cn) ∧ u m = some (.inr (11, [.int (nI (X9_copyOvers0_n5 gs gm cn)), .int c_re, .ref v, .ref im, .ref kp, .ref pa, .ref de, .ref ide, .int c_un, .int c_hi, .ref tx, .int c_tn, .int c_fa, .int c_rf, .ref pt, .int c_ps, .int c_pl, .int c_to, .ref so, .ref mo, .ref wh, .ref pf])) ∧ u wh = some (.inl (cy 0, 42, .inl (X9_copyOvers0_g10 gw cn))) ∧ u pf = some (.inl (cy 2, 42, .inr (.inr (.inl (X9_copyOvers0_g11 gf cn))))) ∧ hFrL f u [m, wh, pf]) D f sz) (hPx hNo D f sz) ([.ref m, .int 0, .int (nI cn)] : List Value).toArray s9 0 0 (hA f sz)) (F0 m9 186 ls [.int y32, .int (cvC (gs 0) gw gf 0 21 jj)]) := by
            intro y32 ey32 H locs ls G hl
            replace ey32 := Eq.symm ey32
            subst ey32
            refine lv_ior hx hb dX9_copyOvers_186 ?_
            refine lv_topv (v := (cvC (gs 0) gw gf 0 21 (jj + 1))) (by unfold X9_copyOvers0_x8 X9_copyOvers0_x7 X9_copyOvers0_x6; rfl) ?_
            refine lv_istore_n (lv' := [(3, .int (cvC (gs 0) gw gf 0 21 (jj + 1))), (6, .int (nI (21 + jj))), (5, .int (nI (0 + jj))), (4, .int (nI jj)), (0, .ref m), (1, .int 0), (2, .int (nI cn))]) hx hb dX9_copyOvers_187 rfl hl (by decide) rfl (fun ls hl => ?_)
            refine lv_aload_n hx hb dX9_copyOvers_188 rfl (lv_at hl 4 rfl) ?_
            refine g_get C0 G k29 rfl hiX9 20 (by decide) mf_X9_48 rfl dX9_copyOvers_189 ?_
            refine lv_iload hx hb dX9_copyOvers_192 (lv_at hl 1 rfl) ?_
            refine lv_aload_n hx hb dX9_copyOvers_194 rfl (lv_at hl 4 rfl) ?_
            refine g_get C0 G k29 rfl hiX9 20 (by decide) mf_X9_48 rfl dX9_copyOvers_195 ?_
            refine lv_iload hx hb dX9_copyOvers_198 (lv_at hl 2 rfl) ?_
            refine g_iald C0 G h_wh1 0 rfl (vp_in_nI (by omega) (by omega)) dX9_copyOvers_200 ?_
            refine lv_topv (v := (cpo gw 21 (fun k => gw (0 + k)) jj) (0 + jj)) (congrArg (cpo gw 21 (fun k => gw (0 + k)) jj) (nI_c (by omega))) ?_
            refine lv_topv (v := gw (0 + jj)) (cpo_out (by omega)) ?_
            refine g_iast C0 G h_wh1 0 rfl (vp_in_nI (by omega) (by omega)) dX9_copyOvers_201 (fun H locs f35 hf35 G => ?_)
            have k36 : f35 wh = some (.inl (cy 0, 42, .inl (upd (cpo gw 21 (fun k => gw (0 + k)) jj) (nI (21 + jj)).toNatClampNeg (gw (0 + jj))))) := hus hf35
            refine lv_aload_n hx hb dX9_copyOvers_202 rfl (lv_at hl 4 rfl) ?_
            have k37 : f35 m = some (.inr (11, [.int (nI (X9_copyOvers0_n5 gs gm cn)), .int c_re, .ref v, .ref im, .ref kp, .ref pa, .ref de, .ref ide, .int c_un, .int c_hi, .ref tx, .int c_tn, .int c_fa, .int c_rf, .ref pt, .int c_ps, .int c_pl, .int c_to, .ref so, .ref mo, .ref wh, .ref pf])) := hup hf35 (hne k29 h_wh1 (by intro q; cases q)) k29
            refine g_get C0 G k37 rfl hiX9 21 (by decide) mf_X9_51 rfl dX9_copyOvers_203 ?_
            refine lv_iload hx hb dX9_copyOvers_206 (lv_at hl 1 rfl) ?_
            refine lv_aload_n hx hb dX9_copyOvers_208 rfl (lv_at hl 4 rfl) ?_
            refine g_get C0 G k37 rfl hiX9 21 (by decide) mf_X9_51 rfl dX9_copyOvers_209 ?_
            refine lv_iload hx hb dX9_copyOvers_212 (lv_at hl 2 rfl) ?_
            have k38 : f35 pf = some (.inl (cy 2, 42, .inr (.inr (.inl (cpoF gf 21 (fun k => gf (0 + k)) jj))))) := hup hf35 (hne h_pf1 h_wh1 (by intro q; first | (cases q; done) | (simp at q; done))) h_pf1
            refine g_fald C0 G k38 2 rfl (vp_in_nI (by omega) (by omega)) dX9_copyOvers_214 ?_
            refine lv_topF (v := (cpoF gf 21 (fun k => gf (0 + k)) jj) (0 + jj)) (congrArg (cpoF gf 21 (fun k => gf (0 + k)) jj) (nI_c (by omega))) ?_
            refine lv_topF (v := gf (0 + jj)) (cpoF_out (by omega)) ?_
            refine g_fast C0 G k38 2 rfl (vp_in_nI (by omega) (by omega)) dX9_copyOvers_215 (fun H locs f39 hf39 G => ?_)
            have k40 : f39 pf = some (.inl (cy 2, 42, .inr (.inr (.inl (vf_upd (cpoF gf 21 (fun k => gf (0 + k)) jj) (nI (21 + jj)).toNatClampNeg (gf (0 + jj))))))) := hus hf39
            refine lv_iinc (v := nI (jj + 1)) (lv' := [(4, .int (nI (jj + 1))), (3, .int (cvC (gs 0) gw gf 0 21 (jj + 1))), (6, .int (nI (21 + jj))), (5, .int (nI (0 + jj))), (0, .ref m), (1, .int 0), (2, .int (nI cn))]) hx hb dX9_copyOvers_216 hl (k := 3) rfl (by exact (nI_add _ _)) (by decide) rfl (fun ls hl => ?_)
            refine lv_goto (tgt := 101) hx hb dX9_copyOvers_219 (by decide) ?_
            have k42 : f39 wh = some (.inl (cy 0, 42, .inl (upd (cpo gw 21 (fun k => gw (0 + k)) jj) (nI (21 + jj)).toNatClampNeg (gw (0 + jj))))) := hup hf39 (hne k36 k38 (by intro q; first | (cases q; done) | (simp at q; done))) k36
            exact ih (jj + 1) f39 _ _ _ (by omega) (by omega) (by have h9 := k42; rw [nI_c (by omega), cpo_s _ _ (fun k => gw (0 + k))] at h9; exact h9) (by have h9 := k40; rw [nI_c (by omega), cpoF_s _ _ (fun k => gf (0 + k))] at h9; exact h9) (fun a9 e9 h7 h8 => hup hf39 (fun q => h7 (by rw [q]; simp)) (hup hf35 (fun q => h7 (by rw [q]; simp)) (hfr _ _ (fun q => h7 (by simp only [List.mem_cons, List.not_mem_nil, or_false] at q ⊢; first | exact q | (rcases q with q | q <;> simp [q]) | omega)) (h8)))) G (lv_sub hl [0, 1, 4, 5, 6] rfl)
          refine lv_icmp_ne (tgt := 163) hx hb dX9_copyOvers_135 (by decide) (fun c31 => ?_) (fun c31 => ?_)
          · refine lv_aload_n hx hb dX9_copyOvers_163 rfl (lv_at hl 4 rfl) ?_
            refine g_get C0 G k29 rfl hiX9 21 (by decide) mf_X9_51 rfl dX9_copyOvers_164 ?_
            refine lv_iload hx hb dX9_copyOvers_167 (lv_at hl 1 rfl) ?_
            refine g_fald C0 G h_pf1 2 rfl (vp_in_nI (by omega) (by omega)) dX9_copyOvers_169 ?_
            refine lv_topF (v := (cpoF gf 21 (fun k => gf (0 + k)) jj) (0 + jj)) (congrArg (cpoF gf 21 (fun k => gf (0 + k)) jj) (nI_c (by omega))) ?_
            refine lv_topF (v := gf (0 + jj)) (cpoF_out (by omega)) ?_
            refine lv_aload_n hx hb dX9_copyOvers_170 rfl (lv_at hl 4 rfl) ?_
            refine g_get C0 G k29 rfl hiX9 21 (by decide) mf_X9_51 rfl dX9_copyOvers_171 ?_
            refine lv_iload hx hb dX9_copyOvers_174 (lv_at hl 0 rfl) ?_
            refine g_fald C0 G h_pf1 2 rfl (vp_in_nI (by omega) (by omega)) dX9_copyOvers_176 ?_
            refine lv_topF (v := (cpoF gf 21 (fun k => gf (0 + k)) jj) (21 + jj)) (congrArg (cpoF gf 21 (fun k => gf (0 + k)) jj) (nI_c (by omega))) ?_
            refine lv_topF (v := gf (21 + jj)) (cpoF_out (by omega)) ?_
            refine lv_fcmp hx hb dX9_copyOvers_177 ?_
            have J45 : ∀ (y44 : Int32) (_ : y44 = (X9_copyOvers0_x6 gf jj)) (H : Heap) (locs : List Loc) (ls : Array Slot), hG D (hA f sz) f1 s9 H locs → lv_has ls 7 [(6, .int (nI (21 + jj))), (5, .int (nI (0 + jj))), (4, .int (nI jj)), (3, .int (cvC (gs 0) gw gf 0 21 jj)), (0, .ref m), (1, .int 0), (2, .int (nI cn))] → W p9 l e9 ({ frames := 1, cells := 0, slots := 0, locals := 22 } : Room) s9 m9 ([.ref m, .int 0, .int (nI cn)] : List Value).toArray b9 t9 c9 H locs 0 0 (vx_MQ b9 (hQi (fun r u => r = (X9_copyOvers0_r9 gs gw gf cn) ∧ u m = some (.inr (11, [.int (nI (X9_copyOvers0_n5 gs gm cn)), .int c_re, .ref v, .ref im, .ref kp, .ref pa, .ref de, .ref ide, .int c_un, .int c_hi, .ref tx, .int c_tn, .int c_fa, .int c_rf, .ref pt, .int c_ps, .int c_pl, .int c_to, .ref so, .ref mo, .ref wh, .ref pf])) ∧ u wh = some (.inl (cy 0, 42, .inl (X9_copyOvers0_g10 gw cn))) ∧ u pf = some (.inl (cy 2, 42, .inr (.inr (.inl (X9_copyOvers0_g11 gf cn))))) ∧ hFrL f u [m, wh, pf]) D f sz) (hPx hNo D f sz) ([.ref m, .int 0, .int (nI cn)] : List Value).toArray s9 0 0 (hA f sz)) (F0 m9 186 ls [.int y44, .int (cvC (gs 0) gw gf 0 21 jj)]) := by
              intro y44 ey44 H locs ls G hl
              replace ey44 := Eq.symm ey44
              subst ey44
              exact J33 (X9_copyOvers0_x6 gf jj) (by rw [X9_copyOvers0_x8, if_neg c31]) _ _ _ G (lv_sub hl [0, 1, 2, 3, 4, 5, 6] rfl)
            refine lv_if_eq (tgt := 185) hx hb dX9_copyOvers_178 (by decide) (fun c43 => ?_) (fun c43 => ?_)
            · refine lv_iconst (v := 0) hx hb dX9_copyOvers_185 (by decide) ?_
              exact J45 0 (by rw [X9_copyOvers0_x6, if_pos c43]) _ _ _ G (lv_sub hl [0, 1, 2, 3, 4, 5, 6] rfl)
            · refine lv_iconst (v := 1) hx hb dX9_copyOvers_181 (by decide) ?_
              refine lv_goto (tgt := 186) hx hb dX9_copyOvers_182 (by decide) ?_
              exact J45 1 (by rw [X9_copyOvers0_x6, if_neg c43]) _ _ _ G (lv_sub hl [0, 1, 2, 3, 4, 5, 6] rfl)
          · refine lv_aload_n hx hb dX9_copyOvers_138 rfl (lv_at hl 4 rfl) ?_
            refine g_get C0 G k29 rfl hiX9 20 (by decide) mf_X9_48 rfl dX9_copyOvers_139 ?_
            refine lv_iload hx hb dX9_copyOvers_142 (lv_at hl 1 rfl) ?_
            refine g_iald C0 G h_wh1 0 rfl (vp_in_nI (by omega) (by omega)) dX9_copyOvers_144 ?_
            refine lv_topv (v := (cpo gw 21 (fun k => gw (0 + k)) jj) (0 + jj)) (congrArg (cpo gw 21 (fun k => gw (0 + k)) jj) (nI_c (by omega))) ?_
            refine lv_topv (v := gw (0 + jj)) (cpo_out (by omega)) ?_
            refine lv_aload_n hx hb dX9_copyOvers_145 rfl (lv_at hl 4 rfl) ?_
            refine g_get C0 G k29 rfl hiX9 20 (by decide) mf_X9_48 rfl dX9_copyOvers_146 ?_
            refine lv_iload hx hb dX9_copyOvers_149 (lv_at hl 0 rfl) ?_
            refine g_iald C0 G h_wh1 0 rfl (vp_in_nI (by omega) (by omega)) dX9_copyOvers_151 ?_
            refine lv_topv (v := (cpo gw 21 (fun k => gw (0 + k)) jj) (21 + jj)) (congrArg (cpo gw 21 (fun k => gw (0 + k)) jj) (nI_c (by omega))) ?_
            refine lv_topv (v := gw (21 + jj)) (cpo_out (by omega)) ?_
            have J49 : ∀ (y48 : Int32) (_ : y48 = (X9_copyOvers0_x7 gw jj)) (H : Heap) (locs : List Loc) (ls : Array Slot), hG D (hA f sz) f1 s9 H locs → lv_has ls 7 [(6, .int (nI (21 + jj))), (5, .int (nI (0 + jj))), (4, .int (nI jj)), (3, .int (cvC (gs 0) gw gf 0 21 jj)), (0, .ref m), (1, .int 0), (2, .int (nI cn))] → W p9 l e9 ({ frames := 1, cells := 0, slots := 0, locals := 22 } : Room) s9 m9 ([.ref m, .int 0, .int (nI cn)] : List Value).toArray b9 t9 c9 H locs 0 0 (vx_MQ b9 (hQi (fun r u => r = (X9_copyOvers0_r9 gs gw gf cn) ∧ u m = some (.inr (11, [.int (nI (X9_copyOvers0_n5 gs gm cn)), .int c_re, .ref v, .ref im, .ref kp, .ref pa, .ref de, .ref ide, .int c_un, .int c_hi, .ref tx, .int c_tn, .int c_fa, .int c_rf, .ref pt, .int c_ps, .int c_pl, .int c_to, .ref so, .ref mo, .ref wh, .ref pf])) ∧ u wh = some (.inl (cy 0, 42, .inl (X9_copyOvers0_g10 gw cn))) ∧ u pf = some (.inl (cy 2, 42, .inr (.inr (.inl (X9_copyOvers0_g11 gf cn))))) ∧ hFrL f u [m, wh, pf]) D f sz) (hPx hNo D f sz) ([.ref m, .int 0, .int (nI cn)] : List Value).toArray s9 0 0 (hA f sz)) (F0 m9 186 ls [.int y48, .int (cvC (gs 0) gw gf 0 21 jj)]) := by
              intro y48 ey48 H locs ls G hl
              replace ey48 := Eq.symm ey48
              subst ey48
              exact J33 (X9_copyOvers0_x7 gw jj) (by rw [X9_copyOvers0_x8, if_pos c31]) _ _ _ G (lv_sub hl [0, 1, 2, 3, 4, 5, 6] rfl)
            refine lv_icmp_eq (tgt := 159) hx hb dX9_copyOvers_152 (by decide) (fun c47 => ?_) (fun c47 => ?_)
            · refine lv_iconst (v := 0) hx hb dX9_copyOvers_159 (by decide) ?_
              refine lv_goto (tgt := 186) hx hb dX9_copyOvers_160 (by decide) ?_
              exact J49 0 (by rw [X9_copyOvers0_x7, if_pos c47]) _ _ _ G (lv_sub hl [0, 1, 2, 3, 4, 5, 6] rfl)
            · refine lv_iconst (v := 1) hx hb dX9_copyOvers_155 (by decide) ?_
              refine lv_goto (tgt := 186) hx hb dX9_copyOvers_156 (by decide) ?_
              exact J49 1 (by rw [X9_copyOvers0_x7, if_neg c47]) _ _ _ G (lv_sub hl [0, 1, 2, 3, 4, 5, 6] rfl)
    exact LOOP101 (cn + 1) 0 f20 _ _ _ (by omega) (by omega)  (by rw [cpo_0]; exact k23) (by rw [cpoF_0]; exact k24) (fun a9 e9 h7 h8 => h8) G (lv_sub hl [0, 1, 2, 3, 4] rfl)
  refine lv_if_eq (tgt := 32) hx hb dX9_copyOvers_20 (by decide) (fun c15 => ?_) (fun c15 => ?_)
  · refine lv_iconst (v := 2) hx hb dX9_copyOvers_32 (by decide) ?_
    refine lv_goto (tgt := 84) hx hb dX9_copyOvers_33 (by decide) ?_
    exact J17 2 (by rw [X9_copyOvers0_n5, if_pos c15] <;> rfl) _ _ _ G (lv_sub hl [0, 1, 2] rfl)
  · refine lv_aload_n hx hb dX9_copyOvers_23 rfl (lv_at hl 0 rfl) ?_
    refine g_get C0 G h_m rfl hiX9 18 (by decide) mf_X9_42 rfl dX9_copyOvers_24 ?_
    refine lv_iconst (v := 1) hx hb dX9_copyOvers_27 (by decide) ?_
    refine g_iald C0 G h_so 0 rfl (by unfold vp_in; decide) dX9_copyOvers_28 ?_
    refine lv_topv (v := gs 1) rfl ?_
    have J53 : ∀ (y52 : Int32) (_ : y52 = nI (X9_copyOvers0_n4 gs gm cn)) (H : Heap) (locs : List Loc) (ls : Array Slot), hG D (hA f sz) f s9 H locs → lv_has ls 7 [(0, .ref m), (1, .int 0), (2, .int (nI cn))] → W p9 l e9 ({ frames := 1, cells := 0, slots := 0, locals := 22 } : Room) s9 m9 ([.ref m, .int 0, .int (nI cn)] : List Value).toArray b9 t9 c9 H locs 0 0 (vx_MQ b9 (hQi (fun r u => r = (X9_copyOvers0_r9 gs gw gf cn) ∧ u m = some (.inr (11, [.int (nI (X9_copyOvers0_n5 gs gm cn)), .int c_re, .ref v, .ref im, .ref kp, .ref pa, .ref de, .ref ide, .int c_un, .int c_hi, .ref tx, .int c_tn, .int c_fa, .int c_rf, .ref pt, .int c_ps, .int c_pl, .int c_to, .ref so, .ref mo, .ref wh, .ref pf])) ∧ u wh = some (.inl (cy 0, 42, .inl (X9_copyOvers0_g10 gw cn))) ∧ u pf = some (.inl (cy 2, 42, .inr (.inr (.inl (X9_copyOvers0_g11 gf cn))))) ∧ hFrL f u [m, wh, pf]) D f sz) (hPx hNo D f sz) ([.ref m, .int 0, .int (nI cn)] : List Value).toArray s9 0 0 (hA f sz)) (F0 m9 84 ls [.int y52, .ref m]) := by
      intro y52 ey52 H locs ls G hl
      replace ey52 := Eq.symm ey52
      subst ey52
      have bd55 : (X9_copyOvers0_n4 gs gm cn) ≤ 4 := by unfold X9_copyOvers0_n4 X9_copyOvers0_n3 X9_copyOvers0_n2 X9_copyOvers0_n1 X9_copyOvers0_n0; repeat (first | omega | split)
      exact J17 (nI (X9_copyOvers0_n4 gs gm cn)) (by rw [X9_copyOvers0_n5, if_neg c15] <;> rfl) _ _ _ G (lv_sub hl [0, 1, 2] rfl)
    refine lv_if_ne (tgt := 36) hx hb dX9_copyOvers_29 (by decide) (fun c51 => ?_) (fun c51 => ?_)
    · refine lv_aload_n hx hb dX9_copyOvers_36 rfl (lv_at hl 0 rfl) ?_
      refine g_get C0 G h_m rfl hiX9 18 (by decide) mf_X9_42 rfl dX9_copyOvers_37 ?_
      refine lv_iconst (v := 0) hx hb dX9_copyOvers_40 (by decide) ?_
      refine g_iald C0 G h_so 0 rfl (by unfold vp_in; decide) dX9_copyOvers_41 ?_
      refine lv_topv (v := gs 0) rfl ?_
      refine lv_aload_n hx hb dX9_copyOvers_42 rfl (lv_at hl 0 rfl) ?_
      refine g_get C0 G h_m rfl hiX9 18 (by decide) mf_X9_42 rfl dX9_copyOvers_43 ?_
      refine lv_iconst (v := 1) hx hb dX9_copyOvers_46 (by decide) ?_
      refine g_iald C0 G h_so 0 rfl (by unfold vp_in; decide) dX9_copyOvers_47 ?_
      refine lv_topv (v := gs 1) rfl ?_
      have J58 : ∀ (y57 : Int32) (_ : y57 = nI (X9_copyOvers0_n3 gs gm cn)) (H : Heap) (locs : List Loc) (ls : Array Slot), hG D (hA f sz) f s9 H locs → lv_has ls 7 [(0, .ref m), (1, .int 0), (2, .int (nI cn))] → W p9 l e9 ({ frames := 1, cells := 0, slots := 0, locals := 22 } : Room) s9 m9 ([.ref m, .int 0, .int (nI cn)] : List Value).toArray b9 t9 c9 H locs 0 0 (vx_MQ b9 (hQi (fun r u => r = (X9_copyOvers0_r9 gs gw gf cn) ∧ u m = some (.inr (11, [.int (nI (X9_copyOvers0_n5 gs gm cn)), .int c_re, .ref v, .ref im, .ref kp, .ref pa, .ref de, .ref ide, .int c_un, .int c_hi, .ref tx, .int c_tn, .int c_fa, .int c_rf, .ref pt, .int c_ps, .int c_pl, .int c_to, .ref so, .ref mo, .ref wh, .ref pf])) ∧ u wh = some (.inl (cy 0, 42, .inl (X9_copyOvers0_g10 gw cn))) ∧ u pf = some (.inl (cy 2, 42, .inr (.inr (.inl (X9_copyOvers0_g11 gf cn))))) ∧ hFrL f u [m, wh, pf]) D f sz) (hPx hNo D f sz) ([.ref m, .int 0, .int (nI cn)] : List Value).toArray s9 0 0 (hA f sz)) (F0 m9 84 ls [.int y57, .ref m]) := by
        intro y57 ey57 H locs ls G hl
        replace ey57 := Eq.symm ey57
        subst ey57
        have bd60 : (X9_copyOvers0_n3 gs gm cn) ≤ 4 := by unfold X9_copyOvers0_n3 X9_copyOvers0_n2 X9_copyOvers0_n1 X9_copyOvers0_n0; repeat (first | omega | split)
        exact J53 (nI (X9_copyOvers0_n3 gs gm cn)) (by rw [X9_copyOvers0_n4, if_neg c51] <;> rfl) _ _ _ G (lv_sub hl [0, 1, 2] rfl)
      refine lv_icmp_eq (tgt := 55) hx hb dX9_copyOvers_48 (by decide) (fun c56 => ?_) (fun c56 => ?_)
      · refine lv_iload_n hx hb dX9_copyOvers_55 rfl (lv_at hl 2 rfl) ?_
        have J63 : ∀ (y62 : Int32) (_ : y62 = nI (X9_copyOvers0_n2 gm cn)) (H : Heap) (locs : List Loc) (ls : Array Slot), hG D (hA f sz) f s9 H locs → lv_has ls 7 [(0, .ref m), (1, .int 0), (2, .int (nI cn))] → W p9 l e9 ({ frames := 1, cells := 0, slots := 0, locals := 22 } : Room) s9 m9 ([.ref m, .int 0, .int (nI cn)] : List Value).toArray b9 t9 c9 H locs 0 0 (vx_MQ b9 (hQi (fun r u => r = (X9_copyOvers0_r9 gs gw gf cn) ∧ u m = some (.inr (11, [.int (nI (X9_copyOvers0_n5 gs gm cn)), .int c_re, .ref v, .ref im, .ref kp, .ref pa, .ref de, .ref ide, .int c_un, .int c_hi, .ref tx, .int c_tn, .int c_fa, .int c_rf, .ref pt, .int c_ps, .int c_pl, .int c_to, .ref so, .ref mo, .ref wh, .ref pf])) ∧ u wh = some (.inl (cy 0, 42, .inl (X9_copyOvers0_g10 gw cn))) ∧ u pf = some (.inl (cy 2, 42, .inr (.inr (.inl (X9_copyOvers0_g11 gf cn))))) ∧ hFrL f u [m, wh, pf]) D f sz) (hPx hNo D f sz) ([.ref m, .int 0, .int (nI cn)] : List Value).toArray s9 0 0 (hA f sz)) (F0 m9 84 ls [.int y62, .ref m]) := by
          intro y62 ey62 H locs ls G hl
          replace ey62 := Eq.symm ey62
          subst ey62
          have bd65 : (X9_copyOvers0_n2 gm cn) ≤ 4 := by unfold X9_copyOvers0_n2 X9_copyOvers0_n1 X9_copyOvers0_n0; repeat (first | omega | split)
          exact J58 (nI (X9_copyOvers0_n2 gm cn)) (by rw [X9_copyOvers0_n3, if_pos c56] <;> rfl) _ _ _ G (lv_sub hl [0, 1, 2] rfl)
        refine lv_if_lt (tgt := 79) hx hb dX9_copyOvers_56 (by decide) (fun c61 => ?_) (fun c61 => ?_)
        · have n66 : cn < 0 := (nI_ltI (a := cn) (b := 0) (by omega) (by omega)).mp c61
          refine lv_iconst (v := 4) hx hb dX9_copyOvers_79 (by decide) ?_
          refine lv_goto (tgt := 84) hx hb dX9_copyOvers_80 (by decide) ?_
          exact J63 4 (by rw [X9_copyOvers0_n2, if_pos c61] <;> rfl) _ _ _ G (lv_sub hl [0, 1, 2] rfl)
        · have n67 : ¬ cn < 0 := fun q => c61 ((nI_ltI (a := cn) (b := 0) (by omega) (by omega)).mpr q)
          refine lv_iload_n hx hb dX9_copyOvers_59 rfl (lv_at hl 2 rfl) ?_
          refine lv_aload_n hx hb dX9_copyOvers_60 rfl (lv_at hl 0 rfl) ?_
          refine g_get C0 G h_m rfl hiX9 19 (by decide) mf_X9_45 rfl dX9_copyOvers_61 ?_
          refine lv_iconst (v := 0) hx hb dX9_copyOvers_64 (by decide) ?_
          refine g_iald C0 G h_mo 0 rfl (by unfold vp_in; decide) dX9_copyOvers_65 ?_
          refine lv_topv (v := gm 0) rfl ?_
          have J70 : ∀ (y69 : Int32) (_ : y69 = nI (X9_copyOvers0_n1 gm cn)) (H : Heap) (locs : List Loc) (ls : Array Slot), hG D (hA f sz) f s9 H locs → lv_has ls 7 [(0, .ref m), (1, .int 0), (2, .int (nI cn))] → W p9 l e9 ({ frames := 1, cells := 0, slots := 0, locals := 22 } : Room) s9 m9 ([.ref m, .int 0, .int (nI cn)] : List Value).toArray b9 t9 c9 H locs 0 0 (vx_MQ b9 (hQi (fun r u => r = (X9_copyOvers0_r9 gs gw gf cn) ∧ u m = some (.inr (11, [.int (nI (X9_copyOvers0_n5 gs gm cn)), .int c_re, .ref v, .ref im, .ref kp, .ref pa, .ref de, .ref ide, .int c_un, .int c_hi, .ref tx, .int c_tn, .int c_fa, .int c_rf, .ref pt, .int c_ps, .int c_pl, .int c_to, .ref so, .ref mo, .ref wh, .ref pf])) ∧ u wh = some (.inl (cy 0, 42, .inl (X9_copyOvers0_g10 gw cn))) ∧ u pf = some (.inl (cy 2, 42, .inr (.inr (.inl (X9_copyOvers0_g11 gf cn))))) ∧ hFrL f u [m, wh, pf]) D f sz) (hPx hNo D f sz) ([.ref m, .int 0, .int (nI cn)] : List Value).toArray s9 0 0 (hA f sz)) (F0 m9 84 ls [.int y69, .ref m]) := by
            intro y69 ey69 H locs ls G hl
            replace ey69 := Eq.symm ey69
            subst ey69
            have bd72 : (X9_copyOvers0_n1 gm cn) ≤ 4 := by unfold X9_copyOvers0_n1 X9_copyOvers0_n0; repeat (first | omega | split)
            exact J63 (nI (X9_copyOvers0_n1 gm cn)) (by rw [X9_copyOvers0_n2, if_neg c61] <;> rfl) _ _ _ G (lv_sub hl [0, 1, 2] rfl)
          refine lv_icmp_gt (tgt := 79) hx hb dX9_copyOvers_66 (by decide) (fun c68 => ?_) (fun c68 => ?_)
          · refine lv_iconst (v := 4) hx hb dX9_copyOvers_79 (by decide) ?_
            refine lv_goto (tgt := 84) hx hb dX9_copyOvers_80 (by decide) ?_
            exact J70 4 (by rw [X9_copyOvers0_n1, if_pos c68] <;> rfl) _ _ _ G (lv_sub hl [0, 1, 2] rfl)
          · refine lv_iload_n hx hb dX9_copyOvers_69 rfl (lv_at hl 2 rfl) ?_
            refine lv_aload_n hx hb dX9_copyOvers_70 rfl (lv_at hl 0 rfl) ?_
            refine g_get C0 G h_m rfl hiX9 19 (by decide) mf_X9_45 rfl dX9_copyOvers_71 ?_
            refine lv_iconst (v := 1) hx hb dX9_copyOvers_74 (by decide) ?_
            refine g_iald C0 G h_mo 0 rfl (by unfold vp_in; decide) dX9_copyOvers_75 ?_
            refine lv_topv (v := gm 1) rfl ?_
            have J75 : ∀ (y74 : Int32) (_ : y74 = nI (X9_copyOvers0_n0 gm cn)) (H : Heap) (locs : List Loc) (ls : Array Slot), hG D (hA f sz) f s9 H locs → lv_has ls 7 [(0, .ref m), (1, .int 0), (2, .int (nI cn))] → W p9 l e9 ({ frames := 1, cells := 0, slots := 0, locals := 22 } : Room) s9 m9 ([.ref m, .int 0, .int (nI cn)] : List Value).toArray b9 t9 c9 H locs 0 0 (vx_MQ b9 (hQi (fun r u => r = (X9_copyOvers0_r9 gs gw gf cn) ∧ u m = some (.inr (11, [.int (nI (X9_copyOvers0_n5 gs gm cn)), .int c_re, .ref v, .ref im, .ref kp, .ref pa, .ref de, .ref ide, .int c_un, .int c_hi, .ref tx, .int c_tn, .int c_fa, .int c_rf, .ref pt, .int c_ps, .int c_pl, .int c_to, .ref so, .ref mo, .ref wh, .ref pf])) ∧ u wh = some (.inl (cy 0, 42, .inl (X9_copyOvers0_g10 gw cn))) ∧ u pf = some (.inl (cy 2, 42, .inr (.inr (.inl (X9_copyOvers0_g11 gf cn))))) ∧ hFrL f u [m, wh, pf]) D f sz) (hPx hNo D f sz) ([.ref m, .int 0, .int (nI cn)] : List Value).toArray s9 0 0 (hA f sz)) (F0 m9 84 ls [.int y74, .ref m]) := by
              intro y74 ey74 H locs ls G hl
              replace ey74 := Eq.symm ey74
              subst ey74
              have bd77 : (X9_copyOvers0_n0 gm cn) ≤ 4 := by unfold X9_copyOvers0_n0; repeat (first | omega | split)
              exact J70 (nI (X9_copyOvers0_n0 gm cn)) (by rw [X9_copyOvers0_n1, if_neg c68] <;> rfl) _ _ _ G (lv_sub hl [0, 1, 2] rfl)
            refine lv_icmp_le (tgt := 83) hx hb dX9_copyOvers_76 (by decide) (fun c73 => ?_) (fun c73 => ?_)
            · refine lv_iconst (v := 0) hx hb dX9_copyOvers_83 (by decide) ?_
              exact J75 0 (by rw [X9_copyOvers0_n0, if_pos c73] <;> rfl) _ _ _ G (lv_sub hl [0, 1, 2] rfl)
            · refine lv_iconst (v := 4) hx hb dX9_copyOvers_79 (by decide) ?_
              refine lv_goto (tgt := 84) hx hb dX9_copyOvers_80 (by decide) ?_
              exact J75 4 (by rw [X9_copyOvers0_n0, if_neg c73] <;> rfl) _ _ _ G (lv_sub hl [0, 1, 2] rfl)
      · refine lv_iconst (v := 3) hx hb dX9_copyOvers_51 (by decide) ?_
        refine lv_goto (tgt := 84) hx hb dX9_copyOvers_52 (by decide) ?_
        exact J58 3 (by rw [X9_copyOvers0_n3, if_neg c56] <;> rfl) _ _ _ G (lv_sub hl [0, 1, 2] rfl)
    · refine lv_iconst (v := 2) hx hb dX9_copyOvers_32 (by decide) ?_
      refine lv_goto (tgt := 84) hx hb dX9_copyOvers_33 (by decide) ?_
      exact J53 2 (by rw [X9_copyOvers0_n4, if_pos c51] <;> rfl) _ _ _ G (lv_sub hl [0, 1, 2] rfl)
theorem b_k_X9_copyOvers0 (gs : Nat → Int32) (gw : Nat → Int32) (gf : Nat → UInt32) (cn : Nat) : (X9_copyOvers0_r9 gs gw gf cn) = 0 ∨ (X9_copyOvers0_r9 gs gw gf cn) = 1 := (by unfold X9_copyOvers0_r9; exact (cvC_b _ _ _ _ _ _))
def X9_copyOvers1_n0 (gm : Nat → Int32) (cn : Nat) : Nat := if (nI cn) ≤ (gm 1) then 0 else 4
def X9_copyOvers1_n1 (gm : Nat → Int32) (cn : Nat) : Nat := if (gm 0) < (nI cn) then 4 else (X9_copyOvers1_n0 gm cn)
def X9_copyOvers1_n2 (gm : Nat → Int32) (cn : Nat) : Nat := if (nI cn) < 0 then 4 else (X9_copyOvers1_n1 gm cn)
def X9_copyOvers1_n3 (gs : Nat → Int32) (gm : Nat → Int32) (cn : Nat) : Nat := if (gs 0) = (gs 1) then (X9_copyOvers1_n2 gm cn) else 3
def X9_copyOvers1_n4 (gs : Nat → Int32) (gm : Nat → Int32) (cn : Nat) : Nat := if (gs 1) = 0 then 2 else (X9_copyOvers1_n3 gs gm cn)
def X9_copyOvers1_n5 (gs : Nat → Int32) (gm : Nat → Int32) (cn : Nat) : Nat := if (gs 0) = 0 then 2 else (X9_copyOvers1_n4 gs gm cn)
def X9_copyOvers1_x6 (gf : Nat → UInt32) (jj : Nat) : Int32 := if (Op.cmpValue (FP.fcmp (gf (21 + jj)) (gf (0 + jj))) .l) = 0 then 0 else 1
def X9_copyOvers1_x7 (gw : Nat → Int32) (jj : Nat) : Int32 := if (gw (21 + jj)) = (gw (0 + jj)) then 0 else 1
def X9_copyOvers1_x8 (gs : Nat → Int32) (gw : Nat → Int32) (gf : Nat → UInt32) (jj : Nat) : Int32 := if (gs 0) = 1 then (X9_copyOvers1_x7 gw jj) else (X9_copyOvers1_x6 gf jj)
def X9_copyOvers1_r9 (gs : Nat → Int32) (gw : Nat → Int32) (gf : Nat → UInt32) (cn : Nat) : Int32 := (cvC (gs 0) gw gf 21 0 cn)
def X9_copyOvers1_g10 (gw : Nat → Int32) (cn : Nat) : Nat → Int32 := cpo gw 0 (fun k => gw (21 + k)) cn
def X9_copyOvers1_g11 (gf : Nat → UInt32) (cn : Nat) : Nat → UInt32 := cpoF gf 0 (fun k => gf (21 + k)) cn
set_option maxRecDepth 100000 in
theorem k_X9_copyOvers1 {l : Launch} (hfl : l.stackTraces = false) {D : va_G} {cy : Nat → ClassId} {f : Hf} {sz : Nat} {m : Nat} {v : Nat} {im : Nat} {kp : Nat} {pa : Nat} {de : Nat} {ide : Nat} {tx : Nat} {pt : Nat} {so : Nat} {mo : Nat} {wh : Nat} {pf : Nat} {c_th : Int32} {c_re : Int32} {c_un : Int32} {c_hi : Int32} {c_tn : Int32} {c_fa : Int32} {c_rf : Int32} {c_ps : Int32} {c_pl : Int32} {c_to : Int32} {gs : Nat → Int32} {gm : Nat → Int32} {gw : Nat → Int32} {gf : Nat → UInt32} {ct : Int32} {cn : Nat} (h_m : f m = some (.inr (11, [.int c_th, .int c_re, .ref v, .ref im, .ref kp, .ref pa, .ref de, .ref ide, .int c_un, .int c_hi, .ref tx, .int c_tn, .int c_fa, .int c_rf, .ref pt, .int c_ps, .int c_pl, .int c_to, .ref so, .ref mo, .ref wh, .ref pf]))) (h_so : f so = some (.inl (cy 0, 2, .inl gs))) (h_mo : f mo = some (.inl (cy 0, 2, .inl gm))) (h_wh : f wh = some (.inl (cy 0, 42, .inl gw))) (h_pf : f pf = some (.inl (cy 2, 42, .inr (.inr (.inl gf))))) (hcn : cn < 21) (hgo : (nI (X9_copyOvers1_n5 gs gm cn)) ≤ 0) : hMet l yX9_copyOvers cX9_copyOvers 7 (some .boolean) { frames := 1, cells := 0, slots := 0, locals := 22 } D (hTy cy) f sz [.ref m, .int 1, .int (nI cn)] (hQi (fun r u => r = (X9_copyOvers1_r9 gs gw gf cn) ∧ u m = some (.inr (11, [.int (nI (X9_copyOvers1_n5 gs gm cn)), .int c_re, .ref v, .ref im, .ref kp, .ref pa, .ref de, .ref ide, .int c_un, .int c_hi, .ref tx, .int c_tn, .int c_fa, .int c_rf, .ref pt, .int c_ps, .int c_pl, .int c_to, .ref so, .ref mo, .ref wh, .ref pf])) ∧ u wh = some (.inl (cy 0, 42, .inl (X9_copyOvers1_g10 gw cn))) ∧ u pf = some (.inl (cy 2, 42, .inr (.inr (.inl (X9_copyOvers1_g11 gf cn))))) ∧ hFrL f u [m, wh, pf]) D f sz) hNo := by
  refine h_enter (by decide) hfl (Nat.le_of_ble_eq_true rfl) ?_
  intro p9 e9 s9 m9 b9 t9 c9 hsz C0 hr hnm G ls hl
  have hx := C0.1.1
  have hb := C0.1.2.1
  have hl : lv_has ls 7 [(0, .ref m), (1, .int 1), (2, .int (nI cn))] := hl
  refine lv_aload_n hx hb dX9_copyOvers_0 rfl (lv_at hl 0 rfl) ?_
  refine lv_iload_n hx hb dX9_copyOvers_1 rfl (lv_at hl 1 rfl) ?_
  refine lv_iconst (v := 0) hx hb dX9_copyOvers_2 (by decide) ?_
  refine lv_iconst (v := 1) hx hb dX9_copyOvers_3 (by decide) ?_
  refine g_cI C0 G (g_runS C0 G (rest := [.ref m]) (k_X9_isIn hfl 1 0 1 ) hY_X9_isIn mm_X9_76 ms_X9_isIn ⟨(Nat.le_of_ble_eq_true rfl), (Nat.le_of_ble_eq_true rfl)⟩ rfl hl.1 rfl (Nat.le_of_ble_eq_true rfl) dX9_copyOvers_4 ⟨(Nat.le_of_ble_eq_true rfl), (Nat.le_of_ble_eq_true rfl)⟩) (kx_no rfl) (fun r13 u12 H locs hp11 G => ?_)
  obtain ⟨zr, eu12⟩ := hp11
  replace zr := Eq.symm zr
  subst zr
  rw [eu12] at G
  refine lv_topv (v := 1) (by decide) ?_
  refine lv_if_ne (tgt := 14) hx hb dX9_copyOvers_7 (by decide) (fun _ => ?_) (fun c14 => absurd c14 (by decide))
  refine lv_aload_n hx hb dX9_copyOvers_14 rfl (lv_at hl 0 rfl) ?_
  refine g_get C0 G h_m rfl hiX9 18 (by decide) mf_X9_42 rfl dX9_copyOvers_15 ?_
  refine lv_iconst (v := 0) hx hb dX9_copyOvers_18 (by decide) ?_
  refine g_iald C0 G h_so 0 rfl (by unfold vp_in; decide) dX9_copyOvers_19 ?_
  refine lv_topv (v := gs 0) rfl ?_
  have J17 : ∀ (y16 : Int32) (_ : y16 = nI (X9_copyOvers1_n5 gs gm cn)) (H : Heap) (locs : List Loc) (ls : Array Slot), hG D (hA f sz) f s9 H locs → lv_has ls 7 [(0, .ref m), (1, .int 1), (2, .int (nI cn))] → W p9 l e9 ({ frames := 1, cells := 0, slots := 0, locals := 22 } : Room) s9 m9 ([.ref m, .int 1, .int (nI cn)] : List Value).toArray b9 t9 c9 H locs 0 0 (vx_MQ b9 (hQi (fun r u => r = (X9_copyOvers1_r9 gs gw gf cn) ∧ u m = some (.inr (11, [.int (nI (X9_copyOvers1_n5 gs gm cn)), .int c_re, .ref v, .ref im, .ref kp, .ref pa, .ref de, .ref ide, .int c_un, .int c_hi, .ref tx, .int c_tn, .int c_fa, .int c_rf, .ref pt, .int c_ps, .int c_pl, .int c_to, .ref so, .ref mo, .ref wh, .ref pf])) ∧ u wh = some (.inl (cy 0, 42, .inl (X9_copyOvers1_g10 gw cn))) ∧ u pf = some (.inl (cy 2, 42, .inr (.inr (.inl (X9_copyOvers1_g11 gf cn))))) ∧ hFrL f u [m, wh, pf]) D f sz) (hPx hNo D f sz) ([.ref m, .int 1, .int (nI cn)] : List Value).toArray s9 0 0 (hA f sz)) (F0 m9 84 ls [.int y16, .ref m]) := by
    intro y16 ey16 H locs ls G hl
    replace ey16 := Eq.symm ey16
    subst ey16
    have bd19 : (X9_copyOvers1_n5 gs gm cn) ≤ 4 := by unfold X9_copyOvers1_n5 X9_copyOvers1_n4 X9_copyOvers1_n3 X9_copyOvers1_n2 X9_copyOvers1_n1 X9_copyOvers1_n0; repeat (first | omega | split)
    refine g_put C0 G h_m rfl hiX9 tyX9 tyX9_ok nmX9 0 (by decide) mf_X9_55 rfl rfl rfl rfl (Nat.le_of_ble_eq_true rfl) dX9_copyOvers_84 (fun H locs f20 hf20 G => ?_)
    have k21 : f20 m = some (.inr (11, [.int (nI (X9_copyOvers1_n5 gs gm cn)), .int c_re, .ref v, .ref im, .ref kp, .ref pa, .ref de, .ref ide, .int c_un, .int c_hi, .ref tx, .int c_tn, .int c_fa, .int c_rf, .ref pt, .int c_ps, .int c_pl, .int c_to, .ref so, .ref mo, .ref wh, .ref pf])) := hus hf20
    refine lv_aload_n hx hb dX9_copyOvers_87 rfl (lv_at hl 0 rfl) ?_
    refine g_get C0 G k21 rfl hiX9 0 (by decide) mf_X9_55 rfl dX9_copyOvers_88 ?_
    refine lv_if_le (tgt := 96) hx hb dX9_copyOvers_91 (by decide) (fun _ => ?_) (fun c22 => absurd (hgo) c22)
    refine lv_iconst (v := 0) hx hb dX9_copyOvers_96 (by decide) ?_
    refine lv_istore_n (lv' := [(3, .int 0), (0, .ref m), (1, .int 1), (2, .int (nI cn))]) hx hb dX9_copyOvers_97 rfl hl (by decide) rfl (fun ls hl => ?_)
    refine lv_iconst (v := 0) hx hb dX9_copyOvers_98 (by decide) ?_
    refine lv_istore (lv' := [(4, .int 0), (3, .int 0), (0, .ref m), (1, .int 1), (2, .int (nI cn))]) hx hb dX9_copyOvers_99 hl (by decide) rfl (fun ls hl => ?_)
    have k23 : f20 wh = some (.inl (cy 0, 42, .inl gw)) := hup hf20 (hne h_wh h_m (by intro q; cases q)) h_wh
    have k24 : f20 pf = some (.inl (cy 2, 42, .inr (.inr (.inl gf)))) := hup hf20 (hne h_pf h_m (by intro q; first | (cases q; done) | (simp at q; done))) h_pf
    refine W.widen (k := 0) (n := 0) (Nat.le_of_ble_eq_true rfl) (Nat.le_of_ble_eq_true rfl) ?_
    have LOOP101 : ∀ (k : Nat) (jj : Nat) (f1 : Hf) (H : Heap) (locs : List Loc) (ls : Array Slot), (jj ≤ cn) → (cn - jj < k) → f1 wh = some (.inl (cy 0, 42, .inl (cpo gw 0 (fun k => gw (21 + k)) jj))) → f1 pf = some (.inl (cy 2, 42, .inr (.inr (.inl (cpoF gf 0 (fun k => gf (21 + k)) jj))))) → hFrL f20 f1 [wh, pf] → hG D (hA f sz) f1 s9 H locs → lv_has ls 7 [(4, .int (nI jj)), (3, .int (cvC (gs 0) gw gf 21 0 jj)), (0, .ref m), (1, .int 1), (2, .int (nI cn))] → W p9 l e9 ({ frames := 1, cells := 0, slots := 0, locals := 22 } : Room) s9 m9 ([.ref m, .int 1, .int (nI cn)] : List Value).toArray b9 t9 c9 H locs 0 0 (vx_MQ b9 (hQi (fun r u => r = (X9_copyOvers1_r9 gs gw gf cn) ∧ u m = some (.inr (11, [.int (nI (X9_copyOvers1_n5 gs gm cn)), .int c_re, .ref v, .ref im, .ref kp, .ref pa, .ref de, .ref ide, .int c_un, .int c_hi, .ref tx, .int c_tn, .int c_fa, .int c_rf, .ref pt, .int c_ps, .int c_pl, .int c_to, .ref so, .ref mo, .ref wh, .ref pf])) ∧ u wh = some (.inl (cy 0, 42, .inl (X9_copyOvers1_g10 gw cn))) ∧ u pf = some (.inl (cy 2, 42, .inr (.inr (.inl (X9_copyOvers1_g11 gf cn))))) ∧ hFrL f u [m, wh, pf]) D f sz) (hPx hNo D f sz) ([.ref m, .int 1, .int (nI cn)] : List Value).toArray s9 0 0 (hA f sz)) (F0 m9 101 ls []) := by
      intro k
      induction k with
      | zero =>
        intro jj f1 H locs ls hi2 hk h_wh1 h_pf1 hfr G hl
        exact absurd hk (by omega)
      | succ k ih =>
        intro jj f1 H locs ls hi2 hk h_wh1 h_pf1 hfr G hl
        refine lv_iload hx hb dX9_copyOvers_101 (lv_at hl 0 rfl) ?_
        refine lv_iload_n hx hb dX9_copyOvers_103 rfl (lv_at hl 4 rfl) ?_
        refine lv_icmp_ge (tgt := 222) hx hb dX9_copyOvers_104 (by decide) (fun c25 => ?_) (fun c25 => ?_)
        · have n26 : cn ≤ jj := (nI_leI (a := cn) (b := jj) (by omega) (by omega)).mp c25
          have hi9 : cn = jj := by omega
          subst hi9
          refine lv_iload_n hx hb dX9_copyOvers_222 rfl (lv_at hl 1 rfl) ?_
          have k27 : f1 m = some (.inr (11, [.int (nI (X9_copyOvers1_n5 gs gm cn)), .int c_re, .ref v, .ref im, .ref kp, .ref pa, .ref de, .ref ide, .int c_un, .int c_hi, .ref tx, .int c_tn, .int c_fa, .int c_rf, .ref pt, .int c_ps, .int c_pl, .int c_to, .ref so, .ref mo, .ref wh, .ref pf])) := hfr _ _ (by simp only [List.mem_cons, List.not_mem_nil, or_false]; intro q; rcases q with q | q; exact (hne k21 k23 (by intro q; cases q)) q; exact (hne k21 k24 (by intro q; first | (cases q; done) | (simp at q; done))) q) k21
          exact g_zret C0 G hr dX9_copyOvers_223 (hZb (cvC_b _ _ _ _ _ _)) (Nat.le_of_ble_eq_true rfl) (Nat.le_of_ble_eq_true rfl) (by exact ⟨(by rw [X9_copyOvers1_r9]), k27, (by rw [(by rw [X9_copyOvers1_g10] : (X9_copyOvers1_g10 gw cn) = (cpo gw 0 (fun k => gw (21 + k)) cn))]; exact h_wh1), (by rw [(by rw [X9_copyOvers1_g11] : (X9_copyOvers1_g11 gf cn) = (cpoF gf 0 (fun k => gf (21 + k)) cn))]; exact h_pf1), (fun a9 e9 h7 h8 => hfr _ _ (fun q => h7 (by simp only [List.mem_cons, List.not_mem_nil, or_false] at q ⊢; first | exact q | (rcases q with q | q <;> simp [q]) | omega)) (hup hf20 (fun q => h7 (by rw [q]; simp)) (h8)))⟩)
        · have n28 : ¬ cn ≤ jj := fun q => c25 ((nI_leI (a := cn) (b := jj) (by omega) (by omega)).mpr q)
          refine lv_bipush (v := 21) hx hb dX9_copyOvers_107 (by decide) ?_
          refine lv_iload_n hx hb dX9_copyOvers_109 rfl (lv_at hl 3 rfl) ?_
          refine lv_imul hx hb dX9_copyOvers_110 ?_
          refine lv_topv (v := 21) (by decide) ?_
          refine lv_iload hx hb dX9_copyOvers_111 (lv_at hl 0 rfl) ?_
          refine lv_iadd hx hb dX9_copyOvers_113 ?_
          refine lv_topv (v := nI (21 + jj)) ((nI_add _ _)) ?_
          refine lv_istore (lv' := [(5, .int (nI (21 + jj))), (4, .int (nI jj)), (3, .int (cvC (gs 0) gw gf 21 0 jj)), (0, .ref m), (1, .int 1), (2, .int (nI cn))]) hx hb dX9_copyOvers_114 hl (by decide) rfl (fun ls hl => ?_)
          refine lv_bipush (v := 21) hx hb dX9_copyOvers_116 (by decide) ?_
          refine lv_iconst (v := 1) hx hb dX9_copyOvers_118 (by decide) ?_
          refine lv_iload_n hx hb dX9_copyOvers_119 rfl (lv_at hl 4 rfl) ?_
          refine lv_isub hx hb dX9_copyOvers_120 ?_
          refine lv_topv (v := 0) (by decide) ?_
          refine lv_imul hx hb dX9_copyOvers_121 ?_
          refine lv_topv (v := 0) (by decide) ?_
          refine lv_iload hx hb dX9_copyOvers_122 (lv_at hl 1 rfl) ?_
          refine lv_iadd hx hb dX9_copyOvers_124 ?_
          refine lv_topv (v := nI (0 + jj)) ((nI_add _ _)) ?_
          refine lv_istore (lv' := [(6, .int (nI (0 + jj))), (5, .int (nI (21 + jj))), (4, .int (nI jj)), (3, .int (cvC (gs 0) gw gf 21 0 jj)), (0, .ref m), (1, .int 1), (2, .int (nI cn))]) hx hb dX9_copyOvers_125 hl (by decide) rfl (fun ls hl => ?_)
          refine lv_iload_n hx hb dX9_copyOvers_127 rfl (lv_at hl 3 rfl) ?_
          refine lv_aload_n hx hb dX9_copyOvers_128 rfl (lv_at hl 4 rfl) ?_
          have k29 : f1 m = some (.inr (11, [.int (nI (X9_copyOvers1_n5 gs gm cn)), .int c_re, .ref v, .ref im, .ref kp, .ref pa, .ref de, .ref ide, .int c_un, .int c_hi, .ref tx, .int c_tn, .int c_fa, .int c_rf, .ref pt, .int c_ps, .int c_pl, .int c_to, .ref so, .ref mo, .ref wh, .ref pf])) := hfr _ _ (by simp only [List.mem_cons, List.not_mem_nil, or_false]; intro q; rcases q with q | q; exact (hne k21 k23 (by intro q; cases q)) q; exact (hne k21 k24 (by intro q; first | (cases q; done) | (simp at q; done))) q) k21
          refine g_get C0 G k29 rfl hiX9 18 (by decide) mf_X9_42 rfl dX9_copyOvers_129 ?_
          refine lv_iconst (v := 0) hx hb dX9_copyOvers_132 (by decide) ?_
          have k30 : f1 so = some (.inl (cy 0, 2, .inl gs)) := hfr _ _ (by simp only [List.mem_cons, List.not_mem_nil, or_false]; intro q; rcases q with q | q; exact (hne (hup hf20 (hne h_so h_m (by intro q; cases q)) h_so) k23 (by intro q; cases q)) q; exact (hne (hup hf20 (hne h_so h_m (by intro q; cases q)) h_so) k24 (by intro q; first | (cases q; done) | (simp at q; done))) q) (hup hf20 (hne h_so h_m (by intro q; cases q)) h_so)
          refine g_iald C0 G k30 0 rfl (by unfold vp_in; decide) dX9_copyOvers_133 ?_
          refine lv_topv (v := gs 0) rfl ?_
          refine lv_iconst (v := 1) hx hb dX9_copyOvers_134 (by decide) ?_
          have J33 : ∀ (y32 : Int32) (_ : y32 = (X9_copyOvers1_x8 gs gw gf jj)) (H : Heap) (locs : List Loc) (ls : Array Slot), hG D (hA f sz) f1 s9 H locs → lv_has ls 7 [(6, .int (nI (0 + jj))), (5, .int (nI (21 + jj))), (4, .int (nI jj)), (3, .int (cvC (gs 0) gw gf 21 0 jj)), (0, .ref m), (1, .int 1), (2, .int (nI cn))] → W p9 l e9 ({ frames := 1, cells := 0, slots := 0, locals := 22 } : Room) s9 m9 ([.ref m, .int 1, .int (nI cn)] : List Value).toArray b9 t9 c9 H locs 0 0 (vx_MQ b9 (hQi (fun r u => r = (X9_copyOvers1_r9 gs gw gf cn) ∧ u m = some (.inr (11, [.int (nI (X9_copyOvers1_n5 gs gm cn)), .int c_re, .ref v, .ref im, .ref kp, .ref pa, .ref de, .ref ide, .int c_un, .int c_hi, .ref tx, .int c_tn, .int c_fa, .int c_rf, .ref pt, .int c_ps, .int c_pl, .int c_to, .ref so, .ref mo, .ref wh, .ref pf])) ∧ u wh = some (.inl (cy 0, 42, .inl (X9_copyOvers1_g10 gw cn))) ∧ u pf = some (.inl (cy 2, 42, .inr (.inr (.inl (X9_copyOvers1_g11 gf cn))))) ∧ hFrL f u [m, wh, pf]) D f sz) (hPx hNo D f sz) ([.ref m, .int 1, .int (nI cn)] : List Value).toArray s9 0 0 (hA f sz)) (F0 m9 186 ls [.int y32, .int (cvC (gs 0) gw gf 21 0 jj)]) := by
            intro y32 ey32 H locs ls G hl
            replace ey32 := Eq.symm ey32
            subst ey32
            refine lv_ior hx hb dX9_copyOvers_186 ?_
            refine lv_topv (v := (cvC (gs 0) gw gf 21 0 (jj + 1))) (by unfold X9_copyOvers1_x8 X9_copyOvers1_x7 X9_copyOvers1_x6; rfl) ?_
            refine lv_istore_n (lv' := [(3, .int (cvC (gs 0) gw gf 21 0 (jj + 1))), (6, .int (nI (0 + jj))), (5, .int (nI (21 + jj))), (4, .int (nI jj)), (0, .ref m), (1, .int 1), (2, .int (nI cn))]) hx hb dX9_copyOvers_187 rfl hl (by decide) rfl (fun ls hl => ?_)
            refine lv_aload_n hx hb dX9_copyOvers_188 rfl (lv_at hl 4 rfl) ?_
            refine g_get C0 G k29 rfl hiX9 20 (by decide) mf_X9_48 rfl dX9_copyOvers_189 ?_
            refine lv_iload hx hb dX9_copyOvers_192 (lv_at hl 1 rfl) ?_
            refine lv_aload_n hx hb dX9_copyOvers_194 rfl (lv_at hl 4 rfl) ?_
            refine g_get C0 G k29 rfl hiX9 20 (by decide) mf_X9_48 rfl dX9_copyOvers_195 ?_
            refine lv_iload hx hb dX9_copyOvers_198 (lv_at hl 2 rfl) ?_
            refine g_iald C0 G h_wh1 0 rfl (vp_in_nI (by omega) (by omega)) dX9_copyOvers_200 ?_
            refine lv_topv (v := (cpo gw 0 (fun k => gw (21 + k)) jj) (21 + jj)) (congrArg (cpo gw 0 (fun k => gw (21 + k)) jj) (nI_c (by omega))) ?_
            refine lv_topv (v := gw (21 + jj)) (cpo_out (by omega)) ?_
            refine g_iast C0 G h_wh1 0 rfl (vp_in_nI (by omega) (by omega)) dX9_copyOvers_201 (fun H locs f35 hf35 G => ?_)
            have k36 : f35 wh = some (.inl (cy 0, 42, .inl (upd (cpo gw 0 (fun k => gw (21 + k)) jj) (nI (0 + jj)).toNatClampNeg (gw (21 + jj))))) := hus hf35
            refine lv_aload_n hx hb dX9_copyOvers_202 rfl (lv_at hl 4 rfl) ?_
            have k37 : f35 m = some (.inr (11, [.int (nI (X9_copyOvers1_n5 gs gm cn)), .int c_re, .ref v, .ref im, .ref kp, .ref pa, .ref de, .ref ide, .int c_un, .int c_hi, .ref tx, .int c_tn, .int c_fa, .int c_rf, .ref pt, .int c_ps, .int c_pl, .int c_to, .ref so, .ref mo, .ref wh, .ref pf])) := hup hf35 (hne k29 h_wh1 (by intro q; cases q)) k29
            refine g_get C0 G k37 rfl hiX9 21 (by decide) mf_X9_51 rfl dX9_copyOvers_203 ?_
            refine lv_iload hx hb dX9_copyOvers_206 (lv_at hl 1 rfl) ?_
            refine lv_aload_n hx hb dX9_copyOvers_208 rfl (lv_at hl 4 rfl) ?_
            refine g_get C0 G k37 rfl hiX9 21 (by decide) mf_X9_51 rfl dX9_copyOvers_209 ?_
            refine lv_iload hx hb dX9_copyOvers_212 (lv_at hl 2 rfl) ?_
            have k38 : f35 pf = some (.inl (cy 2, 42, .inr (.inr (.inl (cpoF gf 0 (fun k => gf (21 + k)) jj))))) := hup hf35 (hne h_pf1 h_wh1 (by intro q; first | (cases q; done) | (simp at q; done))) h_pf1
            refine g_fald C0 G k38 2 rfl (vp_in_nI (by omega) (by omega)) dX9_copyOvers_214 ?_
            refine lv_topF (v := (cpoF gf 0 (fun k => gf (21 + k)) jj) (21 + jj)) (congrArg (cpoF gf 0 (fun k => gf (21 + k)) jj) (nI_c (by omega))) ?_
            refine lv_topF (v := gf (21 + jj)) (cpoF_out (by omega)) ?_
            refine g_fast C0 G k38 2 rfl (vp_in_nI (by omega) (by omega)) dX9_copyOvers_215 (fun H locs f39 hf39 G => ?_)
            have k40 : f39 pf = some (.inl (cy 2, 42, .inr (.inr (.inl (vf_upd (cpoF gf 0 (fun k => gf (21 + k)) jj) (nI (0 + jj)).toNatClampNeg (gf (21 + jj))))))) := hus hf39
            refine lv_iinc (v := nI (jj + 1)) (lv' := [(4, .int (nI (jj + 1))), (3, .int (cvC (gs 0) gw gf 21 0 (jj + 1))), (6, .int (nI (0 + jj))), (5, .int (nI (21 + jj))), (0, .ref m), (1, .int 1), (2, .int (nI cn))]) hx hb dX9_copyOvers_216 hl (k := 3) rfl (by exact (nI_add _ _)) (by decide) rfl (fun ls hl => ?_)
            refine lv_goto (tgt := 101) hx hb dX9_copyOvers_219 (by decide) ?_
            have k42 : f39 wh = some (.inl (cy 0, 42, .inl (upd (cpo gw 0 (fun k => gw (21 + k)) jj) (nI (0 + jj)).toNatClampNeg (gw (21 + jj))))) := hup hf39 (hne k36 k38 (by intro q; first | (cases q; done) | (simp at q; done))) k36
            exact ih (jj + 1) f39 _ _ _ (by omega) (by omega) (by have h9 := k42; rw [nI_c (by omega), cpo_s _ _ (fun k => gw (21 + k))] at h9; exact h9) (by have h9 := k40; rw [nI_c (by omega), cpoF_s _ _ (fun k => gf (21 + k))] at h9; exact h9) (fun a9 e9 h7 h8 => hup hf39 (fun q => h7 (by rw [q]; simp)) (hup hf35 (fun q => h7 (by rw [q]; simp)) (hfr _ _ (fun q => h7 (by simp only [List.mem_cons, List.not_mem_nil, or_false] at q ⊢; first | exact q | (rcases q with q | q <;> simp [q]) | omega)) (h8)))) G (lv_sub hl [0, 1, 4, 5, 6] rfl)
          refine lv_icmp_ne (tgt := 163) hx hb dX9_copyOvers_135 (by decide) (fun c31 => ?_) (fun c31 => ?_)
          · refine lv_aload_n hx hb dX9_copyOvers_163 rfl (lv_at hl 4 rfl) ?_
            refine g_get C0 G k29 rfl hiX9 21 (by decide) mf_X9_51 rfl dX9_copyOvers_164 ?_
            refine lv_iload hx hb dX9_copyOvers_167 (lv_at hl 1 rfl) ?_
            refine g_fald C0 G h_pf1 2 rfl (vp_in_nI (by omega) (by omega)) dX9_copyOvers_169 ?_
            refine lv_topF (v := (cpoF gf 0 (fun k => gf (21 + k)) jj) (21 + jj)) (congrArg (cpoF gf 0 (fun k => gf (21 + k)) jj) (nI_c (by omega))) ?_
            refine lv_topF (v := gf (21 + jj)) (cpoF_out (by omega)) ?_
            refine lv_aload_n hx hb dX9_copyOvers_170 rfl (lv_at hl 4 rfl) ?_
            refine g_get C0 G k29 rfl hiX9 21 (by decide) mf_X9_51 rfl dX9_copyOvers_171 ?_
            refine lv_iload hx hb dX9_copyOvers_174 (lv_at hl 0 rfl) ?_
            refine g_fald C0 G h_pf1 2 rfl (vp_in_nI (by omega) (by omega)) dX9_copyOvers_176 ?_
            refine lv_topF (v := (cpoF gf 0 (fun k => gf (21 + k)) jj) (0 + jj)) (congrArg (cpoF gf 0 (fun k => gf (21 + k)) jj) (nI_c (by omega))) ?_
            refine lv_topF (v := gf (0 + jj)) (cpoF_out (by omega)) ?_
            refine lv_fcmp hx hb dX9_copyOvers_177 ?_
            have J45 : ∀ (y44 : Int32) (_ : y44 = (X9_copyOvers1_x6 gf jj)) (H : Heap) (locs : List Loc) (ls : Array Slot), hG D (hA f sz) f1 s9 H locs → lv_has ls 7 [(6, .int (nI (0 + jj))), (5, .int (nI (21 + jj))), (4, .int (nI jj)), (3, .int (cvC (gs 0) gw gf 21 0 jj)), (0, .ref m), (1, .int 1), (2, .int (nI cn))] → W p9 l e9 ({ frames := 1, cells := 0, slots := 0, locals := 22 } : Room) s9 m9 ([.ref m, .int 1, .int (nI cn)] : List Value).toArray b9 t9 c9 H locs 0 0 (vx_MQ b9 (hQi (fun r u => r = (X9_copyOvers1_r9 gs gw gf cn) ∧ u m = some (.inr (11, [.int (nI (X9_copyOvers1_n5 gs gm cn)), .int c_re, .ref v, .ref im, .ref kp, .ref pa, .ref de, .ref ide, .int c_un, .int c_hi, .ref tx, .int c_tn, .int c_fa, .int c_rf, .ref pt, .int c_ps, .int c_pl, .int c_to, .ref so, .ref mo, .ref wh, .ref pf])) ∧ u wh = some (.inl (cy 0, 42, .inl (X9_copyOvers1_g10 gw cn))) ∧ u pf = some (.inl (cy 2, 42, .inr (.inr (.inl (X9_copyOvers1_g11 gf cn))))) ∧ hFrL f u [m, wh, pf]) D f sz) (hPx hNo D f sz) ([.ref m, .int 1, .int (nI cn)] : List Value).toArray s9 0 0 (hA f sz)) (F0 m9 186 ls [.int y44, .int (cvC (gs 0) gw gf 21 0 jj)]) := by
              intro y44 ey44 H locs ls G hl
              replace ey44 := Eq.symm ey44
              subst ey44
              exact J33 (X9_copyOvers1_x6 gf jj) (by rw [X9_copyOvers1_x8, if_neg c31]) _ _ _ G (lv_sub hl [0, 1, 2, 3, 4, 5, 6] rfl)
            refine lv_if_eq (tgt := 185) hx hb dX9_copyOvers_178 (by decide) (fun c43 => ?_) (fun c43 => ?_)
            · refine lv_iconst (v := 0) hx hb dX9_copyOvers_185 (by decide) ?_
              exact J45 0 (by rw [X9_copyOvers1_x6, if_pos c43]) _ _ _ G (lv_sub hl [0, 1, 2, 3, 4, 5, 6] rfl)
            · refine lv_iconst (v := 1) hx hb dX9_copyOvers_181 (by decide) ?_
              refine lv_goto (tgt := 186) hx hb dX9_copyOvers_182 (by decide) ?_
              exact J45 1 (by rw [X9_copyOvers1_x6, if_neg c43]) _ _ _ G (lv_sub hl [0, 1, 2, 3, 4, 5, 6] rfl)
          · refine lv_aload_n hx hb dX9_copyOvers_138 rfl (lv_at hl 4 rfl) ?_
            refine g_get C0 G k29 rfl hiX9 20 (by decide) mf_X9_48 rfl dX9_copyOvers_139 ?_
            refine lv_iload hx hb dX9_copyOvers_142 (lv_at hl 1 rfl) ?_
            refine g_iald C0 G h_wh1 0 rfl (vp_in_nI (by omega) (by omega)) dX9_copyOvers_144 ?_
            refine lv_topv (v := (cpo gw 0 (fun k => gw (21 + k)) jj) (21 + jj)) (congrArg (cpo gw 0 (fun k => gw (21 + k)) jj) (nI_c (by omega))) ?_
            refine lv_topv (v := gw (21 + jj)) (cpo_out (by omega)) ?_
            refine lv_aload_n hx hb dX9_copyOvers_145 rfl (lv_at hl 4 rfl) ?_
            refine g_get C0 G k29 rfl hiX9 20 (by decide) mf_X9_48 rfl dX9_copyOvers_146 ?_
            refine lv_iload hx hb dX9_copyOvers_149 (lv_at hl 0 rfl) ?_
            refine g_iald C0 G h_wh1 0 rfl (vp_in_nI (by omega) (by omega)) dX9_copyOvers_151 ?_
            refine lv_topv (v := (cpo gw 0 (fun k => gw (21 + k)) jj) (0 + jj)) (congrArg (cpo gw 0 (fun k => gw (21 + k)) jj) (nI_c (by omega))) ?_
            refine lv_topv (v := gw (0 + jj)) (cpo_out (by omega)) ?_
            have J49 : ∀ (y48 : Int32) (_ : y48 = (X9_copyOvers1_x7 gw jj)) (H : Heap) (locs : List Loc) (ls : Array Slot), hG D (hA f sz) f1 s9 H locs → lv_has ls 7 [(6, .int (nI (0 + jj))), (5, .int (nI (21 + jj))), (4, .int (nI jj)), (3, .int (cvC (gs 0) gw gf 21 0 jj)), (0, .ref m), (1, .int 1), (2, .int (nI cn))] → W p9 l e9 ({ frames := 1, cells := 0, slots := 0, locals := 22 } : Room) s9 m9 ([.ref m, .int 1, .int (nI cn)] : List Value).toArray b9 t9 c9 H locs 0 0 (vx_MQ b9 (hQi (fun r u => r = (X9_copyOvers1_r9 gs gw gf cn) ∧ u m = some (.inr (11, [.int (nI (X9_copyOvers1_n5 gs gm cn)), .int c_re, .ref v, .ref im, .ref kp, .ref pa, .ref de, .ref ide, .int c_un, .int c_hi, .ref tx, .int c_tn, .int c_fa, .int c_rf, .ref pt, .int c_ps, .int c_pl, .int c_to, .ref so, .ref mo, .ref wh, .ref pf])) ∧ u wh = some (.inl (cy 0, 42, .inl (X9_copyOvers1_g10 gw cn))) ∧ u pf = some (.inl (cy 2, 42, .inr (.inr (.inl (X9_copyOvers1_g11 gf cn))))) ∧ hFrL f u [m, wh, pf]) D f sz) (hPx hNo D f sz) ([.ref m, .int 1, .int (nI cn)] : List Value).toArray s9 0 0 (hA f sz)) (F0 m9 186 ls [.int y48, .int (cvC (gs 0) gw gf 21 0 jj)]) := by
              intro y48 ey48 H locs ls G hl
              replace ey48 := Eq.symm ey48
              subst ey48
              exact J33 (X9_copyOvers1_x7 gw jj) (by rw [X9_copyOvers1_x8, if_pos c31]) _ _ _ G (lv_sub hl [0, 1, 2, 3, 4, 5, 6] rfl)
            refine lv_icmp_eq (tgt := 159) hx hb dX9_copyOvers_152 (by decide) (fun c47 => ?_) (fun c47 => ?_)
            · refine lv_iconst (v := 0) hx hb dX9_copyOvers_159 (by decide) ?_
              refine lv_goto (tgt := 186) hx hb dX9_copyOvers_160 (by decide) ?_
              exact J49 0 (by rw [X9_copyOvers1_x7, if_pos c47]) _ _ _ G (lv_sub hl [0, 1, 2, 3, 4, 5, 6] rfl)
            · refine lv_iconst (v := 1) hx hb dX9_copyOvers_155 (by decide) ?_
              refine lv_goto (tgt := 186) hx hb dX9_copyOvers_156 (by decide) ?_
              exact J49 1 (by rw [X9_copyOvers1_x7, if_neg c47]) _ _ _ G (lv_sub hl [0, 1, 2, 3, 4, 5, 6] rfl)
    exact LOOP101 (cn + 1) 0 f20 _ _ _ (by omega) (by omega)  (by rw [cpo_0]; exact k23) (by rw [cpoF_0]; exact k24) (fun a9 e9 h7 h8 => h8) G (lv_sub hl [0, 1, 2, 3, 4] rfl)
  refine lv_if_eq (tgt := 32) hx hb dX9_copyOvers_20 (by decide) (fun c15 => ?_) (fun c15 => ?_)
  · refine lv_iconst (v := 2) hx hb dX9_copyOvers_32 (by decide) ?_
    refine lv_goto (tgt := 84) hx hb dX9_copyOvers_33 (by decide) ?_
    exact J17 2 (by rw [X9_copyOvers1_n5, if_pos c15] <;> rfl) _ _ _ G (lv_sub hl [0, 1, 2] rfl)
  · refine lv_aload_n hx hb dX9_copyOvers_23 rfl (lv_at hl 0 rfl) ?_
    refine g_get C0 G h_m rfl hiX9 18 (by decide) mf_X9_42 rfl dX9_copyOvers_24 ?_
    refine lv_iconst (v := 1) hx hb dX9_copyOvers_27 (by decide) ?_
    refine g_iald C0 G h_so 0 rfl (by unfold vp_in; decide) dX9_copyOvers_28 ?_
    refine lv_topv (v := gs 1) rfl ?_
    have J53 : ∀ (y52 : Int32) (_ : y52 = nI (X9_copyOvers1_n4 gs gm cn)) (H : Heap) (locs : List Loc) (ls : Array Slot), hG D (hA f sz) f s9 H locs → lv_has ls 7 [(0, .ref m), (1, .int 1), (2, .int (nI cn))] → W p9 l e9 ({ frames := 1, cells := 0, slots := 0, locals := 22 } : Room) s9 m9 ([.ref m, .int 1, .int (nI cn)] : List Value).toArray b9 t9 c9 H locs 0 0 (vx_MQ b9 (hQi (fun r u => r = (X9_copyOvers1_r9 gs gw gf cn) ∧ u m = some (.inr (11, [.int (nI (X9_copyOvers1_n5 gs gm cn)), .int c_re, .ref v, .ref im, .ref kp, .ref pa, .ref de, .ref ide, .int c_un, .int c_hi, .ref tx, .int c_tn, .int c_fa, .int c_rf, .ref pt, .int c_ps, .int c_pl, .int c_to, .ref so, .ref mo, .ref wh, .ref pf])) ∧ u wh = some (.inl (cy 0, 42, .inl (X9_copyOvers1_g10 gw cn))) ∧ u pf = some (.inl (cy 2, 42, .inr (.inr (.inl (X9_copyOvers1_g11 gf cn))))) ∧ hFrL f u [m, wh, pf]) D f sz) (hPx hNo D f sz) ([.ref m, .int 1, .int (nI cn)] : List Value).toArray s9 0 0 (hA f sz)) (F0 m9 84 ls [.int y52, .ref m]) := by
      intro y52 ey52 H locs ls G hl
      replace ey52 := Eq.symm ey52
      subst ey52
      have bd55 : (X9_copyOvers1_n4 gs gm cn) ≤ 4 := by unfold X9_copyOvers1_n4 X9_copyOvers1_n3 X9_copyOvers1_n2 X9_copyOvers1_n1 X9_copyOvers1_n0; repeat (first | omega | split)
      exact J17 (nI (X9_copyOvers1_n4 gs gm cn)) (by rw [X9_copyOvers1_n5, if_neg c15] <;> rfl) _ _ _ G (lv_sub hl [0, 1, 2] rfl)
    refine lv_if_ne (tgt := 36) hx hb dX9_copyOvers_29 (by decide) (fun c51 => ?_) (fun c51 => ?_)
    · refine lv_aload_n hx hb dX9_copyOvers_36 rfl (lv_at hl 0 rfl) ?_
      refine g_get C0 G h_m rfl hiX9 18 (by decide) mf_X9_42 rfl dX9_copyOvers_37 ?_
      refine lv_iconst (v := 0) hx hb dX9_copyOvers_40 (by decide) ?_
      refine g_iald C0 G h_so 0 rfl (by unfold vp_in; decide) dX9_copyOvers_41 ?_
      refine lv_topv (v := gs 0) rfl ?_
      refine lv_aload_n hx hb dX9_copyOvers_42 rfl (lv_at hl 0 rfl) ?_
      refine g_get C0 G h_m rfl hiX9 18 (by decide) mf_X9_42 rfl dX9_copyOvers_43 ?_
      refine lv_iconst (v := 1) hx hb dX9_copyOvers_46 (by decide) ?_
      refine g_iald C0 G h_so 0 rfl (by unfold vp_in; decide) dX9_copyOvers_47 ?_
      refine lv_topv (v := gs 1) rfl ?_
      have J58 : ∀ (y57 : Int32) (_ : y57 = nI (X9_copyOvers1_n3 gs gm cn)) (H : Heap) (locs : List Loc) (ls : Array Slot), hG D (hA f sz) f s9 H locs → lv_has ls 7 [(0, .ref m), (1, .int 1), (2, .int (nI cn))] → W p9 l e9 ({ frames := 1, cells := 0, slots := 0, locals := 22 } : Room) s9 m9 ([.ref m, .int 1, .int (nI cn)] : List Value).toArray b9 t9 c9 H locs 0 0 (vx_MQ b9 (hQi (fun r u => r = (X9_copyOvers1_r9 gs gw gf cn) ∧ u m = some (.inr (11, [.int (nI (X9_copyOvers1_n5 gs gm cn)), .int c_re, .ref v, .ref im, .ref kp, .ref pa, .ref de, .ref ide, .int c_un, .int c_hi, .ref tx, .int c_tn, .int c_fa, .int c_rf, .ref pt, .int c_ps, .int c_pl, .int c_to, .ref so, .ref mo, .ref wh, .ref pf])) ∧ u wh = some (.inl (cy 0, 42, .inl (X9_copyOvers1_g10 gw cn))) ∧ u pf = some (.inl (cy 2, 42, .inr (.inr (.inl (X9_copyOvers1_g11 gf cn))))) ∧ hFrL f u [m, wh, pf]) D f sz) (hPx hNo D f sz) ([.ref m, .int 1, .int (nI cn)] : List Value).toArray s9 0 0 (hA f sz)) (F0 m9 84 ls [.int y57, .ref m]) := by
        intro y57 ey57 H locs ls G hl
        replace ey57 := Eq.symm ey57
        subst ey57
        have bd60 : (X9_copyOvers1_n3 gs gm cn) ≤ 4 := by unfold X9_copyOvers1_n3 X9_copyOvers1_n2 X9_copyOvers1_n1 X9_copyOvers1_n0; repeat (first | omega | split)
        exact J53 (nI (X9_copyOvers1_n3 gs gm cn)) (by rw [X9_copyOvers1_n4, if_neg c51] <;> rfl) _ _ _ G (lv_sub hl [0, 1, 2] rfl)
      refine lv_icmp_eq (tgt := 55) hx hb dX9_copyOvers_48 (by decide) (fun c56 => ?_) (fun c56 => ?_)
      · refine lv_iload_n hx hb dX9_copyOvers_55 rfl (lv_at hl 2 rfl) ?_
        have J63 : ∀ (y62 : Int32) (_ : y62 = nI (X9_copyOvers1_n2 gm cn)) (H : Heap) (locs : List Loc) (ls : Array Slot), hG D (hA f sz) f s9 H locs → lv_has ls 7 [(0, .ref m), (1, .int 1), (2, .int (nI cn))] → W p9 l e9 ({ frames := 1, cells := 0, slots := 0, locals := 22 } : Room) s9 m9 ([.ref m, .int 1, .int (nI cn)] : List Value).toArray b9 t9 c9 H locs 0 0 (vx_MQ b9 (hQi (fun r u => r = (X9_copyOvers1_r9 gs gw gf cn) ∧ u m = some (.inr (11, [.int (nI (X9_copyOvers1_n5 gs gm cn)), .int c_re, .ref v, .ref im, .ref kp, .ref pa, .ref de, .ref ide, .int c_un, .int c_hi, .ref tx, .int c_tn, .int c_fa, .int c_rf, .ref pt, .int c_ps, .int c_pl, .int c_to, .ref so, .ref mo, .ref wh, .ref pf])) ∧ u wh = some (.inl (cy 0, 42, .inl (X9_copyOvers1_g10 gw cn))) ∧ u pf = some (.inl (cy 2, 42, .inr (.inr (.inl (X9_copyOvers1_g11 gf cn))))) ∧ hFrL f u [m, wh, pf]) D f sz) (hPx hNo D f sz) ([.ref m, .int 1, .int (nI cn)] : List Value).toArray s9 0 0 (hA f sz)) (F0 m9 84 ls [.int y62, .ref m]) := by
          intro y62 ey62 H locs ls G hl
          replace ey62 := Eq.symm ey62
          subst ey62
          have bd65 : (X9_copyOvers1_n2 gm cn) ≤ 4 := by unfold X9_copyOvers1_n2 X9_copyOvers1_n1 X9_copyOvers1_n0; repeat (first | omega | split)
          exact J58 (nI (X9_copyOvers1_n2 gm cn)) (by rw [X9_copyOvers1_n3, if_pos c56] <;> rfl) _ _ _ G (lv_sub hl [0, 1, 2] rfl)
        refine lv_if_lt (tgt := 79) hx hb dX9_copyOvers_56 (by decide) (fun c61 => ?_) (fun c61 => ?_)
        · have n66 : cn < 0 := (nI_ltI (a := cn) (b := 0) (by omega) (by omega)).mp c61
          refine lv_iconst (v := 4) hx hb dX9_copyOvers_79 (by decide) ?_
          refine lv_goto (tgt := 84) hx hb dX9_copyOvers_80 (by decide) ?_
          exact J63 4 (by rw [X9_copyOvers1_n2, if_pos c61] <;> rfl) _ _ _ G (lv_sub hl [0, 1, 2] rfl)
        · have n67 : ¬ cn < 0 := fun q => c61 ((nI_ltI (a := cn) (b := 0) (by omega) (by omega)).mpr q)
          refine lv_iload_n hx hb dX9_copyOvers_59 rfl (lv_at hl 2 rfl) ?_
          refine lv_aload_n hx hb dX9_copyOvers_60 rfl (lv_at hl 0 rfl) ?_
          refine g_get C0 G h_m rfl hiX9 19 (by decide) mf_X9_45 rfl dX9_copyOvers_61 ?_
          refine lv_iconst (v := 0) hx hb dX9_copyOvers_64 (by decide) ?_
          refine g_iald C0 G h_mo 0 rfl (by unfold vp_in; decide) dX9_copyOvers_65 ?_
          refine lv_topv (v := gm 0) rfl ?_
          have J70 : ∀ (y69 : Int32) (_ : y69 = nI (X9_copyOvers1_n1 gm cn)) (H : Heap) (locs : List Loc) (ls : Array Slot), hG D (hA f sz) f s9 H locs → lv_has ls 7 [(0, .ref m), (1, .int 1), (2, .int (nI cn))] → W p9 l e9 ({ frames := 1, cells := 0, slots := 0, locals := 22 } : Room) s9 m9 ([.ref m, .int 1, .int (nI cn)] : List Value).toArray b9 t9 c9 H locs 0 0 (vx_MQ b9 (hQi (fun r u => r = (X9_copyOvers1_r9 gs gw gf cn) ∧ u m = some (.inr (11, [.int (nI (X9_copyOvers1_n5 gs gm cn)), .int c_re, .ref v, .ref im, .ref kp, .ref pa, .ref de, .ref ide, .int c_un, .int c_hi, .ref tx, .int c_tn, .int c_fa, .int c_rf, .ref pt, .int c_ps, .int c_pl, .int c_to, .ref so, .ref mo, .ref wh, .ref pf])) ∧ u wh = some (.inl (cy 0, 42, .inl (X9_copyOvers1_g10 gw cn))) ∧ u pf = some (.inl (cy 2, 42, .inr (.inr (.inl (X9_copyOvers1_g11 gf cn))))) ∧ hFrL f u [m, wh, pf]) D f sz) (hPx hNo D f sz) ([.ref m, .int 1, .int (nI cn)] : List Value).toArray s9 0 0 (hA f sz)) (F0 m9 84 ls [.int y69, .ref m]) := by
            intro y69 ey69 H locs ls G hl
            replace ey69 := Eq.symm ey69
            subst ey69
            have bd72 : (X9_copyOvers1_n1 gm cn) ≤ 4 := by unfold X9_copyOvers1_n1 X9_copyOvers1_n0; repeat (first | omega | split)
            exact J63 (nI (X9_copyOvers1_n1 gm cn)) (by rw [X9_copyOvers1_n2, if_neg c61] <;> rfl) _ _ _ G (lv_sub hl [0, 1, 2] rfl)
          refine lv_icmp_gt (tgt := 79) hx hb dX9_copyOvers_66 (by decide) (fun c68 => ?_) (fun c68 => ?_)
          · refine lv_iconst (v := 4) hx hb dX9_copyOvers_79 (by decide) ?_
            refine lv_goto (tgt := 84) hx hb dX9_copyOvers_80 (by decide) ?_
            exact J70 4 (by rw [X9_copyOvers1_n1, if_pos c68] <;> rfl) _ _ _ G (lv_sub hl [0, 1, 2] rfl)
          · refine lv_iload_n hx hb dX9_copyOvers_69 rfl (lv_at hl 2 rfl) ?_
            refine lv_aload_n hx hb dX9_copyOvers_70 rfl (lv_at hl 0 rfl) ?_
            refine g_get C0 G h_m rfl hiX9 19 (by decide) mf_X9_45 rfl dX9_copyOvers_71 ?_
            refine lv_iconst (v := 1) hx hb dX9_copyOvers_74 (by decide) ?_
            refine g_iald C0 G h_mo 0 rfl (by unfold vp_in; decide) dX9_copyOvers_75 ?_
            refine lv_topv (v := gm 1) rfl ?_
            have J75 : ∀ (y74 : Int32) (_ : y74 = nI (X9_copyOvers1_n0 gm cn)) (H : Heap) (locs : List Loc) (ls : Array Slot), hG D (hA f sz) f s9 H locs → lv_has ls 7 [(0, .ref m), (1, .int 1), (2, .int (nI cn))] → W p9 l e9 ({ frames := 1, cells := 0, slots := 0, locals := 22 } : Room) s9 m9 ([.ref m, .int 1, .int (nI cn)] : List Value).toArray b9 t9 c9 H locs 0 0 (vx_MQ b9 (hQi (fun r u => r = (X9_copyOvers1_r9 gs gw gf cn) ∧ u m = some (.inr (11, [.int (nI (X9_copyOvers1_n5 gs gm cn)), .int c_re, .ref v, .ref im, .ref kp, .ref pa, .ref de, .ref ide, .int c_un, .int c_hi, .ref tx, .int c_tn, .int c_fa, .int c_rf, .ref pt, .int c_ps, .int c_pl, .int c_to, .ref so, .ref mo, .ref wh, .ref pf])) ∧ u wh = some (.inl (cy 0, 42, .inl (X9_copyOvers1_g10 gw cn))) ∧ u pf = some (.inl (cy 2, 42, .inr (.inr (.inl (X9_copyOvers1_g11 gf cn))))) ∧ hFrL f u [m, wh, pf]) D f sz) (hPx hNo D f sz) ([.ref m, .int 1, .int (nI cn)] : List Value).toArray s9 0 0 (hA f sz)) (F0 m9 84 ls [.int y74, .ref m]) := by
              intro y74 ey74 H locs ls G hl
              replace ey74 := Eq.symm ey74
              subst ey74
              have bd77 : (X9_copyOvers1_n0 gm cn) ≤ 4 := by unfold X9_copyOvers1_n0; repeat (first | omega | split)
              exact J70 (nI (X9_copyOvers1_n0 gm cn)) (by rw [X9_copyOvers1_n1, if_neg c68] <;> rfl) _ _ _ G (lv_sub hl [0, 1, 2] rfl)
            refine lv_icmp_le (tgt := 83) hx hb dX9_copyOvers_76 (by decide) (fun c73 => ?_) (fun c73 => ?_)
            · refine lv_iconst (v := 0) hx hb dX9_copyOvers_83 (by decide) ?_
              exact J75 0 (by rw [X9_copyOvers1_n0, if_pos c73] <;> rfl) _ _ _ G (lv_sub hl [0, 1, 2] rfl)
            · refine lv_iconst (v := 4) hx hb dX9_copyOvers_79 (by decide) ?_
              refine lv_goto (tgt := 84) hx hb dX9_copyOvers_80 (by decide) ?_
              exact J75 4 (by rw [X9_copyOvers1_n0, if_neg c73] <;> rfl) _ _ _ G (lv_sub hl [0, 1, 2] rfl)
      · refine lv_iconst (v := 3) hx hb dX9_copyOvers_51 (by decide) ?_
        refine lv_goto (tgt := 84) hx hb dX9_copyOvers_52 (by decide) ?_
        exact J58 3 (by rw [X9_copyOvers1_n3, if_neg c56] <;> rfl) _ _ _ G (lv_sub hl [0, 1, 2] rfl)
    · refine lv_iconst (v := 2) hx hb dX9_copyOvers_32 (by decide) ?_
      refine lv_goto (tgt := 84) hx hb dX9_copyOvers_33 (by decide) ?_
      exact J53 2 (by rw [X9_copyOvers1_n4, if_pos c51] <;> rfl) _ _ _ G (lv_sub hl [0, 1, 2] rfl)
theorem b_k_X9_copyOvers1 (gs : Nat → Int32) (gw : Nat → Int32) (gf : Nat → UInt32) (cn : Nat) : (X9_copyOvers1_r9 gs gw gf cn) = 0 ∨ (X9_copyOvers1_r9 gs gw gf cn) = 1 := (by unfold X9_copyOvers1_r9; exact (cvC_b _ _ _ _ _ _))
set_option maxRecDepth 100000 in
theorem k_X9_storedOversB {l : Launch} (hfl : l.stackTraces = false) {D : va_G} {cy : Nat → ClassId} {f : Hf} {sz : Nat} {m : Nat} {v : Nat} {im : Nat} {kp : Nat} {pa : Nat} {de : Nat} {ide : Nat} {tx : Nat} {pt : Nat} {so : Nat} {mo : Nat} {wh : Nat} {pf : Nat} {c_th : Int32} {c_re : Int32} {c_un : Int32} {c_hi : Int32} {c_tn : Int32} {c_fa : Int32} {c_rf : Int32} {c_ps : Int32} {c_pl : Int32} {c_to : Int32} {gs : Nat → Int32} {gm : Nat → Int32} (row : Int32) (ix : Int32) (h_m : f m = some (.inr (11, [.int c_th, .int c_re, .ref v, .ref im, .ref kp, .ref pa, .ref de, .ref ide, .int c_un, .int c_hi, .ref tx, .int c_tn, .int c_fa, .int c_rf, .ref pt, .int c_ps, .int c_pl, .int c_to, .ref so, .ref mo, .ref wh, .ref pf]))) (h_so : f so = some (.inl (cy 0, 2, .inl gs))) (h_mo : f mo = some (.inl (cy 0, 2, .inl gm))) (hrb : X9_isIn_x1 row 0 1 = 0) : hMet l yX9_storedOvers cX9_storedOvers 3 (some .float) { frames := 1, cells := 0, slots := 0, locals := 22 } D (hTy cy) f sz [.ref m, .int row, .int ix] (hQf (fun r u => r = 0 ∧ u m = some (.inr (11, [.int 1, .int c_re, .ref v, .ref im, .ref kp, .ref pa, .ref de, .ref ide, .int c_un, .int c_hi, .ref tx, .int c_tn, .int c_fa, .int c_rf, .ref pt, .int c_ps, .int c_pl, .int c_to, .ref so, .ref mo, .ref wh, .ref pf])) ∧ hFrL f u [m]) D f sz) hNo := by
  refine h_enter (by decide) hfl (Nat.le_of_ble_eq_true rfl) ?_
  intro p9 e9 s9 m9 b9 t9 c9 hsz C0 hr hnm G ls hl
  have hx := C0.1.1
  have hb := C0.1.2.1
  have hl : lv_has ls 3 [(0, .ref m), (1, .int row), (2, .int ix)] := hl
  refine lv_aload_n hx hb dX9_storedOvers_0 rfl (lv_at hl 0 rfl) ?_
  refine lv_iload_n hx hb dX9_storedOvers_1 rfl (lv_at hl 1 rfl) ?_
  refine lv_iconst (v := 0) hx hb dX9_storedOvers_2 (by decide) ?_
  refine lv_iconst (v := 1) hx hb dX9_storedOvers_3 (by decide) ?_
  refine g_cI C0 G (g_runS C0 G (rest := [.ref m]) (k_X9_isIn hfl row 0 1 ) hY_X9_isIn mm_X9_76 ms_X9_isIn ⟨(Nat.le_of_ble_eq_true rfl), (Nat.le_of_ble_eq_true rfl)⟩ rfl hl.1 rfl (Nat.le_of_ble_eq_true rfl) dX9_storedOvers_4 ⟨(Nat.le_of_ble_eq_true rfl), (Nat.le_of_ble_eq_true rfl)⟩) (kx_no rfl) (fun r13 u12 H locs hp11 G => ?_)
  obtain ⟨zr, eu12⟩ := hp11
  replace zr := Eq.symm zr
  subst zr
  rw [eu12] at G
  refine lv_topv (v := 0) (hrb) ?_
  refine lv_if_ne (tgt := 14) hx hb dX9_storedOvers_7 (by decide) (fun c14 => absurd (by decide) c14) (fun _ => ?_)
  refine lv_iconst (v := 1) hx hb dX9_storedOvers_10 (by decide) ?_
  refine lv_goto (tgt := 44) hx hb dX9_storedOvers_11 (by decide) ?_
  refine g_put C0 G h_m rfl hiX9 tyX9 tyX9_ok nmX9 0 (by decide) mf_X9_55 rfl rfl rfl rfl (Nat.le_of_ble_eq_true rfl) dX9_storedOvers_44 (fun H locs f15 hf15 G => ?_)
  have k16 : f15 m = some (.inr (11, [.int 1, .int c_re, .ref v, .ref im, .ref kp, .ref pa, .ref de, .ref ide, .int c_un, .int c_hi, .ref tx, .int c_tn, .int c_fa, .int c_rf, .ref pt, .int c_ps, .int c_pl, .int c_to, .ref so, .ref mo, .ref wh, .ref pf])) := hus hf15
  refine lv_aload_n hx hb dX9_storedOvers_47 rfl (lv_at hl 0 rfl) ?_
  refine g_get C0 G k16 rfl hiX9 0 (by decide) mf_X9_55 rfl dX9_storedOvers_48 ?_
  refine lv_if_le (tgt := 56) hx hb dX9_storedOvers_51 (by decide) (fun c17 => absurd c17 (by decide)) (fun _ => ?_)
  refine lv_fconst0 hx hb dX9_storedOvers_54 ?_
  exact g_fret C0 G hr dX9_storedOvers_55 (Nat.le_of_ble_eq_true rfl) (Nat.le_of_ble_eq_true rfl) (by exact ⟨rfl, k16, (fun a9 e9 h7 h8 => hup hf15 (fun q => h7 (by rw [q]; simp)) (h8))⟩)
def X9_storedOversE0_n0 (gm : Nat → Int32) (ix : Int32) : Nat := if (X9_isIn_x1 ix 0 ((gm 0) - 1)) = 0 then 2 else 0
def X9_storedOversE0_n1 (gs : Nat → Int32) (gm : Nat → Int32) (ix : Int32) : Nat := if (gs 0) = 0 then 2 else (X9_storedOversE0_n0 gm ix)
set_option maxRecDepth 100000 in
theorem k_X9_storedOversE0 {l : Launch} (hfl : l.stackTraces = false) {D : va_G} {cy : Nat → ClassId} {f : Hf} {sz : Nat} {m : Nat} {v : Nat} {im : Nat} {kp : Nat} {pa : Nat} {de : Nat} {ide : Nat} {tx : Nat} {pt : Nat} {so : Nat} {mo : Nat} {wh : Nat} {pf : Nat} {c_th : Int32} {c_re : Int32} {c_un : Int32} {c_hi : Int32} {c_tn : Int32} {c_fa : Int32} {c_rf : Int32} {c_ps : Int32} {c_pl : Int32} {c_to : Int32} {gs : Nat → Int32} {gm : Nat → Int32} (ix : Int32) (h_m : f m = some (.inr (11, [.int c_th, .int c_re, .ref v, .ref im, .ref kp, .ref pa, .ref de, .ref ide, .int c_un, .int c_hi, .ref tx, .int c_tn, .int c_fa, .int c_rf, .ref pt, .int c_ps, .int c_pl, .int c_to, .ref so, .ref mo, .ref wh, .ref pf]))) (h_so : f so = some (.inl (cy 0, 2, .inl gs))) (h_mo : f mo = some (.inl (cy 0, 2, .inl gm))) (herr : ¬ (nI (X9_storedOversE0_n1 gs gm ix)) ≤ 0) : hMet l yX9_storedOvers cX9_storedOvers 3 (some .float) { frames := 1, cells := 0, slots := 0, locals := 22 } D (hTy cy) f sz [.ref m, .int 0, .int ix] (hQf (fun r u => r = 0 ∧ u m = some (.inr (11, [.int (nI (X9_storedOversE0_n1 gs gm ix)), .int c_re, .ref v, .ref im, .ref kp, .ref pa, .ref de, .ref ide, .int c_un, .int c_hi, .ref tx, .int c_tn, .int c_fa, .int c_rf, .ref pt, .int c_ps, .int c_pl, .int c_to, .ref so, .ref mo, .ref wh, .ref pf])) ∧ hFrL f u [m]) D f sz) hNo := by
  refine h_enter (by decide) hfl (Nat.le_of_ble_eq_true rfl) ?_
  intro p9 e9 s9 m9 b9 t9 c9 hsz C0 hr hnm G ls hl
  have hx := C0.1.1
  have hb := C0.1.2.1
  have hl : lv_has ls 3 [(0, .ref m), (1, .int 0), (2, .int ix)] := hl
  refine lv_aload_n hx hb dX9_storedOvers_0 rfl (lv_at hl 0 rfl) ?_
  refine lv_iload_n hx hb dX9_storedOvers_1 rfl (lv_at hl 1 rfl) ?_
  refine lv_iconst (v := 0) hx hb dX9_storedOvers_2 (by decide) ?_
  refine lv_iconst (v := 1) hx hb dX9_storedOvers_3 (by decide) ?_
  refine g_cI C0 G (g_runS C0 G (rest := [.ref m]) (k_X9_isIn hfl 0 0 1 ) hY_X9_isIn mm_X9_76 ms_X9_isIn ⟨(Nat.le_of_ble_eq_true rfl), (Nat.le_of_ble_eq_true rfl)⟩ rfl hl.1 rfl (Nat.le_of_ble_eq_true rfl) dX9_storedOvers_4 ⟨(Nat.le_of_ble_eq_true rfl), (Nat.le_of_ble_eq_true rfl)⟩) (kx_no rfl) (fun r13 u12 H locs hp11 G => ?_)
  obtain ⟨zr, eu12⟩ := hp11
  replace zr := Eq.symm zr
  subst zr
  rw [eu12] at G
  refine lv_topv (v := 1) (by decide) ?_
  refine lv_if_ne (tgt := 14) hx hb dX9_storedOvers_7 (by decide) (fun _ => ?_) (fun c14 => absurd c14 (by decide))
  refine lv_aload_n hx hb dX9_storedOvers_14 rfl (lv_at hl 0 rfl) ?_
  refine g_get C0 G h_m rfl hiX9 18 (by decide) mf_X9_42 rfl dX9_storedOvers_15 ?_
  refine lv_iload_n hx hb dX9_storedOvers_18 rfl (lv_at hl 1 rfl) ?_
  refine g_iald C0 G h_so 0 rfl (by unfold vp_in; decide) dX9_storedOvers_19 ?_
  refine lv_topv (v := gs 0) rfl ?_
  have J17 : ∀ (y16 : Int32) (_ : y16 = nI (X9_storedOversE0_n1 gs gm ix)) (H : Heap) (locs : List Loc) (ls : Array Slot), hG D (hA f sz) f s9 H locs → lv_has ls 3 [(0, .ref m), (1, .int 0), (2, .int ix)] → W p9 l e9 ({ frames := 1, cells := 0, slots := 0, locals := 22 } : Room) s9 m9 ([.ref m, .int 0, .int ix] : List Value).toArray b9 t9 c9 H locs 0 0 (vx_MQ b9 (hQf (fun r u => r = 0 ∧ u m = some (.inr (11, [.int (nI (X9_storedOversE0_n1 gs gm ix)), .int c_re, .ref v, .ref im, .ref kp, .ref pa, .ref de, .ref ide, .int c_un, .int c_hi, .ref tx, .int c_tn, .int c_fa, .int c_rf, .ref pt, .int c_ps, .int c_pl, .int c_to, .ref so, .ref mo, .ref wh, .ref pf])) ∧ hFrL f u [m]) D f sz) (hPx hNo D f sz) ([.ref m, .int 0, .int ix] : List Value).toArray s9 0 0 (hA f sz)) (F0 m9 44 ls [.int y16, .ref m]) := by
    intro y16 ey16 H locs ls G hl
    replace ey16 := Eq.symm ey16
    subst ey16
    have bd19 : (X9_storedOversE0_n1 gs gm ix) ≤ 2 := by unfold X9_storedOversE0_n1 X9_storedOversE0_n0; repeat (first | omega | split)
    refine g_put C0 G h_m rfl hiX9 tyX9 tyX9_ok nmX9 0 (by decide) mf_X9_55 rfl rfl rfl rfl (Nat.le_of_ble_eq_true rfl) dX9_storedOvers_44 (fun H locs f20 hf20 G => ?_)
    have k21 : f20 m = some (.inr (11, [.int (nI (X9_storedOversE0_n1 gs gm ix)), .int c_re, .ref v, .ref im, .ref kp, .ref pa, .ref de, .ref ide, .int c_un, .int c_hi, .ref tx, .int c_tn, .int c_fa, .int c_rf, .ref pt, .int c_ps, .int c_pl, .int c_to, .ref so, .ref mo, .ref wh, .ref pf])) := hus hf20
    refine lv_aload_n hx hb dX9_storedOvers_47 rfl (lv_at hl 0 rfl) ?_
    refine g_get C0 G k21 rfl hiX9 0 (by decide) mf_X9_55 rfl dX9_storedOvers_48 ?_
    refine lv_if_le (tgt := 56) hx hb dX9_storedOvers_51 (by decide) (fun c22 => absurd c22 (herr)) (fun _ => ?_)
    refine lv_fconst0 hx hb dX9_storedOvers_54 ?_
    exact g_fret C0 G hr dX9_storedOvers_55 (Nat.le_of_ble_eq_true rfl) (Nat.le_of_ble_eq_true rfl) (by exact ⟨rfl, k21, (fun a9 e9 h7 h8 => hup hf20 (fun q => h7 (by rw [q]; simp)) (h8))⟩)
  refine lv_if_eq (tgt := 39) hx hb dX9_storedOvers_20 (by decide) (fun c15 => ?_) (fun c15 => ?_)
  · refine lv_iconst (v := 2) hx hb dX9_storedOvers_39 (by decide) ?_
    refine lv_goto (tgt := 44) hx hb dX9_storedOvers_40 (by decide) ?_
    exact J17 2 (by rw [X9_storedOversE0_n1, if_pos c15] <;> rfl) _ _ _ G (lv_sub hl [0, 1, 2] rfl)
  · refine lv_iload_n hx hb dX9_storedOvers_23 rfl (lv_at hl 2 rfl) ?_
    refine lv_iconst (v := 0) hx hb dX9_storedOvers_24 (by decide) ?_
    refine lv_aload_n hx hb dX9_storedOvers_25 rfl (lv_at hl 0 rfl) ?_
    refine g_get C0 G h_m rfl hiX9 19 (by decide) mf_X9_45 rfl dX9_storedOvers_26 ?_
    refine lv_iload_n hx hb dX9_storedOvers_29 rfl (lv_at hl 1 rfl) ?_
    refine g_iald C0 G h_mo 0 rfl (by unfold vp_in; decide) dX9_storedOvers_30 ?_
    refine lv_topv (v := gm 0) rfl ?_
    refine lv_iconst (v := 1) hx hb dX9_storedOvers_31 (by decide) ?_
    refine lv_isub hx hb dX9_storedOvers_32 ?_
    refine g_cI C0 G (g_runS C0 G (rest := [.ref m]) (k_X9_isIn hfl ix 0 ((gm 0) - 1) ) hY_X9_isIn mm_X9_76 ms_X9_isIn ⟨(Nat.le_of_ble_eq_true rfl), (Nat.le_of_ble_eq_true rfl)⟩ rfl hl.1 rfl (Nat.le_of_ble_eq_true rfl) dX9_storedOvers_33 ⟨(Nat.le_of_ble_eq_true rfl), (Nat.le_of_ble_eq_true rfl)⟩) (kx_no rfl) (fun r25 u24 H locs hp23 G => ?_)
    obtain ⟨zr, eu24⟩ := hp23
    replace zr := Eq.symm zr
    subst zr
    rw [eu24] at G
    have J28 : ∀ (y27 : Int32) (_ : y27 = nI (X9_storedOversE0_n0 gm ix)) (H : Heap) (locs : List Loc) (ls : Array Slot), hG D (hA f sz) f s9 H locs → lv_has ls 3 [(0, .ref m), (1, .int 0), (2, .int ix)] → W p9 l e9 ({ frames := 1, cells := 0, slots := 0, locals := 22 } : Room) s9 m9 ([.ref m, .int 0, .int ix] : List Value).toArray b9 t9 c9 H locs 0 0 (vx_MQ b9 (hQf (fun r u => r = 0 ∧ u m = some (.inr (11, [.int (nI (X9_storedOversE0_n1 gs gm ix)), .int c_re, .ref v, .ref im, .ref kp, .ref pa, .ref de, .ref ide, .int c_un, .int c_hi, .ref tx, .int c_tn, .int c_fa, .int c_rf, .ref pt, .int c_ps, .int c_pl, .int c_to, .ref so, .ref mo, .ref wh, .ref pf])) ∧ hFrL f u [m]) D f sz) (hPx hNo D f sz) ([.ref m, .int 0, .int ix] : List Value).toArray s9 0 0 (hA f sz)) (F0 m9 44 ls [.int y27, .ref m]) := by
      intro y27 ey27 H locs ls G hl
      replace ey27 := Eq.symm ey27
      subst ey27
      have bd30 : (X9_storedOversE0_n0 gm ix) ≤ 2 := by unfold X9_storedOversE0_n0; repeat (first | omega | split)
      exact J17 (nI (X9_storedOversE0_n0 gm ix)) (by rw [X9_storedOversE0_n1, if_neg c15] <;> rfl) _ _ _ G (lv_sub hl [0, 1, 2] rfl)
    refine lv_if_ne (tgt := 43) hx hb dX9_storedOvers_36 (by decide) (fun c26 => ?_) (fun c26 => ?_)
    · refine lv_iconst (v := 0) hx hb dX9_storedOvers_43 (by decide) ?_
      exact J28 0 (by rw [X9_storedOversE0_n0, if_neg c26] <;> rfl) _ _ _ G (lv_sub hl [0, 1, 2] rfl)
    · refine lv_iconst (v := 2) hx hb dX9_storedOvers_39 (by decide) ?_
      refine lv_goto (tgt := 44) hx hb dX9_storedOvers_40 (by decide) ?_
      exact J28 2 (by rw [X9_storedOversE0_n0, if_pos c26] <;> rfl) _ _ _ G (lv_sub hl [0, 1, 2] rfl)
def X9_storedOvers0_n0 (gm : Nat → Int32) (kx : Nat) : Nat := if (X9_isIn_x1 (nI kx) 0 ((gm 0) - 1)) = 0 then 2 else 0
def X9_storedOvers0_n1 (gs : Nat → Int32) (gm : Nat → Int32) (kx : Nat) : Nat := if (gs 0) = 0 then 2 else (X9_storedOvers0_n0 gm kx)
def X9_storedOvers0_x2 (gs : Nat → Int32) (gw : Nat → Int32) (gf : Nat → UInt32) (kx : Nat) : UInt32 := if (gs 0) = 1 then (FP.i2f (gw (0 + kx))) else (gf (0 + kx))
def X9_storedOvers0_r3 (gs : Nat → Int32) (gm : Nat → Int32) (gw : Nat → Int32) (gf : Nat → UInt32) (kx : Nat) : UInt32 := if (nI (X9_storedOvers0_n1 gs gm kx)) ≤ 0 then (X9_storedOvers0_x2 gs gw gf kx) else 0
set_option maxRecDepth 100000 in
theorem k_X9_storedOvers0 {l : Launch} (hfl : l.stackTraces = false) {D : va_G} {cy : Nat → ClassId} {f : Hf} {sz : Nat} {m : Nat} {v : Nat} {im : Nat} {kp : Nat} {pa : Nat} {de : Nat} {ide : Nat} {tx : Nat} {pt : Nat} {so : Nat} {mo : Nat} {wh : Nat} {pf : Nat} {c_th : Int32} {c_re : Int32} {c_un : Int32} {c_hi : Int32} {c_tn : Int32} {c_fa : Int32} {c_rf : Int32} {c_ps : Int32} {c_pl : Int32} {c_to : Int32} {gs : Nat → Int32} {gm : Nat → Int32} {gw : Nat → Int32} {gf : Nat → UInt32} {ix : Int32} {kx : Nat} (h_m : f m = some (.inr (11, [.int c_th, .int c_re, .ref v, .ref im, .ref kp, .ref pa, .ref de, .ref ide, .int c_un, .int c_hi, .ref tx, .int c_tn, .int c_fa, .int c_rf, .ref pt, .int c_ps, .int c_pl, .int c_to, .ref so, .ref mo, .ref wh, .ref pf]))) (h_so : f so = some (.inl (cy 0, 2, .inl gs))) (h_mo : f mo = some (.inl (cy 0, 2, .inl gm))) (h_wh : f wh = some (.inl (cy 0, 42, .inl gw))) (h_pf : f pf = some (.inl (cy 2, 42, .inr (.inr (.inl gf))))) (hkx : kx < 21) : hMet l yX9_storedOvers cX9_storedOvers 3 (some .float) { frames := 1, cells := 0, slots := 0, locals := 22 } D (hTy cy) f sz [.ref m, .int 0, .int (nI kx)] (hQf (fun r u => r = (X9_storedOvers0_r3 gs gm gw gf kx) ∧ u m = some (.inr (11, [.int (nI (X9_storedOvers0_n1 gs gm kx)), .int c_re, .ref v, .ref im, .ref kp, .ref pa, .ref de, .ref ide, .int c_un, .int c_hi, .ref tx, .int c_tn, .int c_fa, .int c_rf, .ref pt, .int c_ps, .int c_pl, .int c_to, .ref so, .ref mo, .ref wh, .ref pf])) ∧ hFrL f u [m]) D f sz) hNo := by
  refine h_enter (by decide) hfl (Nat.le_of_ble_eq_true rfl) ?_
  intro p9 e9 s9 m9 b9 t9 c9 hsz C0 hr hnm G ls hl
  have hx := C0.1.1
  have hb := C0.1.2.1
  have hl : lv_has ls 3 [(0, .ref m), (1, .int 0), (2, .int (nI kx))] := hl
  refine lv_aload_n hx hb dX9_storedOvers_0 rfl (lv_at hl 0 rfl) ?_
  refine lv_iload_n hx hb dX9_storedOvers_1 rfl (lv_at hl 1 rfl) ?_
  refine lv_iconst (v := 0) hx hb dX9_storedOvers_2 (by decide) ?_
  refine lv_iconst (v := 1) hx hb dX9_storedOvers_3 (by decide) ?_
  refine g_cI C0 G (g_runS C0 G (rest := [.ref m]) (k_X9_isIn hfl 0 0 1 ) hY_X9_isIn mm_X9_76 ms_X9_isIn ⟨(Nat.le_of_ble_eq_true rfl), (Nat.le_of_ble_eq_true rfl)⟩ rfl hl.1 rfl (Nat.le_of_ble_eq_true rfl) dX9_storedOvers_4 ⟨(Nat.le_of_ble_eq_true rfl), (Nat.le_of_ble_eq_true rfl)⟩) (kx_no rfl) (fun r13 u12 H locs hp11 G => ?_)
  obtain ⟨zr, eu12⟩ := hp11
  replace zr := Eq.symm zr
  subst zr
  rw [eu12] at G
  refine lv_topv (v := 1) (by decide) ?_
  refine lv_if_ne (tgt := 14) hx hb dX9_storedOvers_7 (by decide) (fun _ => ?_) (fun c14 => absurd c14 (by decide))
  refine lv_aload_n hx hb dX9_storedOvers_14 rfl (lv_at hl 0 rfl) ?_
  refine g_get C0 G h_m rfl hiX9 18 (by decide) mf_X9_42 rfl dX9_storedOvers_15 ?_
  refine lv_iload_n hx hb dX9_storedOvers_18 rfl (lv_at hl 1 rfl) ?_
  refine g_iald C0 G h_so 0 rfl (by unfold vp_in; decide) dX9_storedOvers_19 ?_
  refine lv_topv (v := gs 0) rfl ?_
  have J17 : ∀ (y16 : Int32) (_ : y16 = nI (X9_storedOvers0_n1 gs gm kx)) (H : Heap) (locs : List Loc) (ls : Array Slot), hG D (hA f sz) f s9 H locs → lv_has ls 3 [(0, .ref m), (1, .int 0), (2, .int (nI kx))] → W p9 l e9 ({ frames := 1, cells := 0, slots := 0, locals := 22 } : Room) s9 m9 ([.ref m, .int 0, .int (nI kx)] : List Value).toArray b9 t9 c9 H locs 0 0 (vx_MQ b9 (hQf (fun r u => r = (X9_storedOvers0_r3 gs gm gw gf kx) ∧ u m = some (.inr (11, [.int (nI (X9_storedOvers0_n1 gs gm kx)), .int c_re, .ref v, .ref im, .ref kp, .ref pa, .ref de, .ref ide, .int c_un, .int c_hi, .ref tx, .int c_tn, .int c_fa, .int c_rf, .ref pt, .int c_ps, .int c_pl, .int c_to, .ref so, .ref mo, .ref wh, .ref pf])) ∧ hFrL f u [m]) D f sz) (hPx hNo D f sz) ([.ref m, .int 0, .int (nI kx)] : List Value).toArray s9 0 0 (hA f sz)) (F0 m9 44 ls [.int y16, .ref m]) := by
    intro y16 ey16 H locs ls G hl
    replace ey16 := Eq.symm ey16
    subst ey16
    have bd19 : (X9_storedOvers0_n1 gs gm kx) ≤ 2 := by unfold X9_storedOvers0_n1 X9_storedOvers0_n0; repeat (first | omega | split)
    refine g_put C0 G h_m rfl hiX9 tyX9 tyX9_ok nmX9 0 (by decide) mf_X9_55 rfl rfl rfl rfl (Nat.le_of_ble_eq_true rfl) dX9_storedOvers_44 (fun H locs f20 hf20 G => ?_)
    have k21 : f20 m = some (.inr (11, [.int (nI (X9_storedOvers0_n1 gs gm kx)), .int c_re, .ref v, .ref im, .ref kp, .ref pa, .ref de, .ref ide, .int c_un, .int c_hi, .ref tx, .int c_tn, .int c_fa, .int c_rf, .ref pt, .int c_ps, .int c_pl, .int c_to, .ref so, .ref mo, .ref wh, .ref pf])) := hus hf20
    refine lv_aload_n hx hb dX9_storedOvers_47 rfl (lv_at hl 0 rfl) ?_
    refine g_get C0 G k21 rfl hiX9 0 (by decide) mf_X9_55 rfl dX9_storedOvers_48 ?_
    refine lv_if_le (tgt := 56) hx hb dX9_storedOvers_51 (by decide) (fun c22 => ?_) (fun c22 => ?_)
    · have n23 : (X9_storedOvers0_n1 gs gm kx) ≤ 0 := (nI_leI (a := (X9_storedOvers0_n1 gs gm kx)) (b := 0) (by omega) (by omega)).mp c22
      refine lv_aload_n hx hb dX9_storedOvers_56 rfl (lv_at hl 0 rfl) ?_
      refine g_get C0 G k21 rfl hiX9 18 (by decide) mf_X9_42 rfl dX9_storedOvers_57 ?_
      refine lv_iload_n hx hb dX9_storedOvers_60 rfl (lv_at hl 1 rfl) ?_
      have k24 : f20 so = some (.inl (cy 0, 2, .inl gs)) := hup hf20 (hne h_so h_m (by intro q; cases q)) h_so
      refine g_iald C0 G k24 0 rfl (by unfold vp_in; decide) dX9_storedOvers_61 ?_
      refine lv_topv (v := gs 0) rfl ?_
      refine lv_iconst (v := 1) hx hb dX9_storedOvers_62 (by decide) ?_
      have J27 : ∀ (y26 : UInt32) (_ : y26 = (X9_storedOvers0_x2 gs gw gf kx)) (H : Heap) (locs : List Loc) (ls : Array Slot), hG D (hA f sz) f20 s9 H locs → lv_has ls 3 [(0, .ref m), (1, .int 0), (2, .int (nI kx))] → W p9 l e9 ({ frames := 1, cells := 0, slots := 0, locals := 22 } : Room) s9 m9 ([.ref m, .int 0, .int (nI kx)] : List Value).toArray b9 t9 c9 H locs 0 0 (vx_MQ b9 (hQf (fun r u => r = (X9_storedOvers0_r3 gs gm gw gf kx) ∧ u m = some (.inr (11, [.int (nI (X9_storedOvers0_n1 gs gm kx)), .int c_re, .ref v, .ref im, .ref kp, .ref pa, .ref de, .ref ide, .int c_un, .int c_hi, .ref tx, .int c_tn, .int c_fa, .int c_rf, .ref pt, .int c_ps, .int c_pl, .int c_to, .ref so, .ref mo, .ref wh, .ref pf])) ∧ hFrL f u [m]) D f sz) (hPx hNo D f sz) ([.ref m, .int 0, .int (nI kx)] : List Value).toArray s9 0 0 (hA f sz)) (F0 m9 92 ls [.float y26]) := by
        intro y26 ey26 H locs ls G hl
        replace ey26 := Eq.symm ey26
        subst ey26
        exact g_fret C0 G hr dX9_storedOvers_92 (Nat.le_of_ble_eq_true rfl) (Nat.le_of_ble_eq_true rfl) (by exact ⟨(by rw [X9_storedOvers0_r3, if_pos c22] <;> rfl), k21, (fun a9 e9 h7 h8 => hup hf20 (fun q => h7 (by rw [q]; simp)) (h8))⟩)
      refine lv_icmp_ne (tgt := 81) hx hb dX9_storedOvers_63 (by decide) (fun c25 => ?_) (fun c25 => ?_)
      · refine lv_aload_n hx hb dX9_storedOvers_81 rfl (lv_at hl 0 rfl) ?_
        refine g_get C0 G k21 rfl hiX9 21 (by decide) mf_X9_51 rfl dX9_storedOvers_82 ?_
        refine lv_bipush (v := 21) hx hb dX9_storedOvers_85 (by decide) ?_
        refine lv_iload_n hx hb dX9_storedOvers_87 rfl (lv_at hl 1 rfl) ?_
        refine lv_imul hx hb dX9_storedOvers_88 ?_
        refine lv_topv (v := 0) (by decide) ?_
        refine lv_iload_n hx hb dX9_storedOvers_89 rfl (lv_at hl 2 rfl) ?_
        refine lv_iadd hx hb dX9_storedOvers_90 ?_
        refine lv_topv (v := nI (0 + kx)) ((nI_add _ _)) ?_
        have k29 : f20 pf = some (.inl (cy 2, 42, .inr (.inr (.inl gf)))) := hup hf20 (hne h_pf h_m (by intro q; first | (cases q; done) | (simp at q; done))) h_pf
        refine g_fald C0 G k29 2 rfl (vp_in_nI (by omega) (by omega)) dX9_storedOvers_91 ?_
        refine lv_topF (v := gf (0 + kx)) (congrArg gf (nI_c (by omega))) ?_
        exact J27 (gf (0 + kx)) (by rw [X9_storedOvers0_x2, if_neg c25]) _ _ _ G (lv_sub hl [0, 1, 2] rfl)
      · refine lv_aload_n hx hb dX9_storedOvers_66 rfl (lv_at hl 0 rfl) ?_
        refine g_get C0 G k21 rfl hiX9 20 (by decide) mf_X9_48 rfl dX9_storedOvers_67 ?_
        refine lv_bipush (v := 21) hx hb dX9_storedOvers_70 (by decide) ?_
        refine lv_iload_n hx hb dX9_storedOvers_72 rfl (lv_at hl 1 rfl) ?_
        refine lv_imul hx hb dX9_storedOvers_73 ?_
        refine lv_topv (v := 0) (by decide) ?_
        refine lv_iload_n hx hb dX9_storedOvers_74 rfl (lv_at hl 2 rfl) ?_
        refine lv_iadd hx hb dX9_storedOvers_75 ?_
        refine lv_topv (v := nI (0 + kx)) ((nI_add _ _)) ?_
        have k30 : f20 wh = some (.inl (cy 0, 42, .inl gw)) := hup hf20 (hne h_wh h_m (by intro q; cases q)) h_wh
        refine g_iald C0 G k30 0 rfl (vp_in_nI (by omega) (by omega)) dX9_storedOvers_76 ?_
        refine lv_topv (v := gw (0 + kx)) (congrArg gw (nI_c (by omega))) ?_
        refine lv_i2f hx hb dX9_storedOvers_77 ?_
        refine lv_goto (tgt := 92) hx hb dX9_storedOvers_78 (by decide) ?_
        exact J27 (FP.i2f (gw (0 + kx))) (by rw [X9_storedOvers0_x2, if_pos c25]) _ _ _ G (lv_sub hl [0, 1, 2] rfl)
    · have n31 : ¬ (X9_storedOvers0_n1 gs gm kx) ≤ 0 := fun q => c22 ((nI_leI (a := (X9_storedOvers0_n1 gs gm kx)) (b := 0) (by omega) (by omega)).mpr q)
      refine lv_fconst0 hx hb dX9_storedOvers_54 ?_
      exact g_fret C0 G hr dX9_storedOvers_55 (Nat.le_of_ble_eq_true rfl) (Nat.le_of_ble_eq_true rfl) (by exact ⟨(by rw [X9_storedOvers0_r3, if_neg c22] <;> rfl), k21, (fun a9 e9 h7 h8 => hup hf20 (fun q => h7 (by rw [q]; simp)) (h8))⟩)
  refine lv_if_eq (tgt := 39) hx hb dX9_storedOvers_20 (by decide) (fun c15 => ?_) (fun c15 => ?_)
  · refine lv_iconst (v := 2) hx hb dX9_storedOvers_39 (by decide) ?_
    refine lv_goto (tgt := 44) hx hb dX9_storedOvers_40 (by decide) ?_
    exact J17 2 (by rw [X9_storedOvers0_n1, if_pos c15] <;> rfl) _ _ _ G (lv_sub hl [0, 1, 2] rfl)
  · refine lv_iload_n hx hb dX9_storedOvers_23 rfl (lv_at hl 2 rfl) ?_
    refine lv_iconst (v := 0) hx hb dX9_storedOvers_24 (by decide) ?_
    refine lv_aload_n hx hb dX9_storedOvers_25 rfl (lv_at hl 0 rfl) ?_
    refine g_get C0 G h_m rfl hiX9 19 (by decide) mf_X9_45 rfl dX9_storedOvers_26 ?_
    refine lv_iload_n hx hb dX9_storedOvers_29 rfl (lv_at hl 1 rfl) ?_
    refine g_iald C0 G h_mo 0 rfl (by unfold vp_in; decide) dX9_storedOvers_30 ?_
    refine lv_topv (v := gm 0) rfl ?_
    refine lv_iconst (v := 1) hx hb dX9_storedOvers_31 (by decide) ?_
    refine lv_isub hx hb dX9_storedOvers_32 ?_
    refine g_cI C0 G (g_runS C0 G (rest := [.ref m]) (k_X9_isIn hfl (nI kx) 0 ((gm 0) - 1) ) hY_X9_isIn mm_X9_76 ms_X9_isIn ⟨(Nat.le_of_ble_eq_true rfl), (Nat.le_of_ble_eq_true rfl)⟩ rfl hl.1 rfl (Nat.le_of_ble_eq_true rfl) dX9_storedOvers_33 ⟨(Nat.le_of_ble_eq_true rfl), (Nat.le_of_ble_eq_true rfl)⟩) (kx_no rfl) (fun r34 u33 H locs hp32 G => ?_)
    obtain ⟨zr, eu33⟩ := hp32
    replace zr := Eq.symm zr
    subst zr
    rw [eu33] at G
    have J37 : ∀ (y36 : Int32) (_ : y36 = nI (X9_storedOvers0_n0 gm kx)) (H : Heap) (locs : List Loc) (ls : Array Slot), hG D (hA f sz) f s9 H locs → lv_has ls 3 [(0, .ref m), (1, .int 0), (2, .int (nI kx))] → W p9 l e9 ({ frames := 1, cells := 0, slots := 0, locals := 22 } : Room) s9 m9 ([.ref m, .int 0, .int (nI kx)] : List Value).toArray b9 t9 c9 H locs 0 0 (vx_MQ b9 (hQf (fun r u => r = (X9_storedOvers0_r3 gs gm gw gf kx) ∧ u m = some (.inr (11, [.int (nI (X9_storedOvers0_n1 gs gm kx)), .int c_re, .ref v, .ref im, .ref kp, .ref pa, .ref de, .ref ide, .int c_un, .int c_hi, .ref tx, .int c_tn, .int c_fa, .int c_rf, .ref pt, .int c_ps, .int c_pl, .int c_to, .ref so, .ref mo, .ref wh, .ref pf])) ∧ hFrL f u [m]) D f sz) (hPx hNo D f sz) ([.ref m, .int 0, .int (nI kx)] : List Value).toArray s9 0 0 (hA f sz)) (F0 m9 44 ls [.int y36, .ref m]) := by
      intro y36 ey36 H locs ls G hl
      replace ey36 := Eq.symm ey36
      subst ey36
      have bd39 : (X9_storedOvers0_n0 gm kx) ≤ 2 := by unfold X9_storedOvers0_n0; repeat (first | omega | split)
      exact J17 (nI (X9_storedOvers0_n0 gm kx)) (by rw [X9_storedOvers0_n1, if_neg c15] <;> rfl) _ _ _ G (lv_sub hl [0, 1, 2] rfl)
    refine lv_if_ne (tgt := 43) hx hb dX9_storedOvers_36 (by decide) (fun c35 => ?_) (fun c35 => ?_)
    · refine lv_iconst (v := 0) hx hb dX9_storedOvers_43 (by decide) ?_
      exact J37 0 (by rw [X9_storedOvers0_n0, if_neg c35] <;> rfl) _ _ _ G (lv_sub hl [0, 1, 2] rfl)
    · refine lv_iconst (v := 2) hx hb dX9_storedOvers_39 (by decide) ?_
      refine lv_goto (tgt := 44) hx hb dX9_storedOvers_40 (by decide) ?_
      exact J37 2 (by rw [X9_storedOvers0_n0, if_pos c35] <;> rfl) _ _ _ G (lv_sub hl [0, 1, 2] rfl)
def X9_storedOversE1_n0 (gm : Nat → Int32) (ix : Int32) : Nat := if (X9_isIn_x1 ix 0 ((gm 1) - 1)) = 0 then 2 else 0
def X9_storedOversE1_n1 (gs : Nat → Int32) (gm : Nat → Int32) (ix : Int32) : Nat := if (gs 1) = 0 then 2 else (X9_storedOversE1_n0 gm ix)
set_option maxRecDepth 100000 in
theorem k_X9_storedOversE1 {l : Launch} (hfl : l.stackTraces = false) {D : va_G} {cy : Nat → ClassId} {f : Hf} {sz : Nat} {m : Nat} {v : Nat} {im : Nat} {kp : Nat} {pa : Nat} {de : Nat} {ide : Nat} {tx : Nat} {pt : Nat} {so : Nat} {mo : Nat} {wh : Nat} {pf : Nat} {c_th : Int32} {c_re : Int32} {c_un : Int32} {c_hi : Int32} {c_tn : Int32} {c_fa : Int32} {c_rf : Int32} {c_ps : Int32} {c_pl : Int32} {c_to : Int32} {gs : Nat → Int32} {gm : Nat → Int32} (ix : Int32) (h_m : f m = some (.inr (11, [.int c_th, .int c_re, .ref v, .ref im, .ref kp, .ref pa, .ref de, .ref ide, .int c_un, .int c_hi, .ref tx, .int c_tn, .int c_fa, .int c_rf, .ref pt, .int c_ps, .int c_pl, .int c_to, .ref so, .ref mo, .ref wh, .ref pf]))) (h_so : f so = some (.inl (cy 0, 2, .inl gs))) (h_mo : f mo = some (.inl (cy 0, 2, .inl gm))) (herr : ¬ (nI (X9_storedOversE1_n1 gs gm ix)) ≤ 0) : hMet l yX9_storedOvers cX9_storedOvers 3 (some .float) { frames := 1, cells := 0, slots := 0, locals := 22 } D (hTy cy) f sz [.ref m, .int 1, .int ix] (hQf (fun r u => r = 0 ∧ u m = some (.inr (11, [.int (nI (X9_storedOversE1_n1 gs gm ix)), .int c_re, .ref v, .ref im, .ref kp, .ref pa, .ref de, .ref ide, .int c_un, .int c_hi, .ref tx, .int c_tn, .int c_fa, .int c_rf, .ref pt, .int c_ps, .int c_pl, .int c_to, .ref so, .ref mo, .ref wh, .ref pf])) ∧ hFrL f u [m]) D f sz) hNo := by
  refine h_enter (by decide) hfl (Nat.le_of_ble_eq_true rfl) ?_
  intro p9 e9 s9 m9 b9 t9 c9 hsz C0 hr hnm G ls hl
  have hx := C0.1.1
  have hb := C0.1.2.1
  have hl : lv_has ls 3 [(0, .ref m), (1, .int 1), (2, .int ix)] := hl
  refine lv_aload_n hx hb dX9_storedOvers_0 rfl (lv_at hl 0 rfl) ?_
  refine lv_iload_n hx hb dX9_storedOvers_1 rfl (lv_at hl 1 rfl) ?_
  refine lv_iconst (v := 0) hx hb dX9_storedOvers_2 (by decide) ?_
  refine lv_iconst (v := 1) hx hb dX9_storedOvers_3 (by decide) ?_
  refine g_cI C0 G (g_runS C0 G (rest := [.ref m]) (k_X9_isIn hfl 1 0 1 ) hY_X9_isIn mm_X9_76 ms_X9_isIn ⟨(Nat.le_of_ble_eq_true rfl), (Nat.le_of_ble_eq_true rfl)⟩ rfl hl.1 rfl (Nat.le_of_ble_eq_true rfl) dX9_storedOvers_4 ⟨(Nat.le_of_ble_eq_true rfl), (Nat.le_of_ble_eq_true rfl)⟩) (kx_no rfl) (fun r13 u12 H locs hp11 G => ?_)
  obtain ⟨zr, eu12⟩ := hp11
  replace zr := Eq.symm zr
  subst zr
  rw [eu12] at G
  refine lv_topv (v := 1) (by decide) ?_
  refine lv_if_ne (tgt := 14) hx hb dX9_storedOvers_7 (by decide) (fun _ => ?_) (fun c14 => absurd c14 (by decide))
  refine lv_aload_n hx hb dX9_storedOvers_14 rfl (lv_at hl 0 rfl) ?_
  refine g_get C0 G h_m rfl hiX9 18 (by decide) mf_X9_42 rfl dX9_storedOvers_15 ?_
  refine lv_iload_n hx hb dX9_storedOvers_18 rfl (lv_at hl 1 rfl) ?_
  refine g_iald C0 G h_so 0 rfl (by unfold vp_in; decide) dX9_storedOvers_19 ?_
  refine lv_topv (v := gs 1) rfl ?_
  have J17 : ∀ (y16 : Int32) (_ : y16 = nI (X9_storedOversE1_n1 gs gm ix)) (H : Heap) (locs : List Loc) (ls : Array Slot), hG D (hA f sz) f s9 H locs → lv_has ls 3 [(0, .ref m), (1, .int 1), (2, .int ix)] → W p9 l e9 ({ frames := 1, cells := 0, slots := 0, locals := 22 } : Room) s9 m9 ([.ref m, .int 1, .int ix] : List Value).toArray b9 t9 c9 H locs 0 0 (vx_MQ b9 (hQf (fun r u => r = 0 ∧ u m = some (.inr (11, [.int (nI (X9_storedOversE1_n1 gs gm ix)), .int c_re, .ref v, .ref im, .ref kp, .ref pa, .ref de, .ref ide, .int c_un, .int c_hi, .ref tx, .int c_tn, .int c_fa, .int c_rf, .ref pt, .int c_ps, .int c_pl, .int c_to, .ref so, .ref mo, .ref wh, .ref pf])) ∧ hFrL f u [m]) D f sz) (hPx hNo D f sz) ([.ref m, .int 1, .int ix] : List Value).toArray s9 0 0 (hA f sz)) (F0 m9 44 ls [.int y16, .ref m]) := by
    intro y16 ey16 H locs ls G hl
    replace ey16 := Eq.symm ey16
    subst ey16
    have bd19 : (X9_storedOversE1_n1 gs gm ix) ≤ 2 := by unfold X9_storedOversE1_n1 X9_storedOversE1_n0; repeat (first | omega | split)
    refine g_put C0 G h_m rfl hiX9 tyX9 tyX9_ok nmX9 0 (by decide) mf_X9_55 rfl rfl rfl rfl (Nat.le_of_ble_eq_true rfl) dX9_storedOvers_44 (fun H locs f20 hf20 G => ?_)
    have k21 : f20 m = some (.inr (11, [.int (nI (X9_storedOversE1_n1 gs gm ix)), .int c_re, .ref v, .ref im, .ref kp, .ref pa, .ref de, .ref ide, .int c_un, .int c_hi, .ref tx, .int c_tn, .int c_fa, .int c_rf, .ref pt, .int c_ps, .int c_pl, .int c_to, .ref so, .ref mo, .ref wh, .ref pf])) := hus hf20
    refine lv_aload_n hx hb dX9_storedOvers_47 rfl (lv_at hl 0 rfl) ?_
    refine g_get C0 G k21 rfl hiX9 0 (by decide) mf_X9_55 rfl dX9_storedOvers_48 ?_
    refine lv_if_le (tgt := 56) hx hb dX9_storedOvers_51 (by decide) (fun c22 => absurd c22 (herr)) (fun _ => ?_)
    refine lv_fconst0 hx hb dX9_storedOvers_54 ?_
    exact g_fret C0 G hr dX9_storedOvers_55 (Nat.le_of_ble_eq_true rfl) (Nat.le_of_ble_eq_true rfl) (by exact ⟨rfl, k21, (fun a9 e9 h7 h8 => hup hf20 (fun q => h7 (by rw [q]; simp)) (h8))⟩)
  refine lv_if_eq (tgt := 39) hx hb dX9_storedOvers_20 (by decide) (fun c15 => ?_) (fun c15 => ?_)
  · refine lv_iconst (v := 2) hx hb dX9_storedOvers_39 (by decide) ?_
    refine lv_goto (tgt := 44) hx hb dX9_storedOvers_40 (by decide) ?_
    exact J17 2 (by rw [X9_storedOversE1_n1, if_pos c15] <;> rfl) _ _ _ G (lv_sub hl [0, 1, 2] rfl)
  · refine lv_iload_n hx hb dX9_storedOvers_23 rfl (lv_at hl 2 rfl) ?_
    refine lv_iconst (v := 0) hx hb dX9_storedOvers_24 (by decide) ?_
    refine lv_aload_n hx hb dX9_storedOvers_25 rfl (lv_at hl 0 rfl) ?_
    refine g_get C0 G h_m rfl hiX9 19 (by decide) mf_X9_45 rfl dX9_storedOvers_26 ?_
    refine lv_iload_n hx hb dX9_storedOvers_29 rfl (lv_at hl 1 rfl) ?_
    refine g_iald C0 G h_mo 0 rfl (by unfold vp_in; decide) dX9_storedOvers_30 ?_
    refine lv_topv (v := gm 1) rfl ?_
    refine lv_iconst (v := 1) hx hb dX9_storedOvers_31 (by decide) ?_
    refine lv_isub hx hb dX9_storedOvers_32 ?_
    refine g_cI C0 G (g_runS C0 G (rest := [.ref m]) (k_X9_isIn hfl ix 0 ((gm 1) - 1) ) hY_X9_isIn mm_X9_76 ms_X9_isIn ⟨(Nat.le_of_ble_eq_true rfl), (Nat.le_of_ble_eq_true rfl)⟩ rfl hl.1 rfl (Nat.le_of_ble_eq_true rfl) dX9_storedOvers_33 ⟨(Nat.le_of_ble_eq_true rfl), (Nat.le_of_ble_eq_true rfl)⟩) (kx_no rfl) (fun r25 u24 H locs hp23 G => ?_)
    obtain ⟨zr, eu24⟩ := hp23
    replace zr := Eq.symm zr
    subst zr
    rw [eu24] at G
    have J28 : ∀ (y27 : Int32) (_ : y27 = nI (X9_storedOversE1_n0 gm ix)) (H : Heap) (locs : List Loc) (ls : Array Slot), hG D (hA f sz) f s9 H locs → lv_has ls 3 [(0, .ref m), (1, .int 1), (2, .int ix)] → W p9 l e9 ({ frames := 1, cells := 0, slots := 0, locals := 22 } : Room) s9 m9 ([.ref m, .int 1, .int ix] : List Value).toArray b9 t9 c9 H locs 0 0 (vx_MQ b9 (hQf (fun r u => r = 0 ∧ u m = some (.inr (11, [.int (nI (X9_storedOversE1_n1 gs gm ix)), .int c_re, .ref v, .ref im, .ref kp, .ref pa, .ref de, .ref ide, .int c_un, .int c_hi, .ref tx, .int c_tn, .int c_fa, .int c_rf, .ref pt, .int c_ps, .int c_pl, .int c_to, .ref so, .ref mo, .ref wh, .ref pf])) ∧ hFrL f u [m]) D f sz) (hPx hNo D f sz) ([.ref m, .int 1, .int ix] : List Value).toArray s9 0 0 (hA f sz)) (F0 m9 44 ls [.int y27, .ref m]) := by
      intro y27 ey27 H locs ls G hl
      replace ey27 := Eq.symm ey27
      subst ey27
      have bd30 : (X9_storedOversE1_n0 gm ix) ≤ 2 := by unfold X9_storedOversE1_n0; repeat (first | omega | split)
      exact J17 (nI (X9_storedOversE1_n0 gm ix)) (by rw [X9_storedOversE1_n1, if_neg c15] <;> rfl) _ _ _ G (lv_sub hl [0, 1, 2] rfl)
    refine lv_if_ne (tgt := 43) hx hb dX9_storedOvers_36 (by decide) (fun c26 => ?_) (fun c26 => ?_)
    · refine lv_iconst (v := 0) hx hb dX9_storedOvers_43 (by decide) ?_
      exact J28 0 (by rw [X9_storedOversE1_n0, if_neg c26] <;> rfl) _ _ _ G (lv_sub hl [0, 1, 2] rfl)
    · refine lv_iconst (v := 2) hx hb dX9_storedOvers_39 (by decide) ?_
      refine lv_goto (tgt := 44) hx hb dX9_storedOvers_40 (by decide) ?_
      exact J28 2 (by rw [X9_storedOversE1_n0, if_pos c26] <;> rfl) _ _ _ G (lv_sub hl [0, 1, 2] rfl)
def X9_storedOvers1_n0 (gm : Nat → Int32) (kx : Nat) : Nat := if (X9_isIn_x1 (nI kx) 0 ((gm 1) - 1)) = 0 then 2 else 0
def X9_storedOvers1_n1 (gs : Nat → Int32) (gm : Nat → Int32) (kx : Nat) : Nat := if (gs 1) = 0 then 2 else (X9_storedOvers1_n0 gm kx)
def X9_storedOvers1_x2 (gs : Nat → Int32) (gw : Nat → Int32) (gf : Nat → UInt32) (kx : Nat) : UInt32 := if (gs 1) = 1 then (FP.i2f (gw (21 + kx))) else (gf (21 + kx))
def X9_storedOvers1_r3 (gs : Nat → Int32) (gm : Nat → Int32) (gw : Nat → Int32) (gf : Nat → UInt32) (kx : Nat) : UInt32 := if (nI (X9_storedOvers1_n1 gs gm kx)) ≤ 0 then (X9_storedOvers1_x2 gs gw gf kx) else 0
set_option maxRecDepth 100000 in
theorem k_X9_storedOvers1 {l : Launch} (hfl : l.stackTraces = false) {D : va_G} {cy : Nat → ClassId} {f : Hf} {sz : Nat} {m : Nat} {v : Nat} {im : Nat} {kp : Nat} {pa : Nat} {de : Nat} {ide : Nat} {tx : Nat} {pt : Nat} {so : Nat} {mo : Nat} {wh : Nat} {pf : Nat} {c_th : Int32} {c_re : Int32} {c_un : Int32} {c_hi : Int32} {c_tn : Int32} {c_fa : Int32} {c_rf : Int32} {c_ps : Int32} {c_pl : Int32} {c_to : Int32} {gs : Nat → Int32} {gm : Nat → Int32} {gw : Nat → Int32} {gf : Nat → UInt32} {ix : Int32} {kx : Nat} (h_m : f m = some (.inr (11, [.int c_th, .int c_re, .ref v, .ref im, .ref kp, .ref pa, .ref de, .ref ide, .int c_un, .int c_hi, .ref tx, .int c_tn, .int c_fa, .int c_rf, .ref pt, .int c_ps, .int c_pl, .int c_to, .ref so, .ref mo, .ref wh, .ref pf]))) (h_so : f so = some (.inl (cy 0, 2, .inl gs))) (h_mo : f mo = some (.inl (cy 0, 2, .inl gm))) (h_wh : f wh = some (.inl (cy 0, 42, .inl gw))) (h_pf : f pf = some (.inl (cy 2, 42, .inr (.inr (.inl gf))))) (hkx : kx < 21) : hMet l yX9_storedOvers cX9_storedOvers 3 (some .float) { frames := 1, cells := 0, slots := 0, locals := 22 } D (hTy cy) f sz [.ref m, .int 1, .int (nI kx)] (hQf (fun r u => r = (X9_storedOvers1_r3 gs gm gw gf kx) ∧ u m = some (.inr (11, [.int (nI (X9_storedOvers1_n1 gs gm kx)), .int c_re, .ref v, .ref im, .ref kp, .ref pa, .ref de, .ref ide, .int c_un, .int c_hi, .ref tx, .int c_tn, .int c_fa, .int c_rf, .ref pt, .int c_ps, .int c_pl, .int c_to, .ref so, .ref mo, .ref wh, .ref pf])) ∧ hFrL f u [m]) D f sz) hNo := by
  refine h_enter (by decide) hfl (Nat.le_of_ble_eq_true rfl) ?_
  intro p9 e9 s9 m9 b9 t9 c9 hsz C0 hr hnm G ls hl
  have hx := C0.1.1
  have hb := C0.1.2.1
  have hl : lv_has ls 3 [(0, .ref m), (1, .int 1), (2, .int (nI kx))] := hl
  refine lv_aload_n hx hb dX9_storedOvers_0 rfl (lv_at hl 0 rfl) ?_
  refine lv_iload_n hx hb dX9_storedOvers_1 rfl (lv_at hl 1 rfl) ?_
  refine lv_iconst (v := 0) hx hb dX9_storedOvers_2 (by decide) ?_
  refine lv_iconst (v := 1) hx hb dX9_storedOvers_3 (by decide) ?_
  refine g_cI C0 G (g_runS C0 G (rest := [.ref m]) (k_X9_isIn hfl 1 0 1 ) hY_X9_isIn mm_X9_76 ms_X9_isIn ⟨(Nat.le_of_ble_eq_true rfl), (Nat.le_of_ble_eq_true rfl)⟩ rfl hl.1 rfl (Nat.le_of_ble_eq_true rfl) dX9_storedOvers_4 ⟨(Nat.le_of_ble_eq_true rfl), (Nat.le_of_ble_eq_true rfl)⟩) (kx_no rfl) (fun r13 u12 H locs hp11 G => ?_)
  obtain ⟨zr, eu12⟩ := hp11
  replace zr := Eq.symm zr
  subst zr
  rw [eu12] at G
  refine lv_topv (v := 1) (by decide) ?_
  refine lv_if_ne (tgt := 14) hx hb dX9_storedOvers_7 (by decide) (fun _ => ?_) (fun c14 => absurd c14 (by decide))
  refine lv_aload_n hx hb dX9_storedOvers_14 rfl (lv_at hl 0 rfl) ?_
  refine g_get C0 G h_m rfl hiX9 18 (by decide) mf_X9_42 rfl dX9_storedOvers_15 ?_
  refine lv_iload_n hx hb dX9_storedOvers_18 rfl (lv_at hl 1 rfl) ?_
  refine g_iald C0 G h_so 0 rfl (by unfold vp_in; decide) dX9_storedOvers_19 ?_
  refine lv_topv (v := gs 1) rfl ?_
  have J17 : ∀ (y16 : Int32) (_ : y16 = nI (X9_storedOvers1_n1 gs gm kx)) (H : Heap) (locs : List Loc) (ls : Array Slot), hG D (hA f sz) f s9 H locs → lv_has ls 3 [(0, .ref m), (1, .int 1), (2, .int (nI kx))] → W p9 l e9 ({ frames := 1, cells := 0, slots := 0, locals := 22 } : Room) s9 m9 ([.ref m, .int 1, .int (nI kx)] : List Value).toArray b9 t9 c9 H locs 0 0 (vx_MQ b9 (hQf (fun r u => r = (X9_storedOvers1_r3 gs gm gw gf kx) ∧ u m = some (.inr (11, [.int (nI (X9_storedOvers1_n1 gs gm kx)), .int c_re, .ref v, .ref im, .ref kp, .ref pa, .ref de, .ref ide, .int c_un, .int c_hi, .ref tx, .int c_tn, .int c_fa, .int c_rf, .ref pt, .int c_ps, .int c_pl, .int c_to, .ref so, .ref mo, .ref wh, .ref pf])) ∧ hFrL f u [m]) D f sz) (hPx hNo D f sz) ([.ref m, .int 1, .int (nI kx)] : List Value).toArray s9 0 0 (hA f sz)) (F0 m9 44 ls [.int y16, .ref m]) := by
    intro y16 ey16 H locs ls G hl
    replace ey16 := Eq.symm ey16
    subst ey16
    have bd19 : (X9_storedOvers1_n1 gs gm kx) ≤ 2 := by unfold X9_storedOvers1_n1 X9_storedOvers1_n0; repeat (first | omega | split)
    refine g_put C0 G h_m rfl hiX9 tyX9 tyX9_ok nmX9 0 (by decide) mf_X9_55 rfl rfl rfl rfl (Nat.le_of_ble_eq_true rfl) dX9_storedOvers_44 (fun H locs f20 hf20 G => ?_)
    have k21 : f20 m = some (.inr (11, [.int (nI (X9_storedOvers1_n1 gs gm kx)), .int c_re, .ref v, .ref im, .ref kp, .ref pa, .ref de, .ref ide, .int c_un, .int c_hi, .ref tx, .int c_tn, .int c_fa, .int c_rf, .ref pt, .int c_ps, .int c_pl, .int c_to, .ref so, .ref mo, .ref wh, .ref pf])) := hus hf20
    refine lv_aload_n hx hb dX9_storedOvers_47 rfl (lv_at hl 0 rfl) ?_
    refine g_get C0 G k21 rfl hiX9 0 (by decide) mf_X9_55 rfl dX9_storedOvers_48 ?_
    refine lv_if_le (tgt := 56) hx hb dX9_storedOvers_51 (by decide) (fun c22 => ?_) (fun c22 => ?_)
    · have n23 : (X9_storedOvers1_n1 gs gm kx) ≤ 0 := (nI_leI (a := (X9_storedOvers1_n1 gs gm kx)) (b := 0) (by omega) (by omega)).mp c22
      refine lv_aload_n hx hb dX9_storedOvers_56 rfl (lv_at hl 0 rfl) ?_
      refine g_get C0 G k21 rfl hiX9 18 (by decide) mf_X9_42 rfl dX9_storedOvers_57 ?_
      refine lv_iload_n hx hb dX9_storedOvers_60 rfl (lv_at hl 1 rfl) ?_
      have k24 : f20 so = some (.inl (cy 0, 2, .inl gs)) := hup hf20 (hne h_so h_m (by intro q; cases q)) h_so
      refine g_iald C0 G k24 0 rfl (by unfold vp_in; decide) dX9_storedOvers_61 ?_
      refine lv_topv (v := gs 1) rfl ?_
      refine lv_iconst (v := 1) hx hb dX9_storedOvers_62 (by decide) ?_
      have J27 : ∀ (y26 : UInt32) (_ : y26 = (X9_storedOvers1_x2 gs gw gf kx)) (H : Heap) (locs : List Loc) (ls : Array Slot), hG D (hA f sz) f20 s9 H locs → lv_has ls 3 [(0, .ref m), (1, .int 1), (2, .int (nI kx))] → W p9 l e9 ({ frames := 1, cells := 0, slots := 0, locals := 22 } : Room) s9 m9 ([.ref m, .int 1, .int (nI kx)] : List Value).toArray b9 t9 c9 H locs 0 0 (vx_MQ b9 (hQf (fun r u => r = (X9_storedOvers1_r3 gs gm gw gf kx) ∧ u m = some (.inr (11, [.int (nI (X9_storedOvers1_n1 gs gm kx)), .int c_re, .ref v, .ref im, .ref kp, .ref pa, .ref de, .ref ide, .int c_un, .int c_hi, .ref tx, .int c_tn, .int c_fa, .int c_rf, .ref pt, .int c_ps, .int c_pl, .int c_to, .ref so, .ref mo, .ref wh, .ref pf])) ∧ hFrL f u [m]) D f sz) (hPx hNo D f sz) ([.ref m, .int 1, .int (nI kx)] : List Value).toArray s9 0 0 (hA f sz)) (F0 m9 92 ls [.float y26]) := by
        intro y26 ey26 H locs ls G hl
        replace ey26 := Eq.symm ey26
        subst ey26
        exact g_fret C0 G hr dX9_storedOvers_92 (Nat.le_of_ble_eq_true rfl) (Nat.le_of_ble_eq_true rfl) (by exact ⟨(by rw [X9_storedOvers1_r3, if_pos c22] <;> rfl), k21, (fun a9 e9 h7 h8 => hup hf20 (fun q => h7 (by rw [q]; simp)) (h8))⟩)
      refine lv_icmp_ne (tgt := 81) hx hb dX9_storedOvers_63 (by decide) (fun c25 => ?_) (fun c25 => ?_)
      · refine lv_aload_n hx hb dX9_storedOvers_81 rfl (lv_at hl 0 rfl) ?_
        refine g_get C0 G k21 rfl hiX9 21 (by decide) mf_X9_51 rfl dX9_storedOvers_82 ?_
        refine lv_bipush (v := 21) hx hb dX9_storedOvers_85 (by decide) ?_
        refine lv_iload_n hx hb dX9_storedOvers_87 rfl (lv_at hl 1 rfl) ?_
        refine lv_imul hx hb dX9_storedOvers_88 ?_
        refine lv_topv (v := 21) (by decide) ?_
        refine lv_iload_n hx hb dX9_storedOvers_89 rfl (lv_at hl 2 rfl) ?_
        refine lv_iadd hx hb dX9_storedOvers_90 ?_
        refine lv_topv (v := nI (21 + kx)) ((nI_add _ _)) ?_
        have k29 : f20 pf = some (.inl (cy 2, 42, .inr (.inr (.inl gf)))) := hup hf20 (hne h_pf h_m (by intro q; first | (cases q; done) | (simp at q; done))) h_pf
        refine g_fald C0 G k29 2 rfl (vp_in_nI (by omega) (by omega)) dX9_storedOvers_91 ?_
        refine lv_topF (v := gf (21 + kx)) (congrArg gf (nI_c (by omega))) ?_
        exact J27 (gf (21 + kx)) (by rw [X9_storedOvers1_x2, if_neg c25]) _ _ _ G (lv_sub hl [0, 1, 2] rfl)
      · refine lv_aload_n hx hb dX9_storedOvers_66 rfl (lv_at hl 0 rfl) ?_
        refine g_get C0 G k21 rfl hiX9 20 (by decide) mf_X9_48 rfl dX9_storedOvers_67 ?_
        refine lv_bipush (v := 21) hx hb dX9_storedOvers_70 (by decide) ?_
        refine lv_iload_n hx hb dX9_storedOvers_72 rfl (lv_at hl 1 rfl) ?_
        refine lv_imul hx hb dX9_storedOvers_73 ?_
        refine lv_topv (v := 21) (by decide) ?_
        refine lv_iload_n hx hb dX9_storedOvers_74 rfl (lv_at hl 2 rfl) ?_
        refine lv_iadd hx hb dX9_storedOvers_75 ?_
        refine lv_topv (v := nI (21 + kx)) ((nI_add _ _)) ?_
        have k30 : f20 wh = some (.inl (cy 0, 42, .inl gw)) := hup hf20 (hne h_wh h_m (by intro q; cases q)) h_wh
        refine g_iald C0 G k30 0 rfl (vp_in_nI (by omega) (by omega)) dX9_storedOvers_76 ?_
        refine lv_topv (v := gw (21 + kx)) (congrArg gw (nI_c (by omega))) ?_
        refine lv_i2f hx hb dX9_storedOvers_77 ?_
        refine lv_goto (tgt := 92) hx hb dX9_storedOvers_78 (by decide) ?_
        exact J27 (FP.i2f (gw (21 + kx))) (by rw [X9_storedOvers1_x2, if_pos c25]) _ _ _ G (lv_sub hl [0, 1, 2] rfl)
    · have n31 : ¬ (X9_storedOvers1_n1 gs gm kx) ≤ 0 := fun q => c22 ((nI_leI (a := (X9_storedOvers1_n1 gs gm kx)) (b := 0) (by omega) (by omega)).mpr q)
      refine lv_fconst0 hx hb dX9_storedOvers_54 ?_
      exact g_fret C0 G hr dX9_storedOvers_55 (Nat.le_of_ble_eq_true rfl) (Nat.le_of_ble_eq_true rfl) (by exact ⟨(by rw [X9_storedOvers1_r3, if_neg c22] <;> rfl), k21, (fun a9 e9 h7 h8 => hup hf20 (fun q => h7 (by rw [q]; simp)) (h8))⟩)
  refine lv_if_eq (tgt := 39) hx hb dX9_storedOvers_20 (by decide) (fun c15 => ?_) (fun c15 => ?_)
  · refine lv_iconst (v := 2) hx hb dX9_storedOvers_39 (by decide) ?_
    refine lv_goto (tgt := 44) hx hb dX9_storedOvers_40 (by decide) ?_
    exact J17 2 (by rw [X9_storedOvers1_n1, if_pos c15] <;> rfl) _ _ _ G (lv_sub hl [0, 1, 2] rfl)
  · refine lv_iload_n hx hb dX9_storedOvers_23 rfl (lv_at hl 2 rfl) ?_
    refine lv_iconst (v := 0) hx hb dX9_storedOvers_24 (by decide) ?_
    refine lv_aload_n hx hb dX9_storedOvers_25 rfl (lv_at hl 0 rfl) ?_
    refine g_get C0 G h_m rfl hiX9 19 (by decide) mf_X9_45 rfl dX9_storedOvers_26 ?_
    refine lv_iload_n hx hb dX9_storedOvers_29 rfl (lv_at hl 1 rfl) ?_
    refine g_iald C0 G h_mo 0 rfl (by unfold vp_in; decide) dX9_storedOvers_30 ?_
    refine lv_topv (v := gm 1) rfl ?_
    refine lv_iconst (v := 1) hx hb dX9_storedOvers_31 (by decide) ?_
    refine lv_isub hx hb dX9_storedOvers_32 ?_
    refine g_cI C0 G (g_runS C0 G (rest := [.ref m]) (k_X9_isIn hfl (nI kx) 0 ((gm 1) - 1) ) hY_X9_isIn mm_X9_76 ms_X9_isIn ⟨(Nat.le_of_ble_eq_true rfl), (Nat.le_of_ble_eq_true rfl)⟩ rfl hl.1 rfl (Nat.le_of_ble_eq_true rfl) dX9_storedOvers_33 ⟨(Nat.le_of_ble_eq_true rfl), (Nat.le_of_ble_eq_true rfl)⟩) (kx_no rfl) (fun r34 u33 H locs hp32 G => ?_)
    obtain ⟨zr, eu33⟩ := hp32
    replace zr := Eq.symm zr
    subst zr
    rw [eu33] at G
    have J37 : ∀ (y36 : Int32) (_ : y36 = nI (X9_storedOvers1_n0 gm kx)) (H : Heap) (locs : List Loc) (ls : Array Slot), hG D (hA f sz) f s9 H locs → lv_has ls 3 [(0, .ref m), (1, .int 1), (2, .int (nI kx))] → W p9 l e9 ({ frames := 1, cells := 0, slots := 0, locals := 22 } : Room) s9 m9 ([.ref m, .int 1, .int (nI kx)] : List Value).toArray b9 t9 c9 H locs 0 0 (vx_MQ b9 (hQf (fun r u => r = (X9_storedOvers1_r3 gs gm gw gf kx) ∧ u m = some (.inr (11, [.int (nI (X9_storedOvers1_n1 gs gm kx)), .int c_re, .ref v, .ref im, .ref kp, .ref pa, .ref de, .ref ide, .int c_un, .int c_hi, .ref tx, .int c_tn, .int c_fa, .int c_rf, .ref pt, .int c_ps, .int c_pl, .int c_to, .ref so, .ref mo, .ref wh, .ref pf])) ∧ hFrL f u [m]) D f sz) (hPx hNo D f sz) ([.ref m, .int 1, .int (nI kx)] : List Value).toArray s9 0 0 (hA f sz)) (F0 m9 44 ls [.int y36, .ref m]) := by
      intro y36 ey36 H locs ls G hl
      replace ey36 := Eq.symm ey36
      subst ey36
      have bd39 : (X9_storedOvers1_n0 gm kx) ≤ 2 := by unfold X9_storedOvers1_n0; repeat (first | omega | split)
      exact J17 (nI (X9_storedOvers1_n0 gm kx)) (by rw [X9_storedOvers1_n1, if_neg c15] <;> rfl) _ _ _ G (lv_sub hl [0, 1, 2] rfl)
    refine lv_if_ne (tgt := 43) hx hb dX9_storedOvers_36 (by decide) (fun c35 => ?_) (fun c35 => ?_)
    · refine lv_iconst (v := 0) hx hb dX9_storedOvers_43 (by decide) ?_
      exact J37 0 (by rw [X9_storedOvers1_n0, if_neg c35] <;> rfl) _ _ _ G (lv_sub hl [0, 1, 2] rfl)
    · refine lv_iconst (v := 2) hx hb dX9_storedOvers_39 (by decide) ?_
      refine lv_goto (tgt := 44) hx hb dX9_storedOvers_40 (by decide) ?_
      exact J37 2 (by rw [X9_storedOvers1_n0, if_pos c35] <;> rfl) _ _ _ G (lv_sub hl [0, 1, 2] rfl)
