def LK (cs : Nat → Nat → Nat → Int32) (j : Nat) : Prop := cs j 7 0 = 1 ∧ cs j 7 1 = 11 ∧ cs j 7 2 = 11 ∧ (cs j 7 3 = nI (cs j 7 3).toNatClampNeg ∧ (cs j 7 3).toNatClampNeg < 600) ∧ (cs j 7 4 = nI (cs j 7 4).toNatClampNeg ∧ (cs j 7 4).toNatClampNeg < 600) ∧ (cs j 6 2 = nI (cs j 6 2).toNatClampNeg ∧ (cs j 6 2).toNatClampNeg < 600)
set_option maxRecDepth 100000 in
theorem c_X2_isLike0 {l : Launch} (hfl : l.stackTraces = false) {D : va_G} {cy : Nat → ClassId} {f : Hf} {sz : Nat} {A : Nat → Nat} {b : Nat} {q : Nat → Option Nat} {cm : Nat → Int32} {cs : Nat → Nat → Nat → Int32} {b2 : Nat} {q2 : Nat → Option Nat} {cm2 : Nat → Int32} {cs2 : Nat → Nat → Nat → Int32}  (hAj : ∀ i j : Nat, i ≠ j → A i ≠ A j) (hM : MW A b cy q cm cs f) (hQ : HQ A b q) (hM2 : MW A b2 cy q2 cm2 cs2 f) (hQ2 : HQ A b2 q2) (h4 : cm 4 = 0) (h42 : cm2 4 = 0) (hL1 : ∀ j : Nat, j ≤ 0 → LK cs j) (hL2 : ∀ j : Nat, j ≤ 0 → LK cs2 j) : hMet l yX2_isLike cX2_isLike 3 (some .boolean) { frames := 3, cells := 0, slots := 0, locals := 68 } D (hTy cy) f sz [.ref (A (b2 + 0)), .ref (A (b + 0))] (hQi (fun r u => (r = 0 ∨ r = 1) ∧ u = f) D f sz) hNo := by
  refine h_enter (by decide) hfl (Nat.le_of_ble_eq_true rfl) ?_
  intro p9 e9 s9 m9 b9 t9 c9 hsz C0 hr hnm G ls hl
  have hx := C0.1.1
  have hb := C0.1.2.1
  have hl : lv_has ls 3 [(0, .ref (A (b2 + 0))), (1, .ref (A (b + 0)))] := hl
  refine lv_aload_n hx hb dX2_isLike_0 rfl (lv_at hl 0 rfl) ?_
  have k11 : f (A (b2 + 0)) = some (.inr (4, [.ref (A (b2 + 1)), .int (cm2 0), .int (cm2 1), .int (cm2 2), .int (cm2 3), .int 0])) := by have h9 : f (A (b2 + 0)) = some (.inr (4, [.ref (A (b2 + 1)), .int (cm2 0), .int (cm2 1), .int (cm2 2), .int (cm2 3), .int (cm2 4)])) := hM2 0 (by omega); rw [h42] at h9; exact h9
  refine g_get C0 G k11 rfl hiX2 1 (by decide) mf_X2_17 rfl dX2_isLike_1 ?_
  refine lv_aload_n hx hb dX2_isLike_4 rfl (lv_at hl 1 rfl) ?_
  have k12 : f (A (b + 0)) = some (.inr (4, [.ref (A (b + 1)), .int (cm 0), .int (cm 1), .int (cm 2), .int (cm 3), .int 0])) := by have h9 : f (A (b + 0)) = some (.inr (4, [.ref (A (b + 1)), .int (cm 0), .int (cm 1), .int (cm 2), .int (cm 3), .int (cm 4)])) := hM 0 (by omega); rw [h4] at h9; exact h9
  refine g_get C0 G k12 rfl hiX2 1 (by decide) mf_X2_17 rfl dX2_isLike_5 ?_
  refine lv_icmp_ne (tgt := 55) hx hb dX2_isLike_8 (by decide) (fun c13 => ?_) (fun c13 => ?_)
  · refine lv_iconst (v := 0) hx hb dX2_isLike_55 (by decide) ?_
    exact g_zret C0 G hr dX2_isLike_56 rfl (Nat.le_of_ble_eq_true rfl) (Nat.le_of_ble_eq_true rfl) (by exact ⟨(Or.inl rfl), rfl⟩)
  · refine lv_aload_n hx hb dX2_isLike_11 rfl (lv_at hl 0 rfl) ?_
    refine g_get C0 G k11 rfl hiX2 2 (by decide) mf_X2_21 rfl dX2_isLike_12 ?_
    refine lv_aload_n hx hb dX2_isLike_15 rfl (lv_at hl 1 rfl) ?_
    refine g_get C0 G k12 rfl hiX2 2 (by decide) mf_X2_21 rfl dX2_isLike_16 ?_
    refine lv_icmp_ne (tgt := 55) hx hb dX2_isLike_19 (by decide) (fun c14 => ?_) (fun c14 => ?_)
    · refine lv_iconst (v := 0) hx hb dX2_isLike_55 (by decide) ?_
      exact g_zret C0 G hr dX2_isLike_56 rfl (Nat.le_of_ble_eq_true rfl) (Nat.le_of_ble_eq_true rfl) (by exact ⟨(Or.inl rfl), rfl⟩)
    · refine lv_aload_n hx hb dX2_isLike_22 rfl (lv_at hl 0 rfl) ?_
      refine g_get C0 G k11 rfl hiX2 3 (by decide) mf_X2_24 rfl dX2_isLike_23 ?_
      refine lv_aload_n hx hb dX2_isLike_26 rfl (lv_at hl 1 rfl) ?_
      refine g_get C0 G k12 rfl hiX2 3 (by decide) mf_X2_24 rfl dX2_isLike_27 ?_
      refine lv_icmp_ne (tgt := 55) hx hb dX2_isLike_30 (by decide) (fun c15 => ?_) (fun c15 => ?_)
      · refine lv_iconst (v := 0) hx hb dX2_isLike_55 (by decide) ?_
        exact g_zret C0 G hr dX2_isLike_56 rfl (Nat.le_of_ble_eq_true rfl) (Nat.le_of_ble_eq_true rfl) (by exact ⟨(Or.inl rfl), rfl⟩)
      · refine lv_aload_n hx hb dX2_isLike_33 rfl (lv_at hl 0 rfl) ?_
        refine g_get C0 G k11 rfl hiX2 4 (by decide) mf_X2_28 rfl dX2_isLike_34 ?_
        refine lv_aload_n hx hb dX2_isLike_37 rfl (lv_at hl 1 rfl) ?_
        refine g_get C0 G k12 rfl hiX2 4 (by decide) mf_X2_28 rfl dX2_isLike_38 ?_
        refine lv_icmp_ne (tgt := 55) hx hb dX2_isLike_41 (by decide) (fun c16 => ?_) (fun c16 => ?_)
        · refine lv_iconst (v := 0) hx hb dX2_isLike_55 (by decide) ?_
          exact g_zret C0 G hr dX2_isLike_56 rfl (Nat.le_of_ble_eq_true rfl) (Nat.le_of_ble_eq_true rfl) (by exact ⟨(Or.inl rfl), rfl⟩)
        · refine lv_aload_n hx hb dX2_isLike_44 rfl (lv_at hl 0 rfl) ?_
          refine g_get C0 G k11 rfl hiX2 5 (by decide) mf_X2_31 rfl dX2_isLike_45 ?_
          refine lv_aload_n hx hb dX2_isLike_48 rfl (lv_at hl 1 rfl) ?_
          refine g_get C0 G k12 rfl hiX2 5 (by decide) mf_X2_31 rfl dX2_isLike_49 ?_
          refine lv_icmp_eq (tgt := 57) hx hb dX2_isLike_52 (by decide) (fun _ => ?_) (fun c17 => absurd (by decide) c17)
          refine lv_iconst (v := 0) hx hb dX2_isLike_57 (by decide) ?_
          refine lv_istore_n (lv' := [(2, .int 0), (0, .ref (A (b2 + 0))), (1, .ref (A (b + 0)))]) hx hb dX2_isLike_58 rfl hl (by decide) rfl (fun ls hl => ?_)
          refine lv_iload_n hx hb dX2_isLike_59 rfl (lv_at hl 0 rfl) ?_
          refine lv_aload_n hx hb dX2_isLike_60 rfl (lv_at hl 1 rfl) ?_
          refine g_get C0 G k11 rfl hiX2 5 (by decide) mf_X2_31 rfl dX2_isLike_61 ?_
          refine lv_icmp_gt (tgt := 91) hx hb dX2_isLike_64 (by decide) (fun c18 => absurd c18 (by decide)) (fun _ => ?_)
          refine lv_aload_n hx hb dX2_isLike_67 rfl (lv_at hl 1 rfl) ?_
          refine lv_iload_n hx hb dX2_isLike_68 rfl (lv_at hl 0 rfl) ?_
          have k19 : f (A (b2 + 1)) = some (.inl (cy 3, 4, .inr (.inr (.inr (.inr q2))))) := hM2 1 (by omega)
          refine g_cR C0 G (g_runV C0 G (rest := []) (c_X2_at0 hfl (A := A) (b := b2) (ex := (cm2 0)) (ov := (cm2 1)) (ie := (cm2 2)) (fi := (cm2 3)) (nu := 0) (q := q2) k11 k19 hAj hQ2.1 hQ2.2.1 hQ2.2.2.1 hQ2.2.2.2) k11 rfl hY_X2_at mm_X2_77 mi_X2_at ml_X2_at ⟨(Nat.le_of_ble_eq_true rfl), (Nat.le_of_ble_eq_true rfl)⟩ rfl hl.1 rfl (Nat.le_of_ble_eq_true rfl) dX2_isLike_69 ⟨(Nat.le_of_ble_eq_true rfl), (Nat.le_of_ble_eq_true rfl)⟩) (kx_no rfl) (fun a22 u21 H locs hp20 G => ?_)
          obtain ⟨zr, eu21⟩ := hp20
          replace zr := Eq.symm zr
          subst zr
          rw [eu21] at G
          refine lv_aload_n hx hb dX2_isLike_72 rfl (lv_at hl 2 rfl) ?_
          refine lv_iload_n hx hb dX2_isLike_73 rfl (lv_at hl 0 rfl) ?_
          have k23 : f (A (b + 1)) = some (.inl (cy 3, 4, .inr (.inr (.inr (.inr q))))) := hM 1 (by omega)
          refine g_cR C0 G (g_runV C0 G (rest := [.ref (A (b2 + 2))]) (c_X2_at0 hfl (A := A) (b := b) (ex := (cm 0)) (ov := (cm 1)) (ie := (cm 2)) (fi := (cm 3)) (nu := 0) (q := q) k12 k23 hAj hQ.1 hQ.2.1 hQ.2.2.1 hQ.2.2.2) k12 rfl hY_X2_at mm_X2_77 mi_X2_at ml_X2_at ⟨(Nat.le_of_ble_eq_true rfl), (Nat.le_of_ble_eq_true rfl)⟩ rfl hl.1 rfl (Nat.le_of_ble_eq_true rfl) dX2_isLike_74 ⟨(Nat.le_of_ble_eq_true rfl), (Nat.le_of_ble_eq_true rfl)⟩) (kx_no rfl) (fun a26 u25 H locs hp24 G => ?_)
          obtain ⟨zr, eu25⟩ := hp24
          replace zr := Eq.symm zr
          subst zr
          rw [eu25] at G
          have k27 : f (A (b2 + 2)) = some (.inr (2, [.ref (A (b2 + 3)), .ref (A (b2 + 5)), .ref (A (b2 + 7)), .ref (A (b2 + 9)), .ref (A (b2 + 11)), .ref (A (b2 + 13)), .int (cs2 0 6 8), .int (cs2 0 6 9), .int (cs2 0 6 10), .int (cs2 0 6 11), .int (cs2 0 6 12)])) := hM2 2 (by omega)
          have k28 : f (A (b2 + 3)) = some (.inr (8, [.int 8, .ref (A (b2 + 4)), .int 1])) := by have h9 : f (A (b2 + 3)) = some (.inr (8, [.int 8, .ref (A (b2 + 4)), .int (cs2 0 7 0)])) := hM2 3 (by omega); rw [(hL2 0 (by omega)).1] at h9; exact h9
          have k29 : f (A (b2 + 4)) = some (.inl (cy 0, 8, .inl (cs2 0 0))) := hM2 4 (by omega)
          have k30 : f (A (b2 + 5)) = some (.inr (8, [.int 6, .ref (A (b2 + 6)), .int 11])) := by have h9 : f (A (b2 + 5)) = some (.inr (8, [.int 6, .ref (A (b2 + 6)), .int (cs2 0 7 1)])) := hM2 5 (by omega); rw [(hL2 0 (by omega)).2.1] at h9; exact h9
          have k31 : f (A (b2 + 6)) = some (.inl (cy 0, 66, .inl (cs2 0 1))) := hM2 6 (by omega)
          have k32 : f (A (b2 + 7)) = some (.inr (8, [.int 7, .ref (A (b2 + 8)), .int 11])) := by have h9 : f (A (b2 + 7)) = some (.inr (8, [.int 7, .ref (A (b2 + 8)), .int (cs2 0 7 2)])) := hM2 7 (by omega); rw [(hL2 0 (by omega)).2.2.1] at h9; exact h9
          have k33 : f (A (b2 + 8)) = some (.inl (cy 0, 77, .inl (cs2 0 2))) := hM2 8 (by omega)
          have k34 : f (A (b2 + 9)) = some (.inr (8, [.int 8, .ref (A (b2 + 10)), .int (nI ((cs2 0 7 3).toNatClampNeg))])) := by have h9 : f (A (b2 + 9)) = some (.inr (8, [.int 8, .ref (A (b2 + 10)), .int (cs2 0 7 3)])) := hM2 9 (by omega); rw [(hL2 0 (by omega)).2.2.2.1.1] at h9; exact h9
          have k35 : f (A (b2 + 10)) = some (.inl (cy 0, 4104, .inl (cs2 0 3))) := hM2 10 (by omega)
          have k36 : f (A (b2 + 11)) = some (.inr (8, [.int 3, .ref (A (b2 + 12)), .int (nI ((cs2 0 7 4).toNatClampNeg))])) := by have h9 : f (A (b2 + 11)) = some (.inr (8, [.int 3, .ref (A (b2 + 12)), .int (cs2 0 7 4)])) := hM2 11 (by omega); rw [(hL2 0 (by omega)).2.2.2.2.1.1] at h9; exact h9
          have k37 : f (A (b2 + 12)) = some (.inl (cy 0, 33, .inl (cs2 0 4))) := hM2 12 (by omega)
          have k38 : f (A (b2 + 13)) = some (.inr (5, [.ref (A (b2 + 14)), .int (cs2 0 6 0), .int (cs2 0 6 1), .int (nI ((cs2 0 6 2).toNatClampNeg)), .int (cs2 0 6 3), .int (cs2 0 6 4), .int (cs2 0 6 5), .int (cs2 0 6 6), .int (cs2 0 6 7)])) := by have h9 : f (A (b2 + 13)) = some (.inr (5, [.ref (A (b2 + 14)), .int (cs2 0 6 0), .int (cs2 0 6 1), .int (cs2 0 6 2), .int (cs2 0 6 3), .int (cs2 0 6 4), .int (cs2 0 6 5), .int (cs2 0 6 6), .int (cs2 0 6 7)])) := hM2 13 (by omega); rw [(hL2 0 (by omega)).2.2.2.2.2.1] at h9; exact h9
          have k39 : f (A (b2 + 14)) = some (.inl (cy 0, 20, .inl (cs2 0 5))) := hM2 14 (by omega)
          have k40 : f (A (b + 2)) = some (.inr (2, [.ref (A (b + 3)), .ref (A (b + 5)), .ref (A (b + 7)), .ref (A (b + 9)), .ref (A (b + 11)), .ref (A (b + 13)), .int (cs 0 6 8), .int (cs 0 6 9), .int (cs 0 6 10), .int (cs 0 6 11), .int (cs 0 6 12)])) := hM 2 (by omega)
          have k41 : f (A (b + 3)) = some (.inr (8, [.int 8, .ref (A (b + 4)), .int 1])) := by have h9 : f (A (b + 3)) = some (.inr (8, [.int 8, .ref (A (b + 4)), .int (cs 0 7 0)])) := hM 3 (by omega); rw [(hL1 0 (by omega)).1] at h9; exact h9
          have k42 : f (A (b + 4)) = some (.inl (cy 0, 8, .inl (cs 0 0))) := hM 4 (by omega)
          have k43 : f (A (b + 5)) = some (.inr (8, [.int 6, .ref (A (b + 6)), .int 11])) := by have h9 : f (A (b + 5)) = some (.inr (8, [.int 6, .ref (A (b + 6)), .int (cs 0 7 1)])) := hM 5 (by omega); rw [(hL1 0 (by omega)).2.1] at h9; exact h9
          have k44 : f (A (b + 6)) = some (.inl (cy 0, 66, .inl (cs 0 1))) := hM 6 (by omega)
          have k45 : f (A (b + 7)) = some (.inr (8, [.int 7, .ref (A (b + 8)), .int 11])) := by have h9 : f (A (b + 7)) = some (.inr (8, [.int 7, .ref (A (b + 8)), .int (cs 0 7 2)])) := hM 7 (by omega); rw [(hL1 0 (by omega)).2.2.1] at h9; exact h9
          have k46 : f (A (b + 8)) = some (.inl (cy 0, 77, .inl (cs 0 2))) := hM 8 (by omega)
          have k47 : f (A (b + 9)) = some (.inr (8, [.int 8, .ref (A (b + 10)), .int (nI ((cs 0 7 3).toNatClampNeg))])) := by have h9 : f (A (b + 9)) = some (.inr (8, [.int 8, .ref (A (b + 10)), .int (cs 0 7 3)])) := hM 9 (by omega); rw [(hL1 0 (by omega)).2.2.2.1.1] at h9; exact h9
          have k48 : f (A (b + 10)) = some (.inl (cy 0, 4104, .inl (cs 0 3))) := hM 10 (by omega)
          have k49 : f (A (b + 11)) = some (.inr (8, [.int 3, .ref (A (b + 12)), .int (nI ((cs 0 7 4).toNatClampNeg))])) := by have h9 : f (A (b + 11)) = some (.inr (8, [.int 3, .ref (A (b + 12)), .int (cs 0 7 4)])) := hM 11 (by omega); rw [(hL1 0 (by omega)).2.2.2.2.1.1] at h9; exact h9
          have k50 : f (A (b + 12)) = some (.inl (cy 0, 33, .inl (cs 0 4))) := hM 12 (by omega)
          have k51 : f (A (b + 13)) = some (.inr (5, [.ref (A (b + 14)), .int (cs 0 6 0), .int (cs 0 6 1), .int (nI ((cs 0 6 2).toNatClampNeg)), .int (cs 0 6 3), .int (cs 0 6 4), .int (cs 0 6 5), .int (cs 0 6 6), .int (cs 0 6 7)])) := by have h9 : f (A (b + 13)) = some (.inr (5, [.ref (A (b + 14)), .int (cs 0 6 0), .int (cs 0 6 1), .int (cs 0 6 2), .int (cs 0 6 3), .int (cs 0 6 4), .int (cs 0 6 5), .int (cs 0 6 6), .int (cs 0 6 7)])) := hM 13 (by omega); rw [(hL1 0 (by omega)).2.2.2.2.2.1] at h9; exact h9
          have k52 : f (A (b + 14)) = some (.inl (cy 0, 20, .inl (cs 0 5))) := hM 14 (by omega)
          refine g_cI C0 G (g_runV C0 G (rest := []) (c_X0_isLike hfl (rp := ((cs2 0 7 3).toNatClampNeg)) (rf := ((cs2 0 7 4).toNatClampNeg)) (oc := ((cs2 0 6 2).toNatClampNeg)) (g0 := (cs2 0 0)) (g1 := (cs2 0 1)) (g2 := (cs2 0 2)) (g3 := (cs2 0 3)) (g4 := (cs2 0 4)) (go := (cs2 0 5)) (lm := (cs2 0 6 0)) (lf := (cs2 0 6 1)) (bw := (cs2 0 6 3)) (bb := (cs2 0 6 4)) (bl := (cs2 0 6 5)) (cd := (cs2 0 6 6)) (hbg := (cs2 0 6 7)) (rs := (cs2 0 6 8)) (sk := (cs2 0 6 9)) (ot := (cs2 0 6 10)) (ch := (cs2 0 6 11)) (nc := (cs2 0 6 12)) (rp_o := ((cs 0 7 3).toNatClampNeg)) (rf_o := ((cs 0 7 4).toNatClampNeg)) (oc_o := ((cs 0 6 2).toNatClampNeg)) (g0_o := (cs 0 0)) (g1_o := (cs 0 1)) (g2_o := (cs 0 2)) (g3_o := (cs 0 3)) (g4_o := (cs 0 4)) (go_o := (cs 0 5)) (lm_o := (cs 0 6 0)) (lf_o := (cs 0 6 1)) (bw_o := (cs 0 6 3)) (bb_o := (cs 0 6 4)) (bl_o := (cs 0 6 5)) (cd_o := (cs 0 6 6)) (hbg_o := (cs 0 6 7)) (rs_o := (cs 0 6 8)) (sk_o := (cs 0 6 9)) (ot_o := (cs 0 6 10)) (ch_o := (cs 0 6 11)) (nc_o := (cs 0 6 12)) k27 k28 k29 k30 k31 k32 k33 k34 k35 k36 k37 k38 k39 k40 k41 k42 k43 k44 k45 k46 k47 k48 k49 k50 k51 k52 (hL2 0 (by omega)).2.2.2.1.2 (hL2 0 (by omega)).2.2.2.2.1.2 (hL2 0 (by omega)).2.2.2.2.2.2 (hL1 0 (by omega)).2.2.2.1.2 (hL1 0 (by omega)).2.2.2.2.1.2 (hL1 0 (by omega)).2.2.2.2.2.2) k27 rfl hY_X0_isLike mm_X2_186 mi_X0_isLike ml_X0_isLike ⟨(Nat.le_of_ble_eq_true rfl), (Nat.le_of_ble_eq_true rfl)⟩ rfl hl.1 rfl (Nat.le_of_ble_eq_true rfl) dX2_isLike_77 ⟨(Nat.le_of_ble_eq_true rfl), (Nat.le_of_ble_eq_true rfl)⟩) (kx_no rfl) (fun r55 u54 H locs hp53 G => ?_)
          obtain ⟨hb56, eu54⟩ := hp53
          rw [eu54] at G
          refine lv_if_ne (tgt := 85) hx hb dX2_isLike_80 (by decide) (fun c57 => ?_) (fun c57 => ?_)
          · refine lv_iinc (v := 1) (lv' := [(2, .int 1), (0, .ref (A (b2 + 0))), (1, .ref (A (b + 0)))]) hx hb dX2_isLike_85 hl (k := 0) rfl (by exact (by decide)) (by decide) rfl (fun ls hl => ?_)
            refine lv_goto (tgt := 59) hx hb dX2_isLike_88 (by decide) ?_
            refine lv_iload_n hx hb dX2_isLike_59 rfl (lv_at hl 0 rfl) ?_
            refine lv_aload_n hx hb dX2_isLike_60 rfl (lv_at hl 1 rfl) ?_
            refine g_get C0 G k11 rfl hiX2 5 (by decide) mf_X2_31 rfl dX2_isLike_61 ?_
            refine lv_icmp_gt (tgt := 91) hx hb dX2_isLike_64 (by decide) (fun _ => ?_) (fun c59 => absurd (by decide) c59)
            refine lv_iconst (v := 1) hx hb dX2_isLike_91 (by decide) ?_
            exact g_zret C0 G hr dX2_isLike_92 rfl (Nat.le_of_ble_eq_true rfl) (Nat.le_of_ble_eq_true rfl) (by exact ⟨(Or.inr rfl), rfl⟩)
          · refine lv_iconst (v := 0) hx hb dX2_isLike_83 (by decide) ?_
            exact g_zret C0 G hr dX2_isLike_84 rfl (Nat.le_of_ble_eq_true rfl) (Nat.le_of_ble_eq_true rfl) (by exact ⟨(Or.inl rfl), rfl⟩)
set_option maxRecDepth 100000 in
theorem c_X2_isLike1 {l : Launch} (hfl : l.stackTraces = false) {D : va_G} {cy : Nat → ClassId} {f : Hf} {sz : Nat} {A : Nat → Nat} {b : Nat} {q : Nat → Option Nat} {cm : Nat → Int32} {cs : Nat → Nat → Nat → Int32} {b2 : Nat} {q2 : Nat → Option Nat} {cm2 : Nat → Int32} {cs2 : Nat → Nat → Nat → Int32}  (hAj : ∀ i j : Nat, i ≠ j → A i ≠ A j) (hM : MW A b cy q cm cs f) (hQ : HQ A b q) (hM2 : MW A b2 cy q2 cm2 cs2 f) (hQ2 : HQ A b2 q2) (h4 : cm 4 = 1) (h42 : cm2 4 = 1) (hL1 : ∀ j : Nat, j ≤ 1 → LK cs j) (hL2 : ∀ j : Nat, j ≤ 1 → LK cs2 j) : hMet l yX2_isLike cX2_isLike 3 (some .boolean) { frames := 3, cells := 0, slots := 0, locals := 68 } D (hTy cy) f sz [.ref (A (b2 + 0)), .ref (A (b + 0))] (hQi (fun r u => (r = 0 ∨ r = 1) ∧ u = f) D f sz) hNo := by
  refine h_enter (by decide) hfl (Nat.le_of_ble_eq_true rfl) ?_
  intro p9 e9 s9 m9 b9 t9 c9 hsz C0 hr hnm G ls hl
  have hx := C0.1.1
  have hb := C0.1.2.1
  have hl : lv_has ls 3 [(0, .ref (A (b2 + 0))), (1, .ref (A (b + 0)))] := hl
  refine lv_aload_n hx hb dX2_isLike_0 rfl (lv_at hl 0 rfl) ?_
  have k11 : f (A (b2 + 0)) = some (.inr (4, [.ref (A (b2 + 1)), .int (cm2 0), .int (cm2 1), .int (cm2 2), .int (cm2 3), .int 1])) := by have h9 : f (A (b2 + 0)) = some (.inr (4, [.ref (A (b2 + 1)), .int (cm2 0), .int (cm2 1), .int (cm2 2), .int (cm2 3), .int (cm2 4)])) := hM2 0 (by omega); rw [h42] at h9; exact h9
  refine g_get C0 G k11 rfl hiX2 1 (by decide) mf_X2_17 rfl dX2_isLike_1 ?_
  refine lv_aload_n hx hb dX2_isLike_4 rfl (lv_at hl 1 rfl) ?_
  have k12 : f (A (b + 0)) = some (.inr (4, [.ref (A (b + 1)), .int (cm 0), .int (cm 1), .int (cm 2), .int (cm 3), .int 1])) := by have h9 : f (A (b + 0)) = some (.inr (4, [.ref (A (b + 1)), .int (cm 0), .int (cm 1), .int (cm 2), .int (cm 3), .int (cm 4)])) := hM 0 (by omega); rw [h4] at h9; exact h9
  refine g_get C0 G k12 rfl hiX2 1 (by decide) mf_X2_17 rfl dX2_isLike_5 ?_
  refine lv_icmp_ne (tgt := 55) hx hb dX2_isLike_8 (by decide) (fun c13 => ?_) (fun c13 => ?_)
  · refine lv_iconst (v := 0) hx hb dX2_isLike_55 (by decide) ?_
    exact g_zret C0 G hr dX2_isLike_56 rfl (Nat.le_of_ble_eq_true rfl) (Nat.le_of_ble_eq_true rfl) (by exact ⟨(Or.inl rfl), rfl⟩)
  · refine lv_aload_n hx hb dX2_isLike_11 rfl (lv_at hl 0 rfl) ?_
    refine g_get C0 G k11 rfl hiX2 2 (by decide) mf_X2_21 rfl dX2_isLike_12 ?_
    refine lv_aload_n hx hb dX2_isLike_15 rfl (lv_at hl 1 rfl) ?_
    refine g_get C0 G k12 rfl hiX2 2 (by decide) mf_X2_21 rfl dX2_isLike_16 ?_
    refine lv_icmp_ne (tgt := 55) hx hb dX2_isLike_19 (by decide) (fun c14 => ?_) (fun c14 => ?_)
    · refine lv_iconst (v := 0) hx hb dX2_isLike_55 (by decide) ?_
      exact g_zret C0 G hr dX2_isLike_56 rfl (Nat.le_of_ble_eq_true rfl) (Nat.le_of_ble_eq_true rfl) (by exact ⟨(Or.inl rfl), rfl⟩)
    · refine lv_aload_n hx hb dX2_isLike_22 rfl (lv_at hl 0 rfl) ?_
      refine g_get C0 G k11 rfl hiX2 3 (by decide) mf_X2_24 rfl dX2_isLike_23 ?_
      refine lv_aload_n hx hb dX2_isLike_26 rfl (lv_at hl 1 rfl) ?_
      refine g_get C0 G k12 rfl hiX2 3 (by decide) mf_X2_24 rfl dX2_isLike_27 ?_
      refine lv_icmp_ne (tgt := 55) hx hb dX2_isLike_30 (by decide) (fun c15 => ?_) (fun c15 => ?_)
      · refine lv_iconst (v := 0) hx hb dX2_isLike_55 (by decide) ?_
        exact g_zret C0 G hr dX2_isLike_56 rfl (Nat.le_of_ble_eq_true rfl) (Nat.le_of_ble_eq_true rfl) (by exact ⟨(Or.inl rfl), rfl⟩)
      · refine lv_aload_n hx hb dX2_isLike_33 rfl (lv_at hl 0 rfl) ?_
        refine g_get C0 G k11 rfl hiX2 4 (by decide) mf_X2_28 rfl dX2_isLike_34 ?_
        refine lv_aload_n hx hb dX2_isLike_37 rfl (lv_at hl 1 rfl) ?_
        refine g_get C0 G k12 rfl hiX2 4 (by decide) mf_X2_28 rfl dX2_isLike_38 ?_
        refine lv_icmp_ne (tgt := 55) hx hb dX2_isLike_41 (by decide) (fun c16 => ?_) (fun c16 => ?_)
        · refine lv_iconst (v := 0) hx hb dX2_isLike_55 (by decide) ?_
          exact g_zret C0 G hr dX2_isLike_56 rfl (Nat.le_of_ble_eq_true rfl) (Nat.le_of_ble_eq_true rfl) (by exact ⟨(Or.inl rfl), rfl⟩)
        · refine lv_aload_n hx hb dX2_isLike_44 rfl (lv_at hl 0 rfl) ?_
          refine g_get C0 G k11 rfl hiX2 5 (by decide) mf_X2_31 rfl dX2_isLike_45 ?_
          refine lv_aload_n hx hb dX2_isLike_48 rfl (lv_at hl 1 rfl) ?_
          refine g_get C0 G k12 rfl hiX2 5 (by decide) mf_X2_31 rfl dX2_isLike_49 ?_
          refine lv_icmp_eq (tgt := 57) hx hb dX2_isLike_52 (by decide) (fun _ => ?_) (fun c17 => absurd (by decide) c17)
          refine lv_iconst (v := 0) hx hb dX2_isLike_57 (by decide) ?_
          refine lv_istore_n (lv' := [(2, .int 0), (0, .ref (A (b2 + 0))), (1, .ref (A (b + 0)))]) hx hb dX2_isLike_58 rfl hl (by decide) rfl (fun ls hl => ?_)
          refine lv_iload_n hx hb dX2_isLike_59 rfl (lv_at hl 0 rfl) ?_
          refine lv_aload_n hx hb dX2_isLike_60 rfl (lv_at hl 1 rfl) ?_
          refine g_get C0 G k11 rfl hiX2 5 (by decide) mf_X2_31 rfl dX2_isLike_61 ?_
          refine lv_icmp_gt (tgt := 91) hx hb dX2_isLike_64 (by decide) (fun c18 => absurd c18 (by decide)) (fun _ => ?_)
          refine lv_aload_n hx hb dX2_isLike_67 rfl (lv_at hl 1 rfl) ?_
          refine lv_iload_n hx hb dX2_isLike_68 rfl (lv_at hl 0 rfl) ?_
          have k19 : f (A (b2 + 1)) = some (.inl (cy 3, 4, .inr (.inr (.inr (.inr q2))))) := hM2 1 (by omega)
          refine g_cR C0 G (g_runV C0 G (rest := []) (c_X2_at0 hfl (A := A) (b := b2) (ex := (cm2 0)) (ov := (cm2 1)) (ie := (cm2 2)) (fi := (cm2 3)) (nu := 1) (q := q2) k11 k19 hAj hQ2.1 hQ2.2.1 hQ2.2.2.1 hQ2.2.2.2) k11 rfl hY_X2_at mm_X2_77 mi_X2_at ml_X2_at ⟨(Nat.le_of_ble_eq_true rfl), (Nat.le_of_ble_eq_true rfl)⟩ rfl hl.1 rfl (Nat.le_of_ble_eq_true rfl) dX2_isLike_69 ⟨(Nat.le_of_ble_eq_true rfl), (Nat.le_of_ble_eq_true rfl)⟩) (kx_no rfl) (fun a22 u21 H locs hp20 G => ?_)
          obtain ⟨zr, eu21⟩ := hp20
          replace zr := Eq.symm zr
          subst zr
          rw [eu21] at G
          refine lv_aload_n hx hb dX2_isLike_72 rfl (lv_at hl 2 rfl) ?_
          refine lv_iload_n hx hb dX2_isLike_73 rfl (lv_at hl 0 rfl) ?_
          have k23 : f (A (b + 1)) = some (.inl (cy 3, 4, .inr (.inr (.inr (.inr q))))) := hM 1 (by omega)
          refine g_cR C0 G (g_runV C0 G (rest := [.ref (A (b2 + 2))]) (c_X2_at0 hfl (A := A) (b := b) (ex := (cm 0)) (ov := (cm 1)) (ie := (cm 2)) (fi := (cm 3)) (nu := 1) (q := q) k12 k23 hAj hQ.1 hQ.2.1 hQ.2.2.1 hQ.2.2.2) k12 rfl hY_X2_at mm_X2_77 mi_X2_at ml_X2_at ⟨(Nat.le_of_ble_eq_true rfl), (Nat.le_of_ble_eq_true rfl)⟩ rfl hl.1 rfl (Nat.le_of_ble_eq_true rfl) dX2_isLike_74 ⟨(Nat.le_of_ble_eq_true rfl), (Nat.le_of_ble_eq_true rfl)⟩) (kx_no rfl) (fun a26 u25 H locs hp24 G => ?_)
          obtain ⟨zr, eu25⟩ := hp24
          replace zr := Eq.symm zr
          subst zr
          rw [eu25] at G
          have k27 : f (A (b2 + 2)) = some (.inr (2, [.ref (A (b2 + 3)), .ref (A (b2 + 5)), .ref (A (b2 + 7)), .ref (A (b2 + 9)), .ref (A (b2 + 11)), .ref (A (b2 + 13)), .int (cs2 0 6 8), .int (cs2 0 6 9), .int (cs2 0 6 10), .int (cs2 0 6 11), .int (cs2 0 6 12)])) := hM2 2 (by omega)
          have k28 : f (A (b2 + 3)) = some (.inr (8, [.int 8, .ref (A (b2 + 4)), .int 1])) := by have h9 : f (A (b2 + 3)) = some (.inr (8, [.int 8, .ref (A (b2 + 4)), .int (cs2 0 7 0)])) := hM2 3 (by omega); rw [(hL2 0 (by omega)).1] at h9; exact h9
          have k29 : f (A (b2 + 4)) = some (.inl (cy 0, 8, .inl (cs2 0 0))) := hM2 4 (by omega)
          have k30 : f (A (b2 + 5)) = some (.inr (8, [.int 6, .ref (A (b2 + 6)), .int 11])) := by have h9 : f (A (b2 + 5)) = some (.inr (8, [.int 6, .ref (A (b2 + 6)), .int (cs2 0 7 1)])) := hM2 5 (by omega); rw [(hL2 0 (by omega)).2.1] at h9; exact h9
          have k31 : f (A (b2 + 6)) = some (.inl (cy 0, 66, .inl (cs2 0 1))) := hM2 6 (by omega)
          have k32 : f (A (b2 + 7)) = some (.inr (8, [.int 7, .ref (A (b2 + 8)), .int 11])) := by have h9 : f (A (b2 + 7)) = some (.inr (8, [.int 7, .ref (A (b2 + 8)), .int (cs2 0 7 2)])) := hM2 7 (by omega); rw [(hL2 0 (by omega)).2.2.1] at h9; exact h9
          have k33 : f (A (b2 + 8)) = some (.inl (cy 0, 77, .inl (cs2 0 2))) := hM2 8 (by omega)
          have k34 : f (A (b2 + 9)) = some (.inr (8, [.int 8, .ref (A (b2 + 10)), .int (nI ((cs2 0 7 3).toNatClampNeg))])) := by have h9 : f (A (b2 + 9)) = some (.inr (8, [.int 8, .ref (A (b2 + 10)), .int (cs2 0 7 3)])) := hM2 9 (by omega); rw [(hL2 0 (by omega)).2.2.2.1.1] at h9; exact h9
          have k35 : f (A (b2 + 10)) = some (.inl (cy 0, 4104, .inl (cs2 0 3))) := hM2 10 (by omega)
          have k36 : f (A (b2 + 11)) = some (.inr (8, [.int 3, .ref (A (b2 + 12)), .int (nI ((cs2 0 7 4).toNatClampNeg))])) := by have h9 : f (A (b2 + 11)) = some (.inr (8, [.int 3, .ref (A (b2 + 12)), .int (cs2 0 7 4)])) := hM2 11 (by omega); rw [(hL2 0 (by omega)).2.2.2.2.1.1] at h9; exact h9
          have k37 : f (A (b2 + 12)) = some (.inl (cy 0, 33, .inl (cs2 0 4))) := hM2 12 (by omega)
          have k38 : f (A (b2 + 13)) = some (.inr (5, [.ref (A (b2 + 14)), .int (cs2 0 6 0), .int (cs2 0 6 1), .int (nI ((cs2 0 6 2).toNatClampNeg)), .int (cs2 0 6 3), .int (cs2 0 6 4), .int (cs2 0 6 5), .int (cs2 0 6 6), .int (cs2 0 6 7)])) := by have h9 : f (A (b2 + 13)) = some (.inr (5, [.ref (A (b2 + 14)), .int (cs2 0 6 0), .int (cs2 0 6 1), .int (cs2 0 6 2), .int (cs2 0 6 3), .int (cs2 0 6 4), .int (cs2 0 6 5), .int (cs2 0 6 6), .int (cs2 0 6 7)])) := hM2 13 (by omega); rw [(hL2 0 (by omega)).2.2.2.2.2.1] at h9; exact h9
          have k39 : f (A (b2 + 14)) = some (.inl (cy 0, 20, .inl (cs2 0 5))) := hM2 14 (by omega)
          have k40 : f (A (b + 2)) = some (.inr (2, [.ref (A (b + 3)), .ref (A (b + 5)), .ref (A (b + 7)), .ref (A (b + 9)), .ref (A (b + 11)), .ref (A (b + 13)), .int (cs 0 6 8), .int (cs 0 6 9), .int (cs 0 6 10), .int (cs 0 6 11), .int (cs 0 6 12)])) := hM 2 (by omega)
          have k41 : f (A (b + 3)) = some (.inr (8, [.int 8, .ref (A (b + 4)), .int 1])) := by have h9 : f (A (b + 3)) = some (.inr (8, [.int 8, .ref (A (b + 4)), .int (cs 0 7 0)])) := hM 3 (by omega); rw [(hL1 0 (by omega)).1] at h9; exact h9
          have k42 : f (A (b + 4)) = some (.inl (cy 0, 8, .inl (cs 0 0))) := hM 4 (by omega)
          have k43 : f (A (b + 5)) = some (.inr (8, [.int 6, .ref (A (b + 6)), .int 11])) := by have h9 : f (A (b + 5)) = some (.inr (8, [.int 6, .ref (A (b + 6)), .int (cs 0 7 1)])) := hM 5 (by omega); rw [(hL1 0 (by omega)).2.1] at h9; exact h9
          have k44 : f (A (b + 6)) = some (.inl (cy 0, 66, .inl (cs 0 1))) := hM 6 (by omega)
          have k45 : f (A (b + 7)) = some (.inr (8, [.int 7, .ref (A (b + 8)), .int 11])) := by have h9 : f (A (b + 7)) = some (.inr (8, [.int 7, .ref (A (b + 8)), .int (cs 0 7 2)])) := hM 7 (by omega); rw [(hL1 0 (by omega)).2.2.1] at h9; exact h9
          have k46 : f (A (b + 8)) = some (.inl (cy 0, 77, .inl (cs 0 2))) := hM 8 (by omega)
          have k47 : f (A (b + 9)) = some (.inr (8, [.int 8, .ref (A (b + 10)), .int (nI ((cs 0 7 3).toNatClampNeg))])) := by have h9 : f (A (b + 9)) = some (.inr (8, [.int 8, .ref (A (b + 10)), .int (cs 0 7 3)])) := hM 9 (by omega); rw [(hL1 0 (by omega)).2.2.2.1.1] at h9; exact h9
          have k48 : f (A (b + 10)) = some (.inl (cy 0, 4104, .inl (cs 0 3))) := hM 10 (by omega)
          have k49 : f (A (b + 11)) = some (.inr (8, [.int 3, .ref (A (b + 12)), .int (nI ((cs 0 7 4).toNatClampNeg))])) := by have h9 : f (A (b + 11)) = some (.inr (8, [.int 3, .ref (A (b + 12)), .int (cs 0 7 4)])) := hM 11 (by omega); rw [(hL1 0 (by omega)).2.2.2.2.1.1] at h9; exact h9
          have k50 : f (A (b + 12)) = some (.inl (cy 0, 33, .inl (cs 0 4))) := hM 12 (by omega)
          have k51 : f (A (b + 13)) = some (.inr (5, [.ref (A (b + 14)), .int (cs 0 6 0), .int (cs 0 6 1), .int (nI ((cs 0 6 2).toNatClampNeg)), .int (cs 0 6 3), .int (cs 0 6 4), .int (cs 0 6 5), .int (cs 0 6 6), .int (cs 0 6 7)])) := by have h9 : f (A (b + 13)) = some (.inr (5, [.ref (A (b + 14)), .int (cs 0 6 0), .int (cs 0 6 1), .int (cs 0 6 2), .int (cs 0 6 3), .int (cs 0 6 4), .int (cs 0 6 5), .int (cs 0 6 6), .int (cs 0 6 7)])) := hM 13 (by omega); rw [(hL1 0 (by omega)).2.2.2.2.2.1] at h9; exact h9
          have k52 : f (A (b + 14)) = some (.inl (cy 0, 20, .inl (cs 0 5))) := hM 14 (by omega)
          refine g_cI C0 G (g_runV C0 G (rest := []) (c_X0_isLike hfl (rp := ((cs2 0 7 3).toNatClampNeg)) (rf := ((cs2 0 7 4).toNatClampNeg)) (oc := ((cs2 0 6 2).toNatClampNeg)) (g0 := (cs2 0 0)) (g1 := (cs2 0 1)) (g2 := (cs2 0 2)) (g3 := (cs2 0 3)) (g4 := (cs2 0 4)) (go := (cs2 0 5)) (lm := (cs2 0 6 0)) (lf := (cs2 0 6 1)) (bw := (cs2 0 6 3)) (bb := (cs2 0 6 4)) (bl := (cs2 0 6 5)) (cd := (cs2 0 6 6)) (hbg := (cs2 0 6 7)) (rs := (cs2 0 6 8)) (sk := (cs2 0 6 9)) (ot := (cs2 0 6 10)) (ch := (cs2 0 6 11)) (nc := (cs2 0 6 12)) (rp_o := ((cs 0 7 3).toNatClampNeg)) (rf_o := ((cs 0 7 4).toNatClampNeg)) (oc_o := ((cs 0 6 2).toNatClampNeg)) (g0_o := (cs 0 0)) (g1_o := (cs 0 1)) (g2_o := (cs 0 2)) (g3_o := (cs 0 3)) (g4_o := (cs 0 4)) (go_o := (cs 0 5)) (lm_o := (cs 0 6 0)) (lf_o := (cs 0 6 1)) (bw_o := (cs 0 6 3)) (bb_o := (cs 0 6 4)) (bl_o := (cs 0 6 5)) (cd_o := (cs 0 6 6)) (hbg_o := (cs 0 6 7)) (rs_o := (cs 0 6 8)) (sk_o := (cs 0 6 9)) (ot_o := (cs 0 6 10)) (ch_o := (cs 0 6 11)) (nc_o := (cs 0 6 12)) k27 k28 k29 k30 k31 k32 k33 k34 k35 k36 k37 k38 k39 k40 k41 k42 k43 k44 k45 k46 k47 k48 k49 k50 k51 k52 (hL2 0 (by omega)).2.2.2.1.2 (hL2 0 (by omega)).2.2.2.2.1.2 (hL2 0 (by omega)).2.2.2.2.2.2 (hL1 0 (by omega)).2.2.2.1.2 (hL1 0 (by omega)).2.2.2.2.1.2 (hL1 0 (by omega)).2.2.2.2.2.2) k27 rfl hY_X0_isLike mm_X2_186 mi_X0_isLike ml_X0_isLike ⟨(Nat.le_of_ble_eq_true rfl), (Nat.le_of_ble_eq_true rfl)⟩ rfl hl.1 rfl (Nat.le_of_ble_eq_true rfl) dX2_isLike_77 ⟨(Nat.le_of_ble_eq_true rfl), (Nat.le_of_ble_eq_true rfl)⟩) (kx_no rfl) (fun r55 u54 H locs hp53 G => ?_)
          obtain ⟨hb56, eu54⟩ := hp53
          rw [eu54] at G
          refine lv_if_ne (tgt := 85) hx hb dX2_isLike_80 (by decide) (fun c57 => ?_) (fun c57 => ?_)
          · refine lv_iinc (v := 1) (lv' := [(2, .int 1), (0, .ref (A (b2 + 0))), (1, .ref (A (b + 0)))]) hx hb dX2_isLike_85 hl (k := 0) rfl (by exact (by decide)) (by decide) rfl (fun ls hl => ?_)
            refine lv_goto (tgt := 59) hx hb dX2_isLike_88 (by decide) ?_
            refine lv_iload_n hx hb dX2_isLike_59 rfl (lv_at hl 0 rfl) ?_
            refine lv_aload_n hx hb dX2_isLike_60 rfl (lv_at hl 1 rfl) ?_
            refine g_get C0 G k11 rfl hiX2 5 (by decide) mf_X2_31 rfl dX2_isLike_61 ?_
            refine lv_icmp_gt (tgt := 91) hx hb dX2_isLike_64 (by decide) (fun c59 => absurd c59 (by decide)) (fun _ => ?_)
            refine lv_aload_n hx hb dX2_isLike_67 rfl (lv_at hl 1 rfl) ?_
            refine lv_iload_n hx hb dX2_isLike_68 rfl (lv_at hl 0 rfl) ?_
            refine g_cR C0 G (g_runV C0 G (rest := []) (c_X2_at1 hfl (A := A) (b := b2) (ex := (cm2 0)) (ov := (cm2 1)) (ie := (cm2 2)) (fi := (cm2 3)) (nu := 1) (q := q2) k11 k19 hAj hQ2.1 hQ2.2.1 hQ2.2.2.1 hQ2.2.2.2) k11 rfl hY_X2_at mm_X2_77 mi_X2_at ml_X2_at ⟨(Nat.le_of_ble_eq_true rfl), (Nat.le_of_ble_eq_true rfl)⟩ rfl hl.1 rfl (Nat.le_of_ble_eq_true rfl) dX2_isLike_69 ⟨(Nat.le_of_ble_eq_true rfl), (Nat.le_of_ble_eq_true rfl)⟩) (kx_no rfl) (fun a62 u61 H locs hp60 G => ?_)
            obtain ⟨zr, eu61⟩ := hp60
            replace zr := Eq.symm zr
            subst zr
            rw [eu61] at G
            refine lv_aload_n hx hb dX2_isLike_72 rfl (lv_at hl 2 rfl) ?_
            refine lv_iload_n hx hb dX2_isLike_73 rfl (lv_at hl 0 rfl) ?_
            refine g_cR C0 G (g_runV C0 G (rest := [.ref (A (b2 + 15))]) (c_X2_at1 hfl (A := A) (b := b) (ex := (cm 0)) (ov := (cm 1)) (ie := (cm 2)) (fi := (cm 3)) (nu := 1) (q := q) k12 k23 hAj hQ.1 hQ.2.1 hQ.2.2.1 hQ.2.2.2) k12 rfl hY_X2_at mm_X2_77 mi_X2_at ml_X2_at ⟨(Nat.le_of_ble_eq_true rfl), (Nat.le_of_ble_eq_true rfl)⟩ rfl hl.1 rfl (Nat.le_of_ble_eq_true rfl) dX2_isLike_74 ⟨(Nat.le_of_ble_eq_true rfl), (Nat.le_of_ble_eq_true rfl)⟩) (kx_no rfl) (fun a65 u64 H locs hp63 G => ?_)
            obtain ⟨zr, eu64⟩ := hp63
            replace zr := Eq.symm zr
            subst zr
            rw [eu64] at G
            have k66 : f (A (b2 + 15)) = some (.inr (2, [.ref (A (b2 + 16)), .ref (A (b2 + 18)), .ref (A (b2 + 20)), .ref (A (b2 + 22)), .ref (A (b2 + 24)), .ref (A (b2 + 26)), .int (cs2 1 6 8), .int (cs2 1 6 9), .int (cs2 1 6 10), .int (cs2 1 6 11), .int (cs2 1 6 12)])) := hM2 15 (by omega)
            have k67 : f (A (b2 + 16)) = some (.inr (8, [.int 8, .ref (A (b2 + 17)), .int 1])) := by have h9 : f (A (b2 + 16)) = some (.inr (8, [.int 8, .ref (A (b2 + 17)), .int (cs2 1 7 0)])) := hM2 16 (by omega); rw [(hL2 1 (by omega)).1] at h9; exact h9
            have k68 : f (A (b2 + 17)) = some (.inl (cy 0, 8, .inl (cs2 1 0))) := hM2 17 (by omega)
            have k69 : f (A (b2 + 18)) = some (.inr (8, [.int 6, .ref (A (b2 + 19)), .int 11])) := by have h9 : f (A (b2 + 18)) = some (.inr (8, [.int 6, .ref (A (b2 + 19)), .int (cs2 1 7 1)])) := hM2 18 (by omega); rw [(hL2 1 (by omega)).2.1] at h9; exact h9
            have k70 : f (A (b2 + 19)) = some (.inl (cy 0, 66, .inl (cs2 1 1))) := hM2 19 (by omega)
            have k71 : f (A (b2 + 20)) = some (.inr (8, [.int 7, .ref (A (b2 + 21)), .int 11])) := by have h9 : f (A (b2 + 20)) = some (.inr (8, [.int 7, .ref (A (b2 + 21)), .int (cs2 1 7 2)])) := hM2 20 (by omega); rw [(hL2 1 (by omega)).2.2.1] at h9; exact h9
            have k72 : f (A (b2 + 21)) = some (.inl (cy 0, 77, .inl (cs2 1 2))) := hM2 21 (by omega)
            have k73 : f (A (b2 + 22)) = some (.inr (8, [.int 8, .ref (A (b2 + 23)), .int (nI ((cs2 1 7 3).toNatClampNeg))])) := by have h9 : f (A (b2 + 22)) = some (.inr (8, [.int 8, .ref (A (b2 + 23)), .int (cs2 1 7 3)])) := hM2 22 (by omega); rw [(hL2 1 (by omega)).2.2.2.1.1] at h9; exact h9
            have k74 : f (A (b2 + 23)) = some (.inl (cy 0, 4104, .inl (cs2 1 3))) := hM2 23 (by omega)
            have k75 : f (A (b2 + 24)) = some (.inr (8, [.int 3, .ref (A (b2 + 25)), .int (nI ((cs2 1 7 4).toNatClampNeg))])) := by have h9 : f (A (b2 + 24)) = some (.inr (8, [.int 3, .ref (A (b2 + 25)), .int (cs2 1 7 4)])) := hM2 24 (by omega); rw [(hL2 1 (by omega)).2.2.2.2.1.1] at h9; exact h9
            have k76 : f (A (b2 + 25)) = some (.inl (cy 0, 33, .inl (cs2 1 4))) := hM2 25 (by omega)
            have k77 : f (A (b2 + 26)) = some (.inr (5, [.ref (A (b2 + 27)), .int (cs2 1 6 0), .int (cs2 1 6 1), .int (nI ((cs2 1 6 2).toNatClampNeg)), .int (cs2 1 6 3), .int (cs2 1 6 4), .int (cs2 1 6 5), .int (cs2 1 6 6), .int (cs2 1 6 7)])) := by have h9 : f (A (b2 + 26)) = some (.inr (5, [.ref (A (b2 + 27)), .int (cs2 1 6 0), .int (cs2 1 6 1), .int (cs2 1 6 2), .int (cs2 1 6 3), .int (cs2 1 6 4), .int (cs2 1 6 5), .int (cs2 1 6 6), .int (cs2 1 6 7)])) := hM2 26 (by omega); rw [(hL2 1 (by omega)).2.2.2.2.2.1] at h9; exact h9
            have k78 : f (A (b2 + 27)) = some (.inl (cy 0, 20, .inl (cs2 1 5))) := hM2 27 (by omega)
            have k79 : f (A (b + 15)) = some (.inr (2, [.ref (A (b + 16)), .ref (A (b + 18)), .ref (A (b + 20)), .ref (A (b + 22)), .ref (A (b + 24)), .ref (A (b + 26)), .int (cs 1 6 8), .int (cs 1 6 9), .int (cs 1 6 10), .int (cs 1 6 11), .int (cs 1 6 12)])) := hM 15 (by omega)
            have k80 : f (A (b + 16)) = some (.inr (8, [.int 8, .ref (A (b + 17)), .int 1])) := by have h9 : f (A (b + 16)) = some (.inr (8, [.int 8, .ref (A (b + 17)), .int (cs 1 7 0)])) := hM 16 (by omega); rw [(hL1 1 (by omega)).1] at h9; exact h9
            have k81 : f (A (b + 17)) = some (.inl (cy 0, 8, .inl (cs 1 0))) := hM 17 (by omega)
            have k82 : f (A (b + 18)) = some (.inr (8, [.int 6, .ref (A (b + 19)), .int 11])) := by have h9 : f (A (b + 18)) = some (.inr (8, [.int 6, .ref (A (b + 19)), .int (cs 1 7 1)])) := hM 18 (by omega); rw [(hL1 1 (by omega)).2.1] at h9; exact h9
            have k83 : f (A (b + 19)) = some (.inl (cy 0, 66, .inl (cs 1 1))) := hM 19 (by omega)
            have k84 : f (A (b + 20)) = some (.inr (8, [.int 7, .ref (A (b + 21)), .int 11])) := by have h9 : f (A (b + 20)) = some (.inr (8, [.int 7, .ref (A (b + 21)), .int (cs 1 7 2)])) := hM 20 (by omega); rw [(hL1 1 (by omega)).2.2.1] at h9; exact h9
            have k85 : f (A (b + 21)) = some (.inl (cy 0, 77, .inl (cs 1 2))) := hM 21 (by omega)
            have k86 : f (A (b + 22)) = some (.inr (8, [.int 8, .ref (A (b + 23)), .int (nI ((cs 1 7 3).toNatClampNeg))])) := by have h9 : f (A (b + 22)) = some (.inr (8, [.int 8, .ref (A (b + 23)), .int (cs 1 7 3)])) := hM 22 (by omega); rw [(hL1 1 (by omega)).2.2.2.1.1] at h9; exact h9
            have k87 : f (A (b + 23)) = some (.inl (cy 0, 4104, .inl (cs 1 3))) := hM 23 (by omega)
            have k88 : f (A (b + 24)) = some (.inr (8, [.int 3, .ref (A (b + 25)), .int (nI ((cs 1 7 4).toNatClampNeg))])) := by have h9 : f (A (b + 24)) = some (.inr (8, [.int 3, .ref (A (b + 25)), .int (cs 1 7 4)])) := hM 24 (by omega); rw [(hL1 1 (by omega)).2.2.2.2.1.1] at h9; exact h9
            have k89 : f (A (b + 25)) = some (.inl (cy 0, 33, .inl (cs 1 4))) := hM 25 (by omega)
            have k90 : f (A (b + 26)) = some (.inr (5, [.ref (A (b + 27)), .int (cs 1 6 0), .int (cs 1 6 1), .int (nI ((cs 1 6 2).toNatClampNeg)), .int (cs 1 6 3), .int (cs 1 6 4), .int (cs 1 6 5), .int (cs 1 6 6), .int (cs 1 6 7)])) := by have h9 : f (A (b + 26)) = some (.inr (5, [.ref (A (b + 27)), .int (cs 1 6 0), .int (cs 1 6 1), .int (cs 1 6 2), .int (cs 1 6 3), .int (cs 1 6 4), .int (cs 1 6 5), .int (cs 1 6 6), .int (cs 1 6 7)])) := hM 26 (by omega); rw [(hL1 1 (by omega)).2.2.2.2.2.1] at h9; exact h9
            have k91 : f (A (b + 27)) = some (.inl (cy 0, 20, .inl (cs 1 5))) := hM 27 (by omega)
            refine g_cI C0 G (g_runV C0 G (rest := []) (c_X0_isLike hfl (rp := ((cs2 1 7 3).toNatClampNeg)) (rf := ((cs2 1 7 4).toNatClampNeg)) (oc := ((cs2 1 6 2).toNatClampNeg)) (g0 := (cs2 1 0)) (g1 := (cs2 1 1)) (g2 := (cs2 1 2)) (g3 := (cs2 1 3)) (g4 := (cs2 1 4)) (go := (cs2 1 5)) (lm := (cs2 1 6 0)) (lf := (cs2 1 6 1)) (bw := (cs2 1 6 3)) (bb := (cs2 1 6 4)) (bl := (cs2 1 6 5)) (cd := (cs2 1 6 6)) (hbg := (cs2 1 6 7)) (rs := (cs2 1 6 8)) (sk := (cs2 1 6 9)) (ot := (cs2 1 6 10)) (ch := (cs2 1 6 11)) (nc := (cs2 1 6 12)) (rp_o := ((cs 1 7 3).toNatClampNeg)) (rf_o := ((cs 1 7 4).toNatClampNeg)) (oc_o := ((cs 1 6 2).toNatClampNeg)) (g0_o := (cs 1 0)) (g1_o := (cs 1 1)) (g2_o := (cs 1 2)) (g3_o := (cs 1 3)) (g4_o := (cs 1 4)) (go_o := (cs 1 5)) (lm_o := (cs 1 6 0)) (lf_o := (cs 1 6 1)) (bw_o := (cs 1 6 3)) (bb_o := (cs 1 6 4)) (bl_o := (cs 1 6 5)) (cd_o := (cs 1 6 6)) (hbg_o := (cs 1 6 7)) (rs_o := (cs 1 6 8)) (sk_o := (cs 1 6 9)) (ot_o := (cs 1 6 10)) (ch_o := (cs 1 6 11)) (nc_o := (cs 1 6 12)) k66 k67 k68 k69 k70 k71 k72 k73 k74 k75 k76 k77 k78 k79 k80 k81 k82 k83 k84 k85 k86 k87 k88 k89 k90 k91 (hL2 1 (by omega)).2.2.2.1.2 (hL2 1 (by omega)).2.2.2.2.1.2 (hL2 1 (by omega)).2.2.2.2.2.2 (hL1 1 (by omega)).2.2.2.1.2 (hL1 1 (by omega)).2.2.2.2.1.2 (hL1 1 (by omega)).2.2.2.2.2.2) k66 rfl hY_X0_isLike mm_X2_186 mi_X0_isLike ml_X0_isLike ⟨(Nat.le_of_ble_eq_true rfl), (Nat.le_of_ble_eq_true rfl)⟩ rfl hl.1 rfl (Nat.le_of_ble_eq_true rfl) dX2_isLike_77 ⟨(Nat.le_of_ble_eq_true rfl), (Nat.le_of_ble_eq_true rfl)⟩) (kx_no rfl) (fun r94 u93 H locs hp92 G => ?_)
            obtain ⟨hb95, eu93⟩ := hp92
            rw [eu93] at G
            refine lv_if_ne (tgt := 85) hx hb dX2_isLike_80 (by decide) (fun c96 => ?_) (fun c96 => ?_)
            · refine lv_iinc (v := 2) (lv' := [(2, .int 2), (0, .ref (A (b2 + 0))), (1, .ref (A (b + 0)))]) hx hb dX2_isLike_85 hl (k := 0) rfl (by exact (by decide)) (by decide) rfl (fun ls hl => ?_)
              refine lv_goto (tgt := 59) hx hb dX2_isLike_88 (by decide) ?_
              refine lv_iload_n hx hb dX2_isLike_59 rfl (lv_at hl 0 rfl) ?_
              refine lv_aload_n hx hb dX2_isLike_60 rfl (lv_at hl 1 rfl) ?_
              refine g_get C0 G k11 rfl hiX2 5 (by decide) mf_X2_31 rfl dX2_isLike_61 ?_
              refine lv_icmp_gt (tgt := 91) hx hb dX2_isLike_64 (by decide) (fun _ => ?_) (fun c98 => absurd (by decide) c98)
              refine lv_iconst (v := 1) hx hb dX2_isLike_91 (by decide) ?_
              exact g_zret C0 G hr dX2_isLike_92 rfl (Nat.le_of_ble_eq_true rfl) (Nat.le_of_ble_eq_true rfl) (by exact ⟨(Or.inr rfl), rfl⟩)
            · refine lv_iconst (v := 0) hx hb dX2_isLike_83 (by decide) ?_
              exact g_zret C0 G hr dX2_isLike_84 rfl (Nat.le_of_ble_eq_true rfl) (Nat.le_of_ble_eq_true rfl) (by exact ⟨(Or.inl rfl), rfl⟩)
          · refine lv_iconst (v := 0) hx hb dX2_isLike_83 (by decide) ?_
            exact g_zret C0 G hr dX2_isLike_84 rfl (Nat.le_of_ble_eq_true rfl) (Nat.le_of_ble_eq_true rfl) (by exact ⟨(Or.inl rfl), rfl⟩)
set_option maxRecDepth 100000 in
theorem c_X2_isLike2 {l : Launch} (hfl : l.stackTraces = false) {D : va_G} {cy : Nat → ClassId} {f : Hf} {sz : Nat} {A : Nat → Nat} {b : Nat} {q : Nat → Option Nat} {cm : Nat → Int32} {cs : Nat → Nat → Nat → Int32} {b2 : Nat} {q2 : Nat → Option Nat} {cm2 : Nat → Int32} {cs2 : Nat → Nat → Nat → Int32}  (hAj : ∀ i j : Nat, i ≠ j → A i ≠ A j) (hM : MW A b cy q cm cs f) (hQ : HQ A b q) (hM2 : MW A b2 cy q2 cm2 cs2 f) (hQ2 : HQ A b2 q2) (h4 : cm 4 = 2) (h42 : cm2 4 = 2) (hL1 : ∀ j : Nat, j ≤ 2 → LK cs j) (hL2 : ∀ j : Nat, j ≤ 2 → LK cs2 j) : hMet l yX2_isLike cX2_isLike 3 (some .boolean) { frames := 3, cells := 0, slots := 0, locals := 68 } D (hTy cy) f sz [.ref (A (b2 + 0)), .ref (A (b + 0))] (hQi (fun r u => (r = 0 ∨ r = 1) ∧ u = f) D f sz) hNo := by
  refine h_enter (by decide) hfl (Nat.le_of_ble_eq_true rfl) ?_
  intro p9 e9 s9 m9 b9 t9 c9 hsz C0 hr hnm G ls hl
  have hx := C0.1.1
  have hb := C0.1.2.1
  have hl : lv_has ls 3 [(0, .ref (A (b2 + 0))), (1, .ref (A (b + 0)))] := hl
  refine lv_aload_n hx hb dX2_isLike_0 rfl (lv_at hl 0 rfl) ?_
  have k11 : f (A (b2 + 0)) = some (.inr (4, [.ref (A (b2 + 1)), .int (cm2 0), .int (cm2 1), .int (cm2 2), .int (cm2 3), .int 2])) := by have h9 : f (A (b2 + 0)) = some (.inr (4, [.ref (A (b2 + 1)), .int (cm2 0), .int (cm2 1), .int (cm2 2), .int (cm2 3), .int (cm2 4)])) := hM2 0 (by omega); rw [h42] at h9; exact h9
  refine g_get C0 G k11 rfl hiX2 1 (by decide) mf_X2_17 rfl dX2_isLike_1 ?_
  refine lv_aload_n hx hb dX2_isLike_4 rfl (lv_at hl 1 rfl) ?_
  have k12 : f (A (b + 0)) = some (.inr (4, [.ref (A (b + 1)), .int (cm 0), .int (cm 1), .int (cm 2), .int (cm 3), .int 2])) := by have h9 : f (A (b + 0)) = some (.inr (4, [.ref (A (b + 1)), .int (cm 0), .int (cm 1), .int (cm 2), .int (cm 3), .int (cm 4)])) := hM 0 (by omega); rw [h4] at h9; exact h9
  refine g_get C0 G k12 rfl hiX2 1 (by decide) mf_X2_17 rfl dX2_isLike_5 ?_
  refine lv_icmp_ne (tgt := 55) hx hb dX2_isLike_8 (by decide) (fun c13 => ?_) (fun c13 => ?_)
  · refine lv_iconst (v := 0) hx hb dX2_isLike_55 (by decide) ?_
    exact g_zret C0 G hr dX2_isLike_56 rfl (Nat.le_of_ble_eq_true rfl) (Nat.le_of_ble_eq_true rfl) (by exact ⟨(Or.inl rfl), rfl⟩)
  · refine lv_aload_n hx hb dX2_isLike_11 rfl (lv_at hl 0 rfl) ?_
    refine g_get C0 G k11 rfl hiX2 2 (by decide) mf_X2_21 rfl dX2_isLike_12 ?_
    refine lv_aload_n hx hb dX2_isLike_15 rfl (lv_at hl 1 rfl) ?_
    refine g_get C0 G k12 rfl hiX2 2 (by decide) mf_X2_21 rfl dX2_isLike_16 ?_
    refine lv_icmp_ne (tgt := 55) hx hb dX2_isLike_19 (by decide) (fun c14 => ?_) (fun c14 => ?_)
    · refine lv_iconst (v := 0) hx hb dX2_isLike_55 (by decide) ?_
      exact g_zret C0 G hr dX2_isLike_56 rfl (Nat.le_of_ble_eq_true rfl) (Nat.le_of_ble_eq_true rfl) (by exact ⟨(Or.inl rfl), rfl⟩)
    · refine lv_aload_n hx hb dX2_isLike_22 rfl (lv_at hl 0 rfl) ?_
      refine g_get C0 G k11 rfl hiX2 3 (by decide) mf_X2_24 rfl dX2_isLike_23 ?_
      refine lv_aload_n hx hb dX2_isLike_26 rfl (lv_at hl 1 rfl) ?_
      refine g_get C0 G k12 rfl hiX2 3 (by decide) mf_X2_24 rfl dX2_isLike_27 ?_
      refine lv_icmp_ne (tgt := 55) hx hb dX2_isLike_30 (by decide) (fun c15 => ?_) (fun c15 => ?_)
      · refine lv_iconst (v := 0) hx hb dX2_isLike_55 (by decide) ?_
        exact g_zret C0 G hr dX2_isLike_56 rfl (Nat.le_of_ble_eq_true rfl) (Nat.le_of_ble_eq_true rfl) (by exact ⟨(Or.inl rfl), rfl⟩)
      · refine lv_aload_n hx hb dX2_isLike_33 rfl (lv_at hl 0 rfl) ?_
        refine g_get C0 G k11 rfl hiX2 4 (by decide) mf_X2_28 rfl dX2_isLike_34 ?_
        refine lv_aload_n hx hb dX2_isLike_37 rfl (lv_at hl 1 rfl) ?_
        refine g_get C0 G k12 rfl hiX2 4 (by decide) mf_X2_28 rfl dX2_isLike_38 ?_
        refine lv_icmp_ne (tgt := 55) hx hb dX2_isLike_41 (by decide) (fun c16 => ?_) (fun c16 => ?_)
        · refine lv_iconst (v := 0) hx hb dX2_isLike_55 (by decide) ?_
          exact g_zret C0 G hr dX2_isLike_56 rfl (Nat.le_of_ble_eq_true rfl) (Nat.le_of_ble_eq_true rfl) (by exact ⟨(Or.inl rfl), rfl⟩)
        · refine lv_aload_n hx hb dX2_isLike_44 rfl (lv_at hl 0 rfl) ?_
          refine g_get C0 G k11 rfl hiX2 5 (by decide) mf_X2_31 rfl dX2_isLike_45 ?_
          refine lv_aload_n hx hb dX2_isLike_48 rfl (lv_at hl 1 rfl) ?_
          refine g_get C0 G k12 rfl hiX2 5 (by decide) mf_X2_31 rfl dX2_isLike_49 ?_
          refine lv_icmp_eq (tgt := 57) hx hb dX2_isLike_52 (by decide) (fun _ => ?_) (fun c17 => absurd (by decide) c17)
          refine lv_iconst (v := 0) hx hb dX2_isLike_57 (by decide) ?_
          refine lv_istore_n (lv' := [(2, .int 0), (0, .ref (A (b2 + 0))), (1, .ref (A (b + 0)))]) hx hb dX2_isLike_58 rfl hl (by decide) rfl (fun ls hl => ?_)
          refine lv_iload_n hx hb dX2_isLike_59 rfl (lv_at hl 0 rfl) ?_
          refine lv_aload_n hx hb dX2_isLike_60 rfl (lv_at hl 1 rfl) ?_
          refine g_get C0 G k11 rfl hiX2 5 (by decide) mf_X2_31 rfl dX2_isLike_61 ?_
          refine lv_icmp_gt (tgt := 91) hx hb dX2_isLike_64 (by decide) (fun c18 => absurd c18 (by decide)) (fun _ => ?_)
          refine lv_aload_n hx hb dX2_isLike_67 rfl (lv_at hl 1 rfl) ?_
          refine lv_iload_n hx hb dX2_isLike_68 rfl (lv_at hl 0 rfl) ?_
          have k19 : f (A (b2 + 1)) = some (.inl (cy 3, 4, .inr (.inr (.inr (.inr q2))))) := hM2 1 (by omega)
          refine g_cR C0 G (g_runV C0 G (rest := []) (c_X2_at0 hfl (A := A) (b := b2) (ex := (cm2 0)) (ov := (cm2 1)) (ie := (cm2 2)) (fi := (cm2 3)) (nu := 2) (q := q2) k11 k19 hAj hQ2.1 hQ2.2.1 hQ2.2.2.1 hQ2.2.2.2) k11 rfl hY_X2_at mm_X2_77 mi_X2_at ml_X2_at ⟨(Nat.le_of_ble_eq_true rfl), (Nat.le_of_ble_eq_true rfl)⟩ rfl hl.1 rfl (Nat.le_of_ble_eq_true rfl) dX2_isLike_69 ⟨(Nat.le_of_ble_eq_true rfl), (Nat.le_of_ble_eq_true rfl)⟩) (kx_no rfl) (fun a22 u21 H locs hp20 G => ?_)
          obtain ⟨zr, eu21⟩ := hp20
          replace zr := Eq.symm zr
          subst zr
          rw [eu21] at G
          refine lv_aload_n hx hb dX2_isLike_72 rfl (lv_at hl 2 rfl) ?_
          refine lv_iload_n hx hb dX2_isLike_73 rfl (lv_at hl 0 rfl) ?_
          have k23 : f (A (b + 1)) = some (.inl (cy 3, 4, .inr (.inr (.inr (.inr q))))) := hM 1 (by omega)
          refine g_cR C0 G (g_runV C0 G (rest := [.ref (A (b2 + 2))]) (c_X2_at0 hfl (A := A) (b := b) (ex := (cm 0)) (ov := (cm 1)) (ie := (cm 2)) (fi := (cm 3)) (nu := 2) (q := q) k12 k23 hAj hQ.1 hQ.2.1 hQ.2.2.1 hQ.2.2.2) k12 rfl hY_X2_at mm_X2_77 mi_X2_at ml_X2_at ⟨(Nat.le_of_ble_eq_true rfl), (Nat.le_of_ble_eq_true rfl)⟩ rfl hl.1 rfl (Nat.le_of_ble_eq_true rfl) dX2_isLike_74 ⟨(Nat.le_of_ble_eq_true rfl), (Nat.le_of_ble_eq_true rfl)⟩) (kx_no rfl) (fun a26 u25 H locs hp24 G => ?_)
          obtain ⟨zr, eu25⟩ := hp24
          replace zr := Eq.symm zr
          subst zr
          rw [eu25] at G
          have k27 : f (A (b2 + 2)) = some (.inr (2, [.ref (A (b2 + 3)), .ref (A (b2 + 5)), .ref (A (b2 + 7)), .ref (A (b2 + 9)), .ref (A (b2 + 11)), .ref (A (b2 + 13)), .int (cs2 0 6 8), .int (cs2 0 6 9), .int (cs2 0 6 10), .int (cs2 0 6 11), .int (cs2 0 6 12)])) := hM2 2 (by omega)
          have k28 : f (A (b2 + 3)) = some (.inr (8, [.int 8, .ref (A (b2 + 4)), .int 1])) := by have h9 : f (A (b2 + 3)) = some (.inr (8, [.int 8, .ref (A (b2 + 4)), .int (cs2 0 7 0)])) := hM2 3 (by omega); rw [(hL2 0 (by omega)).1] at h9; exact h9
          have k29 : f (A (b2 + 4)) = some (.inl (cy 0, 8, .inl (cs2 0 0))) := hM2 4 (by omega)
          have k30 : f (A (b2 + 5)) = some (.inr (8, [.int 6, .ref (A (b2 + 6)), .int 11])) := by have h9 : f (A (b2 + 5)) = some (.inr (8, [.int 6, .ref (A (b2 + 6)), .int (cs2 0 7 1)])) := hM2 5 (by omega); rw [(hL2 0 (by omega)).2.1] at h9; exact h9
          have k31 : f (A (b2 + 6)) = some (.inl (cy 0, 66, .inl (cs2 0 1))) := hM2 6 (by omega)
          have k32 : f (A (b2 + 7)) = some (.inr (8, [.int 7, .ref (A (b2 + 8)), .int 11])) := by have h9 : f (A (b2 + 7)) = some (.inr (8, [.int 7, .ref (A (b2 + 8)), .int (cs2 0 7 2)])) := hM2 7 (by omega); rw [(hL2 0 (by omega)).2.2.1] at h9; exact h9
          have k33 : f (A (b2 + 8)) = some (.inl (cy 0, 77, .inl (cs2 0 2))) := hM2 8 (by omega)
          have k34 : f (A (b2 + 9)) = some (.inr (8, [.int 8, .ref (A (b2 + 10)), .int (nI ((cs2 0 7 3).toNatClampNeg))])) := by have h9 : f (A (b2 + 9)) = some (.inr (8, [.int 8, .ref (A (b2 + 10)), .int (cs2 0 7 3)])) := hM2 9 (by omega); rw [(hL2 0 (by omega)).2.2.2.1.1] at h9; exact h9
          have k35 : f (A (b2 + 10)) = some (.inl (cy 0, 4104, .inl (cs2 0 3))) := hM2 10 (by omega)
          have k36 : f (A (b2 + 11)) = some (.inr (8, [.int 3, .ref (A (b2 + 12)), .int (nI ((cs2 0 7 4).toNatClampNeg))])) := by have h9 : f (A (b2 + 11)) = some (.inr (8, [.int 3, .ref (A (b2 + 12)), .int (cs2 0 7 4)])) := hM2 11 (by omega); rw [(hL2 0 (by omega)).2.2.2.2.1.1] at h9; exact h9
          have k37 : f (A (b2 + 12)) = some (.inl (cy 0, 33, .inl (cs2 0 4))) := hM2 12 (by omega)
          have k38 : f (A (b2 + 13)) = some (.inr (5, [.ref (A (b2 + 14)), .int (cs2 0 6 0), .int (cs2 0 6 1), .int (nI ((cs2 0 6 2).toNatClampNeg)), .int (cs2 0 6 3), .int (cs2 0 6 4), .int (cs2 0 6 5), .int (cs2 0 6 6), .int (cs2 0 6 7)])) := by have h9 : f (A (b2 + 13)) = some (.inr (5, [.ref (A (b2 + 14)), .int (cs2 0 6 0), .int (cs2 0 6 1), .int (cs2 0 6 2), .int (cs2 0 6 3), .int (cs2 0 6 4), .int (cs2 0 6 5), .int (cs2 0 6 6), .int (cs2 0 6 7)])) := hM2 13 (by omega); rw [(hL2 0 (by omega)).2.2.2.2.2.1] at h9; exact h9
          have k39 : f (A (b2 + 14)) = some (.inl (cy 0, 20, .inl (cs2 0 5))) := hM2 14 (by omega)
          have k40 : f (A (b + 2)) = some (.inr (2, [.ref (A (b + 3)), .ref (A (b + 5)), .ref (A (b + 7)), .ref (A (b + 9)), .ref (A (b + 11)), .ref (A (b + 13)), .int (cs 0 6 8), .int (cs 0 6 9), .int (cs 0 6 10), .int (cs 0 6 11), .int (cs 0 6 12)])) := hM 2 (by omega)
          have k41 : f (A (b + 3)) = some (.inr (8, [.int 8, .ref (A (b + 4)), .int 1])) := by have h9 : f (A (b + 3)) = some (.inr (8, [.int 8, .ref (A (b + 4)), .int (cs 0 7 0)])) := hM 3 (by omega); rw [(hL1 0 (by omega)).1] at h9; exact h9
          have k42 : f (A (b + 4)) = some (.inl (cy 0, 8, .inl (cs 0 0))) := hM 4 (by omega)
          have k43 : f (A (b + 5)) = some (.inr (8, [.int 6, .ref (A (b + 6)), .int 11])) := by have h9 : f (A (b + 5)) = some (.inr (8, [.int 6, .ref (A (b + 6)), .int (cs 0 7 1)])) := hM 5 (by omega); rw [(hL1 0 (by omega)).2.1] at h9; exact h9
          have k44 : f (A (b + 6)) = some (.inl (cy 0, 66, .inl (cs 0 1))) := hM 6 (by omega)
          have k45 : f (A (b + 7)) = some (.inr (8, [.int 7, .ref (A (b + 8)), .int 11])) := by have h9 : f (A (b + 7)) = some (.inr (8, [.int 7, .ref (A (b + 8)), .int (cs 0 7 2)])) := hM 7 (by omega); rw [(hL1 0 (by omega)).2.2.1] at h9; exact h9
          have k46 : f (A (b + 8)) = some (.inl (cy 0, 77, .inl (cs 0 2))) := hM 8 (by omega)
          have k47 : f (A (b + 9)) = some (.inr (8, [.int 8, .ref (A (b + 10)), .int (nI ((cs 0 7 3).toNatClampNeg))])) := by have h9 : f (A (b + 9)) = some (.inr (8, [.int 8, .ref (A (b + 10)), .int (cs 0 7 3)])) := hM 9 (by omega); rw [(hL1 0 (by omega)).2.2.2.1.1] at h9; exact h9
          have k48 : f (A (b + 10)) = some (.inl (cy 0, 4104, .inl (cs 0 3))) := hM 10 (by omega)
          have k49 : f (A (b + 11)) = some (.inr (8, [.int 3, .ref (A (b + 12)), .int (nI ((cs 0 7 4).toNatClampNeg))])) := by have h9 : f (A (b + 11)) = some (.inr (8, [.int 3, .ref (A (b + 12)), .int (cs 0 7 4)])) := hM 11 (by omega); rw [(hL1 0 (by omega)).2.2.2.2.1.1] at h9; exact h9
          have k50 : f (A (b + 12)) = some (.inl (cy 0, 33, .inl (cs 0 4))) := hM 12 (by omega)
          have k51 : f (A (b + 13)) = some (.inr (5, [.ref (A (b + 14)), .int (cs 0 6 0), .int (cs 0 6 1), .int (nI ((cs 0 6 2).toNatClampNeg)), .int (cs 0 6 3), .int (cs 0 6 4), .int (cs 0 6 5), .int (cs 0 6 6), .int (cs 0 6 7)])) := by have h9 : f (A (b + 13)) = some (.inr (5, [.ref (A (b + 14)), .int (cs 0 6 0), .int (cs 0 6 1), .int (cs 0 6 2), .int (cs 0 6 3), .int (cs 0 6 4), .int (cs 0 6 5), .int (cs 0 6 6), .int (cs 0 6 7)])) := hM 13 (by omega); rw [(hL1 0 (by omega)).2.2.2.2.2.1] at h9; exact h9
          have k52 : f (A (b + 14)) = some (.inl (cy 0, 20, .inl (cs 0 5))) := hM 14 (by omega)
          refine g_cI C0 G (g_runV C0 G (rest := []) (c_X0_isLike hfl (rp := ((cs2 0 7 3).toNatClampNeg)) (rf := ((cs2 0 7 4).toNatClampNeg)) (oc := ((cs2 0 6 2).toNatClampNeg)) (g0 := (cs2 0 0)) (g1 := (cs2 0 1)) (g2 := (cs2 0 2)) (g3 := (cs2 0 3)) (g4 := (cs2 0 4)) (go := (cs2 0 5)) (lm := (cs2 0 6 0)) (lf := (cs2 0 6 1)) (bw := (cs2 0 6 3)) (bb := (cs2 0 6 4)) (bl := (cs2 0 6 5)) (cd := (cs2 0 6 6)) (hbg := (cs2 0 6 7)) (rs := (cs2 0 6 8)) (sk := (cs2 0 6 9)) (ot := (cs2 0 6 10)) (ch := (cs2 0 6 11)) (nc := (cs2 0 6 12)) (rp_o := ((cs 0 7 3).toNatClampNeg)) (rf_o := ((cs 0 7 4).toNatClampNeg)) (oc_o := ((cs 0 6 2).toNatClampNeg)) (g0_o := (cs 0 0)) (g1_o := (cs 0 1)) (g2_o := (cs 0 2)) (g3_o := (cs 0 3)) (g4_o := (cs 0 4)) (go_o := (cs 0 5)) (lm_o := (cs 0 6 0)) (lf_o := (cs 0 6 1)) (bw_o := (cs 0 6 3)) (bb_o := (cs 0 6 4)) (bl_o := (cs 0 6 5)) (cd_o := (cs 0 6 6)) (hbg_o := (cs 0 6 7)) (rs_o := (cs 0 6 8)) (sk_o := (cs 0 6 9)) (ot_o := (cs 0 6 10)) (ch_o := (cs 0 6 11)) (nc_o := (cs 0 6 12)) k27 k28 k29 k30 k31 k32 k33 k34 k35 k36 k37 k38 k39 k40 k41 k42 k43 k44 k45 k46 k47 k48 k49 k50 k51 k52 (hL2 0 (by omega)).2.2.2.1.2 (hL2 0 (by omega)).2.2.2.2.1.2 (hL2 0 (by omega)).2.2.2.2.2.2 (hL1 0 (by omega)).2.2.2.1.2 (hL1 0 (by omega)).2.2.2.2.1.2 (hL1 0 (by omega)).2.2.2.2.2.2) k27 rfl hY_X0_isLike mm_X2_186 mi_X0_isLike ml_X0_isLike ⟨(Nat.le_of_ble_eq_true rfl), (Nat.le_of_ble_eq_true rfl)⟩ rfl hl.1 rfl (Nat.le_of_ble_eq_true rfl) dX2_isLike_77 ⟨(Nat.le_of_ble_eq_true rfl), (Nat.le_of_ble_eq_true rfl)⟩) (kx_no rfl) (fun r55 u54 H locs hp53 G => ?_)
          obtain ⟨hb56, eu54⟩ := hp53
          rw [eu54] at G
          refine lv_if_ne (tgt := 85) hx hb dX2_isLike_80 (by decide) (fun c57 => ?_) (fun c57 => ?_)
          · refine lv_iinc (v := 1) (lv' := [(2, .int 1), (0, .ref (A (b2 + 0))), (1, .ref (A (b + 0)))]) hx hb dX2_isLike_85 hl (k := 0) rfl (by exact (by decide)) (by decide) rfl (fun ls hl => ?_)
            refine lv_goto (tgt := 59) hx hb dX2_isLike_88 (by decide) ?_
            refine lv_iload_n hx hb dX2_isLike_59 rfl (lv_at hl 0 rfl) ?_
            refine lv_aload_n hx hb dX2_isLike_60 rfl (lv_at hl 1 rfl) ?_
            refine g_get C0 G k11 rfl hiX2 5 (by decide) mf_X2_31 rfl dX2_isLike_61 ?_
            refine lv_icmp_gt (tgt := 91) hx hb dX2_isLike_64 (by decide) (fun c59 => absurd c59 (by decide)) (fun _ => ?_)
            refine lv_aload_n hx hb dX2_isLike_67 rfl (lv_at hl 1 rfl) ?_
            refine lv_iload_n hx hb dX2_isLike_68 rfl (lv_at hl 0 rfl) ?_
            refine g_cR C0 G (g_runV C0 G (rest := []) (c_X2_at1 hfl (A := A) (b := b2) (ex := (cm2 0)) (ov := (cm2 1)) (ie := (cm2 2)) (fi := (cm2 3)) (nu := 2) (q := q2) k11 k19 hAj hQ2.1 hQ2.2.1 hQ2.2.2.1 hQ2.2.2.2) k11 rfl hY_X2_at mm_X2_77 mi_X2_at ml_X2_at ⟨(Nat.le_of_ble_eq_true rfl), (Nat.le_of_ble_eq_true rfl)⟩ rfl hl.1 rfl (Nat.le_of_ble_eq_true rfl) dX2_isLike_69 ⟨(Nat.le_of_ble_eq_true rfl), (Nat.le_of_ble_eq_true rfl)⟩) (kx_no rfl) (fun a62 u61 H locs hp60 G => ?_)
            obtain ⟨zr, eu61⟩ := hp60
            replace zr := Eq.symm zr
            subst zr
            rw [eu61] at G
            refine lv_aload_n hx hb dX2_isLike_72 rfl (lv_at hl 2 rfl) ?_
            refine lv_iload_n hx hb dX2_isLike_73 rfl (lv_at hl 0 rfl) ?_
            refine g_cR C0 G (g_runV C0 G (rest := [.ref (A (b2 + 15))]) (c_X2_at1 hfl (A := A) (b := b) (ex := (cm 0)) (ov := (cm 1)) (ie := (cm 2)) (fi := (cm 3)) (nu := 2) (q := q) k12 k23 hAj hQ.1 hQ.2.1 hQ.2.2.1 hQ.2.2.2) k12 rfl hY_X2_at mm_X2_77 mi_X2_at ml_X2_at ⟨(Nat.le_of_ble_eq_true rfl), (Nat.le_of_ble_eq_true rfl)⟩ rfl hl.1 rfl (Nat.le_of_ble_eq_true rfl) dX2_isLike_74 ⟨(Nat.le_of_ble_eq_true rfl), (Nat.le_of_ble_eq_true rfl)⟩) (kx_no rfl) (fun a65 u64 H locs hp63 G => ?_)
            obtain ⟨zr, eu64⟩ := hp63
            replace zr := Eq.symm zr
            subst zr
            rw [eu64] at G
            have k66 : f (A (b2 + 15)) = some (.inr (2, [.ref (A (b2 + 16)), .ref (A (b2 + 18)), .ref (A (b2 + 20)), .ref (A (b2 + 22)), .ref (A (b2 + 24)), .ref (A (b2 + 26)), .int (cs2 1 6 8), .int (cs2 1 6 9), .int (cs2 1 6 10), .int (cs2 1 6 11), .int (cs2 1 6 12)])) := hM2 15 (by omega)
            have k67 : f (A (b2 + 16)) = some (.inr (8, [.int 8, .ref (A (b2 + 17)), .int 1])) := by have h9 : f (A (b2 + 16)) = some (.inr (8, [.int 8, .ref (A (b2 + 17)), .int (cs2 1 7 0)])) := hM2 16 (by omega); rw [(hL2 1 (by omega)).1] at h9; exact h9
            have k68 : f (A (b2 + 17)) = some (.inl (cy 0, 8, .inl (cs2 1 0))) := hM2 17 (by omega)
            have k69 : f (A (b2 + 18)) = some (.inr (8, [.int 6, .ref (A (b2 + 19)), .int 11])) := by have h9 : f (A (b2 + 18)) = some (.inr (8, [.int 6, .ref (A (b2 + 19)), .int (cs2 1 7 1)])) := hM2 18 (by omega); rw [(hL2 1 (by omega)).2.1] at h9; exact h9
            have k70 : f (A (b2 + 19)) = some (.inl (cy 0, 66, .inl (cs2 1 1))) := hM2 19 (by omega)
            have k71 : f (A (b2 + 20)) = some (.inr (8, [.int 7, .ref (A (b2 + 21)), .int 11])) := by have h9 : f (A (b2 + 20)) = some (.inr (8, [.int 7, .ref (A (b2 + 21)), .int (cs2 1 7 2)])) := hM2 20 (by omega); rw [(hL2 1 (by omega)).2.2.1] at h9; exact h9
            have k72 : f (A (b2 + 21)) = some (.inl (cy 0, 77, .inl (cs2 1 2))) := hM2 21 (by omega)
            have k73 : f (A (b2 + 22)) = some (.inr (8, [.int 8, .ref (A (b2 + 23)), .int (nI ((cs2 1 7 3).toNatClampNeg))])) := by have h9 : f (A (b2 + 22)) = some (.inr (8, [.int 8, .ref (A (b2 + 23)), .int (cs2 1 7 3)])) := hM2 22 (by omega); rw [(hL2 1 (by omega)).2.2.2.1.1] at h9; exact h9
            have k74 : f (A (b2 + 23)) = some (.inl (cy 0, 4104, .inl (cs2 1 3))) := hM2 23 (by omega)
            have k75 : f (A (b2 + 24)) = some (.inr (8, [.int 3, .ref (A (b2 + 25)), .int (nI ((cs2 1 7 4).toNatClampNeg))])) := by have h9 : f (A (b2 + 24)) = some (.inr (8, [.int 3, .ref (A (b2 + 25)), .int (cs2 1 7 4)])) := hM2 24 (by omega); rw [(hL2 1 (by omega)).2.2.2.2.1.1] at h9; exact h9
            have k76 : f (A (b2 + 25)) = some (.inl (cy 0, 33, .inl (cs2 1 4))) := hM2 25 (by omega)
            have k77 : f (A (b2 + 26)) = some (.inr (5, [.ref (A (b2 + 27)), .int (cs2 1 6 0), .int (cs2 1 6 1), .int (nI ((cs2 1 6 2).toNatClampNeg)), .int (cs2 1 6 3), .int (cs2 1 6 4), .int (cs2 1 6 5), .int (cs2 1 6 6), .int (cs2 1 6 7)])) := by have h9 : f (A (b2 + 26)) = some (.inr (5, [.ref (A (b2 + 27)), .int (cs2 1 6 0), .int (cs2 1 6 1), .int (cs2 1 6 2), .int (cs2 1 6 3), .int (cs2 1 6 4), .int (cs2 1 6 5), .int (cs2 1 6 6), .int (cs2 1 6 7)])) := hM2 26 (by omega); rw [(hL2 1 (by omega)).2.2.2.2.2.1] at h9; exact h9
            have k78 : f (A (b2 + 27)) = some (.inl (cy 0, 20, .inl (cs2 1 5))) := hM2 27 (by omega)
            have k79 : f (A (b + 15)) = some (.inr (2, [.ref (A (b + 16)), .ref (A (b + 18)), .ref (A (b + 20)), .ref (A (b + 22)), .ref (A (b + 24)), .ref (A (b + 26)), .int (cs 1 6 8), .int (cs 1 6 9), .int (cs 1 6 10), .int (cs 1 6 11), .int (cs 1 6 12)])) := hM 15 (by omega)
            have k80 : f (A (b + 16)) = some (.inr (8, [.int 8, .ref (A (b + 17)), .int 1])) := by have h9 : f (A (b + 16)) = some (.inr (8, [.int 8, .ref (A (b + 17)), .int (cs 1 7 0)])) := hM 16 (by omega); rw [(hL1 1 (by omega)).1] at h9; exact h9
            have k81 : f (A (b + 17)) = some (.inl (cy 0, 8, .inl (cs 1 0))) := hM 17 (by omega)
            have k82 : f (A (b + 18)) = some (.inr (8, [.int 6, .ref (A (b + 19)), .int 11])) := by have h9 : f (A (b + 18)) = some (.inr (8, [.int 6, .ref (A (b + 19)), .int (cs 1 7 1)])) := hM 18 (by omega); rw [(hL1 1 (by omega)).2.1] at h9; exact h9
            have k83 : f (A (b + 19)) = some (.inl (cy 0, 66, .inl (cs 1 1))) := hM 19 (by omega)
            have k84 : f (A (b + 20)) = some (.inr (8, [.int 7, .ref (A (b + 21)), .int 11])) := by have h9 : f (A (b + 20)) = some (.inr (8, [.int 7, .ref (A (b + 21)), .int (cs 1 7 2)])) := hM 20 (by omega); rw [(hL1 1 (by omega)).2.2.1] at h9; exact h9
            have k85 : f (A (b + 21)) = some (.inl (cy 0, 77, .inl (cs 1 2))) := hM 21 (by omega)
            have k86 : f (A (b + 22)) = some (.inr (8, [.int 8, .ref (A (b + 23)), .int (nI ((cs 1 7 3).toNatClampNeg))])) := by have h9 : f (A (b + 22)) = some (.inr (8, [.int 8, .ref (A (b + 23)), .int (cs 1 7 3)])) := hM 22 (by omega); rw [(hL1 1 (by omega)).2.2.2.1.1] at h9; exact h9
            have k87 : f (A (b + 23)) = some (.inl (cy 0, 4104, .inl (cs 1 3))) := hM 23 (by omega)
            have k88 : f (A (b + 24)) = some (.inr (8, [.int 3, .ref (A (b + 25)), .int (nI ((cs 1 7 4).toNatClampNeg))])) := by have h9 : f (A (b + 24)) = some (.inr (8, [.int 3, .ref (A (b + 25)), .int (cs 1 7 4)])) := hM 24 (by omega); rw [(hL1 1 (by omega)).2.2.2.2.1.1] at h9; exact h9
            have k89 : f (A (b + 25)) = some (.inl (cy 0, 33, .inl (cs 1 4))) := hM 25 (by omega)
            have k90 : f (A (b + 26)) = some (.inr (5, [.ref (A (b + 27)), .int (cs 1 6 0), .int (cs 1 6 1), .int (nI ((cs 1 6 2).toNatClampNeg)), .int (cs 1 6 3), .int (cs 1 6 4), .int (cs 1 6 5), .int (cs 1 6 6), .int (cs 1 6 7)])) := by have h9 : f (A (b + 26)) = some (.inr (5, [.ref (A (b + 27)), .int (cs 1 6 0), .int (cs 1 6 1), .int (cs 1 6 2), .int (cs 1 6 3), .int (cs 1 6 4), .int (cs 1 6 5), .int (cs 1 6 6), .int (cs 1 6 7)])) := hM 26 (by omega); rw [(hL1 1 (by omega)).2.2.2.2.2.1] at h9; exact h9
            have k91 : f (A (b + 27)) = some (.inl (cy 0, 20, .inl (cs 1 5))) := hM 27 (by omega)
            refine g_cI C0 G (g_runV C0 G (rest := []) (c_X0_isLike hfl (rp := ((cs2 1 7 3).toNatClampNeg)) (rf := ((cs2 1 7 4).toNatClampNeg)) (oc := ((cs2 1 6 2).toNatClampNeg)) (g0 := (cs2 1 0)) (g1 := (cs2 1 1)) (g2 := (cs2 1 2)) (g3 := (cs2 1 3)) (g4 := (cs2 1 4)) (go := (cs2 1 5)) (lm := (cs2 1 6 0)) (lf := (cs2 1 6 1)) (bw := (cs2 1 6 3)) (bb := (cs2 1 6 4)) (bl := (cs2 1 6 5)) (cd := (cs2 1 6 6)) (hbg := (cs2 1 6 7)) (rs := (cs2 1 6 8)) (sk := (cs2 1 6 9)) (ot := (cs2 1 6 10)) (ch := (cs2 1 6 11)) (nc := (cs2 1 6 12)) (rp_o := ((cs 1 7 3).toNatClampNeg)) (rf_o := ((cs 1 7 4).toNatClampNeg)) (oc_o := ((cs 1 6 2).toNatClampNeg)) (g0_o := (cs 1 0)) (g1_o := (cs 1 1)) (g2_o := (cs 1 2)) (g3_o := (cs 1 3)) (g4_o := (cs 1 4)) (go_o := (cs 1 5)) (lm_o := (cs 1 6 0)) (lf_o := (cs 1 6 1)) (bw_o := (cs 1 6 3)) (bb_o := (cs 1 6 4)) (bl_o := (cs 1 6 5)) (cd_o := (cs 1 6 6)) (hbg_o := (cs 1 6 7)) (rs_o := (cs 1 6 8)) (sk_o := (cs 1 6 9)) (ot_o := (cs 1 6 10)) (ch_o := (cs 1 6 11)) (nc_o := (cs 1 6 12)) k66 k67 k68 k69 k70 k71 k72 k73 k74 k75 k76 k77 k78 k79 k80 k81 k82 k83 k84 k85 k86 k87 k88 k89 k90 k91 (hL2 1 (by omega)).2.2.2.1.2 (hL2 1 (by omega)).2.2.2.2.1.2 (hL2 1 (by omega)).2.2.2.2.2.2 (hL1 1 (by omega)).2.2.2.1.2 (hL1 1 (by omega)).2.2.2.2.1.2 (hL1 1 (by omega)).2.2.2.2.2.2) k66 rfl hY_X0_isLike mm_X2_186 mi_X0_isLike ml_X0_isLike ⟨(Nat.le_of_ble_eq_true rfl), (Nat.le_of_ble_eq_true rfl)⟩ rfl hl.1 rfl (Nat.le_of_ble_eq_true rfl) dX2_isLike_77 ⟨(Nat.le_of_ble_eq_true rfl), (Nat.le_of_ble_eq_true rfl)⟩) (kx_no rfl) (fun r94 u93 H locs hp92 G => ?_)
            obtain ⟨hb95, eu93⟩ := hp92
            rw [eu93] at G
            refine lv_if_ne (tgt := 85) hx hb dX2_isLike_80 (by decide) (fun c96 => ?_) (fun c96 => ?_)
            · refine lv_iinc (v := 2) (lv' := [(2, .int 2), (0, .ref (A (b2 + 0))), (1, .ref (A (b + 0)))]) hx hb dX2_isLike_85 hl (k := 0) rfl (by exact (by decide)) (by decide) rfl (fun ls hl => ?_)
              refine lv_goto (tgt := 59) hx hb dX2_isLike_88 (by decide) ?_
              refine lv_iload_n hx hb dX2_isLike_59 rfl (lv_at hl 0 rfl) ?_
              refine lv_aload_n hx hb dX2_isLike_60 rfl (lv_at hl 1 rfl) ?_
              refine g_get C0 G k11 rfl hiX2 5 (by decide) mf_X2_31 rfl dX2_isLike_61 ?_
              refine lv_icmp_gt (tgt := 91) hx hb dX2_isLike_64 (by decide) (fun c98 => absurd c98 (by decide)) (fun _ => ?_)
              refine lv_aload_n hx hb dX2_isLike_67 rfl (lv_at hl 1 rfl) ?_
              refine lv_iload_n hx hb dX2_isLike_68 rfl (lv_at hl 0 rfl) ?_
              refine g_cR C0 G (g_runV C0 G (rest := []) (c_X2_at2 hfl (A := A) (b := b2) (ex := (cm2 0)) (ov := (cm2 1)) (ie := (cm2 2)) (fi := (cm2 3)) (nu := 2) (q := q2) k11 k19 hAj hQ2.1 hQ2.2.1 hQ2.2.2.1 hQ2.2.2.2) k11 rfl hY_X2_at mm_X2_77 mi_X2_at ml_X2_at ⟨(Nat.le_of_ble_eq_true rfl), (Nat.le_of_ble_eq_true rfl)⟩ rfl hl.1 rfl (Nat.le_of_ble_eq_true rfl) dX2_isLike_69 ⟨(Nat.le_of_ble_eq_true rfl), (Nat.le_of_ble_eq_true rfl)⟩) (kx_no rfl) (fun a101 u100 H locs hp99 G => ?_)
              obtain ⟨zr, eu100⟩ := hp99
              replace zr := Eq.symm zr
              subst zr
              rw [eu100] at G
              refine lv_aload_n hx hb dX2_isLike_72 rfl (lv_at hl 2 rfl) ?_
              refine lv_iload_n hx hb dX2_isLike_73 rfl (lv_at hl 0 rfl) ?_
              refine g_cR C0 G (g_runV C0 G (rest := [.ref (A (b2 + 28))]) (c_X2_at2 hfl (A := A) (b := b) (ex := (cm 0)) (ov := (cm 1)) (ie := (cm 2)) (fi := (cm 3)) (nu := 2) (q := q) k12 k23 hAj hQ.1 hQ.2.1 hQ.2.2.1 hQ.2.2.2) k12 rfl hY_X2_at mm_X2_77 mi_X2_at ml_X2_at ⟨(Nat.le_of_ble_eq_true rfl), (Nat.le_of_ble_eq_true rfl)⟩ rfl hl.1 rfl (Nat.le_of_ble_eq_true rfl) dX2_isLike_74 ⟨(Nat.le_of_ble_eq_true rfl), (Nat.le_of_ble_eq_true rfl)⟩) (kx_no rfl) (fun a104 u103 H locs hp102 G => ?_)
              obtain ⟨zr, eu103⟩ := hp102
              replace zr := Eq.symm zr
              subst zr
              rw [eu103] at G
              have k105 : f (A (b2 + 28)) = some (.inr (2, [.ref (A (b2 + 29)), .ref (A (b2 + 31)), .ref (A (b2 + 33)), .ref (A (b2 + 35)), .ref (A (b2 + 37)), .ref (A (b2 + 39)), .int (cs2 2 6 8), .int (cs2 2 6 9), .int (cs2 2 6 10), .int (cs2 2 6 11), .int (cs2 2 6 12)])) := hM2 28 (by omega)
              have k106 : f (A (b2 + 29)) = some (.inr (8, [.int 8, .ref (A (b2 + 30)), .int 1])) := by have h9 : f (A (b2 + 29)) = some (.inr (8, [.int 8, .ref (A (b2 + 30)), .int (cs2 2 7 0)])) := hM2 29 (by omega); rw [(hL2 2 (by omega)).1] at h9; exact h9
              have k107 : f (A (b2 + 30)) = some (.inl (cy 0, 8, .inl (cs2 2 0))) := hM2 30 (by omega)
              have k108 : f (A (b2 + 31)) = some (.inr (8, [.int 6, .ref (A (b2 + 32)), .int 11])) := by have h9 : f (A (b2 + 31)) = some (.inr (8, [.int 6, .ref (A (b2 + 32)), .int (cs2 2 7 1)])) := hM2 31 (by omega); rw [(hL2 2 (by omega)).2.1] at h9; exact h9
              have k109 : f (A (b2 + 32)) = some (.inl (cy 0, 66, .inl (cs2 2 1))) := hM2 32 (by omega)
              have k110 : f (A (b2 + 33)) = some (.inr (8, [.int 7, .ref (A (b2 + 34)), .int 11])) := by have h9 : f (A (b2 + 33)) = some (.inr (8, [.int 7, .ref (A (b2 + 34)), .int (cs2 2 7 2)])) := hM2 33 (by omega); rw [(hL2 2 (by omega)).2.2.1] at h9; exact h9
              have k111 : f (A (b2 + 34)) = some (.inl (cy 0, 77, .inl (cs2 2 2))) := hM2 34 (by omega)
              have k112 : f (A (b2 + 35)) = some (.inr (8, [.int 8, .ref (A (b2 + 36)), .int (nI ((cs2 2 7 3).toNatClampNeg))])) := by have h9 : f (A (b2 + 35)) = some (.inr (8, [.int 8, .ref (A (b2 + 36)), .int (cs2 2 7 3)])) := hM2 35 (by omega); rw [(hL2 2 (by omega)).2.2.2.1.1] at h9; exact h9
              have k113 : f (A (b2 + 36)) = some (.inl (cy 0, 4104, .inl (cs2 2 3))) := hM2 36 (by omega)
              have k114 : f (A (b2 + 37)) = some (.inr (8, [.int 3, .ref (A (b2 + 38)), .int (nI ((cs2 2 7 4).toNatClampNeg))])) := by have h9 : f (A (b2 + 37)) = some (.inr (8, [.int 3, .ref (A (b2 + 38)), .int (cs2 2 7 4)])) := hM2 37 (by omega); rw [(hL2 2 (by omega)).2.2.2.2.1.1] at h9; exact h9
              have k115 : f (A (b2 + 38)) = some (.inl (cy 0, 33, .inl (cs2 2 4))) := hM2 38 (by omega)
              have k116 : f (A (b2 + 39)) = some (.inr (5, [.ref (A (b2 + 40)), .int (cs2 2 6 0), .int (cs2 2 6 1), .int (nI ((cs2 2 6 2).toNatClampNeg)), .int (cs2 2 6 3), .int (cs2 2 6 4), .int (cs2 2 6 5), .int (cs2 2 6 6), .int (cs2 2 6 7)])) := by have h9 : f (A (b2 + 39)) = some (.inr (5, [.ref (A (b2 + 40)), .int (cs2 2 6 0), .int (cs2 2 6 1), .int (cs2 2 6 2), .int (cs2 2 6 3), .int (cs2 2 6 4), .int (cs2 2 6 5), .int (cs2 2 6 6), .int (cs2 2 6 7)])) := hM2 39 (by omega); rw [(hL2 2 (by omega)).2.2.2.2.2.1] at h9; exact h9
              have k117 : f (A (b2 + 40)) = some (.inl (cy 0, 20, .inl (cs2 2 5))) := hM2 40 (by omega)
              have k118 : f (A (b + 28)) = some (.inr (2, [.ref (A (b + 29)), .ref (A (b + 31)), .ref (A (b + 33)), .ref (A (b + 35)), .ref (A (b + 37)), .ref (A (b + 39)), .int (cs 2 6 8), .int (cs 2 6 9), .int (cs 2 6 10), .int (cs 2 6 11), .int (cs 2 6 12)])) := hM 28 (by omega)
              have k119 : f (A (b + 29)) = some (.inr (8, [.int 8, .ref (A (b + 30)), .int 1])) := by have h9 : f (A (b + 29)) = some (.inr (8, [.int 8, .ref (A (b + 30)), .int (cs 2 7 0)])) := hM 29 (by omega); rw [(hL1 2 (by omega)).1] at h9; exact h9
              have k120 : f (A (b + 30)) = some (.inl (cy 0, 8, .inl (cs 2 0))) := hM 30 (by omega)
              have k121 : f (A (b + 31)) = some (.inr (8, [.int 6, .ref (A (b + 32)), .int 11])) := by have h9 : f (A (b + 31)) = some (.inr (8, [.int 6, .ref (A (b + 32)), .int (cs 2 7 1)])) := hM 31 (by omega); rw [(hL1 2 (by omega)).2.1] at h9; exact h9
              have k122 : f (A (b + 32)) = some (.inl (cy 0, 66, .inl (cs 2 1))) := hM 32 (by omega)
              have k123 : f (A (b + 33)) = some (.inr (8, [.int 7, .ref (A (b + 34)), .int 11])) := by have h9 : f (A (b + 33)) = some (.inr (8, [.int 7, .ref (A (b + 34)), .int (cs 2 7 2)])) := hM 33 (by omega); rw [(hL1 2 (by omega)).2.2.1] at h9; exact h9
              have k124 : f (A (b + 34)) = some (.inl (cy 0, 77, .inl (cs 2 2))) := hM 34 (by omega)
              have k125 : f (A (b + 35)) = some (.inr (8, [.int 8, .ref (A (b + 36)), .int (nI ((cs 2 7 3).toNatClampNeg))])) := by have h9 : f (A (b + 35)) = some (.inr (8, [.int 8, .ref (A (b + 36)), .int (cs 2 7 3)])) := hM 35 (by omega); rw [(hL1 2 (by omega)).2.2.2.1.1] at h9; exact h9
              have k126 : f (A (b + 36)) = some (.inl (cy 0, 4104, .inl (cs 2 3))) := hM 36 (by omega)
              have k127 : f (A (b + 37)) = some (.inr (8, [.int 3, .ref (A (b + 38)), .int (nI ((cs 2 7 4).toNatClampNeg))])) := by have h9 : f (A (b + 37)) = some (.inr (8, [.int 3, .ref (A (b + 38)), .int (cs 2 7 4)])) := hM 37 (by omega); rw [(hL1 2 (by omega)).2.2.2.2.1.1] at h9; exact h9
              have k128 : f (A (b + 38)) = some (.inl (cy 0, 33, .inl (cs 2 4))) := hM 38 (by omega)
              have k129 : f (A (b + 39)) = some (.inr (5, [.ref (A (b + 40)), .int (cs 2 6 0), .int (cs 2 6 1), .int (nI ((cs 2 6 2).toNatClampNeg)), .int (cs 2 6 3), .int (cs 2 6 4), .int (cs 2 6 5), .int (cs 2 6 6), .int (cs 2 6 7)])) := by have h9 : f (A (b + 39)) = some (.inr (5, [.ref (A (b + 40)), .int (cs 2 6 0), .int (cs 2 6 1), .int (cs 2 6 2), .int (cs 2 6 3), .int (cs 2 6 4), .int (cs 2 6 5), .int (cs 2 6 6), .int (cs 2 6 7)])) := hM 39 (by omega); rw [(hL1 2 (by omega)).2.2.2.2.2.1] at h9; exact h9
              have k130 : f (A (b + 40)) = some (.inl (cy 0, 20, .inl (cs 2 5))) := hM 40 (by omega)
              refine g_cI C0 G (g_runV C0 G (rest := []) (c_X0_isLike hfl (rp := ((cs2 2 7 3).toNatClampNeg)) (rf := ((cs2 2 7 4).toNatClampNeg)) (oc := ((cs2 2 6 2).toNatClampNeg)) (g0 := (cs2 2 0)) (g1 := (cs2 2 1)) (g2 := (cs2 2 2)) (g3 := (cs2 2 3)) (g4 := (cs2 2 4)) (go := (cs2 2 5)) (lm := (cs2 2 6 0)) (lf := (cs2 2 6 1)) (bw := (cs2 2 6 3)) (bb := (cs2 2 6 4)) (bl := (cs2 2 6 5)) (cd := (cs2 2 6 6)) (hbg := (cs2 2 6 7)) (rs := (cs2 2 6 8)) (sk := (cs2 2 6 9)) (ot := (cs2 2 6 10)) (ch := (cs2 2 6 11)) (nc := (cs2 2 6 12)) (rp_o := ((cs 2 7 3).toNatClampNeg)) (rf_o := ((cs 2 7 4).toNatClampNeg)) (oc_o := ((cs 2 6 2).toNatClampNeg)) (g0_o := (cs 2 0)) (g1_o := (cs 2 1)) (g2_o := (cs 2 2)) (g3_o := (cs 2 3)) (g4_o := (cs 2 4)) (go_o := (cs 2 5)) (lm_o := (cs 2 6 0)) (lf_o := (cs 2 6 1)) (bw_o := (cs 2 6 3)) (bb_o := (cs 2 6 4)) (bl_o := (cs 2 6 5)) (cd_o := (cs 2 6 6)) (hbg_o := (cs 2 6 7)) (rs_o := (cs 2 6 8)) (sk_o := (cs 2 6 9)) (ot_o := (cs 2 6 10)) (ch_o := (cs 2 6 11)) (nc_o := (cs 2 6 12)) k105 k106 k107 k108 k109 k110 k111 k112 k113 k114 k115 k116 k117 k118 k119 k120 k121 k122 k123 k124 k125 k126 k127 k128 k129 k130 (hL2 2 (by omega)).2.2.2.1.2 (hL2 2 (by omega)).2.2.2.2.1.2 (hL2 2 (by omega)).2.2.2.2.2.2 (hL1 2 (by omega)).2.2.2.1.2 (hL1 2 (by omega)).2.2.2.2.1.2 (hL1 2 (by omega)).2.2.2.2.2.2) k105 rfl hY_X0_isLike mm_X2_186 mi_X0_isLike ml_X0_isLike ⟨(Nat.le_of_ble_eq_true rfl), (Nat.le_of_ble_eq_true rfl)⟩ rfl hl.1 rfl (Nat.le_of_ble_eq_true rfl) dX2_isLike_77 ⟨(Nat.le_of_ble_eq_true rfl), (Nat.le_of_ble_eq_true rfl)⟩) (kx_no rfl) (fun r133 u132 H locs hp131 G => ?_)
              obtain ⟨hb134, eu132⟩ := hp131
              rw [eu132] at G
              refine lv_if_ne (tgt := 85) hx hb dX2_isLike_80 (by decide) (fun c135 => ?_) (fun c135 => ?_)
              · refine lv_iinc (v := 3) (lv' := [(2, .int 3), (0, .ref (A (b2 + 0))), (1, .ref (A (b + 0)))]) hx hb dX2_isLike_85 hl (k := 0) rfl (by exact (by decide)) (by decide) rfl (fun ls hl => ?_)
                refine lv_goto (tgt := 59) hx hb dX2_isLike_88 (by decide) ?_
                refine lv_iload_n hx hb dX2_isLike_59 rfl (lv_at hl 0 rfl) ?_
                refine lv_aload_n hx hb dX2_isLike_60 rfl (lv_at hl 1 rfl) ?_
                refine g_get C0 G k11 rfl hiX2 5 (by decide) mf_X2_31 rfl dX2_isLike_61 ?_
                refine lv_icmp_gt (tgt := 91) hx hb dX2_isLike_64 (by decide) (fun _ => ?_) (fun c137 => absurd (by decide) c137)
                refine lv_iconst (v := 1) hx hb dX2_isLike_91 (by decide) ?_
                exact g_zret C0 G hr dX2_isLike_92 rfl (Nat.le_of_ble_eq_true rfl) (Nat.le_of_ble_eq_true rfl) (by exact ⟨(Or.inr rfl), rfl⟩)
              · refine lv_iconst (v := 0) hx hb dX2_isLike_83 (by decide) ?_
                exact g_zret C0 G hr dX2_isLike_84 rfl (Nat.le_of_ble_eq_true rfl) (Nat.le_of_ble_eq_true rfl) (by exact ⟨(Or.inl rfl), rfl⟩)
            · refine lv_iconst (v := 0) hx hb dX2_isLike_83 (by decide) ?_
              exact g_zret C0 G hr dX2_isLike_84 rfl (Nat.le_of_ble_eq_true rfl) (Nat.le_of_ble_eq_true rfl) (by exact ⟨(Or.inl rfl), rfl⟩)
          · refine lv_iconst (v := 0) hx hb dX2_isLike_83 (by decide) ?_
            exact g_zret C0 G hr dX2_isLike_84 rfl (Nat.le_of_ble_eq_true rfl) (Nat.le_of_ble_eq_true rfl) (by exact ⟨(Or.inl rfl), rfl⟩)
set_option maxRecDepth 100000 in
theorem c_X2_isLike3 {l : Launch} (hfl : l.stackTraces = false) {D : va_G} {cy : Nat → ClassId} {f : Hf} {sz : Nat} {A : Nat → Nat} {b : Nat} {q : Nat → Option Nat} {cm : Nat → Int32} {cs : Nat → Nat → Nat → Int32} {b2 : Nat} {q2 : Nat → Option Nat} {cm2 : Nat → Int32} {cs2 : Nat → Nat → Nat → Int32}  (hAj : ∀ i j : Nat, i ≠ j → A i ≠ A j) (hM : MW A b cy q cm cs f) (hQ : HQ A b q) (hM2 : MW A b2 cy q2 cm2 cs2 f) (hQ2 : HQ A b2 q2) (h4 : cm 4 = 3) (h42 : cm2 4 = 3) (hL1 : ∀ j : Nat, j ≤ 3 → LK cs j) (hL2 : ∀ j : Nat, j ≤ 3 → LK cs2 j) : hMet l yX2_isLike cX2_isLike 3 (some .boolean) { frames := 3, cells := 0, slots := 0, locals := 68 } D (hTy cy) f sz [.ref (A (b2 + 0)), .ref (A (b + 0))] (hQi (fun r u => (r = 0 ∨ r = 1) ∧ u = f) D f sz) hNo := by
  refine h_enter (by decide) hfl (Nat.le_of_ble_eq_true rfl) ?_
  intro p9 e9 s9 m9 b9 t9 c9 hsz C0 hr hnm G ls hl
  have hx := C0.1.1
  have hb := C0.1.2.1
  have hl : lv_has ls 3 [(0, .ref (A (b2 + 0))), (1, .ref (A (b + 0)))] := hl
  refine lv_aload_n hx hb dX2_isLike_0 rfl (lv_at hl 0 rfl) ?_
  have k11 : f (A (b2 + 0)) = some (.inr (4, [.ref (A (b2 + 1)), .int (cm2 0), .int (cm2 1), .int (cm2 2), .int (cm2 3), .int 3])) := by have h9 : f (A (b2 + 0)) = some (.inr (4, [.ref (A (b2 + 1)), .int (cm2 0), .int (cm2 1), .int (cm2 2), .int (cm2 3), .int (cm2 4)])) := hM2 0 (by omega); rw [h42] at h9; exact h9
  refine g_get C0 G k11 rfl hiX2 1 (by decide) mf_X2_17 rfl dX2_isLike_1 ?_
  refine lv_aload_n hx hb dX2_isLike_4 rfl (lv_at hl 1 rfl) ?_
  have k12 : f (A (b + 0)) = some (.inr (4, [.ref (A (b + 1)), .int (cm 0), .int (cm 1), .int (cm 2), .int (cm 3), .int 3])) := by have h9 : f (A (b + 0)) = some (.inr (4, [.ref (A (b + 1)), .int (cm 0), .int (cm 1), .int (cm 2), .int (cm 3), .int (cm 4)])) := hM 0 (by omega); rw [h4] at h9; exact h9
  refine g_get C0 G k12 rfl hiX2 1 (by decide) mf_X2_17 rfl dX2_isLike_5 ?_
  refine lv_icmp_ne (tgt := 55) hx hb dX2_isLike_8 (by decide) (fun c13 => ?_) (fun c13 => ?_)
  · refine lv_iconst (v := 0) hx hb dX2_isLike_55 (by decide) ?_
    exact g_zret C0 G hr dX2_isLike_56 rfl (Nat.le_of_ble_eq_true rfl) (Nat.le_of_ble_eq_true rfl) (by exact ⟨(Or.inl rfl), rfl⟩)
  · refine lv_aload_n hx hb dX2_isLike_11 rfl (lv_at hl 0 rfl) ?_
    refine g_get C0 G k11 rfl hiX2 2 (by decide) mf_X2_21 rfl dX2_isLike_12 ?_
    refine lv_aload_n hx hb dX2_isLike_15 rfl (lv_at hl 1 rfl) ?_
    refine g_get C0 G k12 rfl hiX2 2 (by decide) mf_X2_21 rfl dX2_isLike_16 ?_
    refine lv_icmp_ne (tgt := 55) hx hb dX2_isLike_19 (by decide) (fun c14 => ?_) (fun c14 => ?_)
    · refine lv_iconst (v := 0) hx hb dX2_isLike_55 (by decide) ?_
      exact g_zret C0 G hr dX2_isLike_56 rfl (Nat.le_of_ble_eq_true rfl) (Nat.le_of_ble_eq_true rfl) (by exact ⟨(Or.inl rfl), rfl⟩)
    · refine lv_aload_n hx hb dX2_isLike_22 rfl (lv_at hl 0 rfl) ?_
      refine g_get C0 G k11 rfl hiX2 3 (by decide) mf_X2_24 rfl dX2_isLike_23 ?_
      refine lv_aload_n hx hb dX2_isLike_26 rfl (lv_at hl 1 rfl) ?_
      refine g_get C0 G k12 rfl hiX2 3 (by decide) mf_X2_24 rfl dX2_isLike_27 ?_
      refine lv_icmp_ne (tgt := 55) hx hb dX2_isLike_30 (by decide) (fun c15 => ?_) (fun c15 => ?_)
      · refine lv_iconst (v := 0) hx hb dX2_isLike_55 (by decide) ?_
        exact g_zret C0 G hr dX2_isLike_56 rfl (Nat.le_of_ble_eq_true rfl) (Nat.le_of_ble_eq_true rfl) (by exact ⟨(Or.inl rfl), rfl⟩)
      · refine lv_aload_n hx hb dX2_isLike_33 rfl (lv_at hl 0 rfl) ?_
        refine g_get C0 G k11 rfl hiX2 4 (by decide) mf_X2_28 rfl dX2_isLike_34 ?_
        refine lv_aload_n hx hb dX2_isLike_37 rfl (lv_at hl 1 rfl) ?_
        refine g_get C0 G k12 rfl hiX2 4 (by decide) mf_X2_28 rfl dX2_isLike_38 ?_
        refine lv_icmp_ne (tgt := 55) hx hb dX2_isLike_41 (by decide) (fun c16 => ?_) (fun c16 => ?_)
        · refine lv_iconst (v := 0) hx hb dX2_isLike_55 (by decide) ?_
          exact g_zret C0 G hr dX2_isLike_56 rfl (Nat.le_of_ble_eq_true rfl) (Nat.le_of_ble_eq_true rfl) (by exact ⟨(Or.inl rfl), rfl⟩)
        · refine lv_aload_n hx hb dX2_isLike_44 rfl (lv_at hl 0 rfl) ?_
          refine g_get C0 G k11 rfl hiX2 5 (by decide) mf_X2_31 rfl dX2_isLike_45 ?_
          refine lv_aload_n hx hb dX2_isLike_48 rfl (lv_at hl 1 rfl) ?_
          refine g_get C0 G k12 rfl hiX2 5 (by decide) mf_X2_31 rfl dX2_isLike_49 ?_
          refine lv_icmp_eq (tgt := 57) hx hb dX2_isLike_52 (by decide) (fun _ => ?_) (fun c17 => absurd (by decide) c17)
          refine lv_iconst (v := 0) hx hb dX2_isLike_57 (by decide) ?_
          refine lv_istore_n (lv' := [(2, .int 0), (0, .ref (A (b2 + 0))), (1, .ref (A (b + 0)))]) hx hb dX2_isLike_58 rfl hl (by decide) rfl (fun ls hl => ?_)
          refine lv_iload_n hx hb dX2_isLike_59 rfl (lv_at hl 0 rfl) ?_
          refine lv_aload_n hx hb dX2_isLike_60 rfl (lv_at hl 1 rfl) ?_
          refine g_get C0 G k11 rfl hiX2 5 (by decide) mf_X2_31 rfl dX2_isLike_61 ?_
          refine lv_icmp_gt (tgt := 91) hx hb dX2_isLike_64 (by decide) (fun c18 => absurd c18 (by decide)) (fun _ => ?_)
          refine lv_aload_n hx hb dX2_isLike_67 rfl (lv_at hl 1 rfl) ?_
          refine lv_iload_n hx hb dX2_isLike_68 rfl (lv_at hl 0 rfl) ?_
          have k19 : f (A (b2 + 1)) = some (.inl (cy 3, 4, .inr (.inr (.inr (.inr q2))))) := hM2 1 (by omega)
          refine g_cR C0 G (g_runV C0 G (rest := []) (c_X2_at0 hfl (A := A) (b := b2) (ex := (cm2 0)) (ov := (cm2 1)) (ie := (cm2 2)) (fi := (cm2 3)) (nu := 3) (q := q2) k11 k19 hAj hQ2.1 hQ2.2.1 hQ2.2.2.1 hQ2.2.2.2) k11 rfl hY_X2_at mm_X2_77 mi_X2_at ml_X2_at ⟨(Nat.le_of_ble_eq_true rfl), (Nat.le_of_ble_eq_true rfl)⟩ rfl hl.1 rfl (Nat.le_of_ble_eq_true rfl) dX2_isLike_69 ⟨(Nat.le_of_ble_eq_true rfl), (Nat.le_of_ble_eq_true rfl)⟩) (kx_no rfl) (fun a22 u21 H locs hp20 G => ?_)
          obtain ⟨zr, eu21⟩ := hp20
          replace zr := Eq.symm zr
          subst zr
          rw [eu21] at G
          refine lv_aload_n hx hb dX2_isLike_72 rfl (lv_at hl 2 rfl) ?_
          refine lv_iload_n hx hb dX2_isLike_73 rfl (lv_at hl 0 rfl) ?_
          have k23 : f (A (b + 1)) = some (.inl (cy 3, 4, .inr (.inr (.inr (.inr q))))) := hM 1 (by omega)
          refine g_cR C0 G (g_runV C0 G (rest := [.ref (A (b2 + 2))]) (c_X2_at0 hfl (A := A) (b := b) (ex := (cm 0)) (ov := (cm 1)) (ie := (cm 2)) (fi := (cm 3)) (nu := 3) (q := q) k12 k23 hAj hQ.1 hQ.2.1 hQ.2.2.1 hQ.2.2.2) k12 rfl hY_X2_at mm_X2_77 mi_X2_at ml_X2_at ⟨(Nat.le_of_ble_eq_true rfl), (Nat.le_of_ble_eq_true rfl)⟩ rfl hl.1 rfl (Nat.le_of_ble_eq_true rfl) dX2_isLike_74 ⟨(Nat.le_of_ble_eq_true rfl), (Nat.le_of_ble_eq_true rfl)⟩) (kx_no rfl) (fun a26 u25 H locs hp24 G => ?_)
          obtain ⟨zr, eu25⟩ := hp24
          replace zr := Eq.symm zr
          subst zr
          rw [eu25] at G
          have k27 : f (A (b2 + 2)) = some (.inr (2, [.ref (A (b2 + 3)), .ref (A (b2 + 5)), .ref (A (b2 + 7)), .ref (A (b2 + 9)), .ref (A (b2 + 11)), .ref (A (b2 + 13)), .int (cs2 0 6 8), .int (cs2 0 6 9), .int (cs2 0 6 10), .int (cs2 0 6 11), .int (cs2 0 6 12)])) := hM2 2 (by omega)
          have k28 : f (A (b2 + 3)) = some (.inr (8, [.int 8, .ref (A (b2 + 4)), .int 1])) := by have h9 : f (A (b2 + 3)) = some (.inr (8, [.int 8, .ref (A (b2 + 4)), .int (cs2 0 7 0)])) := hM2 3 (by omega); rw [(hL2 0 (by omega)).1] at h9; exact h9
          have k29 : f (A (b2 + 4)) = some (.inl (cy 0, 8, .inl (cs2 0 0))) := hM2 4 (by omega)
          have k30 : f (A (b2 + 5)) = some (.inr (8, [.int 6, .ref (A (b2 + 6)), .int 11])) := by have h9 : f (A (b2 + 5)) = some (.inr (8, [.int 6, .ref (A (b2 + 6)), .int (cs2 0 7 1)])) := hM2 5 (by omega); rw [(hL2 0 (by omega)).2.1] at h9; exact h9
          have k31 : f (A (b2 + 6)) = some (.inl (cy 0, 66, .inl (cs2 0 1))) := hM2 6 (by omega)
          have k32 : f (A (b2 + 7)) = some (.inr (8, [.int 7, .ref (A (b2 + 8)), .int 11])) := by have h9 : f (A (b2 + 7)) = some (.inr (8, [.int 7, .ref (A (b2 + 8)), .int (cs2 0 7 2)])) := hM2 7 (by omega); rw [(hL2 0 (by omega)).2.2.1] at h9; exact h9
          have k33 : f (A (b2 + 8)) = some (.inl (cy 0, 77, .inl (cs2 0 2))) := hM2 8 (by omega)
          have k34 : f (A (b2 + 9)) = some (.inr (8, [.int 8, .ref (A (b2 + 10)), .int (nI ((cs2 0 7 3).toNatClampNeg))])) := by have h9 : f (A (b2 + 9)) = some (.inr (8, [.int 8, .ref (A (b2 + 10)), .int (cs2 0 7 3)])) := hM2 9 (by omega); rw [(hL2 0 (by omega)).2.2.2.1.1] at h9; exact h9
          have k35 : f (A (b2 + 10)) = some (.inl (cy 0, 4104, .inl (cs2 0 3))) := hM2 10 (by omega)
          have k36 : f (A (b2 + 11)) = some (.inr (8, [.int 3, .ref (A (b2 + 12)), .int (nI ((cs2 0 7 4).toNatClampNeg))])) := by have h9 : f (A (b2 + 11)) = some (.inr (8, [.int 3, .ref (A (b2 + 12)), .int (cs2 0 7 4)])) := hM2 11 (by omega); rw [(hL2 0 (by omega)).2.2.2.2.1.1] at h9; exact h9
          have k37 : f (A (b2 + 12)) = some (.inl (cy 0, 33, .inl (cs2 0 4))) := hM2 12 (by omega)
          have k38 : f (A (b2 + 13)) = some (.inr (5, [.ref (A (b2 + 14)), .int (cs2 0 6 0), .int (cs2 0 6 1), .int (nI ((cs2 0 6 2).toNatClampNeg)), .int (cs2 0 6 3), .int (cs2 0 6 4), .int (cs2 0 6 5), .int (cs2 0 6 6), .int (cs2 0 6 7)])) := by have h9 : f (A (b2 + 13)) = some (.inr (5, [.ref (A (b2 + 14)), .int (cs2 0 6 0), .int (cs2 0 6 1), .int (cs2 0 6 2), .int (cs2 0 6 3), .int (cs2 0 6 4), .int (cs2 0 6 5), .int (cs2 0 6 6), .int (cs2 0 6 7)])) := hM2 13 (by omega); rw [(hL2 0 (by omega)).2.2.2.2.2.1] at h9; exact h9
          have k39 : f (A (b2 + 14)) = some (.inl (cy 0, 20, .inl (cs2 0 5))) := hM2 14 (by omega)
          have k40 : f (A (b + 2)) = some (.inr (2, [.ref (A (b + 3)), .ref (A (b + 5)), .ref (A (b + 7)), .ref (A (b + 9)), .ref (A (b + 11)), .ref (A (b + 13)), .int (cs 0 6 8), .int (cs 0 6 9), .int (cs 0 6 10), .int (cs 0 6 11), .int (cs 0 6 12)])) := hM 2 (by omega)
          have k41 : f (A (b + 3)) = some (.inr (8, [.int 8, .ref (A (b + 4)), .int 1])) := by have h9 : f (A (b + 3)) = some (.inr (8, [.int 8, .ref (A (b + 4)), .int (cs 0 7 0)])) := hM 3 (by omega); rw [(hL1 0 (by omega)).1] at h9; exact h9
          have k42 : f (A (b + 4)) = some (.inl (cy 0, 8, .inl (cs 0 0))) := hM 4 (by omega)
          have k43 : f (A (b + 5)) = some (.inr (8, [.int 6, .ref (A (b + 6)), .int 11])) := by have h9 : f (A (b + 5)) = some (.inr (8, [.int 6, .ref (A (b + 6)), .int (cs 0 7 1)])) := hM 5 (by omega); rw [(hL1 0 (by omega)).2.1] at h9; exact h9
          have k44 : f (A (b + 6)) = some (.inl (cy 0, 66, .inl (cs 0 1))) := hM 6 (by omega)
          have k45 : f (A (b + 7)) = some (.inr (8, [.int 7, .ref (A (b + 8)), .int 11])) := by have h9 : f (A (b + 7)) = some (.inr (8, [.int 7, .ref (A (b + 8)), .int (cs 0 7 2)])) := hM 7 (by omega); rw [(hL1 0 (by omega)).2.2.1] at h9; exact h9
          have k46 : f (A (b + 8)) = some (.inl (cy 0, 77, .inl (cs 0 2))) := hM 8 (by omega)
          have k47 : f (A (b + 9)) = some (.inr (8, [.int 8, .ref (A (b + 10)), .int (nI ((cs 0 7 3).toNatClampNeg))])) := by have h9 : f (A (b + 9)) = some (.inr (8, [.int 8, .ref (A (b + 10)), .int (cs 0 7 3)])) := hM 9 (by omega); rw [(hL1 0 (by omega)).2.2.2.1.1] at h9; exact h9
          have k48 : f (A (b + 10)) = some (.inl (cy 0, 4104, .inl (cs 0 3))) := hM 10 (by omega)
          have k49 : f (A (b + 11)) = some (.inr (8, [.int 3, .ref (A (b + 12)), .int (nI ((cs 0 7 4).toNatClampNeg))])) := by have h9 : f (A (b + 11)) = some (.inr (8, [.int 3, .ref (A (b + 12)), .int (cs 0 7 4)])) := hM 11 (by omega); rw [(hL1 0 (by omega)).2.2.2.2.1.1] at h9; exact h9
          have k50 : f (A (b + 12)) = some (.inl (cy 0, 33, .inl (cs 0 4))) := hM 12 (by omega)
          have k51 : f (A (b + 13)) = some (.inr (5, [.ref (A (b + 14)), .int (cs 0 6 0), .int (cs 0 6 1), .int (nI ((cs 0 6 2).toNatClampNeg)), .int (cs 0 6 3), .int (cs 0 6 4), .int (cs 0 6 5), .int (cs 0 6 6), .int (cs 0 6 7)])) := by have h9 : f (A (b + 13)) = some (.inr (5, [.ref (A (b + 14)), .int (cs 0 6 0), .int (cs 0 6 1), .int (cs 0 6 2), .int (cs 0 6 3), .int (cs 0 6 4), .int (cs 0 6 5), .int (cs 0 6 6), .int (cs 0 6 7)])) := hM 13 (by omega); rw [(hL1 0 (by omega)).2.2.2.2.2.1] at h9; exact h9
          have k52 : f (A (b + 14)) = some (.inl (cy 0, 20, .inl (cs 0 5))) := hM 14 (by omega)
          refine g_cI C0 G (g_runV C0 G (rest := []) (c_X0_isLike hfl (rp := ((cs2 0 7 3).toNatClampNeg)) (rf := ((cs2 0 7 4).toNatClampNeg)) (oc := ((cs2 0 6 2).toNatClampNeg)) (g0 := (cs2 0 0)) (g1 := (cs2 0 1)) (g2 := (cs2 0 2)) (g3 := (cs2 0 3)) (g4 := (cs2 0 4)) (go := (cs2 0 5)) (lm := (cs2 0 6 0)) (lf := (cs2 0 6 1)) (bw := (cs2 0 6 3)) (bb := (cs2 0 6 4)) (bl := (cs2 0 6 5)) (cd := (cs2 0 6 6)) (hbg := (cs2 0 6 7)) (rs := (cs2 0 6 8)) (sk := (cs2 0 6 9)) (ot := (cs2 0 6 10)) (ch := (cs2 0 6 11)) (nc := (cs2 0 6 12)) (rp_o := ((cs 0 7 3).toNatClampNeg)) (rf_o := ((cs 0 7 4).toNatClampNeg)) (oc_o := ((cs 0 6 2).toNatClampNeg)) (g0_o := (cs 0 0)) (g1_o := (cs 0 1)) (g2_o := (cs 0 2)) (g3_o := (cs 0 3)) (g4_o := (cs 0 4)) (go_o := (cs 0 5)) (lm_o := (cs 0 6 0)) (lf_o := (cs 0 6 1)) (bw_o := (cs 0 6 3)) (bb_o := (cs 0 6 4)) (bl_o := (cs 0 6 5)) (cd_o := (cs 0 6 6)) (hbg_o := (cs 0 6 7)) (rs_o := (cs 0 6 8)) (sk_o := (cs 0 6 9)) (ot_o := (cs 0 6 10)) (ch_o := (cs 0 6 11)) (nc_o := (cs 0 6 12)) k27 k28 k29 k30 k31 k32 k33 k34 k35 k36 k37 k38 k39 k40 k41 k42 k43 k44 k45 k46 k47 k48 k49 k50 k51 k52 (hL2 0 (by omega)).2.2.2.1.2 (hL2 0 (by omega)).2.2.2.2.1.2 (hL2 0 (by omega)).2.2.2.2.2.2 (hL1 0 (by omega)).2.2.2.1.2 (hL1 0 (by omega)).2.2.2.2.1.2 (hL1 0 (by omega)).2.2.2.2.2.2) k27 rfl hY_X0_isLike mm_X2_186 mi_X0_isLike ml_X0_isLike ⟨(Nat.le_of_ble_eq_true rfl), (Nat.le_of_ble_eq_true rfl)⟩ rfl hl.1 rfl (Nat.le_of_ble_eq_true rfl) dX2_isLike_77 ⟨(Nat.le_of_ble_eq_true rfl), (Nat.le_of_ble_eq_true rfl)⟩) (kx_no rfl) (fun r55 u54 H locs hp53 G => ?_)
          obtain ⟨hb56, eu54⟩ := hp53
          rw [eu54] at G
          refine lv_if_ne (tgt := 85) hx hb dX2_isLike_80 (by decide) (fun c57 => ?_) (fun c57 => ?_)
          · refine lv_iinc (v := 1) (lv' := [(2, .int 1), (0, .ref (A (b2 + 0))), (1, .ref (A (b + 0)))]) hx hb dX2_isLike_85 hl (k := 0) rfl (by exact (by decide)) (by decide) rfl (fun ls hl => ?_)
            refine lv_goto (tgt := 59) hx hb dX2_isLike_88 (by decide) ?_
            refine lv_iload_n hx hb dX2_isLike_59 rfl (lv_at hl 0 rfl) ?_
            refine lv_aload_n hx hb dX2_isLike_60 rfl (lv_at hl 1 rfl) ?_
            refine g_get C0 G k11 rfl hiX2 5 (by decide) mf_X2_31 rfl dX2_isLike_61 ?_
            refine lv_icmp_gt (tgt := 91) hx hb dX2_isLike_64 (by decide) (fun c59 => absurd c59 (by decide)) (fun _ => ?_)
            refine lv_aload_n hx hb dX2_isLike_67 rfl (lv_at hl 1 rfl) ?_
            refine lv_iload_n hx hb dX2_isLike_68 rfl (lv_at hl 0 rfl) ?_
            refine g_cR C0 G (g_runV C0 G (rest := []) (c_X2_at1 hfl (A := A) (b := b2) (ex := (cm2 0)) (ov := (cm2 1)) (ie := (cm2 2)) (fi := (cm2 3)) (nu := 3) (q := q2) k11 k19 hAj hQ2.1 hQ2.2.1 hQ2.2.2.1 hQ2.2.2.2) k11 rfl hY_X2_at mm_X2_77 mi_X2_at ml_X2_at ⟨(Nat.le_of_ble_eq_true rfl), (Nat.le_of_ble_eq_true rfl)⟩ rfl hl.1 rfl (Nat.le_of_ble_eq_true rfl) dX2_isLike_69 ⟨(Nat.le_of_ble_eq_true rfl), (Nat.le_of_ble_eq_true rfl)⟩) (kx_no rfl) (fun a62 u61 H locs hp60 G => ?_)
            obtain ⟨zr, eu61⟩ := hp60
            replace zr := Eq.symm zr
            subst zr
            rw [eu61] at G
            refine lv_aload_n hx hb dX2_isLike_72 rfl (lv_at hl 2 rfl) ?_
            refine lv_iload_n hx hb dX2_isLike_73 rfl (lv_at hl 0 rfl) ?_
            refine g_cR C0 G (g_runV C0 G (rest := [.ref (A (b2 + 15))]) (c_X2_at1 hfl (A := A) (b := b) (ex := (cm 0)) (ov := (cm 1)) (ie := (cm 2)) (fi := (cm 3)) (nu := 3) (q := q) k12 k23 hAj hQ.1 hQ.2.1 hQ.2.2.1 hQ.2.2.2) k12 rfl hY_X2_at mm_X2_77 mi_X2_at ml_X2_at ⟨(Nat.le_of_ble_eq_true rfl), (Nat.le_of_ble_eq_true rfl)⟩ rfl hl.1 rfl (Nat.le_of_ble_eq_true rfl) dX2_isLike_74 ⟨(Nat.le_of_ble_eq_true rfl), (Nat.le_of_ble_eq_true rfl)⟩) (kx_no rfl) (fun a65 u64 H locs hp63 G => ?_)
            obtain ⟨zr, eu64⟩ := hp63
            replace zr := Eq.symm zr
            subst zr
            rw [eu64] at G
            have k66 : f (A (b2 + 15)) = some (.inr (2, [.ref (A (b2 + 16)), .ref (A (b2 + 18)), .ref (A (b2 + 20)), .ref (A (b2 + 22)), .ref (A (b2 + 24)), .ref (A (b2 + 26)), .int (cs2 1 6 8), .int (cs2 1 6 9), .int (cs2 1 6 10), .int (cs2 1 6 11), .int (cs2 1 6 12)])) := hM2 15 (by omega)
            have k67 : f (A (b2 + 16)) = some (.inr (8, [.int 8, .ref (A (b2 + 17)), .int 1])) := by have h9 : f (A (b2 + 16)) = some (.inr (8, [.int 8, .ref (A (b2 + 17)), .int (cs2 1 7 0)])) := hM2 16 (by omega); rw [(hL2 1 (by omega)).1] at h9; exact h9
            have k68 : f (A (b2 + 17)) = some (.inl (cy 0, 8, .inl (cs2 1 0))) := hM2 17 (by omega)
            have k69 : f (A (b2 + 18)) = some (.inr (8, [.int 6, .ref (A (b2 + 19)), .int 11])) := by have h9 : f (A (b2 + 18)) = some (.inr (8, [.int 6, .ref (A (b2 + 19)), .int (cs2 1 7 1)])) := hM2 18 (by omega); rw [(hL2 1 (by omega)).2.1] at h9; exact h9
            have k70 : f (A (b2 + 19)) = some (.inl (cy 0, 66, .inl (cs2 1 1))) := hM2 19 (by omega)
            have k71 : f (A (b2 + 20)) = some (.inr (8, [.int 7, .ref (A (b2 + 21)), .int 11])) := by have h9 : f (A (b2 + 20)) = some (.inr (8, [.int 7, .ref (A (b2 + 21)), .int (cs2 1 7 2)])) := hM2 20 (by omega); rw [(hL2 1 (by omega)).2.2.1] at h9; exact h9
            have k72 : f (A (b2 + 21)) = some (.inl (cy 0, 77, .inl (cs2 1 2))) := hM2 21 (by omega)
            have k73 : f (A (b2 + 22)) = some (.inr (8, [.int 8, .ref (A (b2 + 23)), .int (nI ((cs2 1 7 3).toNatClampNeg))])) := by have h9 : f (A (b2 + 22)) = some (.inr (8, [.int 8, .ref (A (b2 + 23)), .int (cs2 1 7 3)])) := hM2 22 (by omega); rw [(hL2 1 (by omega)).2.2.2.1.1] at h9; exact h9
            have k74 : f (A (b2 + 23)) = some (.inl (cy 0, 4104, .inl (cs2 1 3))) := hM2 23 (by omega)
            have k75 : f (A (b2 + 24)) = some (.inr (8, [.int 3, .ref (A (b2 + 25)), .int (nI ((cs2 1 7 4).toNatClampNeg))])) := by have h9 : f (A (b2 + 24)) = some (.inr (8, [.int 3, .ref (A (b2 + 25)), .int (cs2 1 7 4)])) := hM2 24 (by omega); rw [(hL2 1 (by omega)).2.2.2.2.1.1] at h9; exact h9
            have k76 : f (A (b2 + 25)) = some (.inl (cy 0, 33, .inl (cs2 1 4))) := hM2 25 (by omega)
            have k77 : f (A (b2 + 26)) = some (.inr (5, [.ref (A (b2 + 27)), .int (cs2 1 6 0), .int (cs2 1 6 1), .int (nI ((cs2 1 6 2).toNatClampNeg)), .int (cs2 1 6 3), .int (cs2 1 6 4), .int (cs2 1 6 5), .int (cs2 1 6 6), .int (cs2 1 6 7)])) := by have h9 : f (A (b2 + 26)) = some (.inr (5, [.ref (A (b2 + 27)), .int (cs2 1 6 0), .int (cs2 1 6 1), .int (cs2 1 6 2), .int (cs2 1 6 3), .int (cs2 1 6 4), .int (cs2 1 6 5), .int (cs2 1 6 6), .int (cs2 1 6 7)])) := hM2 26 (by omega); rw [(hL2 1 (by omega)).2.2.2.2.2.1] at h9; exact h9
            have k78 : f (A (b2 + 27)) = some (.inl (cy 0, 20, .inl (cs2 1 5))) := hM2 27 (by omega)
            have k79 : f (A (b + 15)) = some (.inr (2, [.ref (A (b + 16)), .ref (A (b + 18)), .ref (A (b + 20)), .ref (A (b + 22)), .ref (A (b + 24)), .ref (A (b + 26)), .int (cs 1 6 8), .int (cs 1 6 9), .int (cs 1 6 10), .int (cs 1 6 11), .int (cs 1 6 12)])) := hM 15 (by omega)
            have k80 : f (A (b + 16)) = some (.inr (8, [.int 8, .ref (A (b + 17)), .int 1])) := by have h9 : f (A (b + 16)) = some (.inr (8, [.int 8, .ref (A (b + 17)), .int (cs 1 7 0)])) := hM 16 (by omega); rw [(hL1 1 (by omega)).1] at h9; exact h9
            have k81 : f (A (b + 17)) = some (.inl (cy 0, 8, .inl (cs 1 0))) := hM 17 (by omega)
            have k82 : f (A (b + 18)) = some (.inr (8, [.int 6, .ref (A (b + 19)), .int 11])) := by have h9 : f (A (b + 18)) = some (.inr (8, [.int 6, .ref (A (b + 19)), .int (cs 1 7 1)])) := hM 18 (by omega); rw [(hL1 1 (by omega)).2.1] at h9; exact h9
            have k83 : f (A (b + 19)) = some (.inl (cy 0, 66, .inl (cs 1 1))) := hM 19 (by omega)
            have k84 : f (A (b + 20)) = some (.inr (8, [.int 7, .ref (A (b + 21)), .int 11])) := by have h9 : f (A (b + 20)) = some (.inr (8, [.int 7, .ref (A (b + 21)), .int (cs 1 7 2)])) := hM 20 (by omega); rw [(hL1 1 (by omega)).2.2.1] at h9; exact h9
            have k85 : f (A (b + 21)) = some (.inl (cy 0, 77, .inl (cs 1 2))) := hM 21 (by omega)
            have k86 : f (A (b + 22)) = some (.inr (8, [.int 8, .ref (A (b + 23)), .int (nI ((cs 1 7 3).toNatClampNeg))])) := by have h9 : f (A (b + 22)) = some (.inr (8, [.int 8, .ref (A (b + 23)), .int (cs 1 7 3)])) := hM 22 (by omega); rw [(hL1 1 (by omega)).2.2.2.1.1] at h9; exact h9
            have k87 : f (A (b + 23)) = some (.inl (cy 0, 4104, .inl (cs 1 3))) := hM 23 (by omega)
            have k88 : f (A (b + 24)) = some (.inr (8, [.int 3, .ref (A (b + 25)), .int (nI ((cs 1 7 4).toNatClampNeg))])) := by have h9 : f (A (b + 24)) = some (.inr (8, [.int 3, .ref (A (b + 25)), .int (cs 1 7 4)])) := hM 24 (by omega); rw [(hL1 1 (by omega)).2.2.2.2.1.1] at h9; exact h9
            have k89 : f (A (b + 25)) = some (.inl (cy 0, 33, .inl (cs 1 4))) := hM 25 (by omega)
            have k90 : f (A (b + 26)) = some (.inr (5, [.ref (A (b + 27)), .int (cs 1 6 0), .int (cs 1 6 1), .int (nI ((cs 1 6 2).toNatClampNeg)), .int (cs 1 6 3), .int (cs 1 6 4), .int (cs 1 6 5), .int (cs 1 6 6), .int (cs 1 6 7)])) := by have h9 : f (A (b + 26)) = some (.inr (5, [.ref (A (b + 27)), .int (cs 1 6 0), .int (cs 1 6 1), .int (cs 1 6 2), .int (cs 1 6 3), .int (cs 1 6 4), .int (cs 1 6 5), .int (cs 1 6 6), .int (cs 1 6 7)])) := hM 26 (by omega); rw [(hL1 1 (by omega)).2.2.2.2.2.1] at h9; exact h9
            have k91 : f (A (b + 27)) = some (.inl (cy 0, 20, .inl (cs 1 5))) := hM 27 (by omega)
            refine g_cI C0 G (g_runV C0 G (rest := []) (c_X0_isLike hfl (rp := ((cs2 1 7 3).toNatClampNeg)) (rf := ((cs2 1 7 4).toNatClampNeg)) (oc := ((cs2 1 6 2).toNatClampNeg)) (g0 := (cs2 1 0)) (g1 := (cs2 1 1)) (g2 := (cs2 1 2)) (g3 := (cs2 1 3)) (g4 := (cs2 1 4)) (go := (cs2 1 5)) (lm := (cs2 1 6 0)) (lf := (cs2 1 6 1)) (bw := (cs2 1 6 3)) (bb := (cs2 1 6 4)) (bl := (cs2 1 6 5)) (cd := (cs2 1 6 6)) (hbg := (cs2 1 6 7)) (rs := (cs2 1 6 8)) (sk := (cs2 1 6 9)) (ot := (cs2 1 6 10)) (ch := (cs2 1 6 11)) (nc := (cs2 1 6 12)) (rp_o := ((cs 1 7 3).toNatClampNeg)) (rf_o := ((cs 1 7 4).toNatClampNeg)) (oc_o := ((cs 1 6 2).toNatClampNeg)) (g0_o := (cs 1 0)) (g1_o := (cs 1 1)) (g2_o := (cs 1 2)) (g3_o := (cs 1 3)) (g4_o := (cs 1 4)) (go_o := (cs 1 5)) (lm_o := (cs 1 6 0)) (lf_o := (cs 1 6 1)) (bw_o := (cs 1 6 3)) (bb_o := (cs 1 6 4)) (bl_o := (cs 1 6 5)) (cd_o := (cs 1 6 6)) (hbg_o := (cs 1 6 7)) (rs_o := (cs 1 6 8)) (sk_o := (cs 1 6 9)) (ot_o := (cs 1 6 10)) (ch_o := (cs 1 6 11)) (nc_o := (cs 1 6 12)) k66 k67 k68 k69 k70 k71 k72 k73 k74 k75 k76 k77 k78 k79 k80 k81 k82 k83 k84 k85 k86 k87 k88 k89 k90 k91 (hL2 1 (by omega)).2.2.2.1.2 (hL2 1 (by omega)).2.2.2.2.1.2 (hL2 1 (by omega)).2.2.2.2.2.2 (hL1 1 (by omega)).2.2.2.1.2 (hL1 1 (by omega)).2.2.2.2.1.2 (hL1 1 (by omega)).2.2.2.2.2.2) k66 rfl hY_X0_isLike mm_X2_186 mi_X0_isLike ml_X0_isLike ⟨(Nat.le_of_ble_eq_true rfl), (Nat.le_of_ble_eq_true rfl)⟩ rfl hl.1 rfl (Nat.le_of_ble_eq_true rfl) dX2_isLike_77 ⟨(Nat.le_of_ble_eq_true rfl), (Nat.le_of_ble_eq_true rfl)⟩) (kx_no rfl) (fun r94 u93 H locs hp92 G => ?_)
            obtain ⟨hb95, eu93⟩ := hp92
            rw [eu93] at G
            refine lv_if_ne (tgt := 85) hx hb dX2_isLike_80 (by decide) (fun c96 => ?_) (fun c96 => ?_)
            · refine lv_iinc (v := 2) (lv' := [(2, .int 2), (0, .ref (A (b2 + 0))), (1, .ref (A (b + 0)))]) hx hb dX2_isLike_85 hl (k := 0) rfl (by exact (by decide)) (by decide) rfl (fun ls hl => ?_)
              refine lv_goto (tgt := 59) hx hb dX2_isLike_88 (by decide) ?_
              refine lv_iload_n hx hb dX2_isLike_59 rfl (lv_at hl 0 rfl) ?_
              refine lv_aload_n hx hb dX2_isLike_60 rfl (lv_at hl 1 rfl) ?_
              refine g_get C0 G k11 rfl hiX2 5 (by decide) mf_X2_31 rfl dX2_isLike_61 ?_
              refine lv_icmp_gt (tgt := 91) hx hb dX2_isLike_64 (by decide) (fun c98 => absurd c98 (by decide)) (fun _ => ?_)
              refine lv_aload_n hx hb dX2_isLike_67 rfl (lv_at hl 1 rfl) ?_
              refine lv_iload_n hx hb dX2_isLike_68 rfl (lv_at hl 0 rfl) ?_
              refine g_cR C0 G (g_runV C0 G (rest := []) (c_X2_at2 hfl (A := A) (b := b2) (ex := (cm2 0)) (ov := (cm2 1)) (ie := (cm2 2)) (fi := (cm2 3)) (nu := 3) (q := q2) k11 k19 hAj hQ2.1 hQ2.2.1 hQ2.2.2.1 hQ2.2.2.2) k11 rfl hY_X2_at mm_X2_77 mi_X2_at ml_X2_at ⟨(Nat.le_of_ble_eq_true rfl), (Nat.le_of_ble_eq_true rfl)⟩ rfl hl.1 rfl (Nat.le_of_ble_eq_true rfl) dX2_isLike_69 ⟨(Nat.le_of_ble_eq_true rfl), (Nat.le_of_ble_eq_true rfl)⟩) (kx_no rfl) (fun a101 u100 H locs hp99 G => ?_)
              obtain ⟨zr, eu100⟩ := hp99
              replace zr := Eq.symm zr
              subst zr
              rw [eu100] at G
              refine lv_aload_n hx hb dX2_isLike_72 rfl (lv_at hl 2 rfl) ?_
              refine lv_iload_n hx hb dX2_isLike_73 rfl (lv_at hl 0 rfl) ?_
              refine g_cR C0 G (g_runV C0 G (rest := [.ref (A (b2 + 28))]) (c_X2_at2 hfl (A := A) (b := b) (ex := (cm 0)) (ov := (cm 1)) (ie := (cm 2)) (fi := (cm 3)) (nu := 3) (q := q) k12 k23 hAj hQ.1 hQ.2.1 hQ.2.2.1 hQ.2.2.2) k12 rfl hY_X2_at mm_X2_77 mi_X2_at ml_X2_at ⟨(Nat.le_of_ble_eq_true rfl), (Nat.le_of_ble_eq_true rfl)⟩ rfl hl.1 rfl (Nat.le_of_ble_eq_true rfl) dX2_isLike_74 ⟨(Nat.le_of_ble_eq_true rfl), (Nat.le_of_ble_eq_true rfl)⟩) (kx_no rfl) (fun a104 u103 H locs hp102 G => ?_)
              obtain ⟨zr, eu103⟩ := hp102
              replace zr := Eq.symm zr
              subst zr
              rw [eu103] at G
              have k105 : f (A (b2 + 28)) = some (.inr (2, [.ref (A (b2 + 29)), .ref (A (b2 + 31)), .ref (A (b2 + 33)), .ref (A (b2 + 35)), .ref (A (b2 + 37)), .ref (A (b2 + 39)), .int (cs2 2 6 8), .int (cs2 2 6 9), .int (cs2 2 6 10), .int (cs2 2 6 11), .int (cs2 2 6 12)])) := hM2 28 (by omega)
              have k106 : f (A (b2 + 29)) = some (.inr (8, [.int 8, .ref (A (b2 + 30)), .int 1])) := by have h9 : f (A (b2 + 29)) = some (.inr (8, [.int 8, .ref (A (b2 + 30)), .int (cs2 2 7 0)])) := hM2 29 (by omega); rw [(hL2 2 (by omega)).1] at h9; exact h9
              have k107 : f (A (b2 + 30)) = some (.inl (cy 0, 8, .inl (cs2 2 0))) := hM2 30 (by omega)
              have k108 : f (A (b2 + 31)) = some (.inr (8, [.int 6, .ref (A (b2 + 32)), .int 11])) := by have h9 : f (A (b2 + 31)) = some (.inr (8, [.int 6, .ref (A (b2 + 32)), .int (cs2 2 7 1)])) := hM2 31 (by omega); rw [(hL2 2 (by omega)).2.1] at h9; exact h9
              have k109 : f (A (b2 + 32)) = some (.inl (cy 0, 66, .inl (cs2 2 1))) := hM2 32 (by omega)
              have k110 : f (A (b2 + 33)) = some (.inr (8, [.int 7, .ref (A (b2 + 34)), .int 11])) := by have h9 : f (A (b2 + 33)) = some (.inr (8, [.int 7, .ref (A (b2 + 34)), .int (cs2 2 7 2)])) := hM2 33 (by omega); rw [(hL2 2 (by omega)).2.2.1] at h9; exact h9
              have k111 : f (A (b2 + 34)) = some (.inl (cy 0, 77, .inl (cs2 2 2))) := hM2 34 (by omega)
              have k112 : f (A (b2 + 35)) = some (.inr (8, [.int 8, .ref (A (b2 + 36)), .int (nI ((cs2 2 7 3).toNatClampNeg))])) := by have h9 : f (A (b2 + 35)) = some (.inr (8, [.int 8, .ref (A (b2 + 36)), .int (cs2 2 7 3)])) := hM2 35 (by omega); rw [(hL2 2 (by omega)).2.2.2.1.1] at h9; exact h9
              have k113 : f (A (b2 + 36)) = some (.inl (cy 0, 4104, .inl (cs2 2 3))) := hM2 36 (by omega)
              have k114 : f (A (b2 + 37)) = some (.inr (8, [.int 3, .ref (A (b2 + 38)), .int (nI ((cs2 2 7 4).toNatClampNeg))])) := by have h9 : f (A (b2 + 37)) = some (.inr (8, [.int 3, .ref (A (b2 + 38)), .int (cs2 2 7 4)])) := hM2 37 (by omega); rw [(hL2 2 (by omega)).2.2.2.2.1.1] at h9; exact h9
              have k115 : f (A (b2 + 38)) = some (.inl (cy 0, 33, .inl (cs2 2 4))) := hM2 38 (by omega)
              have k116 : f (A (b2 + 39)) = some (.inr (5, [.ref (A (b2 + 40)), .int (cs2 2 6 0), .int (cs2 2 6 1), .int (nI ((cs2 2 6 2).toNatClampNeg)), .int (cs2 2 6 3), .int (cs2 2 6 4), .int (cs2 2 6 5), .int (cs2 2 6 6), .int (cs2 2 6 7)])) := by have h9 : f (A (b2 + 39)) = some (.inr (5, [.ref (A (b2 + 40)), .int (cs2 2 6 0), .int (cs2 2 6 1), .int (cs2 2 6 2), .int (cs2 2 6 3), .int (cs2 2 6 4), .int (cs2 2 6 5), .int (cs2 2 6 6), .int (cs2 2 6 7)])) := hM2 39 (by omega); rw [(hL2 2 (by omega)).2.2.2.2.2.1] at h9; exact h9
              have k117 : f (A (b2 + 40)) = some (.inl (cy 0, 20, .inl (cs2 2 5))) := hM2 40 (by omega)
              have k118 : f (A (b + 28)) = some (.inr (2, [.ref (A (b + 29)), .ref (A (b + 31)), .ref (A (b + 33)), .ref (A (b + 35)), .ref (A (b + 37)), .ref (A (b + 39)), .int (cs 2 6 8), .int (cs 2 6 9), .int (cs 2 6 10), .int (cs 2 6 11), .int (cs 2 6 12)])) := hM 28 (by omega)
              have k119 : f (A (b + 29)) = some (.inr (8, [.int 8, .ref (A (b + 30)), .int 1])) := by have h9 : f (A (b + 29)) = some (.inr (8, [.int 8, .ref (A (b + 30)), .int (cs 2 7 0)])) := hM 29 (by omega); rw [(hL1 2 (by omega)).1] at h9; exact h9
              have k120 : f (A (b + 30)) = some (.inl (cy 0, 8, .inl (cs 2 0))) := hM 30 (by omega)
              have k121 : f (A (b + 31)) = some (.inr (8, [.int 6, .ref (A (b + 32)), .int 11])) := by have h9 : f (A (b + 31)) = some (.inr (8, [.int 6, .ref (A (b + 32)), .int (cs 2 7 1)])) := hM 31 (by omega); rw [(hL1 2 (by omega)).2.1] at h9; exact h9
              have k122 : f (A (b + 32)) = some (.inl (cy 0, 66, .inl (cs 2 1))) := hM 32 (by omega)
              have k123 : f (A (b + 33)) = some (.inr (8, [.int 7, .ref (A (b + 34)), .int 11])) := by have h9 : f (A (b + 33)) = some (.inr (8, [.int 7, .ref (A (b + 34)), .int (cs 2 7 2)])) := hM 33 (by omega); rw [(hL1 2 (by omega)).2.2.1] at h9; exact h9
              have k124 : f (A (b + 34)) = some (.inl (cy 0, 77, .inl (cs 2 2))) := hM 34 (by omega)
              have k125 : f (A (b + 35)) = some (.inr (8, [.int 8, .ref (A (b + 36)), .int (nI ((cs 2 7 3).toNatClampNeg))])) := by have h9 : f (A (b + 35)) = some (.inr (8, [.int 8, .ref (A (b + 36)), .int (cs 2 7 3)])) := hM 35 (by omega); rw [(hL1 2 (by omega)).2.2.2.1.1] at h9; exact h9
              have k126 : f (A (b + 36)) = some (.inl (cy 0, 4104, .inl (cs 2 3))) := hM 36 (by omega)
              have k127 : f (A (b + 37)) = some (.inr (8, [.int 3, .ref (A (b + 38)), .int (nI ((cs 2 7 4).toNatClampNeg))])) := by have h9 : f (A (b + 37)) = some (.inr (8, [.int 3, .ref (A (b + 38)), .int (cs 2 7 4)])) := hM 37 (by omega); rw [(hL1 2 (by omega)).2.2.2.2.1.1] at h9; exact h9
              have k128 : f (A (b + 38)) = some (.inl (cy 0, 33, .inl (cs 2 4))) := hM 38 (by omega)
              have k129 : f (A (b + 39)) = some (.inr (5, [.ref (A (b + 40)), .int (cs 2 6 0), .int (cs 2 6 1), .int (nI ((cs 2 6 2).toNatClampNeg)), .int (cs 2 6 3), .int (cs 2 6 4), .int (cs 2 6 5), .int (cs 2 6 6), .int (cs 2 6 7)])) := by have h9 : f (A (b + 39)) = some (.inr (5, [.ref (A (b + 40)), .int (cs 2 6 0), .int (cs 2 6 1), .int (cs 2 6 2), .int (cs 2 6 3), .int (cs 2 6 4), .int (cs 2 6 5), .int (cs 2 6 6), .int (cs 2 6 7)])) := hM 39 (by omega); rw [(hL1 2 (by omega)).2.2.2.2.2.1] at h9; exact h9
              have k130 : f (A (b + 40)) = some (.inl (cy 0, 20, .inl (cs 2 5))) := hM 40 (by omega)
              refine g_cI C0 G (g_runV C0 G (rest := []) (c_X0_isLike hfl (rp := ((cs2 2 7 3).toNatClampNeg)) (rf := ((cs2 2 7 4).toNatClampNeg)) (oc := ((cs2 2 6 2).toNatClampNeg)) (g0 := (cs2 2 0)) (g1 := (cs2 2 1)) (g2 := (cs2 2 2)) (g3 := (cs2 2 3)) (g4 := (cs2 2 4)) (go := (cs2 2 5)) (lm := (cs2 2 6 0)) (lf := (cs2 2 6 1)) (bw := (cs2 2 6 3)) (bb := (cs2 2 6 4)) (bl := (cs2 2 6 5)) (cd := (cs2 2 6 6)) (hbg := (cs2 2 6 7)) (rs := (cs2 2 6 8)) (sk := (cs2 2 6 9)) (ot := (cs2 2 6 10)) (ch := (cs2 2 6 11)) (nc := (cs2 2 6 12)) (rp_o := ((cs 2 7 3).toNatClampNeg)) (rf_o := ((cs 2 7 4).toNatClampNeg)) (oc_o := ((cs 2 6 2).toNatClampNeg)) (g0_o := (cs 2 0)) (g1_o := (cs 2 1)) (g2_o := (cs 2 2)) (g3_o := (cs 2 3)) (g4_o := (cs 2 4)) (go_o := (cs 2 5)) (lm_o := (cs 2 6 0)) (lf_o := (cs 2 6 1)) (bw_o := (cs 2 6 3)) (bb_o := (cs 2 6 4)) (bl_o := (cs 2 6 5)) (cd_o := (cs 2 6 6)) (hbg_o := (cs 2 6 7)) (rs_o := (cs 2 6 8)) (sk_o := (cs 2 6 9)) (ot_o := (cs 2 6 10)) (ch_o := (cs 2 6 11)) (nc_o := (cs 2 6 12)) k105 k106 k107 k108 k109 k110 k111 k112 k113 k114 k115 k116 k117 k118 k119 k120 k121 k122 k123 k124 k125 k126 k127 k128 k129 k130 (hL2 2 (by omega)).2.2.2.1.2 (hL2 2 (by omega)).2.2.2.2.1.2 (hL2 2 (by omega)).2.2.2.2.2.2 (hL1 2 (by omega)).2.2.2.1.2 (hL1 2 (by omega)).2.2.2.2.1.2 (hL1 2 (by omega)).2.2.2.2.2.2) k105 rfl hY_X0_isLike mm_X2_186 mi_X0_isLike ml_X0_isLike ⟨(Nat.le_of_ble_eq_true rfl), (Nat.le_of_ble_eq_true rfl)⟩ rfl hl.1 rfl (Nat.le_of_ble_eq_true rfl) dX2_isLike_77 ⟨(Nat.le_of_ble_eq_true rfl), (Nat.le_of_ble_eq_true rfl)⟩) (kx_no rfl) (fun r133 u132 H locs hp131 G => ?_)
              obtain ⟨hb134, eu132⟩ := hp131
              rw [eu132] at G
              refine lv_if_ne (tgt := 85) hx hb dX2_isLike_80 (by decide) (fun c135 => ?_) (fun c135 => ?_)
              · refine lv_iinc (v := 3) (lv' := [(2, .int 3), (0, .ref (A (b2 + 0))), (1, .ref (A (b + 0)))]) hx hb dX2_isLike_85 hl (k := 0) rfl (by exact (by decide)) (by decide) rfl (fun ls hl => ?_)
                refine lv_goto (tgt := 59) hx hb dX2_isLike_88 (by decide) ?_
                refine lv_iload_n hx hb dX2_isLike_59 rfl (lv_at hl 0 rfl) ?_
                refine lv_aload_n hx hb dX2_isLike_60 rfl (lv_at hl 1 rfl) ?_
                refine g_get C0 G k11 rfl hiX2 5 (by decide) mf_X2_31 rfl dX2_isLike_61 ?_
                refine lv_icmp_gt (tgt := 91) hx hb dX2_isLike_64 (by decide) (fun c137 => absurd c137 (by decide)) (fun _ => ?_)
                refine lv_aload_n hx hb dX2_isLike_67 rfl (lv_at hl 1 rfl) ?_
                refine lv_iload_n hx hb dX2_isLike_68 rfl (lv_at hl 0 rfl) ?_
                refine g_cR C0 G (g_runV C0 G (rest := []) (c_X2_at3 hfl (A := A) (b := b2) (ex := (cm2 0)) (ov := (cm2 1)) (ie := (cm2 2)) (fi := (cm2 3)) (nu := 3) (q := q2) k11 k19 hAj hQ2.1 hQ2.2.1 hQ2.2.2.1 hQ2.2.2.2) k11 rfl hY_X2_at mm_X2_77 mi_X2_at ml_X2_at ⟨(Nat.le_of_ble_eq_true rfl), (Nat.le_of_ble_eq_true rfl)⟩ rfl hl.1 rfl (Nat.le_of_ble_eq_true rfl) dX2_isLike_69 ⟨(Nat.le_of_ble_eq_true rfl), (Nat.le_of_ble_eq_true rfl)⟩) (kx_no rfl) (fun a140 u139 H locs hp138 G => ?_)
                obtain ⟨zr, eu139⟩ := hp138
                replace zr := Eq.symm zr
                subst zr
                rw [eu139] at G
                refine lv_aload_n hx hb dX2_isLike_72 rfl (lv_at hl 2 rfl) ?_
                refine lv_iload_n hx hb dX2_isLike_73 rfl (lv_at hl 0 rfl) ?_
                refine g_cR C0 G (g_runV C0 G (rest := [.ref (A (b2 + 41))]) (c_X2_at3 hfl (A := A) (b := b) (ex := (cm 0)) (ov := (cm 1)) (ie := (cm 2)) (fi := (cm 3)) (nu := 3) (q := q) k12 k23 hAj hQ.1 hQ.2.1 hQ.2.2.1 hQ.2.2.2) k12 rfl hY_X2_at mm_X2_77 mi_X2_at ml_X2_at ⟨(Nat.le_of_ble_eq_true rfl), (Nat.le_of_ble_eq_true rfl)⟩ rfl hl.1 rfl (Nat.le_of_ble_eq_true rfl) dX2_isLike_74 ⟨(Nat.le_of_ble_eq_true rfl), (Nat.le_of_ble_eq_true rfl)⟩) (kx_no rfl) (fun a143 u142 H locs hp141 G => ?_)
                obtain ⟨zr, eu142⟩ := hp141
                replace zr := Eq.symm zr
                subst zr
                rw [eu142] at G
                have k144 : f (A (b2 + 41)) = some (.inr (2, [.ref (A (b2 + 42)), .ref (A (b2 + 44)), .ref (A (b2 + 46)), .ref (A (b2 + 48)), .ref (A (b2 + 50)), .ref (A (b2 + 52)), .int (cs2 3 6 8), .int (cs2 3 6 9), .int (cs2 3 6 10), .int (cs2 3 6 11), .int (cs2 3 6 12)])) := hM2 41 (by omega)
                have k145 : f (A (b2 + 42)) = some (.inr (8, [.int 8, .ref (A (b2 + 43)), .int 1])) := by have h9 : f (A (b2 + 42)) = some (.inr (8, [.int 8, .ref (A (b2 + 43)), .int (cs2 3 7 0)])) := hM2 42 (by omega); rw [(hL2 3 (by omega)).1] at h9; exact h9
                have k146 : f (A (b2 + 43)) = some (.inl (cy 0, 8, .inl (cs2 3 0))) := hM2 43 (by omega)
                have k147 : f (A (b2 + 44)) = some (.inr (8, [.int 6, .ref (A (b2 + 45)), .int 11])) := by have h9 : f (A (b2 + 44)) = some (.inr (8, [.int 6, .ref (A (b2 + 45)), .int (cs2 3 7 1)])) := hM2 44 (by omega); rw [(hL2 3 (by omega)).2.1] at h9; exact h9
                have k148 : f (A (b2 + 45)) = some (.inl (cy 0, 66, .inl (cs2 3 1))) := hM2 45 (by omega)
                have k149 : f (A (b2 + 46)) = some (.inr (8, [.int 7, .ref (A (b2 + 47)), .int 11])) := by have h9 : f (A (b2 + 46)) = some (.inr (8, [.int 7, .ref (A (b2 + 47)), .int (cs2 3 7 2)])) := hM2 46 (by omega); rw [(hL2 3 (by omega)).2.2.1] at h9; exact h9
                have k150 : f (A (b2 + 47)) = some (.inl (cy 0, 77, .inl (cs2 3 2))) := hM2 47 (by omega)
                have k151 : f (A (b2 + 48)) = some (.inr (8, [.int 8, .ref (A (b2 + 49)), .int (nI ((cs2 3 7 3).toNatClampNeg))])) := by have h9 : f (A (b2 + 48)) = some (.inr (8, [.int 8, .ref (A (b2 + 49)), .int (cs2 3 7 3)])) := hM2 48 (by omega); rw [(hL2 3 (by omega)).2.2.2.1.1] at h9; exact h9
                have k152 : f (A (b2 + 49)) = some (.inl (cy 0, 4104, .inl (cs2 3 3))) := hM2 49 (by omega)
                have k153 : f (A (b2 + 50)) = some (.inr (8, [.int 3, .ref (A (b2 + 51)), .int (nI ((cs2 3 7 4).toNatClampNeg))])) := by have h9 : f (A (b2 + 50)) = some (.inr (8, [.int 3, .ref (A (b2 + 51)), .int (cs2 3 7 4)])) := hM2 50 (by omega); rw [(hL2 3 (by omega)).2.2.2.2.1.1] at h9; exact h9
                have k154 : f (A (b2 + 51)) = some (.inl (cy 0, 33, .inl (cs2 3 4))) := hM2 51 (by omega)
                have k155 : f (A (b2 + 52)) = some (.inr (5, [.ref (A (b2 + 53)), .int (cs2 3 6 0), .int (cs2 3 6 1), .int (nI ((cs2 3 6 2).toNatClampNeg)), .int (cs2 3 6 3), .int (cs2 3 6 4), .int (cs2 3 6 5), .int (cs2 3 6 6), .int (cs2 3 6 7)])) := by have h9 : f (A (b2 + 52)) = some (.inr (5, [.ref (A (b2 + 53)), .int (cs2 3 6 0), .int (cs2 3 6 1), .int (cs2 3 6 2), .int (cs2 3 6 3), .int (cs2 3 6 4), .int (cs2 3 6 5), .int (cs2 3 6 6), .int (cs2 3 6 7)])) := hM2 52 (by omega); rw [(hL2 3 (by omega)).2.2.2.2.2.1] at h9; exact h9
                have k156 : f (A (b2 + 53)) = some (.inl (cy 0, 20, .inl (cs2 3 5))) := hM2 53 (by omega)
                have k157 : f (A (b + 41)) = some (.inr (2, [.ref (A (b + 42)), .ref (A (b + 44)), .ref (A (b + 46)), .ref (A (b + 48)), .ref (A (b + 50)), .ref (A (b + 52)), .int (cs 3 6 8), .int (cs 3 6 9), .int (cs 3 6 10), .int (cs 3 6 11), .int (cs 3 6 12)])) := hM 41 (by omega)
                have k158 : f (A (b + 42)) = some (.inr (8, [.int 8, .ref (A (b + 43)), .int 1])) := by have h9 : f (A (b + 42)) = some (.inr (8, [.int 8, .ref (A (b + 43)), .int (cs 3 7 0)])) := hM 42 (by omega); rw [(hL1 3 (by omega)).1] at h9; exact h9
                have k159 : f (A (b + 43)) = some (.inl (cy 0, 8, .inl (cs 3 0))) := hM 43 (by omega)
                have k160 : f (A (b + 44)) = some (.inr (8, [.int 6, .ref (A (b + 45)), .int 11])) := by have h9 : f (A (b + 44)) = some (.inr (8, [.int 6, .ref (A (b + 45)), .int (cs 3 7 1)])) := hM 44 (by omega); rw [(hL1 3 (by omega)).2.1] at h9; exact h9
                have k161 : f (A (b + 45)) = some (.inl (cy 0, 66, .inl (cs 3 1))) := hM 45 (by omega)
                have k162 : f (A (b + 46)) = some (.inr (8, [.int 7, .ref (A (b + 47)), .int 11])) := by have h9 : f (A (b + 46)) = some (.inr (8, [.int 7, .ref (A (b + 47)), .int (cs 3 7 2)])) := hM 46 (by omega); rw [(hL1 3 (by omega)).2.2.1] at h9; exact h9
                have k163 : f (A (b + 47)) = some (.inl (cy 0, 77, .inl (cs 3 2))) := hM 47 (by omega)
                have k164 : f (A (b + 48)) = some (.inr (8, [.int 8, .ref (A (b + 49)), .int (nI ((cs 3 7 3).toNatClampNeg))])) := by have h9 : f (A (b + 48)) = some (.inr (8, [.int 8, .ref (A (b + 49)), .int (cs 3 7 3)])) := hM 48 (by omega); rw [(hL1 3 (by omega)).2.2.2.1.1] at h9; exact h9
                have k165 : f (A (b + 49)) = some (.inl (cy 0, 4104, .inl (cs 3 3))) := hM 49 (by omega)
                have k166 : f (A (b + 50)) = some (.inr (8, [.int 3, .ref (A (b + 51)), .int (nI ((cs 3 7 4).toNatClampNeg))])) := by have h9 : f (A (b + 50)) = some (.inr (8, [.int 3, .ref (A (b + 51)), .int (cs 3 7 4)])) := hM 50 (by omega); rw [(hL1 3 (by omega)).2.2.2.2.1.1] at h9; exact h9
                have k167 : f (A (b + 51)) = some (.inl (cy 0, 33, .inl (cs 3 4))) := hM 51 (by omega)
                have k168 : f (A (b + 52)) = some (.inr (5, [.ref (A (b + 53)), .int (cs 3 6 0), .int (cs 3 6 1), .int (nI ((cs 3 6 2).toNatClampNeg)), .int (cs 3 6 3), .int (cs 3 6 4), .int (cs 3 6 5), .int (cs 3 6 6), .int (cs 3 6 7)])) := by have h9 : f (A (b + 52)) = some (.inr (5, [.ref (A (b + 53)), .int (cs 3 6 0), .int (cs 3 6 1), .int (cs 3 6 2), .int (cs 3 6 3), .int (cs 3 6 4), .int (cs 3 6 5), .int (cs 3 6 6), .int (cs 3 6 7)])) := hM 52 (by omega); rw [(hL1 3 (by omega)).2.2.2.2.2.1] at h9; exact h9
                have k169 : f (A (b + 53)) = some (.inl (cy 0, 20, .inl (cs 3 5))) := hM 53 (by omega)
                refine g_cI C0 G (g_runV C0 G (rest := []) (c_X0_isLike hfl (rp := ((cs2 3 7 3).toNatClampNeg)) (rf := ((cs2 3 7 4).toNatClampNeg)) (oc := ((cs2 3 6 2).toNatClampNeg)) (g0 := (cs2 3 0)) (g1 := (cs2 3 1)) (g2 := (cs2 3 2)) (g3 := (cs2 3 3)) (g4 := (cs2 3 4)) (go := (cs2 3 5)) (lm := (cs2 3 6 0)) (lf := (cs2 3 6 1)) (bw := (cs2 3 6 3)) (bb := (cs2 3 6 4)) (bl := (cs2 3 6 5)) (cd := (cs2 3 6 6)) (hbg := (cs2 3 6 7)) (rs := (cs2 3 6 8)) (sk := (cs2 3 6 9)) (ot := (cs2 3 6 10)) (ch := (cs2 3 6 11)) (nc := (cs2 3 6 12)) (rp_o := ((cs 3 7 3).toNatClampNeg)) (rf_o := ((cs 3 7 4).toNatClampNeg)) (oc_o := ((cs 3 6 2).toNatClampNeg)) (g0_o := (cs 3 0)) (g1_o := (cs 3 1)) (g2_o := (cs 3 2)) (g3_o := (cs 3 3)) (g4_o := (cs 3 4)) (go_o := (cs 3 5)) (lm_o := (cs 3 6 0)) (lf_o := (cs 3 6 1)) (bw_o := (cs 3 6 3)) (bb_o := (cs 3 6 4)) (bl_o := (cs 3 6 5)) (cd_o := (cs 3 6 6)) (hbg_o := (cs 3 6 7)) (rs_o := (cs 3 6 8)) (sk_o := (cs 3 6 9)) (ot_o := (cs 3 6 10)) (ch_o := (cs 3 6 11)) (nc_o := (cs 3 6 12)) k144 k145 k146 k147 k148 k149 k150 k151 k152 k153 k154 k155 k156 k157 k158 k159 k160 k161 k162 k163 k164 k165 k166 k167 k168 k169 (hL2 3 (by omega)).2.2.2.1.2 (hL2 3 (by omega)).2.2.2.2.1.2 (hL2 3 (by omega)).2.2.2.2.2.2 (hL1 3 (by omega)).2.2.2.1.2 (hL1 3 (by omega)).2.2.2.2.1.2 (hL1 3 (by omega)).2.2.2.2.2.2) k144 rfl hY_X0_isLike mm_X2_186 mi_X0_isLike ml_X0_isLike ⟨(Nat.le_of_ble_eq_true rfl), (Nat.le_of_ble_eq_true rfl)⟩ rfl hl.1 rfl (Nat.le_of_ble_eq_true rfl) dX2_isLike_77 ⟨(Nat.le_of_ble_eq_true rfl), (Nat.le_of_ble_eq_true rfl)⟩) (kx_no rfl) (fun r172 u171 H locs hp170 G => ?_)
                obtain ⟨hb173, eu171⟩ := hp170
                rw [eu171] at G
                refine lv_if_ne (tgt := 85) hx hb dX2_isLike_80 (by decide) (fun c174 => ?_) (fun c174 => ?_)
                · refine lv_iinc (v := 4) (lv' := [(2, .int 4), (0, .ref (A (b2 + 0))), (1, .ref (A (b + 0)))]) hx hb dX2_isLike_85 hl (k := 0) rfl (by exact (by decide)) (by decide) rfl (fun ls hl => ?_)
                  refine lv_goto (tgt := 59) hx hb dX2_isLike_88 (by decide) ?_
                  refine lv_iload_n hx hb dX2_isLike_59 rfl (lv_at hl 0 rfl) ?_
                  refine lv_aload_n hx hb dX2_isLike_60 rfl (lv_at hl 1 rfl) ?_
                  refine g_get C0 G k11 rfl hiX2 5 (by decide) mf_X2_31 rfl dX2_isLike_61 ?_
                  refine lv_icmp_gt (tgt := 91) hx hb dX2_isLike_64 (by decide) (fun _ => ?_) (fun c176 => absurd (by decide) c176)
                  refine lv_iconst (v := 1) hx hb dX2_isLike_91 (by decide) ?_
                  exact g_zret C0 G hr dX2_isLike_92 rfl (Nat.le_of_ble_eq_true rfl) (Nat.le_of_ble_eq_true rfl) (by exact ⟨(Or.inr rfl), rfl⟩)
                · refine lv_iconst (v := 0) hx hb dX2_isLike_83 (by decide) ?_
                  exact g_zret C0 G hr dX2_isLike_84 rfl (Nat.le_of_ble_eq_true rfl) (Nat.le_of_ble_eq_true rfl) (by exact ⟨(Or.inl rfl), rfl⟩)
              · refine lv_iconst (v := 0) hx hb dX2_isLike_83 (by decide) ?_
                exact g_zret C0 G hr dX2_isLike_84 rfl (Nat.le_of_ble_eq_true rfl) (Nat.le_of_ble_eq_true rfl) (by exact ⟨(Or.inl rfl), rfl⟩)
            · refine lv_iconst (v := 0) hx hb dX2_isLike_83 (by decide) ?_
              exact g_zret C0 G hr dX2_isLike_84 rfl (Nat.le_of_ble_eq_true rfl) (Nat.le_of_ble_eq_true rfl) (by exact ⟨(Or.inl rfl), rfl⟩)
          · refine lv_iconst (v := 0) hx hb dX2_isLike_83 (by decide) ?_
            exact g_zret C0 G hr dX2_isLike_84 rfl (Nat.le_of_ble_eq_true rfl) (Nat.le_of_ble_eq_true rfl) (by exact ⟨(Or.inl rfl), rfl⟩)
