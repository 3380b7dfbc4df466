/-! A STEP OF THE MATCH -/
theorem looks_RR {cm : Nat → Int32} {cs : Nat → Nat → Nat → Int32} {g gI S : Nat → Int32} {ov al dl : Int32} {k n rp' rf' oc' : Nat} {SB RP RF OC : Nat → Nat} (hk : k ≤ 511) (hR : RRn cm cs g ov k n SB RP RF OC) (hc1 : cm 1 = 0) (hm : MIDR (INN (cs n) S) gI n (SB n) rp' rf' oc' (k + 1) (cm 2) ov) (hrp : RP n ≤ rp' ∧ rp' ≤ RP n + 1) (hfr : ∀ p, OUTR n (SB n + RP n) p → p ≠ 23 → gI p = g p) (h23 : gI 23 = nI (k + 1)) (hal : al = INN (cs n) S 6 12) (hdl : dl = X2_perform01_x21 (S 0)) : RR (pfM cm cs S) (pfS cm cs S) (X9_looks_g11 gI al dl n (cm 2).toNatClampNeg (SB n + rp')) ov (k + 1) := by
  have hR0 := hR
  obtain ⟨hb, hs, hp, hz, h22, h5, h11, hl⟩ := hR0
  obtain ⟨b1, b2, b3, b4, b5, b6, b7, b8, b9, b10⟩ := hb
  have hR1 : ∀ j, j ≤ n → 1 ≤ RP j := fun j hj => (hp j hj).2.1
  have hRn := hR1 n (Nat.le_refl _)
  obtain ⟨hms, hmn, hr1, hrf, hoc, hbw9, ⟨bl, t, L, hbl, ht, hL, hocL, hcf⟩, hbat⟩ := id hm
  have hpI : ∀ j, j < n → PAST1 (cs j) gI j (SB j) (RP j) (RF j) (OC j) k (cm 2) := fun j hj => PAST1_fr (hp j (by omega)) (Nat.le_refl _) (fun p hp2 => by
    have o1 := inJ_out (s := SB n + RP n) b1 hs hj (by omega) hp2
    exact hfr p o1.1 o1.2.2.1)
  have hdu := due_eq (g := gI) (S := S) b3 b2 b1 hpI hms hmn hcf.2.2.2.2.2.2.1 hL.2 hocL
  rw [← hal, ← hdl] at hdu
  unfold X9_looks_g11
  rw [hdu]
  have e5 : X9_looks_g5 gI al dl n (cm 2).toNatClampNeg = upd gI (25 + 11 * n + 7) (DUE cm cs S) := by unfold X9_looks_g5; rw [hdu]
  rw [e5]
  by_cases hE : DUE cm cs S = 0
  · rw [if_pos hE, hE]
    exact end_stay hR (MIDR_7 b1 hm) hrp (fun p q1 q2 => (upd_off (by unfold OUTR at q1; omega)).trans (hfr p q1 q2)) ((upd_off (by omega)).trans h23) hE
  · rw [if_neg hE]
    have eN : (cm 4).toNatClampNeg = n := by rw [b2]; exact nI_c (by omega)
    have hT : cm 2 = 2 → n = 2 → X9_target_r1 (X9_looks_g5 gI al dl n (cm 2).toNatClampNeg) 2 = X2_target2_r0 (cs 0 0) (cs 1 0) (FIN (INN (cs 2) S) (DUE0 (INN (cs 2) S) (S 0)) 0) := by
      intro q1 q2
      subst q2
      rw [e5]
      refine (tgt2 ?_ ?_ ?_).symm
      · rw [(hpI 0 (by omega)).1.1 0 (by omega), Wn_at (by omega), upd_off (by omega)]
      · rw [(hpI 1 (by omega)).1.1 0 (by omega), Wn_at (by omega), upd_off (by omega)]
      · rw [FIN_0, upd_off (by omega), hms.1 0 (by omega), Wn_at (by omega), upd_off (by omega)]
    rcases OVR_or (cs := cs) (S := S) b3 with q | q
    · have hg : X9_looks_g10 gI al dl n (cm 2).toNatClampNeg (SB n + rp') = upd (X9_looks_g5 gI al dl n (cm 2).toNatClampNeg) 5 1 := by
        rcases id q with ⟨q1, q2⟩ | ⟨q1, q2⟩ | ⟨q1, q2, q3⟩
        · have e : n = 1 := (nI_eq (by omega) (by omega)).mp (b2.symm.trans q2)
          have e2 : (cm 2).toNatClampNeg = 1 := by rw [q1]; decide
          subst e
          rw [e2]
          unfold X9_looks_g10
          rw [if_pos (show nI 1 = nI (2 * 1 - 1) from rfl)]
          rfl
        · have e : n = 3 := (nI_eq (by omega) (by omega)).mp (b2.symm.trans q2)
          have e2 : (cm 2).toNatClampNeg = 2 := by rw [q1]; decide
          subst e
          rw [e2]
          unfold X9_looks_g10
          rw [if_pos (show nI 3 = nI (2 * 2 - 1) from rfl)]
          rfl
        · have e : n = 2 := (nI_eq (by omega) (by omega)).mp (b2.symm.trans q2)
          have e2 : (cm 2).toNatClampNeg = 2 := by rw [q1]; decide
          have h9 := hT q1 e
          rw [e2] at h9
          rw [e2]
          unfold TGT0 at q3
          unfold X9_looks_g10 X9_looks_g9 X9_looks_g8 X9_looks_g7
          rw [h9, e, if_neg (show ¬ nI 2 = nI (2 * 2 - 1) by decide), if_pos (show nI 2 = 2 from rfl), if_pos (show nI 2 = 2 from rfl), if_neg q3]
          rfl
      rw [hg, e5]
      exact end_over hR hm hrp hfr h23 hE q
    · have hg : X9_looks_g10 gI al dl n (cm 2).toNatClampNeg (SB n + rp') = X9_opens_g37 (X9_looks_g5 gI al dl n (cm 2).toNatClampNeg) (n + 1) (SB n + rp') := by
        rcases id q with ⟨q1, q2⟩ | ⟨q1, q2⟩ | ⟨q1, q2⟩ | ⟨q1, q2, q3⟩
        · have e : n = 0 := (nI_eq (by omega) (by omega)).mp (b2.symm.trans q2)
          have e2 : (cm 2).toNatClampNeg = 1 := by rw [q1]; decide
          subst e
          rw [e2]
          unfold X9_looks_g10 X9_looks_g9
          rw [if_neg (show ¬ nI 0 = nI (2 * 1 - 1) by decide), if_neg (show ¬ nI 1 = 2 by decide)]
        · have e : n = 0 := (nI_eq (by omega) (by omega)).mp (b2.symm.trans q2)
          have e2 : (cm 2).toNatClampNeg = 2 := by rw [q1]; decide
          subst e
          rw [e2]
          unfold X9_looks_g10 X9_looks_g9 X9_looks_g8
          rw [if_neg (show ¬ nI 0 = nI (2 * 2 - 1) by decide), if_pos (show nI 2 = 2 from rfl), if_neg (show ¬ nI 0 = 2 by decide)]
        · have e : n = 1 := (nI_eq (by omega) (by omega)).mp (b2.symm.trans q2)
          have e2 : (cm 2).toNatClampNeg = 2 := by rw [q1]; decide
          subst e
          rw [e2]
          unfold X9_looks_g10 X9_looks_g9 X9_looks_g8
          rw [if_neg (show ¬ nI 1 = nI (2 * 2 - 1) by decide), if_pos (show nI 2 = 2 from rfl), if_neg (show ¬ nI 1 = 2 by decide)]
        · have e : n = 2 := (nI_eq (by omega) (by omega)).mp (b2.symm.trans q2)
          have e2 : (cm 2).toNatClampNeg = 2 := by rw [q1]; decide
          have h9 := hT q1 e
          rw [e2] at h9
          rw [e2]
          unfold TGT0 at q3
          unfold X9_looks_g10 X9_looks_g9 X9_looks_g8 X9_looks_g7
          rw [h9, e, if_neg (show ¬ nI 2 = nI (2 * 2 - 1) by decide), if_pos (show nI 2 = 2 from rfl), if_pos (show nI 2 = 2 from rfl), if_pos q3]
      rw [hg, e5]
      exact end_next hk hR hc1 hm hrp hfr h23 hE q
/-- a step that the reference does not look behind -/
theorem plain_RR {cm : Nat → Int32} {cs : Nat → Nat → Nat → Int32} {g gI S : Nat → Int32} {ov : Int32} {k n rp' rf' oc' : Nat} {SB RP RF OC : Nat → Nat} (hR : RRn cm cs g ov k n SB RP RF OC) (hc1 : cm 1 = 0) (hm : MIDR (INN (cs n) S) gI n (SB n) rp' rf' oc' (k + 1) (cm 2) ov) (hrp : RP n ≤ rp' ∧ rp' ≤ RP n + 1) (hfr : ∀ p, OUTR n (SB n + RP n) p → p ≠ 23 → gI p = g p) (h23 : gI 23 = nI (k + 1)) (ht : ¬ S 0 = 6) (e0 : INN (cs n) S 0 = cs n 0) (e60 : INN (cs n) S 6 0 = cs n 6 0) (e62 : INN (cs n) S 6 2 = cs n 6 2) (e68 : INN (cs n) S 6 8 = cs n 6 8) (e612 : INN (cs n) S 6 12 = cs n 6 12) : RR (pfM cm cs S) (pfS cm cs S) gI ov (k + 1) := by
  refine end_stay hR hm hrp hfr h23 ?_
  obtain ⟨hb, hs, hp, hz, h22, h5, h11, hl⟩ := hR
  obtain ⟨b1, b2, b3, b4, b5, b6, b7, b8, b9, b10⟩ := hb
  obtain ⟨⟨hms, hmn, hr1, hrf, hoc, hbw9, ⟨bl, t, L, hbl, ht2, hL, hocL, hcf⟩, hbat⟩, h12, hne, hlt⟩ := hl hc1
  have hocl := live_oc hms hcf hL.2 hocL hne
  have o2 : cs n 6 2 = nI (OC n) := hms.2.2.2.2.2.2.2.2.1
  have k21 : X2_perform01_x21 (S 0) = 0 := if_neg ht
  have kend : X0_ending_r1 (cs n 6 0) (cs n 6 2) (cs n 6 12) = 0 := by
    unfold X0_ending_r1 X0_ending_x0
    rw [h12, if_pos rfl, o2, hcf.2.2.2.2.2.2.1, if_pos ((nI_ltI (by omega) (by omega)).mpr hocl)]
  have kd0 : DUE0 (INN (cs n) S) (S 0) = 0 := by
    unfold DUE0 X2_dueEnd01_x0
    rw [k21, if_pos rfl, e60, e62, e612]; exact kend
  unfold DUE
  rcases id b3 with ⟨l0, l1 | l1⟩ | ⟨l0, l1 | l1 | l1 | l1⟩
  · have e : n = 0 := (nI_eq (by omega) (by omega)).mp (b2.symm.trans l1)
    subst e
    rw [if_pos l0, if_pos l1]; exact kd0
  · have e : n = 1 := (nI_eq (by omega) (by omega)).mp (b2.symm.trans l1)
    subst e
    rw [if_pos l0, if_neg (show ¬ cm 4 = 0 by rw [l1]; decide)]
    unfold DUE1 X2_dueEnd11_r1
    rw [tg8 (c := 0) 0 rfl (by omega), e0, e68, if_pos (hlt.1 l0 l1)]
    exact kd0
  · have e : n = 0 := (nI_eq (by omega) (by omega)).mp (b2.symm.trans l1)
    subst e
    rw [if_neg (show ¬ cm 2 = 1 by rw [l0]; decide), if_pos l1]; exact kd0
  · have e : n = 1 := (nI_eq (by omega) (by omega)).mp (b2.symm.trans l1)
    subst e
    rw [if_neg (show ¬ cm 2 = 1 by rw [l0]; decide), if_neg (show ¬ cm 4 = 0 by rw [l1]; decide), if_pos l1]; exact kd0
  · have e : n = 2 := (nI_eq (by omega) (by omega)).mp (b2.symm.trans l1)
    subst e
    rw [if_neg (show ¬ cm 2 = 1 by rw [l0]; decide), if_neg (show ¬ cm 4 = 0 by rw [l1]; decide), if_neg (show ¬ cm 4 = 1 by rw [l1]; decide), if_pos l1]; exact kd0
  · have e : n = 3 := (nI_eq (by omega) (by omega)).mp (b2.symm.trans l1)
    subst e
    rw [if_neg (show ¬ cm 2 = 1 by rw [l0]; decide), if_neg (show ¬ cm 4 = 0 by rw [l1]; decide), if_neg (show ¬ cm 4 = 1 by rw [l1]; decide), if_neg (show ¬ cm 4 = 2 by rw [l1]; decide)]
    unfold DUE3 X2_dueEnd32_r1
    rw [tg8 (c := 0) 0 rfl (by omega), e0, if_pos (hlt.2 l0 l1)]
    exact kd0
