theorem BASE_fr {cm cm2 : Nat → Int32} {g q : Nat → Int32} {n k k2 : Nat} {ov : Int32} (h : BASE cm g n k ov) (hq : ∀ p, p < 4 → q p = g p) (q4 : q 4 = g 4) (q23 : q 23 = nI k2) (c0 : cm2 0 = cm 0) (c2 : cm2 2 = cm 2) (c3 : cm2 3 = cm 3) (c4 : cm2 4 = cm 4) : BASE cm2 q n k2 ov := by
  obtain ⟨b1, b2, b3, b4, b5, b6, b7, b8, b9, b10⟩ := h
  refine ⟨b1, c4.trans b2, ?_, c0.trans b4, (hq 0 (by omega)).trans b5, (hq 1 (by omega)).trans (b6.trans c2.symm), (hq 2 (by omega)).trans (b7.trans c3.symm), (hq 3 (by omega)).trans b8, q4.trans b9, q23⟩
  unfold VAR at b3 ⊢
  rw [c2, c4]; exact b3
theorem SUMS_fu {SB RP : Nat → Nat} {n k rp : Nat} (h : SUMS SB RP n k) (hr : RP n ≤ rp ∧ rp ≤ RP n + 1) : SUMS SB (fu RP n rp) n (k + 1) := by
  obtain ⟨h1, h2, h3⟩ := h
  refine ⟨h1, fun j hj => ?_, ?_⟩
  · rw [fu_off (by omega)]; exact h2 j hj
  · rw [fu_at]; omega
theorem SUMS_nx {SB RP : Nat → Nat} {n k rp : Nat} (h : SUMS SB RP n k) (hr : RP n ≤ rp ∧ rp ≤ RP n + 1) : SUMS (fu SB (n + 1) (SB n + rp)) (fu (fu RP n rp) (n + 1) 1) (n + 1) (k + 1) := by
  obtain ⟨h1, h2, h3⟩ := h
  refine ⟨?_, fun j hj => ?_, ?_⟩
  · rw [fu_off (by omega)]; exact h1
  · rcases Nat.lt_or_ge j n with q | q
    · rw [fu_off (by omega), fu_off (by omega), fu_off (by omega), fu_off (by omega)]; exact h2 j q
    · have e : j = n := by omega
      subst e
      rw [fu_at, fu_off (by omega), fu_off (by omega), fu_at]
  · rw [fu_at, fu_at]; omega
/-- the step's end, for both: gI is the reference behind the step inside the innings -/
theorem end_stay {cm : Nat → Int32} {cs : Nat → Nat → Nat → Int32} {g gI S : Nat → Int32} {ov : Int32} {k n rp' rf' oc' : Nat} {SB RP RF OC : Nat → Nat} (hR : RRn cm cs g ov k n SB RP RF OC) (hm : MIDR (INN (cs n) S) gI n (SB n) rp' rf' oc' (k + 1) (cm 2) ov) (hrp : RP n ≤ rp' ∧ rp' ≤ RP n + 1) (hfr : ∀ p, OUTR n (SB n + RP n) p → p ≠ 23 → gI p = g p) (h23 : gI 23 = nI (k + 1)) (hd : DUE cm cs S = 0) : RR (pfM cm cs S) (pfS cm cs S) gI ov (k + 1) := by
  obtain ⟨hb, hs, hp, hz, h22, h5, h11, hl⟩ := hR
  have hb0 := hb
  obtain ⟨b1, b2, b3, b4, b5, b6, b7, b8, b9, b10⟩ := hb0
  have e4 : (cm 4).toNatClampNeg = n := by rw [b2]; exact nI_c (by omega)
  obtain ⟨pM, pn, po⟩ := pf_stay b3 hd
  rw [e4] at pn po
  rw [pM]
  have hR1 : ∀ j, j ≤ n → 1 ≤ RP j := fun j hj => (hp j hj).2.1
  have ho : ∀ p, p < 6 → gI p = g p := fun p hp2 => hfr p (by unfold OUTR; have := hR1 n (Nat.le_refl _); omega) (by omega)
  refine ⟨n, SB, fu RP n rp', fu RF n rf', fu OC n oc', BASE_fr hb (fun p h => ho p (by omega)) (ho 4 (by omega)) h23 rfl rfl rfl rfl, SUMS_fu hs hrp, fun j hj => ?_, fun j h1 h2 => ZER_fr (s := SB n + RP n) h1 h2 (hz j h1 h2) (fun p q1 _ q3 _ => hfr p q1 q3), ?_, (ho 5 (by omega)).trans h5, h11, fun _ => ?_⟩
  · by_cases e : j = n
    · subst e
      rw [fu_at, fu_at, fu_at, pn]
      exact MIDR_past hm
    · rw [fu_off e, fu_off e, fu_off e, po j e]
      refine PAST1_fr (hp j hj) (by omega) (fun p hp2 => ?_)
      have hj2 : j < n := by omega
      have := inJ_out (s := SB n + RP n) b1 hs hj2 (by have := hR1 n (Nat.le_refl _); omega) hp2
      exact hfr p this.1 this.2.2.1
  · rw [fu_at]; exact hm.2.1.2.2.2.2.2.2.2.2
  · obtain ⟨d1, d2, d3⟩ := DUE_0 b3 b2 b1 hd
    rw [fu_at, fu_at, fu_at, pn]
    refine ⟨hm, d1, d2, ?_⟩
    refine ⟨fun q1 q2 => ?_, fun q1 q2 => ?_⟩
    · have e : n = 1 := (nI_eq (by omega) (by omega)).mp (b2.symm.trans q2)
      rw [po 0 (by omega)]
      exact d3.1 q1 q2
    · have e : n = 3 := (nI_eq (by omega) (by omega)).mp (b2.symm.trans q2)
      rw [po 0 (by omega), po 1 (by omega), po 2 (by omega)]
      exact d3.2 q1 q2
theorem end_over {cm : Nat → Int32} {cs : Nat → Nat → Nat → Int32} {g gI S : Nat → Int32} {ov : Int32} {k n rp' rf' oc' : Nat} {SB RP RF OC : Nat → Nat} (hR : RRn cm cs g ov k n SB RP RF OC) (hm : MIDR (INN (cs n) S) gI n (SB n) rp' rf' oc' (k + 1) (cm 2) ov) (hrp : RP n ≤ rp' ∧ rp' ≤ RP n + 1) (hfr : ∀ p, OUTR n (SB n + RP n) p → p ≠ 23 → gI p = g p) (h23 : gI 23 = nI (k + 1)) (hd : ¬ DUE cm cs S = 0) (ho9 : OVR cm cs S) : RR (pfM cm cs S) (pfS cm cs S) (upd (upd gI (25 + 11 * n + 7) (DUE cm cs S)) 5 1) ov (k + 1) := by
  obtain ⟨hb, hs, hp, hz, h22, h5, h11, hl⟩ := hR
  have hb0 := hb
  obtain ⟨b1, b2, b3, b4, b5, b6, b7, b8, b9, b10⟩ := hb0
  have e4 : (cm 4).toNatClampNeg = n := by rw [b2]; exact nI_c (by omega)
  obtain ⟨pM, pn, po⟩ := pf_over hd ho9
  rw [e4] at pn po
  rw [pM]
  have hR1 : ∀ j, j ≤ n → 1 ≤ RP j := fun j hj => (hp j hj).2.1
  have ho : ∀ p, p < 5 → upd (upd gI (25 + 11 * n + 7) (DUE cm cs S)) 5 1 p = g p := fun p hp2 => by
    rw [upd_off (by omega), upd_off (by omega)]
    exact hfr p (by unfold OUTR; have := hR1 n (Nat.le_refl _); omega) (by omega)
  refine ⟨n, SB, fu RP n rp', fu RF n rf', fu OC n oc', BASE_fr hb (fun p h => ho p (by omega)) (ho 4 (by omega)) (by rw [upd_off (by omega), upd_off (by omega)]; exact h23) (upd_off (by omega)) (upd_off (by omega)) (upd_off (by omega)) (upd_off (by omega)), SUMS_fu hs hrp, fun j hj => ?_, fun j h1 h2 => ?_, ?_, upd_at.trans upd_at.symm, Or.inr upd_at, fun q => ?_⟩
  · by_cases e : j = n
    · subst e
      rw [fu_at, fu_at, fu_at, pn, upd_off (by omega)]
      refine PAST1_fr (PAST1_fin b1 (MIDR_past hm)) (Nat.le_refl _) (fun p hp2 => ?_)
      exact upd_off (by unfold inJ at hp2; omega)
    · rw [fu_off e, fu_off e, fu_off e, po j e, upd_off (by omega)]
      refine PAST1_fr (hp j hj) (by omega) (fun p hp2 => ?_)
      have hj2 : j < n := by omega
      have := inJ_out (s := SB n + RP n) b1 hs hj2 (by have := hR1 n (Nat.le_refl _); omega) hp2
      rw [upd_off this.2.1, upd_off (by have := this.1; unfold OUTR at this; omega)]
      exact hfr p this.1 this.2.2.1
  · refine ZER_fr (s := SB n + RP n) h1 h2 (hz j h1 h2) (fun p q1 q2 q3 _ => ?_)
    rw [upd_off q2, upd_off (by unfold OUTR at q1; omega)]
    exact hfr p q1 q3
  · rw [fu_at, upd_off (by omega), upd_off (by omega)]; exact hm.2.1.2.2.2.2.2.2.2.2
  · rw [upd_at] at q; exact absurd q (by decide)
theorem end_next {cm : Nat → Int32} {cs : Nat → Nat → Nat → Int32} {g gI S : Nat → Int32} {ov : Int32} {k n rp' rf' oc' : Nat} {SB RP RF OC : Nat → Nat} (hk : k ≤ 511) (hR : RRn cm cs g ov k n SB RP RF OC) (hc1 : cm 1 = 0) (hm : MIDR (INN (cs n) S) gI n (SB n) rp' rf' oc' (k + 1) (cm 2) ov) (hrp : RP n ≤ rp' ∧ rp' ≤ RP n + 1) (hfr : ∀ p, OUTR n (SB n + RP n) p → p ≠ 23 → gI p = g p) (h23 : gI 23 = nI (k + 1)) (hd : ¬ DUE cm cs S = 0) (hn9 : NXT cm cs S) : RR (pfM cm cs S) (pfS cm cs S) (X9_opens_g37 (upd gI (25 + 11 * n + 7) (DUE cm cs S)) (n + 1) (SB n + rp')) ov (k + 1) := by
  obtain ⟨hb, hs, hp, hz, h22, h5, h11, hl⟩ := hR
  have hb0 := hb
  obtain ⟨b1, b2, b3, b4, b5, b6, b7, b8, b9, b10⟩ := hb0
  have hn3 : n + 1 < 4 := by
    rcases hn9 with ⟨q1, q2⟩ | ⟨q1, q2⟩ | ⟨q1, q2⟩ | ⟨q1, q2, q3⟩
    · have := (nI_eq (a := n) (b := 0) (by omega) (by omega)).mp (b2.symm.trans q2); omega
    · have := (nI_eq (a := n) (b := 0) (by omega) (by omega)).mp (b2.symm.trans q2); omega
    · have := (nI_eq (a := n) (b := 1) (by omega) (by omega)).mp (b2.symm.trans q2); omega
    · have := (nI_eq (a := n) (b := 2) (by omega) (by omega)).mp (b2.symm.trans q2); omega
  have e4 : (cm 4).toNatClampNeg = n := by rw [b2]; exact nI_c (by omega)
  obtain ⟨pM, pn, pn1, po⟩ := pf_next hd hn9
  rw [e4] at pM pn pn1 po
  rw [pM]
  have hR1 : ∀ j, j ≤ n → 1 ≤ RP j := fun j hj => (hp j hj).2.1
  have hRn := hR1 n (Nat.le_refl _)
  obtain ⟨hms, hmn, hr1, hrf, hoc, hbw9, ⟨bl, t, L, hbl, ht, hL, hocL, hcf⟩, hbat⟩ := id hm
  have h60 : INN (cs n) S 6 0 = nI L := hcf.2.2.2.2.2.2.1
  -- the reference below the opening
  have g5 : ∀ p, OUTR n (SB n + RP n) p → p ≠ 23 → upd gI (25 + 11 * n + 7) (DUE cm cs S) p = g p := fun p q1 q3 => by
    rw [upd_off (by unfold OUTR at q1; omega)]; exact hfr p q1 q3
  have gq : ∀ p, p ≠ 4 → OUTR (n + 1) (SB n + rp' + 1) p → X9_opens_g37 (upd gI (25 + 11 * n + 7) (DUE cm cs S)) (n + 1) (SB n + rp') p = upd gI (25 + 11 * n + 7) (DUE cm cs S) p := fun p q1 q2 => fr_opens hn3 q1 q2
  have glo : ∀ p, p < 6 → p ≠ 4 → X9_opens_g37 (upd gI (25 + 11 * n + 7) (DUE cm cs S)) (n + 1) (SB n + rp') p = g p := fun p q1 q2 => by
    rw [gq p q2 (by unfold OUTR; omega)]
    exact g5 p (by unfold OUTR; omega) (by omega)
  have hz1 : ZER (upd gI (25 + 11 * n + 7) (DUE cm cs S)) (n + 1) := ZER_fr (s := SB n + RP n) (by omega) hn3 (hz (n + 1) (by omega) hn3) (fun p q1 _ q3 _ => g5 p q1 q3)
  have g51 : upd gI (25 + 11 * n + 7) (DUE cm cs S) 1 = cm 2 := (g5 1 (by unfold OUTR; omega) (by omega)).trans b6
  have g53 : upd gI (25 + 11 * n + 7) (DUE cm cs S) 3 = ov := (g5 3 (by unfold OUTR; omega) (by omega)).trans b8
  have g513 : upd gI (25 + 11 * n + 7) (DUE cm cs S) 13 = nI L := by rw [upd_off (by omega), ← hmn.1]; exact h60
  have he12 : cm 2 = 1 ∨ cm 2 = 2 := by rcases b3 with q | q; exact Or.inl q.1; exact Or.inr q.1
  have hov : cm 2 = 2 → nI L = ov := fun q => by rw [← h60]; exact hcf.2.2.2.2.2.2.2.2.2.1 q
  have hlm : nI L = X9_opens_g10 (upd gI (25 + 11 * n + 7) (DUE cm cs S)) (n + 1) 13 := by
    have a1 : X9_opens_g7 (upd gI (25 + 11 * n + 7) (DUE cm cs S)) (n + 1) 1 = cm 2 := (op_7 (by omega)).trans g51
    have a3 : X9_opens_g7 (upd gI (25 + 11 * n + 7) (DUE cm cs S)) (n + 1) 3 = ov := (op_7 (by omega)).trans g53
    have a13 : X9_opens_g7 (upd gI (25 + 11 * n + 7) (DUE cm cs S)) (n + 1) 13 = nI L := (op_7 (by omega)).trans g513
    have n0 : ¬ nI (n + 1) = 0 := fun q => by
      have := (nI_eq (a := n + 1) (b := 0) (by omega) (by omega)).mp q
      omega
    unfold X9_opens_g10 X9_opens_g9
    rw [if_neg n0, a1]
    rcases he12 with q | q
    · rw [if_neg (show ¬ cm 2 = 2 by rw [q]; decide)]; exact a13.symm
    · rw [if_pos q, X9_opens_g8, upd_at, a3]; exact hov q
  have hres : X0_start_x11 (cs (n + 1) 0) (nI L) (X2_hasResources_x0 (cm 2)) = X9_opens_x12 (upd gI (25 + 11 * n + 7) (DUE cm cs S)) (n + 1) := by
    have a1 : X9_opens_g11 (upd gI (25 + 11 * n + 7) (DUE cm cs S)) (n + 1) 1 = cm 2 := by rw [X9_opens_g11, upd_off (by omega), op_10 (by omega), op_7 (by omega)]; exact g51
    have a13 : X9_opens_g11 (upd gI (25 + 11 * n + 7) (DUE cm cs S)) (n + 1) 13 = nI L := by rw [X9_opens_g11, upd_off (by omega)]; exact hlm.symm
    unfold X9_opens_x12 X0_start_x11 X2_hasResources_x0
    rw [a1, a13]
    rcases he12 with q | q
    · have z1 : tget 8 1 8 (zf (cs (n + 1) 0) 0 (1 * 8)) 0 1 = 0 := (tg8 (c := 1) 1 rfl (by omega)).trans (by unfold zf; rw [if_pos (by omega)])
      have z2 : tget 8 1 8 (zf (cs (n + 1) 0) 0 (1 * 8)) 0 2 = 0 := (tg8 (c := 2) 2 rfl (by omega)).trans (by unfold zf; rw [if_pos (by omega)])
      rw [if_pos q, if_pos q, if_neg (by decide)]
      unfold X0_value_r0 X9_worth_r0
      rw [z1, z2, i32_s0, i32_s0]
    · rw [if_neg (show ¬ cm 2 = 1 by rw [q]; decide), if_neg (show ¬ cm 2 = 1 by rw [q]; decide), if_pos rfl]
  rw [h60] at pn1
  obtain ⟨mS, mR⟩ := MIDR_sta (c := cs (n + 1)) (sb := SB n + rp') (k := k + 1) (e := cm 2) (ov := ov) hn3 hz1 hL hlm hres (fun q => by unfold X2_hasResources_x0; rw [if_pos q]) hov
  rw [← pn1] at mS mR
  have pastn : PAST1 (pfS cm cs S n) (X9_opens_g37 (upd gI (25 + 11 * n + 7) (DUE cm cs S)) (n + 1) (SB n + rp')) n (SB n) rp' rf' oc' (k + 1) (cm 2) := by
    rw [pn]
    refine PAST1_fr (PAST1_fin b1 (MIDR_past hm)) (Nat.le_refl _) (fun p hp2 => ?_)
    exact gq p (by unfold inJ at hp2; omega) (by unfold inJ at hp2; unfold OUTR; omega)
  refine ⟨n + 1, fu SB (n + 1) (SB n + rp'), fu (fu RP n rp') (n + 1) 1, fu (fu RF n rf') (n + 1) 0, fu (fu OC n oc') (n + 1) 0, ⟨hn3, upd_at, ?_, (upd_off (by omega)).trans b4, (glo 0 (by omega) (by omega)).trans b5, (glo 1 (by omega) (by omega)).trans (b6.trans (upd_off (by omega)).symm), (glo 2 (by omega) (by omega)).trans (b7.trans (upd_off (by omega)).symm), (glo 3 (by omega) (by omega)).trans b8, ?_, ?_⟩, SUMS_nx hs hrp, fun j hj => ?_, fun j h1 h2 => ?_, ?_, ?_, ?_, fun _ => ?_⟩
  · unfold VAR
    rw [upd_off (by omega), upd_at]
    rcases hn9 with ⟨q1, q2⟩ | ⟨q1, q2⟩ | ⟨q1, q2⟩ | ⟨q1, q2, q3⟩
    · have := (nI_eq (a := n) (b := 0) (by omega) (by omega)).mp (b2.symm.trans q2); subst this
      exact Or.inl ⟨q1, Or.inr rfl⟩
    · have := (nI_eq (a := n) (b := 0) (by omega) (by omega)).mp (b2.symm.trans q2); subst this
      exact Or.inr ⟨q1, Or.inr (Or.inl rfl)⟩
    · have := (nI_eq (a := n) (b := 1) (by omega) (by omega)).mp (b2.symm.trans q2); subst this
      exact Or.inr ⟨q1, Or.inr (Or.inr (Or.inl rfl))⟩
    · have := (nI_eq (a := n) (b := 2) (by omega) (by omega)).mp (b2.symm.trans q2); subst this
      exact Or.inr ⟨q1, Or.inr (Or.inr (Or.inr rfl))⟩
  · rw [op_S hn3 (by omega) (by omega), op_13 (by omega) (by omega), op_10 (by omega), X9_opens_g7, upd_off (by omega), X9_opens_g6, upd_off (by omega), X9_opens_g5, upd_off (by omega), X9_opens_g4, upd_off (by omega), X9_opens_g3, upd_off (by omega), X9_opens_g2, upd_off (by omega), X9_opens_g1, upd_off (by omega), X9_opens_g0, upd_at]
  · rw [gq 23 (by omega) (by unfold OUTR; omega), upd_off (by omega)]; exact h23
  · rw [upd_off (show 2 ≠ 4 by omega)]
    by_cases e1 : j = n + 1
    · subst e1
      rw [fu_at, fu_at, fu_at, fu_at]
      exact MIDR_past mS
    · by_cases e : j = n
      · subst e
        rw [fu_off (show j ≠ j + 1 by omega), fu_off (show j ≠ j + 1 by omega), fu_off (show j ≠ j + 1 by omega), fu_off (show j ≠ j + 1 by omega), fu_at, fu_at, fu_at]
        exact pastn
      · rw [fu_off e1, fu_off e1, fu_off e1, fu_off e1, fu_off e, fu_off e, fu_off e, po j e e1]
        have hj2 : j < n := by omega
        refine PAST1_fr (hp j (by omega)) (by omega) (fun p hp2 => ?_)
        have o1 := inJ_out (s := SB n + RP n) b1 hs hj2 (by omega) hp2
        have o2 := SUMS_lt hs hj2
        rw [gq p o1.2.2.2 (by unfold inJ at hp2; unfold OUTR; omega)]
        exact g5 p o1.1 o1.2.2.1
  · refine ZER_fr (n := n + 1) (s := SB n + rp' + 1) h1 h2 (ZER_fr (s := SB n + RP n) (by omega) h2 (hz j (by omega) h2) (fun p q1 _ q3 _ => g5 p q1 q3)) (fun p q1 _ _ q4 => gq p q4 q1)
  · rw [fu_at, fu_at]; exact mS.2.1.2.2.2.2.2.2.2.2
  · rw [glo 5 (by omega) (by omega), upd_off (by omega)]; exact h5
  · rw [upd_off (by omega)]; exact h11
  · rw [fu_at, fu_at, fu_at, fu_at, upd_off (show 2 ≠ 4 by omega)]
    refine ⟨mS, by rw [pn1]; rfl, ?_, ?_⟩
    · rw [pn1]
      show ¬ nI L = 0
      intro q
      have := (nI_eq (a := L) (b := 0) (by omega) (by omega)).mp q
      omega
    · have r0 : pfS cm cs S (n + 1) 0 0 = 0 := by
        rw [pn1]
        show zf (cs (n + 1) 0) 0 (1 * 8) 0 = 0
        unfold zf
        rw [if_pos (by omega)]
      refine ⟨fun q1 q2 => ?_, fun q1 q2 => ?_⟩
      · rw [upd_off (show 2 ≠ 4 by omega)] at q1
        rw [upd_at] at q2
        have e : n = 0 := by
          have := (nI_eq (a := n + 1) (b := 1) (by omega) (by omega)).mp q2
          omega
        subst e
        obtain ⟨p1, p2, p3, p4, p5, ⟨t9, t91, t92⟩, p7⟩ := pastn
        obtain ⟨r9, r91, r92, r93⟩ := p7.1 q1
        rw [r0, mR q1, r93]
        exact tgt1_pos t92 (by omega) r91 r92 (by have := fR_120 (l := 6 * L) (by omega); omega)
      · rw [upd_off (show 2 ≠ 4 by omega)] at q1
        rw [upd_at] at q2
        have e : n = 2 := by
          have := (nI_eq (a := n + 1) (b := 3) (by omega) (by omega)).mp q2
          omega
        subst e
        rcases hn9 with ⟨z1, z2⟩ | ⟨z1, z2⟩ | ⟨z1, z2⟩ | ⟨z1, z2, z3⟩
        · exact absurd (b2.symm.trans z2) (by decide)
        · exact absurd (b2.symm.trans z2) (by decide)
        · exact absurd (b2.symm.trans z2) (by decide)
        · rw [r0, po 0 (by omega) (by omega), po 1 (by omega) (by omega), pn]
          have eD : DUE cm cs S = DUE0 (INN (cs 2) S) (S 0) := by
            unfold DUE
            rw [if_neg (show ¬ cm 2 = 1 by rw [z1]; decide), if_neg (show ¬ cm 4 = 0 by rw [z2]; decide), if_neg (show ¬ cm 4 = 1 by rw [z2]; decide), if_pos z2]
          rw [eD]
          exact z3
