theorem SETN_off {c : Nat → Nat → Int32} {p t : Nat} {v : Int32} (h : t ≠ 6) : SETN c p v t = c t := by
  match t, h with
  | 0, _ => rfl
  | 1, _ => rfl
  | 2, _ => rfl
  | 3, _ => rfl
  | 4, _ => rfl
  | 5, _ => rfl
  | 6, h => exact absurd rfl h
  | t + 7, _ => rfl
theorem MIDR_23 {c : Nat → Nat → Int32} {g : Nat → Int32} {i sb rp rf oc k : Nat} {e ov v : Int32} (hi : i < 4) (hm : MIDR c g i sb rp rf oc k e ov) : MIDR c (upd g 23 v) i sb rp rf oc k e ov := by
  obtain ⟨hs, hn, hr1, hrf, hoc, rest⟩ := hm
  refine ⟨SIM_win hi hoc hrf hs (fun p h1 h2 h3 => upd_off h3) rfl rfl rfl rfl rfl rfl rfl rfl rfl rfl rfl rfl, ?_, hr1, hrf, hoc, rest⟩
  obtain ⟨n0, n3, n4, n5, n6, n9, n10, n11, n22⟩ := hn
  exact ⟨n0.trans (upd_off (by omega)).symm, n3.trans (upd_off (by omega)).symm, n4.trans (upd_off (by omega)).symm, n5.trans (upd_off (by omega)).symm, n6.trans (upd_off (by omega)).symm, n9.trans (upd_off (by omega)).symm, n10.trans (upd_off (by omega)).symm, n11.trans (upd_off (by omega)).symm, (upd_off (by omega)).trans n22⟩
theorem in_bowl {c : Nat → Nat → Int32} {g S : Nat → Int32} {i sb rp rf oc k p : Nat} {e ov : Int32} (hi : i < 4) (hr2 : rp ≤ 513) (hm : MIDR c g i sb rp rf oc k e ov) (h12 : c 6 12 = 0) (h0 : S 0 = 1) (hp : p < 11) (h1 : S 1 = nI p) :
    MIDR (INN c S) (upd g 9 (nI p)) i sb rp rf oc (k + 1) e ov ∧ INN c S = SETN c 3 (nI p) := by
  obtain ⟨hs, hn, hr1, hrf, hoc, hbw9, ⟨bl, t, L, hbl, ht, hL, hocL, hcf⟩, hbat⟩ := hm
  have hbat2 : BAT (c 1) (c 6 9) (c 6 10) (c 6 11) rf ∧ c 3 ((rp - 1) * 8 + 2) = mn (c 6 9) (c 6 10) := by
    rcases hbat with q | q
    · exact q.2
    · rw [h12] at q; exact absurd q (by decide)
  have hs0 := hs
  obtain ⟨t0, t1, t2, t3, t4, t5, r3, r4, o2, o8, o9, o7, o6, o1⟩ := hs0
  obtain ⟨n0, n3, n4, n5, n6, n9, n10, n11, n22⟩ := hn
  have eI : INN c S = SETN c 3 (nI p) := by rw [inn_1 h0 (ROWS_clamp r3 (by omega)) (ROWS_clamp r4 (by omega)), h1]
  have k6 : ∀ q, q ≠ 3 → SETN c 3 (nI p) 6 q = c 6 q := fun q hq => upd_off hq
  refine ⟨?_, eI⟩
  rw [eI]
  refine ⟨SIM_win hi hoc hrf hs (fun p h1 h2 h3 => upd_off (by omega)) rfl rfl rfl rfl rfl rfl rfl rfl (k6 2 (by omega)) (k6 7 (by omega)) (k6 8 (by omega)) (k6 1 (by omega)), ⟨(k6 0 (by omega)).trans (n0.trans (upd_off (by omega)).symm), upd_at.trans upd_at.symm, (k6 4 (by omega)).trans (n4.trans (upd_off (by omega)).symm), (k6 5 (by omega)).trans (n5.trans (upd_off (by omega)).symm), (k6 6 (by omega)).trans (n6.trans (upd_off (by omega)).symm), (k6 9 (by omega)).trans (n9.trans (upd_off (by omega)).symm), (k6 10 (by omega)).trans (n10.trans (upd_off (by omega)).symm), (k6 11 (by omega)).trans (n11.trans (upd_off (by omega)).symm), (upd_off (by omega)).trans n22⟩, hr1, hrf, hoc, Or.inr ⟨p, hp, upd_at⟩, ⟨bl, t, L, hbl, by omega, hL, hocL, CF_same hL.2 hcf rfl ⟨rfl, rfl, rfl⟩ (k6 5 (by omega)) (k6 0 (by omega)) (k6 7 (by omega)) (k6 8 (by omega))⟩, Or.inl ⟨(k6 12 (by omega)).trans h12, ?_, ?_⟩⟩
  · rw [k6 9 (by omega), k6 10 (by omega), k6 11 (by omega)]; exact hbat2.1
  · rw [k6 9 (by omega), k6 10 (by omega)]; exact hbat2.2
theorem in_choose {c : Nat → Nat → Int32} {g S : Nat → Int32} {i sb rp rf oc k p : Nat} {e ov : Int32} (hi : i < 4) (hr2 : rp ≤ 513) (hm : MIDR c g i sb rp rf oc k e ov) (h12 : c 6 12 = 0) (h0 : S 0 = 5) (hp : p < 11) (h1 : S 1 = nI p) (hcan : CAN (c 1) (nI p)) :
    MIDR (INN c S) (upd g 8 (nI p)) i sb rp rf oc (k + 1) e ov ∧ INN c S = SETN c 11 (nI p) := by
  obtain ⟨hs, hn, hr1, hrf, hoc, hbw9, ⟨bl, t, L, hbl, ht, hL, hocL, hcf⟩, hbat⟩ := hm
  have hbat2 : BAT (c 1) (c 6 9) (c 6 10) (c 6 11) rf ∧ c 3 ((rp - 1) * 8 + 2) = mn (c 6 9) (c 6 10) := by
    rcases hbat with q | q
    · exact q.2
    · rw [h12] at q; exact absurd q (by decide)
  have hs0 := hs
  obtain ⟨t0, t1, t2, t3, t4, t5, r3, r4, o2, o8, o9, o7, o6, o1⟩ := hs0
  obtain ⟨n0, n3, n4, n5, n6, n9, n10, n11, n22⟩ := hn
  have eI : INN c S = SETN c 11 (nI p) := by rw [inn_5 h0 (ROWS_clamp r3 (by omega)) (ROWS_clamp r4 (by omega)), h1]
  have k6 : ∀ q, q ≠ 11 → SETN c 11 (nI p) 6 q = c 6 q := fun q hq => upd_off hq
  have hB2 : BAT (INN c S 1) (INN c S 6 9) (INN c S 6 10) (INN c S 6 11) (X2_perform01_n18 rf (S 0)) := BAT_step hbat2.1 (fun q => absurd (h0.symm.trans q) (by decide)) (fun _ => by rw [h1]; exact hcan) (show INN c S 6 12 = 0 by rw [eI]; exact (k6 12 (by omega)).trans h12)
  have e18 : X2_perform01_n18 rf (S 0) = rf := by unfold X2_perform01_n18; rw [h0]; rfl
  rw [e18] at hB2
  refine ⟨?_, eI⟩
  rw [eI] at hB2 ⊢
  refine ⟨SIM_win hi hoc hrf hs (fun p h1 h2 h3 => upd_off (by omega)) rfl rfl rfl rfl rfl rfl rfl rfl (k6 2 (by omega)) (k6 7 (by omega)) (k6 8 (by omega)) (k6 1 (by omega)), ⟨(k6 0 (by omega)).trans (n0.trans (upd_off (by omega)).symm), (k6 3 (by omega)).trans (n3.trans (upd_off (by omega)).symm), (k6 4 (by omega)).trans (n4.trans (upd_off (by omega)).symm), (k6 5 (by omega)).trans (n5.trans (upd_off (by omega)).symm), (k6 6 (by omega)).trans (n6.trans (upd_off (by omega)).symm), (k6 9 (by omega)).trans (n9.trans (upd_off (by omega)).symm), (k6 10 (by omega)).trans (n10.trans (upd_off (by omega)).symm), upd_at.trans upd_at.symm, (upd_off (by omega)).trans n22⟩, hr1, hrf, hoc, ?_, ⟨bl, t, L, hbl, by omega, hL, hocL, CF_same hL.2 hcf rfl ⟨rfl, rfl, rfl⟩ (k6 5 (by omega)) (k6 0 (by omega)) (k6 7 (by omega)) (k6 8 (by omega))⟩, Or.inl ⟨(k6 12 (by omega)).trans h12, hB2, ?_⟩⟩
  · rw [k6 3 (by omega)]; exact hbw9
  · rw [k6 9 (by omega), k6 10 (by omega)]; exact hbat2.2
theorem in_decl {c : Nat → Nat → Int32} {g S : Nat → Int32} {i sb rp rf oc k : Nat} {e ov : Int32} (hr2 : rp ≤ 513) (hm : MIDR c g i sb rp rf oc k e ov) (h0 : S 0 = 6) :
    MIDR (INN c S) g i sb rp rf oc (k + 1) e ov ∧ INN c S = c := by
  have hm0 := hm
  obtain ⟨hs, hn, hr1, hrf, hoc, hbw9, ⟨bl, t, L, hbl, ht, hL, hocL, hcf⟩, hbat⟩ := hm
  obtain ⟨t0, t1, t2, t3, t4, t5, r3, r4, o2, o8, o9, o7, o6, o1⟩ := id hs
  have eI : INN c S = c := inn_6 h0 (ROWS_clamp r3 (by omega)) (ROWS_clamp r4 (by omega))
  refine ⟨?_, eI⟩
  rw [eI]
  exact ⟨hs, hn, hr1, hrf, hoc, hbw9, ⟨bl, t, L, hbl, by omega, hL, hocL, hcf⟩, hbat⟩
/-! overs lost -/
theorem val_nI {rf l : Nat} (hrf : rf ≤ 10) (hl : l ≤ 120) : (10 - nI rf) * ((240 * nI l) - (nI l * nI l)) = nI ((10 - rf) * fR l) := by
  have h1 : (10 : Int32) - nI rf = nI (10 - rf) := nI_sb (a := 10) hrf
  have h2 : (240 : Int32) * nI l = nI (240 * l) := pk_mul 240 l
  have h3 : l * l ≤ 240 * l := Nat.mul_le_mul_right l (by omega)
  rw [h1, h2, pk_mul, nI_sb h3, pk_mul]
  rfl
theorem sub_neg : ∀ o, o < 20 → ∀ L, L < o → nI L - nI o < 0 := by decide +kernel
theorem in_lose {c : Nat → Nat → Int32} {g S : Nat → Int32} {i sb rp rf oc k o : Nat} {e ov : Int32} (hi : i < 4) (hr2 : rp ≤ 513) (hm : MIDR c g i sb rp rf oc k e ov) (h12 : c 6 12 = 0) (h0 : S 0 = 7) (ho : 1 ≤ o) (ho2 : o < 20) (h1 : S 1 = nI o) (he : e = 1) (hcan : ¬ X0_canLose_x0 (c 6 0) (c 6 2) (c 6 7) (nI o) = 0) :
    MIDR (INN c S) (X9_loses_g2 g (nI o) i) i sb rp rf oc (k + 1) e ov ∧ INN c S 6 12 = 0 ∧ ¬ INN c S 6 0 = INN c S 6 2 ∧ INN c S 0 = c 0 ∧ INN c S 6 0 = X9_loses_g2 g (nI o) i 13 := by
  obtain ⟨hs, hn, hr1, hrf, hoc, hbw9, ⟨bl, t, L, hbl, ht, hL, hocL, hcf⟩, hbat⟩ := hm
  have hbat2 : BAT (c 1) (c 6 9) (c 6 10) (c 6 11) rf ∧ c 3 ((rp - 1) * 8 + 2) = mn (c 6 9) (c 6 10) := by
    rcases hbat with q | q
    · exact q.2
    · rw [h12] at q; exact absurd q (by decide)
  have hs0 := hs
  obtain ⟨t0, t1, t2, t3, t4, t5, r3, r4, o2, o8, o9, o7, o6, o1⟩ := hs0
  obtain ⟨n0, n3, n4, n5, n6, n9, n10, n11, n22⟩ := hn
  obtain ⟨h7, h00, h07, h01, h02, h65, h60, h67, h67b, he2, he1⟩ := hcf
  obtain ⟨r, hr8, hrl, hr10, hr1'⟩ := he1 he
  -- the limit stays above the overs begun
  have hcl : ¬ (nI L - nI o) ≤ X3_begun_x0 (nI oc) (c 6 7) := by
    intro q
    apply hcan
    unfold X0_canLose_x0
    rw [h60, o2, if_pos q]
  have hbeg : ∃ b, X3_begun_x0 (nI oc) (c 6 7) = nI b ∧ (b = oc ∧ bl = 0 ∨ b = oc + 1) := by
    unfold X3_begun_x0
    by_cases q : c 6 7 = 0
    · rw [if_pos q]; exact ⟨oc, rfl, Or.inl ⟨rfl, h67b q⟩⟩
    · rw [if_neg q]; exact ⟨oc + 1, nI_add oc 1, Or.inr rfl⟩
  obtain ⟨b, hb1, hb2⟩ := hbeg
  have hoL : o ≤ L := by
    rcases Nat.lt_or_ge L o with q | q
    · exact absurd (Int32.le_of_lt (Int32.lt_of_lt_of_le (sub_neg o ho2 L q) (by rw [hb1]; exact nI_nn b (by omega)))) hcl
    · exact q
  rw [nI_sb hoL, hb1] at hcl
  have hbL : b < L - o := by
    rcases Nat.lt_or_ge b (L - o) with q | q
    · exact q
    · exact absurd ((nI_leI (by omega) (by omega)).mpr q) hcl
  have hq : 6 * oc + bl ≤ 6 * (L - o) := by omega
  have hl1 : 1 ≤ 6 * (L - o) - (6 * oc + bl) := by omega
  have w0 : tget 8 1 8 (c 0) 0 1 = nI rf := (tg8 (c := 1) 1 rfl (by omega)).trans h01
  have w2 : tget 8 1 8 (c 0) 0 2 = nI (6 * oc + bl) := (tg8 (c := 2) 2 rfl (by omega)).trans h02
  have m6 : ∀ x, (6 : Int32) * nI x = nI (6 * x) := fun x => pk_mul 6 x
  have v1 : X0_value_r0 (c 0) (c 6 0) = nI ((10 - rf) * fR (6 * L - (6 * oc + bl))) := by
    unfold X0_value_r0
    rw [w0, w2, h60, m6, nI_sb (by omega)]
    exact val_nI hrf (by omega)
  have v2 : X0_value_r0 (c 0) (c 6 0 - nI o) = nI ((10 - rf) * fR (6 * (L - o) - (6 * oc + bl))) := by
    unfold X0_value_r0
    rw [w0, w2, h60, nI_sb hoL, m6, nI_sb hq]
    exact val_nI hrf (by omega)
  have hm1 : (10 - rf) * fR (6 * (L - o) - (6 * oc + bl)) ≤ (10 - rf) * fR (6 * L - (6 * oc + bl)) := Nat.mul_le_mul_left _ (fR_le (by omega) (by omega))
  have hm2 : (10 - rf) * fR (6 * L - (6 * oc + bl)) - (10 - rf) * fR (6 * (L - o) - (6 * oc + bl)) ≤ 10 * fR (6 * L - (6 * oc + bl)) - 10 * fR (6 * (L - o) - (6 * oc + bl)) := by
    rw [← Nat.mul_sub, ← Nat.mul_sub]
    exact Nat.mul_le_mul_right _ (by omega)
  have hm3 : 10 * fR (6 * (L - o) - (6 * oc + bl)) ≤ 10 * fR (6 * L - (6 * oc + bl)) := Nat.mul_le_mul_left _ (fR_le (by omega) (by omega))
  have hm4 := fR_pos hl1 (by omega)
  have vd : X0_value_r0 (c 0) (c 6 0) - X0_value_r0 (c 0) (c 6 0 - nI o) = nI ((10 - rf) * fR (6 * L - (6 * oc + bl)) - (10 - rf) * fR (6 * (L - o) - (6 * oc + bl))) := by rw [v1, v2, nI_sb hm1]
  have v8 : c 6 8 - (X0_value_r0 (c 0) (c 6 0) - X0_value_r0 (c 0) (c 6 0 - nI o)) = nI (r - ((10 - rf) * fR (6 * L - (6 * oc + bl)) - (10 - rf) * fR (6 * (L - o) - (6 * oc + bl)))) := by
    rw [vd, hr8, nI_sb (by omega)]
  have eI : INN c S = SETN (SETN c 0 (c 6 0 - nI o)) 8 (c 6 8 - (X0_value_r0 (c 0) (c 6 0) - X0_value_r0 (c 0) (c 6 0 - nI o))) := by rw [inn_7 h0 (ROWS_clamp r3 (by omega)) (ROWS_clamp r4 (by omega)), h1]
  have k0 : INN c S 6 0 = nI (L - o) := by
    rw [eI]
    exact (upd_off (by omega)).trans (upd_at.trans (by rw [h60, nI_sb hoL]))
  have k8 : INN c S 6 8 = nI (r - ((10 - rf) * fR (6 * L - (6 * oc + bl)) - (10 - rf) * fR (6 * (L - o) - (6 * oc + bl)))) := by
    rw [eI]
    exact upd_at.trans v8
  have k6 : ∀ q, q ≠ 0 → q ≠ 8 → INN c S 6 q = c 6 q := fun q h1 h2 => by
    rw [eI]
    exact (upd_off h2).trans (upd_off h1)
  have kt : ∀ t, t ≠ 6 → INN c S t = c t := fun t ht => by rw [eI, SETN_off ht, SETN_off ht]
  -- the reference
  have g13 : g 13 = nI L := n0.symm.trans h60
  have gl : g (25 + 11 * i + 2) = nI (6 * oc + bl) := by rw [← h02, t0 2 (by omega), Wn_at (by omega)]
  have gw : g (25 + 11 * i + 1) = nI rf := by rw [← h01, t0 1 (by omega), Wn_at (by omega)]
  have j13 : X9_loses_g2 g (nI o) i 13 = nI (L - o) := by
    rw [X9_loses_g2, upd_off (by omega), X9_loses_g0, upd_at, g13, nI_sb hoL]
  have j14 : X9_loses_g2 g (nI o) i (14 + i) = nI (r - ((10 - rf) * fR (6 * L - (6 * oc + bl)) - (10 - rf) * fR (6 * (L - o) - (6 * oc + bl)))) := by
    rw [X9_loses_g2, upd_at]
    unfold X9_loses_x1 X9_worth_r0
    rw [X9_loses_g0, upd_off (by omega), upd_off (by omega), gl, gw, g13, m6, m6, nI_sb (show 6 * oc + bl ≤ 6 * L by omega), nI_sb (show 6 * o ≤ 6 * L - (6 * oc + bl) by omega), val_nI hrf (by omega), val_nI hrf (by omega), show 6 * L - (6 * oc + bl) - 6 * o = 6 * (L - o) - (6 * oc + bl) by omega, nI_sb hm1, ← o6, hr8, nI_sb (by omega)]
  have jq : ∀ p, p ≠ 13 → p ≠ 14 + i → X9_loses_g2 g (nI o) i p = g p := fun p h1 h2 => by
    rw [X9_loses_g2, upd_off h2, X9_loses_g0, upd_off h1]
  have eW : ∀ (b0 m : Nat), 25 ≤ b0 → Wn b0 m (X9_loses_g2 g (nI o) i) = Wn b0 m g := fun b0 m hb0 => by
    funext k
    unfold Wn
    split
    · exact jq _ (by omega) (by omega)
    · rfl
  refine ⟨⟨⟨?_, ?_, ?_, ?_, ?_, ?_, ?_, ?_, ?_, (jq _ (by omega) (by omega)).trans o8, (jq _ (by omega) (by omega)).trans o9, ?_, k8.trans j14.symm, ?_⟩, ⟨k0.trans j13.symm, ?_, ?_, ?_, ?_, ?_, ?_, ?_, (jq _ (by omega) (by omega)).trans n22⟩, hr1, hrf, hoc, ?_, ⟨bl, t, L - o, hbl, by omega, by omega, by omega, ⟨?_, ?_, ?_, ?_, ?_, ?_, k0, ?_, ?_, fun q => absurd (he.symm.trans q) (by decide), fun _ => ⟨_, k8, by omega, by omega, by omega⟩⟩⟩, Or.inl ⟨(k6 12 (by omega) (by omega)).trans h12, ?_, ?_⟩⟩, (k6 12 (by omega) (by omega)).trans h12, ?_, kt 0 (by omega), k0.trans j13.symm⟩
  · rw [eW _ _ (by omega), kt 0 (by omega)]; exact t0
  · rw [eW _ _ (by omega), kt 1 (by omega)]; exact t1
  · rw [eW _ _ (by omega), kt 2 (by omega)]; exact t2
  · rw [eW _ _ (by omega), kt 3 (by omega)]; exact t3
  · rw [eW _ _ (by omega), kt 4 (by omega)]; exact t4
  · rw [eW _ _ (by omega), kt 5 (by omega)]; exact t5
  · rw [kt 7 (by omega)]; exact r3
  · rw [kt 7 (by omega)]; exact r4
  · rw [k6 2 (by omega) (by omega)]; exact o2
  · rw [k6 7 (by omega) (by omega), jq _ (by omega) (by omega)]; exact o7
  · rw [k6 1 (by omega) (by omega), jq _ (by omega) (by omega)]; exact o1
  · rw [k6 3 (by omega) (by omega), jq _ (by omega) (by omega)]; exact n3
  · rw [k6 4 (by omega) (by omega), jq _ (by omega) (by omega)]; exact n4
  · rw [k6 5 (by omega) (by omega), jq _ (by omega) (by omega)]; exact n5
  · rw [k6 6 (by omega) (by omega), jq _ (by omega) (by omega)]; exact n6
  · rw [k6 9 (by omega) (by omega), jq _ (by omega) (by omega)]; exact n9
  · rw [k6 10 (by omega) (by omega), jq _ (by omega) (by omega)]; exact n10
  · rw [k6 11 (by omega) (by omega), jq _ (by omega) (by omega)]; exact n11
  · rw [k6 3 (by omega) (by omega)]; exact hbw9
  · rw [kt 7 (by omega)]; exact h7
  · rw [kt 0 (by omega)]; exact h00
  · rw [kt 0 (by omega)]; exact h07
  · rw [kt 0 (by omega)]; exact h01
  · rw [kt 0 (by omega)]; exact h02
  · rw [k6 5 (by omega) (by omega)]; exact h65
  · rw [k6 7 (by omega) (by omega)]; exact h67
  · rw [k6 7 (by omega) (by omega)]; exact h67b
  · rw [kt 1 (by omega), k6 9 (by omega) (by omega), k6 10 (by omega) (by omega), k6 11 (by omega) (by omega)]; exact hbat2.1
  · rw [kt 3 (by omega), k6 9 (by omega) (by omega), k6 10 (by omega) (by omega)]; exact hbat2.2
  · rw [k0, k6 2 (by omega) (by omega), o2]
    intro q
    have := (nI_eq (by omega) (by omega)).mp q
    omega
