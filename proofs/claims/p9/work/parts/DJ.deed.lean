theorem e_fN1 {g : Nat → Int32} {kd : Nat} {ru : Int32} {i a bo s : Nat} : X9_fallsN_g1 g kd ru i a bo s = X9_bowled_g1 g kd ru 0 i a bo s := by
  unfold X9_bowled_g1
  rw [if_pos rfl]
  rfl
theorem e_fS1 {g : Nat → Int32} {kd : Nat} {ru : Int32} {i a bo s : Nat} : X9_fallsS_g1 g kd ru i a bo s = X9_bowled_g1 g kd ru 0 i a bo s := by
  unfold X9_bowled_g1
  rw [if_pos rfl]
  rfl
theorem e_2N {g S : Nat → Int32} {kd r i a b bo s oc rf e k : Nat} (h4 : S 4 = nI r) (h5 : bitI (S 5)) (h7 : bitI (S 7)) : X9_does2N_g9 g (S 2) kd (S 5) (S 4) (S 7) i a b bo s oc rf e k = X9_looks_g11 (X9_completes_g11 (X9_leavesN_g1 (gWK (upd g 23 (nI (k + 1))) S kd r i a bo s (if S 5 = 0 then a else b) rf) (if S 5 = 0 then a else b) (S 2) i s) i bo oc) 1 0 i e s := by
  unfold X9_does2N_g9 X9_does2N_x7 X9_does2N_x8 X9_fallsN_g12 gWK
  rw [bit_is1 h5, bit_is1 h7, ← e_fN1, h4]
  rfl
theorem e_2S {g S : Nat → Int32} {kd r i a b bo s oc rf x e k : Nat} (h4 : S 4 = nI r) (h5 : bitI (S 5)) (h7 : bitI (S 7)) : X9_does2S_g9 g (S 2) kd (S 5) (S 4) (S 7) i a b bo s oc rf x e k = X9_looks_g11 (X9_completes_g11 (X9_leavesS_g7 (gWK (upd g 23 (nI (k + 1))) S kd r i a bo s (if S 5 = 0 then a else b) rf) (if S 5 = 0 then a else b) x (S 2) i s) i bo oc) 0 0 i e (s + 1) := by
  unfold X9_does2S_g9 X9_does2S_x7 X9_does2S_x8 X9_fallsS_g12 gWK
  rw [bit_is1 h5, bit_is1 h7, ← e_fS1, h4]
  rfl
theorem e_3N {g S : Nat → Int32} {i a b s e k : Nat} (h5 : bitI (S 5)) (h8 : bitI (S 8)) : X9_does3N_g9 g (S 5) (S 8) i a b s e k = X9_looks_g11 (X9_leavesN_g1 (upd g 23 (nI (k + 1))) (if S 5 = 0 then a else b) (nI (X0_retireBatter_n1 (S 8))) i s) 1 0 i e s := by
  unfold X9_does3N_g9 X9_does3N_x7 X9_does3N_x8
  rw [bit_is1 h5, bit_is1 h8]
  rfl
theorem e_3S {g S : Nat → Int32} {i a b s x e k : Nat} (h5 : bitI (S 5)) (h8 : bitI (S 8)) : X9_does3S_g9 g (S 5) (S 8) i a b s x e k = X9_looks_g11 (X9_leavesS_g7 (upd g 23 (nI (k + 1))) (if S 5 = 0 then a else b) x (nI (X0_retireBatter_n1 (S 8))) i s) 0 0 i e (s + 1) := by
  unfold X9_does3S_g9 X9_does3S_x7 X9_does3S_x8
  rw [bit_is1 h5, bit_is1 h8]
  rfl
theorem e_1 {g : Nat → Int32} {kd i a bo s oc e k : Nat} {ru b : Int32} (hb : bitI b) : X9_does1_g8 g kd ru b i a bo s oc e k = X9_looks_g11 (X9_completes_g11 (X9_bowled_g1 (upd g 23 (nI (k + 1))) kd ru b i a bo s) i bo oc) 0 0 i e s := by
  unfold X9_does1_g8 X9_does1_x7
  rw [bit_is1 hb]
  rfl
/-- what the step inside its innings leaves of the reference -/
theorem fr_23 {g : Nat → Int32} {v : Int32} {p : Nat} (h : p ≠ 23) : upd g 23 v p = g p := upd_off h
theorem fr_gWK {g S : Nat → Int32} {kd r i a bo s w rf p : Nat} (hi : i < 4) (ha : a < 11) (hbo : bo < 11) (hk : kd < 5) (hw : w < 11) (hrf : rf < 10) (h : OUTR i s p) : gWK g S kd r i a bo s w rf p = g p := by
  unfold gWK
  rw [fr_fw hi hw hbo hrf h]
  split
  · exact fr_bowled1 hi ha hbo hk h
  · rw [fr_ends h]; exact fr_bowled1 hi ha hbo hk h
theorem gWK_23 {g S : Nat → Int32} {kd r i a bo s w rf : Nat} (hi : i < 4) (ha : a < 11) (hbo : bo < 11) (hk : kd < 5) (hw : w < 11) (hrf : rf < 10) : gWK g S kd r i a bo s w rf 23 = g 23 := by
  refine fr_gWK (s := s) hi ha hbo hk hw hrf ?_
  unfold OUTR; omega
theorem out23 {i s : Nat} (hi : i < 4) : OUTR i s 23 := by unfold OUTR; omega
theorem ans_kind {kd r : Nat} (hk : kd < 5) : X5_teamRuns_x1 (nI kd) (nI r) = X9_scores_x1 kd (nI r) := by
  have h9 : kd = 0 ∨ kd = 1 ∨ kd = 2 ∨ kd = 3 ∨ kd = 4 := by omega
  rcases h9 with rfl | rfl | rfl | rfl | rfl
  · rw [kf_tr_0, kf_x1_0]
  · rw [kf_tr_1, kf_x1_1]
  · rw [kf_tr_2, kf_x1_2]
  · rw [kf_tr_3, kf_x1_3]
  · rw [kf_tr_4, kf_x1_4]
theorem STEP {cm : Nat → Int32} {cs : Nat → Nat → Nat → Int32} {S g : Nat → Int32} {ov : Int32} {k : Nat} (hk : k ≤ 511) (hR : RR cm cs g ov k) (hc1 : cm 1 = 0) (hS : OKS S) (hr : rfR cm cs S = 0) : RR (pfM cm cs S) (pfS cm cs S) (DSG S g) ov (k + 1) ∧ pfR cm cs S = DSR S g := by
  obtain ⟨n, SB, RP, RF, OC, hR0⟩ := hR
  obtain ⟨eI, eS, eE, eC, eD, eW, s1, s2, s3, he, ⟨a, b, ha, hb, g6, g7, eA, eB, c9, c10⟩, hoc, hrf, hnx, hnx2⟩ := RR_num hk hR0 hc1
  have hR1 := hR0
  obtain ⟨hb0, hs, hp, hz, h22, h5, h11, hl⟩ := hR1
  obtain ⟨b1, b2, b3, b4, b5, b6, b7, b8, b9, b10⟩ := hb0
  obtain ⟨hm, h12, hne, hlt⟩ := hl hc1
  have hm1 := MIDR_23 (v := nI (k + 1)) b1 hm
  have hbw9 := hm.2.2.2.2.2.1
  have o2 : cs n 6 2 = nI (OC n) := hm.1.2.2.2.2.2.2.2.2.1
  have e4 : (cm 4).toNatClampNeg = n := by rw [b2]; exact nI_c (by omega)
  have c0 : ¬ cm 0 = 0 := by rw [b4]; decide
  rw [rf_one b3 c0, e4] at hr
  rw [pf_R b3, e4]
  have n30 : ¬ (3 : Int32) = 0 := by decide
  have bow : ¬ cs n 6 3 = -1 → ∃ bo, bo < 11 ∧ cs n 6 3 = nI bo ∧ dO g = bo := fun q => by
    rcases hbw9 with z | ⟨bo, z1, z2⟩
    · exact absurd z q
    · refine ⟨bo, z1, z2, ?_⟩
      unfold dO; rw [← hm.2.1.2.1, z2]; exact nI_c (by omega)
  rcases hS with ⟨p, h⟩ | ⟨kd, r, h⟩ | ⟨wy, kd, r, h⟩ | h | ⟨p, h⟩ | h | ⟨o, h⟩
  · rw [(RFG_1 (g := g) h).2.1, (RFG_1 (g := g) h).2.2, eD, eI]
    obtain ⟨h0, hp2, h1⟩ := h
    obtain ⟨m1, eN⟩ := in_bowl b1 (by omega) hm1 h12 h0 hp2 h1
    refine ⟨?_, ?_⟩
    · refine plain_RR hR0 hc1 m1 ⟨Nat.le_refl _, by omega⟩ (fun p q1 q2 => (upd_off (by unfold OUTR at q1; omega)).trans (upd_off q2)) ((upd_off (by omega)).trans upd_at) (by rw [h0]; decide) ?_ ?_ ?_ ?_ ?_
      · rw [eN]; rfl
      · rw [eN]; exact upd_off (by omega)
      · rw [eN]; exact upd_off (by omega)
      · rw [eN]; exact upd_off (by omega)
      · rw [eN]; exact upd_off (by omega)
    · unfold ANS X2_perform01_x0 X9_does0_r8
      rw [if_pos h0, h1, tg7 (c := 6) p 6 rfl hp2 rfl (by omega), hm.1.2.2.1 _ (by omega), X9_does0_g7, upd_off (by omega), X9_does0_g6, upd_off (by omega)]
      exact (W2_at (g := g) hp2 (by omega)).symm
  · rw [(RFG_2 (g := g) h).2.1, (RFG_2 (g := g) h).2.2, eI, eA, eS, eC, eE, eD]
    rw [rf_2 c0 hc1 h.1] at hr
    obtain ⟨h0, hkd, hr6, h3, h4, h6⟩ := h
    obtain ⟨bo, hbo, hbw, eO⟩ := bow (fun q => by rw [if_pos q] at hr; exact n30 hr)
    rw [eO, e_1 h6]
    obtain ⟨a', oc', ha', h9', hoc', m1⟩ := in_ball b1 (by omega) hm1 h12 hne h0 hkd hr6 h3 h4 hbo hbw
    have ea : a' = a := (nI_eq (by omega) (by omega)).mp (h9'.symm.trans c9)
    rw [ea] at m1
    have e12 : INN (cs n) S 6 12 = 0 := by
      rw [inn_2 h0 (ROWS_clamp hm.1.2.2.2.2.2.2.1 (by omega)) (ROWS_clamp hm.1.2.2.2.2.2.2.2.1 (by omega))]; exact h12
    refine ⟨looks_RR hk hR0 hc1 m1 ⟨Nat.le_refl _, by omega⟩ (fun p q1 q2 => ?_) ?_ e12.symm (by rw [h0]; decide), ?_⟩
    · rw [fr_completes b1 hbo hoc q1, fr_bowled1 b1 ha hbo hkd q1]; exact upd_off q2
    · rw [fr_completes b1 hbo hoc (out23 (s := SB n + RP n) b1), fr_bowled1 b1 ha hbo hkd (out23 b1), upd_at]
    · unfold ANS X2_perform01_x0
      rw [if_neg (show ¬ S 0 = 1 by rw [h0]; decide), if_pos h0, h3, h4]
      exact ans_kind hkd
  · rw [(RFG_3 (g := g) h).2.1, (RFG_3 (g := g) h).2.2, eI, eA, eB, eS, eC, eW, eE, eD, hnx]
    rw [rf_3 c0 hc1 h.1] at hr
    obtain ⟨h0, hwy, hkd, hr3, h2, h3, h4, h5', h6, h7⟩ := h
    obtain ⟨bo, hbo, hbw, eO⟩ := bow (fun q => by rw [if_pos q] at hr; exact n30 hr)
    rw [eO]
    obtain ⟨a', b', w, ha', hb', h9', h10', hw, hoc', hrf', oc', hcase⟩ := in_wicket b1 s2 (by omega) hm1 h12 hne h0 (by omega) (by omega) hwy h2 h3 h4 h6 hbo hbw
    have ea : a' = a := (nI_eq (by omega) (by omega)).mp (h9'.symm.trans c9)
    have eb : b' = b := (nI_eq (by omega) (by omega)).mp (h10'.symm.trans c10)
    subst ea eb hw
    have hwl : (if S 5 = 0 then a' else b') < 11 := by split <;> omega
    have ansW : ANS (cs n) S = nI (RF n + 1) := by
      unfold ANS X2_perform01_x0 X0_scoreWicket_r14 X0_countWicket_g5
      rw [if_neg (show ¬ S 0 = 1 by rw [h0]; decide), if_neg (show ¬ S 0 = 2 by rw [h0]; decide), if_pos h0, tg8 (c := 1) 1 rfl (by omega), ti8_1, incr_at, h3, h4, (cnt_0 (x := cs n 0) (kd := kd) (r := r) (by omega) (by omega)).2.1]
      obtain ⟨bl, t, L, _, _, _, _, hcf⟩ := hm.2.2.2.2.2.2.1
      rw [hcf.2.2.2.1]; exact nI_add _ 1
    rcases hcase with ⟨q, m1, e12⟩ | ⟨x, hx, q, m1, e12⟩
    · rw [if_pos q, if_pos q, e_2N h4 h5' h7]
      refine ⟨looks_RR hk hR0 hc1 m1 ⟨Nat.le_refl _, by omega⟩ (fun p q1 q2 => ?_) ?_ e12.symm (by rw [h0]; decide), ansW⟩
      · rw [fr_completes b1 hbo hoc q1, fr_leavesN hwl q1, fr_gWK b1 ha' hbo (by omega) hwl hrf' q1]; exact upd_off q2
      · rw [fr_completes b1 hbo hoc (out23 (s := SB n + RP n) b1), fr_leavesN hwl (out23 b1), fr_gWK b1 ha' hbo (by omega) hwl hrf' (out23 b1), upd_at]
    · have q' : ¬ NEX (cs n) = -1 := by rw [q]; exact nI_neg (by omega)
      obtain ⟨x', hx1, hx2, hx3⟩ := hnx2.resolve_left q'
      have ex : x' = x := (nI_eq (by omega) (by omega)).mp (hx2.symm.trans q)
      rw [if_neg q', if_neg q', hx3, ex, e_2S h4 h5' h7]
      refine ⟨looks_RR (rp' := RP n + 1) hk hR0 hc1 m1 ⟨by omega, Nat.le_refl _⟩ (fun p q1 q2 => ?_) ?_ e12.symm (by rw [h0]; decide), ansW⟩
      · rw [fr_completes b1 hbo hoc q1, fr_leavesS hwl hx q1, fr_gWK b1 ha' hbo (by omega) hwl hrf' q1]; exact upd_off q2
      · rw [fr_completes b1 hbo hoc (out23 (s := SB n + RP n) b1), fr_leavesS hwl hx (out23 b1), fr_gWK b1 ha' hbo (by omega) hwl hrf' (out23 b1), upd_at]
  · rw [(RFG_4 (g := g) h).2.1, (RFG_4 (g := g) h).2.2, eI, eA, eB, eS, eE, eD, hnx]
    obtain ⟨h0, h5', h8⟩ := h
    obtain ⟨a', b', w, ha', hb', h9', h10', hw, hcase⟩ := in_retire b1 s2 (by omega) hm1 h12 h0
    have ea : a' = a := (nI_eq (by omega) (by omega)).mp (h9'.symm.trans c9)
    have eb : b' = b := (nI_eq (by omega) (by omega)).mp (h10'.symm.trans c10)
    subst ea eb hw
    have hwl : (if S 5 = 0 then a' else b') < 11 := by split <;> omega
    have ansR : ANS (cs n) S = NEX (cs n) := by
      unfold ANS X2_perform01_x0
      rw [if_neg (show ¬ S 0 = 1 by rw [h0]; decide), if_neg (show ¬ S 0 = 2 by rw [h0]; decide), if_neg (show ¬ S 0 = 3 by rw [h0]; decide), if_pos h0]
      rfl
    rw [ansR]
    rcases hcase with ⟨q, m1, e12⟩ | ⟨x, hx, q, m1, e12⟩
    · rw [if_pos q, if_pos q, e_3N h5' h8]
      refine ⟨looks_RR hk hR0 hc1 m1 ⟨Nat.le_refl _, by omega⟩ (fun p q1 q2 => ?_) ?_ e12.symm (by rw [h0]; decide), q⟩
      · rw [fr_leavesN hwl q1]; exact upd_off q2
      · rw [fr_leavesN hwl (out23 (s := SB n + RP n) b1), upd_at]
    · have q' : ¬ NEX (cs n) = -1 := by rw [q]; exact nI_neg (by omega)
      obtain ⟨x', hx1, hx2, hx3⟩ := hnx2.resolve_left q'
      have ex : x' = x := (nI_eq (by omega) (by omega)).mp (hx2.symm.trans q)
      rw [if_neg q', if_neg q', hx3, ex, e_3S h5' h8]
      refine ⟨looks_RR (rp' := RP n + 1) hk hR0 hc1 m1 ⟨by omega, Nat.le_refl _⟩ (fun p q1 q2 => ?_) ?_ e12.symm (by rw [h0]; decide), q⟩
      · rw [fr_leavesS hwl hx q1]; exact upd_off q2
      · rw [fr_leavesS hwl hx (out23 (s := SB n + RP n) b1), upd_at]
  · rw [(RFG_5 (g := g) h).2.1, (RFG_5 (g := g) h).2.2, eD, eI]
    rw [rf_5 c0 hc1 h.1] at hr
    obtain ⟨h0, hp2, h1⟩ := h
    have hcan : CAN (cs n 1) (nI p) := by
      refine ⟨p, hp2, rfl, ?_⟩
      rw [h1] at hr
      unfold X0_canComeIn_x1 X0_canComeIn_x0 at hr
      rw [tget4 hp2] at hr
      by_cases q1 : sta (cs n 1) p = -2
      · exact Or.inl q1
      · by_cases q2 : sta (cs n 1) p = 6
        · exact Or.inr q2
        · rw [if_neg q1, if_neg q2, if_pos rfl] at hr
          exact absurd hr (by decide)
    obtain ⟨m1, eN⟩ := in_choose b1 (by omega) hm1 h12 h0 hp2 h1 hcan
    have hnx1 : X9_next_r1 (upd g 23 (nI (k + 1))) n = NEX (cs n) := by
      have hbat2 : BAT (cs n 1) (cs n 6 9) (cs n 6 10) (cs n 6 11) (RF n) := by
        rcases hm.2.2.2.2.2.2.2 with q | q
        · exact q.2.1
        · rw [h12] at q; exact absurd q (by decide)
      obtain ⟨_, _, _, _, _, _, _, _, _, _, hch⟩ := id hbat2
      exact (next_eq hm1.1.2.1 hm1.2.1.2.2.2.2.2.2.2.1 hch).symm
    refine ⟨?_, ?_⟩
    · refine plain_RR hR0 hc1 m1 ⟨Nat.le_refl _, by omega⟩ (fun p q1 q2 => (upd_off (by unfold OUTR at q1; omega)).trans (upd_off q2)) ((upd_off (by omega)).trans upd_at) (by rw [h0]; decide) ?_ ?_ ?_ ?_ ?_
      · rw [eN]; rfl
      · rw [eN]; exact upd_off (by omega)
      · rw [eN]; exact upd_off (by omega)
      · rw [eN]; exact upd_off (by omega)
      · rw [eN]; exact upd_off (by omega)
    · unfold ANS X2_perform01_x0 X9_does4_r8
      rw [if_neg (show ¬ S 0 = 1 by rw [h0]; decide), if_neg (show ¬ S 0 = 2 by rw [h0]; decide), if_neg (show ¬ S 0 = 3 by rw [h0]; decide), if_neg (show ¬ S 0 = 4 by rw [h0]; decide), if_pos h0]
      exact hnx1.symm
  · rw [(RFG_6 (g := g) h).2.1, (RFG_6 (g := g) h).2.2, eI, eS, eE, eD]
    obtain ⟨h0, h1⟩ := h
    obtain ⟨m1, eN⟩ := in_decl (by omega) hm1 h0
    refine ⟨looks_RR (al := 0) (dl := 1) hk hR0 hc1 m1 ⟨Nat.le_refl _, by omega⟩ (fun p q1 q2 => upd_off q2) upd_at (by rw [eN]; exact h12.symm) (by rw [h0]; decide), ?_⟩
    unfold ANS X2_perform01_x0 X9_does5_r7
    rw [if_neg (show ¬ S 0 = 1 by rw [h0]; decide), if_neg (show ¬ S 0 = 2 by rw [h0]; decide), if_neg (show ¬ S 0 = 3 by rw [h0]; decide), if_neg (show ¬ S 0 = 4 by rw [h0]; decide), if_neg (show ¬ S 0 = 5 by rw [h0]; decide), if_pos h0, tg8 (c := 0) 0 rfl (by omega), X9_does5_g6, upd_off (by omega), hm.1.1 0 (by omega), Wn_at (by omega)]
  · rw [(RFG_7 (g := g) h).2.1, (RFG_7 (g := g) h).2.2, eI, eS, eE, eD]
    rw [rf_7 c0 hc1 h.1] at hr
    obtain ⟨h0, ho, ho2, h1⟩ := h
    have e1 : cm 2 = 1 := by
      rcases he with q | q
      · exact q
      · rw [if_neg (show ¬ cm 2 = 1 by rw [q]; decide)] at hr
        exact absurd hr (by decide)
    rw [if_pos e1, h1] at hr
    obtain ⟨m1, e12, e13, e14, e15⟩ := in_lose b1 (by omega) hm1 h12 h0 ho ho2 h1 e1 (fun q => by rw [if_pos q] at hr; exact absurd hr (by decide))
    refine ⟨looks_RR (al := 0) (dl := 0) hk hR0 hc1 m1 ⟨Nat.le_refl _, by omega⟩ (fun p q1 q2 => (fr_loses q1).trans (upd_off q2)) ((fr_loses (out23 (s := SB n + RP n) b1)).trans upd_at) e12.symm (by rw [h0]; decide), ?_⟩
    unfold ANS X2_perform01_x0 X9_does6_r7 X9_loses_r3
    rw [if_neg (show ¬ S 0 = 1 by rw [h0]; decide), if_neg (show ¬ S 0 = 2 by rw [h0]; decide), if_neg (show ¬ S 0 = 3 by rw [h0]; decide), if_neg (show ¬ S 0 = 4 by rw [h0]; decide), if_neg (show ¬ S 0 = 5 by rw [h0]; decide), if_neg (show ¬ S 0 = 6 by rw [h0]; decide), if_pos h0, h1, X9_loses_g2, upd_off (by omega), X9_loses_g0, upd_at, X9_does6_g6, upd_off (by omega), hm.2.1.1]
    rfl
