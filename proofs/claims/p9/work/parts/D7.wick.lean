/-! a wicket's rows -/
theorem fw_S {g : Nat → Int32} {way : Int32} {i w bo wk p : Nat} (hi : i < 4) (hw : w < 11) (hbo : bo < 11) (hwk : wk < 10) (h : p < 25) : fwG g way i w bo wk p = g p := by
  unfold fwG fw6 fw5 fw4 fw3
  split
  · rw [upd_off (by omega), upd_off (by omega), upd_off (by omega), upd_off (by omega)]
  · rw [incr_off (by omega), upd_off (by omega), upd_off (by omega), upd_off (by omega), upd_off (by omega), upd_off (by omega)]
theorem W4_in {i f w : Nat} {g : Nat → Int32} {v : Int32} (hf : 3 * f + w < 30) : Wn (641 + 30 * i) 30 (upd g (641 + 30 * i + 3 * f + w) v) = upd (Wn (641 + 30 * i) 30 g) (3 * f + w) v := by
  have e : 641 + 30 * i + 3 * f + w = 641 + 30 * i + (3 * f + w) := by omega
  rw [e, Wn_in hf]
theorem sim_CWK {c : Nat → Nat → Int32} {g : Nat → Int32} {out way : Int32} {i w bo sb rp rf oc : Nat} (hi : i < 4) (hw : w < 11) (hbo : bo < 11) (hoc : oc ≤ 20) (hrf : rf < 10) (h : SIM c g i sb rp rf oc) (hn : NOWR c g sb rp) (h3 : c 6 3 = nI bo) (hout : out = nI w) (hwk : c 0 1 = nI rf) :
    SIM (CWK c out way) (fwG g way i w bo rf) i sb rp (rf + 1) oc ∧ NOWR (CWK c out way) (fwG g way i w bo rf) sb rp := by
  obtain ⟨t0, t1, t2, t3, t4, t5, r3, r4, o2, o8, o9, o7, o6, o1⟩ := h
  obtain ⟨n0, n3, n4, n5, n6, n9, n10, n11, n22⟩ := hn
  have erf : (c 7 4).toNatClampNeg = rf := by rw [r4]; exact nI_c (by omega)
  have g0 : g (25 + 11 * i + 0) = c 0 0 := by rw [t0 0 (by omega), Wn_at (by omega)]
  have g2 : g (25 + 11 * i + 2) = c 0 2 := by rw [t0 2 (by omega), Wn_at (by omega)]
  have sS : ∀ p, p < 25 → fwG g way i w bo rf p = g p := fun p hp => fw_S hi hw hbo hrf hp
  have eT : Wn (25 + 11 * i) 11 (fwG g way i w bo rf) = upd (Wn (25 + 11 * i) 11 g) 1 (nI (rf + 1)) := by
    unfold fwG fw6 fw5 fw4 fw3
    split
    · rw [Wn_in (by omega), Wn_out (by omega), Wn_out (by omega), Wn_out (by omega)]
    · rw [Wn_outI (by omega), Wn_out (by omega), Wn_in (by omega), Wn_out (by omega), Wn_out (by omega), Wn_out (by omega)]
  have eB : Wn (69 + 66 * i) 66 (fwG g way i w bo rf) = if way = 5 then Wn (69 + 66 * i) 66 g else upd (Wn (69 + 66 * i) 66 g) (w * 6 + 5) (nI bo) := by
    unfold fwG fw6 fw5 fw4 fw3
    by_cases h5 : way = 5
    · rw [if_pos h5, if_pos h5, Wn_out (by omega), Wn_out (by omega), Wn_out (by omega), Wn_out (by omega)]
    · rw [if_neg h5, if_neg h5, Wn_outI (by omega), W1_in hw (by omega), Wn_out (by omega), Wn_out (by omega), Wn_out (by omega), Wn_out (by omega)]
  have eO : Wn (333 + 77 * i) 77 (fwG g way i w bo rf) = if way = 5 then Wn (333 + 77 * i) 77 g else incr (Wn (333 + 77 * i) 77 g) (bo * 7 + 2) 1 := by
    unfold fwG fw6 fw5 fw4 fw3
    by_cases h5 : way = 5
    · rw [if_pos h5, if_pos h5, Wn_out (by omega), Wn_out (by omega), Wn_out (by omega), Wn_out (by omega)]
    · rw [if_neg h5, if_neg h5, W2_inI hbo (by omega), Wn_out (by omega), Wn_out (by omega), Wn_out (by omega), Wn_out (by omega), Wn_out (by omega)]
  have eP : Wn (841 + 8 * sb) (8 * rp) (fwG g way i w bo rf) = Wn (841 + 8 * sb) (8 * rp) g := by
    unfold fwG fw6 fw5 fw4 fw3
    split
    · rw [Wn_out (by omega), Wn_out (by omega), Wn_out (by omega), Wn_out (by omega)]
    · rw [Wn_outI (by omega), Wn_out (by omega), Wn_out (by omega), Wn_out (by omega), Wn_out (by omega), Wn_out (by omega)]
  have eV : Wn (761 + 20 * i) 20 (fwG g way i w bo rf) = Wn (761 + 20 * i) 20 g := by
    unfold fwG fw6 fw5 fw4 fw3
    split
    · rw [Wn_out (by omega), Wn_out (by omega), Wn_out (by omega), Wn_out (by omega)]
    · rw [Wn_outI (by omega), Wn_out (by omega), Wn_out (by omega), Wn_out (by omega), Wn_out (by omega), Wn_out (by omega)]
  have eF : Wn (641 + 30 * i) 30 (fwG g way i w bo rf) = upd (upd (upd (Wn (641 + 30 * i) 30 g) (3 * rf) (nI w)) (3 * rf + 1) (c 0 0)) (3 * rf + 2) (c 0 2) := by
    unfold fwG fw6 fw5 fw4 fw3
    split
    · rw [Wn_out (by omega), W4_in (by omega), W4_in (by omega), Wn_in (by omega), upd_off (by omega), upd_off (by omega), upd_off (by omega), g0, g2]
    · rw [Wn_outI (by omega), Wn_out (by omega), Wn_out (by omega), W4_in (by omega), W4_in (by omega), Wn_in (by omega), upd_off (by omega), upd_off (by omega), upd_off (by omega), g0, g2]
  have e8 := congrFun eT 8
  have e9 := congrFun eT 9
  have e10 := congrFun eT 10
  rw [Wn_at (by omega)] at e8 e9 e10
  rw [upd_off (by omega), Wn_at (by omega)] at e8 e9 e10
  refine ⟨⟨?_, ?_, ?_, ?_, ?_, ?_, r3, ?_, o2, e8.trans o8, e9.trans o9, o7.trans e10.symm, o6.trans (sS _ (by omega)).symm, o1.trans (sS _ (by omega)).symm⟩, n0.trans (sS _ (by omega)).symm, n3.trans (sS _ (by omega)).symm, n4.trans (sS _ (by omega)).symm, n5.trans (sS _ (by omega)).symm, n6.trans (sS _ (by omega)).symm, n9.trans (sS _ (by omega)).symm, n10.trans (sS _ (by omega)).symm, n11.trans (sS _ (by omega)).symm, (sS _ (by omega)).trans n22⟩
  · rw [eT]
    show EQ 8 (tinc 8 1 8 (c 0) 0 1 1) _
    rw [ti8_1]
    exact EQ_upd t0 (by rw [hwk]; exact nI_add rf 1)
  · rw [eB]
    show EQ 66 (X0_countWicket_g3 (c 1) (c 6 3) out way) _
    unfold X0_countWicket_g3
    by_cases h5 : way = 5
    · rw [if_pos h5, if_pos h5]; exact t1
    · rw [if_neg h5, if_neg h5, ts6 (c := 5) w 5 hout hw rfl (by omega), h3]
      exact EQ_upd t1 rfl
  · rw [eO]
    show EQ 77 (X0_countWicket_g4 (c 2) (c 6 3) way) _
    unfold X0_countWicket_g4
    by_cases h5 : way = 5
    · rw [if_pos h5, if_pos h5]; exact t2
    · rw [if_neg h5, if_neg h5, h3, ti7_2 hbo]
      exact EQ_incr t2 (by omega)
  · rw [eP]; exact t3
  · rw [eF]
    show EQ (3 * (rf + 1)) (X0_countWicket_g2 ((c 7 4).toNatClampNeg) (c 0) (c 4) out) _
    rw [erf]
    unfold X0_countWicket_g2 X0_countWicket_g1 X0_countWicket_g0
    rw [tsF (c := 2) (r := rf + 1) (q := rf) (k := 2) (by omega) (by omega) rfl (by omega), tsF (c := 1) (r := rf + 1) (q := rf) (k := 1) (by omega) (by omega) rfl (by omega), tsF (c := 0) (r := rf + 1) (q := rf) (k := 0) (by omega) (by omega) rfl (by omega), ti8_1, tg8 (c := 0) 0 rfl (by omega), tg8 (c := 2) 2 rfl (by omega), incr_off (by omega), incr_off (by omega), hout]
    intro k hk
    rw [upd_ap, upd_ap, upd_ap, upd_ap, upd_ap, upd_ap]
    by_cases k2 : k = 3 * rf + 2
    · rw [if_pos (by omega), if_pos k2]
    · rw [if_neg (by omega), if_neg k2]
      by_cases k1 : k = 3 * rf + 1
      · rw [if_pos (by omega), if_pos k1]
      · rw [if_neg (by omega), if_neg k1]
        by_cases k0 : k = 3 * rf
        · rw [if_pos (by omega), if_pos k0]
        · rw [if_neg (by omega), if_neg k0]
          show zf (c 4) (rf * 3) (rf * 3 + 3) k = _
          unfold zf
          rw [if_neg (by omega)]
          exact t4 k (by omega)
  · rw [eV]; exact t5
  · show nI ((c 7 4).toNatClampNeg + 1) = _
    rw [erf]
/-! a partnership begins -/
theorem W3s_in {b r k : Nat} {g : Nat → Int32} {v : Int32} (hk : k < 8) : Wn (841 + 8 * b) (8 * (r + 1)) (upd g (841 + 8 * (b + r) + k) v) = upd (Wn (841 + 8 * b) (8 * (r + 1)) g) (r * 8 + k) v := by
  have e : 841 + 8 * (b + r) + k = 841 + 8 * b + (r * 8 + k) := by omega
  rw [e, Wn_in (by omega)]
theorem sh_P {x g : Nat → Int32} {sk ot : Int32} {sb rp : Nat} (hr : rp ≤ 512) (h : EQ (8 * rp) x (Wn (841 + 8 * sb) (8 * (rp + 1)) g)) (h6 : sk = g 6) (h7 : ot = g 7) : EQ (8 * (rp + 1)) (X0_beginPartnership_g2 rp x sk ot) (Wn (841 + 8 * sb) (8 * (rp + 1)) (X9_share_g13 g (sb + rp))) := by
  have eW : Wn (841 + 8 * sb) (8 * (rp + 1)) (X9_share_g13 g (sb + rp)) = upd (upd (upd (upd (upd (upd (upd (upd (upd (upd (upd (Wn (841 + 8 * sb) (8 * (rp + 1)) g) (rp * 8 + 0) 0) (rp * 8 + 1) 0) (rp * 8 + 2) 0) (rp * 8 + 3) 0) (rp * 8 + 4) 0) (rp * 8 + 5) 0) (rp * 8 + 6) 0) (rp * 8 + 7) 0) (rp * 8 + 2) (X9_share_x8 g)) (rp * 8 + 3) (X9_share_x10 g)) (rp * 8 + 7) 1 := by
    rw [X9_share_g13, Wn_out (by omega), X9_share_g12, W3s_in (by omega), X9_share_g11, W3s_in (by omega), X9_share_g9, W3s_in (by omega), X9_share_g7, W3s_in (by omega), X9_share_g6, W3s_in (by omega), X9_share_g5, W3s_in (by omega), X9_share_g4, W3s_in (by omega), X9_share_g3, W3s_in (by omega), X9_share_g2, W3s_in (by omega), X9_share_g1, W3s_in (by omega), X9_share_g0, W3s_in (by omega)]
  have e8 : (if ot < sk then ot else sk) = X9_share_x8 g := by
    unfold X9_share_x8
    rw [← h6, ← h7]
    by_cases q : ot < sk
    · rw [if_pos q, if_pos (Int32.le_of_lt q)]
    · rw [if_neg q]
      by_cases q2 : ot ≤ sk
      · rw [if_pos q2]; exact Int32.le_antisymm (Int32.not_lt.mp q) q2
      · rw [if_neg q2]
  have e10 : (if sk < ot then ot else sk) = X9_share_x10 g := by
    unfold X9_share_x10
    rw [← h6, ← h7]
    by_cases q : sk < ot
    · rw [if_pos q, if_neg (Int32.not_le.mpr q)]
    · rw [if_neg q, if_pos (Int32.not_lt.mp q)]
  rw [eW]
  unfold X0_beginPartnership_g2 X0_beginPartnership_g1 X0_beginPartnership_g0
  rw [tsP (c := 7) (r := rp + 1) (q := rp) (k := 7) (by omega) (by omega) rfl (by omega), tsP (c := 3) (r := rp + 1) (q := rp) (k := 3) (by omega) (by omega) rfl (by omega), tsP (c := 2) (r := rp + 1) (q := rp) (k := 2) (by omega) (by omega) rfl (by omega), e8, e10]
  intro k hk
  by_cases hk2 : k < 8 * rp
  · rw [upd_off (by omega), upd_off (by omega), upd_off (by omega), upd_off (by omega), upd_off (by omega), upd_off (by omega), upd_off (by omega), upd_off (by omega), upd_off (by omega), upd_off (by omega), upd_off (by omega), upd_off (by omega), upd_off (by omega), upd_off (by omega), ← h k hk2]
    unfold zf
    rw [if_neg (by omega)]
  · have hz : zf x (rp * 8) (rp * 8 + 8) k = 0 := by unfold zf; rw [if_pos (by omega)]
    have hc : k = rp * 8 + 0 ∨ k = rp * 8 + 1 ∨ k = rp * 8 + 2 ∨ k = rp * 8 + 3 ∨ k = rp * 8 + 4 ∨ k = rp * 8 + 5 ∨ k = rp * 8 + 6 ∨ k = rp * 8 + 7 := by omega
    simp only [upd_ap, hz]
    rcases hc with rfl | rfl | rfl | rfl | rfl | rfl | rfl | rfl <;> simp
/-! a batter leaves -/
theorem lvN_S {g : Nat → Int32} {i w s p : Nat} {how : Int32} (hw : w < 11) (h : p < 25) : X9_leavesN_g1 g w how i s p = g p := by
  rw [X9_leavesN_g1, upd_off (by omega), X9_leavesN_g0, upd_off (by omega)]
theorem sim_LEAN {c : Nat → Nat → Int32} {g : Nat → Int32} {out st : Int32} {i w sb rp rf oc : Nat} (hi : i < 4) (hw : w < 11) (hr : 1 ≤ rp) (hr2 : rp ≤ 513) (hrf : rf ≤ 10) (hoc : oc ≤ 20) (h : SIM c g i sb rp rf oc) (hn : NOWR c g sb rp) (hout : out = nI w) :
    SIM (LEA c out st (-1)) (X9_leavesN_g1 g w st i (sb + rp)) i sb rp rf oc ∧ NOWR (LEA c out st (-1)) (X9_leavesN_g1 g w st i (sb + rp)) sb rp := by
  obtain ⟨t0, t1, t2, t3, t4, t5, r3, r4, o2, o8, o9, o7, o6, o1⟩ := h
  obtain ⟨n0, n3, n4, n5, n6, n9, n10, n11, n22⟩ := hn
  have erp : (c 7 3).toNatClampNeg = rp := by rw [r3]; exact nI_c (by omega)
  have sS : ∀ p, p < 25 → X9_leavesN_g1 g w st i (sb + rp) p = g p := fun p hp => lvN_S hw hp
  have eo : ∀ b n, (b + n ≤ 69 + 66 * i ∨ 135 + 66 * i ≤ b) → b + n ≤ 841 → Wn b n (X9_leavesN_g1 g w st i (sb + rp)) = Wn b n g := fun b n h1 h2 => by
    rw [X9_leavesN_g1, Wn_out (by omega), X9_leavesN_g0, Wn_out (by omega)]
  have eB : Wn (69 + 66 * i) 66 (X9_leavesN_g1 g w st i (sb + rp)) = upd (Wn (69 + 66 * i) 66 g) (w * 6 + 4) st := by
    rw [X9_leavesN_g1, Wn_out (by omega), X9_leavesN_g0, W1_in hw (by omega)]
  have eP : Wn (841 + 8 * sb) (8 * rp) (X9_leavesN_g1 g w st i (sb + rp)) = upd (Wn (841 + 8 * sb) (8 * rp) g) ((rp - 1) * 8 + 7) 0 := by
    rw [X9_leavesN_g1, W3_in rfl hr (by omega), X9_leavesN_g0, Wn_out (by omega)]
  have eT := eo (25 + 11 * i) 11 (by omega) (by omega)
  have e8 := congrFun eT 8
  have e9 := congrFun eT 9
  have e10 := congrFun eT 10
  rw [Wn_at (by omega), Wn_at (by omega)] at e8 e9 e10
  refine ⟨⟨?_, ?_, ?_, ?_, ?_, ?_, ?_, r4, o2, e8.trans o8, e9.trans o9, o7.trans e10.symm, o6.trans (sS _ (by omega)).symm, o1.trans (sS _ (by omega)).symm⟩, n0.trans (sS _ (by omega)).symm, n3.trans (sS _ (by omega)).symm, n4.trans (sS _ (by omega)).symm, n5.trans (sS _ (by omega)).symm, n6.trans (sS _ (by omega)).symm, n9.trans (sS _ (by omega)).symm, n10.trans (sS _ (by omega)).symm, n11.trans (sS _ (by omega)).symm, (sS _ (by omega)).trans n22⟩
  · rw [eT]; exact t0
  · rw [eB]
    show EQ 66 (tset 6 11 66 (c 1) out 4 st) _
    rw [ts6 (c := 4) w 4 hout hw rfl (by omega)]
    exact EQ_upd t1 rfl
  · rw [eo _ _ (by omega) (by omega)]; exact t2
  · rw [eP]
    show EQ (8 * rp) (tset 8 (nI ((c 7 3).toNatClampNeg)) 4104 (c 3) (nI ((c 7 3).toNatClampNeg - 1)) 7 0) _
    rw [erp, tsP (c := 7) (r := rp) (q := rp - 1) (k := 7) (by omega) hr2 rfl (by omega)]
    exact EQ_upd t3 rfl
  · rw [eo _ _ (by omega) (by omega)]; exact t4
  · rw [eo _ _ (by omega) (by omega)]; exact t5
  · show nI ((c 7 3).toNatClampNeg) = _
    rw [erp]
theorem sim_LEAS {c : Nat → Nat → Int32} {g : Nat → Int32} {out st : Int32} {i w x sb rp rf oc : Nat} (hi : i < 4) (hw : w < 11) (hx : x < 11) (hr : 1 ≤ rp) (hr2 : rp ≤ 512) (hsb : sb + rp < 699) (hrf : rf ≤ 10) (hoc : oc ≤ 20) (h : SIM c g i sb rp rf oc) (hn : NOWR c g sb rp) (hout : out = nI w) :
    SIM (LEA c out st (nI x)) (X9_leavesS_g7 g w x st i (sb + rp)) i sb (rp + 1) rf oc ∧ NOWR (LEA c out st (nI x)) (X9_leavesS_g7 g w x st i (sb + rp)) sb (rp + 1) := by
  obtain ⟨t0, t1, t2, t3, t4, t5, r3, r4, o2, o8, o9, o7, o6, o1⟩ := h
  obtain ⟨n0, n3, n4, n5, n6, n9, n10, n11, n22⟩ := hn
  have erp : (c 7 3).toNatClampNeg = rp := by rw [r3]; exact nI_c (by omega)
  have hnx : ¬ nI x = -1 := nI_neg (by omega)
  -- the reference without its new share
  have a1 : ∀ p, X9_leavesS_g1 g w st i (sb + rp) p = upd (upd g (69 + 6 * (11 * i + w) + 4) st) (841 + 8 * (sb + rp - 1) + 7) 0 p := fun _ => rfl
  have a6 : ∀ p, p < 25 → X9_leavesS_g6 g w x st i (sb + rp) p = if p = 8 then -1 else if p = 6 then X0_leave_x0 (g 6) out (nI x) else if p = 7 then X0_leave_x1 (g 6) (g 7) out (nI x) else g p := by
    intro p hp
    have b1 : ∀ p, p < 25 → X9_leavesS_g1 g w st i (sb + rp) p = g p := fun p hp => by rw [a1, upd_off (by omega), upd_off (by omega)]
    rw [X9_leavesS_g6, upd_ap]
    by_cases h8 : p = 8
    · rw [if_pos h8, if_pos h8]
    · rw [if_neg h8, if_neg h8, X9_leavesS_g5, upd_off (by omega)]
      unfold X9_leavesS_g4 X0_leave_x0 X0_leave_x1
      rw [b1 6 (by omega), hout]
      by_cases hE : g 6 = nI w
      · rw [if_pos hE, if_pos hE.symm, if_pos hE.symm, X9_leavesS_g3, upd_ap]
        by_cases h6 : p = 6
        · rw [if_pos h6, if_pos h6]
        · rw [if_neg h6, if_neg h6, b1 p hp]
          by_cases h7 : p = 7
          · rw [if_pos h7, h7]
          · rw [if_neg h7]
      · have hE2 : ¬ nI w = g 6 := fun q => hE q.symm
        rw [if_neg hE, if_neg hE2, if_neg hE2, X9_leavesS_g2, upd_ap]
        by_cases h7 : p = 7
        · rw [if_pos h7, if_neg (by omega), if_pos h7]
        · rw [if_neg h7, b1 p hp]
          by_cases h6 : p = 6
          · rw [if_pos h6, h6]
          · rw [if_neg h6, if_neg h7]
  have w6 : ∀ b n, 25 ≤ b → Wn b n (X9_leavesS_g6 g w x st i (sb + rp)) = Wn b n (upd (upd (upd g (69 + 6 * (11 * i + w) + 4) st) (841 + 8 * (sb + rp - 1) + 7) 0) (69 + 6 * (11 * i + x) + 4) (-1)) := by
    intro b n hb
    funext k
    unfold Wn
    split
    · rw [X9_leavesS_g6, upd_off (by omega), X9_leavesS_g5, upd_ap, upd_ap (k := 69 + 6 * (11 * i + x) + 4)]
      split
      · rfl
      · unfold X9_leavesS_g4
        split
        · rw [X9_leavesS_g3, upd_off (by omega), a1]
        · rw [X9_leavesS_g2, upd_off (by omega), a1]
    · rfl
  have s7 : ∀ p, p < 841 → p ≠ 22 → X9_leavesS_g7 g w x st i (sb + rp) p = X9_leavesS_g6 g w x st i (sb + rp) p := fun p h1 h2 => by
    rw [X9_leavesS_g7, X9_share_g13, upd_off (by omega), X9_share_g12, upd_off (by omega), X9_share_g11, upd_off (by omega), X9_share_g9, upd_off (by omega), X9_share_g7, upd_off (by omega), X9_share_g6, upd_off (by omega), X9_share_g5, upd_off (by omega), X9_share_g4, upd_off (by omega), X9_share_g3, upd_off (by omega), X9_share_g2, upd_off (by omega), X9_share_g1, upd_off (by omega), X9_share_g0, upd_off (by omega)]
  have W7 : ∀ b n, 25 ≤ b → b + n ≤ 841 → Wn b n (X9_leavesS_g7 g w x st i (sb + rp)) = Wn b n (upd (upd (upd g (69 + 6 * (11 * i + w) + 4) st) (841 + 8 * (sb + rp - 1) + 7) 0) (69 + 6 * (11 * i + x) + 4) (-1)) := by
    intro b n hb hn2
    rw [← w6 b n hb]
    funext k
    unfold Wn
    split
    · exact s7 _ (by omega) (by omega)
    · rfl
  have eo : ∀ b n, 25 ≤ b → (b + n ≤ 69 + 66 * i ∨ 135 + 66 * i ≤ b) → b + n ≤ 841 → Wn b n (X9_leavesS_g7 g w x st i (sb + rp)) = Wn b n g := fun b n h0 h1 h2 => by
    rw [W7 b n h0 h2, Wn_out (by omega), Wn_out (by omega), Wn_out (by omega)]
  have eT := eo (25 + 11 * i) 11 (by omega) (by omega) (by omega)
  have e8 := congrFun eT 8
  have e9 := congrFun eT 9
  have e10 := congrFun eT 10
  rw [Wn_at (by omega), Wn_at (by omega)] at e8 e9 e10
  have sS : ∀ p, p < 25 → p ≠ 6 → p ≠ 7 → p ≠ 8 → p ≠ 22 → X9_leavesS_g7 g w x st i (sb + rp) p = g p := fun p h1 h2 h3 h4 h5 => by
    rw [s7 p (by omega) h5, a6 p h1, if_neg h4, if_neg h2, if_neg h3]
  refine ⟨⟨?_, ?_, ?_, ?_, ?_, ?_, ?_, r4, o2, e8.trans o8, e9.trans o9, o7.trans e10.symm, o6.trans (sS _ (by omega) (by omega) (by omega) (by omega) (by omega)).symm, o1.trans (sS _ (by omega) (by omega) (by omega) (by omega) (by omega)).symm⟩, n0.trans (sS _ (by omega) (by omega) (by omega) (by omega) (by omega)).symm, n3.trans (sS _ (by omega) (by omega) (by omega) (by omega) (by omega)).symm, n4.trans (sS _ (by omega) (by omega) (by omega) (by omega) (by omega)).symm, n5.trans (sS _ (by omega) (by omega) (by omega) (by omega) (by omega)).symm, n6.trans (sS _ (by omega) (by omega) (by omega) (by omega) (by omega)).symm, ?_, ?_, ?_, ?_⟩
  · rw [eT]; exact t0
  · rw [W7 _ _ (by omega) (by omega), W1_in hx (by omega), Wn_out (by omega), W1_in hw (by omega)]
    show EQ 66 (X0_leave_g3 (c 1) out st (nI x)) _
    unfold X0_leave_g3
    rw [if_neg hnx, ts6 (c := 4) w 4 hout hw rfl (by omega), ts6 (c := 4) x 4 rfl hx rfl (by omega)]
    exact EQ_upd (EQ_upd t1 rfl) rfl
  · rw [eo _ _ (by omega) (by omega) (by omega)]; exact t2
  · show EQ (8 * (rp + 1)) (X0_leave_g4 ((c 7 3).toNatClampNeg) (c 3) (c 6 9) (c 6 10) out (nI x)) _
    unfold X0_leave_g4 X0_leave_g2
    rw [if_neg hnx, erp, X9_leavesS_g7]
    refine sh_P hr2 ?_ ?_ ?_
    · rw [w6 _ _ (by omega), Wn_out (by omega), tsP (c := 7) (r := rp) (q := rp - 1) (k := 7) (by omega) (by omega) rfl (by omega)]
      intro k hk
      rw [Wn_at (by omega), upd_ap, upd_ap]
      by_cases hk2 : k = (rp - 1) * 8 + 7
      · rw [if_pos hk2, if_pos (by omega)]
      · rw [if_neg hk2, if_neg (by omega), upd_off (by omega), t3 k hk, Wn_at hk]
    · rw [a6 6 (by omega), if_neg (by omega), if_pos rfl, n9]
    · rw [a6 7 (by omega), if_neg (by omega), if_neg (by omega), if_pos rfl, n9, n10]
  · rw [eo _ _ (by omega) (by omega) (by omega)]; exact t4
  · rw [eo _ _ (by omega) (by omega) (by omega)]; exact t5
  · show X0_leave_x9 ((c 7 3).toNatClampNeg) (nI x) = _
    unfold X0_leave_x9
    rw [if_neg hnx, erp]
  · show X0_leave_x5 (c 6 9) out (nI x) = _
    unfold X0_leave_x5
    rw [if_neg hnx, s7 6 (by omega) (by omega), a6 6 (by omega), if_neg (by omega), if_pos rfl, n9]
  · show X0_leave_x6 (c 6 9) (c 6 10) out (nI x) = _
    unfold X0_leave_x6
    rw [if_neg hnx, s7 7 (by omega) (by omega), a6 7 (by omega), if_neg (by omega), if_neg (by omega), if_pos rfl, n9, n10]
  · show X0_leave_x7 (c 6 11) (nI x) = _
    unfold X0_leave_x7
    rw [if_neg hnx, s7 8 (by omega) (by omega), a6 8 (by omega), if_pos rfl]
  · rw [X9_leavesS_g7, X9_share_g13, upd_at, Nat.add_assoc]
