/-! A STEP INSIDE ITS INNINGS: what holds before it holds behind it, of the program and of the reference -/
def MIDR (c : Nat → Nat → Int32) (g : Nat → Int32) (i sb rp rf oc k : Nat) (e ov : Int32) : Prop := SIM c g i sb rp rf oc ∧ NOWR c g sb rp ∧ 1 ≤ rp ∧ rf ≤ 10 ∧ oc ≤ 20 ∧ (c 6 3 = -1 ∨ ∃ bo, bo < 11 ∧ c 6 3 = nI bo) ∧ (∃ bl t L, bl ≤ 5 ∧ t ≤ 7 * k ∧ (1 ≤ L ∧ L ≤ 20) ∧ oc ≤ L ∧ CF c rf oc bl t L e ov) ∧ ((c 6 12 = 0 ∧ BAT (c 1) (c 6 9) (c 6 10) (c 6 11) rf ∧ c 3 ((rp - 1) * 8 + 2) = mn (c 6 9) (c 6 10)) ∨ c 6 12 = 1)
theorem mn_cnt {sk ot ru sb : Int32} : mn (X0_count_x2 sk ot ru sb) (X0_count_x3 sk ot ru sb) = mn sk ot := by
  unfold X0_count_x2 X0_count_x3
  by_cases h : X5_changesEnds_x1 ru sb = 0
  · rw [if_pos h, if_pos h]
  · rw [if_neg h, if_neg h]; exact mn_comm _ _
theorem mn_fin {sk ot bl : Int32} : mn (X0_finishOver_x1 bl sk ot) (X0_finishOver_x2 bl sk ot) = mn sk ot := by
  unfold X0_finishOver_x1 X0_finishOver_x2
  by_cases h : 6 ≤ bl
  · rw [if_pos h, if_pos h]; exact mn_comm _ _
  · rw [if_neg h, if_neg h]
theorem odd_ok {r : Nat} (h : r ≤ 6) : ((nI r) &&& 1) = 1 ↔ ((nI r) - (nI r) / 2 * 2) = 1 := by
  have h9 : r = 0 ∨ r = 1 ∨ r = 2 ∨ r = 3 ∨ r = 4 ∨ r = 5 ∨ r = 6 := by omega
  rcases h9 with rfl | rfl | rfl | rfl | rfl | rfl | rfl <;> decide
theorem ROWS_clamp {x : Int32} {n : Nat} (h : x = nI n) (hn : n < 1000000) : x = nI x.toNatClampNeg := by rw [h, nI_c (by omega)]
theorem fov_bw {c : Nat → Nat → Int32} {bo : Nat} (hbo : bo < 11) (h : c 6 3 = nI bo) : FOV c 6 3 = -1 ∨ ∃ bo, bo < 11 ∧ FOV c 6 3 = nI bo := by
  by_cases h6 : 6 ≤ c 6 5
  · exact Or.inl (if_pos h6)
  · exact Or.inr ⟨bo, hbo, (if_neg h6).trans h⟩
theorem fov_oc {x : Int32} {bl oc : Nat} (h : x = nI bl) (hbl : bl ≤ 6) : (if 6 ≤ x then oc + 1 else oc) = if 6 ≤ bl then oc + 1 else oc := by
  have hi : (6 ≤ x) ↔ 6 ≤ bl := by rw [h]; exact nI_leI (a := 6) (by omega) (by omega)
  by_cases hb : 6 ≤ bl
  · rw [if_pos hb, if_pos (hi.mpr hb)]
  · rw [if_neg hb, if_neg (fun q => hb (hi.mp q))]
/-- what is known of a live innings -/
theorem live_oc {c : Nat → Nat → Int32} {g : Nat → Int32} {i sb rp rf oc bl t L : Nat} {e ov : Int32} (hs : SIM c g i sb rp rf oc) (hc : CF c rf oc bl t L e ov) (hL : L ≤ 20) (hoc : oc ≤ L) (hne : ¬ c 6 0 = c 6 2) : oc < L := by
  obtain ⟨t0, t1, t2, t3, t4, t5, r3, r4, o2, o8, o9, o7, o6, o1⟩ := hs
  obtain ⟨h7, h0, h07, h01, h02, h65, h60, h67, h67b, he2, he1⟩ := hc
  rcases Nat.lt_or_ge oc L with q | q
  · exact q
  · have : oc = L := by omega
    exact absurd (by rw [h60, o2, this]) hne
theorem in_ball {c : Nat → Nat → Int32} {g S : Nat → Int32} {i sb rp rf oc k kd r bo : Nat} {e ov : Int32} (hi : i < 4) (hr2 : rp ≤ 513) (hm : MIDR c g i sb rp rf oc k e ov) (h12 : c 6 12 = 0) (hne : ¬ c 6 0 = c 6 2) (h0 : S 0 = 2) (hkd : kd < 5) (hr : r ≤ 6) (h3 : S 3 = nI kd) (h4 : S 4 = nI r) (hbo : bo < 11) (hbw : c 6 3 = nI bo) :
    ∃ a oc', a < 11 ∧ c 6 9 = nI a ∧ oc < 20 ∧ MIDR (INN c S) (X9_completes_g11 (X9_bowled_g1 g kd (nI r) (S 6) i a bo (sb + rp)) i bo oc) i sb rp rf oc' (k + 1) e ov := by
  obtain ⟨hs, hn, hr1, hrf, hoc, hbw9, ⟨bl, t, L, hbl, ht, hL, hocL, hcf⟩, hbat⟩ := hm
  have hocl := live_oc hs hcf hL.2 hocL hne
  have hbat2 : BAT (c 1) (c 6 9) (c 6 10) (c 6 11) rf ∧ c 3 ((rp - 1) * 8 + 2) = mn (c 6 9) (c 6 10) := by
    rcases hbat with q | q
    · exact q.2
    · rw [h12] at q; exact absurd q (by decide)
  obtain ⟨hB, hlow⟩ := hbat2
  obtain ⟨a, b, ha, hb, hab, h9, h10, -⟩ := id hB
  have hs0 := hs
  obtain ⟨t0, t1, t2, t3, t4, t5, r3, r4, o2, o8, o9, o7, o6, o1⟩ := hs0
  have eI : INN c S = FOV (CNT c (nI kd) (nI r) (S 6)) := by rw [inn_2 h0 (ROWS_clamp r3 (by omega)) (ROWS_clamp r4 (by omega)), h3, h4]
  have hB2 : BAT (INN c S 1) (INN c S 6 9) (INN c S 6 10) (INN c S 6 11) (X2_perform01_n18 rf (S 0)) := BAT_step hB (fun q => absurd (h0.symm.trans q) (by decide)) (fun q => absurd (h0.symm.trans q) (by decide)) (show INN c S 6 12 = 0 by rw [eI]; exact h12)
  have e18 : X2_perform01_n18 rf (S 0) = rf := by unfold X2_perform01_n18; rw [h0]; rfl
  rw [e18, eI] at hB2
  obtain ⟨s1, n1⟩ := sim_CNT (ru := nI r) (bd := S 6) hi ha hb hab hbo hkd hr1 hr2 hoc (odd_ok hr) hs hn h9 h10 hbw (by rw [hlow, h9, h10]; exact mn_nI ha hb)
  obtain ⟨y, z, hy, hz, hty, cf1⟩ := CF_CNT (bd := S 6) hkd hr hL.2 (by omega) hcf
  obtain ⟨s2, n2⟩ := sim_FOV hi hbo (by omega) hrf s1 n1 (show CNT c (nI kd) (nI r) (S 6) 6 3 = nI bo from hbw)
  have cf2 := CF_FOV hL.2 (by omega) (by omega) cf1
  have e65 : CNT c (nI kd) (nI r) (S 6) 6 5 = nI (bl + z) := cf1.2.2.2.2.2.1
  rw [fov_oc e65 (by omega)] at s2
  refine ⟨a, (if 6 ≤ bl + z then oc + 1 else oc), ha, h9, by omega, ?_⟩
  rw [eI]
  refine ⟨s2, n2, hr1, hrf, ?_, fov_bw hbo hbw, ⟨_, t + y, L, ?_, by omega, hL, ?_, cf2⟩, Or.inl ⟨h12, hB2, ?_⟩⟩
  · split <;> omega
  · split <;> omega
  · split <;> omega
  · show X0_count_g7 ((c 7 3).toNatClampNeg) (c 3) (c 6 9) (c 6 10) (nI kd) (nI r) ((rp - 1) * 8 + 2) = mn (X0_finishOver_x1 _ (X0_count_x2 (c 6 9) (c 6 10) (nI r) (S 6)) (X0_count_x3 (c 6 9) (c 6 10) (nI r) (S 6))) (X0_finishOver_x2 _ (X0_count_x2 (c 6 9) (c 6 10) (nI r) (S 6)) (X0_count_x3 (c 6 9) (c 6 10) (nI r) (S 6)))
    rw [mn_fin, mn_cnt, show (c 7 3).toNatClampNeg = rp by rw [r3]; exact nI_c (by omega), cnt_low hr1 hr2]
    exact hlow
/-- the two who bat, the bowler, what the wicket and the retirement start from -/
theorem LEA_low {c : Nat → Nat → Int32} {out st nx : Int32} {rp : Nat} (hr2 : rp ≤ 512) (e : (c 7 3).toNatClampNeg = rp) (hnx : ¬ nx = -1) : LEA c out st nx 3 ((rp + 1 - 1) * 8 + 2) = mn (LEA c out st nx 6 9) (LEA c out st nx 6 10) := by
  show X0_leave_g4 ((c 7 3).toNatClampNeg) (c 3) (c 6 9) (c 6 10) out nx ((rp + 1 - 1) * 8 + 2) = mn (X0_leave_x5 (c 6 9) out nx) (X0_leave_x6 (c 6 9) (c 6 10) out nx)
  unfold X0_leave_g4 X0_leave_g2 X0_leave_x5 X0_leave_x6
  rw [if_neg hnx, if_neg hnx, if_neg hnx, e]
  unfold X0_beginPartnership_g2 X0_beginPartnership_g1 X0_beginPartnership_g0
  rw [tsP (c := 7) (r := rp + 1) (q := rp) (k := 7) (by omega) (by omega) rfl (by omega), upd_off (by omega), tsP (c := 3) (r := rp + 1) (q := rp) (k := 3) (by omega) (by omega) rfl (by omega), upd_off (by omega), tsP (c := 2) (r := rp + 1) (q := rp) (k := 2) (by omega) (by omega) rfl (by omega), show (rp + 1 - 1) * 8 + 2 = rp * 8 + 2 by omega, upd_at]
  rfl
def gWK (g : Nat → Int32) (S : Nat → Int32) (kd r i a bo s w rf : Nat) : Nat → Int32 := fwG (if S 7 = 0 then X9_bowled_g1 g kd (nI r) 0 i a bo s else X9_changesEnds_g1 (X9_bowled_g1 g kd (nI r) 0 i a bo s)) (S 2) i w bo rf
theorem in_wicket {c : Nat → Nat → Int32} {g S : Nat → Int32} {i sb rp rf oc k kd r wy bo : Nat} {e ov : Int32} (hi : i < 4) (hr2 : rp ≤ 512) (hsb : sb + rp < 699) (hm : MIDR c g i sb rp rf oc k e ov) (h12 : c 6 12 = 0) (hne : ¬ c 6 0 = c 6 2) (h0 : S 0 = 3) (hkd : kd < 5) (hr : r ≤ 6) (hwy : wy < 6) (h2 : S 2 = nI wy) (h3 : S 3 = nI kd) (h4 : S 4 = nI r) (h6 : S 6 = 0) (hbo : bo < 11) (hbw : c 6 3 = nI bo) :
    ∃ a b w, a < 11 ∧ b < 11 ∧ c 6 9 = nI a ∧ c 6 10 = nI b ∧ w = (if S 5 = 0 then a else b) ∧ oc < 20 ∧ rf < 10 ∧ 
      (∃ oc', (NEX c = -1 ∧ MIDR (INN c S) (X9_completes_g11 (X9_leavesN_g1 (gWK g S kd r i a bo (sb + rp) w rf) w (S 2) i (sb + rp)) i bo oc) i sb rp (rf + 1) oc' (k + 1) e ov ∧ INN c S 6 12 = 1) ∨ (∃ x, x < 11 ∧ NEX c = nI x ∧ MIDR (INN c S) (X9_completes_g11 (X9_leavesS_g7 (gWK g S kd r i a bo (sb + rp) w rf) w x (S 2) i (sb + rp)) i bo oc) i sb (rp + 1) (rf + 1) oc' (k + 1) e ov ∧ INN c S 6 12 = 0)) := by
  obtain ⟨hs, hn, hr1, hrf, hoc, hbw9, ⟨bl, t, L, hbl, ht, hL, hocL, hcf⟩, hbat⟩ := hm
  have hocl := live_oc hs hcf hL.2 hocL hne
  have hbat2 : BAT (c 1) (c 6 9) (c 6 10) (c 6 11) rf ∧ c 3 ((rp - 1) * 8 + 2) = mn (c 6 9) (c 6 10) := by
    rcases hbat with q | q
    · exact q.2
    · rw [h12] at q; exact absurd q (by decide)
  obtain ⟨hB, hlow⟩ := hbat2
  have hrf9 := BAT_falls hB
  obtain ⟨a, b, ha, hb, hab, h9, h10, -⟩ := id hB
  have hs0 := hs
  obtain ⟨t0, t1, t2, t3, t4, t5, r3, r4, o2, o8, o9, o7, o6, o1⟩ := hs0
  have erp : (c 7 3).toNatClampNeg = rp := by rw [r3]; exact nI_c (by omega)
  have eI : INN c S = FOV (LEA (CWK (SWP (CNT c (nI kd) (nI r) 0) (S 7)) (WHO c (S 5)) (S 2)) (WHO c (S 5)) (S 2) (NEX c)) := by rw [inn_3 h0 (ROWS_clamp r3 (by omega)) (ROWS_clamp r4 (by omega)), h3, h4, h6]
  have hwho : WHO c (S 5) = nI (if S 5 = 0 then a else b) := by
    unfold WHO
    by_cases q : S 5 = 0
    · rw [if_pos q, if_pos q, h9]
    · rw [if_neg q, if_neg q, h10]
  have hw : (if S 5 = 0 then a else b) < 11 := by split <;> omega
  obtain ⟨s1, n1⟩ := sim_CNT (ru := nI r) (bd := 0) hi ha hb hab hbo hkd hr1 (by omega) hoc (odd_ok hr) hs hn h9 h10 hbw (by rw [hlow, h9, h10]; exact mn_nI ha hb)
  obtain ⟨y, z, hy, hz, hty, cf1⟩ := CF_CNT (bd := 0) hkd hr hL.2 (by omega) hcf
  obtain ⟨s2, n2⟩ := sim_SWP (sc := S 7) hi hoc hrf s1 n1
  have cf2 : CF (SWP (CNT c (nI kd) (nI r) 0) (S 7)) rf oc (bl + z) (t + y) L e ov := CF_same hL.2 cf1 rfl ⟨rfl, rfl, rfl⟩ rfl rfl rfl rfl
  obtain ⟨s3, n3⟩ := sim_CWK (way := S 2) (w := if S 5 = 0 then a else b) (bo := bo) hi hw hbo hoc (by omega) s2 n2 hbw hwho cf2.2.2.2.1
  have cf3 := CF_CWK (out := WHO c (S 5)) (way := S 2) hL.2 cf2
  refine ⟨a, b, _, ha, hb, h9, h10, rfl, by omega, by omega, (if 6 ≤ bl + z then oc + 1 else oc), ?_⟩
  rcases next_can hB with hx | ⟨x, hx, hx2, hx3⟩
  · refine Or.inl ⟨hx, ?_, ?_⟩
    · have hx' : NEX c = -1 := hx
      rw [eI, hx']
      obtain ⟨s4, n4⟩ := sim_LEAN (st := S 2) (w := if S 5 = 0 then a else b) hi hw hr1 (by omega) (by omega) hoc s3 n3 hwho
      have cf4 : CF (LEA (CWK (SWP (CNT c (nI kd) (nI r) 0) (S 7)) (WHO c (S 5)) (S 2)) (WHO c (S 5)) (S 2) (-1)) (rf + 1) oc (bl + z) (t + y) L e ov := CF_same hL.2 cf3 rfl ⟨rfl, rfl, rfl⟩ rfl rfl rfl rfl
      obtain ⟨s5, n5⟩ := sim_FOV hi hbo (by omega) (by omega) s4 n4 hbw
      have cf5 := CF_FOV hL.2 (by omega) (by omega) cf4
      rw [fov_oc cf4.2.2.2.2.2.1 (by omega)] at s5
      refine ⟨s5, n5, hr1, by omega, ?_, fov_bw hbo hbw, ⟨_, t + y, L, ?_, by omega, hL, ?_, cf5⟩, Or.inr rfl⟩
      · split <;> omega
      · split <;> omega
      · split <;> omega
    · have hx' : NEX c = -1 := hx
      rw [eI, hx']; rfl
  · have hx' : NEX c = nI x := hx2
    have hnx : ¬ nI x = -1 := nI_neg (by omega)
    have e12 : INN c S 6 12 = 0 := by
      rw [eI, hx']
      exact (if_neg hnx).trans h12
    have hB2 : BAT (INN c S 1) (INN c S 6 9) (INN c S 6 10) (INN c S 6 11) (X2_perform01_n18 rf (S 0)) := BAT_step hB (fun _ => by rw [h2]; exact ⟨nI_nn _ (by omega), nI_le (b := 5) (by omega) (by omega)⟩) (fun q => absurd (h0.symm.trans q) (by decide)) e12
    have e18 : X2_perform01_n18 rf (S 0) = rf + 1 := by unfold X2_perform01_n18; rw [h0]; rfl
    rw [e18] at hB2
    refine Or.inr ⟨x, hx, hx', ?_, e12⟩
    rw [eI, hx'] at hB2 ⊢
    obtain ⟨s4, n4⟩ := sim_LEAS (st := S 2) (w := if S 5 = 0 then a else b) hi hw hx hr1 hr2 hsb (by omega) hoc s3 n3 hwho
    have cf4 : CF (LEA (CWK (SWP (CNT c (nI kd) (nI r) 0) (S 7)) (WHO c (S 5)) (S 2)) (WHO c (S 5)) (S 2) (nI x)) (rf + 1) oc (bl + z) (t + y) L e ov := CF_same hL.2 cf3 rfl ⟨rfl, rfl, rfl⟩ rfl rfl rfl rfl
    obtain ⟨s5, n5⟩ := sim_FOV hi hbo (by omega) (by omega) s4 n4 hbw
    have cf5 := CF_FOV hL.2 (by omega) (by omega) cf4
    rw [fov_oc cf4.2.2.2.2.2.1 (by omega)] at s5
    refine ⟨s5, n5, by omega, by omega, ?_, fov_bw hbo hbw, ⟨_, t + y, L, ?_, by omega, hL, ?_, cf5⟩, Or.inl ⟨(if_neg hnx).trans h12, hB2, ?_⟩⟩
    · split <;> omega
    · split <;> omega
    · split <;> omega
    · refine (LEA_low (c := CWK (SWP (CNT c (nI kd) (nI r) 0) (S 7)) (WHO c (S 5)) (S 2)) (out := WHO c (S 5)) (st := S 2) hr2 erp hnx).trans ?_
      exact mn_fin.symm
theorem in_retire {c : Nat → Nat → Int32} {g S : Nat → Int32} {i sb rp rf oc k : Nat} {e ov : Int32} (hi : i < 4) (hr2 : rp ≤ 512) (hsb : sb + rp < 699) (hm : MIDR c g i sb rp rf oc k e ov) (h12 : c 6 12 = 0) (h0 : S 0 = 4) :
    ∃ a b w, a < 11 ∧ b < 11 ∧ c 6 9 = nI a ∧ c 6 10 = nI b ∧ w = (if S 5 = 0 then a else b) ∧ 
      ((NEX c = -1 ∧ MIDR (INN c S) (X9_leavesN_g1 g w (nI (X0_retireBatter_n1 (S 8))) i (sb + rp)) i sb rp rf oc (k + 1) e ov ∧ INN c S 6 12 = 1) ∨ (∃ x, x < 11 ∧ NEX c = nI x ∧ MIDR (INN c S) (X9_leavesS_g7 g w x (nI (X0_retireBatter_n1 (S 8))) i (sb + rp)) i sb (rp + 1) rf oc (k + 1) e ov ∧ INN c S 6 12 = 0)) := by
  obtain ⟨hs, hn, hr1, hrf, hoc, hbw9, ⟨bl, t, L, hbl, ht, hL, hocL, hcf⟩, hbat⟩ := hm
  have hbat2 : BAT (c 1) (c 6 9) (c 6 10) (c 6 11) rf ∧ c 3 ((rp - 1) * 8 + 2) = mn (c 6 9) (c 6 10) := by
    rcases hbat with q | q
    · exact q.2
    · rw [h12] at q; exact absurd q (by decide)
  obtain ⟨hB, hlow⟩ := hbat2
  obtain ⟨a, b, ha, hb, hab, h9, h10, -⟩ := id hB
  have hs0 := hs
  obtain ⟨t0, t1, t2, t3, t4, t5, r3, r4, o2, o8, o9, o7, o6, o1⟩ := hs0
  have erp : (c 7 3).toNatClampNeg = rp := by rw [r3]; exact nI_c (by omega)
  have eI : INN c S = LEA c (WHO c (S 5)) (nI (X0_retireBatter_n1 (S 8))) (NEX c) := inn_4 h0 (ROWS_clamp r3 (by omega)) (ROWS_clamp r4 (by omega))
  have hwho : WHO c (S 5) = nI (if S 5 = 0 then a else b) := by
    unfold WHO
    by_cases q : S 5 = 0
    · rw [if_pos q, if_pos q, h9]
    · rw [if_neg q, if_neg q, h10]
  have hw : (if S 5 = 0 then a else b) < 11 := by split <;> omega
  refine ⟨a, b, _, ha, hb, h9, h10, rfl, ?_⟩
  rcases next_can hB with hx | ⟨x, hx, hx2, hx3⟩
  · have hx' : NEX c = -1 := hx
    refine Or.inl ⟨hx, ?_, ?_⟩
    · rw [eI, hx']
      obtain ⟨s4, n4⟩ := sim_LEAN (st := nI (X0_retireBatter_n1 (S 8))) (w := if S 5 = 0 then a else b) hi hw hr1 (by omega) hrf hoc hs hn hwho
      exact ⟨s4, n4, hr1, hrf, hoc, hbw9, ⟨bl, t, L, hbl, by omega, hL, hocL, CF_same hL.2 hcf rfl ⟨rfl, rfl, rfl⟩ rfl rfl rfl rfl⟩, Or.inr rfl⟩
    · rw [eI, hx']; rfl
  · have hx' : NEX c = nI x := hx2
    have hnx : ¬ nI x = -1 := nI_neg (by omega)
    have e12 : INN c S 6 12 = 0 := by
      rw [eI, hx']
      exact (if_neg hnx).trans h12
    have hB2 : BAT (INN c S 1) (INN c S 6 9) (INN c S 6 10) (INN c S 6 11) (X2_perform01_n18 rf (S 0)) := BAT_step hB (fun q => absurd (h0.symm.trans q) (by decide)) (fun q => absurd (h0.symm.trans q) (by decide)) e12
    have e18 : X2_perform01_n18 rf (S 0) = rf := by unfold X2_perform01_n18; rw [h0]; rfl
    rw [e18] at hB2
    refine Or.inr ⟨x, hx, hx', ?_, e12⟩
    rw [eI, hx'] at hB2 ⊢
    obtain ⟨s4, n4⟩ := sim_LEAS (st := nI (X0_retireBatter_n1 (S 8))) (w := if S 5 = 0 then a else b) hi hw hx hr1 hr2 hsb hrf hoc hs hn hwho
    exact ⟨s4, n4, by omega, hrf, hoc, hbw9, ⟨bl, t, L, hbl, by omega, hL, hocL, CF_same hL.2 hcf rfl ⟨rfl, rfl, rfl⟩ rfl rfl rfl rfl⟩, Or.inl ⟨(if_neg hnx).trans h12, hB2, LEA_low hr2 erp hnx⟩⟩
