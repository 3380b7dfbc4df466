/-! WHAT HOLDS OF AN INNINGS WHILE IT IS PLAYED (the program's numbers) -/
def mn (x y : Int32) : Int32 := if y < x then y else x
theorem mn_comm (x y : Int32) : mn x y = mn y x := by
  unfold mn
  by_cases h : y < x
  · rw [if_pos h, if_neg (Int32.not_lt.mpr (Int32.le_of_lt h))]
  · by_cases h2 : x < y
    · rw [if_neg h, if_pos h2]
    · rw [if_neg h, if_neg h2]; exact Int32.le_antisymm (Int32.not_lt.mp h) (Int32.not_lt.mp h2)
theorem mn_nI {a b : Nat} (ha : a < 11) (hb : b < 11) : mn (nI a) (nI b) = nI (if a < b then a else b) := by
  unfold mn
  by_cases h : b < a
  · rw [if_pos ((nI_ltI (by omega) (by omega)).mpr h), if_neg (by omega)]
  · rw [if_neg (fun q => h ((nI_ltI (by omega) (by omega)).mp q))]
    by_cases h2 : a < b
    · rw [if_pos h2]
    · rw [if_neg h2]; congr 1; omega
def fR (l : Nat) : Nat := 240 * l - l * l
theorem fR_s {l : Nat} (h : l < 120) : fR l ≤ fR (l + 1) := by
  unfold fR
  have e : (l + 1) * (l + 1) = l * l + 2 * l + 1 := by rw [Nat.add_mul, Nat.mul_add]; omega
  rw [e]; omega
theorem fR_mono {l : Nat} (d : Nat) (h : l + d ≤ 120) : fR l ≤ fR (l + d) := by
  induction d with
  | zero => exact Nat.le_refl _
  | succ d ih => exact Nat.le_trans (ih (by omega)) (fR_s (by omega))
theorem fR_le {l m : Nat} (h : l ≤ m) (hm : m ≤ 120) : fR l ≤ fR m := by
  have e : m = l + (m - l) := by omega
  rw [e]; exact fR_mono _ (by omega)
theorem fR_120 {l : Nat} (h : l ≤ 120) : fR l ≤ 14400 := fR_le (m := 120) h (Nat.le_refl _)
theorem fR_pos {l : Nat} (h : 1 ≤ l) (h2 : l ≤ 120) : 1 ≤ fR l := Nat.le_trans (show 1 ≤ fR 1 by decide) (fR_le h h2)
def RESOK (c : Nat → Nat → Int32) (l : Nat) : Prop := ∃ r, c 6 8 = nI r ∧ r ≤ 144000 ∧ 10 * fR l ≤ r ∧ 1 ≤ r
theorem RESOK_mono {c d : Nat → Nat → Int32} {l m : Nat} (h : RESOK c m) (e : d 6 8 = c 6 8) (hl : l ≤ m) (hm : m ≤ 120) : RESOK d l := by
  obtain ⟨r, h1, h2, h3, h4⟩ := h
  exact ⟨r, e.trans h1, h2, Nat.le_trans (Nat.mul_le_mul_left 10 (fR_le hl hm)) h3, h4⟩
/-- rf wickets, oc overs and bl balls, t runs, the limit L -/
def CF (c : Nat → Nat → Int32) (rf oc bl t L : Nat) (e ov : Int32) : Prop := (c 7 0 = 1 ∧ c 7 1 = 11 ∧ c 7 2 = 11) ∧ c 0 0 = nI t ∧ c 0 7 = 0 ∧ c 0 1 = nI rf ∧ c 0 2 = nI (6 * oc + bl) ∧ c 6 5 = nI bl ∧ c 6 0 = nI L ∧ (c 6 7 = 0 ∨ (c 6 7 = 1 ∧ oc < 20)) ∧ (c 6 7 = 0 → bl = 0) ∧ (e = 2 → c 6 0 = ov) ∧ (e = 1 → RESOK c (6 * L - (6 * oc + bl)))
theorem cnt_0 {x : Nat → Int32} {kd r : Nat} (hk : kd < 5) (hr : r ≤ 6) : (∃ y, y ≤ 7 ∧ X0_count_g4 x (nI kd) (nI r) 0 = x 0 + nI y ∧ X5_teamRuns_x1 (nI kd) (nI r) = nI y) ∧ X0_count_g4 x (nI kd) (nI r) 1 = x 1 ∧ X0_count_g4 x (nI kd) (nI r) 7 = x 7 ∧ (∃ z, z ≤ 1 ∧ X0_count_g4 x (nI kd) (nI r) 2 = x 2 + nI z ∧ X0_countForBowler_x0 (nI kd) = nI z) := by
  have h9 : kd = 0 ∨ kd = 1 ∨ kd = 2 ∨ kd = 3 ∨ kd = 4 := by omega
  have e1 : nI r + 1 = nI (r + 1) := nI_add r 1
  rcases h9 with rfl | rfl | rfl | rfl | rfl
  · unfold X0_count_g4 X0_count_g1
    simp (disch := omega) only [kf_ex_0, kf_tr_0, kf_l0_0, kf_l1_0, ti8_0, ti8_2, incr_off, incr_at]
    exact ⟨⟨r, by omega, rfl, rfl⟩, trivial, trivial, ⟨1, by omega, rfl, rfl⟩⟩
  · unfold X0_count_g4 X0_count_g1
    simp (disch := omega) only [kf_ex_1, kf_tr_1, kf_l0_1, kf_l1_1, ti8_0, ti8_2, ti8_3, incr_off, incr_at]
    exact ⟨⟨r + 1, by omega, by rw [e1], e1⟩, trivial, trivial, ⟨0, by omega, rfl, rfl⟩⟩
  · unfold X0_count_g4 X0_count_g1
    simp (disch := omega) only [kf_ex_2, kf_tr_2, kf_l0_2, kf_l1_2, ti8_0, ti8_2, ti8_4, incr_off, incr_at]
    exact ⟨⟨r + 1, by omega, by rw [e1], e1⟩, trivial, trivial, ⟨0, by omega, rfl, rfl⟩⟩
  · unfold X0_count_g4 X0_count_g1
    simp (disch := omega) only [kf_ex_3, kf_tr_3, kf_l0_3, kf_l1_3, ti8_0, ti8_2, ti8_5, incr_off, incr_at]
    exact ⟨⟨r, by omega, rfl, rfl⟩, trivial, trivial, ⟨1, by omega, rfl, rfl⟩⟩
  · unfold X0_count_g4 X0_count_g1
    simp (disch := omega) only [kf_ex_4, kf_tr_4, kf_l0_4, kf_l1_4, ti8_0, ti8_2, ti8_6, incr_off, incr_at]
    exact ⟨⟨r, by omega, rfl, rfl⟩, trivial, trivial, ⟨1, by omega, rfl, rfl⟩⟩
theorem cnt_low {x : Nat → Int32} {rp : Nat} {sk ot kd ru : Int32} (hr : 1 ≤ rp) (hr2 : rp ≤ 513) : X0_count_g7 rp x sk ot kd ru ((rp - 1) * 8 + 2) = x ((rp - 1) * 8 + 2) := by
  unfold X0_count_g7 X0_countForPartnership_g2
  have hn : X0_countForPartnership_n1 sk ot = 4 ∨ X0_countForPartnership_n1 sk ot = 5 := by unfold X0_countForPartnership_n1; split <;> omega
  rw [tiP_6 hr hr2, incr_off (by omega), tiP (k := X0_countForPartnership_n1 sk ot) hr hr2 rfl (by omega), incr_off (by omega), tiP_1 hr hr2, incr_off (by omega), tiP_0 hr hr2, incr_off (by omega)]
/-- a ball counted -/
theorem CF_CNT {c : Nat → Nat → Int32} {kd r rf oc bl t L : Nat} {bd e ov : Int32} (hk : kd < 5) (hr : r ≤ 6) (hL : L ≤ 20) (ho : oc < 20) (h : CF c rf oc bl t L e ov) : ∃ y z, y ≤ 7 ∧ z ≤ 1 ∧ X5_teamRuns_x1 (nI kd) (nI r) = nI y ∧ CF (CNT c (nI kd) (nI r) bd) rf oc (bl + z) (t + y) L e ov := by
  obtain ⟨h7, h0, h07, h01, h02, h65, h60, h67, h67b, he2, he1⟩ := h
  obtain ⟨⟨y, y1, y2, y3⟩, k1, k7, ⟨z, z1, z2, z3⟩⟩ := cnt_0 (x := c 0) hk hr
  refine ⟨y, z, y1, z1, y3, h7, ?_, k7.trans h07, k1.trans h01, ?_, ?_, h60, Or.inr ⟨rfl, ho⟩, fun q => absurd q (show ¬ (1 : Int32) = 0 by decide), he2, fun q => RESOK_mono (he1 q) rfl (by omega) (by omega)⟩
  · exact y2.trans (by rw [h0]; exact nI_add t y)
  · exact z2.trans (by rw [h02, nI_add, Nat.add_assoc])
  · show c 6 5 + X0_countForBowler_x0 (nI kd) = _
    rw [h65, z3]; exact nI_add bl z
/-- an over that may be complete -/
theorem CF_FOV {c : Nat → Nat → Int32} {rf oc bl t L : Nat} {e ov : Int32} (hL : L ≤ 20) (hoc : oc < 20) (hbl : bl ≤ 6) (h : CF c rf oc bl t L e ov) : CF (FOV c) rf (if 6 ≤ bl then oc + 1 else oc) (if 6 ≤ bl then 0 else bl) t L e ov := by
  obtain ⟨h7, h0, h07, h01, h02, h65, h60, h67, h67b, he2, he1⟩ := h
  have hi : (6 ≤ c 6 5) ↔ 6 ≤ bl := by rw [h65]; exact nI_leI (a := 6) (by omega) (by omega)
  by_cases hb : 6 ≤ bl
  · have h6 : 6 ≤ c 6 5 := hi.mpr hb
    rw [if_pos hb, if_pos hb]
    refine ⟨h7, h0, h07, h01, ?_, if_pos h6, h60, Or.inl (if_pos h6), fun _ => rfl, he2, fun q => RESOK_mono (he1 q) rfl (by omega) (by omega)⟩
    show c 0 2 = _
    rw [h02]; congr 1; omega
  · have h6 : ¬ 6 ≤ c 6 5 := fun q => hb (hi.mp q)
    rw [if_neg hb, if_neg hb]
    have e7 : FOV c 6 7 = c 6 7 := if_neg h6
    exact ⟨h7, h0, h07, h01, h02, (if_neg h6).trans h65, h60, by rw [e7]; exact h67, by rw [e7]; exact h67b, he2, fun q => RESOK_mono (he1 q) rfl (Nat.le_refl _) (by omega)⟩
theorem CF_same {c d : Nat → Nat → Int32} {rf oc bl t L : Nat} {e ov : Int32} (hL : L ≤ 20) (h : CF c rf oc bl t L e ov) (e0 : d 0 = c 0) (e7 : d 7 0 = c 7 0 ∧ d 7 1 = c 7 1 ∧ d 7 2 = c 7 2) (e65 : d 6 5 = c 6 5) (e60 : d 6 0 = c 6 0) (e67 : d 6 7 = c 6 7) (e68 : d 6 8 = c 6 8) : CF d rf oc bl t L e ov := by
  obtain ⟨h7, h0, h07, h01, h02, h65, h60, h67, h67b, he2, he1⟩ := h
  exact ⟨⟨e7.1.trans h7.1, e7.2.1.trans h7.2.1, e7.2.2.trans h7.2.2⟩, by rw [e0]; exact h0, by rw [e0]; exact h07, by rw [e0]; exact h01, by rw [e0]; exact h02, e65.trans h65, e60.trans h60, by rw [e67]; exact h67, by rw [e67]; exact h67b, fun q => e60.trans (he2 q), fun q => RESOK_mono (he1 q) e68 (Nat.le_refl _) (by omega)⟩
theorem CF_CWK {c : Nat → Nat → Int32} {rf oc bl t L : Nat} {out way e ov : Int32} (hL : L ≤ 20) (h : CF c rf oc bl t L e ov) : CF (CWK c out way) (rf + 1) oc bl t L e ov := by
  obtain ⟨h7, h0, h07, h01, h02, h65, h60, h67, h67b, he2, he1⟩ := h
  have e0 : CWK c out way 0 = incr (c 0) 1 1 := ti8_1
  refine ⟨h7, ?_, ?_, ?_, ?_, h65, h60, h67, h67b, he2, fun q => RESOK_mono (he1 q) rfl (Nat.le_refl _) (by omega)⟩
  · rw [e0, incr_off (by omega)]; exact h0
  · rw [e0, incr_off (by omega)]; exact h07
  · rw [e0, incr_at, h01]; exact nI_add rf 1
  · rw [e0, incr_off (by omega)]; exact h02
/-! who comes next -/
theorem low_eq {c1 g : Nat → Int32} {v : Int32} {i : Nat} (h : EQ 66 c1 (Wn (69 + 66 * i) 66 g)) : X0_lowestWhoStands_r0 c1 v = X9_lowest_r0 g v i := by
  have e : ∀ p, p < 11 → tget 6 11 66 c1 (nI p) 4 = g (69 + 6 * (11 * i + p) + 4) := fun p hp => by
    rw [tg6 (c := 4) p 4 rfl hp rfl (by omega), h _ (by omega)]
    exact (W1_at (g := g) hp (by omega)).symm
  unfold X0_lowestWhoStands_r0 X9_lowest_r0
  rw [show tget 6 11 66 c1 0 4 = _ from e 0 (by omega), show tget 6 11 66 c1 1 4 = _ from e 1 (by omega), show tget 6 11 66 c1 2 4 = _ from e 2 (by omega), show tget 6 11 66 c1 3 4 = _ from e 3 (by omega), show tget 6 11 66 c1 4 4 = _ from e 4 (by omega), show tget 6 11 66 c1 5 4 = _ from e 5 (by omega), show tget 6 11 66 c1 6 4 = _ from e 6 (by omega), show tget 6 11 66 c1 7 4 = _ from e 7 (by omega), show tget 6 11 66 c1 8 4 = _ from e 8 (by omega), show tget 6 11 66 c1 9 4 = _ from e 9 (by omega), show tget 6 11 66 c1 10 4 = _ from e 10 (by omega)]
theorem low_m1 {c1 : Nat → Int32} {v : Int32} (hv : v = -2 ∨ v = 6) : X0_lowestWhoStands_r0 c1 v = -1 ↔ X0_lowestWhoStands_r0 c1 v < 0 := by
  rcases low_can (g := c1) hv with q | ⟨k, k1, k2, k3⟩
  · rw [q]; decide
  · rw [k2]
    exact ⟨fun q => absurd q (nI_neg (by omega)), fun q => absurd q (Int32.not_lt.mpr (nI_nn k (by omega)))⟩
theorem next_eq {c1 g : Nat → Int32} {ch : Int32} {i : Nat} (h : EQ 66 c1 (Wn (69 + 66 * i) 66 g)) (h8 : ch = g 8) (hc : ch = -1 ∨ CAN c1 ch) : X0_nextBatter_r1 c1 ch = X9_next_r1 g i := by
  unfold X0_nextBatter_r1 X9_next_r1 X0_nextBatter_x0 X9_next_x0
  rw [← h8, ← low_eq h, ← low_eq h]
  rcases hc with hc | ⟨k, k1, k2, k3⟩
  · rw [if_pos hc, if_pos (show ch < 0 by rw [hc]; decide)]
    by_cases q : X0_lowestWhoStands_r0 c1 (-2) = -1
    · rw [if_pos q, if_pos ((low_m1 (Or.inl rfl)).mp q)]
    · rw [if_neg q, if_neg (fun q2 => q ((low_m1 (Or.inl rfl)).mpr q2))]
  · rw [if_neg (show ¬ ch = -1 by rw [k2]; exact nI_neg (by omega)), if_neg (show ¬ ch < 0 by rw [k2]; exact Int32.not_lt.mpr (nI_nn k (by omega)))]
