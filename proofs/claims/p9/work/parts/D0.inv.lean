theorem tIn_nI {C R n r c : Nat} (hr : r < R) (hc : c < C) (hR : R < 2000) (hC : C < 64) (hn : R * C ≤ n) (hnn : n < 1000000) : tIn (nI C) (nI R) n (nI r) (nI c) := by
  have hm : r * C + c < n := by
    have h1 : (r + 1) * C ≤ R * C := Nat.mul_le_mul_right C hr
    rw [Nat.add_mul, Nat.one_mul] at h1
    omega
  have e : nI r * nI C + nI c = nI (r * C + c) := by rw [pk_mul, nI_add]
  exact ⟨nI_nn _ (by omega), (nI_ltI (by omega) (by omega)).mpr hr, nI_nn _ (by omega), (nI_ltI (by omega) (by omega)).mpr hc, by rw [e]; exact nI_nn _ (by omega), by rw [e]; exact (nI_ltI (by omega) (by omega)).mpr hm⟩
theorem tat_nI {C R n r c : Nat} (hr : r < R) (hc : c < C) (hR : R < 2000) (hC : C < 64) (hn : R * C ≤ n) (hnn : n < 1000000) : (nI r * nI C + nI c).toNatClampNeg = r * C + c := by
  have hm : r * C + c < n := by
    have h1 : (r + 1) * C ≤ R * C := Nat.mul_le_mul_right C hr
    rw [Nat.add_mul, Nat.one_mul] at h1
    omega
  rw [pk_mul, nI_add]
  exact nI_c (by omega)
theorem tget_nI {C R n r c : Nat} (g : Nat → Int32) (hr : r < R) (hc : c < C) (hR : R < 2000) (hC : C < 64) (hn : R * C ≤ n) (hnn : n < 1000000) : tget (nI C) (nI R) n g (nI r) (nI c) = g (r * C + c) := by
  unfold tget
  rw [if_pos (tIn_nI hr hc hR hC hn hnn), tat_nI hr hc hR hC hn hnn]
theorem tset_nI {C R n r c : Nat} (g : Nat → Int32) (v : Int32) (hr : r < R) (hc : c < C) (hR : R < 2000) (hC : C < 64) (hn : R * C ≤ n) (hnn : n < 1000000) : tset (nI C) (nI R) n g (nI r) (nI c) v = upd g (r * C + c) v := by
  unfold tset
  rw [if_pos (tIn_nI hr hc hR hC hn hnn), tat_nI hr hc hR hC hn hnn]
theorem tinc_nI {C R n r c : Nat} (g : Nat → Int32) (v : Int32) (hr : r < R) (hc : c < C) (hR : R < 2000) (hC : C < 64) (hn : R * C ≤ n) (hnn : n < 1000000) : tinc (nI C) (nI R) n g (nI r) (nI c) v = upd g (r * C + c) (g (r * C + c) + v) := by
  unfold tinc
  rw [if_pos (tIn_nI hr hc hR hC hn hnn), tat_nI hr hc hR hC hn hnn]
/-! the batters' table: how each of them stands -/
def sta (g : Nat → Int32) (p : Nat) : Int32 := g (p * 6 + 4)
def isO (x : Int32) : Nat := if 0 ≤ x ∧ x ≤ 5 then 1 else 0
def outs (g : Nat → Int32) : Nat := isO (sta g 0) + isO (sta g 1) + isO (sta g 2) + isO (sta g 3) + isO (sta g 4) + isO (sta g 5) + isO (sta g 6) + isO (sta g 7) + isO (sta g 8) + isO (sta g 9) + isO (sta g 10)
theorem isO_le (x : Int32) : isO x ≤ 1 := by
  unfold isO
  split <;> omega
theorem outs_le {g : Nat → Int32} {a b : Nat} (ha : a < 11) (hb : b < 11) (hab : a ≠ b) (h1 : isO (sta g a) = 0) (h2 : isO (sta g b) = 0) : outs g ≤ 9 := by
  have h0 := fun p => isO_le (sta g p)
  have k0 := h0 0; have k1 := h0 1; have k2 := h0 2; have k3 := h0 3; have k4 := h0 4; have k5 := h0 5; have k6 := h0 6; have k7 := h0 7; have k8 := h0 8; have k9 := h0 9; have k10 := h0 10
  clear h0
  unfold outs
  have ea : a = 0 ∨ a = 1 ∨ a = 2 ∨ a = 3 ∨ a = 4 ∨ a = 5 ∨ a = 6 ∨ a = 7 ∨ a = 8 ∨ a = 9 ∨ a = 10 := by omega
  have eb : b = 0 ∨ b = 1 ∨ b = 2 ∨ b = 3 ∨ b = 4 ∨ b = 5 ∨ b = 6 ∨ b = 7 ∨ b = 8 ∨ b = 9 ∨ b = 10 := by omega
  rcases ea with rfl | rfl | rfl | rfl | rfl | rfl | rfl | rfl | rfl | rfl | rfl <;> rcases eb with rfl | rfl | rfl | rfl | rfl | rfl | rfl | rfl | rfl | rfl | rfl <;> omega
theorem sta_upd {g : Nat → Int32} {p q : Nat} {v : Int32} : sta (upd g (p * 6 + 4) v) q = if q = p then v else sta g q := by
  unfold sta
  by_cases h : q = p
  · rw [if_pos h, h, upd_at]
  · rw [if_neg h, upd_off (by omega)]
theorem sta_off {g : Nat → Int32} {k q : Nat} {v : Int32} (h : k % 6 ≠ 4) : sta (upd g k v) q = sta g q := by
  unfold sta
  rw [upd_off (by omega)]
/-- one player's standing changes: the others' stay -/
theorem outs_upd {g u : Nat → Int32} {p : Nat} (hp : p < 11) (h : ∀ q, q ≠ p → sta u q = sta g q) : outs u + isO (sta g p) = outs g + isO (sta u p) := by
  have e : ∀ q, q ≠ p → isO (sta u q) = isO (sta g q) := fun q hq => by rw [h q hq]
  unfold outs
  have ea : p = 0 ∨ p = 1 ∨ p = 2 ∨ p = 3 ∨ p = 4 ∨ p = 5 ∨ p = 6 ∨ p = 7 ∨ p = 8 ∨ p = 9 ∨ p = 10 := by omega
  rcases ea with rfl | rfl | rfl | rfl | rfl | rfl | rfl | rfl | rfl | rfl | rfl
  · rw [e 1 (by decide), e 2 (by decide), e 3 (by decide), e 4 (by decide), e 5 (by decide), e 6 (by decide), e 7 (by decide), e 8 (by decide), e 9 (by decide), e 10 (by decide)]; omega
  · rw [e 0 (by decide), e 2 (by decide), e 3 (by decide), e 4 (by decide), e 5 (by decide), e 6 (by decide), e 7 (by decide), e 8 (by decide), e 9 (by decide), e 10 (by decide)]; omega
  · rw [e 0 (by decide), e 1 (by decide), e 3 (by decide), e 4 (by decide), e 5 (by decide), e 6 (by decide), e 7 (by decide), e 8 (by decide), e 9 (by decide), e 10 (by decide)]; omega
  · rw [e 0 (by decide), e 1 (by decide), e 2 (by decide), e 4 (by decide), e 5 (by decide), e 6 (by decide), e 7 (by decide), e 8 (by decide), e 9 (by decide), e 10 (by decide)]; omega
  · rw [e 0 (by decide), e 1 (by decide), e 2 (by decide), e 3 (by decide), e 5 (by decide), e 6 (by decide), e 7 (by decide), e 8 (by decide), e 9 (by decide), e 10 (by decide)]; omega
  · rw [e 0 (by decide), e 1 (by decide), e 2 (by decide), e 3 (by decide), e 4 (by decide), e 6 (by decide), e 7 (by decide), e 8 (by decide), e 9 (by decide), e 10 (by decide)]; omega
  · rw [e 0 (by decide), e 1 (by decide), e 2 (by decide), e 3 (by decide), e 4 (by decide), e 5 (by decide), e 7 (by decide), e 8 (by decide), e 9 (by decide), e 10 (by decide)]; omega
  · rw [e 0 (by decide), e 1 (by decide), e 2 (by decide), e 3 (by decide), e 4 (by decide), e 5 (by decide), e 6 (by decide), e 8 (by decide), e 9 (by decide), e 10 (by decide)]; omega
  · rw [e 0 (by decide), e 1 (by decide), e 2 (by decide), e 3 (by decide), e 4 (by decide), e 5 (by decide), e 6 (by decide), e 7 (by decide), e 9 (by decide), e 10 (by decide)]; omega
  · rw [e 0 (by decide), e 1 (by decide), e 2 (by decide), e 3 (by decide), e 4 (by decide), e 5 (by decide), e 6 (by decide), e 7 (by decide), e 8 (by decide), e 10 (by decide)]; omega
  · rw [e 0 (by decide), e 1 (by decide), e 2 (by decide), e 3 (by decide), e 4 (by decide), e 5 (by decide), e 6 (by decide), e 7 (by decide), e 8 (by decide), e 9 (by decide)]; omega
/-- a write to another column, or outside the table, leaves how they stand -/
theorem sta_tset {g : Nat → Int32} {row c v : Int32} {q : Nat} (k : Nat) (hc : c = nI k) (hk : k < 6) (h4 : k ≠ 4) : sta (tset 6 11 66 g row c v) q = sta g q := by
  unfold tset
  by_cases h : tIn 6 11 66 row c
  · rw [if_pos h]
    obtain ⟨j, hj, rfl, _⟩ := pk_mu (x := row) (L := 11) (Int32.not_lt.mpr h.1) (Int32.not_le.mpr h.2.1) (by decide)
    rw [hc, show (6 : Int32) = nI 6 from rfl, tat_nI (R := 11) (n := 66) hj hk (by omega) (by omega) (by omega) (by omega)]
    exact sta_off (by omega)
  · rw [if_neg h]
theorem sta_tinc {g : Nat → Int32} {row c v : Int32} {q : Nat} (k : Nat) (hc : c = nI k) (hk : k < 6) (h4 : k ≠ 4) : sta (tinc 6 11 66 g row c v) q = sta g q := by
  have e : tinc 6 11 66 g row c v = tset 6 11 66 g row c (g (row * 6 + c).toNatClampNeg + v) := rfl
  rw [e]; exact sta_tset k hc hk h4
/-- a write of how p stands -/
theorem sta_tset4 {g : Nat → Int32} {v : Int32} {p q : Nat} (hp : p < 11) : sta (tset 6 11 66 g (nI p) 4 v) q = if q = p then v else sta g q := by
  rw [show tset 6 11 66 g (nI p) 4 v = upd g (p * 6 + 4) v from tset_nI (C := 6) (R := 11) (n := 66) (c := 4) g v hp (by omega) (by omega) (by omega) (by omega) (by omega)]
  exact sta_upd
theorem tget4 {g : Nat → Int32} {p : Nat} (hp : p < 11) : tget 6 11 66 g (nI p) 4 = sta g p := tget_nI (C := 6) (R := 11) (n := 66) (c := 4) g hp (by omega) (by omega) (by omega) (by omega) (by omega)
/-! who bats: two players, both batting; the falls are at most as many as those who are out; the chosen one can come in -/
def CAN (g : Nat → Int32) (x : Int32) : Prop := ∃ c, c < 11 ∧ x = nI c ∧ (sta g c = -2 ∨ sta g c = 6)
def BAT (g : Nat → Int32) (sk ot ch : Int32) (rf : Nat) : Prop := ∃ a b, a < 11 ∧ b < 11 ∧ a ≠ b ∧ sk = nI a ∧ ot = nI b ∧ sta g a = -1 ∧ sta g b = -1 ∧ rf ≤ outs g ∧ (ch = -1 ∨ CAN g ch)
theorem outs_eq {g u : Nat → Int32} (h : ∀ q, sta u q = sta g q) : outs u = outs g := by
  unfold outs
  rw [h 0, h 1, h 2, h 3, h 4, h 5, h 6, h 7, h 8, h 9, h 10]
theorem CAN_eq {g u : Nat → Int32} {x : Int32} (h : ∀ q, sta u q = sta g q) (hc : CAN g x) : CAN u x := by
  obtain ⟨c, h1, h2, h3⟩ := hc
  exact ⟨c, h1, h2, by rw [h c]; exact h3⟩
theorem BAT_eq {g u : Nat → Int32} {sk ot ch : Int32} {rf : Nat} (h : ∀ q, sta u q = sta g q) (hb : BAT g sk ot ch rf) : BAT u sk ot ch rf := by
  obtain ⟨a, b, h1, h2, h3, h4, h5, h6, h7, h8, h9⟩ := hb
  exact ⟨a, b, h1, h2, h3, h4, h5, by rw [h a]; exact h6, by rw [h b]; exact h7, by rw [outs_eq h]; exact h8, h9.elim Or.inl (fun q => Or.inr (CAN_eq h q))⟩
theorem BAT_swap {g : Nat → Int32} {sk ot ch : Int32} {rf : Nat} (hb : BAT g sk ot ch rf) : BAT g ot sk ch rf := by
  obtain ⟨a, b, h1, h2, h3, h4, h5, h6, h7, h8, h9⟩ := hb
  exact ⟨b, a, h2, h1, fun q => h3 q.symm, h5, h4, h7, h6, h8, h9⟩
theorem BAT_falls {g : Nat → Int32} {sk ot ch : Int32} {rf : Nat} (hb : BAT g sk ot ch rf) : rf ≤ 9 := by
  obtain ⟨a, b, h1, h2, h3, h4, h5, h6, h7, h8, h9⟩ := hb
  have := outs_le h1 h2 h3 (by rw [h6]; decide) (by rw [h7]; decide)
  omega
theorem sta_count {g : Nat → Int32} {sk kd ru sb : Int32} (q : Nat) : sta (X0_count_g6 g sk kd ru sb) q = sta g q := by
  unfold X0_count_g6 X0_countForStriker_g2
  split
  · rw [sta_tinc (c := 1) 1 rfl (by omega) (by omega), sta_tinc (c := 0) 0 rfl (by omega) (by omega)]
  · rw [sta_tinc (X0_countForStriker_n1 ru) rfl (by unfold X0_countForStriker_n1; split <;> omega) (by unfold X0_countForStriker_n1; split <;> omega), sta_tinc (c := 1) 1 rfl (by omega) (by omega), sta_tinc (c := 0) 0 rfl (by omega) (by omega)]
theorem sta_countWicket {g : Nat → Int32} {bw out way : Int32} (q : Nat) : sta (X0_countWicket_g3 g bw out way) q = sta g q := by
  unfold X0_countWicket_g3
  split
  · rfl
  · exact sta_tset 5 rfl (by omega) (by omega)
theorem low_can {g : Nat → Int32} {v : Int32} (hv : v = -2 ∨ v = 6) : X0_lowestWhoStands_r0 g v = -1 ∨ CAN g (X0_lowestWhoStands_r0 g v) := by
  have T : ∀ k, k < 11 → tget 6 11 66 g (nI k) 4 = v → CAN g (nI k) := fun k hk h => ⟨k, hk, rfl, by rw [tget4 hk] at h; rw [h]; exact hv⟩
  unfold X0_lowestWhoStands_r0
  split
  · rename_i h; exact Or.inr (T 0 (by omega) h)
  split
  · rename_i h; exact Or.inr (T 1 (by omega) h)
  split
  · rename_i h; exact Or.inr (T 2 (by omega) h)
  split
  · rename_i h; exact Or.inr (T 3 (by omega) h)
  split
  · rename_i h; exact Or.inr (T 4 (by omega) h)
  split
  · rename_i h; exact Or.inr (T 5 (by omega) h)
  split
  · rename_i h; exact Or.inr (T 6 (by omega) h)
  split
  · rename_i h; exact Or.inr (T 7 (by omega) h)
  split
  · rename_i h; exact Or.inr (T 8 (by omega) h)
  split
  · rename_i h; exact Or.inr (T 9 (by omega) h)
  split
  · rename_i h; exact Or.inr (T 10 (by omega) h)
  · exact Or.inl rfl
theorem next_can {g : Nat → Int32} {sk ot ch : Int32} {rf : Nat} (hb : BAT g sk ot ch rf) : X0_nextBatter_r1 g ch = -1 ∨ CAN g (X0_nextBatter_r1 g ch) := by
  obtain ⟨a, b, h1, h2, h3, h4, h5, h6, h7, h8, h9⟩ := hb
  unfold X0_nextBatter_r1
  split
  · unfold X0_nextBatter_x0
    split
    · exact low_can (Or.inr rfl)
    · exact low_can (Or.inl rfl)
  · rename_i hc
    rcases h9 with h9 | h9
    · exact absurd h9 hc
    · exact Or.inr h9
/-- one of the two leaves and another comes in -/
theorem BAT_leave {g : Nat → Int32} {sk ot ch pl v nx : Int32} {rf : Nat} (hb : BAT g sk ot ch rf) (hpl : pl = sk ∨ pl = ot) (hn : CAN g nx) (hv : v ≠ -1) : BAT (X0_leave_g3 g pl v nx) (X0_leave_x5 sk pl nx) (X0_leave_x6 sk ot pl nx) (X0_leave_x7 ch nx) (rf + isO v) := by
  obtain ⟨a, b, h1, h2, h3, h4, h5, h6, h7, h8, h9⟩ := hb
  obtain ⟨c, c1, c2, c3⟩ := hn
  have hnx : ¬ nx = -1 := by
    rw [c2]; intro q
    have h0 := nI_nn c (by omega)
    rw [q] at h0
    exact absurd h0 (by decide)
  have hca : c ≠ a := fun q => by rw [q, h6] at c3; rcases c3 with c3 | c3 <;> exact absurd c3 (by decide)
  have hcb : c ≠ b := fun q => by rw [q, h7] at c3; rcases c3 with c3 | c3 <;> exact absurd c3 (by decide)
  have hab : ¬ nI b = nI a := fun q => h3 ((nI_eq (by omega) (by omega)).mp q).symm
  have hc0 : isO (sta g c) = 0 := by rcases c3 with c3 | c3 <;> (rw [c3]; decide)
  unfold X0_leave_g3 X0_leave_x5 X0_leave_x6 X0_leave_x7 X0_leave_x0 X0_leave_x1
  rw [if_neg hnx, if_neg hnx, if_neg hnx, if_neg hnx, c2]
  have key : ∀ p, p < 11 → c ≠ p → sta g p = -1 → outs g + isO v = outs (tset 6 11 66 (tset 6 11 66 g (nI p) 4 v) (nI c) 4 (-1)) := by
    intro p hp hcp hs
    have k1 := outs_upd (g := g) (u := tset 6 11 66 g (nI p) 4 v) hp (fun q hq => by rw [sta_tset4 hp, if_neg hq])
    rw [sta_tset4 hp, if_pos rfl, hs] at k1
    have k2 := outs_upd (g := tset 6 11 66 g (nI p) 4 v) (u := tset 6 11 66 (tset 6 11 66 g (nI p) 4 v) (nI c) 4 (-1)) c1 (fun q hq => by rw [sta_tset4 c1, if_neg hq])
    rw [sta_tset4 c1, if_pos rfl, sta_tset4 hp, if_neg hcp, hc0] at k2
    rw [show isO (-1) = 0 by decide] at k1 k2
    omega
  rcases hpl with rfl | rfl
  · rw [h4] at *
    rw [if_pos rfl, if_pos rfl]
    refine ⟨c, b, c1, h2, hcb, rfl, h5, ?_, ?_, ?_, Or.inl rfl⟩
    · rw [sta_tset4 c1, if_pos rfl]
    · rw [sta_tset4 c1, if_neg (fun q => hcb q.symm), sta_tset4 h1, if_neg (fun q => h3 q.symm)]; exact h7
    · rw [← key a h1 hca h6]; omega
  · rw [h5, h4, if_neg hab, if_neg hab]
    refine ⟨a, c, h1, c1, fun q => hca q.symm, rfl, rfl, ?_, ?_, ?_, Or.inl rfl⟩
    · rw [sta_tset4 c1, if_neg (fun q => hca q.symm), sta_tset4 h2, if_neg h3]; exact h6
    · rw [sta_tset4 c1, if_pos rfl]
    · rw [← key b h2 hcb h7]; omega
/-! an innings that starts -/
theorem two4 {g : Nat → Int32} {v w : Int32} {k q : Nat} (hk : k < 11) : sta (tset 6 11 66 (tset 6 11 66 g (nI k) 4 v) (nI k) 5 w) q = if q = k then v else sta g q := by
  rw [sta_tset (c := 5) 5 rfl (by omega) (by omega)]
  exact sta_tset4 hk
theorem sta_start {g : Nat → Int32} {q : Nat} (hq : q < 11) : sta (X0_start_g10 g) q = if q < 2 then -1 else -2 := by
  have e10 : sta (X0_start_g10 g) q = if q = 10 then -2 else sta (X0_start_g9 g) q := two4 (k := 10) (by omega)
  have e9 : sta (X0_start_g9 g) q = if q = 9 then -2 else sta (X0_start_g8 g) q := two4 (k := 9) (by omega)
  have e8 : sta (X0_start_g8 g) q = if q = 8 then -2 else sta (X0_start_g7 g) q := two4 (k := 8) (by omega)
  have e7 : sta (X0_start_g7 g) q = if q = 7 then -2 else sta (X0_start_g6 g) q := two4 (k := 7) (by omega)
  have e6 : sta (X0_start_g6 g) q = if q = 6 then -2 else sta (X0_start_g5 g) q := two4 (k := 6) (by omega)
  have e5 : sta (X0_start_g5 g) q = if q = 5 then -2 else sta (X0_start_g4 g) q := two4 (k := 5) (by omega)
  have e4 : sta (X0_start_g4 g) q = if q = 4 then -2 else sta (X0_start_g3 g) q := two4 (k := 4) (by omega)
  have e3 : sta (X0_start_g3 g) q = if q = 3 then -2 else sta (X0_start_g2 g) q := two4 (k := 3) (by omega)
  have e2 : sta (X0_start_g2 g) q = if q = 2 then -2 else sta (X0_start_g1 g) q := two4 (k := 2) (by omega)
  have e1 : sta (X0_start_g1 g) q = if q = 1 then -1 else sta (X0_start_g0 g) q := two4 (k := 1) (by omega)
  have e0 : sta (X0_start_g0 g) q = if q = 0 then -1 else sta (zf g 0 (11 * 6)) q := two4 (k := 0) (by omega)
  rw [e10, e9, e8, e7, e6, e5, e4, e3, e2, e1, e0]
  have ea : q = 0 ∨ q = 1 ∨ q = 2 ∨ q = 3 ∨ q = 4 ∨ q = 5 ∨ q = 6 ∨ q = 7 ∨ q = 8 ∨ q = 9 ∨ q = 10 := by omega
  clear e10 e9 e8 e7 e6 e5 e4 e3 e2 e1 e0
  rcases ea with rfl | rfl | rfl | rfl | rfl | rfl | rfl | rfl | rfl | rfl | rfl <;> rfl
theorem BAT_start {g : Nat → Int32} : BAT (X0_start_g10 g) 0 1 (-1) 0 :=
  ⟨0, 1, by omega, by omega, by omega, rfl, rfl, by rw [sta_start (by omega)]; rfl, by rw [sta_start (by omega)]; rfl, Nat.zero_le _, Or.inl rfl⟩
/-! a step: who bats after it -/
theorem BAT_cnt {g : Nat → Int32} {sk ot ch ru sb : Int32} {rf : Nat} (hb : BAT g sk ot ch rf) : BAT g (X0_count_x2 sk ot ru sb) (X0_count_x3 sk ot ru sb) ch rf := by
  unfold X0_count_x2 X0_count_x3
  by_cases h : (X5_changesEnds_x1 ru sb) = 0
  · rw [if_pos h, if_pos h]; exact hb
  · rw [if_neg h, if_neg h]; exact BAT_swap hb
theorem BAT_fin {g : Nat → Int32} {sk ot ch bl : Int32} {rf : Nat} (hb : BAT g sk ot ch rf) : BAT g (X0_finishOver_x1 bl sk ot) (X0_finishOver_x2 bl sk ot) ch rf := by
  unfold X0_finishOver_x1 X0_finishOver_x2
  by_cases h : 6 ≤ bl
  · rw [if_pos h, if_pos h]; exact BAT_swap hb
  · rw [if_neg h, if_neg h]; exact hb
theorem BAT_wk {g : Nat → Int32} {sk ot ch ru sb sc : Int32} {rf : Nat} (hb : BAT g sk ot ch rf) : BAT g (X0_scoreWicket_x1 sk ot ru sb sc) (X0_scoreWicket_x2 sk ot ru sb sc) ch rf := by
  unfold X0_scoreWicket_x1 X0_scoreWicket_x2
  by_cases h : sc = 0
  · rw [if_pos h, if_pos h]; exact BAT_cnt hb
  · rw [if_neg h, if_neg h]; exact BAT_swap (BAT_cnt hb)
theorem wk_two {sk ot ru sb sc so : Int32} : X0_scoreWicket_x0 sk ot so = X0_scoreWicket_x1 sk ot ru sb sc ∨ X0_scoreWicket_x0 sk ot so = X0_scoreWicket_x2 sk ot ru sb sc := by
  unfold X0_scoreWicket_x0 X0_scoreWicket_x1 X0_scoreWicket_x2 X0_count_x2 X0_count_x3
  by_cases h1 : so = 0 <;> by_cases h2 : sc = 0 <;> by_cases h3 : (X5_changesEnds_x1 ru sb) = 0 <;> simp [h1, h2, h3]
theorem BAT_step {sk ot ch bw ty wy kd ru so sb sh bl sc nu nc : Int32} {g1 : Nat → Int32} {rf : Nat} (hb : BAT g1 sk ot ch rf) (hw : ty = 3 → 0 ≤ wy ∧ wy ≤ 5) (hc : ty = 5 → CAN g1 nu) (hn : X2_perform01_x16 ch nc g1 ty = 0) : BAT (X2_perform01_g10 sk ot ch g1 bw ty wy kd ru so sb sh) (X2_perform01_x13 sk ot ch g1 bl ty kd ru so sb sc) (X2_perform01_x14 sk ot ch g1 bl ty kd ru so sb sc) (X2_perform01_x15 ch g1 ty nu) (X2_perform01_n18 rf ty) := by
  have lv : X0_leave_x8 nc (X0_nextBatter_r1 g1 ch) = 0 → CAN g1 (X0_nextBatter_r1 g1 ch) := by
    intro h
    rcases next_can hb with q | q
    · unfold X0_leave_x8 at h
      rw [if_pos q] at h
      exact absurd h (by decide)
    · exact q
  unfold X2_perform01_x16 at hn
  unfold X2_perform01_g10 X2_perform01_x13 X2_perform01_x14 X2_perform01_x15 X2_perform01_n18
  by_cases h1 : ty = 1
  · simp only [if_pos h1]; exact hb
  by_cases h2 : ty = 2
  · simp only [if_neg h1, if_pos h2]
    exact BAT_fin (BAT_cnt (BAT_eq (fun q => sta_count q) hb))
  by_cases h3 : ty = 3
  · simp only [if_neg h1, if_neg h2, if_pos h3] at hn ⊢
    have hcan := lv hn
    have hs : ∀ q, sta (X0_scoreWicket_g4 g1 bw sk ot wy kd ru so sb) q = sta g1 q := fun q => by
      unfold X0_scoreWicket_g4
      rw [sta_countWicket, sta_count]
    have hb2 : BAT (X0_scoreWicket_g4 g1 bw sk ot wy kd ru so sb) (X0_scoreWicket_x1 sk ot ru sb sc) (X0_scoreWicket_x2 sk ot ru sb sc) ch rf := BAT_wk (BAT_eq hs hb)
    have hv : isO wy = 1 := by unfold isO; rw [if_pos (hw h3)]
    have hv2 : wy ≠ -1 := fun q => by rw [q] at hv; exact absurd hv (by decide)
    have h9 := BAT_leave hb2 (pl := X0_scoreWicket_x0 sk ot so) wk_two (CAN_eq hs hcan) hv2
    rw [hv] at h9
    exact BAT_fin h9
  by_cases h4 : ty = 4
  · simp only [if_neg h1, if_neg h2, if_neg h3, if_pos h4] at hn ⊢
    have hcan := lv hn
    have hv : isO (nI (X0_retireBatter_n1 sh)) = 0 := by unfold X0_retireBatter_n1; split <;> decide
    have hv2 : nI (X0_retireBatter_n1 sh) ≠ -1 := by unfold X0_retireBatter_n1; split <;> decide
    have hp : X0_retireBatter_x0 sk ot so = sk ∨ X0_retireBatter_x0 sk ot so = ot := by
      unfold X0_retireBatter_x0
      by_cases h : so = 0
      · rw [if_pos h]; exact Or.inl rfl
      · rw [if_neg h]; exact Or.inr rfl
    have h9 := BAT_leave hb hp hcan hv2
    rw [hv] at h9
    exact h9
  by_cases h5 : ty = 5
  · simp only [if_neg h1, if_neg h2, if_neg h3, if_neg h4, if_pos h5]
    obtain ⟨a, b, k1, k2, k3, k4, k5, k6, k7, k8, k9⟩ := hb
    exact ⟨a, b, k1, k2, k3, k4, k5, k6, k7, k8, Or.inr (hc h5)⟩
  · simp only [if_neg h1, if_neg h2, if_neg h3, if_neg h4, if_neg h5]; exact hb
