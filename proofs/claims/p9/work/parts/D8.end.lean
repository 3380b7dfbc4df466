/-! AN INNINGS STARTS -/
def ZER (g : Nat → Int32) (j : Nat) : Prop := (∀ k, k < 11 → g (25 + 11 * j + k) = 0) ∧ (∀ k, k < 66 → g (69 + 66 * j + k) = 0) ∧ (∀ k, k < 77 → g (333 + 77 * j + k) = 0)
theorem sh_lo {g : Nat → Int32} {s p : Nat} (h : p < 841) (h2 : p ≠ 22) : X9_share_g13 g s p = g p := by
  rw [X9_share_g13, upd_off h2, X9_share_g12, upd_off (by omega), X9_share_g11, upd_off (by omega), X9_share_g9, upd_off (by omega), X9_share_g7, upd_off (by omega), X9_share_g6, upd_off (by omega), X9_share_g5, upd_off (by omega), X9_share_g4, upd_off (by omega), X9_share_g3, upd_off (by omega), X9_share_g2, upd_off (by omega), X9_share_g1, upd_off (by omega), X9_share_g0, upd_off (by omega)]
theorem op_10 {g : Nat → Int32} {j p : Nat} (h : p ≠ 13) : X9_opens_g10 g j p = X9_opens_g7 g j p := by
  have a8 : X9_opens_g8 g j p = X9_opens_g7 g j p := by rw [X9_opens_g8, upd_off h]
  unfold X9_opens_g10 X9_opens_g9
  split
  · exact a8
  · split
    · exact a8
    · rfl
theorem op_7 {g : Nat → Int32} {j p : Nat} (h : p ≠ 4 ∧ (p < 6 ∨ 12 < p)) : X9_opens_g7 g j p = g p := by
  rw [X9_opens_g7, upd_off (by omega), X9_opens_g6, upd_off (by omega), X9_opens_g5, upd_off (by omega), X9_opens_g4, upd_off (by omega), X9_opens_g3, upd_off (by omega), X9_opens_g2, upd_off (by omega), X9_opens_g1, upd_off (by omega), X9_opens_g0, upd_off (by omega)]
theorem op_13 {g : Nat → Int32} {j p : Nat} (h : p ≠ 14 + j) (h2 : p ≠ 18 + j) : X9_opens_g13 g j p = X9_opens_g10 g j p := by rw [X9_opens_g13, upd_off h, X9_opens_g11, upd_off h2]
theorem op_36 {g : Nat → Int32} {j s p : Nat} (h : p < 69 + 66 * j ∨ 135 + 66 * j ≤ p) : X9_opens_g36 g j s p = X9_opens_g14 g j s p := by
  rw [X9_opens_g36, upd_off (by omega), X9_opens_g35, upd_off (by omega), X9_opens_g34, upd_off (by omega), X9_opens_g33, upd_off (by omega), X9_opens_g32, upd_off (by omega), X9_opens_g31, upd_off (by omega), X9_opens_g30, upd_off (by omega), X9_opens_g29, upd_off (by omega), X9_opens_g28, upd_off (by omega), X9_opens_g27, upd_off (by omega), X9_opens_g26, upd_off (by omega), X9_opens_g25, upd_off (by omega), X9_opens_g24, upd_off (by omega), X9_opens_g23, upd_off (by omega), X9_opens_g22, upd_off (by omega), X9_opens_g21, upd_off (by omega), X9_opens_g20, upd_off (by omega), X9_opens_g19, upd_off (by omega), X9_opens_g18, upd_off (by omega), X9_opens_g17, upd_off (by omega), X9_opens_g16, upd_off (by omega), X9_opens_g15, upd_off (by omega)]
/-- the numbers below 25 -/
theorem op_S {g : Nat → Int32} {j s p : Nat} (hj : j < 4) (hp : p < 25) (h2 : p ≠ 22) : X9_opens_g37 g j s p = X9_opens_g13 g j p := by
  rw [X9_opens_g37, sh_lo (by omega) h2, op_36 (by omega), X9_opens_g14, upd_off (by omega)]
/-- those above, but the batters and partnerships -/
theorem op_T {g : Nat → Int32} {j s p : Nat} (hj : j < 4) (hp : 25 ≤ p) (h : p < 69 + 66 * j ∨ 135 + 66 * j ≤ p) (h3 : p < 841) : X9_opens_g37 g j s p = if p = 25 + 11 * j + 9 then nI s else g p := by
  rw [X9_opens_g37, sh_lo h3 (by omega), op_36 h, X9_opens_g14, upd_ap]
  by_cases h9 : p = 25 + 11 * j + 9
  · rw [if_pos h9, if_pos h9]
  · rw [if_neg h9, if_neg h9, op_13 (by omega) (by omega), op_10 (by omega), op_7 (by omega)]
theorem st_B {x h : Nat → Int32} {j p : Nat} {v : Int32} (hp : p < 11) (e : EQ 66 x (Wn (69 + 66 * j) 66 h)) : EQ 66 (tset 6 11 66 (tset 6 11 66 x (nI p) 4 v) (nI p) 5 (-1)) (Wn (69 + 66 * j) 66 (upd (upd h (69 + 6 * (11 * j + p) + 4) v) (69 + 6 * (11 * j + p) + 5) (-1))) := by
  rw [ts6 (c := 4) p 4 rfl hp rfl (by omega), ts6 (c := 5) p 5 rfl hp rfl (by omega), W1_in hp (by omega), W1_in hp (by omega)]
  exact EQ_upd (EQ_upd e rfl) rfl
theorem sim_STA {c : Nat → Nat → Int32} {g : Nat → Int32} {j sb : Nat} {lm hr : Int32} (hj : j < 4) (hz : ZER g j) (hlm : lm = X9_opens_g10 g j 13) (hres : X0_start_x11 (c 0) lm hr = X9_opens_x12 g j) :
    SIM (STA c lm hr) (X9_opens_g37 g j sb) j sb 1 0 0 ∧ NOWR (STA c lm hr) (X9_opens_g37 g j sb) sb 1 := by
  obtain ⟨z0, z1, z2⟩ := hz
  have base : EQ 66 (zf (c 1) 0 (11 * 6)) (Wn (69 + 66 * j) 66 (X9_opens_g14 g j sb)) := by
    intro k hk
    rw [Wn_at hk, X9_opens_g14, upd_off (by omega), op_13 (by omega) (by omega), op_10 (by omega), op_7 (by omega), z1 k hk]
    unfold zf
    rw [if_pos (by omega)]
  have b0 : EQ 66 (X0_start_g0 (c 1)) (Wn (69 + 66 * j) 66 (X9_opens_g16 g j sb)) := st_B (p := 0) (by omega) base
  have b1 : EQ 66 (X0_start_g1 (c 1)) (Wn (69 + 66 * j) 66 (X9_opens_g18 g j sb)) := st_B (p := 1) (by omega) b0
  have b2 : EQ 66 (X0_start_g2 (c 1)) (Wn (69 + 66 * j) 66 (X9_opens_g20 g j sb)) := st_B (p := 2) (by omega) b1
  have b3 : EQ 66 (X0_start_g3 (c 1)) (Wn (69 + 66 * j) 66 (X9_opens_g22 g j sb)) := st_B (p := 3) (by omega) b2
  have b4 : EQ 66 (X0_start_g4 (c 1)) (Wn (69 + 66 * j) 66 (X9_opens_g24 g j sb)) := st_B (p := 4) (by omega) b3
  have b5 : EQ 66 (X0_start_g5 (c 1)) (Wn (69 + 66 * j) 66 (X9_opens_g26 g j sb)) := st_B (p := 5) (by omega) b4
  have b6 : EQ 66 (X0_start_g6 (c 1)) (Wn (69 + 66 * j) 66 (X9_opens_g28 g j sb)) := st_B (p := 6) (by omega) b5
  have b7 : EQ 66 (X0_start_g7 (c 1)) (Wn (69 + 66 * j) 66 (X9_opens_g30 g j sb)) := st_B (p := 7) (by omega) b6
  have b8 : EQ 66 (X0_start_g8 (c 1)) (Wn (69 + 66 * j) 66 (X9_opens_g32 g j sb)) := st_B (p := 8) (by omega) b7
  have b9 : EQ 66 (X0_start_g9 (c 1)) (Wn (69 + 66 * j) 66 (X9_opens_g34 g j sb)) := st_B (p := 9) (by omega) b8
  have b10 : EQ 66 (X0_start_g10 (c 1)) (Wn (69 + 66 * j) 66 (X9_opens_g36 g j sb)) := st_B (p := 10) (by omega) b9
  have e7 : ∀ p, p < 25 → p ≠ 13 → p ≠ 14 + j → p ≠ 18 + j → p ≠ 22 → X9_opens_g37 g j sb p = X9_opens_g7 g j p := fun p h1 h2 h3 h4 h5 => by
    rw [op_S hj h1 h5, op_13 h3 h4, op_10 h2]
  have q36 : ∀ p, p < 25 → p ≠ 13 → p ≠ 14 + j → p ≠ 18 + j → X9_opens_g36 g j sb p = X9_opens_g7 g j p := fun p h1 h2 h3 h4 => by
    rw [op_36 (by omega), X9_opens_g14, upd_off (by omega), op_13 h3 h4, op_10 h2]
  have r6 : X9_opens_g7 g j 6 = 0 := by
    rw [X9_opens_g7, upd_off (by omega), X9_opens_g6, upd_off (by omega), X9_opens_g5, upd_off (by omega), X9_opens_g4, upd_off (by omega), X9_opens_g3, upd_off (by omega), X9_opens_g2, upd_off (by omega), X9_opens_g1, upd_at]
  have r7 : X9_opens_g7 g j 7 = 1 := by
    rw [X9_opens_g7, upd_off (by omega), X9_opens_g6, upd_off (by omega), X9_opens_g5, upd_off (by omega), X9_opens_g4, upd_off (by omega), X9_opens_g3, upd_off (by omega), X9_opens_g2, upd_at]
  refine ⟨⟨?_, ?_, ?_, ?_, ?_, ?_, rfl, rfl, rfl, ?_, ?_, ?_, ?_, ?_⟩, ?_, ?_, ?_, ?_, ?_, ?_, ?_, ?_, ?_⟩
  · intro k hk
    show zf (c 0) 0 (1 * 8) k = _
    rw [Wn_at (by omega), op_T hj (by omega) (by omega) (by omega), if_neg (by omega), z0 k (by omega)]
    unfold zf
    rw [if_pos (by omega)]
  · have e : Wn (69 + 66 * j) 66 (X9_opens_g37 g j sb) = Wn (69 + 66 * j) 66 (X9_opens_g36 g j sb) := by
      funext k
      unfold Wn
      split
      · rw [X9_opens_g37, sh_lo (by omega) (by omega)]
      · rfl
    rw [e]; exact b10
  · intro k hk
    show zf (c 2) 0 (11 * 7) k = _
    rw [Wn_at (by omega), op_T hj (by omega) (by omega) (by omega), if_neg (by omega), z2 k (by omega)]
    unfold zf
    rw [if_pos (by omega)]
  · show EQ (8 * (0 + 1)) (X0_beginPartnership_g2 0 (zf (c 3) 0 (0 * 8)) 0 1) (Wn (841 + 8 * sb) (8 * (0 + 1)) (X9_share_g13 (X9_opens_g36 g j sb) (sb + 0)))
    exact sh_P (by omega) (fun k hk => absurd hk (by omega)) (by rw [q36 6 (by omega) (by omega) (by omega) (by omega), r6]) (by rw [q36 7 (by omega) (by omega) (by omega) (by omega), r7])
  · intro k hk
    exact absurd hk (by omega)
  · intro k hk
    exact absurd hk (by omega)
  · rw [op_T hj (by omega) (by omega) (by omega), if_neg (by omega), z0 8 (by omega)]; rfl
  · rw [op_T hj (by omega) (by omega) (by omega), if_pos rfl]
  · show (0 : Int32) = _
    rw [op_T hj (by omega) (by omega) (by omega), if_neg (by omega), z0 10 (by omega)]
  · show X0_start_x11 (c 0) lm hr = _
    rw [op_S hj (by omega) (by omega), X9_opens_g13, upd_at]; exact hres
  · show lm = _
    rw [op_S hj (by omega) (by omega), X9_opens_g13, upd_off (by omega), X9_opens_g11, upd_at]; exact hlm
  · show lm = _
    rw [op_S hj (by omega) (by omega), op_13 (by omega) (by omega)]; exact hlm
  · show (-1 : Int32) = _
    rw [e7 9 (by omega) (by omega) (by omega) (by omega) (by omega), X9_opens_g7, upd_off (by omega), X9_opens_g6, upd_off (by omega), X9_opens_g5, upd_off (by omega), X9_opens_g4, upd_at]
  · show (-1 : Int32) = _
    rw [e7 12 (by omega) (by omega) (by omega) (by omega) (by omega), X9_opens_g7, upd_at]
  · show (0 : Int32) = _
    rw [e7 10 (by omega) (by omega) (by omega) (by omega) (by omega), X9_opens_g7, upd_off (by omega), X9_opens_g6, upd_off (by omega), X9_opens_g5, upd_at]
  · show (0 : Int32) = _
    rw [e7 11 (by omega) (by omega) (by omega) (by omega) (by omega), X9_opens_g7, upd_off (by omega), X9_opens_g6, upd_at]
  · show (0 : Int32) = _
    rw [e7 6 (by omega) (by omega) (by omega) (by omega) (by omega), r6]
  · show (1 : Int32) = _
    rw [e7 7 (by omega) (by omega) (by omega) (by omega) (by omega), r7]
  · show (-1 : Int32) = _
    rw [e7 8 (by omega) (by omega) (by omega) (by omega) (by omega), X9_opens_g7, upd_off (by omega), X9_opens_g6, upd_off (by omega), X9_opens_g5, upd_off (by omega), X9_opens_g4, upd_off (by omega), X9_opens_g3, upd_at]
  · rw [X9_opens_g37, X9_share_g13, upd_at]
/-! THE TARGET -/
theorem tgt2 {g x y z : Nat → Int32} (hx : x 0 = g 25) (hy : y 0 = g 36) (hz : z 0 = g 47) : X2_target2_r0 x y z = X9_target_r1 g 2 := by
  unfold X2_target2_r0 X9_target_r1
  rw [tg8 (c := 0) 0 rfl (by omega), tg8 (c := 0) 0 rfl (by omega), tg8 (c := 0) 0 rfl (by omega), hx, hy, hz, if_pos (by decide)]
theorem tgt1 {g x : Nat → Int32} {ra rb : Int32} (hx : x 0 = g 25) (ha : ra = g 14) (hb : rb = g 15) (hp : (0 : Int64) < (g 14).toInt64) : X2_target1_x0 ra x rb = X9_target_r1 g 1 := by
  unfold X2_target1_x0 X9_target_r1 X9_target_x0 X2_revisedTarget_r1 X2_revisedTarget_x0
  rw [tg8 (c := 0) 0 rfl (by omega), hx, ha, hb, if_neg (show ¬ nI 1 = 2 by decide)]
  have hq : ¬ lg_cmp (g 14).toInt64 0 ≤ 0 := Int32.not_le.mpr ((lg_cmp_gt _ _).mpr hp)
  have h1 : (1 : Int64).toInt32 = 1 := by decide
  have h2 : ∀ x : Int64, (x + 1).toInt32 = x.toInt32 + 1 := fun x => by rw [Int64.toInt32_add, h1]
  by_cases h : 0 < lg_cmp (g 15).toInt64 (g 14).toInt64
  · rw [if_pos h, if_neg (Int32.not_le.mpr h), h2]
  · rw [if_neg h, if_pos (Int32.not_lt.mp h), if_neg hq, h2]
