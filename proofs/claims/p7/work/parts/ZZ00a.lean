noncomputable def hTb : Nat → List Cond
  | 0 => tables_1_1
  | 1 => tables_1_2
  | 2 => tables_1_3
  | 3 => tables_1_4
  | 4 => tables_1_5
  | 5 => tables_1_6
  | _ => tables_1_7
theorem hTb_in (t : Nat) (w : Cond) (h : w ∈ hTb t) : w ∈ lw_tbl := by
  match t, h with
  | 0, h => exact hin1 h
  | 1, h => exact hin2 h
  | 2, h => exact hin3 h
  | 3, h => exact hin4 h
  | 4, h => exact hin5 h
  | 5, h => exact hin6 h
  | _ + 6, h => exact hin7 h
theorem hsub {L : List Cond} (P : List (Nat × Nat)) (h : L = P.filterMap (fun q => (hTb q.1)[q.2]?)) : ∀ w ∈ L, w ∈ lw_tbl := by
  intro w hw
  rw [h] at hw
  obtain ⟨q, -, hq⟩ := List.mem_filterMap.mp hw
  exact hTb_in _ _ (List.mem_of_getElem? hq)
theorem hinX_X0_t : ∀ w ∈ wsX00, w ∈ lw_tbl := hsub [(0, 131), (0, 133), (0, 135), (0, 137), (0, 139), (0, 141), (0, 143), (0, 145), (0, 147), (0, 149), (0, 151)] (by decide +kernel)
theorem hinX_X1_t : ∀ w ∈ wsX10, w ∈ lw_tbl := hsub [(0, 238), (1, 0), (1, 2), (1, 4), (1, 6), (1, 8), (1, 10), (1, 12), (1, 14)] (by decide +kernel)
theorem hinX_X2_t : ∀ w ∈ wsX20, w ∈ lw_tbl := hsub [(0, 160), (0, 162), (0, 164), (0, 166), (0, 168), (0, 170)] (by decide +kernel)
theorem hinX_X3_t : ∀ w ∈ wsX30, w ∈ lw_tbl := hsub [(0, 92), (0, 94), (0, 96), (0, 98), (0, 100), (0, 102), (0, 104), (0, 106), (0, 108)] (by decide +kernel)
theorem hinX_X4_t : ∀ w ∈ wsX40, w ∈ lw_tbl := hsub [(1, 55), (1, 57), (1, 59), (1, 61)] (by decide +kernel)
theorem hinX_X5_t : ∀ w ∈ wsX50, w ∈ lw_tbl := hsub [(0, 203), (0, 205), (0, 207), (0, 209), (0, 211), (0, 213), (0, 215), (0, 217), (0, 219)] (by decide +kernel)
theorem hinX_X6_t : ∀ w ∈ wsX60, w ∈ lw_tbl := hsub [(0, 57), (0, 59), (0, 61)] (by decide +kernel)
theorem hinX_X7_t : ∀ w ∈ wsX70, w ∈ lw_tbl := hsub [(1, 30), (1, 32), (1, 34), (1, 36), (1, 38)] (by decide +kernel)
theorem hinX_X8_t : ∀ w ∈ wsX80, w ∈ lw_tbl := hsub [(1, 75), (1, 77), (1, 79), (1, 81), (1, 83), (1, 85), (1, 87), (1, 89), (1, 91), (1, 93)] (by decide +kernel)
theorem hinX_X9_t : ∀ w ∈ wsX90, w ∈ lw_tbl := hsub [(5, 33), (5, 35), (5, 37), (5, 39), (5, 41), (5, 43), (5, 45), (5, 47), (5, 49), (5, 51), (5, 53), (5, 55), (5, 57), (5, 59), (5, 61), (5, 63), (5, 65), (5, 67), (5, 69), (5, 71), (5, 73), (5, 75)] (by decide +kernel)
