/-! AN ELEMENT OF A TEXT, both readings of it; s its first sign, n the next (0, or -1, if there is none) -/
def tB (s n : Int32) : Int32 := X8_isWithin_x1 n (X7_leastSecond_r1 s) (X7_mostSecond_r0 s)
def tW (s n : Int32) : Nat → Int32
  | 0 => if tB s n = 0 then (X7_single_x0 s) else (X7_pair_x0 s)
  | 1 => if tB s n = 0 then 0 else (X7_pair_x1 s n)
  | 2 => if tB s n = 0 then (X7_single_x1 s) else 0
  | 3 => if tB s n = 0 then (X7_single_x2 s) else (X7_pair_x2 s)
  | 4 => if tB s n = 0 then (X7_single_x3 s) else (X7_pair_x3 s n)
  | 5 => if tB s n = 0 then 0 else 0
  | 6 => if tB s n = 0 then (X7_single_x4 s) else (X7_pair_x4 s n)
  | 7 => if tB s n = 0 then 0 else 0
  | _ => if tB s n = 0 then 0 else 0
theorem psW_t {tl : Nat} {gb : Nat → Int32} {p : Nat} : psW tl gb p = tW (X7_sign_x1 tl p gb) (X7_sign_x1 tl (p + 1) gb) := by
  funext k
  match k with
  | 0 => rfl
  | 1 => rfl
  | 2 => rfl
  | 3 => rfl
  | 4 => rfl
  | 5 => rfl
  | 6 => rfl
  | 7 => rfl
  | k + 8 => rfl
/-- the reference's reading -/
def rF (m h : Int32) : Int32 := if (X9_isIn_x1 (h - 48) 1 m) = 0 then 0 else (h - 48)
def rL (m h : Int32) : Nat := if (X9_isIn_x1 (h - 48) 1 m) = 0 then 1 else 2
def rR (a b : Int32) : Int32 := if a = 46 then 1 else (if a = 64 then (X9_isIn_x1 (b - 97) 0 10) else (if a = 67 then 1 else (if a = 76 then 1 else (if a = 82 then 1 else (if a = 87 then 1 else (if a = 98 then (if (rF 4 b) ≤ 0 then 0 else 1) else (if a = 108 then (if (rF 4 b) ≤ 0 then 0 else 1) else (if a = 110 then 1 else (if a = 119 then 1 else (X9_isIn_x1 (a - 48) 1 6))))))))))
def rN (a b : Int32) : Nat := if a = 46 then 1 else (if a = 64 then (if X9_isIn_x1 (b - 97) 0 10 = 0 then 1 else 2) else (if a = 67 then 1 else (if a = 76 then 1 else (if a = 82 then 1 else (if a = 87 then 1 else (if a = 98 then rL 4 b else (if a = 108 then rL 4 b else (if a = 110 then rL 6 b else (if a = 119 then rL 4 b else (if X9_isIn_x1 (a - 48) 1 6 = 0 then 0 else 1))))))))))
def rWy (a : Int32) : Nat := if a = 87 then 0 else (if a = 67 then 1 else (if a = 76 then 2 else 5))
def r46 (x : Int32) : Int32 := if x = 4 then 1 else (if x = 6 then 1 else 0)
def rE (a b : Int32) : Nat → Int32
  | 0 => if a = 46 then 1 else (if a = 64 then 0 else (if a = 67 then 2 else (if a = 76 then 2 else (if a = 82 then 2 else (if a = 87 then 2 else 1)))))
  | 1 => if a = 46 then 0 else (if a = 64 then b - 97 else (if a = 67 then nI (rWy a) else (if a = 76 then nI (rWy a) else (if a = 82 then nI (rWy a) else (if a = 87 then nI (rWy a) else (if a = 98 then nI 3 else (if a = 108 then nI 4 else (if a = 110 then 2 else (if a = 119 then 1 else 0)))))))))
  | 2 => if a = 46 then 0 else (if a = 64 then 0 else (if a = 67 then 0 else (if a = 76 then 0 else (if a = 82 then 0 else (if a = 87 then 0 else (if a = 98 then rF 4 b else (if a = 108 then rF 4 b else (if a = 110 then rF 6 b else (if a = 119 then rF 4 b else a - 48)))))))))
  | _ => if a = 46 then 0 else (if a = 64 then 0 else (if a = 67 then 0 else (if a = 76 then 0 else (if a = 82 then 0 else (if a = 87 then 0 else (if a = 98 then 0 else (if a = 108 then 0 else (if a = 110 then X9_bit_x0 (r46 (rF 6 b)) else (if a = 119 then 0 else X9_bit_x0 (r46 (a - 48)))))))))))
theorem rR_e {gx : Nat → Int32} {tn pl : Nat} : X9_isElement_r11 gx tn pl = rR (X9_here_x0 gx tn pl) (X9_here_x0 gx tn (pl + 1)) := rfl
theorem rN_e {gx : Nat → Int32} {tn pl : Nat} : X9_isElement_x12 gx tn pl = nI (pl + rN (X9_here_x0 gx tn pl) (X9_here_x0 gx tn (pl + 1))) := by
  have hF : ∀ m, X9_follows_x1 gx m tn (pl + 1) = nI (pl + rL m (X9_here_x0 gx tn (pl + 1))) := fun m => by
    unfold X9_follows_x1 rL
    split <;> rfl
  have h0 : nI (pl + 1) + X9_isElement_x0 gx tn pl = nI (pl + (if X9_isIn_x1 (X9_here_x0 gx tn (pl + 1) - 97) 0 10 = 0 then 1 else 2)) := by
    unfold X9_isElement_x0
    split
    · exact Int32.add_zero _
    · exact nI_add (pl + 1) 1
  have h9 : nI (pl + 1) - X9_isElement_x10 gx tn pl = nI (pl + (if X9_isIn_x1 (X9_here_x0 gx tn pl - 48) 1 6 = 0 then 0 else 1)) := by
    unfold X9_isElement_x10
    split
    · exact nI_sb (a := pl + 1) (b := 1) (by omega)
    · exact i32_s0
  unfold X9_isElement_x12 rN
  rw [hF, hF, h0, h9]
  generalize X9_here_x0 gx tn pl = a
  by_cases c0 : a = 46
  · rw [if_pos c0, if_pos c0]
  by_cases c1 : a = 64
  · rw [if_neg c0, if_neg c0, if_pos c1, if_pos c1]
  by_cases c2 : a = 67
  · rw [if_neg c0, if_neg c0, if_neg c1, if_neg c1, if_pos c2, if_pos c2]
  by_cases c3 : a = 76
  · rw [if_neg c0, if_neg c0, if_neg c1, if_neg c1, if_neg c2, if_neg c2, if_pos c3, if_pos c3]
  by_cases c4 : a = 82
  · rw [if_neg c0, if_neg c0, if_neg c1, if_neg c1, if_neg c2, if_neg c2, if_neg c3, if_neg c3, if_pos c4, if_pos c4]
  by_cases c5 : a = 87
  · rw [if_neg c0, if_neg c0, if_neg c1, if_neg c1, if_neg c2, if_neg c2, if_neg c3, if_neg c3, if_neg c4, if_neg c4, if_pos c5, if_pos c5]
  by_cases c6 : a = 98
  · rw [if_neg c0, if_neg c0, if_neg c1, if_neg c1, if_neg c2, if_neg c2, if_neg c3, if_neg c3, if_neg c4, if_neg c4, if_neg c5, if_neg c5, if_pos c6, if_pos c6]
  by_cases c7 : a = 108
  · rw [if_neg c0, if_neg c0, if_neg c1, if_neg c1, if_neg c2, if_neg c2, if_neg c3, if_neg c3, if_neg c4, if_neg c4, if_neg c5, if_neg c5, if_neg c6, if_neg c6, if_pos c7, if_pos c7]
  by_cases c8 : a = 110
  · rw [if_neg c0, if_neg c0, if_neg c1, if_neg c1, if_neg c2, if_neg c2, if_neg c3, if_neg c3, if_neg c4, if_neg c4, if_neg c5, if_neg c5, if_neg c6, if_neg c6, if_neg c7, if_neg c7, if_pos c8, if_pos c8]
  by_cases c9 : a = 119
  · rw [if_neg c0, if_neg c0, if_neg c1, if_neg c1, if_neg c2, if_neg c2, if_neg c3, if_neg c3, if_neg c4, if_neg c4, if_neg c5, if_neg c5, if_neg c6, if_neg c6, if_neg c7, if_neg c7, if_neg c8, if_neg c8, if_pos c9, if_pos c9]
  rw [if_neg c0, if_neg c0, if_neg c1, if_neg c1, if_neg c2, if_neg c2, if_neg c3, if_neg c3, if_neg c4, if_neg c4, if_neg c5, if_neg c5, if_neg c6, if_neg c6, if_neg c7, if_neg c7, if_neg c8, if_neg c8, if_neg c9, if_neg c9]
theorem rE_e {gx gq : Nat → Int32} {tn pl ps : Nat} : X9_isElement_g13 gx gq tn pl ps = X9_element_g3 gq (rE (X9_here_x0 gx tn pl) (X9_here_x0 gx tn (pl + 1)) 0) (rE (X9_here_x0 gx tn pl) (X9_here_x0 gx tn (pl + 1)) 1) (rE (X9_here_x0 gx tn pl) (X9_here_x0 gx tn (pl + 1)) 2) (rE (X9_here_x0 gx tn pl) (X9_here_x0 gx tn (pl + 1)) 3) ps := by
  have hx7 : X9_isElement_x7 gx tn pl = r46 (rF 6 (X9_here_x0 gx tn (pl + 1))) := rfl
  have hx9 : X9_isElement_x9 gx tn pl = r46 (X9_here_x0 gx tn pl - 48) := rfl
  have hn3 : X9_isElement_n3 gx tn pl = rWy (X9_here_x0 gx tn pl) := rfl
  have hF : ∀ m, X9_follows_r0 gx m tn (pl + 1) = rF m (X9_here_x0 gx tn (pl + 1)) := fun m => rfl
  have hn4 : X9_isElement_n4 gx tn pl = if X9_here_x0 gx tn pl = 98 then 3 else 4 := rfl
  unfold X9_isElement_g13 rE
  rw [hx7, hx9, hn3, hF, hF, hn4]
  generalize X9_here_x0 gx tn pl = a
  by_cases c0 : a = 46
  · simp only [if_pos c0]
  by_cases c1 : a = 64
  · simp only [if_neg c0, if_pos c1]
  by_cases c2 : a = 67
  · simp only [if_neg c0, if_neg c1, if_pos c2]
  by_cases c3 : a = 76
  · simp only [if_neg c0, if_neg c1, if_neg c2, if_pos c3]
  by_cases c4 : a = 82
  · simp only [if_neg c0, if_neg c1, if_neg c2, if_neg c3, if_pos c4]
  by_cases c5 : a = 87
  · simp only [if_neg c0, if_neg c1, if_neg c2, if_neg c3, if_neg c4, if_pos c5]
  by_cases c6 : a = 98
  · simp only [if_neg c0, if_neg c1, if_neg c2, if_neg c3, if_neg c4, if_neg c5, if_pos c6]
  by_cases c7 : a = 108
  · simp only [if_neg c0, if_neg c1, if_neg c2, if_neg c3, if_neg c4, if_neg c5, if_neg c6, if_pos c7]
  by_cases c8 : a = 110
  · simp only [if_neg c0, if_neg c1, if_neg c2, if_neg c3, if_neg c4, if_neg c5, if_neg c6, if_neg c7, if_pos c8]
  by_cases c9 : a = 119
  · simp only [if_neg c0, if_neg c1, if_neg c2, if_neg c3, if_neg c4, if_neg c5, if_neg c6, if_neg c7, if_neg c8, if_pos c9]
  simp only [if_neg c0, if_neg c1, if_neg c2, if_neg c3, if_neg c4, if_neg c5, if_neg c6, if_neg c7, if_neg c8, if_neg c9]
/-- the two readings agree -/
def okb (S : Nat → Int32) : Bool := (decide (S 0 = 1) && decide (0 ≤ S 1) && decide (S 1 ≤ 10)) || (decide (S 0 = 2) && decide (0 ≤ S 3) && decide (S 3 ≤ 4) && decide (0 ≤ S 4) && decide (S 4 ≤ 6) && (decide (S 6 = 0) || decide (S 6 = 1))) || (decide (S 0 = 3) && decide (0 ≤ S 2) && decide (S 2 ≤ 5) && decide (S 3 = 0) && decide (S 4 = 0) && decide (S 5 = 0) && decide (S 6 = 0) && decide (S 7 = 0))
def tOK (s n : Int32) : Bool := !decide (X7_isFirst_r2 s = 0) && (!decide (tB s n = 0) || decide (X7_needsSecond_x2 s = 0))
def chk (s n h : Int32) : Bool :=
  if tOK s n then decide (rR s h = 1) && decide ((if tB s n = 0 then 1 else 2) = rN s h) && okb (tW s n) && decide (codW (tW s n) = rE s h 0) && decide (cod1 (tW s n) = rE s h 1) && decide (cod2 (tW s n) = rE s h 2) && decide (cod3 (tW s n) = rE s h 3) && decide (cod4 (tW s n) = 0) && decide (cod5 (tW s n) = 0)
  else decide (rR s h = 0) && decide ((if X7_isFirst_r2 s = 0 then 0 else 1) = rN s h) && (decide (X7_isFirst_r2 s = 0) || (decide (tB s n = 0) && !decide (X7_needsSecond_x2 s = 0)))
theorem chk_in : ∀ s, s < 95 → ∀ n, n < 95 → chk (nI (32 + s)) (nI (32 + n)) (nI (32 + n)) = true := by decide +kernel
theorem chk_end : ∀ s, s < 95 → chk (nI (32 + s)) 0 (-1) = true := by decide +kernel
