def pz0 (tn : Nat) : Int32 := if nI tn ≤ 0 then 0 else 1
def pzP (gx : Nat → Int32) (tn : Nat) : Nat → Nat
  | 0 => 0
  | n + 1 => (X9_isElement_x12 gx tn (pzP gx tn n)).toNatClampNeg
def pzF (gx : Nat → Int32) (tn : Nat) : Nat → Int32
  | 0 => pz0 tn
  | n + 1 => X9_isElement_r11 gx tn (pzP gx tn n)
def pzQ (gx : Nat → Int32) (tn : Nat) (gq : Nat → Int32) : Nat → (Nat → Int32)
  | 0 => gq
  | n + 1 => X9_isElement_g13 gx (pzQ gx tn gq n) tn (pzP gx tn n) n
theorem pzF_b (gx : Nat → Int32) (tn n : Nat) : pzF gx tn n = 0 ∨ pzF gx tn n = 1 := by
  cases n with
  | zero =>
    show pz0 tn = 0 ∨ pz0 tn = 1
    unfold pz0
    by_cases h : nI tn ≤ 0
    · exact Or.inl (if_pos h)
    · exact Or.inr (if_neg h)
  | succ n => exact b_k_X9_isElement gx tn (pzP gx tn n)
def plG (pt G : Nat → Int32) : Nat → (Nat → Int32)
  | 0 => G
  | n + 1 => doesG (pt (4 * n)) (pt (4 * n + 1)) (pt (4 * n + 2)) (pt (4 * n + 3)) 0 0 (plG pt G n)
def plD (pt G gd : Nat → Int32) : Nat → (Nat → Int32)
  | 0 => gd
  | n + 1 => doesD (pt (4 * n)) (pt (4 * n + 1)) (pt (4 * n + 2)) (pt (4 * n + 3)) 0 0 (plD pt G gd n) (dD (plG pt G n))
def plT (pt G : Nat → Int32) (t : Int32) : Nat → Int32
  | 0 => t
  | n + 1 => doesR (pt (4 * n)) (pt (4 * n + 1)) (pt (4 * n + 2)) (pt (4 * n + 3)) 0 0 (plG pt G n)
theorem is12 (gx : Nat → Int32) (tn pl : Nat) (h : pl < 61) : X9_isElement_x12 gx tn pl = nI (X9_isElement_x12 gx tn pl).toNatClampNeg ∧ pl ≤ (X9_isElement_x12 gx tn pl).toNatClampNeg ∧ (X9_isElement_x12 gx tn pl).toNatClampNeg ≤ pl + 2 ∧ (¬ X9_isElement_r11 gx tn pl = 0 → pl < (X9_isElement_x12 gx tn pl).toNatClampNeg) := by
  have K : ∀ k, X9_isElement_x12 gx tn pl = nI k → pl ≤ k → k ≤ pl + 2 → (¬ X9_isElement_r11 gx tn pl = 0 → pl < k) → X9_isElement_x12 gx tn pl = nI (X9_isElement_x12 gx tn pl).toNatClampNeg ∧ pl ≤ (X9_isElement_x12 gx tn pl).toNatClampNeg ∧ (X9_isElement_x12 gx tn pl).toNatClampNeg ≤ pl + 2 ∧ (¬ X9_isElement_r11 gx tn pl = 0 → pl < (X9_isElement_x12 gx tn pl).toNatClampNeg) := by
    intro k h1 h2 h3 h4
    have e : (X9_isElement_x12 gx tn pl).toNatClampNeg = k := by rw [h1]; exact nI_c (by omega)
    rw [e]
    exact ⟨h1, h2, h3, h4⟩
  have F : ∀ mo, X9_follows_x1 gx mo tn (pl + 1) = nI (pl + 1) ∨ X9_follows_x1 gx mo tn (pl + 1) = nI (pl + 2) := by
    intro mo; unfold X9_follows_x1; split; exact Or.inl rfl; exact Or.inr rfl
  have E0 : nI (pl + 1) + X9_isElement_x0 gx tn pl = nI (pl + 1) ∨ nI (pl + 1) + X9_isElement_x0 gx tn pl = nI (pl + 2) := by
    unfold X9_isElement_x0; split
    · exact Or.inl (by rw [show (0 : Int32) = nI 0 from rfl, nI_add])
    · exact Or.inr (by rw [show (1 : Int32) = nI 1 from rfl, nI_add])
  have A1 : X9_isElement_x12 gx tn pl = nI (pl + 1) → X9_isElement_x12 gx tn pl = nI (X9_isElement_x12 gx tn pl).toNatClampNeg ∧ pl ≤ (X9_isElement_x12 gx tn pl).toNatClampNeg ∧ (X9_isElement_x12 gx tn pl).toNatClampNeg ≤ pl + 2 ∧ (¬ X9_isElement_r11 gx tn pl = 0 → pl < (X9_isElement_x12 gx tn pl).toNatClampNeg) := fun q => K _ q (by omega) (by omega) (fun _ => by omega)
  have A2 : X9_isElement_x12 gx tn pl = nI (pl + 2) → X9_isElement_x12 gx tn pl = nI (X9_isElement_x12 gx tn pl).toNatClampNeg ∧ pl ≤ (X9_isElement_x12 gx tn pl).toNatClampNeg ∧ (X9_isElement_x12 gx tn pl).toNatClampNeg ≤ pl + 2 ∧ (¬ X9_isElement_r11 gx tn pl = 0 → pl < (X9_isElement_x12 gx tn pl).toNatClampNeg) := fun q => K _ q (by omega) (by omega) (fun _ => by omega)
  have D1 : X9_isElement_x12 gx tn pl = nI (pl + 1) - X9_isElement_x10 gx tn pl → X9_isElement_r11 gx tn pl = X9_isIn_x1 (X9_here_x0 gx tn pl - 48) 1 6 → X9_isElement_x12 gx tn pl = nI (X9_isElement_x12 gx tn pl).toNatClampNeg ∧ pl ≤ (X9_isElement_x12 gx tn pl).toNatClampNeg ∧ (X9_isElement_x12 gx tn pl).toNatClampNeg ≤ pl + 2 ∧ (¬ X9_isElement_r11 gx tn pl = 0 → pl < (X9_isElement_x12 gx tn pl).toNatClampNeg) := by
    intro q1 q2
    by_cases hz : X9_isIn_x1 (X9_here_x0 gx tn pl - 48) 1 6 = 0
    · refine K pl ?_ (by omega) (by omega) (fun q => absurd (q2.trans hz) q)
      rw [q1]; unfold X9_isElement_x10; rw [if_pos hz, show (1 : Int32) = nI 1 from rfl, nI_sb (by omega)]; rfl
    · refine A1 ?_
      rw [q1]; unfold X9_isElement_x10; rw [if_neg hz, show (0 : Int32) = nI 0 from rfl, nI_sb (by omega)]; rfl
  by_cases c1 : X9_here_x0 gx tn pl = 46
  · exact A1 (by unfold X9_isElement_x12; rw [if_pos c1])
  by_cases c2 : X9_here_x0 gx tn pl = 64
  · rcases E0 with q | q
    · exact A1 (by unfold X9_isElement_x12; rw [if_neg c1, if_pos c2, q])
    · exact A2 (by unfold X9_isElement_x12; rw [if_neg c1, if_pos c2, q])
  by_cases c3 : X9_here_x0 gx tn pl = 67
  · exact A1 (by unfold X9_isElement_x12; rw [if_neg c1, if_neg c2, if_pos c3])
  by_cases c4 : X9_here_x0 gx tn pl = 76
  · exact A1 (by unfold X9_isElement_x12; rw [if_neg c1, if_neg c2, if_neg c3, if_pos c4])
  by_cases c5 : X9_here_x0 gx tn pl = 82
  · exact A1 (by unfold X9_isElement_x12; rw [if_neg c1, if_neg c2, if_neg c3, if_neg c4, if_pos c5])
  by_cases c6 : X9_here_x0 gx tn pl = 87
  · exact A1 (by unfold X9_isElement_x12; rw [if_neg c1, if_neg c2, if_neg c3, if_neg c4, if_neg c5, if_pos c6])
  by_cases c7 : X9_here_x0 gx tn pl = 98
  · rcases F 4 with q | q
    · exact A1 (by unfold X9_isElement_x12; rw [if_neg c1, if_neg c2, if_neg c3, if_neg c4, if_neg c5, if_neg c6, if_pos c7, q])
    · exact A2 (by unfold X9_isElement_x12; rw [if_neg c1, if_neg c2, if_neg c3, if_neg c4, if_neg c5, if_neg c6, if_pos c7, q])
  by_cases c8 : X9_here_x0 gx tn pl = 108
  · rcases F 4 with q | q
    · exact A1 (by unfold X9_isElement_x12; rw [if_neg c1, if_neg c2, if_neg c3, if_neg c4, if_neg c5, if_neg c6, if_neg c7, if_pos c8, q])
    · exact A2 (by unfold X9_isElement_x12; rw [if_neg c1, if_neg c2, if_neg c3, if_neg c4, if_neg c5, if_neg c6, if_neg c7, if_pos c8, q])
  by_cases c9 : X9_here_x0 gx tn pl = 110
  · rcases F 6 with q | q
    · exact A1 (by unfold X9_isElement_x12; rw [if_neg c1, if_neg c2, if_neg c3, if_neg c4, if_neg c5, if_neg c6, if_neg c7, if_neg c8, if_pos c9, q])
    · exact A2 (by unfold X9_isElement_x12; rw [if_neg c1, if_neg c2, if_neg c3, if_neg c4, if_neg c5, if_neg c6, if_neg c7, if_neg c8, if_pos c9, q])
  by_cases c10 : X9_here_x0 gx tn pl = 119
  · rcases F 4 with q | q
    · exact A1 (by unfold X9_isElement_x12; rw [if_neg c1, if_neg c2, if_neg c3, if_neg c4, if_neg c5, if_neg c6, if_neg c7, if_neg c8, if_neg c9, if_pos c10, q])
    · exact A2 (by unfold X9_isElement_x12; rw [if_neg c1, if_neg c2, if_neg c3, if_neg c4, if_neg c5, if_neg c6, if_neg c7, if_neg c8, if_neg c9, if_pos c10, q])
  · exact D1 (by unfold X9_isElement_x12; rw [if_neg c1, if_neg c2, if_neg c3, if_neg c4, if_neg c5, if_neg c6, if_neg c7, if_neg c8, if_neg c9, if_neg c10]) (by unfold X9_isElement_r11; rw [if_neg c1, if_neg c2, if_neg c3, if_neg c4, if_neg c5, if_neg c6, if_neg c7, if_neg c8, if_neg c9, if_neg c10])
