/-! what a command's arguments ask, both readings -/
theorem wi_ne {x a b : Int32} : X8_isWithin_x1 x a b = 0 ↔ ¬ (a ≤ x ∧ x ≤ b) := by
  unfold X8_isWithin_x1 X8_isWithin_x0
  by_cases h1 : x < a
  · rw [if_pos h1]
    exact ⟨fun _ h => absurd h1 (Int32.not_lt.mpr h.1), fun _ => rfl⟩
  · rw [if_neg h1]
    by_cases h2 : b < x
    · rw [if_pos h2]
      exact ⟨fun _ h => absurd h2 (Int32.not_lt.mpr h.2), fun _ => rfl⟩
    · rw [if_neg h2]
      exact ⟨fun h => absurd h (by decide), fun h => absurd ⟨Int32.not_lt.mp h1, Int32.not_lt.mp h2⟩ h⟩
theorem wi_in {x a b : Int32} (h : ¬ X8_isWithin_x1 x a b = 0) : a ≤ x ∧ x ≤ b := Decidable.not_not.mp (fun q => h (wi_ne.mpr q))
theorem wi_01 {x a b : Int32} : X8_isWithin_x1 x a b = 0 ∨ X8_isWithin_x1 x a b = 1 := by
  unfold X8_isWithin_x1 X8_isWithin_x0
  split
  · exact Or.inl rfl
  · split
    · exact Or.inl rfl
    · exact Or.inr rfl
theorem in_nat {x : Int32} {n : Nat} (hn : n < 1000) (h0 : 0 ≤ x) (h1 : x ≤ nI n) : ∃ k, k ≤ n ∧ x = nI k := by
  obtain ⟨j, j1, j2, -⟩ := pk_mu (x := x) (L := n + 1) (Int32.not_lt.mpr h0) (fun q => by
    have q2 := Int32.le_trans q h1
    have := (nI_leI (a := n + 1) (b := n) (by omega) (by omega)).mp q2
    omega) (by omega)
  exact ⟨j, by omega, j2⟩
theorem wi_nat {x : Int32} {n : Nat} (hn : n < 1000) (h : ¬ X8_isWithin_x1 x 0 (nI n) = 0) : ∃ k, k ≤ n ∧ x = nI k := in_nat hn (wi_in h).1 (wi_in h).2
theorem bit_x {x : Int32} (h : x = 0 ∨ x = 1) : X9_bit_x0 x = x := by
  rcases h with h | h <;> rw [h] <;> rfl
theorem ok_bowl {p : Int32} (h : ¬ X8_isWithin_x1 p 0 10 = 0) : OKS (mkS 1 p 0 0 0 0 0 0 0) := by
  obtain ⟨k, hk, e⟩ := wi_nat (n := 10) (by omega) h
  exact Or.inl ⟨k, rfl, by omega, e⟩
theorem ok_choose {p : Int32} (h : ¬ X8_isWithin_x1 p 0 10 = 0) : OKS (mkS 5 p 0 0 0 0 0 0 0) := by
  obtain ⟨k, hk, e⟩ := wi_nat (n := 10) (by omega) h
  exact Or.inr (Or.inr (Or.inr (Or.inr (Or.inl ⟨k, rfl, by omega, e⟩))))
theorem ok_declare : OKS (mkS 6 0 0 0 0 0 0 0 0) := Or.inr (Or.inr (Or.inr (Or.inr (Or.inr (Or.inl ⟨rfl, rfl⟩)))))
theorem ok_loseOvers {p : Int32} (h : ¬ X8_isWithin_x1 p 1 19 = 0) : OKS (mkS 7 p 0 0 0 0 0 0 0) := by
  obtain ⟨h1, h2⟩ := wi_in h
  obtain ⟨k, hk, e⟩ := in_nat (n := 19) (by omega) (Int32.le_trans (by decide) h1) h2
  rw [e] at h1
  have := (nI_leI (a := 1) (b := k) (by omega) (by omega)).mp h1
  exact Or.inr (Or.inr (Or.inr (Or.inr (Or.inr (Or.inr ⟨k, rfl, by omega, by omega, e⟩)))))
theorem ok_retire {a b : Int32} (h1 : a = 0 ∨ a = 1) (h2 : b = 0 ∨ b = 1) : OKS (mkS 4 0 0 0 0 a 0 0 b) := Or.inr (Or.inr (Or.inr (Or.inl ⟨rfl, h1, h2⟩)))
def BADw (a b c : Int32) : Prop := X8_isWithin_x1 a 0 5 = 0 ∨ X8_isWithin_x1 b 0 2 = 0 ∨ X8_isWithin_x1 c 0 3 = 0
theorem ok_wicket {a b c d e : Int32} (h : ¬ BADw a b d) (h1 : c = 0 ∨ c = 1) (h2 : e = 0 ∨ e = 1) : OKS (mkS 3 0 a b d c 0 e 0) := by
  obtain ⟨k1, l1, e1⟩ := wi_nat (n := 5) (by omega) (fun q => h (Or.inl q))
  obtain ⟨k2, l2, e2⟩ := wi_nat (n := 2) (by omega) (fun q => h (Or.inr (Or.inl q)))
  obtain ⟨k3, l3, e3⟩ := wi_nat (n := 3) (by omega) (fun q => h (Or.inr (Or.inr q)))
  exact Or.inr (Or.inr (Or.inl ⟨k1, k2, k3, rfl, by omega, by omega, l3, e1, e2, e3, h1, rfl, h2⟩))
def BADb (a b c : Int32) : Prop := X8_isWithin_x1 a 0 4 = 0 ∨ X8_isWithin_x1 b (X8_leastRuns_x1 a) (X8_mostRuns_r2 a) = 0 ∨ (¬ c = 0 ∧ X8_canBeBoundary_x3 a b = 0)
theorem c5 {k : Nat} (h : k ≤ 4) : k = 0 ∨ k = 1 ∨ k = 2 ∨ k = 3 ∨ k = 4 := by omega
theorem ok_ball {a b c : Int32} (h : ¬ BADb a b c) (h1 : c = 0 ∨ c = 1) : OKS (mkS 2 0 0 a b 0 c 0 0) := by
  obtain ⟨k, hk, rfl⟩ := wi_nat (n := 4) (by omega) (fun q => h (Or.inl q))
  have h2 := wi_in (fun q => h (Or.inr (Or.inl q)))
  have hr : ∃ r, r ≤ 6 ∧ b = nI r := by
    rcases c5 hk with rfl | rfl | rfl | rfl | rfl
    · exact in_nat (n := 6) (by omega) h2.1 h2.2
    · obtain ⟨r, r1, r2⟩ := in_nat (n := 4) (by omega) h2.1 h2.2
      exact ⟨r, by omega, r2⟩
    · exact in_nat (n := 6) (by omega) h2.1 h2.2
    · obtain ⟨r, r1, r2⟩ := in_nat (n := 4) (by omega) (Int32.le_trans (show (0 : Int32) ≤ 1 by decide) h2.1) h2.2
      exact ⟨r, by omega, r2⟩
    · obtain ⟨r, r1, r2⟩ := in_nat (n := 4) (by omega) (Int32.le_trans (show (0 : Int32) ≤ 1 by decide) h2.1) h2.2
      exact ⟨r, by omega, r2⟩
  obtain ⟨r, r1, r2⟩ := hr
  exact Or.inr (Or.inl ⟨k, r, rfl, by omega, r1, rfl, r2, h1⟩)
theorem ball_if {A B c : Int32} {X : Prop} (hX : ¬ X) : (if A = 0 then (0 : Int32) else (if c = 0 then 1 else B)) = 0 ↔ (X ∨ A = 0 ∨ (¬ c = 0 ∧ B = 0)) := by
  by_cases h : A = 0
  · rw [if_pos h]; exact ⟨fun _ => Or.inr (Or.inl h), fun _ => rfl⟩
  · rw [if_neg h]
    by_cases h2 : c = 0
    · rw [if_pos h2]
      exact ⟨fun q => absurd q (by decide), fun q => by
        rcases q with q | q | q
        · exact absurd q hX
        · exact absurd q h
        · exact absurd h2 q.1⟩
    · rw [if_neg h2]
      exact ⟨fun q => Or.inr (Or.inr ⟨h2, q⟩), fun q => by
        rcases q with q | q | q
        · exact absurd q hX
        · exact absurd q h
        · exact q.2⟩
theorem ball_0 {b : Int32} : X9_isBall_x0 b = X8_isWithin_x1 b 1 4 := by
  have h : X9_isIn_x1 b 1 4 = X8_isWithin_x1 b 1 4 := rfl
  unfold X9_isBall_x0
  rw [h]
  rcases wi_01 (x := b) (a := 1) (b := 4) with q | q <;> rw [q] <;> rfl
theorem ball_bad {a b c : Int32} : X9_isBall_x10 a b c = 0 ↔ BADb a b c := by
  by_cases v0 : X8_isWithin_x1 a 0 4 = 0
  · have n0 : ¬ a = 0 := fun q => by rw [q] at v0; exact absurd v0 (by decide)
    have n1 : ¬ a = 1 := fun q => by rw [q] at v0; exact absurd v0 (by decide)
    have n2 : ¬ a = 2 := fun q => by rw [q] at v0; exact absurd v0 (by decide)
    have z : X9_isIn_x1 a 3 4 = 0 := (wi_ne (x := a) (a := 3) (b := 4)).mpr (fun h => wi_ne.mp v0 ⟨Int32.le_trans (by decide) h.1, h.2⟩)
    have e4 : X9_isBall_x4 a b = 0 := by
      unfold X9_isBall_x4 X9_isBall_x3 X9_isBall_x2 X9_isBall_x1
      rw [if_neg n0, if_neg n2, if_neg n1, if_pos z]
    exact ⟨fun _ => Or.inl v0, fun _ => by unfold X9_isBall_x10; rw [if_pos e4]⟩
  · obtain ⟨k, hk, rfl⟩ := wi_nat (n := 4) (by omega) v0
    have e4 : X9_isBall_x4 (nI k) b = X8_isWithin_x1 b (X8_leastRuns_x1 (nI k)) (X8_mostRuns_r2 (nI k)) := by
      rcases c5 hk with rfl | rfl | rfl | rfl | rfl
      · rfl
      · rfl
      · rfl
      · exact ball_0
      · exact ball_0
    have e8 : X9_isBall_x8 (nI k) b = X8_canBeBoundary_x3 (nI k) b := by
      rcases c5 hk with rfl | rfl | rfl | rfl | rfl <;> rfl
    unfold X9_isBall_x10 X9_isBall_x9 BADb
    rw [e4, e8]
    exact ball_if v0
theorem cds_bowl {p : Int32} : codW (mkS 1 p 0 0 0 0 0 0 0) = 0 ∧ cod1 (mkS 1 p 0 0 0 0 0 0 0) = p ∧ cod2 (mkS 1 p 0 0 0 0 0 0 0) = 0 ∧ cod3 (mkS 1 p 0 0 0 0 0 0 0) = 0 ∧ cod4 (mkS 1 p 0 0 0 0 0 0 0) = 0 ∧ cod5 (mkS 1 p 0 0 0 0 0 0 0) = 0 := ⟨show (1 : Int32) - 1 = 0 by decide, rfl, rfl, rfl, rfl, rfl⟩
theorem cds_ball {a b c : Int32} (h : c = 0 ∨ c = 1) : codW (mkS 2 0 0 a b 0 c 0 0) = 1 ∧ cod1 (mkS 2 0 0 a b 0 c 0 0) = a ∧ cod2 (mkS 2 0 0 a b 0 c 0 0) = b ∧ cod3 (mkS 2 0 0 a b 0 c 0 0) = X9_bit_x0 c ∧ cod4 (mkS 2 0 0 a b 0 c 0 0) = 0 ∧ cod5 (mkS 2 0 0 a b 0 c 0 0) = 0 := by
  rw [bit_x h]
  exact ⟨show (2 : Int32) - 1 = 1 by decide, rfl, rfl, rfl, rfl, rfl⟩
theorem cds_wicket {a b c d e : Int32} (h1 : c = 0 ∨ c = 1) (h2 : e = 0 ∨ e = 1) : codW (mkS 3 0 a b d c 0 e 0) = 2 ∧ cod1 (mkS 3 0 a b d c 0 e 0) = a ∧ cod2 (mkS 3 0 a b d c 0 e 0) = b ∧ cod3 (mkS 3 0 a b d c 0 e 0) = X9_bit_x0 c ∧ cod4 (mkS 3 0 a b d c 0 e 0) = d ∧ cod5 (mkS 3 0 a b d c 0 e 0) = X9_bit_x0 e := by
  rw [bit_x h1, bit_x h2]
  exact ⟨show (3 : Int32) - 1 = 2 by decide, rfl, rfl, rfl, rfl, rfl⟩
theorem cds_retire {a b : Int32} (h1 : a = 0 ∨ a = 1) (h2 : b = 0 ∨ b = 1) : codW (mkS 4 0 0 0 0 a 0 0 b) = 3 ∧ cod1 (mkS 4 0 0 0 0 a 0 0 b) = X9_bit_x0 a ∧ cod2 (mkS 4 0 0 0 0 a 0 0 b) = X9_bit_x0 b ∧ cod3 (mkS 4 0 0 0 0 a 0 0 b) = 0 ∧ cod4 (mkS 4 0 0 0 0 a 0 0 b) = 0 ∧ cod5 (mkS 4 0 0 0 0 a 0 0 b) = 0 := by
  rw [bit_x h1, bit_x h2]
  exact ⟨show (4 : Int32) - 1 = 3 by decide, rfl, rfl, rfl, rfl, rfl⟩
theorem cds_choose {p : Int32} : codW (mkS 5 p 0 0 0 0 0 0 0) = 4 ∧ cod1 (mkS 5 p 0 0 0 0 0 0 0) = p ∧ cod2 (mkS 5 p 0 0 0 0 0 0 0) = 0 ∧ cod3 (mkS 5 p 0 0 0 0 0 0 0) = 0 ∧ cod4 (mkS 5 p 0 0 0 0 0 0 0) = 0 ∧ cod5 (mkS 5 p 0 0 0 0 0 0 0) = 0 := ⟨show (5 : Int32) - 1 = 4 by decide, rfl, rfl, rfl, rfl, rfl⟩
theorem cds_declare : codW (mkS 6 0 0 0 0 0 0 0 0) = 5 ∧ cod1 (mkS 6 0 0 0 0 0 0 0 0) = 0 ∧ cod2 (mkS 6 0 0 0 0 0 0 0 0) = 0 ∧ cod3 (mkS 6 0 0 0 0 0 0 0 0) = 0 ∧ cod4 (mkS 6 0 0 0 0 0 0 0 0) = 0 ∧ cod5 (mkS 6 0 0 0 0 0 0 0 0) = 0 := ⟨show (6 : Int32) - 1 = 5 by decide, rfl, rfl, rfl, rfl, rfl⟩
theorem cds_loseOvers {p : Int32} : codW (mkS 7 p 0 0 0 0 0 0 0) = 6 ∧ cod1 (mkS 7 p 0 0 0 0 0 0 0) = p ∧ cod2 (mkS 7 p 0 0 0 0 0 0 0) = 0 ∧ cod3 (mkS 7 p 0 0 0 0 0 0 0) = 0 ∧ cod4 (mkS 7 p 0 0 0 0 0 0 0) = 0 ∧ cod5 (mkS 7 p 0 0 0 0 0 0 0) = 0 := ⟨show (7 : Int32) - 1 = 6 by decide, rfl, rfl, rfl, rfl, rfl⟩
theorem room_N {nS nC N : Nat} (h : nS + N ≤ 512) (h2 : nC < 512) : X1_hasRoom_x1 nS nC N = 1 := by
  unfold X1_hasRoom_x1 X1_hasRoom_x0
  rw [if_neg (fun q => by have := (nI_ltI (a := 512) (b := nS + N) (by omega) (by omega)).mp q; omega), if_neg (fun q => by have := (nI_leI (a := 512) (b := nC) (by omega) (by omega)).mp q; omega)]
