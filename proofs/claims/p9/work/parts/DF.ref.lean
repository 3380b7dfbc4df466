/-! THE REFUSALS of the program, in one -/
def RFC (cm : Nat → Int32) (c : Nat → Nat → Int32) (S : Nat → Int32) : Int32 := if cm 2 = 1 then X2_refusal01_r4 (cm 0) (cm 1) (c 1) (c 2) (c 6 0) (c 6 1) (c 6 2) (c 6 3) (c 6 4) (c 6 7) (S 0) (S 1) (S 2) (S 3) (S 4) (S 5) (S 7) else X2_refusal32_r3 (cm 0) (cm 1) (c 1) (c 2) (c 6 1) (c 6 3) (c 6 4) (S 0) (S 1) (S 2) (S 3) (S 4) (S 5) (S 7)
theorem rf_one {cm : Nat → Int32} {cs : Nat → Nat → Nat → Int32} {S : Nat → Int32} (hV : VAR cm) (h0 : ¬ cm 0 = 0) : rfR cm cs S = RFC cm (cs (cm 4).toNatClampNeg) S := by
  unfold rfR RFC
  rcases hV with ⟨l0, l1 | l1⟩ | ⟨l0, l1 | l1 | l1 | l1⟩
  · have e4 : (cm 4).toNatClampNeg = 0 := by rw [l1]; decide
    rw [e4, if_neg h0, if_pos l0, if_pos l1, if_pos l0]
    rfl
  · have e4 : (cm 4).toNatClampNeg = 1 := by rw [l1]; decide
    rw [e4, if_neg h0, if_pos l0, if_neg (show ¬ cm 4 = 0 by rw [l1]; decide), if_pos l0]
    rfl
  · have e4 : (cm 4).toNatClampNeg = 0 := by rw [l1]; decide
    rw [e4, if_neg h0, if_neg (show ¬ cm 2 = 1 by rw [l0]; decide), if_pos l1, if_neg (show ¬ cm 2 = 1 by rw [l0]; decide)]
    rfl
  · have e4 : (cm 4).toNatClampNeg = 1 := by rw [l1]; decide
    rw [e4, if_neg h0, if_neg (show ¬ cm 2 = 1 by rw [l0]; decide), if_neg (show ¬ cm 4 = 0 by rw [l1]; decide), if_pos l1, if_neg (show ¬ cm 2 = 1 by rw [l0]; decide)]
    rfl
  · have e4 : (cm 4).toNatClampNeg = 2 := by rw [l1]; decide
    rw [e4, if_neg h0, if_neg (show ¬ cm 2 = 1 by rw [l0]; decide), if_neg (show ¬ cm 4 = 0 by rw [l1]; decide), if_neg (show ¬ cm 4 = 1 by rw [l1]; decide), if_pos l1, if_neg (show ¬ cm 2 = 1 by rw [l0]; decide)]
    rfl
  · have e4 : (cm 4).toNatClampNeg = 3 := by rw [l1]; decide
    rw [e4, if_neg h0, if_neg (show ¬ cm 2 = 1 by rw [l0]; decide), if_neg (show ¬ cm 4 = 0 by rw [l1]; decide), if_neg (show ¬ cm 4 = 1 by rw [l1]; decide), if_neg (show ¬ cm 4 = 2 by rw [l1]; decide), if_neg (show ¬ cm 2 = 1 by rw [l0]; decide)]
    rfl
theorem nI_if {q : Prop} [Decidable q] {a b : Nat} : nI (if q then a else b) = if q then nI a else nI b := by split <;> rfl
theorem rf_1 {cm : Nat → Int32} {c : Nat → Nat → Int32} {S : Nat → Int32} (h0 : ¬ cm 0 = 0) (h1 : cm 1 = 0) (h : S 0 = 1) : RFC cm c S = X0_bowlRefusal_r3 (c 2) (c 6 1) (c 6 3) (c 6 4) (S 1) := by
  unfold RFC
  by_cases q : cm 2 = 1
  · rw [if_pos q]
    unfold X2_refusal01_r4
    rw [if_neg h0, if_pos h1, if_pos h]
  · rw [if_neg q]
    unfold X2_refusal32_r3
    rw [if_neg h0, if_pos h1, if_pos h]
theorem rf_2 {cm : Nat → Int32} {c : Nat → Nat → Int32} {S : Nat → Int32} (h0 : ¬ cm 0 = 0) (h1 : cm 1 = 0) (h : S 0 = 2) : RFC cm c S = if c 6 3 = -1 then 3 else 0 := by
  have n1 : ¬ S 0 = 1 := by rw [h]; decide
  unfold RFC
  by_cases q : cm 2 = 1
  · rw [if_pos q]
    unfold X2_refusal01_r4
    rw [if_neg h0, if_pos h1, if_neg n1, if_pos h]
    unfold X2_refusal01_n0
    rw [nI_if]
    rfl
  · rw [if_neg q]
    unfold X2_refusal32_r3
    rw [if_neg h0, if_pos h1, if_neg n1, if_pos h]
    unfold X2_refusal32_n0
    rw [nI_if]
    rfl
theorem rf_3 {cm : Nat → Int32} {c : Nat → Nat → Int32} {S : Nat → Int32} (h0 : ¬ cm 0 = 0) (h1 : cm 1 = 0) (h : S 0 = 3) : RFC cm c S = if c 6 3 = -1 then 3 else (if X5_isPossibleWicket_r8 (S 2) (S 3) (S 4) (S 5) (S 7) = 0 then 6 else 0) := by
  have n1 : ¬ S 0 = 1 := by rw [h]; decide
  have n2 : ¬ S 0 = 2 := by rw [h]; decide
  unfold RFC
  by_cases q : cm 2 = 1
  · rw [if_pos q]
    unfold X2_refusal01_r4
    rw [if_neg h0, if_pos h1, if_neg n1, if_neg n2, if_pos h]
    unfold X2_refusal01_n1
    rw [nI_if]
    rfl
  · rw [if_neg q]
    unfold X2_refusal32_r3
    rw [if_neg h0, if_pos h1, if_neg n1, if_neg n2, if_pos h]
    unfold X2_refusal32_n1
    rw [nI_if]
    rfl
theorem rf_4 {cm : Nat → Int32} {c : Nat → Nat → Int32} {S : Nat → Int32} (h0 : ¬ cm 0 = 0) (h1 : cm 1 = 0) (h : S 0 = 4) : RFC cm c S = 0 := by
  have n1 : ¬ S 0 = 1 := by rw [h]; decide
  have n2 : ¬ S 0 = 2 := by rw [h]; decide
  have n3 : ¬ S 0 = 3 := by rw [h]; decide
  unfold RFC
  by_cases q : cm 2 = 1
  · rw [if_pos q]
    unfold X2_refusal01_r4
    rw [if_neg h0, if_pos h1, if_neg n1, if_neg n2, if_neg n3, if_pos h]
  · rw [if_neg q]
    unfold X2_refusal32_r3
    rw [if_neg h0, if_pos h1, if_neg n1, if_neg n2, if_neg n3, if_pos h]
theorem rf_5 {cm : Nat → Int32} {c : Nat → Nat → Int32} {S : Nat → Int32} (h0 : ¬ cm 0 = 0) (h1 : cm 1 = 0) (h : S 0 = 5) : RFC cm c S = if X0_canComeIn_x1 (c 1) (S 1) = 0 then 5 else 0 := by
  have n1 : ¬ S 0 = 1 := by rw [h]; decide
  have n2 : ¬ S 0 = 2 := by rw [h]; decide
  have n3 : ¬ S 0 = 3 := by rw [h]; decide
  have n4 : ¬ S 0 = 4 := by rw [h]; decide
  unfold RFC
  by_cases q : cm 2 = 1
  · rw [if_pos q]
    unfold X2_refusal01_r4
    rw [if_neg h0, if_pos h1, if_neg n1, if_neg n2, if_neg n3, if_neg n4, if_pos h]
    unfold X2_refusal01_n2
    rw [nI_if]
    rfl
  · rw [if_neg q]
    unfold X2_refusal32_r3
    rw [if_neg h0, if_pos h1, if_neg n1, if_neg n2, if_neg n3, if_neg n4, if_pos h]
    unfold X2_refusal32_n2
    rw [nI_if]
    rfl
theorem rf_6 {cm : Nat → Int32} {c : Nat → Nat → Int32} {S : Nat → Int32} (h0 : ¬ cm 0 = 0) (h1 : cm 1 = 0) (h : S 0 = 6) : RFC cm c S = 0 := by
  have n1 : ¬ S 0 = 1 := by rw [h]; decide
  have n2 : ¬ S 0 = 2 := by rw [h]; decide
  have n3 : ¬ S 0 = 3 := by rw [h]; decide
  have n4 : ¬ S 0 = 4 := by rw [h]; decide
  have n5 : ¬ S 0 = 5 := by rw [h]; decide
  unfold RFC
  by_cases q : cm 2 = 1
  · rw [if_pos q]
    unfold X2_refusal01_r4
    rw [if_neg h0, if_pos h1, if_neg n1, if_neg n2, if_neg n3, if_neg n4, if_neg n5, if_pos h]
  · rw [if_neg q]
    unfold X2_refusal32_r3
    rw [if_neg h0, if_pos h1, if_neg n1, if_neg n2, if_neg n3, if_neg n4, if_neg n5, if_pos h]
theorem rf_7 {cm : Nat → Int32} {c : Nat → Nat → Int32} {S : Nat → Int32} (h0 : ¬ cm 0 = 0) (h1 : cm 1 = 0) (h : S 0 = 7) : RFC cm c S = if cm 2 = 1 then (if X0_canLose_x0 (c 6 0) (c 6 2) (c 6 7) (S 1) = 0 then 8 else 0) else 8 := by
  have n1 : ¬ S 0 = 1 := by rw [h]; decide
  have n2 : ¬ S 0 = 2 := by rw [h]; decide
  have n3 : ¬ S 0 = 3 := by rw [h]; decide
  have n4 : ¬ S 0 = 4 := by rw [h]; decide
  have n5 : ¬ S 0 = 5 := by rw [h]; decide
  have n6 : ¬ S 0 = 6 := by rw [h]; decide
  unfold RFC
  by_cases q : cm 2 = 1
  · rw [if_pos q, if_pos q]
    unfold X2_refusal01_r4
    rw [if_neg h0, if_pos h1, if_neg n1, if_neg n2, if_neg n3, if_neg n4, if_neg n5, if_neg n6, if_pos h]
    unfold X2_refusal01_n3
    rw [nI_if]
    rfl
  · rw [if_neg q, if_neg q]
    unfold X2_refusal32_r3
    rw [if_neg h0, if_pos h1, if_neg n1, if_neg n2, if_neg n3, if_neg n4, if_neg n5, if_neg n6, if_pos h]
theorem rf_over {cm : Nat → Int32} {c : Nat → Nat → Int32} {S : Nat → Int32} (h0 : ¬ cm 0 = 0) (h1 : ¬ cm 1 = 0) : RFC cm c S = 1 := by
  unfold RFC X2_refusal01_r4 X2_refusal32_r3
  rw [if_neg h0, if_neg h1, if_neg h0, if_neg h1]
  split <;> rfl
