def VAR (cm : Nat → Int32) : Prop := (cm 2 = 1 ∧ (cm 4 = 0 ∨ cm 4 = 1)) ∨ (cm 2 = 2 ∧ (cm 4 = 0 ∨ cm 4 = 1 ∨ cm 4 = 2 ∨ cm 4 = 3))
/-- what a step needs of a match: how many innings, and the rows of their tables -/
def PP (cm : Nat → Int32) (cs : Nat → Nat → Nat → Int32) : Prop := VAR cm ∧ (∀ j, j ≤ (cm 4).toNatClampNeg → cs j 7 0 = 1 ∧ cs j 7 1 = 11 ∧ cs j 7 2 = 11) ∧ dN (cs (cm 4).toNatClampNeg 7 3) 513 ∧ 1 ≤ (cs (cm 4).toNatClampNeg 7 3).toNatClampNeg ∧ dN (cs (cm 4).toNatClampNeg 7 4) 11
def pfM (cm : Nat → Int32) (cs : Nat → Nat → Nat → Int32) (S : Nat → Int32) : Nat → Int32 := if cm 2 = 1 then (if cm 4 = 0 then X2_perform01_M cm cs S else X2_perform11_M cm cs S) else (if cm 4 = 0 then X2_perform02_M cm cs S else (if cm 4 = 1 then X2_perform12_M cm cs S else (if cm 4 = 2 then X2_perform22_M cm cs S else X2_perform32_M cm cs S)))
def pfS (cm : Nat → Int32) (cs : Nat → Nat → Nat → Int32) (S : Nat → Int32) : Nat → Nat → Nat → Int32 := if cm 2 = 1 then (if cm 4 = 0 then X2_perform01_S cm cs S else X2_perform11_S cm cs S) else (if cm 4 = 0 then X2_perform02_S cm cs S else (if cm 4 = 1 then X2_perform12_S cm cs S else (if cm 4 = 2 then X2_perform22_S cm cs S else X2_perform32_S cm cs S)))
def pfR (cm : Nat → Int32) (cs : Nat → Nat → Nat → Int32) (S : Nat → Int32) : Int32 := if cm 2 = 1 then (if cm 4 = 0 then X2_perform01_R cm cs S else X2_perform11_R cm cs S) else (if cm 4 = 0 then X2_perform02_R cm cs S else (if cm 4 = 1 then X2_perform12_R cm cs S else (if cm 4 = 2 then X2_perform22_R cm cs S else X2_perform32_R cm cs S)))
def rfR (cm : Nat → Int32) (cs : Nat → Nat → Nat → Int32) (S : Nat → Int32) : Int32 := if cm 0 = 0 then 1 else (if cm 2 = 1 then (if cm 4 = 0 then X2_refusal01_R cm cs S else X2_refusal11_R cm cs S) else (if cm 4 = 0 then X2_refusal02_R cm cs S else (if cm 4 = 1 then X2_refusal12_R cm cs S else (if cm 4 = 2 then X2_refusal22_R cm cs S else X2_refusal32_R cm cs S))))
def ocR (cm : Nat → Int32) (cs : Nat → Nat → Nat → Int32) : Int32 := if cm 0 = 0 then 0 else (if cm 2 = 1 then (if cm 4 = 0 then X2_outcome01_R cm cs else X2_outcome11_R cm cs) else (if cm 4 = 0 then X2_outcome02_R cm cs else (if cm 4 = 1 then X2_outcome12_R cm cs else (if cm 4 = 2 then X2_outcome22_R cm cs else X2_outcome32_R cm cs))))
theorem u_X2_performU {l : Launch} (hfl : l.stackTraces = false) {D : va_G} {cy : Nat → ClassId} {f : Hf} {sz : Nat} {A : Nat → Nat} {b : Nat} {q : Nat → Option Nat} {cm : Nat → Int32} {cs : Nat → Nat → Nat → Int32} {S : Nat → Int32} {st : Nat} (hM : MW A b cy q cm cs f) (hst : f st = some (scell S)) (hAj : ∀ i j : Nat, i ≠ j → A i ≠ A j) (hQ : HQ A b q) (hP : PP cm cs) : hMet l yX2_perform cX2_perform 5 (some .int) { frames := 4, cells := 0, slots := 0, locals := 92 } D (hTy cy) f sz [.ref (A (b + 0)), .ref st] (hQi (fun r u => r = pfR cm cs S ∧ MW A b cy q (pfM cm cs S) (pfS cm cs S) u ∧ hFrL f u (MA A b)) D f sz) hNo := by
  obtain ⟨hV, hr, ⟨hx3, hx3b⟩, hx3c, hx4, hx4b⟩ := hP
  rcases hV with ⟨h2, h4 | h4⟩ | ⟨h2, h4 | h4 | h4 | h4⟩
  · have e4 : (cm 4).toNatClampNeg = 0 := by rw [h4]; decide
    rw [e4] at hr hx3 hx3b hx3c hx4 hx4b
    have K := h_mono (rm2 := { frames := 4, cells := 0, slots := 0, locals := 92 }) (u_X2_perform01 hfl (D := D) (sz := sz) hM hst hAj hQ h2 h4 (hr 0 (by omega)).1 (hr 0 (by omega)).2.1 (hr 0 (by omega)).2.2 hx3 hx4 hx3c hx3b hx4b) (Nat.le_of_ble_eq_true rfl) (Nat.le_of_ble_eq_true rfl) (Nat.le_of_ble_eq_true rfl) (Nat.le_of_ble_eq_true rfl)
    rw [show pfM cm cs S = X2_perform01_M cm cs S from by unfold pfM; rw [if_pos h2, if_pos h4]]
    rw [show pfS cm cs S = X2_perform01_S cm cs S from by unfold pfS; rw [if_pos h2, if_pos h4]]
    rw [show pfR cm cs S = X2_perform01_R cm cs S from by unfold pfR; rw [if_pos h2, if_pos h4]]
    exact K
  · have e4 : (cm 4).toNatClampNeg = 1 := by rw [h4]; decide
    rw [e4] at hr hx3 hx3b hx3c hx4 hx4b
    have K := h_mono (rm2 := { frames := 4, cells := 0, slots := 0, locals := 92 }) (u_X2_perform11 hfl (D := D) (sz := sz) hM hst hAj hQ h2 h4 (hr 1 (by omega)).1 (hr 1 (by omega)).2.1 (hr 1 (by omega)).2.2 hx3 hx4 (hr 0 (by omega)).1 hx3c hx3b hx4b) (Nat.le_of_ble_eq_true rfl) (Nat.le_of_ble_eq_true rfl) (Nat.le_of_ble_eq_true rfl) (Nat.le_of_ble_eq_true rfl)
    rw [show pfM cm cs S = X2_perform11_M cm cs S from by unfold pfM; rw [if_pos h2, if_neg (show ¬ cm 4 = 0 by rw [h4]; decide)]]
    rw [show pfS cm cs S = X2_perform11_S cm cs S from by unfold pfS; rw [if_pos h2, if_neg (show ¬ cm 4 = 0 by rw [h4]; decide)]]
    rw [show pfR cm cs S = X2_perform11_R cm cs S from by unfold pfR; rw [if_pos h2, if_neg (show ¬ cm 4 = 0 by rw [h4]; decide)]]
    exact K
  · have e4 : (cm 4).toNatClampNeg = 0 := by rw [h4]; decide
    rw [e4] at hr hx3 hx3b hx3c hx4 hx4b
    have K := h_mono (rm2 := { frames := 4, cells := 0, slots := 0, locals := 92 }) (u_X2_perform02 hfl (D := D) (sz := sz) hM hst hAj hQ h2 h4 (hr 0 (by omega)).1 (hr 0 (by omega)).2.1 (hr 0 (by omega)).2.2 hx3 hx4 hx3c hx3b hx4b) (Nat.le_of_ble_eq_true rfl) (Nat.le_of_ble_eq_true rfl) (Nat.le_of_ble_eq_true rfl) (Nat.le_of_ble_eq_true rfl)
    rw [show pfM cm cs S = X2_perform02_M cm cs S from by unfold pfM; rw [if_neg (show ¬ cm 2 = 1 by rw [h2]; decide), if_pos h4]]
    rw [show pfS cm cs S = X2_perform02_S cm cs S from by unfold pfS; rw [if_neg (show ¬ cm 2 = 1 by rw [h2]; decide), if_pos h4]]
    rw [show pfR cm cs S = X2_perform02_R cm cs S from by unfold pfR; rw [if_neg (show ¬ cm 2 = 1 by rw [h2]; decide), if_pos h4]]
    exact K
  · have e4 : (cm 4).toNatClampNeg = 1 := by rw [h4]; decide
    rw [e4] at hr hx3 hx3b hx3c hx4 hx4b
    have K := h_mono (rm2 := { frames := 4, cells := 0, slots := 0, locals := 92 }) (u_X2_perform12 hfl (D := D) (sz := sz) hM hst hAj hQ h2 h4 (hr 1 (by omega)).1 (hr 1 (by omega)).2.1 (hr 1 (by omega)).2.2 hx3 hx4 hx3c hx3b hx4b) (Nat.le_of_ble_eq_true rfl) (Nat.le_of_ble_eq_true rfl) (Nat.le_of_ble_eq_true rfl) (Nat.le_of_ble_eq_true rfl)
    rw [show pfM cm cs S = X2_perform12_M cm cs S from by unfold pfM; rw [if_neg (show ¬ cm 2 = 1 by rw [h2]; decide), if_neg (show ¬ cm 4 = 0 by rw [h4]; decide), if_pos h4]]
    rw [show pfS cm cs S = X2_perform12_S cm cs S from by unfold pfS; rw [if_neg (show ¬ cm 2 = 1 by rw [h2]; decide), if_neg (show ¬ cm 4 = 0 by rw [h4]; decide), if_pos h4]]
    rw [show pfR cm cs S = X2_perform12_R cm cs S from by unfold pfR; rw [if_neg (show ¬ cm 2 = 1 by rw [h2]; decide), if_neg (show ¬ cm 4 = 0 by rw [h4]; decide), if_pos h4]]
    exact K
  · have e4 : (cm 4).toNatClampNeg = 2 := by rw [h4]; decide
    rw [e4] at hr hx3 hx3b hx3c hx4 hx4b
    have K := h_mono (rm2 := { frames := 4, cells := 0, slots := 0, locals := 92 }) (u_X2_perform22 hfl (D := D) (sz := sz) hM hst hAj hQ h2 h4 (hr 2 (by omega)).1 (hr 2 (by omega)).2.1 (hr 2 (by omega)).2.2 hx3 hx4 (hr 0 (by omega)).1 (hr 1 (by omega)).1 hx3c hx3b hx4b) (Nat.le_of_ble_eq_true rfl) (Nat.le_of_ble_eq_true rfl) (Nat.le_of_ble_eq_true rfl) (Nat.le_of_ble_eq_true rfl)
    rw [show pfM cm cs S = X2_perform22_M cm cs S from by unfold pfM; rw [if_neg (show ¬ cm 2 = 1 by rw [h2]; decide), if_neg (show ¬ cm 4 = 0 by rw [h4]; decide), if_neg (show ¬ cm 4 = 1 by rw [h4]; decide), if_pos h4]]
    rw [show pfS cm cs S = X2_perform22_S cm cs S from by unfold pfS; rw [if_neg (show ¬ cm 2 = 1 by rw [h2]; decide), if_neg (show ¬ cm 4 = 0 by rw [h4]; decide), if_neg (show ¬ cm 4 = 1 by rw [h4]; decide), if_pos h4]]
    rw [show pfR cm cs S = X2_perform22_R cm cs S from by unfold pfR; rw [if_neg (show ¬ cm 2 = 1 by rw [h2]; decide), if_neg (show ¬ cm 4 = 0 by rw [h4]; decide), if_neg (show ¬ cm 4 = 1 by rw [h4]; decide), if_pos h4]]
    exact K
  · have e4 : (cm 4).toNatClampNeg = 3 := by rw [h4]; decide
    rw [e4] at hr hx3 hx3b hx3c hx4 hx4b
    have K := h_mono (rm2 := { frames := 4, cells := 0, slots := 0, locals := 92 }) (u_X2_perform32 hfl (D := D) (sz := sz) hM hst hAj hQ h2 h4 (hr 3 (by omega)).1 (hr 3 (by omega)).2.1 (hr 3 (by omega)).2.2 hx3 hx4 (hr 0 (by omega)).1 (hr 1 (by omega)).1 (hr 2 (by omega)).1 hx3c hx3b hx4b) (Nat.le_of_ble_eq_true rfl) (Nat.le_of_ble_eq_true rfl) (Nat.le_of_ble_eq_true rfl) (Nat.le_of_ble_eq_true rfl)
    rw [show pfM cm cs S = X2_perform32_M cm cs S from by unfold pfM; rw [if_neg (show ¬ cm 2 = 1 by rw [h2]; decide), if_neg (show ¬ cm 4 = 0 by rw [h4]; decide), if_neg (show ¬ cm 4 = 1 by rw [h4]; decide), if_neg (show ¬ cm 4 = 2 by rw [h4]; decide)]]
    rw [show pfS cm cs S = X2_perform32_S cm cs S from by unfold pfS; rw [if_neg (show ¬ cm 2 = 1 by rw [h2]; decide), if_neg (show ¬ cm 4 = 0 by rw [h4]; decide), if_neg (show ¬ cm 4 = 1 by rw [h4]; decide), if_neg (show ¬ cm 4 = 2 by rw [h4]; decide)]]
    rw [show pfR cm cs S = X2_perform32_R cm cs S from by unfold pfR; rw [if_neg (show ¬ cm 2 = 1 by rw [h2]; decide), if_neg (show ¬ cm 4 = 0 by rw [h4]; decide), if_neg (show ¬ cm 4 = 1 by rw [h4]; decide), if_neg (show ¬ cm 4 = 2 by rw [h4]; decide)]]
    exact K
theorem u_X2_refusalU {l : Launch} (hfl : l.stackTraces = false) {D : va_G} {cy : Nat → ClassId} {f : Hf} {sz : Nat} {A : Nat → Nat} {b : Nat} {q : Nat → Option Nat} {cm : Nat → Int32} {cs : Nat → Nat → Nat → Int32} {S : Nat → Int32} {st : Nat} (hM : MW A b cy q cm cs f) (hst : f st = some (scell S)) (hAj : ∀ i j : Nat, i ≠ j → A i ≠ A j) (hQ : HQ A b q) (hP : cm 0 = 0 ∨ PP cm cs) : hMet l yX2_refusal cX2_refusal 3 (some .int) { frames := 3, cells := 0, slots := 0, locals := 67 } D (hTy cy) f sz [.ref (A (b + 0)), .ref st] (hQi (fun r u => r = rfR cm cs S ∧ u = f) D f sz) hNo := by
  by_cases h0 : cm 0 = 0
  · obtain ⟨hq0, hq1, hq2, hq3⟩ := hQ
    have K := h_mono (rm2 := { frames := 3, cells := 0, slots := 0, locals := 67 }) (c_X2_refusalN hfl (D := D) (sz := sz) (by have h9 : f (A (b + 0)) = some (.inr (4, [.ref (A (b + 1)), .int (cm 0), .int (cm 1), .int (cm 2), .int (cm 3), .int (cm 4)])) := hM 0 (by omega); rw [h0] at h9; exact h9) (show f (A (b + 1)) = some (.inl (cy 3, 4, .inr (.inr (.inr (.inr q))))) from hM 1 (by omega)) hst hAj hq0 hq1 hq2 hq3) (Nat.le_of_ble_eq_true rfl) (Nat.le_of_ble_eq_true rfl) (Nat.le_of_ble_eq_true rfl) (Nat.le_of_ble_eq_true rfl)
    rw [show rfR cm cs S = 1 from by unfold rfR; rw [if_pos h0]]
    exact K
  replace hP := hP.resolve_left h0
  obtain ⟨hV, hr, ⟨hx3, hx3b⟩, hx3c, hx4, hx4b⟩ := hP
  rcases hV with ⟨h2, h4 | h4⟩ | ⟨h2, h4 | h4 | h4 | h4⟩
  · have e4 : (cm 4).toNatClampNeg = 0 := by rw [h4]; decide
    rw [e4] at hr hx3 hx3b hx3c hx4 hx4b
    have K := h_mono (rm2 := { frames := 3, cells := 0, slots := 0, locals := 67 }) (u_X2_refusal01 hfl (D := D) (sz := sz) hM hst hAj hQ h2 h4 (hr 0 (by omega)).2.1 (hr 0 (by omega)).2.2) (Nat.le_of_ble_eq_true rfl) (Nat.le_of_ble_eq_true rfl) (Nat.le_of_ble_eq_true rfl) (Nat.le_of_ble_eq_true rfl)
    rw [show rfR cm cs S = X2_refusal01_R cm cs S from by unfold rfR; rw [if_neg h0, if_pos h2, if_pos h4]]
    exact K
  · have e4 : (cm 4).toNatClampNeg = 1 := by rw [h4]; decide
    rw [e4] at hr hx3 hx3b hx3c hx4 hx4b
    have K := h_mono (rm2 := { frames := 3, cells := 0, slots := 0, locals := 67 }) (u_X2_refusal11 hfl (D := D) (sz := sz) hM hst hAj hQ h2 h4 (hr 1 (by omega)).2.1 (hr 1 (by omega)).2.2) (Nat.le_of_ble_eq_true rfl) (Nat.le_of_ble_eq_true rfl) (Nat.le_of_ble_eq_true rfl) (Nat.le_of_ble_eq_true rfl)
    rw [show rfR cm cs S = X2_refusal11_R cm cs S from by unfold rfR; rw [if_neg h0, if_pos h2, if_neg (show ¬ cm 4 = 0 by rw [h4]; decide)]]
    exact K
  · have e4 : (cm 4).toNatClampNeg = 0 := by rw [h4]; decide
    rw [e4] at hr hx3 hx3b hx3c hx4 hx4b
    have K := h_mono (rm2 := { frames := 3, cells := 0, slots := 0, locals := 67 }) (u_X2_refusal02 hfl (D := D) (sz := sz) hM hst hAj hQ h2 h4 (hr 0 (by omega)).2.1 (hr 0 (by omega)).2.2) (Nat.le_of_ble_eq_true rfl) (Nat.le_of_ble_eq_true rfl) (Nat.le_of_ble_eq_true rfl) (Nat.le_of_ble_eq_true rfl)
    rw [show rfR cm cs S = X2_refusal02_R cm cs S from by unfold rfR; rw [if_neg h0, if_neg (show ¬ cm 2 = 1 by rw [h2]; decide), if_pos h4]]
    exact K
  · have e4 : (cm 4).toNatClampNeg = 1 := by rw [h4]; decide
    rw [e4] at hr hx3 hx3b hx3c hx4 hx4b
    have K := h_mono (rm2 := { frames := 3, cells := 0, slots := 0, locals := 67 }) (u_X2_refusal12 hfl (D := D) (sz := sz) hM hst hAj hQ h2 h4 (hr 1 (by omega)).2.1 (hr 1 (by omega)).2.2) (Nat.le_of_ble_eq_true rfl) (Nat.le_of_ble_eq_true rfl) (Nat.le_of_ble_eq_true rfl) (Nat.le_of_ble_eq_true rfl)
    rw [show rfR cm cs S = X2_refusal12_R cm cs S from by unfold rfR; rw [if_neg h0, if_neg (show ¬ cm 2 = 1 by rw [h2]; decide), if_neg (show ¬ cm 4 = 0 by rw [h4]; decide), if_pos h4]]
    exact K
  · have e4 : (cm 4).toNatClampNeg = 2 := by rw [h4]; decide
    rw [e4] at hr hx3 hx3b hx3c hx4 hx4b
    have K := h_mono (rm2 := { frames := 3, cells := 0, slots := 0, locals := 67 }) (u_X2_refusal22 hfl (D := D) (sz := sz) hM hst hAj hQ h2 h4 (hr 2 (by omega)).2.1 (hr 2 (by omega)).2.2) (Nat.le_of_ble_eq_true rfl) (Nat.le_of_ble_eq_true rfl) (Nat.le_of_ble_eq_true rfl) (Nat.le_of_ble_eq_true rfl)
    rw [show rfR cm cs S = X2_refusal22_R cm cs S from by unfold rfR; rw [if_neg h0, if_neg (show ¬ cm 2 = 1 by rw [h2]; decide), if_neg (show ¬ cm 4 = 0 by rw [h4]; decide), if_neg (show ¬ cm 4 = 1 by rw [h4]; decide), if_pos h4]]
    exact K
  · have e4 : (cm 4).toNatClampNeg = 3 := by rw [h4]; decide
    rw [e4] at hr hx3 hx3b hx3c hx4 hx4b
    have K := h_mono (rm2 := { frames := 3, cells := 0, slots := 0, locals := 67 }) (u_X2_refusal32 hfl (D := D) (sz := sz) hM hst hAj hQ h2 h4 (hr 3 (by omega)).2.1 (hr 3 (by omega)).2.2) (Nat.le_of_ble_eq_true rfl) (Nat.le_of_ble_eq_true rfl) (Nat.le_of_ble_eq_true rfl) (Nat.le_of_ble_eq_true rfl)
    rw [show rfR cm cs S = X2_refusal32_R cm cs S from by unfold rfR; rw [if_neg h0, if_neg (show ¬ cm 2 = 1 by rw [h2]; decide), if_neg (show ¬ cm 4 = 0 by rw [h4]; decide), if_neg (show ¬ cm 4 = 1 by rw [h4]; decide), if_neg (show ¬ cm 4 = 2 by rw [h4]; decide)]]
    exact K
theorem u_X2_outcomeU {l : Launch} (hfl : l.stackTraces = false) {D : va_G} {cy : Nat → ClassId} {f : Hf} {sz : Nat} {A : Nat → Nat} {b : Nat} {q : Nat → Option Nat} {cm : Nat → Int32} {cs : Nat → Nat → Nat → Int32} (hM : MW A b cy q cm cs f) (hAj : ∀ i j : Nat, i ≠ j → A i ≠ A j) (hQ : HQ A b q) (hP : cm 0 = 0 ∨ PP cm cs) : hMet l yX2_outcome cX2_outcome 2 (some .int) { frames := 3, cells := 0, slots := 0, locals := 66 } D (hTy cy) f sz [.ref (A (b + 0))] (hQi (fun r u => r = ocR cm cs ∧ u = f) D f sz) hNo := by
  by_cases h0 : cm 0 = 0
  · obtain ⟨hq0, hq1, hq2, hq3⟩ := hQ
    have K := h_mono (rm2 := { frames := 3, cells := 0, slots := 0, locals := 66 }) (c_X2_outcomeN hfl (D := D) (sz := sz) (by have h9 : f (A (b + 0)) = some (.inr (4, [.ref (A (b + 1)), .int (cm 0), .int (cm 1), .int (cm 2), .int (cm 3), .int (cm 4)])) := hM 0 (by omega); rw [h0] at h9; exact h9) (show f (A (b + 1)) = some (.inl (cy 3, 4, .inr (.inr (.inr (.inr q))))) from hM 1 (by omega)) hAj hq0 hq1 hq2 hq3) (Nat.le_of_ble_eq_true rfl) (Nat.le_of_ble_eq_true rfl) (Nat.le_of_ble_eq_true rfl) (Nat.le_of_ble_eq_true rfl)
    rw [show ocR cm cs = 0 from by unfold ocR; rw [if_pos h0]]
    exact K
  replace hP := hP.resolve_left h0
  obtain ⟨hV, hr, ⟨hx3, hx3b⟩, hx3c, hx4, hx4b⟩ := hP
  rcases hV with ⟨h2, h4 | h4⟩ | ⟨h2, h4 | h4 | h4 | h4⟩
  · have e4 : (cm 4).toNatClampNeg = 0 := by rw [h4]; decide
    rw [e4] at hr hx3 hx3b hx3c hx4 hx4b
    have K := h_mono (rm2 := { frames := 3, cells := 0, slots := 0, locals := 66 }) (u_X2_outcome01 hfl (D := D) (sz := sz) hM hAj hQ h2 h4 (hr 0 (by omega)).1) (Nat.le_of_ble_eq_true rfl) (Nat.le_of_ble_eq_true rfl) (Nat.le_of_ble_eq_true rfl) (Nat.le_of_ble_eq_true rfl)
    rw [show ocR cm cs = X2_outcome01_R cm cs from by unfold ocR; rw [if_neg h0, if_pos h2, if_pos h4]]
    exact K
  · have e4 : (cm 4).toNatClampNeg = 1 := by rw [h4]; decide
    rw [e4] at hr hx3 hx3b hx3c hx4 hx4b
    have K := h_mono (rm2 := { frames := 3, cells := 0, slots := 0, locals := 66 }) (u_X2_outcome11 hfl (D := D) (sz := sz) hM hAj hQ h2 h4 (hr 1 (by omega)).1 (hr 0 (by omega)).1) (Nat.le_of_ble_eq_true rfl) (Nat.le_of_ble_eq_true rfl) (Nat.le_of_ble_eq_true rfl) (Nat.le_of_ble_eq_true rfl)
    rw [show ocR cm cs = X2_outcome11_R cm cs from by unfold ocR; rw [if_neg h0, if_pos h2, if_neg (show ¬ cm 4 = 0 by rw [h4]; decide)]]
    exact K
  · have e4 : (cm 4).toNatClampNeg = 0 := by rw [h4]; decide
    rw [e4] at hr hx3 hx3b hx3c hx4 hx4b
    have K := h_mono (rm2 := { frames := 3, cells := 0, slots := 0, locals := 66 }) (u_X2_outcome02 hfl (D := D) (sz := sz) hM hAj hQ h2 h4 (hr 0 (by omega)).1) (Nat.le_of_ble_eq_true rfl) (Nat.le_of_ble_eq_true rfl) (Nat.le_of_ble_eq_true rfl) (Nat.le_of_ble_eq_true rfl)
    rw [show ocR cm cs = X2_outcome02_R cm cs from by unfold ocR; rw [if_neg h0, if_neg (show ¬ cm 2 = 1 by rw [h2]; decide), if_pos h4]]
    exact K
  · have e4 : (cm 4).toNatClampNeg = 1 := by rw [h4]; decide
    rw [e4] at hr hx3 hx3b hx3c hx4 hx4b
    have K := h_mono (rm2 := { frames := 3, cells := 0, slots := 0, locals := 66 }) (u_X2_outcome12 hfl (D := D) (sz := sz) hM hAj hQ h2 h4 (hr 1 (by omega)).1) (Nat.le_of_ble_eq_true rfl) (Nat.le_of_ble_eq_true rfl) (Nat.le_of_ble_eq_true rfl) (Nat.le_of_ble_eq_true rfl)
    rw [show ocR cm cs = X2_outcome12_R cm cs from by unfold ocR; rw [if_neg h0, if_neg (show ¬ cm 2 = 1 by rw [h2]; decide), if_neg (show ¬ cm 4 = 0 by rw [h4]; decide), if_pos h4]]
    exact K
  · have e4 : (cm 4).toNatClampNeg = 2 := by rw [h4]; decide
    rw [e4] at hr hx3 hx3b hx3c hx4 hx4b
    have K := h_mono (rm2 := { frames := 3, cells := 0, slots := 0, locals := 66 }) (u_X2_outcome22 hfl (D := D) (sz := sz) hM hAj hQ h2 h4 (hr 2 (by omega)).1) (Nat.le_of_ble_eq_true rfl) (Nat.le_of_ble_eq_true rfl) (Nat.le_of_ble_eq_true rfl) (Nat.le_of_ble_eq_true rfl)
    rw [show ocR cm cs = X2_outcome22_R cm cs from by unfold ocR; rw [if_neg h0, if_neg (show ¬ cm 2 = 1 by rw [h2]; decide), if_neg (show ¬ cm 4 = 0 by rw [h4]; decide), if_neg (show ¬ cm 4 = 1 by rw [h4]; decide), if_pos h4]]
    exact K
  · have e4 : (cm 4).toNatClampNeg = 3 := by rw [h4]; decide
    rw [e4] at hr hx3 hx3b hx3c hx4 hx4b
    have K := h_mono (rm2 := { frames := 3, cells := 0, slots := 0, locals := 66 }) (u_X2_outcome32 hfl (D := D) (sz := sz) hM hAj hQ h2 h4 (hr 3 (by omega)).1 (hr 0 (by omega)).1 (hr 1 (by omega)).1 (hr 2 (by omega)).1) (Nat.le_of_ble_eq_true rfl) (Nat.le_of_ble_eq_true rfl) (Nat.le_of_ble_eq_true rfl) (Nat.le_of_ble_eq_true rfl)
    rw [show ocR cm cs = X2_outcome32_R cm cs from by unfold ocR; rw [if_neg h0, if_neg (show ¬ cm 2 = 1 by rw [h2]; decide), if_neg (show ¬ cm 4 = 0 by rw [h4]; decide), if_neg (show ¬ cm 4 = 1 by rw [h4]; decide), if_neg (show ¬ cm 4 = 2 by rw [h4]; decide)]]
    exact K
