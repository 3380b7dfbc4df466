/-! ONE INNINGS, c its tables (0..5), numbers (6) and rows (7): a step inside it, its end, its start -/
def INN (c : Nat → Nat → Int32) (S : Nat → Int32) : Nat → Nat → Int32
  | 0 => X2_perform01_g8 (c 0) (S 0) (S 3) (S 4)
  | 1 => X2_perform01_g10 (c 6 9) (c 6 10) (c 6 11) (c 1) (c 6 3) (S 0) (S 2) (S 3) (S 4) (S 5) (S 6) (S 8)
  | 2 => X2_perform01_g9 (c 2) (c 6 3) (c 6 5) (c 6 6) (S 0) (S 2) (S 3) (S 4)
  | 3 => X2_perform01_g11 (c 6 9) (c 6 10) (c 6 11) (c 1) ((c 7 3).toNatClampNeg) (c 3) (S 0) (S 3) (S 4) (S 5) (S 6) (S 7)
  | 4 => X2_perform01_g19 (c 6 9) (c 6 10) (c 0) ((c 7 4).toNatClampNeg) (c 4) (S 0) (S 3) (S 4) (S 5)
  | 5 => X2_perform01_g17 (c 0) (c 6 2) (c 6 5) (c 5) (S 0) (S 3) (S 4)
  | 6 => fun k => match k with | 0 => (X2_perform01_x1 (c 6 0) (S 0) (S 1)) | 1 => (c 6 1) | 2 => (X2_perform01_x2 (c 6 2) (c 6 5) (S 0) (S 3)) | 3 => (X2_perform01_x3 (c 6 3) (c 6 5) (S 0) (S 1) (S 3)) | 4 => (X2_perform01_x4 (c 6 3) (c 6 4) (c 6 5) (S 0) (S 3)) | 5 => (X2_perform01_x5 (c 6 5) (S 0) (S 3)) | 6 => (X2_perform01_x6 (c 6 5) (c 6 6) (S 0) (S 3) (S 4)) | 7 => (X2_perform01_x7 (c 6 5) (c 6 7) (S 0) (S 3)) | 8 => (X2_perform01_x12 (c 6 8) (c 0) (c 6 0) (S 0) (S 1)) | 9 => (X2_perform01_x13 (c 6 9) (c 6 10) (c 6 11) (c 1) (c 6 5) (S 0) (S 3) (S 4) (S 5) (S 6) (S 7)) | 10 => (X2_perform01_x14 (c 6 9) (c 6 10) (c 6 11) (c 1) (c 6 5) (S 0) (S 3) (S 4) (S 5) (S 6) (S 7)) | 11 => (X2_perform01_x15 (c 6 11) (c 1) (S 0) (S 1)) | 12 => (X2_perform01_x16 (c 6 11) (c 6 12) (c 1) (S 0)) | k => c 6 k
  | 7 => fun k => match k with | 3 => (X2_perform01_x20 (c 6 11) (c 1) ((c 7 3).toNatClampNeg) (S 0)) | 4 => nI (X2_perform01_n18 ((c 7 4).toNatClampNeg) (S 0)) | k => c 7 k
  | k => c k
def FIN (c : Nat → Nat → Int32) (e : Int32) : Nat → Nat → Int32
  | 0 => X0_finish_g0 (c 0) e
  | 6 => fun k => match k with | 11 => (-1) | k => c 6 k
  | k => c k
def STA (c : Nat → Nat → Int32) (lm hr : Int32) : Nat → Nat → Int32
  | 0 => X0_start_g12 (c 0)
  | 1 => X0_start_g10 (c 1)
  | 2 => X0_start_g13 (c 2)
  | 3 => X0_start_g14 (c 3)
  | 4 => X0_start_g15 (c 4)
  | 6 => fun k => match k with | 0 => lm | 1 => lm | 2 => 0 | 3 => (-1) | 4 => (-1) | 5 => 0 | 6 => 0 | 7 => 0 | 8 => (X0_start_x11 (c 0) lm hr) | 9 => 0 | 10 => 1 | 11 => (-1) | 12 => 0 | k => c 6 k
  | 7 => fun k => match k with | 0 => 1 | 1 => 11 | 2 => 11 | 3 => 1 | 4 => 0 | k => c 7 k
  | k => c k
def ANS (c : Nat → Nat → Int32) (S : Nat → Int32) : Int32 := X2_perform01_x0 (c 6 11) (c 0) (c 1) (c 2) (c 6 0) (S 0) (S 1) (S 3) (S 4)
/-- why the present innings ends behind a step, 0 if it goes on; c: its content behind the step -/
def DUE1 (cs : Nat → Nat → Nat → Int32) (c : Nat → Nat → Int32) (ty : Int32) : Int32 := X2_dueEnd11_r1 (c 6 8) (c 6 12) (c 0) (c 6 0) (c 6 2) (cs 0 6 8) (cs 0 0) (X2_perform01_x21 ty)
def DUE3 (cs : Nat → Nat → Nat → Int32) (c : Nat → Nat → Int32) (ty : Int32) : Int32 := X2_dueEnd32_r1 (c 6 12) (c 0) (c 6 0) (c 6 2) (cs 0 0) (cs 1 0) (cs 2 0) (X2_perform01_x21 ty)
def DUE0 (c : Nat → Nat → Int32) (ty : Int32) : Int32 := X2_dueEnd01_x0 (c 6 12) (c 6 0) (c 6 2) (X2_perform01_x21 ty)
def DUE (cm : Nat → Int32) (cs : Nat → Nat → Nat → Int32) (S : Nat → Int32) : Int32 := if cm 2 = 1 then (if cm 4 = 0 then DUE0 (INN (cs 0) S) (S 0) else DUE1 cs (INN (cs 1) S) (S 0)) else (if cm 4 = 0 then DUE0 (INN (cs 0) S) (S 0) else (if cm 4 = 1 then DUE0 (INN (cs 1) S) (S 0) else (if cm 4 = 2 then DUE0 (INN (cs 2) S) (S 0) else DUE3 cs (INN (cs 3) S) (S 0))))
/-- the last innings is needed -/
def TGT0 (cs : Nat → Nat → Nat → Int32) (S : Nat → Int32) : Prop := 0 < X2_target2_r0 (cs 0 0) (cs 1 0) (FIN (INN (cs 2) S) (DUE0 (INN (cs 2) S) (S 0)) 0)
/-- the match ends with its present innings -/
def OVR (cm : Nat → Int32) (cs : Nat → Nat → Nat → Int32) (S : Nat → Int32) : Prop := (cm 2 = 1 ∧ cm 4 = 1) ∨ (cm 2 = 2 ∧ cm 4 = 3) ∨ (cm 2 = 2 ∧ cm 4 = 2 ∧ ¬ TGT0 cs S)
def NXT (cm : Nat → Int32) (cs : Nat → Nat → Nat → Int32) (S : Nat → Int32) : Prop := (cm 2 = 1 ∧ cm 4 = 0) ∨ (cm 2 = 2 ∧ cm 4 = 0) ∨ (cm 2 = 2 ∧ cm 4 = 1) ∨ (cm 2 = 2 ∧ cm 4 = 2 ∧ TGT0 cs S)
theorem OVR_or {cm : Nat → Int32} {cs : Nat → Nat → Nat → Int32} {S : Nat → Int32} (hV : VAR cm) : OVR cm cs S ∨ NXT cm cs S := by
  rcases hV with ⟨h2, h4 | h4⟩ | ⟨h2, h4 | h4 | h4 | h4⟩
  · exact Or.inr (Or.inl ⟨h2, h4⟩)
  · exact Or.inl (Or.inl ⟨h2, h4⟩)
  · exact Or.inr (Or.inr (Or.inl ⟨h2, h4⟩))
  · exact Or.inr (Or.inr (Or.inr (Or.inl ⟨h2, h4⟩)))
  · by_cases h : TGT0 cs S
    · exact Or.inr (Or.inr (Or.inr (Or.inr ⟨h2, h4, h⟩)))
    · exact Or.inl (Or.inr (Or.inr ⟨h2, h4, h⟩))
  · exact Or.inl (Or.inr (Or.inl ⟨h2, h4⟩))
set_option maxRecDepth 20000 in
theorem pf_E01 {cs : Nat → Nat → Nat → Int32} {S : Nat → Int32} : (X2_perform01_x22 (cs 0 6 11) (cs 0 6 12) (cs 0 1) (cs 0 6 0) (cs 0 6 2) (cs 0 6 5) (S 0) (S 1) (S 3)) = DUE0 (INN (cs 0) S) (S 0) := rfl
set_option maxRecDepth 20000 in
theorem pf_F01 {cs : Nat → Nat → Nat → Int32} {S : Nat → Int32} : X0_finish_g0 (X2_perform01_g8 (cs 0 0) (S 0) (S 3) (S 4)) (X2_perform01_x22 (cs 0 6 11) (cs 0 6 12) (cs 0 1) (cs 0 6 0) (cs 0 6 2) (cs 0 6 5) (S 0) (S 1) (S 3)) = FIN (INN (cs 0) S) (X2_perform01_x22 (cs 0 6 11) (cs 0 6 12) (cs 0 1) (cs 0 6 0) (cs 0 6 2) (cs 0 6 5) (S 0) (S 1) (S 3)) 0 := rfl
set_option maxRecDepth 20000 in
theorem pf_E11 {cs : Nat → Nat → Nat → Int32} {S : Nat → Int32} : (X2_perform11_x22 (cs 1 6 8) (cs 1 6 11) (cs 1 6 12) (cs 1 0) (cs 1 1) (cs 1 6 0) (cs 1 6 2) (cs 1 6 5) (cs 0 6 8) (cs 0 0) (S 0) (S 1) (S 3) (S 4)) = DUE1 cs (INN (cs 1) S) (S 0) := rfl
set_option maxRecDepth 20000 in
theorem pf_F11 {cs : Nat → Nat → Nat → Int32} {S : Nat → Int32} : X0_finish_g0 (X2_perform11_g8 (cs 1 0) (S 0) (S 3) (S 4)) (X2_perform11_x22 (cs 1 6 8) (cs 1 6 11) (cs 1 6 12) (cs 1 0) (cs 1 1) (cs 1 6 0) (cs 1 6 2) (cs 1 6 5) (cs 0 6 8) (cs 0 0) (S 0) (S 1) (S 3) (S 4)) = FIN (INN (cs 1) S) (X2_perform11_x22 (cs 1 6 8) (cs 1 6 11) (cs 1 6 12) (cs 1 0) (cs 1 1) (cs 1 6 0) (cs 1 6 2) (cs 1 6 5) (cs 0 6 8) (cs 0 0) (S 0) (S 1) (S 3) (S 4)) 0 := rfl
set_option maxRecDepth 20000 in
theorem pf_E02 {cs : Nat → Nat → Nat → Int32} {S : Nat → Int32} : (X2_perform02_x22 (cs 0 6 11) (cs 0 6 12) (cs 0 1) (cs 0 6 0) (cs 0 6 2) (cs 0 6 5) (S 0) (S 1) (S 3)) = DUE0 (INN (cs 0) S) (S 0) := rfl
set_option maxRecDepth 20000 in
theorem pf_F02 {cs : Nat → Nat → Nat → Int32} {S : Nat → Int32} : X0_finish_g0 (X2_perform02_g8 (cs 0 0) (S 0) (S 3) (S 4)) (X2_perform02_x22 (cs 0 6 11) (cs 0 6 12) (cs 0 1) (cs 0 6 0) (cs 0 6 2) (cs 0 6 5) (S 0) (S 1) (S 3)) = FIN (INN (cs 0) S) (X2_perform02_x22 (cs 0 6 11) (cs 0 6 12) (cs 0 1) (cs 0 6 0) (cs 0 6 2) (cs 0 6 5) (S 0) (S 1) (S 3)) 0 := rfl
set_option maxRecDepth 20000 in
theorem pf_E12 {cs : Nat → Nat → Nat → Int32} {S : Nat → Int32} : (X2_perform12_x22 (cs 1 6 11) (cs 1 6 12) (cs 1 1) (cs 1 6 0) (cs 1 6 2) (cs 1 6 5) (S 0) (S 1) (S 3)) = DUE0 (INN (cs 1) S) (S 0) := rfl
set_option maxRecDepth 20000 in
theorem pf_F12 {cs : Nat → Nat → Nat → Int32} {S : Nat → Int32} : X0_finish_g0 (X2_perform12_g8 (cs 1 0) (S 0) (S 3) (S 4)) (X2_perform12_x22 (cs 1 6 11) (cs 1 6 12) (cs 1 1) (cs 1 6 0) (cs 1 6 2) (cs 1 6 5) (S 0) (S 1) (S 3)) = FIN (INN (cs 1) S) (X2_perform12_x22 (cs 1 6 11) (cs 1 6 12) (cs 1 1) (cs 1 6 0) (cs 1 6 2) (cs 1 6 5) (S 0) (S 1) (S 3)) 0 := rfl
set_option maxRecDepth 20000 in
theorem pf_E22 {cs : Nat → Nat → Nat → Int32} {S : Nat → Int32} : (X2_perform22_x22 (cs 2 6 11) (cs 2 6 12) (cs 2 1) (cs 2 6 0) (cs 2 6 2) (cs 2 6 5) (S 0) (S 1) (S 3)) = DUE0 (INN (cs 2) S) (S 0) := rfl
set_option maxRecDepth 20000 in
theorem pf_F22 {cs : Nat → Nat → Nat → Int32} {S : Nat → Int32} : X0_finish_g0 (X2_perform22_g8 (cs 2 0) (S 0) (S 3) (S 4)) (X2_perform22_x22 (cs 2 6 11) (cs 2 6 12) (cs 2 1) (cs 2 6 0) (cs 2 6 2) (cs 2 6 5) (S 0) (S 1) (S 3)) = FIN (INN (cs 2) S) (X2_perform22_x22 (cs 2 6 11) (cs 2 6 12) (cs 2 1) (cs 2 6 0) (cs 2 6 2) (cs 2 6 5) (S 0) (S 1) (S 3)) 0 := rfl
set_option maxRecDepth 20000 in
theorem pf_E32 {cs : Nat → Nat → Nat → Int32} {S : Nat → Int32} : (X2_perform32_x22 (cs 3 6 11) (cs 3 6 12) (cs 3 0) (cs 3 1) (cs 3 6 0) (cs 3 6 2) (cs 3 6 5) (cs 0 0) (cs 1 0) (cs 2 0) (S 0) (S 1) (S 3) (S 4)) = DUE3 cs (INN (cs 3) S) (S 0) := rfl
set_option maxRecDepth 20000 in
theorem pf_F32 {cs : Nat → Nat → Nat → Int32} {S : Nat → Int32} : X0_finish_g0 (X2_perform32_g8 (cs 3 0) (S 0) (S 3) (S 4)) (X2_perform32_x22 (cs 3 6 11) (cs 3 6 12) (cs 3 0) (cs 3 1) (cs 3 6 0) (cs 3 6 2) (cs 3 6 5) (cs 0 0) (cs 1 0) (cs 2 0) (S 0) (S 1) (S 3) (S 4)) = FIN (INN (cs 3) S) (X2_perform32_x22 (cs 3 6 11) (cs 3 6 12) (cs 3 0) (cs 3 1) (cs 3 6 0) (cs 3 6 2) (cs 3 6 5) (cs 0 0) (cs 1 0) (cs 2 0) (S 0) (S 1) (S 3) (S 4)) 0 := rfl
theorem pf_T22 {cs : Nat → Nat → Nat → Int32} {S : Nat → Int32} : (0 < X2_target2_r0 (cs 0 0) (cs 1 0) (X2_perform22_g23 (cs 2 6 11) (cs 2 6 12) (cs 2 0) (cs 2 1) (cs 2 6 0) (cs 2 6 2) (cs 2 6 5) (S 0) (S 1) (S 3) (S 4))) = TGT0 cs S := by
  unfold TGT0
  rw [← pf_E22, ← pf_F22]
  rfl
theorem pf_stay01 {cm : Nat → Int32} {cs : Nat → Nat → Nat → Int32} {S : Nat → Int32} (l0 : cm 2 = 1) (l1 : cm 4 = 0) (hd : (X2_perform01_x22 (cs 0 6 11) (cs 0 6 12) (cs 0 1) (cs 0 6 0) (cs 0 6 2) (cs 0 6 5) (S 0) (S 1) (S 3)) = 0) : X2_perform01_M cm cs S = cm ∧ X2_perform01_S cm cs S 0 = INN (cs 0) S ∧ ∀ j, j ≠ 0 → X2_perform01_S cm cs S j = cs j := by
  refine ⟨?_, ?_, ?_⟩
  · funext k
    match k with
    | 0 => exact rfl
    | 1 => exact rfl
    | 2 => exact l0.symm
    | 3 => exact rfl
    | 4 =>
      show (X2_perform01_x26 (cs 0 6 11) (cs 0 6 12) (cs 0 1) (cs 0 6 0) (cs 0 6 2) (cs 0 6 5) (S 0) (S 1) (S 3)) = _
      unfold X2_perform01_x26
      exact (if_pos hd).trans (l1.symm)
    | k + 5 => exact rfl
  · funext t
    match t with
    | 0 =>
      show (X2_perform01_g24 (cs 0 6 11) (cs 0 6 12) (cs 0 0) (cs 0 1) (cs 0 6 0) (cs 0 6 2) (cs 0 6 5) (S 0) (S 1) (S 3) (S 4)) = _
      unfold X2_perform01_g24
      exact (if_pos hd)
    | 1 => exact rfl
    | 2 => exact rfl
    | 3 => exact rfl
    | 4 => exact rfl
    | 5 => exact rfl
    | 6 =>
      funext k
      match k with
      | 0 => exact rfl
      | 1 => exact rfl
      | 2 => exact rfl
      | 3 => exact rfl
      | 4 => exact rfl
      | 5 => exact rfl
      | 6 => exact rfl
      | 7 => exact rfl
      | 8 => exact rfl
      | 9 => exact rfl
      | 10 => exact rfl
      | 11 =>
        show (X2_perform01_x25 (cs 0 6 11) (cs 0 6 12) (cs 0 1) (cs 0 6 0) (cs 0 6 2) (cs 0 6 5) (S 0) (S 1) (S 3)) = _
        unfold X2_perform01_x25
        exact (if_pos hd)
      | 12 => exact rfl
      | k + 13 => rfl
    | 7 => rfl
    | t + 8 => rfl
  · intro j hj
    match j, hj with
    | 0, h => exact absurd rfl h
    | 1, _ =>
      funext t
      match t with
      | 0 =>
        show (X2_perform01_g28 (cs 0 6 11) (cs 0 6 12) (cs 0 1) (cs 0 6 0) (cs 0 6 2) (cs 0 6 5) (cs 1 0) (S 0) (S 1) (S 3)) = _
        unfold X2_perform01_g28
        exact (if_pos hd)
      | 1 =>
        show (X2_perform01_g30 (cs 0 6 11) (cs 0 6 12) (cs 0 1) (cs 0 6 0) (cs 0 6 2) (cs 0 6 5) (cs 1 1) (S 0) (S 1) (S 3)) = _
        unfold X2_perform01_g30
        exact (if_pos hd)
      | 2 =>
        show (X2_perform01_g32 (cs 0 6 11) (cs 0 6 12) (cs 0 1) (cs 0 6 0) (cs 0 6 2) (cs 0 6 5) (cs 1 2) (S 0) (S 1) (S 3)) = _
        unfold X2_perform01_g32
        exact (if_pos hd)
      | 3 =>
        show (X2_perform01_g34 (cs 0 6 11) (cs 0 6 12) (cs 0 1) (cs 0 6 0) (cs 0 6 2) (cs 0 6 5) (cs 1 3) (S 0) (S 1) (S 3)) = _
        unfold X2_perform01_g34
        exact (if_pos hd)
      | 4 =>
        show (X2_perform01_g36 (cs 0 6 11) (cs 0 6 12) (cs 0 1) (cs 0 6 0) (cs 0 6 2) (cs 0 6 5) (cs 1 4) (S 0) (S 1) (S 3)) = _
        unfold X2_perform01_g36
        exact (if_pos hd)
      | 5 => rfl
      | 6 =>
        funext k
        match k with
        | 0 =>
          show (X2_perform01_x37 (cs 0 6 11) (cs 0 6 12) (cs 0 1) (cs 0 6 0) (cs 0 6 2) (cs 0 6 5) (cs 1 6 0) (S 0) (S 1) (S 3)) = _
          unfold X2_perform01_x37
          exact (if_pos hd)
        | 1 =>
          show (X2_perform01_x38 (cs 0 6 11) (cs 0 6 12) (cs 0 1) (cs 0 6 0) (cs 0 6 2) (cs 0 6 5) (cs 1 6 1) (S 0) (S 1) (S 3)) = _
          unfold X2_perform01_x38
          exact (if_pos hd)
        | 2 =>
          show (X2_perform01_x39 (cs 0 6 11) (cs 0 6 12) (cs 0 1) (cs 0 6 0) (cs 0 6 2) (cs 0 6 5) (cs 1 6 2) (S 0) (S 1) (S 3)) = _
          unfold X2_perform01_x39
          exact (if_pos hd)
        | 3 =>
          show (X2_perform01_x40 (cs 0 6 11) (cs 0 6 12) (cs 0 1) (cs 0 6 0) (cs 0 6 2) (cs 0 6 5) (cs 1 6 3) (S 0) (S 1) (S 3)) = _
          unfold X2_perform01_x40
          exact (if_pos hd)
        | 4 =>
          show (X2_perform01_x41 (cs 0 6 11) (cs 0 6 12) (cs 0 1) (cs 0 6 0) (cs 0 6 2) (cs 0 6 5) (cs 1 6 4) (S 0) (S 1) (S 3)) = _
          unfold X2_perform01_x41
          exact (if_pos hd)
        | 5 =>
          show (X2_perform01_x42 (cs 0 6 11) (cs 0 6 12) (cs 0 1) (cs 0 6 0) (cs 0 6 2) (cs 0 6 5) (cs 1 6 5) (S 0) (S 1) (S 3)) = _
          unfold X2_perform01_x42
          exact (if_pos hd)
        | 6 =>
          show (X2_perform01_x43 (cs 0 6 11) (cs 0 6 12) (cs 0 1) (cs 0 6 0) (cs 0 6 2) (cs 0 6 5) (cs 1 6 6) (S 0) (S 1) (S 3)) = _
          unfold X2_perform01_x43
          exact (if_pos hd)
        | 7 =>
          show (X2_perform01_x44 (cs 0 6 11) (cs 0 6 12) (cs 0 1) (cs 0 6 0) (cs 0 6 2) (cs 0 6 5) (cs 1 6 7) (S 0) (S 1) (S 3)) = _
          unfold X2_perform01_x44
          exact (if_pos hd)
        | 8 =>
          show (X2_perform01_x45 (cs 0 6 11) (cs 0 6 12) (cs 0 1) (cs 0 6 0) (cs 0 6 2) (cs 0 6 5) (cs 1 6 8) (cs 1 0) (S 0) (S 1) (S 3)) = _
          unfold X2_perform01_x45
          exact (if_pos hd)
        | 9 =>
          show (X2_perform01_x46 (cs 0 6 11) (cs 0 6 12) (cs 0 1) (cs 0 6 0) (cs 0 6 2) (cs 0 6 5) (cs 1 6 9) (S 0) (S 1) (S 3)) = _
          unfold X2_perform01_x46
          exact (if_pos hd)
        | 10 =>
          show (X2_perform01_x47 (cs 0 6 11) (cs 0 6 12) (cs 0 1) (cs 0 6 0) (cs 0 6 2) (cs 0 6 5) (cs 1 6 10) (S 0) (S 1) (S 3)) = _
          unfold X2_perform01_x47
          exact (if_pos hd)
        | 11 =>
          show (X2_perform01_x48 (cs 0 6 11) (cs 0 6 12) (cs 0 1) (cs 0 6 0) (cs 0 6 2) (cs 0 6 5) (cs 1 6 11) (S 0) (S 1) (S 3)) = _
          unfold X2_perform01_x48
          exact (if_pos hd)
        | 12 =>
          show (X2_perform01_x49 (cs 0 6 11) (cs 0 6 12) (cs 0 1) (cs 0 6 0) (cs 0 6 2) (cs 0 6 5) (cs 1 6 12) (S 0) (S 1) (S 3)) = _
          unfold X2_perform01_x49
          exact (if_pos hd)
        | k + 13 => rfl
      | 7 =>
        funext k
        match k with
        | 0 =>
          show (X2_perform01_x27 (cs 0 6 11) (cs 0 6 12) (cs 0 1) (cs 0 6 0) (cs 0 6 2) (cs 0 6 5) (cs 1 7 0) (S 0) (S 1) (S 3)) = _
          unfold X2_perform01_x27
          exact (if_pos hd)
        | 1 =>
          show (X2_perform01_x29 (cs 0 6 11) (cs 0 6 12) (cs 0 1) (cs 0 6 0) (cs 0 6 2) (cs 0 6 5) (cs 1 7 1) (S 0) (S 1) (S 3)) = _
          unfold X2_perform01_x29
          exact (if_pos hd)
        | 2 =>
          show (X2_perform01_x31 (cs 0 6 11) (cs 0 6 12) (cs 0 1) (cs 0 6 0) (cs 0 6 2) (cs 0 6 5) (cs 1 7 2) (S 0) (S 1) (S 3)) = _
          unfold X2_perform01_x31
          exact (if_pos hd)
        | 3 =>
          show (X2_perform01_x33 (cs 0 6 11) (cs 0 6 12) (cs 0 1) (cs 0 6 0) (cs 0 6 2) (cs 0 6 5) (cs 1 7 3) (S 0) (S 1) (S 3)) = _
          unfold X2_perform01_x33
          exact (if_pos hd)
        | 4 =>
          show (X2_perform01_x35 (cs 0 6 11) (cs 0 6 12) (cs 0 1) (cs 0 6 0) (cs 0 6 2) (cs 0 6 5) (cs 1 7 4) (S 0) (S 1) (S 3)) = _
          unfold X2_perform01_x35
          exact (if_pos hd)
        | k + 5 => rfl
      | t + 8 => rfl
    | 2, _ => rfl
    | 3, _ => rfl
    | j + 4, _ => rfl
theorem pf_stay11 {cm : Nat → Int32} {cs : Nat → Nat → Nat → Int32} {S : Nat → Int32} (l0 : cm 2 = 1) (l1 : cm 4 = 1) (hd : (X2_perform11_x22 (cs 1 6 8) (cs 1 6 11) (cs 1 6 12) (cs 1 0) (cs 1 1) (cs 1 6 0) (cs 1 6 2) (cs 1 6 5) (cs 0 6 8) (cs 0 0) (S 0) (S 1) (S 3) (S 4)) = 0) : X2_perform11_M cm cs S = cm ∧ X2_perform11_S cm cs S 1 = INN (cs 1) S ∧ ∀ j, j ≠ 1 → X2_perform11_S cm cs S j = cs j := by
  refine ⟨?_, ?_, ?_⟩
  · funext k
    match k with
    | 0 => exact rfl
    | 1 =>
      show (X2_perform11_x26 (cm 1) (cs 1 6 8) (cs 1 6 11) (cs 1 6 12) (cs 1 0) (cs 1 1) (cs 1 6 0) (cs 1 6 2) (cs 1 6 5) (cs 0 6 8) (cs 0 0) (S 0) (S 1) (S 3) (S 4)) = _
      unfold X2_perform11_x26
      exact (if_pos hd)
    | 2 => exact l0.symm
    | 3 => exact rfl
    | 4 => exact l1.symm
    | k + 5 => exact rfl
  · funext t
    match t with
    | 0 =>
      show (X2_perform11_g24 (cs 1 6 8) (cs 1 6 11) (cs 1 6 12) (cs 1 0) (cs 1 1) (cs 1 6 0) (cs 1 6 2) (cs 1 6 5) (cs 0 6 8) (cs 0 0) (S 0) (S 1) (S 3) (S 4)) = _
      unfold X2_perform11_g24
      exact (if_pos hd)
    | 1 => exact rfl
    | 2 => exact rfl
    | 3 => exact rfl
    | 4 => exact rfl
    | 5 => exact rfl
    | 6 =>
      funext k
      match k with
      | 0 => exact rfl
      | 1 => exact rfl
      | 2 => exact rfl
      | 3 => exact rfl
      | 4 => exact rfl
      | 5 => exact rfl
      | 6 => exact rfl
      | 7 => exact rfl
      | 8 => exact rfl
      | 9 => exact rfl
      | 10 => exact rfl
      | 11 =>
        show (X2_perform11_x25 (cs 1 6 8) (cs 1 6 11) (cs 1 6 12) (cs 1 0) (cs 1 1) (cs 1 6 0) (cs 1 6 2) (cs 1 6 5) (cs 0 6 8) (cs 0 0) (S 0) (S 1) (S 3) (S 4)) = _
        unfold X2_perform11_x25
        exact (if_pos hd)
      | 12 => exact rfl
      | k + 13 => rfl
    | 7 => rfl
    | t + 8 => rfl
  · intro j hj
    match j, hj with
    | 0, _ => rfl
    | 1, h => exact absurd rfl h
    | 2, _ => rfl
    | 3, _ => rfl
    | j + 4, _ => rfl
theorem pf_stay02 {cm : Nat → Int32} {cs : Nat → Nat → Nat → Int32} {S : Nat → Int32} (l0 : cm 2 = 2) (l1 : cm 4 = 0) (hd : (X2_perform02_x22 (cs 0 6 11) (cs 0 6 12) (cs 0 1) (cs 0 6 0) (cs 0 6 2) (cs 0 6 5) (S 0) (S 1) (S 3)) = 0) : X2_perform02_M cm cs S = cm ∧ X2_perform02_S cm cs S 0 = INN (cs 0) S ∧ ∀ j, j ≠ 0 → X2_perform02_S cm cs S j = cs j := by
  refine ⟨?_, ?_, ?_⟩
  · funext k
    match k with
    | 0 => exact rfl
    | 1 => exact rfl
    | 2 => exact l0.symm
    | 3 => exact rfl
    | 4 =>
      show (X2_perform02_x26 (cs 0 6 11) (cs 0 6 12) (cs 0 1) (cs 0 6 0) (cs 0 6 2) (cs 0 6 5) (S 0) (S 1) (S 3)) = _
      unfold X2_perform02_x26
      exact (if_pos hd).trans (l1.symm)
    | k + 5 => exact rfl
  · funext t
    match t with
    | 0 =>
      show (X2_perform02_g24 (cs 0 6 11) (cs 0 6 12) (cs 0 0) (cs 0 1) (cs 0 6 0) (cs 0 6 2) (cs 0 6 5) (S 0) (S 1) (S 3) (S 4)) = _
      unfold X2_perform02_g24
      exact (if_pos hd)
    | 1 => exact rfl
    | 2 => exact rfl
    | 3 => exact rfl
    | 4 => exact rfl
    | 5 => exact rfl
    | 6 =>
      funext k
      match k with
      | 0 => exact rfl
      | 1 => exact rfl
      | 2 => exact rfl
      | 3 => exact rfl
      | 4 => exact rfl
      | 5 => exact rfl
      | 6 => exact rfl
      | 7 => exact rfl
      | 8 => exact rfl
      | 9 => exact rfl
      | 10 => exact rfl
      | 11 =>
        show (X2_perform02_x25 (cs 0 6 11) (cs 0 6 12) (cs 0 1) (cs 0 6 0) (cs 0 6 2) (cs 0 6 5) (S 0) (S 1) (S 3)) = _
        unfold X2_perform02_x25
        exact (if_pos hd)
      | 12 => exact rfl
      | k + 13 => rfl
    | 7 => rfl
    | t + 8 => rfl
  · intro j hj
    match j, hj with
    | 0, h => exact absurd rfl h
    | 1, _ =>
      funext t
      match t with
      | 0 =>
        show (X2_perform02_g28 (cs 0 6 11) (cs 0 6 12) (cs 0 1) (cs 0 6 0) (cs 0 6 2) (cs 0 6 5) (cs 1 0) (S 0) (S 1) (S 3)) = _
        unfold X2_perform02_g28
        exact (if_pos hd)
      | 1 =>
        show (X2_perform02_g30 (cs 0 6 11) (cs 0 6 12) (cs 0 1) (cs 0 6 0) (cs 0 6 2) (cs 0 6 5) (cs 1 1) (S 0) (S 1) (S 3)) = _
        unfold X2_perform02_g30
        exact (if_pos hd)
      | 2 =>
        show (X2_perform02_g32 (cs 0 6 11) (cs 0 6 12) (cs 0 1) (cs 0 6 0) (cs 0 6 2) (cs 0 6 5) (cs 1 2) (S 0) (S 1) (S 3)) = _
        unfold X2_perform02_g32
        exact (if_pos hd)
      | 3 =>
        show (X2_perform02_g34 (cs 0 6 11) (cs 0 6 12) (cs 0 1) (cs 0 6 0) (cs 0 6 2) (cs 0 6 5) (cs 1 3) (S 0) (S 1) (S 3)) = _
        unfold X2_perform02_g34
        exact (if_pos hd)
      | 4 =>
        show (X2_perform02_g36 (cs 0 6 11) (cs 0 6 12) (cs 0 1) (cs 0 6 0) (cs 0 6 2) (cs 0 6 5) (cs 1 4) (S 0) (S 1) (S 3)) = _
        unfold X2_perform02_g36
        exact (if_pos hd)
      | 5 => rfl
      | 6 =>
        funext k
        match k with
        | 0 =>
          show (X2_perform02_x37 (cs 0 6 11) (cs 0 6 12) (cs 0 1) (cs 0 6 0) (cs 0 6 2) (cs 0 6 5) (cs 1 6 0) (S 0) (S 1) (S 3)) = _
          unfold X2_perform02_x37
          exact (if_pos hd)
        | 1 =>
          show (X2_perform02_x38 (cs 0 6 11) (cs 0 6 12) (cs 0 1) (cs 0 6 0) (cs 0 6 2) (cs 0 6 5) (cs 1 6 1) (S 0) (S 1) (S 3)) = _
          unfold X2_perform02_x38
          exact (if_pos hd)
        | 2 =>
          show (X2_perform02_x39 (cs 0 6 11) (cs 0 6 12) (cs 0 1) (cs 0 6 0) (cs 0 6 2) (cs 0 6 5) (cs 1 6 2) (S 0) (S 1) (S 3)) = _
          unfold X2_perform02_x39
          exact (if_pos hd)
        | 3 =>
          show (X2_perform02_x40 (cs 0 6 11) (cs 0 6 12) (cs 0 1) (cs 0 6 0) (cs 0 6 2) (cs 0 6 5) (cs 1 6 3) (S 0) (S 1) (S 3)) = _
          unfold X2_perform02_x40
          exact (if_pos hd)
        | 4 =>
          show (X2_perform02_x41 (cs 0 6 11) (cs 0 6 12) (cs 0 1) (cs 0 6 0) (cs 0 6 2) (cs 0 6 5) (cs 1 6 4) (S 0) (S 1) (S 3)) = _
          unfold X2_perform02_x41
          exact (if_pos hd)
        | 5 =>
          show (X2_perform02_x42 (cs 0 6 11) (cs 0 6 12) (cs 0 1) (cs 0 6 0) (cs 0 6 2) (cs 0 6 5) (cs 1 6 5) (S 0) (S 1) (S 3)) = _
          unfold X2_perform02_x42
          exact (if_pos hd)
        | 6 =>
          show (X2_perform02_x43 (cs 0 6 11) (cs 0 6 12) (cs 0 1) (cs 0 6 0) (cs 0 6 2) (cs 0 6 5) (cs 1 6 6) (S 0) (S 1) (S 3)) = _
          unfold X2_perform02_x43
          exact (if_pos hd)
        | 7 =>
          show (X2_perform02_x44 (cs 0 6 11) (cs 0 6 12) (cs 0 1) (cs 0 6 0) (cs 0 6 2) (cs 0 6 5) (cs 1 6 7) (S 0) (S 1) (S 3)) = _
          unfold X2_perform02_x44
          exact (if_pos hd)
        | 8 =>
          show (X2_perform02_x45 (cs 0 6 11) (cs 0 6 12) (cs 0 1) (cs 0 6 0) (cs 0 6 2) (cs 0 6 5) (cs 1 6 8) (cs 1 0) (S 0) (S 1) (S 3)) = _
          unfold X2_perform02_x45
          exact (if_pos hd)
        | 9 =>
          show (X2_perform02_x46 (cs 0 6 11) (cs 0 6 12) (cs 0 1) (cs 0 6 0) (cs 0 6 2) (cs 0 6 5) (cs 1 6 9) (S 0) (S 1) (S 3)) = _
          unfold X2_perform02_x46
          exact (if_pos hd)
        | 10 =>
          show (X2_perform02_x47 (cs 0 6 11) (cs 0 6 12) (cs 0 1) (cs 0 6 0) (cs 0 6 2) (cs 0 6 5) (cs 1 6 10) (S 0) (S 1) (S 3)) = _
          unfold X2_perform02_x47
          exact (if_pos hd)
        | 11 =>
          show (X2_perform02_x48 (cs 0 6 11) (cs 0 6 12) (cs 0 1) (cs 0 6 0) (cs 0 6 2) (cs 0 6 5) (cs 1 6 11) (S 0) (S 1) (S 3)) = _
          unfold X2_perform02_x48
          exact (if_pos hd)
        | 12 =>
          show (X2_perform02_x49 (cs 0 6 11) (cs 0 6 12) (cs 0 1) (cs 0 6 0) (cs 0 6 2) (cs 0 6 5) (cs 1 6 12) (S 0) (S 1) (S 3)) = _
          unfold X2_perform02_x49
          exact (if_pos hd)
        | k + 13 => rfl
      | 7 =>
        funext k
        match k with
        | 0 =>
          show (X2_perform02_x27 (cs 0 6 11) (cs 0 6 12) (cs 0 1) (cs 0 6 0) (cs 0 6 2) (cs 0 6 5) (cs 1 7 0) (S 0) (S 1) (S 3)) = _
          unfold X2_perform02_x27
          exact (if_pos hd)
        | 1 =>
          show (X2_perform02_x29 (cs 0 6 11) (cs 0 6 12) (cs 0 1) (cs 0 6 0) (cs 0 6 2) (cs 0 6 5) (cs 1 7 1) (S 0) (S 1) (S 3)) = _
          unfold X2_perform02_x29
          exact (if_pos hd)
        | 2 =>
          show (X2_perform02_x31 (cs 0 6 11) (cs 0 6 12) (cs 0 1) (cs 0 6 0) (cs 0 6 2) (cs 0 6 5) (cs 1 7 2) (S 0) (S 1) (S 3)) = _
          unfold X2_perform02_x31
          exact (if_pos hd)
        | 3 =>
          show (X2_perform02_x33 (cs 0 6 11) (cs 0 6 12) (cs 0 1) (cs 0 6 0) (cs 0 6 2) (cs 0 6 5) (cs 1 7 3) (S 0) (S 1) (S 3)) = _
          unfold X2_perform02_x33
          exact (if_pos hd)
        | 4 =>
          show (X2_perform02_x35 (cs 0 6 11) (cs 0 6 12) (cs 0 1) (cs 0 6 0) (cs 0 6 2) (cs 0 6 5) (cs 1 7 4) (S 0) (S 1) (S 3)) = _
          unfold X2_perform02_x35
          exact (if_pos hd)
        | k + 5 => rfl
      | t + 8 => rfl
    | 2, _ => rfl
    | 3, _ => rfl
    | j + 4, _ => rfl
theorem pf_stay12 {cm : Nat → Int32} {cs : Nat → Nat → Nat → Int32} {S : Nat → Int32} (l0 : cm 2 = 2) (l1 : cm 4 = 1) (hd : (X2_perform12_x22 (cs 1 6 11) (cs 1 6 12) (cs 1 1) (cs 1 6 0) (cs 1 6 2) (cs 1 6 5) (S 0) (S 1) (S 3)) = 0) : X2_perform12_M cm cs S = cm ∧ X2_perform12_S cm cs S 1 = INN (cs 1) S ∧ ∀ j, j ≠ 1 → X2_perform12_S cm cs S j = cs j := by
  refine ⟨?_, ?_, ?_⟩
  · funext k
    match k with
    | 0 => exact rfl
    | 1 => exact rfl
    | 2 => exact l0.symm
    | 3 => exact rfl
    | 4 =>
      show nI (X2_perform12_n26 (cs 1 6 11) (cs 1 6 12) (cs 1 1) (cs 1 6 0) (cs 1 6 2) (cs 1 6 5) (S 0) (S 1) (S 3)) = _
      unfold X2_perform12_n26
      rw [if_pos hd]
      exact l1.symm
    | k + 5 => exact rfl
  · funext t
    match t with
    | 0 =>
      show (X2_perform12_g24 (cs 1 6 11) (cs 1 6 12) (cs 1 0) (cs 1 1) (cs 1 6 0) (cs 1 6 2) (cs 1 6 5) (S 0) (S 1) (S 3) (S 4)) = _
      unfold X2_perform12_g24
      exact (if_pos hd)
    | 1 => exact rfl
    | 2 => exact rfl
    | 3 => exact rfl
    | 4 => exact rfl
    | 5 => exact rfl
    | 6 =>
      funext k
      match k with
      | 0 => exact rfl
      | 1 => exact rfl
      | 2 => exact rfl
      | 3 => exact rfl
      | 4 => exact rfl
      | 5 => exact rfl
      | 6 => exact rfl
      | 7 => exact rfl
      | 8 => exact rfl
      | 9 => exact rfl
      | 10 => exact rfl
      | 11 =>
        show (X2_perform12_x25 (cs 1 6 11) (cs 1 6 12) (cs 1 1) (cs 1 6 0) (cs 1 6 2) (cs 1 6 5) (S 0) (S 1) (S 3)) = _
        unfold X2_perform12_x25
        exact (if_pos hd)
      | 12 => exact rfl
      | k + 13 => rfl
    | 7 => rfl
    | t + 8 => rfl
  · intro j hj
    match j, hj with
    | 0, _ => rfl
    | 1, h => exact absurd rfl h
    | 2, _ =>
      funext t
      match t with
      | 0 =>
        show (X2_perform12_g28 (cs 1 6 11) (cs 1 6 12) (cs 1 1) (cs 1 6 0) (cs 1 6 2) (cs 1 6 5) (cs 2 0) (S 0) (S 1) (S 3)) = _
        unfold X2_perform12_g28
        exact (if_pos hd)
      | 1 =>
        show (X2_perform12_g30 (cs 1 6 11) (cs 1 6 12) (cs 1 1) (cs 1 6 0) (cs 1 6 2) (cs 1 6 5) (cs 2 1) (S 0) (S 1) (S 3)) = _
        unfold X2_perform12_g30
        exact (if_pos hd)
      | 2 =>
        show (X2_perform12_g32 (cs 1 6 11) (cs 1 6 12) (cs 1 1) (cs 1 6 0) (cs 1 6 2) (cs 1 6 5) (cs 2 2) (S 0) (S 1) (S 3)) = _
        unfold X2_perform12_g32
        exact (if_pos hd)
      | 3 =>
        show (X2_perform12_g34 (cs 1 6 11) (cs 1 6 12) (cs 1 1) (cs 1 6 0) (cs 1 6 2) (cs 1 6 5) (cs 2 3) (S 0) (S 1) (S 3)) = _
        unfold X2_perform12_g34
        exact (if_pos hd)
      | 4 =>
        show (X2_perform12_g36 (cs 1 6 11) (cs 1 6 12) (cs 1 1) (cs 1 6 0) (cs 1 6 2) (cs 1 6 5) (cs 2 4) (S 0) (S 1) (S 3)) = _
        unfold X2_perform12_g36
        exact (if_pos hd)
      | 5 => rfl
      | 6 =>
        funext k
        match k with
        | 0 =>
          show (X2_perform12_x37 (cs 1 6 11) (cs 1 6 12) (cs 1 1) (cs 1 6 0) (cs 1 6 2) (cs 1 6 5) (cs 2 6 0) (S 0) (S 1) (S 3)) = _
          unfold X2_perform12_x37
          exact (if_pos hd)
        | 1 =>
          show (X2_perform12_x38 (cs 1 6 11) (cs 1 6 12) (cs 1 1) (cs 1 6 0) (cs 1 6 2) (cs 1 6 5) (cs 2 6 1) (S 0) (S 1) (S 3)) = _
          unfold X2_perform12_x38
          exact (if_pos hd)
        | 2 =>
          show (X2_perform12_x39 (cs 1 6 11) (cs 1 6 12) (cs 1 1) (cs 1 6 0) (cs 1 6 2) (cs 1 6 5) (cs 2 6 2) (S 0) (S 1) (S 3)) = _
          unfold X2_perform12_x39
          exact (if_pos hd)
        | 3 =>
          show (X2_perform12_x40 (cs 1 6 11) (cs 1 6 12) (cs 1 1) (cs 1 6 0) (cs 1 6 2) (cs 1 6 5) (cs 2 6 3) (S 0) (S 1) (S 3)) = _
          unfold X2_perform12_x40
          exact (if_pos hd)
        | 4 =>
          show (X2_perform12_x41 (cs 1 6 11) (cs 1 6 12) (cs 1 1) (cs 1 6 0) (cs 1 6 2) (cs 1 6 5) (cs 2 6 4) (S 0) (S 1) (S 3)) = _
          unfold X2_perform12_x41
          exact (if_pos hd)
        | 5 =>
          show (X2_perform12_x42 (cs 1 6 11) (cs 1 6 12) (cs 1 1) (cs 1 6 0) (cs 1 6 2) (cs 1 6 5) (cs 2 6 5) (S 0) (S 1) (S 3)) = _
          unfold X2_perform12_x42
          exact (if_pos hd)
        | 6 =>
          show (X2_perform12_x43 (cs 1 6 11) (cs 1 6 12) (cs 1 1) (cs 1 6 0) (cs 1 6 2) (cs 1 6 5) (cs 2 6 6) (S 0) (S 1) (S 3)) = _
          unfold X2_perform12_x43
          exact (if_pos hd)
        | 7 =>
          show (X2_perform12_x44 (cs 1 6 11) (cs 1 6 12) (cs 1 1) (cs 1 6 0) (cs 1 6 2) (cs 1 6 5) (cs 2 6 7) (S 0) (S 1) (S 3)) = _
          unfold X2_perform12_x44
          exact (if_pos hd)
        | 8 =>
          show (X2_perform12_x45 (cs 1 6 11) (cs 1 6 12) (cs 1 1) (cs 1 6 0) (cs 1 6 2) (cs 1 6 5) (cs 2 6 8) (cs 2 0) (S 0) (S 1) (S 3)) = _
          unfold X2_perform12_x45
          exact (if_pos hd)
        | 9 =>
          show (X2_perform12_x46 (cs 1 6 11) (cs 1 6 12) (cs 1 1) (cs 1 6 0) (cs 1 6 2) (cs 1 6 5) (cs 2 6 9) (S 0) (S 1) (S 3)) = _
          unfold X2_perform12_x46
          exact (if_pos hd)
        | 10 =>
          show (X2_perform12_x47 (cs 1 6 11) (cs 1 6 12) (cs 1 1) (cs 1 6 0) (cs 1 6 2) (cs 1 6 5) (cs 2 6 10) (S 0) (S 1) (S 3)) = _
          unfold X2_perform12_x47
          exact (if_pos hd)
        | 11 =>
          show (X2_perform12_x48 (cs 1 6 11) (cs 1 6 12) (cs 1 1) (cs 1 6 0) (cs 1 6 2) (cs 1 6 5) (cs 2 6 11) (S 0) (S 1) (S 3)) = _
          unfold X2_perform12_x48
          exact (if_pos hd)
        | 12 =>
          show (X2_perform12_x49 (cs 1 6 11) (cs 1 6 12) (cs 1 1) (cs 1 6 0) (cs 1 6 2) (cs 1 6 5) (cs 2 6 12) (S 0) (S 1) (S 3)) = _
          unfold X2_perform12_x49
          exact (if_pos hd)
        | k + 13 => rfl
      | 7 =>
        funext k
        match k with
        | 0 =>
          show (X2_perform12_x27 (cs 1 6 11) (cs 1 6 12) (cs 1 1) (cs 1 6 0) (cs 1 6 2) (cs 1 6 5) (cs 2 7 0) (S 0) (S 1) (S 3)) = _
          unfold X2_perform12_x27
          exact (if_pos hd)
        | 1 =>
          show (X2_perform12_x29 (cs 1 6 11) (cs 1 6 12) (cs 1 1) (cs 1 6 0) (cs 1 6 2) (cs 1 6 5) (cs 2 7 1) (S 0) (S 1) (S 3)) = _
          unfold X2_perform12_x29
          exact (if_pos hd)
        | 2 =>
          show (X2_perform12_x31 (cs 1 6 11) (cs 1 6 12) (cs 1 1) (cs 1 6 0) (cs 1 6 2) (cs 1 6 5) (cs 2 7 2) (S 0) (S 1) (S 3)) = _
          unfold X2_perform12_x31
          exact (if_pos hd)
        | 3 =>
          show (X2_perform12_x33 (cs 1 6 11) (cs 1 6 12) (cs 1 1) (cs 1 6 0) (cs 1 6 2) (cs 1 6 5) (cs 2 7 3) (S 0) (S 1) (S 3)) = _
          unfold X2_perform12_x33
          exact (if_pos hd)
        | 4 =>
          show (X2_perform12_x35 (cs 1 6 11) (cs 1 6 12) (cs 1 1) (cs 1 6 0) (cs 1 6 2) (cs 1 6 5) (cs 2 7 4) (S 0) (S 1) (S 3)) = _
          unfold X2_perform12_x35
          exact (if_pos hd)
        | k + 5 => rfl
      | t + 8 => rfl
    | 3, _ => rfl
    | j + 4, _ => rfl
theorem pf_stay22 {cm : Nat → Int32} {cs : Nat → Nat → Nat → Int32} {S : Nat → Int32} (l0 : cm 2 = 2) (l1 : cm 4 = 2) (hd : (X2_perform22_x22 (cs 2 6 11) (cs 2 6 12) (cs 2 1) (cs 2 6 0) (cs 2 6 2) (cs 2 6 5) (S 0) (S 1) (S 3)) = 0) : X2_perform22_M cm cs S = cm ∧ X2_perform22_S cm cs S 2 = INN (cs 2) S ∧ ∀ j, j ≠ 2 → X2_perform22_S cm cs S j = cs j := by
  refine ⟨?_, ?_, ?_⟩
  · funext k
    match k with
    | 0 => exact rfl
    | 1 =>
      show (X2_perform22_x51 (cm 1) (cs 2 6 11) (cs 2 6 12) (cs 2 0) (cs 2 1) (cs 2 6 0) (cs 2 6 2) (cs 2 6 5) (cs 0 0) (cs 1 0) (S 0) (S 1) (S 3) (S 4)) = _
      unfold X2_perform22_x51
      exact (if_pos hd)
    | 2 => exact l0.symm
    | 3 => exact rfl
    | 4 =>
      show (X2_perform22_x52 (cs 2 6 11) (cs 2 6 12) (cs 2 0) (cs 2 1) (cs 2 6 0) (cs 2 6 2) (cs 2 6 5) (cs 0 0) (cs 1 0) (S 0) (S 1) (S 3) (S 4)) = _
      unfold X2_perform22_x52
      exact (if_pos hd).trans (l1.symm)
    | k + 5 => exact rfl
  · funext t
    match t with
    | 0 =>
      show (X2_perform22_g49 (cs 2 6 11) (cs 2 6 12) (cs 2 0) (cs 2 1) (cs 2 6 0) (cs 2 6 2) (cs 2 6 5) (S 0) (S 1) (S 3) (S 4)) = _
      unfold X2_perform22_g49
      exact (if_pos hd)
    | 1 => exact rfl
    | 2 => exact rfl
    | 3 => exact rfl
    | 4 => exact rfl
    | 5 => exact rfl
    | 6 =>
      funext k
      match k with
      | 0 => exact rfl
      | 1 => exact rfl
      | 2 => exact rfl
      | 3 => exact rfl
      | 4 => exact rfl
      | 5 => exact rfl
      | 6 => exact rfl
      | 7 => exact rfl
      | 8 => exact rfl
      | 9 => exact rfl
      | 10 => exact rfl
      | 11 =>
        show (X2_perform22_x50 (cs 2 6 11) (cs 2 6 12) (cs 2 1) (cs 2 6 0) (cs 2 6 2) (cs 2 6 5) (S 0) (S 1) (S 3)) = _
        unfold X2_perform22_x50
        exact (if_pos hd)
      | 12 => exact rfl
      | k + 13 => rfl
    | 7 => rfl
    | t + 8 => rfl
  · intro j hj
    match j, hj with
    | 0, _ => rfl
    | 1, _ => rfl
    | 2, h => exact absurd rfl h
    | 3, _ =>
      funext t
      match t with
      | 0 =>
        show (X2_perform22_g54 (cs 2 6 11) (cs 2 6 12) (cs 2 0) (cs 2 1) (cs 2 6 0) (cs 2 6 2) (cs 2 6 5) (cs 0 0) (cs 1 0) (cs 3 0) (S 0) (S 1) (S 3) (S 4)) = _
        unfold X2_perform22_g54
        exact (if_pos hd)
      | 1 =>
        show (X2_perform22_g56 (cs 2 6 11) (cs 2 6 12) (cs 2 0) (cs 2 1) (cs 2 6 0) (cs 2 6 2) (cs 2 6 5) (cs 0 0) (cs 1 0) (cs 3 1) (S 0) (S 1) (S 3) (S 4)) = _
        unfold X2_perform22_g56
        exact (if_pos hd)
      | 2 =>
        show (X2_perform22_g58 (cs 2 6 11) (cs 2 6 12) (cs 2 0) (cs 2 1) (cs 2 6 0) (cs 2 6 2) (cs 2 6 5) (cs 0 0) (cs 1 0) (cs 3 2) (S 0) (S 1) (S 3) (S 4)) = _
        unfold X2_perform22_g58
        exact (if_pos hd)
      | 3 =>
        show (X2_perform22_g60 (cs 2 6 11) (cs 2 6 12) (cs 2 0) (cs 2 1) (cs 2 6 0) (cs 2 6 2) (cs 2 6 5) (cs 0 0) (cs 1 0) (cs 3 3) (S 0) (S 1) (S 3) (S 4)) = _
        unfold X2_perform22_g60
        exact (if_pos hd)
      | 4 =>
        show (X2_perform22_g62 (cs 2 6 11) (cs 2 6 12) (cs 2 0) (cs 2 1) (cs 2 6 0) (cs 2 6 2) (cs 2 6 5) (cs 0 0) (cs 1 0) (cs 3 4) (S 0) (S 1) (S 3) (S 4)) = _
        unfold X2_perform22_g62
        exact (if_pos hd)
      | 5 => rfl
      | 6 =>
        funext k
        match k with
        | 0 =>
          show (X2_perform22_x63 (cs 2 6 11) (cs 2 6 12) (cs 2 0) (cs 2 1) (cs 2 6 0) (cs 2 6 2) (cs 2 6 5) (cs 0 0) (cs 1 0) (cs 3 6 0) (S 0) (S 1) (S 3) (S 4)) = _
          unfold X2_perform22_x63
          exact (if_pos hd)
        | 1 =>
          show (X2_perform22_x64 (cs 2 6 11) (cs 2 6 12) (cs 2 0) (cs 2 1) (cs 2 6 0) (cs 2 6 2) (cs 2 6 5) (cs 0 0) (cs 1 0) (cs 3 6 1) (S 0) (S 1) (S 3) (S 4)) = _
          unfold X2_perform22_x64
          exact (if_pos hd)
        | 2 =>
          show (X2_perform22_x65 (cs 2 6 11) (cs 2 6 12) (cs 2 0) (cs 2 1) (cs 2 6 0) (cs 2 6 2) (cs 2 6 5) (cs 0 0) (cs 1 0) (cs 3 6 2) (S 0) (S 1) (S 3) (S 4)) = _
          unfold X2_perform22_x65
          exact (if_pos hd)
        | 3 =>
          show (X2_perform22_x66 (cs 2 6 11) (cs 2 6 12) (cs 2 0) (cs 2 1) (cs 2 6 0) (cs 2 6 2) (cs 2 6 5) (cs 0 0) (cs 1 0) (cs 3 6 3) (S 0) (S 1) (S 3) (S 4)) = _
          unfold X2_perform22_x66
          exact (if_pos hd)
        | 4 =>
          show (X2_perform22_x67 (cs 2 6 11) (cs 2 6 12) (cs 2 0) (cs 2 1) (cs 2 6 0) (cs 2 6 2) (cs 2 6 5) (cs 0 0) (cs 1 0) (cs 3 6 4) (S 0) (S 1) (S 3) (S 4)) = _
          unfold X2_perform22_x67
          exact (if_pos hd)
        | 5 =>
          show (X2_perform22_x68 (cs 2 6 11) (cs 2 6 12) (cs 2 0) (cs 2 1) (cs 2 6 0) (cs 2 6 2) (cs 2 6 5) (cs 0 0) (cs 1 0) (cs 3 6 5) (S 0) (S 1) (S 3) (S 4)) = _
          unfold X2_perform22_x68
          exact (if_pos hd)
        | 6 =>
          show (X2_perform22_x69 (cs 2 6 11) (cs 2 6 12) (cs 2 0) (cs 2 1) (cs 2 6 0) (cs 2 6 2) (cs 2 6 5) (cs 0 0) (cs 1 0) (cs 3 6 6) (S 0) (S 1) (S 3) (S 4)) = _
          unfold X2_perform22_x69
          exact (if_pos hd)
        | 7 =>
          show (X2_perform22_x70 (cs 2 6 11) (cs 2 6 12) (cs 2 0) (cs 2 1) (cs 2 6 0) (cs 2 6 2) (cs 2 6 5) (cs 0 0) (cs 1 0) (cs 3 6 7) (S 0) (S 1) (S 3) (S 4)) = _
          unfold X2_perform22_x70
          exact (if_pos hd)
        | 8 =>
          show (X2_perform22_x71 (cs 2 6 11) (cs 2 6 12) (cs 2 0) (cs 2 1) (cs 2 6 0) (cs 2 6 2) (cs 2 6 5) (cs 0 0) (cs 1 0) (cs 3 6 8) (cs 3 0) (S 0) (S 1) (S 3) (S 4)) = _
          unfold X2_perform22_x71
          exact (if_pos hd)
        | 9 =>
          show (X2_perform22_x72 (cs 2 6 11) (cs 2 6 12) (cs 2 0) (cs 2 1) (cs 2 6 0) (cs 2 6 2) (cs 2 6 5) (cs 0 0) (cs 1 0) (cs 3 6 9) (S 0) (S 1) (S 3) (S 4)) = _
          unfold X2_perform22_x72
          exact (if_pos hd)
        | 10 =>
          show (X2_perform22_x73 (cs 2 6 11) (cs 2 6 12) (cs 2 0) (cs 2 1) (cs 2 6 0) (cs 2 6 2) (cs 2 6 5) (cs 0 0) (cs 1 0) (cs 3 6 10) (S 0) (S 1) (S 3) (S 4)) = _
          unfold X2_perform22_x73
          exact (if_pos hd)
        | 11 =>
          show (X2_perform22_x74 (cs 2 6 11) (cs 2 6 12) (cs 2 0) (cs 2 1) (cs 2 6 0) (cs 2 6 2) (cs 2 6 5) (cs 0 0) (cs 1 0) (cs 3 6 11) (S 0) (S 1) (S 3) (S 4)) = _
          unfold X2_perform22_x74
          exact (if_pos hd)
        | 12 =>
          show (X2_perform22_x75 (cs 2 6 11) (cs 2 6 12) (cs 2 0) (cs 2 1) (cs 2 6 0) (cs 2 6 2) (cs 2 6 5) (cs 0 0) (cs 1 0) (cs 3 6 12) (S 0) (S 1) (S 3) (S 4)) = _
          unfold X2_perform22_x75
          exact (if_pos hd)
        | k + 13 => rfl
      | 7 =>
        funext k
        match k with
        | 0 =>
          show (X2_perform22_x53 (cs 2 6 11) (cs 2 6 12) (cs 2 0) (cs 2 1) (cs 2 6 0) (cs 2 6 2) (cs 2 6 5) (cs 0 0) (cs 1 0) (cs 3 7 0) (S 0) (S 1) (S 3) (S 4)) = _
          unfold X2_perform22_x53
          exact (if_pos hd)
        | 1 =>
          show (X2_perform22_x55 (cs 2 6 11) (cs 2 6 12) (cs 2 0) (cs 2 1) (cs 2 6 0) (cs 2 6 2) (cs 2 6 5) (cs 0 0) (cs 1 0) (cs 3 7 1) (S 0) (S 1) (S 3) (S 4)) = _
          unfold X2_perform22_x55
          exact (if_pos hd)
        | 2 =>
          show (X2_perform22_x57 (cs 2 6 11) (cs 2 6 12) (cs 2 0) (cs 2 1) (cs 2 6 0) (cs 2 6 2) (cs 2 6 5) (cs 0 0) (cs 1 0) (cs 3 7 2) (S 0) (S 1) (S 3) (S 4)) = _
          unfold X2_perform22_x57
          exact (if_pos hd)
        | 3 =>
          show (X2_perform22_x59 (cs 2 6 11) (cs 2 6 12) (cs 2 0) (cs 2 1) (cs 2 6 0) (cs 2 6 2) (cs 2 6 5) (cs 0 0) (cs 1 0) (cs 3 7 3) (S 0) (S 1) (S 3) (S 4)) = _
          unfold X2_perform22_x59
          exact (if_pos hd)
        | 4 =>
          show (X2_perform22_x61 (cs 2 6 11) (cs 2 6 12) (cs 2 0) (cs 2 1) (cs 2 6 0) (cs 2 6 2) (cs 2 6 5) (cs 0 0) (cs 1 0) (cs 3 7 4) (S 0) (S 1) (S 3) (S 4)) = _
          unfold X2_perform22_x61
          exact (if_pos hd)
        | k + 5 => rfl
      | t + 8 => rfl
    | j + 4, _ => rfl
theorem pf_stay32 {cm : Nat → Int32} {cs : Nat → Nat → Nat → Int32} {S : Nat → Int32} (l0 : cm 2 = 2) (l1 : cm 4 = 3) (hd : (X2_perform32_x22 (cs 3 6 11) (cs 3 6 12) (cs 3 0) (cs 3 1) (cs 3 6 0) (cs 3 6 2) (cs 3 6 5) (cs 0 0) (cs 1 0) (cs 2 0) (S 0) (S 1) (S 3) (S 4)) = 0) : X2_perform32_M cm cs S = cm ∧ X2_perform32_S cm cs S 3 = INN (cs 3) S ∧ ∀ j, j ≠ 3 → X2_perform32_S cm cs S j = cs j := by
  refine ⟨?_, ?_, ?_⟩
  · funext k
    match k with
    | 0 => exact rfl
    | 1 =>
      show (X2_perform32_x26 (cm 1) (cs 3 6 11) (cs 3 6 12) (cs 3 0) (cs 3 1) (cs 3 6 0) (cs 3 6 2) (cs 3 6 5) (cs 0 0) (cs 1 0) (cs 2 0) (S 0) (S 1) (S 3) (S 4)) = _
      unfold X2_perform32_x26
      exact (if_pos hd)
    | 2 => exact l0.symm
    | 3 => exact rfl
    | 4 => exact l1.symm
    | k + 5 => exact rfl
  · funext t
    match t with
    | 0 =>
      show (X2_perform32_g24 (cs 3 6 11) (cs 3 6 12) (cs 3 0) (cs 3 1) (cs 3 6 0) (cs 3 6 2) (cs 3 6 5) (cs 0 0) (cs 1 0) (cs 2 0) (S 0) (S 1) (S 3) (S 4)) = _
      unfold X2_perform32_g24
      exact (if_pos hd)
    | 1 => exact rfl
    | 2 => exact rfl
    | 3 => exact rfl
    | 4 => exact rfl
    | 5 => exact rfl
    | 6 =>
      funext k
      match k with
      | 0 => exact rfl
      | 1 => exact rfl
      | 2 => exact rfl
      | 3 => exact rfl
      | 4 => exact rfl
      | 5 => exact rfl
      | 6 => exact rfl
      | 7 => exact rfl
      | 8 => exact rfl
      | 9 => exact rfl
      | 10 => exact rfl
      | 11 =>
        show (X2_perform32_x25 (cs 3 6 11) (cs 3 6 12) (cs 3 0) (cs 3 1) (cs 3 6 0) (cs 3 6 2) (cs 3 6 5) (cs 0 0) (cs 1 0) (cs 2 0) (S 0) (S 1) (S 3) (S 4)) = _
        unfold X2_perform32_x25
        exact (if_pos hd)
      | 12 => exact rfl
      | k + 13 => rfl
    | 7 => rfl
    | t + 8 => rfl
  · intro j hj
    match j, hj with
    | 0, _ => rfl
    | 1, _ => rfl
    | 2, _ => rfl
    | 3, h => exact absurd rfl h
    | j + 4, _ => rfl
theorem pf_over11 {cm : Nat → Int32} {cs : Nat → Nat → Nat → Int32} {S : Nat → Int32} (l0 : cm 2 = 1) (l1 : cm 4 = 1) (hd : ¬ (X2_perform11_x22 (cs 1 6 8) (cs 1 6 11) (cs 1 6 12) (cs 1 0) (cs 1 1) (cs 1 6 0) (cs 1 6 2) (cs 1 6 5) (cs 0 6 8) (cs 0 0) (S 0) (S 1) (S 3) (S 4)) = 0) : X2_perform11_M cm cs S = upd cm 1 1 ∧ X2_perform11_S cm cs S 1 = FIN (INN (cs 1) S) (X2_perform11_x22 (cs 1 6 8) (cs 1 6 11) (cs 1 6 12) (cs 1 0) (cs 1 1) (cs 1 6 0) (cs 1 6 2) (cs 1 6 5) (cs 0 6 8) (cs 0 0) (S 0) (S 1) (S 3) (S 4)) ∧ ∀ j, j ≠ 1 → X2_perform11_S cm cs S j = cs j := by
  refine ⟨?_, ?_, ?_⟩
  · funext k
    match k with
    | 0 => exact (upd_off (by omega)).symm
    | 1 =>
      show (X2_perform11_x26 (cm 1) (cs 1 6 8) (cs 1 6 11) (cs 1 6 12) (cs 1 0) (cs 1 1) (cs 1 6 0) (cs 1 6 2) (cs 1 6 5) (cs 0 6 8) (cs 0 0) (S 0) (S 1) (S 3) (S 4)) = _
      unfold X2_perform11_x26
      exact (if_neg hd).trans (upd_at.symm)
    | 2 => exact l0.symm.trans (upd_off (by omega)).symm
    | 3 => exact (upd_off (by omega)).symm
    | 4 => exact l1.symm.trans (upd_off (by omega)).symm
    | k + 5 => exact (upd_off (by omega)).symm
  · funext t
    match t with
    | 0 =>
      show (X2_perform11_g24 (cs 1 6 8) (cs 1 6 11) (cs 1 6 12) (cs 1 0) (cs 1 1) (cs 1 6 0) (cs 1 6 2) (cs 1 6 5) (cs 0 6 8) (cs 0 0) (S 0) (S 1) (S 3) (S 4)) = _
      unfold X2_perform11_g24
      exact (if_neg hd)
    | 1 => exact rfl
    | 2 => exact rfl
    | 3 => exact rfl
    | 4 => exact rfl
    | 5 => exact rfl
    | 6 =>
      funext k
      match k with
      | 0 => exact rfl
      | 1 => exact rfl
      | 2 => exact rfl
      | 3 => exact rfl
      | 4 => exact rfl
      | 5 => exact rfl
      | 6 => exact rfl
      | 7 => exact rfl
      | 8 => exact rfl
      | 9 => exact rfl
      | 10 => exact rfl
      | 11 =>
        show (X2_perform11_x25 (cs 1 6 8) (cs 1 6 11) (cs 1 6 12) (cs 1 0) (cs 1 1) (cs 1 6 0) (cs 1 6 2) (cs 1 6 5) (cs 0 6 8) (cs 0 0) (S 0) (S 1) (S 3) (S 4)) = _
        unfold X2_perform11_x25
        exact (if_neg hd)
      | 12 => exact rfl
      | k + 13 => rfl
    | 7 => rfl
    | t + 8 => rfl
  · intro j hj
    match j, hj with
    | 0, _ => rfl
    | 1, h => exact absurd rfl h
    | 2, _ => rfl
    | 3, _ => rfl
    | j + 4, _ => rfl
theorem pf_over32 {cm : Nat → Int32} {cs : Nat → Nat → Nat → Int32} {S : Nat → Int32} (l0 : cm 2 = 2) (l1 : cm 4 = 3) (hd : ¬ (X2_perform32_x22 (cs 3 6 11) (cs 3 6 12) (cs 3 0) (cs 3 1) (cs 3 6 0) (cs 3 6 2) (cs 3 6 5) (cs 0 0) (cs 1 0) (cs 2 0) (S 0) (S 1) (S 3) (S 4)) = 0) : X2_perform32_M cm cs S = upd cm 1 1 ∧ X2_perform32_S cm cs S 3 = FIN (INN (cs 3) S) (X2_perform32_x22 (cs 3 6 11) (cs 3 6 12) (cs 3 0) (cs 3 1) (cs 3 6 0) (cs 3 6 2) (cs 3 6 5) (cs 0 0) (cs 1 0) (cs 2 0) (S 0) (S 1) (S 3) (S 4)) ∧ ∀ j, j ≠ 3 → X2_perform32_S cm cs S j = cs j := by
  refine ⟨?_, ?_, ?_⟩
  · funext k
    match k with
    | 0 => exact (upd_off (by omega)).symm
    | 1 =>
      show (X2_perform32_x26 (cm 1) (cs 3 6 11) (cs 3 6 12) (cs 3 0) (cs 3 1) (cs 3 6 0) (cs 3 6 2) (cs 3 6 5) (cs 0 0) (cs 1 0) (cs 2 0) (S 0) (S 1) (S 3) (S 4)) = _
      unfold X2_perform32_x26
      exact (if_neg hd).trans (upd_at.symm)
    | 2 => exact l0.symm.trans (upd_off (by omega)).symm
    | 3 => exact (upd_off (by omega)).symm
    | 4 => exact l1.symm.trans (upd_off (by omega)).symm
    | k + 5 => exact (upd_off (by omega)).symm
  · funext t
    match t with
    | 0 =>
      show (X2_perform32_g24 (cs 3 6 11) (cs 3 6 12) (cs 3 0) (cs 3 1) (cs 3 6 0) (cs 3 6 2) (cs 3 6 5) (cs 0 0) (cs 1 0) (cs 2 0) (S 0) (S 1) (S 3) (S 4)) = _
      unfold X2_perform32_g24
      exact (if_neg hd)
    | 1 => exact rfl
    | 2 => exact rfl
    | 3 => exact rfl
    | 4 => exact rfl
    | 5 => exact rfl
    | 6 =>
      funext k
      match k with
      | 0 => exact rfl
      | 1 => exact rfl
      | 2 => exact rfl
      | 3 => exact rfl
      | 4 => exact rfl
      | 5 => exact rfl
      | 6 => exact rfl
      | 7 => exact rfl
      | 8 => exact rfl
      | 9 => exact rfl
      | 10 => exact rfl
      | 11 =>
        show (X2_perform32_x25 (cs 3 6 11) (cs 3 6 12) (cs 3 0) (cs 3 1) (cs 3 6 0) (cs 3 6 2) (cs 3 6 5) (cs 0 0) (cs 1 0) (cs 2 0) (S 0) (S 1) (S 3) (S 4)) = _
        unfold X2_perform32_x25
        exact (if_neg hd)
      | 12 => exact rfl
      | k + 13 => rfl
    | 7 => rfl
    | t + 8 => rfl
  · intro j hj
    match j, hj with
    | 0, _ => rfl
    | 1, _ => rfl
    | 2, _ => rfl
    | 3, h => exact absurd rfl h
    | j + 4, _ => rfl
theorem pf_over22 {cm : Nat → Int32} {cs : Nat → Nat → Nat → Int32} {S : Nat → Int32} (l0 : cm 2 = 2) (l1 : cm 4 = 2) (hd : ¬ (X2_perform22_x22 (cs 2 6 11) (cs 2 6 12) (cs 2 1) (cs 2 6 0) (cs 2 6 2) (cs 2 6 5) (S 0) (S 1) (S 3)) = 0) (ht : ¬ 0 < X2_target2_r0 (cs 0 0) (cs 1 0) (X2_perform22_g23 (cs 2 6 11) (cs 2 6 12) (cs 2 0) (cs 2 1) (cs 2 6 0) (cs 2 6 2) (cs 2 6 5) (S 0) (S 1) (S 3) (S 4))) : X2_perform22_M cm cs S = upd cm 1 1 ∧ X2_perform22_S cm cs S 2 = FIN (INN (cs 2) S) (X2_perform22_x22 (cs 2 6 11) (cs 2 6 12) (cs 2 1) (cs 2 6 0) (cs 2 6 2) (cs 2 6 5) (S 0) (S 1) (S 3)) ∧ ∀ j, j ≠ 2 → X2_perform22_S cm cs S j = cs j := by
  refine ⟨?_, ?_, ?_⟩
  · funext k
    match k with
    | 0 => exact (upd_off (by omega)).symm
    | 1 =>
      show (X2_perform22_x51 (cm 1) (cs 2 6 11) (cs 2 6 12) (cs 2 0) (cs 2 1) (cs 2 6 0) (cs 2 6 2) (cs 2 6 5) (cs 0 0) (cs 1 0) (S 0) (S 1) (S 3) (S 4)) = _
      unfold X2_perform22_x51
      refine (if_neg hd).trans ?_
      unfold X2_perform22_x24 X2_goOn22_x0
      exact (if_neg ht).trans (upd_at.symm)
    | 2 => exact l0.symm.trans (upd_off (by omega)).symm
    | 3 => exact (upd_off (by omega)).symm
    | 4 =>
      show (X2_perform22_x52 (cs 2 6 11) (cs 2 6 12) (cs 2 0) (cs 2 1) (cs 2 6 0) (cs 2 6 2) (cs 2 6 5) (cs 0 0) (cs 1 0) (S 0) (S 1) (S 3) (S 4)) = _
      unfold X2_perform22_x52
      refine (if_neg hd).trans ?_
      unfold X2_perform22_x25 X2_goOn22_x1
      exact (if_neg ht).trans (l1.symm.trans (upd_off (by omega)).symm)
    | k + 5 => exact (upd_off (by omega)).symm
  · funext t
    match t with
    | 0 =>
      show (X2_perform22_g49 (cs 2 6 11) (cs 2 6 12) (cs 2 0) (cs 2 1) (cs 2 6 0) (cs 2 6 2) (cs 2 6 5) (S 0) (S 1) (S 3) (S 4)) = _
      unfold X2_perform22_g49
      exact (if_neg hd)
    | 1 => exact rfl
    | 2 => exact rfl
    | 3 => exact rfl
    | 4 => exact rfl
    | 5 => exact rfl
    | 6 =>
      funext k
      match k with
      | 0 => exact rfl
      | 1 => exact rfl
      | 2 => exact rfl
      | 3 => exact rfl
      | 4 => exact rfl
      | 5 => exact rfl
      | 6 => exact rfl
      | 7 => exact rfl
      | 8 => exact rfl
      | 9 => exact rfl
      | 10 => exact rfl
      | 11 =>
        show (X2_perform22_x50 (cs 2 6 11) (cs 2 6 12) (cs 2 1) (cs 2 6 0) (cs 2 6 2) (cs 2 6 5) (S 0) (S 1) (S 3)) = _
        unfold X2_perform22_x50
        exact (if_neg hd)
      | 12 => exact rfl
      | k + 13 => rfl
    | 7 => rfl
    | t + 8 => rfl
  · intro j hj
    match j, hj with
    | 0, _ => rfl
    | 1, _ => rfl
    | 2, h => exact absurd rfl h
    | 3, _ =>
      funext t
      match t with
      | 0 =>
        show (X2_perform22_g54 (cs 2 6 11) (cs 2 6 12) (cs 2 0) (cs 2 1) (cs 2 6 0) (cs 2 6 2) (cs 2 6 5) (cs 0 0) (cs 1 0) (cs 3 0) (S 0) (S 1) (S 3) (S 4)) = _
        unfold X2_perform22_g54
        refine (if_neg hd).trans ?_
        unfold X2_perform22_g27 X2_goOn22_g3
        exact (if_neg ht)
      | 1 =>
        show (X2_perform22_g56 (cs 2 6 11) (cs 2 6 12) (cs 2 0) (cs 2 1) (cs 2 6 0) (cs 2 6 2) (cs 2 6 5) (cs 0 0) (cs 1 0) (cs 3 1) (S 0) (S 1) (S 3) (S 4)) = _
        unfold X2_perform22_g56
        refine (if_neg hd).trans ?_
        unfold X2_perform22_g29 X2_goOn22_g5
        exact (if_neg ht)
      | 2 =>
        show (X2_perform22_g58 (cs 2 6 11) (cs 2 6 12) (cs 2 0) (cs 2 1) (cs 2 6 0) (cs 2 6 2) (cs 2 6 5) (cs 0 0) (cs 1 0) (cs 3 2) (S 0) (S 1) (S 3) (S 4)) = _
        unfold X2_perform22_g58
        refine (if_neg hd).trans ?_
        unfold X2_perform22_g31 X2_goOn22_g7
        exact (if_neg ht)
      | 3 =>
        show (X2_perform22_g60 (cs 2 6 11) (cs 2 6 12) (cs 2 0) (cs 2 1) (cs 2 6 0) (cs 2 6 2) (cs 2 6 5) (cs 0 0) (cs 1 0) (cs 3 3) (S 0) (S 1) (S 3) (S 4)) = _
        unfold X2_perform22_g60
        refine (if_neg hd).trans ?_
        unfold X2_perform22_g33 X2_goOn22_g9
        exact (if_neg ht)
      | 4 =>
        show (X2_perform22_g62 (cs 2 6 11) (cs 2 6 12) (cs 2 0) (cs 2 1) (cs 2 6 0) (cs 2 6 2) (cs 2 6 5) (cs 0 0) (cs 1 0) (cs 3 4) (S 0) (S 1) (S 3) (S 4)) = _
        unfold X2_perform22_g62
        refine (if_neg hd).trans ?_
        unfold X2_perform22_g35 X2_goOn22_g11
        exact (if_neg ht)
      | 5 => rfl
      | 6 =>
        funext k
        match k with
        | 0 =>
          show (X2_perform22_x63 (cs 2 6 11) (cs 2 6 12) (cs 2 0) (cs 2 1) (cs 2 6 0) (cs 2 6 2) (cs 2 6 5) (cs 0 0) (cs 1 0) (cs 3 6 0) (S 0) (S 1) (S 3) (S 4)) = _
          unfold X2_perform22_x63
          refine (if_neg hd).trans ?_
          unfold X2_perform22_x36 X2_goOn22_x12
          exact (if_neg ht)
        | 1 =>
          show (X2_perform22_x64 (cs 2 6 11) (cs 2 6 12) (cs 2 0) (cs 2 1) (cs 2 6 0) (cs 2 6 2) (cs 2 6 5) (cs 0 0) (cs 1 0) (cs 3 6 1) (S 0) (S 1) (S 3) (S 4)) = _
          unfold X2_perform22_x64
          refine (if_neg hd).trans ?_
          unfold X2_perform22_x37 X2_goOn22_x13
          exact (if_neg ht)
        | 2 =>
          show (X2_perform22_x65 (cs 2 6 11) (cs 2 6 12) (cs 2 0) (cs 2 1) (cs 2 6 0) (cs 2 6 2) (cs 2 6 5) (cs 0 0) (cs 1 0) (cs 3 6 2) (S 0) (S 1) (S 3) (S 4)) = _
          unfold X2_perform22_x65
          refine (if_neg hd).trans ?_
          unfold X2_perform22_x38 X2_goOn22_x14
          exact (if_neg ht)
        | 3 =>
          show (X2_perform22_x66 (cs 2 6 11) (cs 2 6 12) (cs 2 0) (cs 2 1) (cs 2 6 0) (cs 2 6 2) (cs 2 6 5) (cs 0 0) (cs 1 0) (cs 3 6 3) (S 0) (S 1) (S 3) (S 4)) = _
          unfold X2_perform22_x66
          refine (if_neg hd).trans ?_
          unfold X2_perform22_x39 X2_goOn22_x15
          exact (if_neg ht)
        | 4 =>
          show (X2_perform22_x67 (cs 2 6 11) (cs 2 6 12) (cs 2 0) (cs 2 1) (cs 2 6 0) (cs 2 6 2) (cs 2 6 5) (cs 0 0) (cs 1 0) (cs 3 6 4) (S 0) (S 1) (S 3) (S 4)) = _
          unfold X2_perform22_x67
          refine (if_neg hd).trans ?_
          unfold X2_perform22_x40 X2_goOn22_x16
          exact (if_neg ht)
        | 5 =>
          show (X2_perform22_x68 (cs 2 6 11) (cs 2 6 12) (cs 2 0) (cs 2 1) (cs 2 6 0) (cs 2 6 2) (cs 2 6 5) (cs 0 0) (cs 1 0) (cs 3 6 5) (S 0) (S 1) (S 3) (S 4)) = _
          unfold X2_perform22_x68
          refine (if_neg hd).trans ?_
          unfold X2_perform22_x41 X2_goOn22_x17
          exact (if_neg ht)
        | 6 =>
          show (X2_perform22_x69 (cs 2 6 11) (cs 2 6 12) (cs 2 0) (cs 2 1) (cs 2 6 0) (cs 2 6 2) (cs 2 6 5) (cs 0 0) (cs 1 0) (cs 3 6 6) (S 0) (S 1) (S 3) (S 4)) = _
          unfold X2_perform22_x69
          refine (if_neg hd).trans ?_
          unfold X2_perform22_x42 X2_goOn22_x18
          exact (if_neg ht)
        | 7 =>
          show (X2_perform22_x70 (cs 2 6 11) (cs 2 6 12) (cs 2 0) (cs 2 1) (cs 2 6 0) (cs 2 6 2) (cs 2 6 5) (cs 0 0) (cs 1 0) (cs 3 6 7) (S 0) (S 1) (S 3) (S 4)) = _
          unfold X2_perform22_x70
          refine (if_neg hd).trans ?_
          unfold X2_perform22_x43 X2_goOn22_x19
          exact (if_neg ht)
        | 8 =>
          show (X2_perform22_x71 (cs 2 6 11) (cs 2 6 12) (cs 2 0) (cs 2 1) (cs 2 6 0) (cs 2 6 2) (cs 2 6 5) (cs 0 0) (cs 1 0) (cs 3 6 8) (cs 3 0) (S 0) (S 1) (S 3) (S 4)) = _
          unfold X2_perform22_x71
          refine (if_neg hd).trans ?_
          unfold X2_perform22_x44 X2_goOn22_x20
          exact (if_neg ht)
        | 9 =>
          show (X2_perform22_x72 (cs 2 6 11) (cs 2 6 12) (cs 2 0) (cs 2 1) (cs 2 6 0) (cs 2 6 2) (cs 2 6 5) (cs 0 0) (cs 1 0) (cs 3 6 9) (S 0) (S 1) (S 3) (S 4)) = _
          unfold X2_perform22_x72
          refine (if_neg hd).trans ?_
          unfold X2_perform22_x45 X2_goOn22_x21
          exact (if_neg ht)
        | 10 =>
          show (X2_perform22_x73 (cs 2 6 11) (cs 2 6 12) (cs 2 0) (cs 2 1) (cs 2 6 0) (cs 2 6 2) (cs 2 6 5) (cs 0 0) (cs 1 0) (cs 3 6 10) (S 0) (S 1) (S 3) (S 4)) = _
          unfold X2_perform22_x73
          refine (if_neg hd).trans ?_
          unfold X2_perform22_x46 X2_goOn22_x22
          exact (if_neg ht)
        | 11 =>
          show (X2_perform22_x74 (cs 2 6 11) (cs 2 6 12) (cs 2 0) (cs 2 1) (cs 2 6 0) (cs 2 6 2) (cs 2 6 5) (cs 0 0) (cs 1 0) (cs 3 6 11) (S 0) (S 1) (S 3) (S 4)) = _
          unfold X2_perform22_x74
          refine (if_neg hd).trans ?_
          unfold X2_perform22_x47 X2_goOn22_x23
          exact (if_neg ht)
        | 12 =>
          show (X2_perform22_x75 (cs 2 6 11) (cs 2 6 12) (cs 2 0) (cs 2 1) (cs 2 6 0) (cs 2 6 2) (cs 2 6 5) (cs 0 0) (cs 1 0) (cs 3 6 12) (S 0) (S 1) (S 3) (S 4)) = _
          unfold X2_perform22_x75
          refine (if_neg hd).trans ?_
          unfold X2_perform22_x48 X2_goOn22_x24
          exact (if_neg ht)
        | k + 13 => rfl
      | 7 =>
        funext k
        match k with
        | 0 =>
          show (X2_perform22_x53 (cs 2 6 11) (cs 2 6 12) (cs 2 0) (cs 2 1) (cs 2 6 0) (cs 2 6 2) (cs 2 6 5) (cs 0 0) (cs 1 0) (cs 3 7 0) (S 0) (S 1) (S 3) (S 4)) = _
          unfold X2_perform22_x53
          refine (if_neg hd).trans ?_
          unfold X2_perform22_x26 X2_goOn22_x2
          exact (if_neg ht)
        | 1 =>
          show (X2_perform22_x55 (cs 2 6 11) (cs 2 6 12) (cs 2 0) (cs 2 1) (cs 2 6 0) (cs 2 6 2) (cs 2 6 5) (cs 0 0) (cs 1 0) (cs 3 7 1) (S 0) (S 1) (S 3) (S 4)) = _
          unfold X2_perform22_x55
          refine (if_neg hd).trans ?_
          unfold X2_perform22_x28 X2_goOn22_x4
          exact (if_neg ht)
        | 2 =>
          show (X2_perform22_x57 (cs 2 6 11) (cs 2 6 12) (cs 2 0) (cs 2 1) (cs 2 6 0) (cs 2 6 2) (cs 2 6 5) (cs 0 0) (cs 1 0) (cs 3 7 2) (S 0) (S 1) (S 3) (S 4)) = _
          unfold X2_perform22_x57
          refine (if_neg hd).trans ?_
          unfold X2_perform22_x30 X2_goOn22_x6
          exact (if_neg ht)
        | 3 =>
          show (X2_perform22_x59 (cs 2 6 11) (cs 2 6 12) (cs 2 0) (cs 2 1) (cs 2 6 0) (cs 2 6 2) (cs 2 6 5) (cs 0 0) (cs 1 0) (cs 3 7 3) (S 0) (S 1) (S 3) (S 4)) = _
          unfold X2_perform22_x59
          refine (if_neg hd).trans ?_
          unfold X2_perform22_x32 X2_goOn22_x8
          exact (if_neg ht)
        | 4 =>
          show (X2_perform22_x61 (cs 2 6 11) (cs 2 6 12) (cs 2 0) (cs 2 1) (cs 2 6 0) (cs 2 6 2) (cs 2 6 5) (cs 0 0) (cs 1 0) (cs 3 7 4) (S 0) (S 1) (S 3) (S 4)) = _
          unfold X2_perform22_x61
          refine (if_neg hd).trans ?_
          unfold X2_perform22_x34 X2_goOn22_x10
          exact (if_neg ht)
        | k + 5 => rfl
      | t + 8 => rfl
    | j + 4, _ => rfl
theorem pf_next01 {cm : Nat → Int32} {cs : Nat → Nat → Nat → Int32} {S : Nat → Int32} (l0 : cm 2 = 1) (l1 : cm 4 = 0) (hd : ¬ (X2_perform01_x22 (cs 0 6 11) (cs 0 6 12) (cs 0 1) (cs 0 6 0) (cs 0 6 2) (cs 0 6 5) (S 0) (S 1) (S 3)) = 0) : X2_perform01_M cm cs S = upd cm 4 1 ∧ X2_perform01_S cm cs S 0 = FIN (INN (cs 0) S) (X2_perform01_x22 (cs 0 6 11) (cs 0 6 12) (cs 0 1) (cs 0 6 0) (cs 0 6 2) (cs 0 6 5) (S 0) (S 1) (S 3)) ∧ X2_perform01_S cm cs S 1 = STA (cs 1) (INN (cs 0) S 6 0) (X2_hasResources_x0 (cm 2)) ∧ ∀ j, j ≠ 0 → j ≠ 1 → X2_perform01_S cm cs S j = cs j := by
  refine ⟨?_, ?_, ?_, ?_⟩
  · funext k
    match k with
    | 0 => exact (upd_off (by omega)).symm
    | 1 => exact (upd_off (by omega)).symm
    | 2 => exact l0.symm.trans (upd_off (by omega)).symm
    | 3 => exact (upd_off (by omega)).symm
    | 4 =>
      show (X2_perform01_x26 (cs 0 6 11) (cs 0 6 12) (cs 0 1) (cs 0 6 0) (cs 0 6 2) (cs 0 6 5) (S 0) (S 1) (S 3)) = _
      unfold X2_perform01_x26
      exact (if_neg hd).trans (upd_at.symm)
    | k + 5 => exact (upd_off (by omega)).symm
  · funext t
    match t with
    | 0 =>
      show (X2_perform01_g24 (cs 0 6 11) (cs 0 6 12) (cs 0 0) (cs 0 1) (cs 0 6 0) (cs 0 6 2) (cs 0 6 5) (S 0) (S 1) (S 3) (S 4)) = _
      unfold X2_perform01_g24
      exact (if_neg hd)
    | 1 => exact rfl
    | 2 => exact rfl
    | 3 => exact rfl
    | 4 => exact rfl
    | 5 => exact rfl
    | 6 =>
      funext k
      match k with
      | 0 => exact rfl
      | 1 => exact rfl
      | 2 => exact rfl
      | 3 => exact rfl
      | 4 => exact rfl
      | 5 => exact rfl
      | 6 => exact rfl
      | 7 => exact rfl
      | 8 => exact rfl
      | 9 => exact rfl
      | 10 => exact rfl
      | 11 =>
        show (X2_perform01_x25 (cs 0 6 11) (cs 0 6 12) (cs 0 1) (cs 0 6 0) (cs 0 6 2) (cs 0 6 5) (S 0) (S 1) (S 3)) = _
        unfold X2_perform01_x25
        exact (if_neg hd)
      | 12 => exact rfl
      | k + 13 => rfl
    | 7 => rfl
    | t + 8 => rfl
  · rw [l0]
    funext t
    match t with
    | 0 =>
      show (X2_perform01_g28 (cs 0 6 11) (cs 0 6 12) (cs 0 1) (cs 0 6 0) (cs 0 6 2) (cs 0 6 5) (cs 1 0) (S 0) (S 1) (S 3)) = _
      unfold X2_perform01_g28
      exact (if_neg hd)
    | 1 =>
      show (X2_perform01_g30 (cs 0 6 11) (cs 0 6 12) (cs 0 1) (cs 0 6 0) (cs 0 6 2) (cs 0 6 5) (cs 1 1) (S 0) (S 1) (S 3)) = _
      unfold X2_perform01_g30
      exact (if_neg hd)
    | 2 =>
      show (X2_perform01_g32 (cs 0 6 11) (cs 0 6 12) (cs 0 1) (cs 0 6 0) (cs 0 6 2) (cs 0 6 5) (cs 1 2) (S 0) (S 1) (S 3)) = _
      unfold X2_perform01_g32
      exact (if_neg hd)
    | 3 =>
      show (X2_perform01_g34 (cs 0 6 11) (cs 0 6 12) (cs 0 1) (cs 0 6 0) (cs 0 6 2) (cs 0 6 5) (cs 1 3) (S 0) (S 1) (S 3)) = _
      unfold X2_perform01_g34
      exact (if_neg hd)
    | 4 =>
      show (X2_perform01_g36 (cs 0 6 11) (cs 0 6 12) (cs 0 1) (cs 0 6 0) (cs 0 6 2) (cs 0 6 5) (cs 1 4) (S 0) (S 1) (S 3)) = _
      unfold X2_perform01_g36
      exact (if_neg hd)
    | 5 => rfl
    | 6 =>
      funext k
      match k with
      | 0 =>
        show (X2_perform01_x37 (cs 0 6 11) (cs 0 6 12) (cs 0 1) (cs 0 6 0) (cs 0 6 2) (cs 0 6 5) (cs 1 6 0) (S 0) (S 1) (S 3)) = _
        unfold X2_perform01_x37
        exact (if_neg hd)
      | 1 =>
        show (X2_perform01_x38 (cs 0 6 11) (cs 0 6 12) (cs 0 1) (cs 0 6 0) (cs 0 6 2) (cs 0 6 5) (cs 1 6 1) (S 0) (S 1) (S 3)) = _
        unfold X2_perform01_x38
        exact (if_neg hd)
      | 2 =>
        show (X2_perform01_x39 (cs 0 6 11) (cs 0 6 12) (cs 0 1) (cs 0 6 0) (cs 0 6 2) (cs 0 6 5) (cs 1 6 2) (S 0) (S 1) (S 3)) = _
        unfold X2_perform01_x39
        exact (if_neg hd)
      | 3 =>
        show (X2_perform01_x40 (cs 0 6 11) (cs 0 6 12) (cs 0 1) (cs 0 6 0) (cs 0 6 2) (cs 0 6 5) (cs 1 6 3) (S 0) (S 1) (S 3)) = _
        unfold X2_perform01_x40
        exact (if_neg hd)
      | 4 =>
        show (X2_perform01_x41 (cs 0 6 11) (cs 0 6 12) (cs 0 1) (cs 0 6 0) (cs 0 6 2) (cs 0 6 5) (cs 1 6 4) (S 0) (S 1) (S 3)) = _
        unfold X2_perform01_x41
        exact (if_neg hd)
      | 5 =>
        show (X2_perform01_x42 (cs 0 6 11) (cs 0 6 12) (cs 0 1) (cs 0 6 0) (cs 0 6 2) (cs 0 6 5) (cs 1 6 5) (S 0) (S 1) (S 3)) = _
        unfold X2_perform01_x42
        exact (if_neg hd)
      | 6 =>
        show (X2_perform01_x43 (cs 0 6 11) (cs 0 6 12) (cs 0 1) (cs 0 6 0) (cs 0 6 2) (cs 0 6 5) (cs 1 6 6) (S 0) (S 1) (S 3)) = _
        unfold X2_perform01_x43
        exact (if_neg hd)
      | 7 =>
        show (X2_perform01_x44 (cs 0 6 11) (cs 0 6 12) (cs 0 1) (cs 0 6 0) (cs 0 6 2) (cs 0 6 5) (cs 1 6 7) (S 0) (S 1) (S 3)) = _
        unfold X2_perform01_x44
        exact (if_neg hd)
      | 8 =>
        show (X2_perform01_x45 (cs 0 6 11) (cs 0 6 12) (cs 0 1) (cs 0 6 0) (cs 0 6 2) (cs 0 6 5) (cs 1 6 8) (cs 1 0) (S 0) (S 1) (S 3)) = _
        unfold X2_perform01_x45
        exact (if_neg hd)
      | 9 =>
        show (X2_perform01_x46 (cs 0 6 11) (cs 0 6 12) (cs 0 1) (cs 0 6 0) (cs 0 6 2) (cs 0 6 5) (cs 1 6 9) (S 0) (S 1) (S 3)) = _
        unfold X2_perform01_x46
        exact (if_neg hd)
      | 10 =>
        show (X2_perform01_x47 (cs 0 6 11) (cs 0 6 12) (cs 0 1) (cs 0 6 0) (cs 0 6 2) (cs 0 6 5) (cs 1 6 10) (S 0) (S 1) (S 3)) = _
        unfold X2_perform01_x47
        exact (if_neg hd)
      | 11 =>
        show (X2_perform01_x48 (cs 0 6 11) (cs 0 6 12) (cs 0 1) (cs 0 6 0) (cs 0 6 2) (cs 0 6 5) (cs 1 6 11) (S 0) (S 1) (S 3)) = _
        unfold X2_perform01_x48
        exact (if_neg hd)
      | 12 =>
        show (X2_perform01_x49 (cs 0 6 11) (cs 0 6 12) (cs 0 1) (cs 0 6 0) (cs 0 6 2) (cs 0 6 5) (cs 1 6 12) (S 0) (S 1) (S 3)) = _
        unfold X2_perform01_x49
        exact (if_neg hd)
      | k + 13 => rfl
    | 7 =>
      funext k
      match k with
      | 0 =>
        show (X2_perform01_x27 (cs 0 6 11) (cs 0 6 12) (cs 0 1) (cs 0 6 0) (cs 0 6 2) (cs 0 6 5) (cs 1 7 0) (S 0) (S 1) (S 3)) = _
        unfold X2_perform01_x27
        exact (if_neg hd)
      | 1 =>
        show (X2_perform01_x29 (cs 0 6 11) (cs 0 6 12) (cs 0 1) (cs 0 6 0) (cs 0 6 2) (cs 0 6 5) (cs 1 7 1) (S 0) (S 1) (S 3)) = _
        unfold X2_perform01_x29
        exact (if_neg hd)
      | 2 =>
        show (X2_perform01_x31 (cs 0 6 11) (cs 0 6 12) (cs 0 1) (cs 0 6 0) (cs 0 6 2) (cs 0 6 5) (cs 1 7 2) (S 0) (S 1) (S 3)) = _
        unfold X2_perform01_x31
        exact (if_neg hd)
      | 3 =>
        show (X2_perform01_x33 (cs 0 6 11) (cs 0 6 12) (cs 0 1) (cs 0 6 0) (cs 0 6 2) (cs 0 6 5) (cs 1 7 3) (S 0) (S 1) (S 3)) = _
        unfold X2_perform01_x33
        exact (if_neg hd)
      | 4 =>
        show (X2_perform01_x35 (cs 0 6 11) (cs 0 6 12) (cs 0 1) (cs 0 6 0) (cs 0 6 2) (cs 0 6 5) (cs 1 7 4) (S 0) (S 1) (S 3)) = _
        unfold X2_perform01_x35
        exact (if_neg hd)
      | k + 5 => rfl
    | t + 8 => rfl
  · intro j hj hj2
    match j, hj, hj2 with
    | 0, h, _ => exact absurd rfl h
    | 1, _, h => exact absurd rfl h
    | 2, _, _ => rfl
    | 3, _, _ => rfl
    | j + 4, _, _ => rfl
theorem pf_next02 {cm : Nat → Int32} {cs : Nat → Nat → Nat → Int32} {S : Nat → Int32} (l0 : cm 2 = 2) (l1 : cm 4 = 0) (hd : ¬ (X2_perform02_x22 (cs 0 6 11) (cs 0 6 12) (cs 0 1) (cs 0 6 0) (cs 0 6 2) (cs 0 6 5) (S 0) (S 1) (S 3)) = 0) : X2_perform02_M cm cs S = upd cm 4 1 ∧ X2_perform02_S cm cs S 0 = FIN (INN (cs 0) S) (X2_perform02_x22 (cs 0 6 11) (cs 0 6 12) (cs 0 1) (cs 0 6 0) (cs 0 6 2) (cs 0 6 5) (S 0) (S 1) (S 3)) ∧ X2_perform02_S cm cs S 1 = STA (cs 1) (INN (cs 0) S 6 0) (X2_hasResources_x0 (cm 2)) ∧ ∀ j, j ≠ 0 → j ≠ 1 → X2_perform02_S cm cs S j = cs j := by
  refine ⟨?_, ?_, ?_, ?_⟩
  · funext k
    match k with
    | 0 => exact (upd_off (by omega)).symm
    | 1 => exact (upd_off (by omega)).symm
    | 2 => exact l0.symm.trans (upd_off (by omega)).symm
    | 3 => exact (upd_off (by omega)).symm
    | 4 =>
      show (X2_perform02_x26 (cs 0 6 11) (cs 0 6 12) (cs 0 1) (cs 0 6 0) (cs 0 6 2) (cs 0 6 5) (S 0) (S 1) (S 3)) = _
      unfold X2_perform02_x26
      exact (if_neg hd).trans (upd_at.symm)
    | k + 5 => exact (upd_off (by omega)).symm
  · funext t
    match t with
    | 0 =>
      show (X2_perform02_g24 (cs 0 6 11) (cs 0 6 12) (cs 0 0) (cs 0 1) (cs 0 6 0) (cs 0 6 2) (cs 0 6 5) (S 0) (S 1) (S 3) (S 4)) = _
      unfold X2_perform02_g24
      exact (if_neg hd)
    | 1 => exact rfl
    | 2 => exact rfl
    | 3 => exact rfl
    | 4 => exact rfl
    | 5 => exact rfl
    | 6 =>
      funext k
      match k with
      | 0 => exact rfl
      | 1 => exact rfl
      | 2 => exact rfl
      | 3 => exact rfl
      | 4 => exact rfl
      | 5 => exact rfl
      | 6 => exact rfl
      | 7 => exact rfl
      | 8 => exact rfl
      | 9 => exact rfl
      | 10 => exact rfl
      | 11 =>
        show (X2_perform02_x25 (cs 0 6 11) (cs 0 6 12) (cs 0 1) (cs 0 6 0) (cs 0 6 2) (cs 0 6 5) (S 0) (S 1) (S 3)) = _
        unfold X2_perform02_x25
        exact (if_neg hd)
      | 12 => exact rfl
      | k + 13 => rfl
    | 7 => rfl
    | t + 8 => rfl
  · rw [l0]
    funext t
    match t with
    | 0 =>
      show (X2_perform02_g28 (cs 0 6 11) (cs 0 6 12) (cs 0 1) (cs 0 6 0) (cs 0 6 2) (cs 0 6 5) (cs 1 0) (S 0) (S 1) (S 3)) = _
      unfold X2_perform02_g28
      exact (if_neg hd)
    | 1 =>
      show (X2_perform02_g30 (cs 0 6 11) (cs 0 6 12) (cs 0 1) (cs 0 6 0) (cs 0 6 2) (cs 0 6 5) (cs 1 1) (S 0) (S 1) (S 3)) = _
      unfold X2_perform02_g30
      exact (if_neg hd)
    | 2 =>
      show (X2_perform02_g32 (cs 0 6 11) (cs 0 6 12) (cs 0 1) (cs 0 6 0) (cs 0 6 2) (cs 0 6 5) (cs 1 2) (S 0) (S 1) (S 3)) = _
      unfold X2_perform02_g32
      exact (if_neg hd)
    | 3 =>
      show (X2_perform02_g34 (cs 0 6 11) (cs 0 6 12) (cs 0 1) (cs 0 6 0) (cs 0 6 2) (cs 0 6 5) (cs 1 3) (S 0) (S 1) (S 3)) = _
      unfold X2_perform02_g34
      exact (if_neg hd)
    | 4 =>
      show (X2_perform02_g36 (cs 0 6 11) (cs 0 6 12) (cs 0 1) (cs 0 6 0) (cs 0 6 2) (cs 0 6 5) (cs 1 4) (S 0) (S 1) (S 3)) = _
      unfold X2_perform02_g36
      exact (if_neg hd)
    | 5 => rfl
    | 6 =>
      funext k
      match k with
      | 0 =>
        show (X2_perform02_x37 (cs 0 6 11) (cs 0 6 12) (cs 0 1) (cs 0 6 0) (cs 0 6 2) (cs 0 6 5) (cs 1 6 0) (S 0) (S 1) (S 3)) = _
        unfold X2_perform02_x37
        exact (if_neg hd)
      | 1 =>
        show (X2_perform02_x38 (cs 0 6 11) (cs 0 6 12) (cs 0 1) (cs 0 6 0) (cs 0 6 2) (cs 0 6 5) (cs 1 6 1) (S 0) (S 1) (S 3)) = _
        unfold X2_perform02_x38
        exact (if_neg hd)
      | 2 =>
        show (X2_perform02_x39 (cs 0 6 11) (cs 0 6 12) (cs 0 1) (cs 0 6 0) (cs 0 6 2) (cs 0 6 5) (cs 1 6 2) (S 0) (S 1) (S 3)) = _
        unfold X2_perform02_x39
        exact (if_neg hd)
      | 3 =>
        show (X2_perform02_x40 (cs 0 6 11) (cs 0 6 12) (cs 0 1) (cs 0 6 0) (cs 0 6 2) (cs 0 6 5) (cs 1 6 3) (S 0) (S 1) (S 3)) = _
        unfold X2_perform02_x40
        exact (if_neg hd)
      | 4 =>
        show (X2_perform02_x41 (cs 0 6 11) (cs 0 6 12) (cs 0 1) (cs 0 6 0) (cs 0 6 2) (cs 0 6 5) (cs 1 6 4) (S 0) (S 1) (S 3)) = _
        unfold X2_perform02_x41
        exact (if_neg hd)
      | 5 =>
        show (X2_perform02_x42 (cs 0 6 11) (cs 0 6 12) (cs 0 1) (cs 0 6 0) (cs 0 6 2) (cs 0 6 5) (cs 1 6 5) (S 0) (S 1) (S 3)) = _
        unfold X2_perform02_x42
        exact (if_neg hd)
      | 6 =>
        show (X2_perform02_x43 (cs 0 6 11) (cs 0 6 12) (cs 0 1) (cs 0 6 0) (cs 0 6 2) (cs 0 6 5) (cs 1 6 6) (S 0) (S 1) (S 3)) = _
        unfold X2_perform02_x43
        exact (if_neg hd)
      | 7 =>
        show (X2_perform02_x44 (cs 0 6 11) (cs 0 6 12) (cs 0 1) (cs 0 6 0) (cs 0 6 2) (cs 0 6 5) (cs 1 6 7) (S 0) (S 1) (S 3)) = _
        unfold X2_perform02_x44
        exact (if_neg hd)
      | 8 =>
        show (X2_perform02_x45 (cs 0 6 11) (cs 0 6 12) (cs 0 1) (cs 0 6 0) (cs 0 6 2) (cs 0 6 5) (cs 1 6 8) (cs 1 0) (S 0) (S 1) (S 3)) = _
        unfold X2_perform02_x45
        exact (if_neg hd)
      | 9 =>
        show (X2_perform02_x46 (cs 0 6 11) (cs 0 6 12) (cs 0 1) (cs 0 6 0) (cs 0 6 2) (cs 0 6 5) (cs 1 6 9) (S 0) (S 1) (S 3)) = _
        unfold X2_perform02_x46
        exact (if_neg hd)
      | 10 =>
        show (X2_perform02_x47 (cs 0 6 11) (cs 0 6 12) (cs 0 1) (cs 0 6 0) (cs 0 6 2) (cs 0 6 5) (cs 1 6 10) (S 0) (S 1) (S 3)) = _
        unfold X2_perform02_x47
        exact (if_neg hd)
      | 11 =>
        show (X2_perform02_x48 (cs 0 6 11) (cs 0 6 12) (cs 0 1) (cs 0 6 0) (cs 0 6 2) (cs 0 6 5) (cs 1 6 11) (S 0) (S 1) (S 3)) = _
        unfold X2_perform02_x48
        exact (if_neg hd)
      | 12 =>
        show (X2_perform02_x49 (cs 0 6 11) (cs 0 6 12) (cs 0 1) (cs 0 6 0) (cs 0 6 2) (cs 0 6 5) (cs 1 6 12) (S 0) (S 1) (S 3)) = _
        unfold X2_perform02_x49
        exact (if_neg hd)
      | k + 13 => rfl
    | 7 =>
      funext k
      match k with
      | 0 =>
        show (X2_perform02_x27 (cs 0 6 11) (cs 0 6 12) (cs 0 1) (cs 0 6 0) (cs 0 6 2) (cs 0 6 5) (cs 1 7 0) (S 0) (S 1) (S 3)) = _
        unfold X2_perform02_x27
        exact (if_neg hd)
      | 1 =>
        show (X2_perform02_x29 (cs 0 6 11) (cs 0 6 12) (cs 0 1) (cs 0 6 0) (cs 0 6 2) (cs 0 6 5) (cs 1 7 1) (S 0) (S 1) (S 3)) = _
        unfold X2_perform02_x29
        exact (if_neg hd)
      | 2 =>
        show (X2_perform02_x31 (cs 0 6 11) (cs 0 6 12) (cs 0 1) (cs 0 6 0) (cs 0 6 2) (cs 0 6 5) (cs 1 7 2) (S 0) (S 1) (S 3)) = _
        unfold X2_perform02_x31
        exact (if_neg hd)
      | 3 =>
        show (X2_perform02_x33 (cs 0 6 11) (cs 0 6 12) (cs 0 1) (cs 0 6 0) (cs 0 6 2) (cs 0 6 5) (cs 1 7 3) (S 0) (S 1) (S 3)) = _
        unfold X2_perform02_x33
        exact (if_neg hd)
      | 4 =>
        show (X2_perform02_x35 (cs 0 6 11) (cs 0 6 12) (cs 0 1) (cs 0 6 0) (cs 0 6 2) (cs 0 6 5) (cs 1 7 4) (S 0) (S 1) (S 3)) = _
        unfold X2_perform02_x35
        exact (if_neg hd)
      | k + 5 => rfl
    | t + 8 => rfl
  · intro j hj hj2
    match j, hj, hj2 with
    | 0, h, _ => exact absurd rfl h
    | 1, _, h => exact absurd rfl h
    | 2, _, _ => rfl
    | 3, _, _ => rfl
    | j + 4, _, _ => rfl
theorem pf_next12 {cm : Nat → Int32} {cs : Nat → Nat → Nat → Int32} {S : Nat → Int32} (l0 : cm 2 = 2) (l1 : cm 4 = 1) (hd : ¬ (X2_perform12_x22 (cs 1 6 11) (cs 1 6 12) (cs 1 1) (cs 1 6 0) (cs 1 6 2) (cs 1 6 5) (S 0) (S 1) (S 3)) = 0) : X2_perform12_M cm cs S = upd cm 4 2 ∧ X2_perform12_S cm cs S 1 = FIN (INN (cs 1) S) (X2_perform12_x22 (cs 1 6 11) (cs 1 6 12) (cs 1 1) (cs 1 6 0) (cs 1 6 2) (cs 1 6 5) (S 0) (S 1) (S 3)) ∧ X2_perform12_S cm cs S 2 = STA (cs 2) (INN (cs 1) S 6 0) (X2_hasResources_x0 (cm 2)) ∧ ∀ j, j ≠ 1 → j ≠ 2 → X2_perform12_S cm cs S j = cs j := by
  refine ⟨?_, ?_, ?_, ?_⟩
  · funext k
    match k with
    | 0 => exact (upd_off (by omega)).symm
    | 1 => exact (upd_off (by omega)).symm
    | 2 => exact l0.symm.trans (upd_off (by omega)).symm
    | 3 => exact (upd_off (by omega)).symm
    | 4 =>
      show nI (X2_perform12_n26 (cs 1 6 11) (cs 1 6 12) (cs 1 1) (cs 1 6 0) (cs 1 6 2) (cs 1 6 5) (S 0) (S 1) (S 3)) = _
      unfold X2_perform12_n26
      rw [if_neg hd]
      exact upd_at.symm
    | k + 5 => exact (upd_off (by omega)).symm
  · funext t
    match t with
    | 0 =>
      show (X2_perform12_g24 (cs 1 6 11) (cs 1 6 12) (cs 1 0) (cs 1 1) (cs 1 6 0) (cs 1 6 2) (cs 1 6 5) (S 0) (S 1) (S 3) (S 4)) = _
      unfold X2_perform12_g24
      exact (if_neg hd)
    | 1 => exact rfl
    | 2 => exact rfl
    | 3 => exact rfl
    | 4 => exact rfl
    | 5 => exact rfl
    | 6 =>
      funext k
      match k with
      | 0 => exact rfl
      | 1 => exact rfl
      | 2 => exact rfl
      | 3 => exact rfl
      | 4 => exact rfl
      | 5 => exact rfl
      | 6 => exact rfl
      | 7 => exact rfl
      | 8 => exact rfl
      | 9 => exact rfl
      | 10 => exact rfl
      | 11 =>
        show (X2_perform12_x25 (cs 1 6 11) (cs 1 6 12) (cs 1 1) (cs 1 6 0) (cs 1 6 2) (cs 1 6 5) (S 0) (S 1) (S 3)) = _
        unfold X2_perform12_x25
        exact (if_neg hd)
      | 12 => exact rfl
      | k + 13 => rfl
    | 7 => rfl
    | t + 8 => rfl
  · rw [l0]
    funext t
    match t with
    | 0 =>
      show (X2_perform12_g28 (cs 1 6 11) (cs 1 6 12) (cs 1 1) (cs 1 6 0) (cs 1 6 2) (cs 1 6 5) (cs 2 0) (S 0) (S 1) (S 3)) = _
      unfold X2_perform12_g28
      exact (if_neg hd)
    | 1 =>
      show (X2_perform12_g30 (cs 1 6 11) (cs 1 6 12) (cs 1 1) (cs 1 6 0) (cs 1 6 2) (cs 1 6 5) (cs 2 1) (S 0) (S 1) (S 3)) = _
      unfold X2_perform12_g30
      exact (if_neg hd)
    | 2 =>
      show (X2_perform12_g32 (cs 1 6 11) (cs 1 6 12) (cs 1 1) (cs 1 6 0) (cs 1 6 2) (cs 1 6 5) (cs 2 2) (S 0) (S 1) (S 3)) = _
      unfold X2_perform12_g32
      exact (if_neg hd)
    | 3 =>
      show (X2_perform12_g34 (cs 1 6 11) (cs 1 6 12) (cs 1 1) (cs 1 6 0) (cs 1 6 2) (cs 1 6 5) (cs 2 3) (S 0) (S 1) (S 3)) = _
      unfold X2_perform12_g34
      exact (if_neg hd)
    | 4 =>
      show (X2_perform12_g36 (cs 1 6 11) (cs 1 6 12) (cs 1 1) (cs 1 6 0) (cs 1 6 2) (cs 1 6 5) (cs 2 4) (S 0) (S 1) (S 3)) = _
      unfold X2_perform12_g36
      exact (if_neg hd)
    | 5 => rfl
    | 6 =>
      funext k
      match k with
      | 0 =>
        show (X2_perform12_x37 (cs 1 6 11) (cs 1 6 12) (cs 1 1) (cs 1 6 0) (cs 1 6 2) (cs 1 6 5) (cs 2 6 0) (S 0) (S 1) (S 3)) = _
        unfold X2_perform12_x37
        exact (if_neg hd)
      | 1 =>
        show (X2_perform12_x38 (cs 1 6 11) (cs 1 6 12) (cs 1 1) (cs 1 6 0) (cs 1 6 2) (cs 1 6 5) (cs 2 6 1) (S 0) (S 1) (S 3)) = _
        unfold X2_perform12_x38
        exact (if_neg hd)
      | 2 =>
        show (X2_perform12_x39 (cs 1 6 11) (cs 1 6 12) (cs 1 1) (cs 1 6 0) (cs 1 6 2) (cs 1 6 5) (cs 2 6 2) (S 0) (S 1) (S 3)) = _
        unfold X2_perform12_x39
        exact (if_neg hd)
      | 3 =>
        show (X2_perform12_x40 (cs 1 6 11) (cs 1 6 12) (cs 1 1) (cs 1 6 0) (cs 1 6 2) (cs 1 6 5) (cs 2 6 3) (S 0) (S 1) (S 3)) = _
        unfold X2_perform12_x40
        exact (if_neg hd)
      | 4 =>
        show (X2_perform12_x41 (cs 1 6 11) (cs 1 6 12) (cs 1 1) (cs 1 6 0) (cs 1 6 2) (cs 1 6 5) (cs 2 6 4) (S 0) (S 1) (S 3)) = _
        unfold X2_perform12_x41
        exact (if_neg hd)
      | 5 =>
        show (X2_perform12_x42 (cs 1 6 11) (cs 1 6 12) (cs 1 1) (cs 1 6 0) (cs 1 6 2) (cs 1 6 5) (cs 2 6 5) (S 0) (S 1) (S 3)) = _
        unfold X2_perform12_x42
        exact (if_neg hd)
      | 6 =>
        show (X2_perform12_x43 (cs 1 6 11) (cs 1 6 12) (cs 1 1) (cs 1 6 0) (cs 1 6 2) (cs 1 6 5) (cs 2 6 6) (S 0) (S 1) (S 3)) = _
        unfold X2_perform12_x43
        exact (if_neg hd)
      | 7 =>
        show (X2_perform12_x44 (cs 1 6 11) (cs 1 6 12) (cs 1 1) (cs 1 6 0) (cs 1 6 2) (cs 1 6 5) (cs 2 6 7) (S 0) (S 1) (S 3)) = _
        unfold X2_perform12_x44
        exact (if_neg hd)
      | 8 =>
        show (X2_perform12_x45 (cs 1 6 11) (cs 1 6 12) (cs 1 1) (cs 1 6 0) (cs 1 6 2) (cs 1 6 5) (cs 2 6 8) (cs 2 0) (S 0) (S 1) (S 3)) = _
        unfold X2_perform12_x45
        exact (if_neg hd)
      | 9 =>
        show (X2_perform12_x46 (cs 1 6 11) (cs 1 6 12) (cs 1 1) (cs 1 6 0) (cs 1 6 2) (cs 1 6 5) (cs 2 6 9) (S 0) (S 1) (S 3)) = _
        unfold X2_perform12_x46
        exact (if_neg hd)
      | 10 =>
        show (X2_perform12_x47 (cs 1 6 11) (cs 1 6 12) (cs 1 1) (cs 1 6 0) (cs 1 6 2) (cs 1 6 5) (cs 2 6 10) (S 0) (S 1) (S 3)) = _
        unfold X2_perform12_x47
        exact (if_neg hd)
      | 11 =>
        show (X2_perform12_x48 (cs 1 6 11) (cs 1 6 12) (cs 1 1) (cs 1 6 0) (cs 1 6 2) (cs 1 6 5) (cs 2 6 11) (S 0) (S 1) (S 3)) = _
        unfold X2_perform12_x48
        exact (if_neg hd)
      | 12 =>
        show (X2_perform12_x49 (cs 1 6 11) (cs 1 6 12) (cs 1 1) (cs 1 6 0) (cs 1 6 2) (cs 1 6 5) (cs 2 6 12) (S 0) (S 1) (S 3)) = _
        unfold X2_perform12_x49
        exact (if_neg hd)
      | k + 13 => rfl
    | 7 =>
      funext k
      match k with
      | 0 =>
        show (X2_perform12_x27 (cs 1 6 11) (cs 1 6 12) (cs 1 1) (cs 1 6 0) (cs 1 6 2) (cs 1 6 5) (cs 2 7 0) (S 0) (S 1) (S 3)) = _
        unfold X2_perform12_x27
        exact (if_neg hd)
      | 1 =>
        show (X2_perform12_x29 (cs 1 6 11) (cs 1 6 12) (cs 1 1) (cs 1 6 0) (cs 1 6 2) (cs 1 6 5) (cs 2 7 1) (S 0) (S 1) (S 3)) = _
        unfold X2_perform12_x29
        exact (if_neg hd)
      | 2 =>
        show (X2_perform12_x31 (cs 1 6 11) (cs 1 6 12) (cs 1 1) (cs 1 6 0) (cs 1 6 2) (cs 1 6 5) (cs 2 7 2) (S 0) (S 1) (S 3)) = _
        unfold X2_perform12_x31
        exact (if_neg hd)
      | 3 =>
        show (X2_perform12_x33 (cs 1 6 11) (cs 1 6 12) (cs 1 1) (cs 1 6 0) (cs 1 6 2) (cs 1 6 5) (cs 2 7 3) (S 0) (S 1) (S 3)) = _
        unfold X2_perform12_x33
        exact (if_neg hd)
      | 4 =>
        show (X2_perform12_x35 (cs 1 6 11) (cs 1 6 12) (cs 1 1) (cs 1 6 0) (cs 1 6 2) (cs 1 6 5) (cs 2 7 4) (S 0) (S 1) (S 3)) = _
        unfold X2_perform12_x35
        exact (if_neg hd)
      | k + 5 => rfl
    | t + 8 => rfl
  · intro j hj hj2
    match j, hj, hj2 with
    | 0, _, _ => rfl
    | 1, h, _ => exact absurd rfl h
    | 2, _, h => exact absurd rfl h
    | 3, _, _ => rfl
    | j + 4, _, _ => rfl
theorem pf_next22 {cm : Nat → Int32} {cs : Nat → Nat → Nat → Int32} {S : Nat → Int32} (l0 : cm 2 = 2) (l1 : cm 4 = 2) (hd : ¬ (X2_perform22_x22 (cs 2 6 11) (cs 2 6 12) (cs 2 1) (cs 2 6 0) (cs 2 6 2) (cs 2 6 5) (S 0) (S 1) (S 3)) = 0) (ht : 0 < X2_target2_r0 (cs 0 0) (cs 1 0) (X2_perform22_g23 (cs 2 6 11) (cs 2 6 12) (cs 2 0) (cs 2 1) (cs 2 6 0) (cs 2 6 2) (cs 2 6 5) (S 0) (S 1) (S 3) (S 4))) : X2_perform22_M cm cs S = upd cm 4 3 ∧ X2_perform22_S cm cs S 2 = FIN (INN (cs 2) S) (X2_perform22_x22 (cs 2 6 11) (cs 2 6 12) (cs 2 1) (cs 2 6 0) (cs 2 6 2) (cs 2 6 5) (S 0) (S 1) (S 3)) ∧ X2_perform22_S cm cs S 3 = STA (cs 3) (INN (cs 2) S 6 0) (X2_hasResources_x0 (cm 2)) ∧ ∀ j, j ≠ 2 → j ≠ 3 → X2_perform22_S cm cs S j = cs j := by
  refine ⟨?_, ?_, ?_, ?_⟩
  · funext k
    match k with
    | 0 => exact (upd_off (by omega)).symm
    | 1 =>
      show (X2_perform22_x51 (cm 1) (cs 2 6 11) (cs 2 6 12) (cs 2 0) (cs 2 1) (cs 2 6 0) (cs 2 6 2) (cs 2 6 5) (cs 0 0) (cs 1 0) (S 0) (S 1) (S 3) (S 4)) = _
      unfold X2_perform22_x51
      refine (if_neg hd).trans ?_
      unfold X2_perform22_x24 X2_goOn22_x0
      exact (if_pos ht).trans ((upd_off (by omega)).symm)
    | 2 => exact l0.symm.trans (upd_off (by omega)).symm
    | 3 => exact (upd_off (by omega)).symm
    | 4 =>
      show (X2_perform22_x52 (cs 2 6 11) (cs 2 6 12) (cs 2 0) (cs 2 1) (cs 2 6 0) (cs 2 6 2) (cs 2 6 5) (cs 0 0) (cs 1 0) (S 0) (S 1) (S 3) (S 4)) = _
      unfold X2_perform22_x52
      refine (if_neg hd).trans ?_
      unfold X2_perform22_x25 X2_goOn22_x1
      exact (if_pos ht).trans (upd_at.symm)
    | k + 5 => exact (upd_off (by omega)).symm
  · funext t
    match t with
    | 0 =>
      show (X2_perform22_g49 (cs 2 6 11) (cs 2 6 12) (cs 2 0) (cs 2 1) (cs 2 6 0) (cs 2 6 2) (cs 2 6 5) (S 0) (S 1) (S 3) (S 4)) = _
      unfold X2_perform22_g49
      exact (if_neg hd)
    | 1 => exact rfl
    | 2 => exact rfl
    | 3 => exact rfl
    | 4 => exact rfl
    | 5 => exact rfl
    | 6 =>
      funext k
      match k with
      | 0 => exact rfl
      | 1 => exact rfl
      | 2 => exact rfl
      | 3 => exact rfl
      | 4 => exact rfl
      | 5 => exact rfl
      | 6 => exact rfl
      | 7 => exact rfl
      | 8 => exact rfl
      | 9 => exact rfl
      | 10 => exact rfl
      | 11 =>
        show (X2_perform22_x50 (cs 2 6 11) (cs 2 6 12) (cs 2 1) (cs 2 6 0) (cs 2 6 2) (cs 2 6 5) (S 0) (S 1) (S 3)) = _
        unfold X2_perform22_x50
        exact (if_neg hd)
      | 12 => exact rfl
      | k + 13 => rfl
    | 7 => rfl
    | t + 8 => rfl
  · rw [l0]
    funext t
    match t with
    | 0 =>
      show (X2_perform22_g54 (cs 2 6 11) (cs 2 6 12) (cs 2 0) (cs 2 1) (cs 2 6 0) (cs 2 6 2) (cs 2 6 5) (cs 0 0) (cs 1 0) (cs 3 0) (S 0) (S 1) (S 3) (S 4)) = _
      unfold X2_perform22_g54
      refine (if_neg hd).trans ?_
      unfold X2_perform22_g27 X2_goOn22_g3
      exact (if_pos ht)
    | 1 =>
      show (X2_perform22_g56 (cs 2 6 11) (cs 2 6 12) (cs 2 0) (cs 2 1) (cs 2 6 0) (cs 2 6 2) (cs 2 6 5) (cs 0 0) (cs 1 0) (cs 3 1) (S 0) (S 1) (S 3) (S 4)) = _
      unfold X2_perform22_g56
      refine (if_neg hd).trans ?_
      unfold X2_perform22_g29 X2_goOn22_g5
      exact (if_pos ht)
    | 2 =>
      show (X2_perform22_g58 (cs 2 6 11) (cs 2 6 12) (cs 2 0) (cs 2 1) (cs 2 6 0) (cs 2 6 2) (cs 2 6 5) (cs 0 0) (cs 1 0) (cs 3 2) (S 0) (S 1) (S 3) (S 4)) = _
      unfold X2_perform22_g58
      refine (if_neg hd).trans ?_
      unfold X2_perform22_g31 X2_goOn22_g7
      exact (if_pos ht)
    | 3 =>
      show (X2_perform22_g60 (cs 2 6 11) (cs 2 6 12) (cs 2 0) (cs 2 1) (cs 2 6 0) (cs 2 6 2) (cs 2 6 5) (cs 0 0) (cs 1 0) (cs 3 3) (S 0) (S 1) (S 3) (S 4)) = _
      unfold X2_perform22_g60
      refine (if_neg hd).trans ?_
      unfold X2_perform22_g33 X2_goOn22_g9
      exact (if_pos ht)
    | 4 =>
      show (X2_perform22_g62 (cs 2 6 11) (cs 2 6 12) (cs 2 0) (cs 2 1) (cs 2 6 0) (cs 2 6 2) (cs 2 6 5) (cs 0 0) (cs 1 0) (cs 3 4) (S 0) (S 1) (S 3) (S 4)) = _
      unfold X2_perform22_g62
      refine (if_neg hd).trans ?_
      unfold X2_perform22_g35 X2_goOn22_g11
      exact (if_pos ht)
    | 5 => rfl
    | 6 =>
      funext k
      match k with
      | 0 =>
        show (X2_perform22_x63 (cs 2 6 11) (cs 2 6 12) (cs 2 0) (cs 2 1) (cs 2 6 0) (cs 2 6 2) (cs 2 6 5) (cs 0 0) (cs 1 0) (cs 3 6 0) (S 0) (S 1) (S 3) (S 4)) = _
        unfold X2_perform22_x63
        refine (if_neg hd).trans ?_
        unfold X2_perform22_x36 X2_goOn22_x12
        exact (if_pos ht)
      | 1 =>
        show (X2_perform22_x64 (cs 2 6 11) (cs 2 6 12) (cs 2 0) (cs 2 1) (cs 2 6 0) (cs 2 6 2) (cs 2 6 5) (cs 0 0) (cs 1 0) (cs 3 6 1) (S 0) (S 1) (S 3) (S 4)) = _
        unfold X2_perform22_x64
        refine (if_neg hd).trans ?_
        unfold X2_perform22_x37 X2_goOn22_x13
        exact (if_pos ht)
      | 2 =>
        show (X2_perform22_x65 (cs 2 6 11) (cs 2 6 12) (cs 2 0) (cs 2 1) (cs 2 6 0) (cs 2 6 2) (cs 2 6 5) (cs 0 0) (cs 1 0) (cs 3 6 2) (S 0) (S 1) (S 3) (S 4)) = _
        unfold X2_perform22_x65
        refine (if_neg hd).trans ?_
        unfold X2_perform22_x38 X2_goOn22_x14
        exact (if_pos ht)
      | 3 =>
        show (X2_perform22_x66 (cs 2 6 11) (cs 2 6 12) (cs 2 0) (cs 2 1) (cs 2 6 0) (cs 2 6 2) (cs 2 6 5) (cs 0 0) (cs 1 0) (cs 3 6 3) (S 0) (S 1) (S 3) (S 4)) = _
        unfold X2_perform22_x66
        refine (if_neg hd).trans ?_
        unfold X2_perform22_x39 X2_goOn22_x15
        exact (if_pos ht)
      | 4 =>
        show (X2_perform22_x67 (cs 2 6 11) (cs 2 6 12) (cs 2 0) (cs 2 1) (cs 2 6 0) (cs 2 6 2) (cs 2 6 5) (cs 0 0) (cs 1 0) (cs 3 6 4) (S 0) (S 1) (S 3) (S 4)) = _
        unfold X2_perform22_x67
        refine (if_neg hd).trans ?_
        unfold X2_perform22_x40 X2_goOn22_x16
        exact (if_pos ht)
      | 5 =>
        show (X2_perform22_x68 (cs 2 6 11) (cs 2 6 12) (cs 2 0) (cs 2 1) (cs 2 6 0) (cs 2 6 2) (cs 2 6 5) (cs 0 0) (cs 1 0) (cs 3 6 5) (S 0) (S 1) (S 3) (S 4)) = _
        unfold X2_perform22_x68
        refine (if_neg hd).trans ?_
        unfold X2_perform22_x41 X2_goOn22_x17
        exact (if_pos ht)
      | 6 =>
        show (X2_perform22_x69 (cs 2 6 11) (cs 2 6 12) (cs 2 0) (cs 2 1) (cs 2 6 0) (cs 2 6 2) (cs 2 6 5) (cs 0 0) (cs 1 0) (cs 3 6 6) (S 0) (S 1) (S 3) (S 4)) = _
        unfold X2_perform22_x69
        refine (if_neg hd).trans ?_
        unfold X2_perform22_x42 X2_goOn22_x18
        exact (if_pos ht)
      | 7 =>
        show (X2_perform22_x70 (cs 2 6 11) (cs 2 6 12) (cs 2 0) (cs 2 1) (cs 2 6 0) (cs 2 6 2) (cs 2 6 5) (cs 0 0) (cs 1 0) (cs 3 6 7) (S 0) (S 1) (S 3) (S 4)) = _
        unfold X2_perform22_x70
        refine (if_neg hd).trans ?_
        unfold X2_perform22_x43 X2_goOn22_x19
        exact (if_pos ht)
      | 8 =>
        show (X2_perform22_x71 (cs 2 6 11) (cs 2 6 12) (cs 2 0) (cs 2 1) (cs 2 6 0) (cs 2 6 2) (cs 2 6 5) (cs 0 0) (cs 1 0) (cs 3 6 8) (cs 3 0) (S 0) (S 1) (S 3) (S 4)) = _
        unfold X2_perform22_x71
        refine (if_neg hd).trans ?_
        unfold X2_perform22_x44 X2_goOn22_x20
        exact (if_pos ht)
      | 9 =>
        show (X2_perform22_x72 (cs 2 6 11) (cs 2 6 12) (cs 2 0) (cs 2 1) (cs 2 6 0) (cs 2 6 2) (cs 2 6 5) (cs 0 0) (cs 1 0) (cs 3 6 9) (S 0) (S 1) (S 3) (S 4)) = _
        unfold X2_perform22_x72
        refine (if_neg hd).trans ?_
        unfold X2_perform22_x45 X2_goOn22_x21
        exact (if_pos ht)
      | 10 =>
        show (X2_perform22_x73 (cs 2 6 11) (cs 2 6 12) (cs 2 0) (cs 2 1) (cs 2 6 0) (cs 2 6 2) (cs 2 6 5) (cs 0 0) (cs 1 0) (cs 3 6 10) (S 0) (S 1) (S 3) (S 4)) = _
        unfold X2_perform22_x73
        refine (if_neg hd).trans ?_
        unfold X2_perform22_x46 X2_goOn22_x22
        exact (if_pos ht)
      | 11 =>
        show (X2_perform22_x74 (cs 2 6 11) (cs 2 6 12) (cs 2 0) (cs 2 1) (cs 2 6 0) (cs 2 6 2) (cs 2 6 5) (cs 0 0) (cs 1 0) (cs 3 6 11) (S 0) (S 1) (S 3) (S 4)) = _
        unfold X2_perform22_x74
        refine (if_neg hd).trans ?_
        unfold X2_perform22_x47 X2_goOn22_x23
        exact (if_pos ht)
      | 12 =>
        show (X2_perform22_x75 (cs 2 6 11) (cs 2 6 12) (cs 2 0) (cs 2 1) (cs 2 6 0) (cs 2 6 2) (cs 2 6 5) (cs 0 0) (cs 1 0) (cs 3 6 12) (S 0) (S 1) (S 3) (S 4)) = _
        unfold X2_perform22_x75
        refine (if_neg hd).trans ?_
        unfold X2_perform22_x48 X2_goOn22_x24
        exact (if_pos ht)
      | k + 13 => rfl
    | 7 =>
      funext k
      match k with
      | 0 =>
        show (X2_perform22_x53 (cs 2 6 11) (cs 2 6 12) (cs 2 0) (cs 2 1) (cs 2 6 0) (cs 2 6 2) (cs 2 6 5) (cs 0 0) (cs 1 0) (cs 3 7 0) (S 0) (S 1) (S 3) (S 4)) = _
        unfold X2_perform22_x53
        refine (if_neg hd).trans ?_
        unfold X2_perform22_x26 X2_goOn22_x2
        exact (if_pos ht)
      | 1 =>
        show (X2_perform22_x55 (cs 2 6 11) (cs 2 6 12) (cs 2 0) (cs 2 1) (cs 2 6 0) (cs 2 6 2) (cs 2 6 5) (cs 0 0) (cs 1 0) (cs 3 7 1) (S 0) (S 1) (S 3) (S 4)) = _
        unfold X2_perform22_x55
        refine (if_neg hd).trans ?_
        unfold X2_perform22_x28 X2_goOn22_x4
        exact (if_pos ht)
      | 2 =>
        show (X2_perform22_x57 (cs 2 6 11) (cs 2 6 12) (cs 2 0) (cs 2 1) (cs 2 6 0) (cs 2 6 2) (cs 2 6 5) (cs 0 0) (cs 1 0) (cs 3 7 2) (S 0) (S 1) (S 3) (S 4)) = _
        unfold X2_perform22_x57
        refine (if_neg hd).trans ?_
        unfold X2_perform22_x30 X2_goOn22_x6
        exact (if_pos ht)
      | 3 =>
        show (X2_perform22_x59 (cs 2 6 11) (cs 2 6 12) (cs 2 0) (cs 2 1) (cs 2 6 0) (cs 2 6 2) (cs 2 6 5) (cs 0 0) (cs 1 0) (cs 3 7 3) (S 0) (S 1) (S 3) (S 4)) = _
        unfold X2_perform22_x59
        refine (if_neg hd).trans ?_
        unfold X2_perform22_x32 X2_goOn22_x8
        exact (if_pos ht)
      | 4 =>
        show (X2_perform22_x61 (cs 2 6 11) (cs 2 6 12) (cs 2 0) (cs 2 1) (cs 2 6 0) (cs 2 6 2) (cs 2 6 5) (cs 0 0) (cs 1 0) (cs 3 7 4) (S 0) (S 1) (S 3) (S 4)) = _
        unfold X2_perform22_x61
        refine (if_neg hd).trans ?_
        unfold X2_perform22_x34 X2_goOn22_x10
        exact (if_pos ht)
      | k + 5 => rfl
    | t + 8 => rfl
  · intro j hj hj2
    match j, hj, hj2 with
    | 0, _, _ => rfl
    | 1, _, _ => rfl
    | 2, h, _ => exact absurd rfl h
    | 3, _, h => exact absurd rfl h
    | j + 4, _, _ => rfl
theorem pf_R {cm : Nat → Int32} {cs : Nat → Nat → Nat → Int32} {S : Nat → Int32} (hV : VAR cm) : pfR cm cs S = ANS (cs (cm 4).toNatClampNeg) S := by
  rcases hV with ⟨l0, l1 | l1⟩ | ⟨l0, l1 | l1 | l1 | l1⟩
  · have e4 : (cm 4).toNatClampNeg = 0 := by rw [l1]; decide
    rw [e4]; rw [show pfR cm cs S = X2_perform01_R cm cs S from by unfold pfR; rw [if_pos l0, if_pos l1]]
    rfl
  · have e4 : (cm 4).toNatClampNeg = 1 := by rw [l1]; decide
    rw [e4]; rw [show pfR cm cs S = X2_perform11_R cm cs S from by unfold pfR; rw [if_pos l0, if_neg (show ¬ cm 4 = 0 by rw [l1]; decide)]]
    rfl
  · have e4 : (cm 4).toNatClampNeg = 0 := by rw [l1]; decide
    rw [e4]; rw [show pfR cm cs S = X2_perform02_R cm cs S from by unfold pfR; rw [if_neg (show ¬ cm 2 = 1 by rw [l0]; decide), if_pos l1]]
    rfl
  · have e4 : (cm 4).toNatClampNeg = 1 := by rw [l1]; decide
    rw [e4]; rw [show pfR cm cs S = X2_perform12_R cm cs S from by unfold pfR; rw [if_neg (show ¬ cm 2 = 1 by rw [l0]; decide), if_neg (show ¬ cm 4 = 0 by rw [l1]; decide), if_pos l1]]
    rfl
  · have e4 : (cm 4).toNatClampNeg = 2 := by rw [l1]; decide
    rw [e4]; rw [show pfR cm cs S = X2_perform22_R cm cs S from by unfold pfR; rw [if_neg (show ¬ cm 2 = 1 by rw [l0]; decide), if_neg (show ¬ cm 4 = 0 by rw [l1]; decide), if_neg (show ¬ cm 4 = 1 by rw [l1]; decide), if_pos l1]]
    rfl
  · have e4 : (cm 4).toNatClampNeg = 3 := by rw [l1]; decide
    rw [e4]; rw [show pfR cm cs S = X2_perform32_R cm cs S from by unfold pfR; rw [if_neg (show ¬ cm 2 = 1 by rw [l0]; decide), if_neg (show ¬ cm 4 = 0 by rw [l1]; decide), if_neg (show ¬ cm 4 = 1 by rw [l1]; decide), if_neg (show ¬ cm 4 = 2 by rw [l1]; decide)]]
    rfl
theorem pf_stay {cm : Nat → Int32} {cs : Nat → Nat → Nat → Int32} {S : Nat → Int32} (hV : VAR cm) (hd : DUE cm cs S = 0) : pfM cm cs S = cm ∧ pfS cm cs S (cm 4).toNatClampNeg = INN (cs (cm 4).toNatClampNeg) S ∧ ∀ j, j ≠ (cm 4).toNatClampNeg → pfS cm cs S j = cs j := by
  rcases hV with ⟨l0, l1 | l1⟩ | ⟨l0, l1 | l1 | l1 | l1⟩
  · have e4 : (cm 4).toNatClampNeg = 0 := by rw [l1]; decide
    rw [e4]; unfold DUE at hd; rw [if_pos l0, if_pos l1] at hd
    rw [show pfM cm cs S = X2_perform01_M cm cs S from by unfold pfM; rw [if_pos l0, if_pos l1]]
    rw [show pfS cm cs S = X2_perform01_S cm cs S from by unfold pfS; rw [if_pos l0, if_pos l1]]
    rw [← pf_E01] at hd
    exact pf_stay01 l0 l1 hd
  · have e4 : (cm 4).toNatClampNeg = 1 := by rw [l1]; decide
    rw [e4]; unfold DUE at hd; rw [if_pos l0, if_neg (show ¬ cm 4 = 0 by rw [l1]; decide)] at hd
    rw [show pfM cm cs S = X2_perform11_M cm cs S from by unfold pfM; rw [if_pos l0, if_neg (show ¬ cm 4 = 0 by rw [l1]; decide)]]
    rw [show pfS cm cs S = X2_perform11_S cm cs S from by unfold pfS; rw [if_pos l0, if_neg (show ¬ cm 4 = 0 by rw [l1]; decide)]]
    rw [← pf_E11] at hd
    exact pf_stay11 l0 l1 hd
  · have e4 : (cm 4).toNatClampNeg = 0 := by rw [l1]; decide
    rw [e4]; unfold DUE at hd; rw [if_neg (show ¬ cm 2 = 1 by rw [l0]; decide), if_pos l1] at hd
    rw [show pfM cm cs S = X2_perform02_M cm cs S from by unfold pfM; rw [if_neg (show ¬ cm 2 = 1 by rw [l0]; decide), if_pos l1]]
    rw [show pfS cm cs S = X2_perform02_S cm cs S from by unfold pfS; rw [if_neg (show ¬ cm 2 = 1 by rw [l0]; decide), if_pos l1]]
    rw [← pf_E02] at hd
    exact pf_stay02 l0 l1 hd
  · have e4 : (cm 4).toNatClampNeg = 1 := by rw [l1]; decide
    rw [e4]; unfold DUE at hd; rw [if_neg (show ¬ cm 2 = 1 by rw [l0]; decide), if_neg (show ¬ cm 4 = 0 by rw [l1]; decide), if_pos l1] at hd
    rw [show pfM cm cs S = X2_perform12_M cm cs S from by unfold pfM; rw [if_neg (show ¬ cm 2 = 1 by rw [l0]; decide), if_neg (show ¬ cm 4 = 0 by rw [l1]; decide), if_pos l1]]
    rw [show pfS cm cs S = X2_perform12_S cm cs S from by unfold pfS; rw [if_neg (show ¬ cm 2 = 1 by rw [l0]; decide), if_neg (show ¬ cm 4 = 0 by rw [l1]; decide), if_pos l1]]
    rw [← pf_E12] at hd
    exact pf_stay12 l0 l1 hd
  · have e4 : (cm 4).toNatClampNeg = 2 := by rw [l1]; decide
    rw [e4]; unfold DUE at hd; rw [if_neg (show ¬ cm 2 = 1 by rw [l0]; decide), if_neg (show ¬ cm 4 = 0 by rw [l1]; decide), if_neg (show ¬ cm 4 = 1 by rw [l1]; decide), if_pos l1] at hd
    rw [show pfM cm cs S = X2_perform22_M cm cs S from by unfold pfM; rw [if_neg (show ¬ cm 2 = 1 by rw [l0]; decide), if_neg (show ¬ cm 4 = 0 by rw [l1]; decide), if_neg (show ¬ cm 4 = 1 by rw [l1]; decide), if_pos l1]]
    rw [show pfS cm cs S = X2_perform22_S cm cs S from by unfold pfS; rw [if_neg (show ¬ cm 2 = 1 by rw [l0]; decide), if_neg (show ¬ cm 4 = 0 by rw [l1]; decide), if_neg (show ¬ cm 4 = 1 by rw [l1]; decide), if_pos l1]]
    rw [← pf_E22] at hd
    exact pf_stay22 l0 l1 hd
  · have e4 : (cm 4).toNatClampNeg = 3 := by rw [l1]; decide
    rw [e4]; unfold DUE at hd; rw [if_neg (show ¬ cm 2 = 1 by rw [l0]; decide), if_neg (show ¬ cm 4 = 0 by rw [l1]; decide), if_neg (show ¬ cm 4 = 1 by rw [l1]; decide), if_neg (show ¬ cm 4 = 2 by rw [l1]; decide)] at hd
    rw [show pfM cm cs S = X2_perform32_M cm cs S from by unfold pfM; rw [if_neg (show ¬ cm 2 = 1 by rw [l0]; decide), if_neg (show ¬ cm 4 = 0 by rw [l1]; decide), if_neg (show ¬ cm 4 = 1 by rw [l1]; decide), if_neg (show ¬ cm 4 = 2 by rw [l1]; decide)]]
    rw [show pfS cm cs S = X2_perform32_S cm cs S from by unfold pfS; rw [if_neg (show ¬ cm 2 = 1 by rw [l0]; decide), if_neg (show ¬ cm 4 = 0 by rw [l1]; decide), if_neg (show ¬ cm 4 = 1 by rw [l1]; decide), if_neg (show ¬ cm 4 = 2 by rw [l1]; decide)]]
    rw [← pf_E32] at hd
    exact pf_stay32 l0 l1 hd
theorem pf_over {cm : Nat → Int32} {cs : Nat → Nat → Nat → Int32} {S : Nat → Int32} (hd : ¬ DUE cm cs S = 0) (ho : OVR cm cs S) : pfM cm cs S = upd cm 1 1 ∧ pfS cm cs S (cm 4).toNatClampNeg = FIN (INN (cs (cm 4).toNatClampNeg) S) (DUE cm cs S) ∧ ∀ j, j ≠ (cm 4).toNatClampNeg → pfS cm cs S j = cs j := by
  rcases ho with ⟨l0, l1⟩ | ⟨l0, l1⟩ | ⟨l0, l1, ht⟩
  · have e4 : (cm 4).toNatClampNeg = 1 := by rw [l1]; decide
    rw [e4]; unfold DUE at hd ⊢; rw [if_pos l0, if_neg (show ¬ cm 4 = 0 by rw [l1]; decide)] at hd ⊢
    rw [show pfM cm cs S = X2_perform11_M cm cs S from by unfold pfM; rw [if_pos l0, if_neg (show ¬ cm 4 = 0 by rw [l1]; decide)]]
    rw [show pfS cm cs S = X2_perform11_S cm cs S from by unfold pfS; rw [if_pos l0, if_neg (show ¬ cm 4 = 0 by rw [l1]; decide)]]
    rw [← pf_E11] at hd ⊢
    exact pf_over11 l0 l1 hd
  · have e4 : (cm 4).toNatClampNeg = 3 := by rw [l1]; decide
    rw [e4]; unfold DUE at hd ⊢; rw [if_neg (show ¬ cm 2 = 1 by rw [l0]; decide), if_neg (show ¬ cm 4 = 0 by rw [l1]; decide), if_neg (show ¬ cm 4 = 1 by rw [l1]; decide), if_neg (show ¬ cm 4 = 2 by rw [l1]; decide)] at hd ⊢
    rw [show pfM cm cs S = X2_perform32_M cm cs S from by unfold pfM; rw [if_neg (show ¬ cm 2 = 1 by rw [l0]; decide), if_neg (show ¬ cm 4 = 0 by rw [l1]; decide), if_neg (show ¬ cm 4 = 1 by rw [l1]; decide), if_neg (show ¬ cm 4 = 2 by rw [l1]; decide)]]
    rw [show pfS cm cs S = X2_perform32_S cm cs S from by unfold pfS; rw [if_neg (show ¬ cm 2 = 1 by rw [l0]; decide), if_neg (show ¬ cm 4 = 0 by rw [l1]; decide), if_neg (show ¬ cm 4 = 1 by rw [l1]; decide), if_neg (show ¬ cm 4 = 2 by rw [l1]; decide)]]
    rw [← pf_E32] at hd ⊢
    exact pf_over32 l0 l1 hd
  · have e4 : (cm 4).toNatClampNeg = 2 := by rw [l1]; decide
    rw [e4]; unfold DUE at hd ⊢; rw [if_neg (show ¬ cm 2 = 1 by rw [l0]; decide), if_neg (show ¬ cm 4 = 0 by rw [l1]; decide), if_neg (show ¬ cm 4 = 1 by rw [l1]; decide), if_pos l1] at hd ⊢
    rw [show pfM cm cs S = X2_perform22_M cm cs S from by unfold pfM; rw [if_neg (show ¬ cm 2 = 1 by rw [l0]; decide), if_neg (show ¬ cm 4 = 0 by rw [l1]; decide), if_neg (show ¬ cm 4 = 1 by rw [l1]; decide), if_pos l1]]
    rw [show pfS cm cs S = X2_perform22_S cm cs S from by unfold pfS; rw [if_neg (show ¬ cm 2 = 1 by rw [l0]; decide), if_neg (show ¬ cm 4 = 0 by rw [l1]; decide), if_neg (show ¬ cm 4 = 1 by rw [l1]; decide), if_pos l1]]
    rw [← pf_E22] at hd ⊢
    rw [← pf_T22] at ht
    exact pf_over22 l0 l1 hd ht
theorem pf_next {cm : Nat → Int32} {cs : Nat → Nat → Nat → Int32} {S : Nat → Int32} (hd : ¬ DUE cm cs S = 0) (ho : NXT cm cs S) : pfM cm cs S = upd cm 4 (nI ((cm 4).toNatClampNeg + 1)) ∧ pfS cm cs S (cm 4).toNatClampNeg = FIN (INN (cs (cm 4).toNatClampNeg) S) (DUE cm cs S) ∧ pfS cm cs S ((cm 4).toNatClampNeg + 1) = STA (cs ((cm 4).toNatClampNeg + 1)) (INN (cs (cm 4).toNatClampNeg) S 6 0) (X2_hasResources_x0 (cm 2)) ∧ ∀ j, j ≠ (cm 4).toNatClampNeg → j ≠ (cm 4).toNatClampNeg + 1 → pfS cm cs S j = cs j := by
  rcases ho with ⟨l0, l1⟩ | ⟨l0, l1⟩ | ⟨l0, l1⟩ | ⟨l0, l1, ht⟩
  · have e4 : (cm 4).toNatClampNeg = 0 := by rw [l1]; decide
    rw [e4]; unfold DUE at hd ⊢; rw [if_pos l0, if_pos l1] at hd ⊢
    rw [show pfM cm cs S = X2_perform01_M cm cs S from by unfold pfM; rw [if_pos l0, if_pos l1]]
    rw [show pfS cm cs S = X2_perform01_S cm cs S from by unfold pfS; rw [if_pos l0, if_pos l1]]
    rw [← pf_E01] at hd ⊢
    exact pf_next01 l0 l1 hd
  · have e4 : (cm 4).toNatClampNeg = 0 := by rw [l1]; decide
    rw [e4]; unfold DUE at hd ⊢; rw [if_neg (show ¬ cm 2 = 1 by rw [l0]; decide), if_pos l1] at hd ⊢
    rw [show pfM cm cs S = X2_perform02_M cm cs S from by unfold pfM; rw [if_neg (show ¬ cm 2 = 1 by rw [l0]; decide), if_pos l1]]
    rw [show pfS cm cs S = X2_perform02_S cm cs S from by unfold pfS; rw [if_neg (show ¬ cm 2 = 1 by rw [l0]; decide), if_pos l1]]
    rw [← pf_E02] at hd ⊢
    exact pf_next02 l0 l1 hd
  · have e4 : (cm 4).toNatClampNeg = 1 := by rw [l1]; decide
    rw [e4]; unfold DUE at hd ⊢; rw [if_neg (show ¬ cm 2 = 1 by rw [l0]; decide), if_neg (show ¬ cm 4 = 0 by rw [l1]; decide), if_pos l1] at hd ⊢
    rw [show pfM cm cs S = X2_perform12_M cm cs S from by unfold pfM; rw [if_neg (show ¬ cm 2 = 1 by rw [l0]; decide), if_neg (show ¬ cm 4 = 0 by rw [l1]; decide), if_pos l1]]
    rw [show pfS cm cs S = X2_perform12_S cm cs S from by unfold pfS; rw [if_neg (show ¬ cm 2 = 1 by rw [l0]; decide), if_neg (show ¬ cm 4 = 0 by rw [l1]; decide), if_pos l1]]
    rw [← pf_E12] at hd ⊢
    exact pf_next12 l0 l1 hd
  · have e4 : (cm 4).toNatClampNeg = 2 := by rw [l1]; decide
    rw [e4]; unfold DUE at hd ⊢; rw [if_neg (show ¬ cm 2 = 1 by rw [l0]; decide), if_neg (show ¬ cm 4 = 0 by rw [l1]; decide), if_neg (show ¬ cm 4 = 1 by rw [l1]; decide), if_pos l1] at hd ⊢
    rw [show pfM cm cs S = X2_perform22_M cm cs S from by unfold pfM; rw [if_neg (show ¬ cm 2 = 1 by rw [l0]; decide), if_neg (show ¬ cm 4 = 0 by rw [l1]; decide), if_neg (show ¬ cm 4 = 1 by rw [l1]; decide), if_pos l1]]
    rw [show pfS cm cs S = X2_perform22_S cm cs S from by unfold pfS; rw [if_neg (show ¬ cm 2 = 1 by rw [l0]; decide), if_neg (show ¬ cm 4 = 0 by rw [l1]; decide), if_neg (show ¬ cm 4 = 1 by rw [l1]; decide), if_pos l1]]
    rw [← pf_E22] at hd ⊢
    rw [← pf_T22] at ht
    exact pf_next22 l0 l1 hd ht
