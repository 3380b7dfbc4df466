/-! operations on an innings -/
def CNT (c : Nat → Nat → Int32) (kd ru sb : Int32) : Nat → Nat → Int32
  | 0 => X0_count_g4 (c 0) kd ru
  | 1 => X0_count_g6 (c 1) (c 6 9) kd ru sb
  | 2 => X0_count_g5 (c 2) (c 6 3) kd ru
  | 3 => X0_count_g7 ((c 7 3).toNatClampNeg) (c 3) (c 6 9) (c 6 10) kd ru
  | 6 => fun k => match k with | 5 => c 6 5 + X0_countForBowler_x0 kd | 6 => c 6 6 + X5_bowlerRuns_r1 kd ru | 7 => 1 | 9 => X0_count_x2 (c 6 9) (c 6 10) ru sb | 10 => X0_count_x3 (c 6 9) (c 6 10) ru sb | k => c 6 k
  | k => c k
def FOV (c : Nat → Nat → Int32) : Nat → Nat → Int32
  | 2 => X0_finishOver_g3 (c 2) (c 6 3) (c 6 5) (c 6 6)
  | 5 => X0_finishOver_g4 (c 0) (c 5) (c 6 2) (c 6 5)
  | 6 => fun k => match k with | 2 => X0_finishOver_x5 (c 6 2) (c 6 5) | 3 => X0_finishOver_x6 (c 6 3) (c 6 5) | 4 => X0_finishOver_x7 (c 6 3) (c 6 4) (c 6 5) | 5 => X0_finishOver_x8 (c 6 5) | 6 => X0_finishOver_x9 (c 6 5) (c 6 6) | 7 => X0_finishOver_x10 (c 6 5) (c 6 7) | 9 => X0_finishOver_x1 (c 6 5) (c 6 9) (c 6 10) | 10 => X0_finishOver_x2 (c 6 5) (c 6 9) (c 6 10) | k => c 6 k
  | k => c k
def SWP (c : Nat → Nat → Int32) (sc : Int32) : Nat → Nat → Int32
  | 6 => fun k => match k with | 9 => if sc = 0 then c 6 9 else c 6 10 | 10 => if sc = 0 then c 6 10 else c 6 9 | k => c 6 k
  | k => c k
def CWK (c : Nat → Nat → Int32) (out way : Int32) : Nat → Nat → Int32
  | 0 => X0_countWicket_g5 (c 0)
  | 1 => X0_countWicket_g3 (c 1) (c 6 3) out way
  | 2 => X0_countWicket_g4 (c 2) (c 6 3) way
  | 4 => X0_countWicket_g2 ((c 7 4).toNatClampNeg) (c 0) (c 4) out
  | 7 => fun k => match k with | 4 => nI ((c 7 4).toNatClampNeg + 1) | k => c 7 k
  | k => c k
def LEA (c : Nat → Nat → Int32) (pl st nx : Int32) : Nat → Nat → Int32
  | 1 => X0_leave_g3 (c 1) pl st nx
  | 3 => X0_leave_g4 ((c 7 3).toNatClampNeg) (c 3) (c 6 9) (c 6 10) pl nx
  | 6 => fun k => match k with | 9 => X0_leave_x5 (c 6 9) pl nx | 10 => X0_leave_x6 (c 6 9) (c 6 10) pl nx | 11 => X0_leave_x7 (c 6 11) nx | 12 => X0_leave_x8 (c 6 12) nx | k => c 6 k
  | 7 => fun k => match k with | 3 => X0_leave_x9 ((c 7 3).toNatClampNeg) nx | k => c 7 k
  | k => c k
def SETN (c : Nat → Nat → Int32) (p : Nat) (v : Int32) : Nat → Nat → Int32
  | 6 => upd (c 6) p v
  | k => c k
def WHO (c : Nat → Nat → Int32) (so : Int32) : Int32 := if so = 0 then c 6 9 else c 6 10
def NEX (c : Nat → Nat → Int32) : Int32 := X0_nextBatter_r1 (c 1) (c 6 11)
set_option maxRecDepth 20000 in
theorem inn_1 {c : Nat → Nat → Int32} {S : Nat → Int32} (h : S 0 = 1) (e3 : c 7 3 = nI ((c 7 3).toNatClampNeg)) (e4 : c 7 4 = nI ((c 7 4).toNatClampNeg)) : INN c S = SETN c 3 (S 1) := by
  funext t
  match t with
  | 0 => exact if_pos h
  | 1 => exact if_pos h
  | 2 => exact if_pos h
  | 3 => exact if_pos h
  | 4 => exact if_pos h
  | 5 => exact if_pos h
  | 6 =>
    funext k
    match k with
    | 0 => exact (if_pos h).trans (upd_off (by omega)).symm
    | 1 => exact (rfl).trans (upd_off (by omega)).symm
    | 2 => exact (if_pos h).trans (upd_off (by omega)).symm
    | 3 => exact (if_pos h).trans upd_at.symm
    | 4 => exact (if_pos h).trans (upd_off (by omega)).symm
    | 5 => exact (if_pos h).trans (upd_off (by omega)).symm
    | 6 => exact (if_pos h).trans (upd_off (by omega)).symm
    | 7 => exact (if_pos h).trans (upd_off (by omega)).symm
    | 8 => exact (if_pos h).trans (upd_off (by omega)).symm
    | 9 => exact (if_pos h).trans (upd_off (by omega)).symm
    | 10 => exact (if_pos h).trans (upd_off (by omega)).symm
    | 11 => exact (if_pos h).trans (upd_off (by omega)).symm
    | 12 => exact (if_pos h).trans (upd_off (by omega)).symm
    | k + 13 => exact (upd_off (by omega)).symm
  | 7 =>
    funext k
    match k with
    | 0 => exact rfl
    | 1 => exact rfl
    | 2 => exact rfl
    | 3 => exact (if_pos h).trans e3.symm
    | 4 => exact (congrArg nI (if_pos h)).trans e4.symm
    | k + 5 => rfl
  | t + 8 => rfl
set_option maxRecDepth 20000 in
theorem inn_2 {c : Nat → Nat → Int32} {S : Nat → Int32} (h : S 0 = 2) (e3 : c 7 3 = nI ((c 7 3).toNatClampNeg)) (e4 : c 7 4 = nI ((c 7 4).toNatClampNeg)) : INN c S = FOV (CNT c (S 3) (S 4) (S 6)) := by
  have n1 : ¬ S 0 = 1 := by rw [h]; decide
  funext t
  match t with
  | 0 => exact (if_neg n1).trans (if_pos h)
  | 1 => exact (if_neg n1).trans (if_pos h)
  | 2 => exact (if_neg n1).trans (if_pos h)
  | 3 => exact (if_neg n1).trans (if_pos h)
  | 4 => exact (if_neg n1).trans (if_pos h)
  | 5 => exact (if_neg n1).trans (if_pos h)
  | 6 =>
    funext k
    match k with
    | 0 => exact (if_neg n1).trans (if_pos h)
    | 1 => exact rfl
    | 2 => exact (if_neg n1).trans (if_pos h)
    | 3 => exact (if_neg n1).trans (if_pos h)
    | 4 => exact (if_neg n1).trans (if_pos h)
    | 5 => exact (if_neg n1).trans (if_pos h)
    | 6 => exact (if_neg n1).trans (if_pos h)
    | 7 => exact (if_neg n1).trans (if_pos h)
    | 8 => exact (if_neg n1).trans (if_pos h)
    | 9 => exact (if_neg n1).trans (if_pos h)
    | 10 => exact (if_neg n1).trans (if_pos h)
    | 11 => exact (if_neg n1).trans (if_pos h)
    | 12 => exact (if_neg n1).trans (if_pos h)
    | k + 13 => rfl
  | 7 =>
    funext k
    match k with
    | 0 => exact rfl
    | 1 => exact rfl
    | 2 => exact rfl
    | 3 => exact ((if_neg n1).trans (if_pos h)).trans e3.symm
    | 4 => exact (congrArg nI ((if_neg n1).trans (if_pos h))).trans e4.symm
    | k + 5 => rfl
  | t + 8 => rfl
set_option maxRecDepth 20000 in
theorem inn_3 {c : Nat → Nat → Int32} {S : Nat → Int32} (h : S 0 = 3) (e3 : c 7 3 = nI ((c 7 3).toNatClampNeg)) (e4 : c 7 4 = nI ((c 7 4).toNatClampNeg)) : INN c S = FOV (LEA (CWK (SWP (CNT c (S 3) (S 4) (S 6)) (S 7)) (WHO c (S 5)) (S 2)) (WHO c (S 5)) (S 2) (NEX c)) := by
  have n1 : ¬ S 0 = 1 := by rw [h]; decide
  have n2 : ¬ S 0 = 2 := by rw [h]; decide
  funext t
  match t with
  | 0 => exact (if_neg n1).trans ((if_neg n2).trans (if_pos h))
  | 1 => exact (if_neg n1).trans ((if_neg n2).trans (if_pos h))
  | 2 => exact (if_neg n1).trans ((if_neg n2).trans (if_pos h))
  | 3 => exact (if_neg n1).trans ((if_neg n2).trans (if_pos h))
  | 4 => exact (if_neg n1).trans ((if_neg n2).trans (if_pos h))
  | 5 => exact (if_neg n1).trans ((if_neg n2).trans (if_pos h))
  | 6 =>
    funext k
    match k with
    | 0 => exact (if_neg n1).trans ((if_neg n2).trans (if_pos h))
    | 1 => exact rfl
    | 2 => exact (if_neg n1).trans ((if_neg n2).trans (if_pos h))
    | 3 => exact (if_neg n1).trans ((if_neg n2).trans (if_pos h))
    | 4 => exact (if_neg n1).trans ((if_neg n2).trans (if_pos h))
    | 5 => exact (if_neg n1).trans ((if_neg n2).trans (if_pos h))
    | 6 => exact (if_neg n1).trans ((if_neg n2).trans (if_pos h))
    | 7 => exact (if_neg n1).trans ((if_neg n2).trans (if_pos h))
    | 8 => exact (if_neg n1).trans ((if_neg n2).trans (if_pos h))
    | 9 => exact (if_neg n1).trans ((if_neg n2).trans (if_pos h))
    | 10 => exact (if_neg n1).trans ((if_neg n2).trans (if_pos h))
    | 11 => exact (if_neg n1).trans ((if_neg n2).trans (if_pos h))
    | 12 => exact (if_neg n1).trans ((if_neg n2).trans (if_pos h))
    | k + 13 => rfl
  | 7 =>
    funext k
    match k with
    | 0 => exact rfl
    | 1 => exact rfl
    | 2 => exact rfl
    | 3 => exact (if_neg n1).trans ((if_neg n2).trans (if_pos h))
    | 4 => exact congrArg nI ((if_neg n1).trans ((if_neg n2).trans (if_pos h)))
    | k + 5 => rfl
  | t + 8 => rfl
set_option maxRecDepth 20000 in
theorem inn_4 {c : Nat → Nat → Int32} {S : Nat → Int32} (h : S 0 = 4) (e3 : c 7 3 = nI ((c 7 3).toNatClampNeg)) (e4 : c 7 4 = nI ((c 7 4).toNatClampNeg)) : INN c S = LEA c (WHO c (S 5)) (nI (X0_retireBatter_n1 (S 8))) (NEX c) := by
  have n1 : ¬ S 0 = 1 := by rw [h]; decide
  have n2 : ¬ S 0 = 2 := by rw [h]; decide
  have n3 : ¬ S 0 = 3 := by rw [h]; decide
  funext t
  match t with
  | 0 => exact (if_neg n1).trans ((if_neg n2).trans (if_neg n3))
  | 1 => exact (if_neg n1).trans ((if_neg n2).trans ((if_neg n3).trans (if_pos h)))
  | 2 => exact (if_neg n1).trans ((if_neg n2).trans (if_neg n3))
  | 3 => exact (if_neg n1).trans ((if_neg n2).trans ((if_neg n3).trans (if_pos h)))
  | 4 => exact (if_neg n1).trans ((if_neg n2).trans (if_neg n3))
  | 5 => exact (if_neg n1).trans ((if_neg n2).trans (if_neg n3))
  | 6 =>
    funext k
    match k with
    | 0 => exact (if_neg n1).trans ((if_neg n2).trans ((if_neg n3).trans (if_pos h)))
    | 1 => exact rfl
    | 2 => exact (if_neg n1).trans ((if_neg n2).trans (if_neg n3))
    | 3 => exact (if_neg n1).trans ((if_neg n2).trans (if_neg n3))
    | 4 => exact (if_neg n1).trans ((if_neg n2).trans (if_neg n3))
    | 5 => exact (if_neg n1).trans ((if_neg n2).trans (if_neg n3))
    | 6 => exact (if_neg n1).trans ((if_neg n2).trans (if_neg n3))
    | 7 => exact (if_neg n1).trans ((if_neg n2).trans (if_neg n3))
    | 8 => exact (if_neg n1).trans ((if_neg n2).trans ((if_neg n3).trans (if_pos h)))
    | 9 => exact (if_neg n1).trans ((if_neg n2).trans ((if_neg n3).trans (if_pos h)))
    | 10 => exact (if_neg n1).trans ((if_neg n2).trans ((if_neg n3).trans (if_pos h)))
    | 11 => exact (if_neg n1).trans ((if_neg n2).trans ((if_neg n3).trans (if_pos h)))
    | 12 => exact (if_neg n1).trans ((if_neg n2).trans ((if_neg n3).trans (if_pos h)))
    | k + 13 => rfl
  | 7 =>
    funext k
    match k with
    | 0 => exact rfl
    | 1 => exact rfl
    | 2 => exact rfl
    | 3 => exact (if_neg n1).trans ((if_neg n2).trans ((if_neg n3).trans (if_pos h)))
    | 4 => exact (congrArg nI ((if_neg n1).trans ((if_neg n2).trans (if_neg n3)))).trans e4.symm
    | k + 5 => rfl
  | t + 8 => rfl
set_option maxRecDepth 20000 in
theorem inn_5 {c : Nat → Nat → Int32} {S : Nat → Int32} (h : S 0 = 5) (e3 : c 7 3 = nI ((c 7 3).toNatClampNeg)) (e4 : c 7 4 = nI ((c 7 4).toNatClampNeg)) : INN c S = SETN c 11 (S 1) := by
  have n1 : ¬ S 0 = 1 := by rw [h]; decide
  have n2 : ¬ S 0 = 2 := by rw [h]; decide
  have n3 : ¬ S 0 = 3 := by rw [h]; decide
  have n4 : ¬ S 0 = 4 := by rw [h]; decide
  funext t
  match t with
  | 0 => exact (if_neg n1).trans ((if_neg n2).trans (if_neg n3))
  | 1 => exact (if_neg n1).trans ((if_neg n2).trans ((if_neg n3).trans (if_neg n4)))
  | 2 => exact (if_neg n1).trans ((if_neg n2).trans (if_neg n3))
  | 3 => exact (if_neg n1).trans ((if_neg n2).trans ((if_neg n3).trans (if_neg n4)))
  | 4 => exact (if_neg n1).trans ((if_neg n2).trans (if_neg n3))
  | 5 => exact (if_neg n1).trans ((if_neg n2).trans (if_neg n3))
  | 6 =>
    funext k
    match k with
    | 0 => exact ((if_neg n1).trans ((if_neg n2).trans ((if_neg n3).trans ((if_neg n4).trans (if_pos h))))).trans (upd_off (by omega)).symm
    | 1 => exact (rfl).trans (upd_off (by omega)).symm
    | 2 => exact ((if_neg n1).trans ((if_neg n2).trans (if_neg n3))).trans (upd_off (by omega)).symm
    | 3 => exact ((if_neg n1).trans ((if_neg n2).trans (if_neg n3))).trans (upd_off (by omega)).symm
    | 4 => exact ((if_neg n1).trans ((if_neg n2).trans (if_neg n3))).trans (upd_off (by omega)).symm
    | 5 => exact ((if_neg n1).trans ((if_neg n2).trans (if_neg n3))).trans (upd_off (by omega)).symm
    | 6 => exact ((if_neg n1).trans ((if_neg n2).trans (if_neg n3))).trans (upd_off (by omega)).symm
    | 7 => exact ((if_neg n1).trans ((if_neg n2).trans (if_neg n3))).trans (upd_off (by omega)).symm
    | 8 => exact ((if_neg n1).trans ((if_neg n2).trans ((if_neg n3).trans ((if_neg n4).trans (if_pos h))))).trans (upd_off (by omega)).symm
    | 9 => exact ((if_neg n1).trans ((if_neg n2).trans ((if_neg n3).trans (if_neg n4)))).trans (upd_off (by omega)).symm
    | 10 => exact ((if_neg n1).trans ((if_neg n2).trans ((if_neg n3).trans (if_neg n4)))).trans (upd_off (by omega)).symm
    | 11 => exact ((if_neg n1).trans ((if_neg n2).trans ((if_neg n3).trans ((if_neg n4).trans (if_pos h))))).trans upd_at.symm
    | 12 => exact ((if_neg n1).trans ((if_neg n2).trans ((if_neg n3).trans (if_neg n4)))).trans (upd_off (by omega)).symm
    | k + 13 => exact (upd_off (by omega)).symm
  | 7 =>
    funext k
    match k with
    | 0 => exact rfl
    | 1 => exact rfl
    | 2 => exact rfl
    | 3 => exact ((if_neg n1).trans ((if_neg n2).trans ((if_neg n3).trans (if_neg n4)))).trans e3.symm
    | 4 => exact (congrArg nI ((if_neg n1).trans ((if_neg n2).trans (if_neg n3)))).trans e4.symm
    | k + 5 => rfl
  | t + 8 => rfl
set_option maxRecDepth 20000 in
theorem inn_6 {c : Nat → Nat → Int32} {S : Nat → Int32} (h : S 0 = 6) (e3 : c 7 3 = nI ((c 7 3).toNatClampNeg)) (e4 : c 7 4 = nI ((c 7 4).toNatClampNeg)) : INN c S = c := by
  have n1 : ¬ S 0 = 1 := by rw [h]; decide
  have n2 : ¬ S 0 = 2 := by rw [h]; decide
  have n3 : ¬ S 0 = 3 := by rw [h]; decide
  have n4 : ¬ S 0 = 4 := by rw [h]; decide
  have n5 : ¬ S 0 = 5 := by rw [h]; decide
  funext t
  match t with
  | 0 => exact (if_neg n1).trans ((if_neg n2).trans (if_neg n3))
  | 1 => exact (if_neg n1).trans ((if_neg n2).trans ((if_neg n3).trans (if_neg n4)))
  | 2 => exact (if_neg n1).trans ((if_neg n2).trans (if_neg n3))
  | 3 => exact (if_neg n1).trans ((if_neg n2).trans ((if_neg n3).trans (if_neg n4)))
  | 4 => exact (if_neg n1).trans ((if_neg n2).trans (if_neg n3))
  | 5 => exact (if_neg n1).trans ((if_neg n2).trans (if_neg n3))
  | 6 =>
    funext k
    match k with
    | 0 => exact (if_neg n1).trans ((if_neg n2).trans ((if_neg n3).trans ((if_neg n4).trans ((if_neg n5).trans (if_pos h)))))
    | 1 => exact rfl
    | 2 => exact (if_neg n1).trans ((if_neg n2).trans (if_neg n3))
    | 3 => exact (if_neg n1).trans ((if_neg n2).trans (if_neg n3))
    | 4 => exact (if_neg n1).trans ((if_neg n2).trans (if_neg n3))
    | 5 => exact (if_neg n1).trans ((if_neg n2).trans (if_neg n3))
    | 6 => exact (if_neg n1).trans ((if_neg n2).trans (if_neg n3))
    | 7 => exact (if_neg n1).trans ((if_neg n2).trans (if_neg n3))
    | 8 => exact (if_neg n1).trans ((if_neg n2).trans ((if_neg n3).trans ((if_neg n4).trans ((if_neg n5).trans (if_pos h)))))
    | 9 => exact (if_neg n1).trans ((if_neg n2).trans ((if_neg n3).trans (if_neg n4)))
    | 10 => exact (if_neg n1).trans ((if_neg n2).trans ((if_neg n3).trans (if_neg n4)))
    | 11 => exact (if_neg n1).trans ((if_neg n2).trans ((if_neg n3).trans ((if_neg n4).trans (if_neg n5))))
    | 12 => exact (if_neg n1).trans ((if_neg n2).trans ((if_neg n3).trans (if_neg n4)))
    | k + 13 => rfl
  | 7 =>
    funext k
    match k with
    | 0 => exact rfl
    | 1 => exact rfl
    | 2 => exact rfl
    | 3 => exact ((if_neg n1).trans ((if_neg n2).trans ((if_neg n3).trans (if_neg n4)))).trans e3.symm
    | 4 => exact (congrArg nI ((if_neg n1).trans ((if_neg n2).trans (if_neg n3)))).trans e4.symm
    | k + 5 => rfl
  | t + 8 => rfl
set_option maxRecDepth 20000 in
theorem inn_7 {c : Nat → Nat → Int32} {S : Nat → Int32} (h : S 0 = 7) (e3 : c 7 3 = nI ((c 7 3).toNatClampNeg)) (e4 : c 7 4 = nI ((c 7 4).toNatClampNeg)) : INN c S = SETN (SETN c 0 (c 6 0 - S 1)) 8 (c 6 8 - (X0_value_r0 (c 0) (c 6 0) - X0_value_r0 (c 0) (c 6 0 - S 1))) := by
  have n1 : ¬ S 0 = 1 := by rw [h]; decide
  have n2 : ¬ S 0 = 2 := by rw [h]; decide
  have n3 : ¬ S 0 = 3 := by rw [h]; decide
  have n4 : ¬ S 0 = 4 := by rw [h]; decide
  have n5 : ¬ S 0 = 5 := by rw [h]; decide
  have n6 : ¬ S 0 = 6 := by rw [h]; decide
  funext t
  match t with
  | 0 => exact (if_neg n1).trans ((if_neg n2).trans (if_neg n3))
  | 1 => exact (if_neg n1).trans ((if_neg n2).trans ((if_neg n3).trans (if_neg n4)))
  | 2 => exact (if_neg n1).trans ((if_neg n2).trans (if_neg n3))
  | 3 => exact (if_neg n1).trans ((if_neg n2).trans ((if_neg n3).trans (if_neg n4)))
  | 4 => exact (if_neg n1).trans ((if_neg n2).trans (if_neg n3))
  | 5 => exact (if_neg n1).trans ((if_neg n2).trans (if_neg n3))
  | 6 =>
    funext k
    match k with
    | 0 => exact ((if_neg n1).trans ((if_neg n2).trans ((if_neg n3).trans ((if_neg n4).trans ((if_neg n5).trans ((if_neg n6).trans (if_pos h))))))).trans (upd_at.symm.trans (upd_off (by omega)).symm)
    | 1 => exact (rfl).trans ((upd_off (by omega)).symm.trans (upd_off (by omega)).symm)
    | 2 => exact ((if_neg n1).trans ((if_neg n2).trans (if_neg n3))).trans ((upd_off (by omega)).symm.trans (upd_off (by omega)).symm)
    | 3 => exact ((if_neg n1).trans ((if_neg n2).trans (if_neg n3))).trans ((upd_off (by omega)).symm.trans (upd_off (by omega)).symm)
    | 4 => exact ((if_neg n1).trans ((if_neg n2).trans (if_neg n3))).trans ((upd_off (by omega)).symm.trans (upd_off (by omega)).symm)
    | 5 => exact ((if_neg n1).trans ((if_neg n2).trans (if_neg n3))).trans ((upd_off (by omega)).symm.trans (upd_off (by omega)).symm)
    | 6 => exact ((if_neg n1).trans ((if_neg n2).trans (if_neg n3))).trans ((upd_off (by omega)).symm.trans (upd_off (by omega)).symm)
    | 7 => exact ((if_neg n1).trans ((if_neg n2).trans (if_neg n3))).trans ((upd_off (by omega)).symm.trans (upd_off (by omega)).symm)
    | 8 => exact ((if_neg n1).trans ((if_neg n2).trans ((if_neg n3).trans ((if_neg n4).trans ((if_neg n5).trans ((if_neg n6).trans (if_pos h))))))).trans upd_at.symm
    | 9 => exact ((if_neg n1).trans ((if_neg n2).trans ((if_neg n3).trans (if_neg n4)))).trans ((upd_off (by omega)).symm.trans (upd_off (by omega)).symm)
    | 10 => exact ((if_neg n1).trans ((if_neg n2).trans ((if_neg n3).trans (if_neg n4)))).trans ((upd_off (by omega)).symm.trans (upd_off (by omega)).symm)
    | 11 => exact ((if_neg n1).trans ((if_neg n2).trans ((if_neg n3).trans ((if_neg n4).trans (if_neg n5))))).trans ((upd_off (by omega)).symm.trans (upd_off (by omega)).symm)
    | 12 => exact ((if_neg n1).trans ((if_neg n2).trans ((if_neg n3).trans (if_neg n4)))).trans ((upd_off (by omega)).symm.trans (upd_off (by omega)).symm)
    | k + 13 =>
      show c 6 (k + 13) = upd (upd (c 6) 0 (c 6 0 - S 1)) 8 _ (k + 13)
      rw [upd_off (by omega), upd_off (by omega)]
  | 7 =>
    funext k
    match k with
    | 0 => exact rfl
    | 1 => exact rfl
    | 2 => exact rfl
    | 3 => exact ((if_neg n1).trans ((if_neg n2).trans ((if_neg n3).trans (if_neg n4)))).trans e3.symm
    | 4 => exact (congrArg nI ((if_neg n1).trans ((if_neg n2).trans (if_neg n3)))).trans e4.symm
    | k + 5 => rfl
  | t + 8 => rfl
