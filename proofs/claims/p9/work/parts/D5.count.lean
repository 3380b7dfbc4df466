/-! a ball counted: the reference's chain of writes, each an increase -/
section E9
variable {g : Nat → Int32} {kind : Nat} {runs bnd : Int32} {i a bo s : Nat}
theorem e_g7 : X9_scores_g7 g kind runs i = incr (X9_scores_g6 g i) (25 + 11 * i + 0) (X9_scores_x1 kind runs) := rfl
theorem e_g8 : X9_scores_g8 g kind runs i = incr (X9_scores_g7 g kind runs i) (25 + 11 * i + 2) (X9_scores_x5 kind) := rfl
theorem e_g11 : X9_scores_g11 g kind runs i = incr (X9_scores_g8 g kind runs i) (25 + 11 * i + (2 + kind)) (X9_scores_x9 kind runs) := rfl
theorem e_g15 : X9_scores_g15 g kind runs i a = incr (X9_scores_g12 g kind runs i) (69 + 6 * (11 * i + a) + 1) (X9_scores_x13 kind) := rfl
theorem e_g18 : X9_scores_g18 g kind runs i a = incr (X9_scores_g15 g kind runs i a) (69 + 6 * (11 * i + a) + 0) (X9_scores_x16 kind runs) := rfl
theorem e_g21 : X9_scores_g21 g kind runs i a = incr (X9_scores_g18 g kind runs i a) (69 + 6 * (11 * i + a) + (X9_scores_n19 runs)) 1 := rfl
theorem e_g24 : X9_scores_g24 g kind runs bnd i a bo = incr (X9_scores_g22 g kind runs bnd i a) (333 + 7 * (11 * i + bo) + 0) (X9_scores_x5 kind) := rfl
theorem e_g27 : X9_scores_g27 g kind runs bnd i a bo = incr (X9_scores_g24 g kind runs bnd i a bo) (333 + 7 * (11 * i + bo) + 1) (X9_scores_x25 kind runs) := rfl
theorem e_g29 : X9_scores_g29 g kind runs bnd i a bo = incr (X9_scores_g27 g kind runs bnd i a bo) 11 (X9_scores_x25 kind runs) := rfl
theorem e_g31 : X9_scores_g31 g kind runs bnd i a bo = incr (X9_scores_g29 g kind runs bnd i a bo) (333 + 7 * (11 * i + bo) + (3 + kind)) 1 := rfl
theorem e_g33 : X9_scores_g33 g kind runs bnd i a bo = incr (X9_scores_g32 g kind runs bnd i a bo) 10 (X9_scores_x5 kind) := rfl
theorem e_g35 : X9_scores_g35 g kind runs bnd i a bo s = incr (X9_scores_g33 g kind runs bnd i a bo) (841 + 8 * (s - 1)) (X9_scores_x1 kind runs) := rfl
theorem e_g37 : X9_scores_g37 g kind runs bnd i a bo s = incr (X9_scores_g35 g kind runs bnd i a bo s) (841 + 8 * (s - 1) + 1) (X9_scores_x5 kind) := rfl
theorem e_g40 : X9_scores_g40 g kind runs bnd i a bo s = incr (X9_scores_g37 g kind runs bnd i a bo s) (841 + 8 * (s - 1) + X9_scores_n38 g kind runs bnd i a bo s) runs := rfl
theorem e_g44 : X9_scores_g44 g kind runs bnd i a bo s = incr (X9_scores_g41 g kind runs bnd i a bo s) (841 + 8 * (s - 1) + 6) (X9_scores_x42 kind runs) := rfl
end E9
theorem kf_x1_0 {ru : Int32} : X9_scores_x1 0 ru = ru := rfl
theorem kf_x3_0 : X9_scores_x3 0 = 1 := rfl
theorem kf_x5_0 : X9_scores_x5 0 = 1 := rfl
theorem kf_x9_0 {ru : Int32} : X9_scores_x9 0 ru = ru := rfl
theorem kf_x13_0 : X9_scores_x13 0 = 1 := rfl
theorem kf_x16_0 {ru : Int32} : X9_scores_x16 0 ru = ru := rfl
theorem kf_x25_0 {ru : Int32} : X9_scores_x25 0 ru = ru := rfl
theorem kf_x42_0 {ru : Int32} : X9_scores_x42 0 ru = ru - ru := rfl
theorem kf_g12_0 {g : Nat → Int32} {ru : Int32} {i : Nat} : X9_scores_g12 g 0 ru i = X9_scores_g8 g 0 ru i := rfl
theorem kf_g32_0 {g : Nat → Int32} {ru bd : Int32} {i a bo : Nat} : X9_scores_g32 g 0 ru bd i a bo = X9_scores_g29 g 0 ru bd i a bo := rfl
theorem kf_g41_0 {g : Nat → Int32} {ru bd : Int32} {i a bo s : Nat} : X9_scores_g41 g 0 ru bd i a bo s = X9_scores_g40 g 0 ru bd i a bo s := rfl
theorem kf_tr_0 {ru : Int32} : X5_teamRuns_x1 (nI 0) ru = ru := rfl
theorem kf_sr_0 {ru : Int32} : X5_strikerRuns_x1 (nI 0) ru = ru := rfl
theorem kf_br_0 {ru : Int32} : X5_bowlerRuns_r1 (nI 0) ru = ru := rfl
theorem kf_l0_0 : X0_count_x0 (nI 0) = 1 := rfl
theorem kf_l1_0 : X0_countForBowler_x0 (nI 0) = 1 := rfl
theorem kf_l2_0 : X0_countForPartnership_x0 (nI 0) = 1 := rfl
theorem kf_w1_0 : X0_countForBowler_x1 (nI 0) = 0 := rfl
theorem kf_w2_0 : X0_countForBowler_x2 (nI 0) = 0 := rfl
theorem kf_f1_0 : X0_countForStriker_x0 (nI 0) = 1 := rfl
theorem kf_ex_0 {g : Nat → Int32} {ru : Int32} : X0_countExtras_g0 g (nI 0) ru = g := rfl
theorem kf_x1_1 {ru : Int32} : X9_scores_x1 1 ru = ru + 1 := rfl
theorem kf_x3_1 : X9_scores_x3 1 = 0 := rfl
theorem kf_x5_1 : X9_scores_x5 1 = 0 := rfl
theorem kf_x9_1 {ru : Int32} : X9_scores_x9 1 ru = ru + 1 := rfl
theorem kf_x13_1 : X9_scores_x13 1 = 0 := rfl
theorem kf_x16_1 {ru : Int32} : X9_scores_x16 1 ru = 0 := rfl
theorem kf_x25_1 {ru : Int32} : X9_scores_x25 1 ru = ru + 1 := rfl
theorem kf_x42_1 {ru : Int32} : X9_scores_x42 1 ru = ru + 1 := rfl
theorem kf_g12_1 {g : Nat → Int32} {ru : Int32} {i : Nat} : X9_scores_g12 g 1 ru i = X9_scores_g11 g 1 ru i := rfl
theorem kf_g32_1 {g : Nat → Int32} {ru bd : Int32} {i a bo : Nat} : X9_scores_g32 g 1 ru bd i a bo = X9_scores_g31 g 1 ru bd i a bo := rfl
theorem kf_g41_1 {g : Nat → Int32} {ru bd : Int32} {i a bo s : Nat} : X9_scores_g41 g 1 ru bd i a bo s = X9_scores_g37 g 1 ru bd i a bo s := rfl
theorem kf_tr_1 {ru : Int32} : X5_teamRuns_x1 (nI 1) ru = ru + 1 := rfl
theorem kf_sr_1 {ru : Int32} : X5_strikerRuns_x1 (nI 1) ru = 0 := rfl
theorem kf_br_1 {ru : Int32} : X5_bowlerRuns_r1 (nI 1) ru = ru + 1 := rfl
theorem kf_l0_1 : X0_count_x0 (nI 1) = 0 := rfl
theorem kf_l1_1 : X0_countForBowler_x0 (nI 1) = 0 := rfl
theorem kf_l2_1 : X0_countForPartnership_x0 (nI 1) = 0 := rfl
theorem kf_w1_1 : X0_countForBowler_x1 (nI 1) = 1 := rfl
theorem kf_w2_1 : X0_countForBowler_x2 (nI 1) = 0 := rfl
theorem kf_f1_1 : X0_countForStriker_x0 (nI 1) = 0 := rfl
theorem kf_ex_1 {g : Nat → Int32} {ru : Int32} : X0_countExtras_g0 g (nI 1) ru = tinc 8 1 8 g 0 3 (ru + 1) := rfl
theorem kf_x1_2 {ru : Int32} : X9_scores_x1 2 ru = ru + 1 := rfl
theorem kf_x3_2 : X9_scores_x3 2 = 1 := rfl
theorem kf_x5_2 : X9_scores_x5 2 = 0 := rfl
theorem kf_x9_2 {ru : Int32} : X9_scores_x9 2 ru = 1 := rfl
theorem kf_x13_2 : X9_scores_x13 2 = 1 := rfl
theorem kf_x16_2 {ru : Int32} : X9_scores_x16 2 ru = ru := rfl
theorem kf_x25_2 {ru : Int32} : X9_scores_x25 2 ru = ru + 1 := rfl
theorem kf_x42_2 {ru : Int32} : X9_scores_x42 2 ru = ru + 1 - ru := rfl
theorem kf_g12_2 {g : Nat → Int32} {ru : Int32} {i : Nat} : X9_scores_g12 g 2 ru i = X9_scores_g11 g 2 ru i := rfl
theorem kf_g32_2 {g : Nat → Int32} {ru bd : Int32} {i a bo : Nat} : X9_scores_g32 g 2 ru bd i a bo = X9_scores_g31 g 2 ru bd i a bo := rfl
theorem kf_g41_2 {g : Nat → Int32} {ru bd : Int32} {i a bo s : Nat} : X9_scores_g41 g 2 ru bd i a bo s = X9_scores_g40 g 2 ru bd i a bo s := rfl
theorem kf_tr_2 {ru : Int32} : X5_teamRuns_x1 (nI 2) ru = ru + 1 := rfl
theorem kf_sr_2 {ru : Int32} : X5_strikerRuns_x1 (nI 2) ru = ru := rfl
theorem kf_br_2 {ru : Int32} : X5_bowlerRuns_r1 (nI 2) ru = ru + 1 := rfl
theorem kf_l0_2 : X0_count_x0 (nI 2) = 0 := rfl
theorem kf_l1_2 : X0_countForBowler_x0 (nI 2) = 0 := rfl
theorem kf_l2_2 : X0_countForPartnership_x0 (nI 2) = 0 := rfl
theorem kf_w1_2 : X0_countForBowler_x1 (nI 2) = 0 := rfl
theorem kf_w2_2 : X0_countForBowler_x2 (nI 2) = 1 := rfl
theorem kf_f1_2 : X0_countForStriker_x0 (nI 2) = 1 := rfl
theorem kf_ex_2 {g : Nat → Int32} {ru : Int32} : X0_countExtras_g0 g (nI 2) ru = tinc 8 1 8 g 0 4 1 := rfl
theorem kf_x1_3 {ru : Int32} : X9_scores_x1 3 ru = ru := rfl
theorem kf_x3_3 : X9_scores_x3 3 = 0 := rfl
theorem kf_x5_3 : X9_scores_x5 3 = 1 := rfl
theorem kf_x9_3 {ru : Int32} : X9_scores_x9 3 ru = ru := rfl
theorem kf_x13_3 : X9_scores_x13 3 = 1 := rfl
theorem kf_x16_3 {ru : Int32} : X9_scores_x16 3 ru = 0 := rfl
theorem kf_x25_3 {ru : Int32} : X9_scores_x25 3 ru = 0 := rfl
theorem kf_x42_3 {ru : Int32} : X9_scores_x42 3 ru = ru := rfl
theorem kf_g12_3 {g : Nat → Int32} {ru : Int32} {i : Nat} : X9_scores_g12 g 3 ru i = X9_scores_g11 g 3 ru i := rfl
theorem kf_g32_3 {g : Nat → Int32} {ru bd : Int32} {i a bo : Nat} : X9_scores_g32 g 3 ru bd i a bo = X9_scores_g29 g 3 ru bd i a bo := rfl
theorem kf_g41_3 {g : Nat → Int32} {ru bd : Int32} {i a bo s : Nat} : X9_scores_g41 g 3 ru bd i a bo s = X9_scores_g37 g 3 ru bd i a bo s := rfl
theorem kf_tr_3 {ru : Int32} : X5_teamRuns_x1 (nI 3) ru = ru := rfl
theorem kf_sr_3 {ru : Int32} : X5_strikerRuns_x1 (nI 3) ru = 0 := rfl
theorem kf_br_3 {ru : Int32} : X5_bowlerRuns_r1 (nI 3) ru = 0 := rfl
theorem kf_l0_3 : X0_count_x0 (nI 3) = 1 := rfl
theorem kf_l1_3 : X0_countForBowler_x0 (nI 3) = 1 := rfl
theorem kf_l2_3 : X0_countForPartnership_x0 (nI 3) = 1 := rfl
theorem kf_w1_3 : X0_countForBowler_x1 (nI 3) = 0 := rfl
theorem kf_w2_3 : X0_countForBowler_x2 (nI 3) = 0 := rfl
theorem kf_f1_3 : X0_countForStriker_x0 (nI 3) = 1 := rfl
theorem kf_ex_3 {g : Nat → Int32} {ru : Int32} : X0_countExtras_g0 g (nI 3) ru = tinc 8 1 8 g 0 5 ru := rfl
theorem kf_x1_4 {ru : Int32} : X9_scores_x1 4 ru = ru := rfl
theorem kf_x3_4 : X9_scores_x3 4 = 0 := rfl
theorem kf_x5_4 : X9_scores_x5 4 = 1 := rfl
theorem kf_x9_4 {ru : Int32} : X9_scores_x9 4 ru = ru := rfl
theorem kf_x13_4 : X9_scores_x13 4 = 1 := rfl
theorem kf_x16_4 {ru : Int32} : X9_scores_x16 4 ru = 0 := rfl
theorem kf_x25_4 {ru : Int32} : X9_scores_x25 4 ru = 0 := rfl
theorem kf_x42_4 {ru : Int32} : X9_scores_x42 4 ru = ru := rfl
theorem kf_g12_4 {g : Nat → Int32} {ru : Int32} {i : Nat} : X9_scores_g12 g 4 ru i = X9_scores_g11 g 4 ru i := rfl
theorem kf_g32_4 {g : Nat → Int32} {ru bd : Int32} {i a bo : Nat} : X9_scores_g32 g 4 ru bd i a bo = X9_scores_g29 g 4 ru bd i a bo := rfl
theorem kf_g41_4 {g : Nat → Int32} {ru bd : Int32} {i a bo s : Nat} : X9_scores_g41 g 4 ru bd i a bo s = X9_scores_g37 g 4 ru bd i a bo s := rfl
theorem kf_tr_4 {ru : Int32} : X5_teamRuns_x1 (nI 4) ru = ru := rfl
theorem kf_sr_4 {ru : Int32} : X5_strikerRuns_x1 (nI 4) ru = 0 := rfl
theorem kf_br_4 {ru : Int32} : X5_bowlerRuns_r1 (nI 4) ru = 0 := rfl
theorem kf_l0_4 : X0_count_x0 (nI 4) = 1 := rfl
theorem kf_l1_4 : X0_countForBowler_x0 (nI 4) = 1 := rfl
theorem kf_l2_4 : X0_countForPartnership_x0 (nI 4) = 1 := rfl
theorem kf_w1_4 : X0_countForBowler_x1 (nI 4) = 0 := rfl
theorem kf_w2_4 : X0_countForBowler_x2 (nI 4) = 0 := rfl
theorem kf_f1_4 : X0_countForStriker_x0 (nI 4) = 1 := rfl
theorem kf_ex_4 {g : Nat → Int32} {ru : Int32} : X0_countExtras_g0 g (nI 4) ru = tinc 8 1 8 g 0 6 ru := rfl
theorem ti8_0 {g : Nat → Int32} {x : Int32} : tinc 8 1 8 g 0 0 x = incr g 0 x := ti8 0 rfl (by omega)
theorem ti8_1 {g : Nat → Int32} {x : Int32} : tinc 8 1 8 g 0 1 x = incr g 1 x := ti8 1 rfl (by omega)
theorem ti8_2 {g : Nat → Int32} {x : Int32} : tinc 8 1 8 g 0 2 x = incr g 2 x := ti8 2 rfl (by omega)
theorem ti8_3 {g : Nat → Int32} {x : Int32} : tinc 8 1 8 g 0 3 x = incr g 3 x := ti8 3 rfl (by omega)
theorem ti8_4 {g : Nat → Int32} {x : Int32} : tinc 8 1 8 g 0 4 x = incr g 4 x := ti8 4 rfl (by omega)
theorem ti8_5 {g : Nat → Int32} {x : Int32} : tinc 8 1 8 g 0 5 x = incr g 5 x := ti8 5 rfl (by omega)
theorem ti8_6 {g : Nat → Int32} {x : Int32} : tinc 8 1 8 g 0 6 x = incr g 6 x := ti8 6 rfl (by omega)
theorem ti6_0 {g : Nat → Int32} {a : Nat} {x : Int32} (ha : a < 11) : tinc 6 11 66 g (nI a) 0 x = incr g (a * 6 + 0) x := ti6 a 0 rfl ha rfl (by omega)
theorem ti6_1 {g : Nat → Int32} {a : Nat} {x : Int32} (ha : a < 11) : tinc 6 11 66 g (nI a) 1 x = incr g (a * 6 + 1) x := ti6 a 1 rfl ha rfl (by omega)
theorem ti6_2 {g : Nat → Int32} {a : Nat} {x : Int32} (ha : a < 11) : tinc 6 11 66 g (nI a) 2 x = incr g (a * 6 + 2) x := ti6 a 2 rfl ha rfl (by omega)
theorem ti6_3 {g : Nat → Int32} {a : Nat} {x : Int32} (ha : a < 11) : tinc 6 11 66 g (nI a) 3 x = incr g (a * 6 + 3) x := ti6 a 3 rfl ha rfl (by omega)
theorem ti6_4 {g : Nat → Int32} {a : Nat} {x : Int32} (ha : a < 11) : tinc 6 11 66 g (nI a) 4 x = incr g (a * 6 + 4) x := ti6 a 4 rfl ha rfl (by omega)
theorem ti6_5 {g : Nat → Int32} {a : Nat} {x : Int32} (ha : a < 11) : tinc 6 11 66 g (nI a) 5 x = incr g (a * 6 + 5) x := ti6 a 5 rfl ha rfl (by omega)
theorem ti7_0 {g : Nat → Int32} {a : Nat} {x : Int32} (ha : a < 11) : tinc 7 11 77 g (nI a) 0 x = incr g (a * 7 + 0) x := ti7 a 0 rfl ha rfl (by omega)
theorem ti7_1 {g : Nat → Int32} {a : Nat} {x : Int32} (ha : a < 11) : tinc 7 11 77 g (nI a) 1 x = incr g (a * 7 + 1) x := ti7 a 1 rfl ha rfl (by omega)
theorem ti7_2 {g : Nat → Int32} {a : Nat} {x : Int32} (ha : a < 11) : tinc 7 11 77 g (nI a) 2 x = incr g (a * 7 + 2) x := ti7 a 2 rfl ha rfl (by omega)
theorem ti7_3 {g : Nat → Int32} {a : Nat} {x : Int32} (ha : a < 11) : tinc 7 11 77 g (nI a) 3 x = incr g (a * 7 + 3) x := ti7 a 3 rfl ha rfl (by omega)
theorem ti7_4 {g : Nat → Int32} {a : Nat} {x : Int32} (ha : a < 11) : tinc 7 11 77 g (nI a) 4 x = incr g (a * 7 + 4) x := ti7 a 4 rfl ha rfl (by omega)
theorem ti7_5 {g : Nat → Int32} {a : Nat} {x : Int32} (ha : a < 11) : tinc 7 11 77 g (nI a) 5 x = incr g (a * 7 + 5) x := ti7 a 5 rfl ha rfl (by omega)
theorem ti7_6 {g : Nat → Int32} {a : Nat} {x : Int32} (ha : a < 11) : tinc 7 11 77 g (nI a) 6 x = incr g (a * 7 + 6) x := ti7 a 6 rfl ha rfl (by omega)
theorem tiP_0 {g : Nat → Int32} {r : Nat} {x : Int32} (hr : 1 ≤ r) (hr2 : r ≤ 513) : tinc 8 (nI r) 4104 g (nI (r - 1)) 0 x = incr g ((r - 1) * 8 + 0) x := tiP hr hr2 rfl (by omega)
theorem tiP_1 {g : Nat → Int32} {r : Nat} {x : Int32} (hr : 1 ≤ r) (hr2 : r ≤ 513) : tinc 8 (nI r) 4104 g (nI (r - 1)) 1 x = incr g ((r - 1) * 8 + 1) x := tiP hr hr2 rfl (by omega)
theorem tiP_2 {g : Nat → Int32} {r : Nat} {x : Int32} (hr : 1 ≤ r) (hr2 : r ≤ 513) : tinc 8 (nI r) 4104 g (nI (r - 1)) 2 x = incr g ((r - 1) * 8 + 2) x := tiP hr hr2 rfl (by omega)
theorem tiP_3 {g : Nat → Int32} {r : Nat} {x : Int32} (hr : 1 ≤ r) (hr2 : r ≤ 513) : tinc 8 (nI r) 4104 g (nI (r - 1)) 3 x = incr g ((r - 1) * 8 + 3) x := tiP hr hr2 rfl (by omega)
theorem tiP_4 {g : Nat → Int32} {r : Nat} {x : Int32} (hr : 1 ≤ r) (hr2 : r ≤ 513) : tinc 8 (nI r) 4104 g (nI (r - 1)) 4 x = incr g ((r - 1) * 8 + 4) x := tiP hr hr2 rfl (by omega)
theorem tiP_5 {g : Nat → Int32} {r : Nat} {x : Int32} (hr : 1 ≤ r) (hr2 : r ≤ 513) : tinc 8 (nI r) 4104 g (nI (r - 1)) 5 x = incr g ((r - 1) * 8 + 5) x := tiP hr hr2 rfl (by omega)
theorem tiP_6 {g : Nat → Int32} {r : Nat} {x : Int32} (hr : 1 ≤ r) (hr2 : r ≤ 513) : tinc 8 (nI r) 4104 g (nI (r - 1)) 6 x = incr g ((r - 1) * 8 + 6) x := tiP hr hr2 rfl (by omega)
theorem tiP_7 {g : Nat → Int32} {r : Nat} {x : Int32} (hr : 1 ≤ r) (hr2 : r ≤ 513) : tinc 8 (nI r) 4104 g (nI (r - 1)) 7 x = incr g ((r - 1) * 8 + 7) x := tiP hr hr2 rfl (by omega)
theorem i32_ss {x : Int32} : x - x = 0 := Int32.sub_self x
theorem i32_s0 {x : Int32} : x - 0 = x := Int32.sub_zero x
theorem EQ_updO {n k : Nat} {f g : Nat → Int32} {v : Int32} (h : EQ n f g) (hk : n ≤ k) : EQ n f (upd g k v) := fun j hj => by rw [h j hj, upd_off (by omega)]
theorem ktwo (ru : Int32) : X0_countForStriker_n1 ru = X9_scores_n19 ru := rfl
theorem sc_T {c g : Nat → Int32} {kd : Nat} {ru bd : Int32} {i a bo s : Nat} (hi : i < 4) (ha : a < 11) (hbo : bo < 11) (hk : kd < 5) (h : EQ 8 c (Wn (25 + 11 * i) 11 g)) : EQ 8 (X0_count_g4 c (nI kd) ru) (Wn (25 + 11 * i) 11 (X9_scores_g44 g kd ru bd i a bo s)) := by
  have h19 := n19_lt ru
  have h38 := n38_lt (g := g) (kd := kd) (ru := ru) (bd := bd) (i := i) (a := a) (bo := bo) (s := s)
  have h9 : kd = 0 ∨ kd = 1 ∨ kd = 2 ∨ kd = 3 ∨ kd = 4 := by omega
  rcases h9 with rfl | rfl | rfl | rfl | rfl
  · unfold X0_count_g4 X0_count_g1
    simp (disch := omega) only [e_g44, e_g40, e_g37, e_g35, e_g33, e_g31, e_g29, e_g27, e_g24, X9_scores_g22, e_g21, e_g18, e_g15, e_g11, e_g8, e_g7, X9_scores_g6, kf_x1_0, kf_x3_0, kf_x5_0, kf_x9_0, kf_x13_0, kf_x16_0, kf_x25_0, kf_x42_0, kf_g12_0, kf_g32_0, kf_g41_0, kf_tr_0, kf_sr_0, kf_br_0, kf_l0_0, kf_l1_0, kf_l2_0, kf_w1_0, kf_w2_0, kf_f1_0, kf_ex_0, ti8_0, ti8_2, ti8_3, ti8_4, ti8_5, ti8_6, Wn_outI, Wn_ite, Wn_inI, Wn_in, ite_self]
    repeat (first | exact h | refine EQ_incr ?_ (by omega) | refine EQ_updO ?_ (by omega))
  · unfold X0_count_g4 X0_count_g1
    simp (disch := omega) only [e_g44, e_g40, e_g37, e_g35, e_g33, e_g31, e_g29, e_g27, e_g24, X9_scores_g22, e_g21, e_g18, e_g15, e_g11, e_g8, e_g7, X9_scores_g6, kf_x1_1, kf_x3_1, kf_x5_1, kf_x9_1, kf_x13_1, kf_x16_1, kf_x25_1, kf_x42_1, kf_g12_1, kf_g32_1, kf_g41_1, kf_tr_1, kf_sr_1, kf_br_1, kf_l0_1, kf_l1_1, kf_l2_1, kf_w1_1, kf_w2_1, kf_f1_1, kf_ex_1, ti8_0, ti8_2, ti8_3, ti8_4, ti8_5, ti8_6, Wn_outI, Wn_ite, Wn_inI, Wn_in, ite_self]
    repeat (first | exact h | refine EQ_incr ?_ (by omega) | refine EQ_updO ?_ (by omega))
  · unfold X0_count_g4 X0_count_g1
    simp (disch := omega) only [e_g44, e_g40, e_g37, e_g35, e_g33, e_g31, e_g29, e_g27, e_g24, X9_scores_g22, e_g21, e_g18, e_g15, e_g11, e_g8, e_g7, X9_scores_g6, kf_x1_2, kf_x3_2, kf_x5_2, kf_x9_2, kf_x13_2, kf_x16_2, kf_x25_2, kf_x42_2, kf_g12_2, kf_g32_2, kf_g41_2, kf_tr_2, kf_sr_2, kf_br_2, kf_l0_2, kf_l1_2, kf_l2_2, kf_w1_2, kf_w2_2, kf_f1_2, kf_ex_2, ti8_0, ti8_2, ti8_3, ti8_4, ti8_5, ti8_6, Wn_outI, Wn_ite, Wn_inI, Wn_in, ite_self]
    repeat (first | exact h | refine EQ_incr ?_ (by omega) | refine EQ_updO ?_ (by omega))
  · unfold X0_count_g4 X0_count_g1
    simp (disch := omega) only [e_g44, e_g40, e_g37, e_g35, e_g33, e_g31, e_g29, e_g27, e_g24, X9_scores_g22, e_g21, e_g18, e_g15, e_g11, e_g8, e_g7, X9_scores_g6, kf_x1_3, kf_x3_3, kf_x5_3, kf_x9_3, kf_x13_3, kf_x16_3, kf_x25_3, kf_x42_3, kf_g12_3, kf_g32_3, kf_g41_3, kf_tr_3, kf_sr_3, kf_br_3, kf_l0_3, kf_l1_3, kf_l2_3, kf_w1_3, kf_w2_3, kf_f1_3, kf_ex_3, ti8_0, ti8_2, ti8_3, ti8_4, ti8_5, ti8_6, Wn_outI, Wn_ite, Wn_inI, Wn_in, ite_self]
    repeat (first | exact h | refine EQ_incr ?_ (by omega) | refine EQ_updO ?_ (by omega))
  · unfold X0_count_g4 X0_count_g1
    simp (disch := omega) only [e_g44, e_g40, e_g37, e_g35, e_g33, e_g31, e_g29, e_g27, e_g24, X9_scores_g22, e_g21, e_g18, e_g15, e_g11, e_g8, e_g7, X9_scores_g6, kf_x1_4, kf_x3_4, kf_x5_4, kf_x9_4, kf_x13_4, kf_x16_4, kf_x25_4, kf_x42_4, kf_g12_4, kf_g32_4, kf_g41_4, kf_tr_4, kf_sr_4, kf_br_4, kf_l0_4, kf_l1_4, kf_l2_4, kf_w1_4, kf_w2_4, kf_f1_4, kf_ex_4, ti8_0, ti8_2, ti8_3, ti8_4, ti8_5, ti8_6, Wn_outI, Wn_ite, Wn_inI, Wn_in, ite_self]
    repeat (first | exact h | refine EQ_incr ?_ (by omega) | refine EQ_updO ?_ (by omega))
theorem sc_T3 {g : Nat → Int32} {kd : Nat} {ru bd : Int32} {i a bo s : Nat} (hi : i < 4) (ha : a < 11) (hbo : bo < 11) (hk : kd < 5) : X9_scores_g44 g kd ru bd i a bo s (25 + 11 * i + 8) = g (25 + 11 * i + 8) ∧ X9_scores_g44 g kd ru bd i a bo s (25 + 11 * i + 9) = g (25 + 11 * i + 9) ∧ X9_scores_g44 g kd ru bd i a bo s (25 + 11 * i + 10) = 1 := by
  have h19 := n19_lt ru
  have h38 := n38_lt (g := g) (kd := kd) (ru := ru) (bd := bd) (i := i) (a := a) (bo := bo) (s := s)
  have a12 : ∀ p, p = 25 + 11 * i + 8 ∨ p = 25 + 11 * i + 9 ∨ p = 25 + 11 * i + 10 → X9_scores_g12 g kd ru i p = if p = 25 + 11 * i + 10 then 1 else g p := by
    intro p hp
    have a6 : X9_scores_g6 g i p = if p = 25 + 11 * i + 10 then 1 else g p := rfl
    unfold X9_scores_g12
    split
    · rw [X9_scores_g8, upd_off (by omega), X9_scores_g7, upd_off (by omega), a6]
    · rw [X9_scores_g11, upd_off (by omega), X9_scores_g8, upd_off (by omega), X9_scores_g7, upd_off (by omega), a6]
  have a44 : ∀ p, p = 25 + 11 * i + 8 ∨ p = 25 + 11 * i + 9 ∨ p = 25 + 11 * i + 10 → X9_scores_g44 g kd ru bd i a bo s p = if p = 25 + 11 * i + 10 then 1 else g p := by
    intro p hp
    have a22 : X9_scores_g22 g kd ru bd i a p = if p = 25 + 11 * i + 10 then 1 else g p := by
      unfold X9_scores_g22
      split
      · rw [X9_scores_g18, upd_off (by omega), X9_scores_g15, upd_off (by omega), a12 p hp]
      · rw [X9_scores_g21, upd_off (by omega), X9_scores_g18, upd_off (by omega), X9_scores_g15, upd_off (by omega), a12 p hp]
    have a32 : X9_scores_g32 g kd ru bd i a bo p = if p = 25 + 11 * i + 10 then 1 else g p := by
      unfold X9_scores_g32
      split
      · rw [X9_scores_g31, upd_off (by omega), X9_scores_g29, upd_off (by omega), X9_scores_g27, upd_off (by omega), X9_scores_g24, upd_off (by omega), a22]
      · rw [X9_scores_g29, upd_off (by omega), X9_scores_g27, upd_off (by omega), X9_scores_g24, upd_off (by omega), a22]
    have a37 : X9_scores_g37 g kd ru bd i a bo s p = if p = 25 + 11 * i + 10 then 1 else g p := by
      rw [X9_scores_g37, upd_off (by omega), X9_scores_g35, upd_off (by omega), X9_scores_g33, upd_off (by omega), a32]
    rw [X9_scores_g44, upd_off (by omega)]
    unfold X9_scores_g41
    split
    · exact a37
    · rw [X9_scores_g40, upd_off (by omega), a37]
  refine ⟨(a44 _ (by omega)).trans (if_neg (by omega)), (a44 _ (by omega)).trans (if_neg (by omega)), (a44 _ (by omega)).trans (if_pos rfl)⟩
theorem sc_B {c g : Nat → Int32} {kd : Nat} {ru bd : Int32} {i a bo s : Nat} (hi : i < 4) (ha : a < 11) (hbo : bo < 11) (hk : kd < 5) (h : EQ 66 c (Wn (69 + 66 * i) 66 g)) : EQ 66 (X0_count_g6 c (nI a) (nI kd) ru bd) (Wn (69 + 66 * i) 66 (X9_scores_g44 g kd ru bd i a bo s)) := by
  have h19 := n19_lt ru
  have h38 := n38_lt (g := g) (kd := kd) (ru := ru) (bd := bd) (i := i) (a := a) (bo := bo) (s := s)
  have ib : ∀ (x : Nat → Int32), tinc 6 11 66 x (nI a) (nI (X9_scores_n19 ru)) 1 = incr x (a * 6 + X9_scores_n19 ru) 1 := fun x => ti6 a (X9_scores_n19 ru) rfl ha rfl h19
  have h9 : kd = 0 ∨ kd = 1 ∨ kd = 2 ∨ kd = 3 ∨ kd = 4 := by omega
  rcases h9 with rfl | rfl | rfl | rfl | rfl
  · unfold X0_count_g6 X0_countForStriker_g2
    simp (disch := omega) only [e_g44, e_g40, e_g37, e_g35, e_g33, e_g31, e_g29, e_g27, e_g24, X9_scores_g22, e_g21, e_g18, e_g15, e_g11, e_g8, e_g7, X9_scores_g6, kf_x1_0, kf_x3_0, kf_x5_0, kf_x9_0, kf_x13_0, kf_x16_0, kf_x25_0, kf_x42_0, kf_g12_0, kf_g32_0, kf_g41_0, kf_tr_0, kf_sr_0, kf_br_0, kf_l0_0, kf_l1_0, kf_l2_0, kf_w1_0, kf_w2_0, kf_f1_0, kf_ex_0, ktwo, ib, ti6_0, ti6_1, Wn_outI, Wn_out, Wn_ite, W1_inI, ite_self, incr_0]
    rw [incr_comm (g := c) (k := a * 6 + 0) (l := a * 6 + 1) (by omega)]
    by_cases hb : bd = 0
    · simp only [if_pos hb]
      repeat (first | exact h | refine EQ_incr ?_ (by omega))
    · simp only [if_neg hb]
      repeat (first | exact h | refine EQ_incr ?_ (by omega))
  · unfold X0_count_g6 X0_countForStriker_g2
    simp (disch := omega) only [e_g44, e_g40, e_g37, e_g35, e_g33, e_g31, e_g29, e_g27, e_g24, X9_scores_g22, e_g21, e_g18, e_g15, e_g11, e_g8, e_g7, X9_scores_g6, kf_x1_1, kf_x3_1, kf_x5_1, kf_x9_1, kf_x13_1, kf_x16_1, kf_x25_1, kf_x42_1, kf_g12_1, kf_g32_1, kf_g41_1, kf_tr_1, kf_sr_1, kf_br_1, kf_l0_1, kf_l1_1, kf_l2_1, kf_w1_1, kf_w2_1, kf_f1_1, kf_ex_1, ktwo, ib, ti6_0, ti6_1, Wn_outI, Wn_out, Wn_ite, W1_inI, ite_self, incr_0]
    by_cases hb : bd = 0
    · simp only [if_pos hb]
      repeat (first | exact h | refine EQ_incr ?_ (by omega))
    · simp only [if_neg hb]
      repeat (first | exact h | refine EQ_incr ?_ (by omega))
  · unfold X0_count_g6 X0_countForStriker_g2
    simp (disch := omega) only [e_g44, e_g40, e_g37, e_g35, e_g33, e_g31, e_g29, e_g27, e_g24, X9_scores_g22, e_g21, e_g18, e_g15, e_g11, e_g8, e_g7, X9_scores_g6, kf_x1_2, kf_x3_2, kf_x5_2, kf_x9_2, kf_x13_2, kf_x16_2, kf_x25_2, kf_x42_2, kf_g12_2, kf_g32_2, kf_g41_2, kf_tr_2, kf_sr_2, kf_br_2, kf_l0_2, kf_l1_2, kf_l2_2, kf_w1_2, kf_w2_2, kf_f1_2, kf_ex_2, ktwo, ib, ti6_0, ti6_1, Wn_outI, Wn_out, Wn_ite, W1_inI, ite_self, incr_0]
    rw [incr_comm (g := c) (k := a * 6 + 0) (l := a * 6 + 1) (by omega)]
    by_cases hb : bd = 0
    · simp only [if_pos hb]
      repeat (first | exact h | refine EQ_incr ?_ (by omega))
    · simp only [if_neg hb]
      repeat (first | exact h | refine EQ_incr ?_ (by omega))
  · unfold X0_count_g6 X0_countForStriker_g2
    simp (disch := omega) only [e_g44, e_g40, e_g37, e_g35, e_g33, e_g31, e_g29, e_g27, e_g24, X9_scores_g22, e_g21, e_g18, e_g15, e_g11, e_g8, e_g7, X9_scores_g6, kf_x1_3, kf_x3_3, kf_x5_3, kf_x9_3, kf_x13_3, kf_x16_3, kf_x25_3, kf_x42_3, kf_g12_3, kf_g32_3, kf_g41_3, kf_tr_3, kf_sr_3, kf_br_3, kf_l0_3, kf_l1_3, kf_l2_3, kf_w1_3, kf_w2_3, kf_f1_3, kf_ex_3, ktwo, ib, ti6_0, ti6_1, Wn_outI, Wn_out, Wn_ite, W1_inI, ite_self, incr_0]
    by_cases hb : bd = 0
    · simp only [if_pos hb]
      repeat (first | exact h | refine EQ_incr ?_ (by omega))
    · simp only [if_neg hb]
      repeat (first | exact h | refine EQ_incr ?_ (by omega))
  · unfold X0_count_g6 X0_countForStriker_g2
    simp (disch := omega) only [e_g44, e_g40, e_g37, e_g35, e_g33, e_g31, e_g29, e_g27, e_g24, X9_scores_g22, e_g21, e_g18, e_g15, e_g11, e_g8, e_g7, X9_scores_g6, kf_x1_4, kf_x3_4, kf_x5_4, kf_x9_4, kf_x13_4, kf_x16_4, kf_x25_4, kf_x42_4, kf_g12_4, kf_g32_4, kf_g41_4, kf_tr_4, kf_sr_4, kf_br_4, kf_l0_4, kf_l1_4, kf_l2_4, kf_w1_4, kf_w2_4, kf_f1_4, kf_ex_4, ktwo, ib, ti6_0, ti6_1, Wn_outI, Wn_out, Wn_ite, W1_inI, ite_self, incr_0]
    by_cases hb : bd = 0
    · simp only [if_pos hb]
      repeat (first | exact h | refine EQ_incr ?_ (by omega))
    · simp only [if_neg hb]
      repeat (first | exact h | refine EQ_incr ?_ (by omega))
theorem sc_O {c g : Nat → Int32} {kd : Nat} {ru bd : Int32} {i a bo s : Nat} (hi : i < 4) (ha : a < 11) (hbo : bo < 11) (hk : kd < 5) (h : EQ 77 c (Wn (333 + 77 * i) 77 g)) : EQ 77 (X0_count_g5 c (nI bo) (nI kd) ru) (Wn (333 + 77 * i) 77 (X9_scores_g44 g kd ru bd i a bo s)) := by
  have h19 := n19_lt ru
  have h38 := n38_lt (g := g) (kd := kd) (ru := ru) (bd := bd) (i := i) (a := a) (bo := bo) (s := s)
  have h9 : kd = 0 ∨ kd = 1 ∨ kd = 2 ∨ kd = 3 ∨ kd = 4 := by omega
  rcases h9 with rfl | rfl | rfl | rfl | rfl
  · unfold X0_count_g5 X0_countForBowler_g3
    simp (disch := omega) only [e_g44, e_g40, e_g37, e_g35, e_g33, e_g31, e_g29, e_g27, e_g24, X9_scores_g22, e_g21, e_g18, e_g15, e_g11, e_g8, e_g7, X9_scores_g6, kf_x1_0, kf_x3_0, kf_x5_0, kf_x9_0, kf_x13_0, kf_x16_0, kf_x25_0, kf_x42_0, kf_g12_0, kf_g32_0, kf_g41_0, kf_tr_0, kf_sr_0, kf_br_0, kf_l0_0, kf_l1_0, kf_l2_0, kf_w1_0, kf_w2_0, kf_f1_0, kf_ex_0, ti7_0, ti7_1, ti7_4, ti7_5, Wn_outI, Wn_out, Wn_ite, W2_inI, ite_self, incr_0]
    repeat (first | exact h | refine EQ_incr ?_ (by omega))
  · unfold X0_count_g5 X0_countForBowler_g3
    simp (disch := omega) only [e_g44, e_g40, e_g37, e_g35, e_g33, e_g31, e_g29, e_g27, e_g24, X9_scores_g22, e_g21, e_g18, e_g15, e_g11, e_g8, e_g7, X9_scores_g6, kf_x1_1, kf_x3_1, kf_x5_1, kf_x9_1, kf_x13_1, kf_x16_1, kf_x25_1, kf_x42_1, kf_g12_1, kf_g32_1, kf_g41_1, kf_tr_1, kf_sr_1, kf_br_1, kf_l0_1, kf_l1_1, kf_l2_1, kf_w1_1, kf_w2_1, kf_f1_1, kf_ex_1, ti7_0, ti7_1, ti7_4, ti7_5, Wn_outI, Wn_out, Wn_ite, W2_inI, ite_self, incr_0]
    repeat (first | exact h | refine EQ_incr ?_ (by omega))
  · unfold X0_count_g5 X0_countForBowler_g3
    simp (disch := omega) only [e_g44, e_g40, e_g37, e_g35, e_g33, e_g31, e_g29, e_g27, e_g24, X9_scores_g22, e_g21, e_g18, e_g15, e_g11, e_g8, e_g7, X9_scores_g6, kf_x1_2, kf_x3_2, kf_x5_2, kf_x9_2, kf_x13_2, kf_x16_2, kf_x25_2, kf_x42_2, kf_g12_2, kf_g32_2, kf_g41_2, kf_tr_2, kf_sr_2, kf_br_2, kf_l0_2, kf_l1_2, kf_l2_2, kf_w1_2, kf_w2_2, kf_f1_2, kf_ex_2, ti7_0, ti7_1, ti7_4, ti7_5, Wn_outI, Wn_out, Wn_ite, W2_inI, ite_self, incr_0]
    repeat (first | exact h | refine EQ_incr ?_ (by omega))
  · unfold X0_count_g5 X0_countForBowler_g3
    simp (disch := omega) only [e_g44, e_g40, e_g37, e_g35, e_g33, e_g31, e_g29, e_g27, e_g24, X9_scores_g22, e_g21, e_g18, e_g15, e_g11, e_g8, e_g7, X9_scores_g6, kf_x1_3, kf_x3_3, kf_x5_3, kf_x9_3, kf_x13_3, kf_x16_3, kf_x25_3, kf_x42_3, kf_g12_3, kf_g32_3, kf_g41_3, kf_tr_3, kf_sr_3, kf_br_3, kf_l0_3, kf_l1_3, kf_l2_3, kf_w1_3, kf_w2_3, kf_f1_3, kf_ex_3, ti7_0, ti7_1, ti7_4, ti7_5, Wn_outI, Wn_out, Wn_ite, W2_inI, ite_self, incr_0]
    repeat (first | exact h | refine EQ_incr ?_ (by omega))
  · unfold X0_count_g5 X0_countForBowler_g3
    simp (disch := omega) only [e_g44, e_g40, e_g37, e_g35, e_g33, e_g31, e_g29, e_g27, e_g24, X9_scores_g22, e_g21, e_g18, e_g15, e_g11, e_g8, e_g7, X9_scores_g6, kf_x1_4, kf_x3_4, kf_x5_4, kf_x9_4, kf_x13_4, kf_x16_4, kf_x25_4, kf_x42_4, kf_g12_4, kf_g32_4, kf_g41_4, kf_tr_4, kf_sr_4, kf_br_4, kf_l0_4, kf_l1_4, kf_l2_4, kf_w1_4, kf_w2_4, kf_f1_4, kf_ex_4, ti7_0, ti7_1, ti7_4, ti7_5, Wn_outI, Wn_out, Wn_ite, W2_inI, ite_self, incr_0]
    repeat (first | exact h | refine EQ_incr ?_ (by omega))
theorem sc_S {g : Nat → Int32} {kd : Nat} {ru bd : Int32} {i a bo s : Nat} (hi : i < 4) (ha : a < 11) (hbo : bo < 11) (hk : kd < 5) : Wn 0 25 (X9_scores_g44 g kd ru bd i a bo s) = incr (incr (Wn 0 25 g) 11 (X5_bowlerRuns_r1 (nI kd) ru)) 10 (X0_countForBowler_x0 (nI kd)) := by
  have h19 := n19_lt ru
  have h38 := n38_lt (g := g) (kd := kd) (ru := ru) (bd := bd) (i := i) (a := a) (bo := bo) (s := s)
  have h9 : kd = 0 ∨ kd = 1 ∨ kd = 2 ∨ kd = 3 ∨ kd = 4 := by omega
  rcases h9 with rfl | rfl | rfl | rfl | rfl
  · simp (disch := omega) only [e_g44, e_g40, e_g37, e_g35, e_g33, e_g31, e_g29, e_g27, e_g24, X9_scores_g22, e_g21, e_g18, e_g15, e_g11, e_g8, e_g7, X9_scores_g6, kf_x1_0, kf_x3_0, kf_x5_0, kf_x9_0, kf_x13_0, kf_x16_0, kf_x25_0, kf_x42_0, kf_g12_0, kf_g32_0, kf_g41_0, kf_tr_0, kf_sr_0, kf_br_0, kf_l0_0, kf_l1_0, kf_l2_0, kf_w1_0, kf_w2_0, kf_f1_0, kf_ex_0, Wn_outI, Wn_out, Wn_ite, WS_inI, ite_self]
  · simp (disch := omega) only [e_g44, e_g40, e_g37, e_g35, e_g33, e_g31, e_g29, e_g27, e_g24, X9_scores_g22, e_g21, e_g18, e_g15, e_g11, e_g8, e_g7, X9_scores_g6, kf_x1_1, kf_x3_1, kf_x5_1, kf_x9_1, kf_x13_1, kf_x16_1, kf_x25_1, kf_x42_1, kf_g12_1, kf_g32_1, kf_g41_1, kf_tr_1, kf_sr_1, kf_br_1, kf_l0_1, kf_l1_1, kf_l2_1, kf_w1_1, kf_w2_1, kf_f1_1, kf_ex_1, Wn_outI, Wn_out, Wn_ite, WS_inI, ite_self]
  · simp (disch := omega) only [e_g44, e_g40, e_g37, e_g35, e_g33, e_g31, e_g29, e_g27, e_g24, X9_scores_g22, e_g21, e_g18, e_g15, e_g11, e_g8, e_g7, X9_scores_g6, kf_x1_2, kf_x3_2, kf_x5_2, kf_x9_2, kf_x13_2, kf_x16_2, kf_x25_2, kf_x42_2, kf_g12_2, kf_g32_2, kf_g41_2, kf_tr_2, kf_sr_2, kf_br_2, kf_l0_2, kf_l1_2, kf_l2_2, kf_w1_2, kf_w2_2, kf_f1_2, kf_ex_2, Wn_outI, Wn_out, Wn_ite, WS_inI, ite_self]
  · simp (disch := omega) only [e_g44, e_g40, e_g37, e_g35, e_g33, e_g31, e_g29, e_g27, e_g24, X9_scores_g22, e_g21, e_g18, e_g15, e_g11, e_g8, e_g7, X9_scores_g6, kf_x1_3, kf_x3_3, kf_x5_3, kf_x9_3, kf_x13_3, kf_x16_3, kf_x25_3, kf_x42_3, kf_g12_3, kf_g32_3, kf_g41_3, kf_tr_3, kf_sr_3, kf_br_3, kf_l0_3, kf_l1_3, kf_l2_3, kf_w1_3, kf_w2_3, kf_f1_3, kf_ex_3, Wn_outI, Wn_out, Wn_ite, WS_inI, ite_self]
  · simp (disch := omega) only [e_g44, e_g40, e_g37, e_g35, e_g33, e_g31, e_g29, e_g27, e_g24, X9_scores_g22, e_g21, e_g18, e_g15, e_g11, e_g8, e_g7, X9_scores_g6, kf_x1_4, kf_x3_4, kf_x5_4, kf_x9_4, kf_x13_4, kf_x16_4, kf_x25_4, kf_x42_4, kf_g12_4, kf_g32_4, kf_g41_4, kf_tr_4, kf_sr_4, kf_br_4, kf_l0_4, kf_l1_4, kf_l2_4, kf_w1_4, kf_w2_4, kf_f1_4, kf_ex_4, Wn_outI, Wn_out, Wn_ite, WS_inI, ite_self]
theorem sc_n38 {g : Nat → Int32} {kd : Nat} {ru bd : Int32} {i a b bo sb rp : Nat} (hi : i < 4) (ha : a < 11) (hbo : bo < 11) (hk : kd < 5) (hb : b < 11) (hab : a ≠ b) (hr : 1 ≤ rp) (hlow : g (841 + 8 * (sb + rp - 1) + 2) = nI (if a < b then a else b)) : X9_scores_n38 g kd ru bd i a bo (sb + rp) = X0_countForPartnership_n1 (nI a) (nI b) := by
  unfold X9_scores_n38 X0_countForPartnership_n1
  rw [fr_g37 hi ha hbo hk (by omega) (by omega) (by omega) (by omega) (by omega), hlow]
  by_cases h : a < b
  · rw [if_pos h, if_pos rfl, if_neg (fun q => by have := (nI_leI (by omega) (by omega)).mp q; omega)]
  · rw [if_neg h, if_neg (fun q => by have := (nI_eq (by omega) (by omega)).mp q; omega), if_pos ((nI_leI (by omega) (by omega)).mpr (by omega))]
theorem sc_P {c g : Nat → Int32} {kd : Nat} {ru bd : Int32} {i a b bo s sb rp : Nat} (hi : i < 4) (ha : a < 11) (hbo : bo < 11) (hk : kd < 5) (hb : b < 11) (hab : a ≠ b) (hs : s = sb + rp) (hr : 1 ≤ rp) (hr2 : rp ≤ 513) (hlow : c ((rp - 1) * 8 + 2) = nI (if a < b then a else b)) (h : EQ (8 * rp) c (Wn (841 + 8 * sb) (8 * rp) g)) : EQ (8 * rp) (X0_count_g7 rp c (nI a) (nI b) (nI kd) ru) (Wn (841 + 8 * sb) (8 * rp) (X9_scores_g44 g kd ru bd i a bo s)) := by
  have h19 := n19_lt ru
  have h38 := n38_lt (g := g) (kd := kd) (ru := ru) (bd := bd) (i := i) (a := a) (bo := bo) (s := s)
  have hn : X9_scores_n38 g kd ru bd i a bo s = X0_countForPartnership_n1 (nI a) (nI b) := by
    rw [hs]
    refine sc_n38 hi ha hbo hk hb hab hr ?_
    exact (W3_at (g := g) (b := sb) (r := rp) (w := 2) rfl hr (by omega)).trans ((h _ (by omega)).symm.trans hlow)
  have hm : X0_countForPartnership_n1 (nI a) (nI b) < 8 := by rw [← hn]; exact h38
  have ip : ∀ (x : Nat → Int32) (y : Int32), tinc 8 (nI rp) 4104 x (nI (rp - 1)) (nI (X0_countForPartnership_n1 (nI a) (nI b))) y = incr x ((rp - 1) * 8 + X0_countForPartnership_n1 (nI a) (nI b)) y := fun x y => tiP hr hr2 rfl hm
  have h9 : kd = 0 ∨ kd = 1 ∨ kd = 2 ∨ kd = 3 ∨ kd = 4 := by omega
  rcases h9 with rfl | rfl | rfl | rfl | rfl
  · unfold X0_count_g7 X0_countForPartnership_g2
    simp (disch := omega) only [e_g44, e_g40, e_g37, e_g35, e_g33, e_g31, e_g29, e_g27, e_g24, X9_scores_g22, e_g21, e_g18, e_g15, e_g11, e_g8, e_g7, X9_scores_g6, kf_x1_0, kf_x3_0, kf_x5_0, kf_x9_0, kf_x13_0, kf_x16_0, kf_x25_0, kf_x42_0, kf_g12_0, kf_g32_0, kf_g41_0, kf_tr_0, kf_sr_0, kf_br_0, kf_l0_0, kf_l1_0, kf_l2_0, kf_w1_0, kf_w2_0, kf_f1_0, kf_ex_0, hn, ip, tiP_0, tiP_1, tiP_6, Wn_outI, Wn_out, Wn_ite, W3_in0 hs, W3_inI hs, ite_self, incr_0, i32_ss, i32_s0]
    repeat (first | exact h | refine EQ_incr ?_ (by omega))
  · unfold X0_count_g7 X0_countForPartnership_g2
    simp (disch := omega) only [e_g44, e_g40, e_g37, e_g35, e_g33, e_g31, e_g29, e_g27, e_g24, X9_scores_g22, e_g21, e_g18, e_g15, e_g11, e_g8, e_g7, X9_scores_g6, kf_x1_1, kf_x3_1, kf_x5_1, kf_x9_1, kf_x13_1, kf_x16_1, kf_x25_1, kf_x42_1, kf_g12_1, kf_g32_1, kf_g41_1, kf_tr_1, kf_sr_1, kf_br_1, kf_l0_1, kf_l1_1, kf_l2_1, kf_w1_1, kf_w2_1, kf_f1_1, kf_ex_1, hn, ip, tiP_0, tiP_1, tiP_6, Wn_outI, Wn_out, Wn_ite, W3_in0 hs, W3_inI hs, ite_self, incr_0, i32_ss, i32_s0]
    repeat (first | exact h | refine EQ_incr ?_ (by omega))
  · unfold X0_count_g7 X0_countForPartnership_g2
    simp (disch := omega) only [e_g44, e_g40, e_g37, e_g35, e_g33, e_g31, e_g29, e_g27, e_g24, X9_scores_g22, e_g21, e_g18, e_g15, e_g11, e_g8, e_g7, X9_scores_g6, kf_x1_2, kf_x3_2, kf_x5_2, kf_x9_2, kf_x13_2, kf_x16_2, kf_x25_2, kf_x42_2, kf_g12_2, kf_g32_2, kf_g41_2, kf_tr_2, kf_sr_2, kf_br_2, kf_l0_2, kf_l1_2, kf_l2_2, kf_w1_2, kf_w2_2, kf_f1_2, kf_ex_2, hn, ip, tiP_0, tiP_1, tiP_6, Wn_outI, Wn_out, Wn_ite, W3_in0 hs, W3_inI hs, ite_self, incr_0, i32_ss, i32_s0]
    repeat (first | exact h | refine EQ_incr ?_ (by omega))
  · unfold X0_count_g7 X0_countForPartnership_g2
    simp (disch := omega) only [e_g44, e_g40, e_g37, e_g35, e_g33, e_g31, e_g29, e_g27, e_g24, X9_scores_g22, e_g21, e_g18, e_g15, e_g11, e_g8, e_g7, X9_scores_g6, kf_x1_3, kf_x3_3, kf_x5_3, kf_x9_3, kf_x13_3, kf_x16_3, kf_x25_3, kf_x42_3, kf_g12_3, kf_g32_3, kf_g41_3, kf_tr_3, kf_sr_3, kf_br_3, kf_l0_3, kf_l1_3, kf_l2_3, kf_w1_3, kf_w2_3, kf_f1_3, kf_ex_3, hn, ip, tiP_0, tiP_1, tiP_6, Wn_outI, Wn_out, Wn_ite, W3_in0 hs, W3_inI hs, ite_self, incr_0, i32_ss, i32_s0]
    repeat (first | exact h | refine EQ_incr ?_ (by omega))
  · unfold X0_count_g7 X0_countForPartnership_g2
    simp (disch := omega) only [e_g44, e_g40, e_g37, e_g35, e_g33, e_g31, e_g29, e_g27, e_g24, X9_scores_g22, e_g21, e_g18, e_g15, e_g11, e_g8, e_g7, X9_scores_g6, kf_x1_4, kf_x3_4, kf_x5_4, kf_x9_4, kf_x13_4, kf_x16_4, kf_x25_4, kf_x42_4, kf_g12_4, kf_g32_4, kf_g41_4, kf_tr_4, kf_sr_4, kf_br_4, kf_l0_4, kf_l1_4, kf_l2_4, kf_w1_4, kf_w2_4, kf_f1_4, kf_ex_4, hn, ip, tiP_0, tiP_1, tiP_6, Wn_outI, Wn_out, Wn_ite, W3_in0 hs, W3_inI hs, ite_self, incr_0, i32_ss, i32_s0]
    repeat (first | exact h | refine EQ_incr ?_ (by omega))
