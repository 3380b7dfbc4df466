theorem h_mono {l : Launch} {y : MethodName} {cc : ByteArray} {nL : Nat} {ret : Option FieldType} {rm rm2 : Room} {D : va_G} {tys : List (ClassId × FieldType)} {f : Hf} {sz : Nat} {av : List Value} {Qc : Array Value → State → Outcome → State → Prop} {px : String → Hf → Prop}
    (h : hMet l y cc nL ret rm D tys f sz av Qc px) (h1 : rm.frames ≤ rm2.frames) (h2 : rm.cells ≤ rm2.cells) (h3 : rm.slots ≤ rm2.slots) (h4 : rm.locals ≤ rm2.locals) : hMet l y cc nL ret rm2 D tys f sz av Qc px := by
  intro p e ha hc hk s m args below hf happ hP hK
  have happ2 : (headSpec [.code y cc nL ret] rm).appliesLoose y e.platform s = true := by
    simp only [Spec.appliesLoose, hf, headSpec, State.hasRoom, Bool.and_eq_true, decide_eq_true_eq] at happ ⊢
    obtain ⟨⟨a1, a2⟩, a3⟩ := happ
    obtain ⟨⟨⟨⟨b1, b2⟩, b3⟩, b4⟩, b5⟩ := a2
    obtain ⟨c1, c2, c3, c4, c5⟩ := b2
    exact ⟨⟨a1, ⟨⟨⟨⟨decide_eq_true (Nat.le_trans (Nat.add_le_add_right (Nat.add_le_add_left h4 _) _) (of_decide_eq_true b1)), by omega, by omega, by omega, by omega, c5⟩, decide_eq_true (Nat.le_trans (Nat.add_le_add_left h2 _) (of_decide_eq_true b3))⟩, decide_eq_true (Nat.le_trans (Nat.add_le_add_left h3 _) (of_decide_eq_true b4))⟩, b5⟩⟩, a3⟩
  obtain ⟨n, o, q1, q2, q3, q4⟩ := h p e ha hc hk s m args below hf happ2 hP hK
  refine ⟨n, o, q1, q2, q3, ?_⟩
  rcases q4 with ⟨r1, L, ⟨t1, t2, t3⟩, r2⟩ | ⟨q, ho, E, ce, L, t1, t2, t3, t4, t5, t6, t7⟩
  · exact Or.inl ⟨r1, L, ⟨t1, t2, t3.mono (by omega) (by omega)⟩, r2⟩
  · exact Or.inr ⟨q, ho, E, ce, L, t1, t2, t3, t4, t5, t6.mono (by omega) (by omega), t7⟩
/-! what the reference's row says, as numbers -/
def dI (g : Nat → Int32) : Nat := (g 4).toNatClampNeg
def dA (g : Nat → Int32) : Nat := (g 6).toNatClampNeg
def dB (g : Nat → Int32) : Nat := (g 7).toNatClampNeg
def dO (g : Nat → Int32) : Nat := (g 9).toNatClampNeg
def dS (g : Nat → Int32) : Nat := (g 22).toNatClampNeg
def dD (g : Nat → Int32) : Nat := (g 23).toNatClampNeg
def dE (g : Nat → Int32) : Nat := (g 1).toNatClampNeg
def dC (g : Nat → Int32) : Nat := (g (25 + 11 * dI g + 8)).toNatClampNeg
def dW (g : Nat → Int32) : Nat := (g (25 + 11 * dI g + 1)).toNatClampNeg
def dX (g : Nat → Int32) : Nat := (X9_next_r1 g (dI g)).toNatClampNeg
/-- a number of a row is that of a small one -/
def dN (x : Int32) (n : Nat) : Prop := x = nI x.toNatClampNeg ∧ x.toNatClampNeg < n
theorem dN_mk {x : Int32} {n k : Nat} (h : x = nI k) (hk : k < n) (hn : n < 1000000) : dN x n := by
  have e : x.toNatClampNeg = k := by rw [h]; exact nI_c (by omega)
  exact ⟨by rw [e]; exact h, by rw [e]; exact hk⟩
def doesG (what p1 p2 p3 p4 p5 : Int32) (g : Nat → Int32) : Nat → Int32 := if what = 0 then (X9_does0_g7 g (p1.toNatClampNeg) (dD g)) else if what = 1 then (X9_does1_g8 g (p1.toNatClampNeg) p2 p3 (dI g) (dA g) (dO g) (dS g) (dC g) (dE g) (dD g)) else if what = 2 then (if X9_next_r1 g (dI g) = -1 then (X9_does2N_g9 g p1 (p2.toNatClampNeg) p3 p4 p5 (dI g) (dA g) (dB g) (dO g) (dS g) (dC g) (dW g) (dE g) (dD g)) else (X9_does2S_g9 g p1 (p2.toNatClampNeg) p3 p4 p5 (dI g) (dA g) (dB g) (dO g) (dS g) (dC g) (dW g) (dX g) (dE g) (dD g))) else if what = 3 then (if X9_next_r1 g (dI g) = -1 then (X9_does3N_g9 g p1 p2 (dI g) (dA g) (dB g) (dS g) (dE g) (dD g)) else (X9_does3S_g9 g p1 p2 (dI g) (dA g) (dB g) (dS g) (dX g) (dE g) (dD g))) else if what = 4 then (X9_does4_g7 g (p1.toNatClampNeg) (dD g)) else if what = 5 then (X9_does5_g8 g (dI g) (dS g) (dE g) (dD g)) else (X9_does6_g8 g p1 (dI g) (dS g) (dE g) (dD g))
def doesR (what p1 p2 p3 p4 p5 : Int32) (g : Nat → Int32) : Int32 := if what = 0 then (X9_does0_r8 g (p1.toNatClampNeg) (dI g) (dD g)) else if what = 1 then (X9_scores_x1 (p1.toNatClampNeg) p2) else if what = 2 then (if X9_next_r1 g (dI g) = -1 then (X9_fallsN_r11 (dW g)) else (X9_fallsS_r11 (dW g))) else if what = 3 then (if X9_next_r1 g (dI g) = -1 then (-1) else (X9_retiresS_r2 (dX g))) else if what = 4 then (X9_does4_r8 g (dI g) (dD g)) else if what = 5 then (X9_does5_r7 g (dI g) (dD g)) else (X9_does6_r7 g p1 (dI g) (dD g))
def doesD (what p1 p2 p3 p4 p5 : Int32) (gd : Nat → Int32) (d : Nat) : Nat → Int32 := upd (upd (upd (upd (upd (upd gd (6 * d) what) (6 * d + 1) p1) (6 * d + 2) p2) (6 * d + 3) p3) (6 * d + 4) p4) (6 * d + 5) p5
/-- the bounds in which a deed can be done -/
def RUNB (g : Nat → Int32) : Prop := dN (g 4) 4 ∧ dN (g 6) 11 ∧ dN (g 7) 11 ∧ (dN (g 22) 699 ∧ 1 ≤ dS g) ∧ (dN (g 1) 3 ∧ 1 ≤ dE g) ∧ dI g + 1 ≤ 2 * dE g ∧ (dI g + 1 = 2 * dE g → dE g = 2 ∨ ¬ (g 14).toInt64 = 0) ∧ dN (g 23) 4000 ∧ dN (g (25 + 11 * dI g + 8)) 20 ∧ dN (g (25 + 11 * dI g + 1)) 11 ∧ (X9_next_r1 g (dI g) = -1 ∨ dN (X9_next_r1 g (dI g)) 11)
/-- the parameters of a deed -/
def PAR (what p1 p2 : Int32) : Prop := (what = 0 ∧ dN p1 11) ∨ (what = 1 ∧ dN p1 5) ∨ (what = 2 ∧ dN p2 5) ∨ what = 3 ∨ (what = 4 ∧ dN p1 11) ∨ what = 5 ∨ what = 6
def DOK (g : Nat → Int32) (what p1 p2 : Int32) : Prop := RUNB g ∧ PAR what p1 p2 ∧ (what = 1 ∨ what = 2 → dN (g 9) 11) ∧ (what = 6 → dE g = 1)
theorem i32_ne (a b : Int32) (h : a.toInt ≠ b.toInt) : ¬ a = b := fun q => h (by rw [q])
theorem k_X9_doesU {l : Launch} (hfl : l.stackTraces = false) {D : va_G} {cy : Nat → ClassId} {f : Hf} {sz : Nat} {m : Nat} {v : Nat} {im : Nat} {kp : Nat} {pa : Nat} {de : Nat} {ide : Nat} {tx : Nat} {pt : Nat} {so : Nat} {mo : Nat} {wh : Nat} {pf : Nat} {c_th : Int32} {c_re : Int32} {c_un : Int32} {c_hi : Int32} {c_tn : Int32} {c_fa : Int32} {c_rf : Int32} {c_ps : Int32} {c_pl : Int32} {c_to : Int32} (what p1 p2 p3 p4 p5 : Int32) {g gd : Nat → Int32} (h_m : f m = some (.inr (11, [.int c_th, .int c_re, .ref v, .ref im, .ref kp, .ref pa, .ref de, .ref ide, .int c_un, .int c_hi, .ref tx, .int c_tn, .int c_fa, .int c_rf, .ref pt, .int c_ps, .int c_pl, .int c_to, .ref so, .ref mo, .ref wh, .ref pf]))) (h_v : f v = some (.inl (cy 0, 6441, .inl g))) (h_de : f de = some (.inl (cy 0, 24000, .inl gd))) (hok : DOK g what p1 p2) : hMet l yX9_does cX9_does 9 (some .int) { frames := 4, cells := 0, slots := 0, locals := 101 } D (hTy cy) f sz [.ref m, .int what, .int p1, .int p2, .int p3, .int p4, .int p5] (hQi (fun r u => r = doesR what p1 p2 p3 p4 p5 g ∧ u de = some (.inl (cy 0, 24000, .inl (doesD what p1 p2 p3 p4 p5 gd (dD g)))) ∧ u v = some (.inl (cy 0, 6441, .inl (doesG what p1 p2 p3 p4 p5 g))) ∧ hFrL f u [de, v]) D f sz) hNo := by
  obtain ⟨⟨⟨h4, hi⟩, ⟨h6, ha⟩, ⟨h7, hb2⟩, ⟨⟨h22, hs⟩, hs1⟩, ⟨⟨h1, he2⟩, he1⟩, hie, hrr, ⟨h23, hd⟩, ⟨hcm, hc⟩, ⟨hwk, hwk1⟩, hn⟩, hpar, h9w, h6w⟩ := hok
  have he : dE g = 1 ∨ dE g = 2 := by unfold dE at he1 ⊢; omega
  rcases hpar with ⟨rfl, hq1, hq2⟩ | ⟨rfl, hq1, hq2⟩ | ⟨rfl, hq1, hq2⟩ | rfl | ⟨rfl, hq1, hq2⟩ | rfl | rfl
  · have K := h_mono (rm2 := { frames := 4, cells := 0, slots := 0, locals := 101 }) (k_X9_does0 hfl (D := D) (sz := sz) (p1 := (p1.toNatClampNeg)) (i := (dI g)) (d := (dD g)) p2 p3 p4 p5 h_m h_v h_de h4 hi h23 hd hq2) (Nat.le_of_ble_eq_true rfl) (Nat.le_of_ble_eq_true rfl) (Nat.le_of_ble_eq_true rfl) (Nat.le_of_ble_eq_true rfl)
    rw [show doesR 0 p1 p2 p3 p4 p5 g = (X9_does0_r8 g (p1.toNatClampNeg) (dI g) (dD g)) from (by unfold doesR; rw [if_pos (show (0 : Int32) = 0 from rfl)]), show doesG 0 p1 p2 p3 p4 p5 g = (X9_does0_g7 g (p1.toNatClampNeg) (dD g)) from (by unfold doesG; rw [if_pos (show (0 : Int32) = 0 from rfl)])]
    have eD : (X9_does0_g5 (p1.toNatClampNeg) p2 p3 p4 p5 gd (dD g)) = doesD 0 p1 p2 p3 p4 p5 gd (dD g) := by
      unfold X9_does0_g5 X9_does0_g4 X9_does0_g3 X9_does0_g2 X9_does0_g1 X9_does0_g0 doesD
      rw [← hq1]
    rw [eD] at K
    rw [← hq1] at K
    exact K
  · obtain ⟨h9, hbo⟩ := h9w (Or.inl rfl)
    have K := h_mono (rm2 := { frames := 4, cells := 0, slots := 0, locals := 101 }) (k_X9_does1 hfl (D := D) (sz := sz) (p1 := (p1.toNatClampNeg)) (i := (dI g)) (a := (dA g)) (bo := (dO g)) (s := (dS g)) (cm := (dC g)) (e := (dE g)) (d := (dD g)) p2 p3 p4 p5 h_m h_v h_de h4 hi h6 ha h9 hbo h22 hs1 hs hcm hc h1 he hie hrr h23 hd hq2) (Nat.le_of_ble_eq_true rfl) (Nat.le_of_ble_eq_true rfl) (Nat.le_of_ble_eq_true rfl) (Nat.le_of_ble_eq_true rfl)
    rw [show doesR 1 p1 p2 p3 p4 p5 g = (X9_scores_x1 (p1.toNatClampNeg) p2) from (by unfold doesR; rw [if_neg (show ¬ (1 : Int32) = 0 by decide), if_pos (show (1 : Int32) = 1 from rfl)]), show doesG 1 p1 p2 p3 p4 p5 g = (X9_does1_g8 g (p1.toNatClampNeg) p2 p3 (dI g) (dA g) (dO g) (dS g) (dC g) (dE g) (dD g)) from (by unfold doesG; rw [if_neg (show ¬ (1 : Int32) = 0 by decide), if_pos (show (1 : Int32) = 1 from rfl)])]
    have eD : (X9_does1_g5 (p1.toNatClampNeg) p2 p3 p4 p5 gd (dD g)) = doesD 1 p1 p2 p3 p4 p5 gd (dD g) := by
      unfold X9_does1_g5 X9_does1_g4 X9_does1_g3 X9_does1_g2 X9_does1_g1 X9_does1_g0 doesD
      rw [← hq1]
    rw [eD] at K
    rw [← hq1] at K
    exact K
  · obtain ⟨h9, hbo⟩ := h9w (Or.inr rfl)
    rcases hn with hn | ⟨hn, hnx⟩
    · have K := h_mono (rm2 := { frames := 4, cells := 0, slots := 0, locals := 101 }) (k_X9_does2N hfl (D := D) (sz := sz) (p2 := (p2.toNatClampNeg)) (i := (dI g)) (a := (dA g)) (b2 := (dB g)) (bo := (dO g)) (s := (dS g)) (cm := (dC g)) (wk := (dW g)) (e := (dE g)) (d := (dD g)) p1 p3 p4 p5 h_m h_v h_de h4 hi h6 ha h7 hb2 h9 hbo h22 hs1 hs hcm hc hwk hwk1 h1 he hie hrr hn h23 hd hq2) (Nat.le_of_ble_eq_true rfl) (Nat.le_of_ble_eq_true rfl) (Nat.le_of_ble_eq_true rfl) (Nat.le_of_ble_eq_true rfl)
      rw [show doesR 2 p1 p2 p3 p4 p5 g = (X9_fallsN_r11 (dW g)) from (by unfold doesR; rw [if_neg (show ¬ (2 : Int32) = 0 by decide), if_neg (show ¬ (2 : Int32) = 1 by decide), if_pos (show (2 : Int32) = 2 from rfl), if_pos hn]), show doesG 2 p1 p2 p3 p4 p5 g = (X9_does2N_g9 g p1 (p2.toNatClampNeg) p3 p4 p5 (dI g) (dA g) (dB g) (dO g) (dS g) (dC g) (dW g) (dE g) (dD g)) from (by unfold doesG; rw [if_neg (show ¬ (2 : Int32) = 0 by decide), if_neg (show ¬ (2 : Int32) = 1 by decide), if_pos (show (2 : Int32) = 2 from rfl), if_pos hn])]
      have eD : (X9_does2N_g5 p1 (p2.toNatClampNeg) p3 p4 p5 gd (dD g)) = doesD 2 p1 p2 p3 p4 p5 gd (dD g) := by
        unfold X9_does2N_g5 X9_does2N_g4 X9_does2N_g3 X9_does2N_g2 X9_does2N_g1 X9_does2N_g0 doesD
        rw [← hq1]
      rw [eD] at K
      rw [← hq1] at K
      exact K
    · have hn1 : ¬ X9_next_r1 g (dI g) = -1 := (by rw [hn]; exact fun q => by have := congrArg Int32.toInt q; rw [nI_toInt (by omega)] at this; have h9 : (-1 : Int32).toInt = -1 := (by decide); omega)
      have K := h_mono (rm2 := { frames := 4, cells := 0, slots := 0, locals := 101 }) (k_X9_does2S hfl (D := D) (sz := sz) (p2 := (p2.toNatClampNeg)) (i := (dI g)) (a := (dA g)) (b2 := (dB g)) (bo := (dO g)) (s := (dS g)) (cm := (dC g)) (wk := (dW g)) (nx := (dX g)) (e := (dE g)) (d := (dD g)) p1 p3 p4 p5 h_m h_v h_de h4 hi h6 ha h7 hb2 h9 hbo h22 hs1 hs hcm hc hwk hwk1 h1 he hie hrr hn hnx h23 hd hq2) (Nat.le_of_ble_eq_true rfl) (Nat.le_of_ble_eq_true rfl) (Nat.le_of_ble_eq_true rfl) (Nat.le_of_ble_eq_true rfl)
      rw [show doesR 2 p1 p2 p3 p4 p5 g = (X9_fallsS_r11 (dW g)) from (by unfold doesR; rw [if_neg (show ¬ (2 : Int32) = 0 by decide), if_neg (show ¬ (2 : Int32) = 1 by decide), if_pos (show (2 : Int32) = 2 from rfl), if_neg hn1]), show doesG 2 p1 p2 p3 p4 p5 g = (X9_does2S_g9 g p1 (p2.toNatClampNeg) p3 p4 p5 (dI g) (dA g) (dB g) (dO g) (dS g) (dC g) (dW g) (dX g) (dE g) (dD g)) from (by unfold doesG; rw [if_neg (show ¬ (2 : Int32) = 0 by decide), if_neg (show ¬ (2 : Int32) = 1 by decide), if_pos (show (2 : Int32) = 2 from rfl), if_neg hn1])]
      have eD : (X9_does2S_g5 p1 (p2.toNatClampNeg) p3 p4 p5 gd (dD g)) = doesD 2 p1 p2 p3 p4 p5 gd (dD g) := by
        unfold X9_does2S_g5 X9_does2S_g4 X9_does2S_g3 X9_does2S_g2 X9_does2S_g1 X9_does2S_g0 doesD
        rw [← hq1]
      rw [eD] at K
      rw [← hq1] at K
      exact K
  · rcases hn with hn | ⟨hn, hnx⟩
    · have K := h_mono (rm2 := { frames := 4, cells := 0, slots := 0, locals := 101 }) (k_X9_does3N hfl (D := D) (sz := sz) (i := (dI g)) (a := (dA g)) (b2 := (dB g)) (s := (dS g)) (e := (dE g)) (d := (dD g)) p1 p2 p3 p4 p5 h_m h_v h_de h4 hi h6 ha h7 hb2 h22 hs1 hs h1 he hie hrr hn h23 hd) (Nat.le_of_ble_eq_true rfl) (Nat.le_of_ble_eq_true rfl) (Nat.le_of_ble_eq_true rfl) (Nat.le_of_ble_eq_true rfl)
      rw [show doesR 3 p1 p2 p3 p4 p5 g = (-1) from (by unfold doesR; rw [if_neg (show ¬ (3 : Int32) = 0 by decide), if_neg (show ¬ (3 : Int32) = 1 by decide), if_neg (show ¬ (3 : Int32) = 2 by decide), if_pos (show (3 : Int32) = 3 from rfl), if_pos hn]), show doesG 3 p1 p2 p3 p4 p5 g = (X9_does3N_g9 g p1 p2 (dI g) (dA g) (dB g) (dS g) (dE g) (dD g)) from (by unfold doesG; rw [if_neg (show ¬ (3 : Int32) = 0 by decide), if_neg (show ¬ (3 : Int32) = 1 by decide), if_neg (show ¬ (3 : Int32) = 2 by decide), if_pos (show (3 : Int32) = 3 from rfl), if_pos hn])]
      have eD : (X9_does3N_g5 p1 p2 p3 p4 p5 gd (dD g)) = doesD 3 p1 p2 p3 p4 p5 gd (dD g) := by
        unfold X9_does3N_g5 X9_does3N_g4 X9_does3N_g3 X9_does3N_g2 X9_does3N_g1 X9_does3N_g0 doesD
        try rfl
      rw [eD] at K
      exact K
    · have hn1 : ¬ X9_next_r1 g (dI g) = -1 := (by rw [hn]; exact fun q => by have := congrArg Int32.toInt q; rw [nI_toInt (by omega)] at this; have h9 : (-1 : Int32).toInt = -1 := (by decide); omega)
      have K := h_mono (rm2 := { frames := 4, cells := 0, slots := 0, locals := 101 }) (k_X9_does3S hfl (D := D) (sz := sz) (i := (dI g)) (a := (dA g)) (b2 := (dB g)) (s := (dS g)) (nx := (dX g)) (e := (dE g)) (d := (dD g)) p1 p2 p3 p4 p5 h_m h_v h_de h4 hi h6 ha h7 hb2 h22 hs1 hs h1 he hie hrr hn hnx h23 hd) (Nat.le_of_ble_eq_true rfl) (Nat.le_of_ble_eq_true rfl) (Nat.le_of_ble_eq_true rfl) (Nat.le_of_ble_eq_true rfl)
      rw [show doesR 3 p1 p2 p3 p4 p5 g = (X9_retiresS_r2 (dX g)) from (by unfold doesR; rw [if_neg (show ¬ (3 : Int32) = 0 by decide), if_neg (show ¬ (3 : Int32) = 1 by decide), if_neg (show ¬ (3 : Int32) = 2 by decide), if_pos (show (3 : Int32) = 3 from rfl), if_neg hn1]), show doesG 3 p1 p2 p3 p4 p5 g = (X9_does3S_g9 g p1 p2 (dI g) (dA g) (dB g) (dS g) (dX g) (dE g) (dD g)) from (by unfold doesG; rw [if_neg (show ¬ (3 : Int32) = 0 by decide), if_neg (show ¬ (3 : Int32) = 1 by decide), if_neg (show ¬ (3 : Int32) = 2 by decide), if_pos (show (3 : Int32) = 3 from rfl), if_neg hn1])]
      have eD : (X9_does3S_g5 p1 p2 p3 p4 p5 gd (dD g)) = doesD 3 p1 p2 p3 p4 p5 gd (dD g) := by
        unfold X9_does3S_g5 X9_does3S_g4 X9_does3S_g3 X9_does3S_g2 X9_does3S_g1 X9_does3S_g0 doesD
        try rfl
      rw [eD] at K
      exact K
  · have K := h_mono (rm2 := { frames := 4, cells := 0, slots := 0, locals := 101 }) (k_X9_does4 hfl (D := D) (sz := sz) (p1 := (p1.toNatClampNeg)) (i := (dI g)) (d := (dD g)) p2 p3 p4 p5 h_m h_v h_de h4 hi h23 hd hq2) (Nat.le_of_ble_eq_true rfl) (Nat.le_of_ble_eq_true rfl) (Nat.le_of_ble_eq_true rfl) (Nat.le_of_ble_eq_true rfl)
    rw [show doesR 4 p1 p2 p3 p4 p5 g = (X9_does4_r8 g (dI g) (dD g)) from (by unfold doesR; rw [if_neg (show ¬ (4 : Int32) = 0 by decide), if_neg (show ¬ (4 : Int32) = 1 by decide), if_neg (show ¬ (4 : Int32) = 2 by decide), if_neg (show ¬ (4 : Int32) = 3 by decide), if_pos (show (4 : Int32) = 4 from rfl)]), show doesG 4 p1 p2 p3 p4 p5 g = (X9_does4_g7 g (p1.toNatClampNeg) (dD g)) from (by unfold doesG; rw [if_neg (show ¬ (4 : Int32) = 0 by decide), if_neg (show ¬ (4 : Int32) = 1 by decide), if_neg (show ¬ (4 : Int32) = 2 by decide), if_neg (show ¬ (4 : Int32) = 3 by decide), if_pos (show (4 : Int32) = 4 from rfl)])]
    have eD : (X9_does4_g5 (p1.toNatClampNeg) p2 p3 p4 p5 gd (dD g)) = doesD 4 p1 p2 p3 p4 p5 gd (dD g) := by
      unfold X9_does4_g5 X9_does4_g4 X9_does4_g3 X9_does4_g2 X9_does4_g1 X9_does4_g0 doesD
      rw [← hq1]
    rw [eD] at K
    rw [← hq1] at K
    exact K
  · have K := h_mono (rm2 := { frames := 4, cells := 0, slots := 0, locals := 101 }) (k_X9_does5 hfl (D := D) (sz := sz) (i := (dI g)) (s := (dS g)) (e := (dE g)) (d := (dD g)) p1 p2 p3 p4 p5 h_m h_v h_de h4 hi h22 hs1 hs h1 he hie hrr h23 hd) (Nat.le_of_ble_eq_true rfl) (Nat.le_of_ble_eq_true rfl) (Nat.le_of_ble_eq_true rfl) (Nat.le_of_ble_eq_true rfl)
    rw [show doesR 5 p1 p2 p3 p4 p5 g = (X9_does5_r7 g (dI g) (dD g)) from (by unfold doesR; rw [if_neg (show ¬ (5 : Int32) = 0 by decide), if_neg (show ¬ (5 : Int32) = 1 by decide), if_neg (show ¬ (5 : Int32) = 2 by decide), if_neg (show ¬ (5 : Int32) = 3 by decide), if_neg (show ¬ (5 : Int32) = 4 by decide), if_pos (show (5 : Int32) = 5 from rfl)]), show doesG 5 p1 p2 p3 p4 p5 g = (X9_does5_g8 g (dI g) (dS g) (dE g) (dD g)) from (by unfold doesG; rw [if_neg (show ¬ (5 : Int32) = 0 by decide), if_neg (show ¬ (5 : Int32) = 1 by decide), if_neg (show ¬ (5 : Int32) = 2 by decide), if_neg (show ¬ (5 : Int32) = 3 by decide), if_neg (show ¬ (5 : Int32) = 4 by decide), if_pos (show (5 : Int32) = 5 from rfl)])]
    have eD : (X9_does5_g5 p1 p2 p3 p4 p5 gd (dD g)) = doesD 5 p1 p2 p3 p4 p5 gd (dD g) := by
      unfold X9_does5_g5 X9_does5_g4 X9_does5_g3 X9_does5_g2 X9_does5_g1 X9_does5_g0 doesD
      try rfl
    rw [eD] at K
    exact K
  · have K := h_mono (rm2 := { frames := 4, cells := 0, slots := 0, locals := 101 }) (k_X9_does6 hfl (D := D) (sz := sz) (i := (dI g)) (s := (dS g)) (e := (dE g)) (d := (dD g)) p1 p2 p3 p4 p5 h_m h_v h_de h4 hi h22 hs1 hs h1 he (h6w rfl) hie hrr h23 hd) (Nat.le_of_ble_eq_true rfl) (Nat.le_of_ble_eq_true rfl) (Nat.le_of_ble_eq_true rfl) (Nat.le_of_ble_eq_true rfl)
    rw [show doesR 6 p1 p2 p3 p4 p5 g = (X9_does6_r7 g p1 (dI g) (dD g)) from (by unfold doesR; rw [if_neg (show ¬ (6 : Int32) = 0 by decide), if_neg (show ¬ (6 : Int32) = 1 by decide), if_neg (show ¬ (6 : Int32) = 2 by decide), if_neg (show ¬ (6 : Int32) = 3 by decide), if_neg (show ¬ (6 : Int32) = 4 by decide), if_neg (show ¬ (6 : Int32) = 5 by decide)]), show doesG 6 p1 p2 p3 p4 p5 g = (X9_does6_g8 g p1 (dI g) (dS g) (dE g) (dD g)) from (by unfold doesG; rw [if_neg (show ¬ (6 : Int32) = 0 by decide), if_neg (show ¬ (6 : Int32) = 1 by decide), if_neg (show ¬ (6 : Int32) = 2 by decide), if_neg (show ¬ (6 : Int32) = 3 by decide), if_neg (show ¬ (6 : Int32) = 4 by decide), if_neg (show ¬ (6 : Int32) = 5 by decide)])]
    have eD : (X9_does6_g5 p1 p2 p3 p4 p5 gd (dD g)) = doesD 6 p1 p2 p3 p4 p5 gd (dD g) := by
      unfold X9_does6_g5 X9_does6_g4 X9_does6_g3 X9_does6_g2 X9_does6_g1 X9_does6_g0 doesD
      try rfl
    rw [eD] at K
    exact K
