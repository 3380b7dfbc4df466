/-! A TEXT, both readings -/
def CHR (tl : Nat) (gb gx : Nat → Int32) : Prop := tl ≤ 60 ∧ ∀ j, j < tl → (∃ c, c < 95 ∧ gb j = nI (32 + c)) ∧ gx j = gb j
def sgn (tl : Nat) (gb : Nat → Int32) (p : Nat) : Int32 := X7_sign_x1 tl p gb
theorem sg_in {tl p : Nat} {gb : Nat → Int32} (h : p < tl) (ht : tl ≤ 60) : X7_sign_x1 tl p gb = gb p := by
  have n1 : ¬ nI tl ≤ nI p := fun q => by have := (nI_leI (by omega) (by omega)).mp q; omega
  have n2 : ¬ (60 : Int32) ≤ nI p := fun q => by have := (nI_leI (a := 60) (by omega) (by omega)).mp q; omega
  unfold X7_sign_x1 X7_sign_x0
  rw [if_neg n1, if_neg n2]
theorem sg_out {tl p : Nat} {gb : Nat → Int32} (h : tl ≤ p) (hp : p < 1000) : X7_sign_x1 tl p gb = 0 := by
  unfold X7_sign_x1
  rw [if_pos ((nI_leI (by omega) (by omega)).mpr h)]
theorem he_in {tl p : Nat} {gx : Nat → Int32} (h : p < tl) (ht : tl ≤ 60) : X9_here_x0 gx tl p = gx p := by
  have n1 : ¬ nI tl ≤ nI p := fun q => by have := (nI_leI (by omega) (by omega)).mp q; omega
  unfold X9_here_x0
  rw [if_neg n1]
theorem he_out {tl p : Nat} {gx : Nat → Int32} (h : tl ≤ p) (hp : p < 1000) : X9_here_x0 gx tl p = -1 := by
  unfold X9_here_x0
  rw [if_pos ((nI_leI (by omega) (by omega)).mpr h)]
def okE (tl : Nat) (gb : Nat → Int32) (p : Nat) : Bool := tOK (X7_sign_x1 tl p gb) (X7_sign_x1 tl (p + 1) gb)
/-- one element, at a place inside the text -/
theorem loc {tl p : Nat} {gb gx : Nat → Int32} (h : CHR tl gb gx) (hp : p < tl) : X9_here_x0 gx tl p = X7_sign_x1 tl p gb ∧ chk (X7_sign_x1 tl p gb) (X7_sign_x1 tl (p + 1) gb) (X9_here_x0 gx tl (p + 1)) = true := by
  obtain ⟨ht, hc⟩ := h
  obtain ⟨⟨c, c1, c2⟩, c3⟩ := hc p hp
  refine ⟨by rw [he_in hp ht, sg_in hp ht, c3], ?_⟩
  rw [sg_in hp ht, c2]
  rcases Nat.lt_or_ge (p + 1) tl with q | q
  · obtain ⟨⟨d, d1, d2⟩, d3⟩ := hc (p + 1) q
    rw [sg_in q ht, he_in q ht, d3, d2]
    exact chk_in c c1 d d1
  · rw [sg_out q (by omega), he_out q (by omega)]
    exact chk_end c c1
theorem okb_OKS {S : Nat → Int32} (h : okb S = true) : OKS S := by
  have K : ∀ x : Int32, ∀ n : Nat, n < 1000 → 0 ≤ x → x ≤ nI n → ∃ k, k ≤ n ∧ x = nI k := by
    intro x n hn h0 h1
    obtain ⟨j, j1, j2, -⟩ := pk_mu (x := x) (L := n + 1) (Int32.not_lt.mpr h0) (fun q => by
      have q2 := Int32.le_trans q h1
      have := (nI_leI (a := n + 1) (b := n) (by omega) (by omega)).mp q2
      omega) (by omega)
    exact ⟨j, by omega, j2⟩
  unfold okb at h
  simp only [Bool.or_eq_true, Bool.and_eq_true, decide_eq_true_eq] at h
  rcases h with (⟨⟨a1, a2⟩, a3⟩ | ⟨⟨⟨⟨⟨a1, a2⟩, a3⟩, a4⟩, a5⟩, a6⟩) | ⟨⟨⟨⟨⟨⟨⟨a1, a2⟩, a3⟩, a4⟩, a5⟩, a6⟩, a7⟩, a8⟩
  · obtain ⟨p, p1, p2⟩ := K _ 10 (by omega) a2 a3
    exact Or.inl ⟨p, a1, by omega, p2⟩
  · obtain ⟨k, k1, k2⟩ := K _ 4 (by omega) a2 a3
    obtain ⟨r, r1, r2⟩ := K _ 6 (by omega) a4 a5
    exact Or.inr (Or.inl ⟨k, r, a1, by omega, r1, k2, r2, a6⟩)
  · obtain ⟨w, w1, w2⟩ := K _ 5 (by omega) a2 a3
    exact Or.inr (Or.inr (Or.inl ⟨w, 0, 0, a1, by omega, by omega, by omega, w2, a4, a5, Or.inl a6, a7, Or.inl a8⟩))
/-- what the check of an element says -/
theorem loc_ok {tl p : Nat} {gb gx : Nat → Int32} (h : CHR tl gb gx) (hp : p < tl) (hk : okE tl gb p = true) : (X9_isElement_r11 gx tl p = 1 ∧ (X9_isElement_x12 gx tl p).toNatClampNeg = p + (if psB tl gb p = 0 then 1 else 2)) ∧ OKS (psW tl gb p) ∧ (codW (psW tl gb p) = rE (X9_here_x0 gx tl p) (X9_here_x0 gx tl (p + 1)) 0 ∧ cod1 (psW tl gb p) = rE (X9_here_x0 gx tl p) (X9_here_x0 gx tl (p + 1)) 1 ∧ cod2 (psW tl gb p) = rE (X9_here_x0 gx tl p) (X9_here_x0 gx tl (p + 1)) 2 ∧ cod3 (psW tl gb p) = rE (X9_here_x0 gx tl p) (X9_here_x0 gx tl (p + 1)) 3 ∧ cod4 (psW tl gb p) = 0 ∧ cod5 (psW tl gb p) = 0) := by
  obtain ⟨l1, l2⟩ := loc h hp
  have ht := h.1
  unfold okE at hk
  unfold chk at l2
  rw [if_pos hk] at l2
  simp only [Bool.and_eq_true, decide_eq_true_eq] at l2
  obtain ⟨⟨⟨⟨⟨⟨⟨⟨a1, a2⟩, a3⟩, a4⟩, a5⟩, a6⟩, a7⟩, a8⟩, a9⟩ := l2
  refine ⟨⟨?_, ?_⟩, ?_, ?_⟩
  · rw [rR_e, l1]; exact a1
  · rw [rN_e, l1, ← a2]
    have hb : psB tl gb p = tB (X7_sign_x1 tl p gb) (X7_sign_x1 tl (p + 1) gb) := rfl
    rw [hb]
    exact nI_c (by split <;> omega)
  · rw [psW_t]; exact okb_OKS a3
  · rw [psW_t, l1]; exact ⟨a4, a5, a6, a7, a8, a9⟩
theorem loc_no {tl p : Nat} {gb gx : Nat → Int32} (h : CHR tl gb gx) (hp : p < tl) (hk : ¬ okE tl gb p = true) : X9_isElement_r11 gx tl p = 0 ∧ (X9_isElement_x12 gx tl p).toNatClampNeg = p + (if X7_isFirst_r2 (X7_sign_x1 tl p gb) = 0 then 0 else 1) ∧ (X7_isFirst_r2 (X7_sign_x1 tl p gb) = 0 ∨ (¬ X7_isFirst_r2 (X7_sign_x1 tl p gb) = 0 ∧ psB tl gb p = 0 ∧ ¬ X7_needsSecond_x2 (X7_sign_x1 tl p gb) = 0)) := by
  obtain ⟨l1, l2⟩ := loc h hp
  have ht := h.1
  unfold okE at hk
  unfold chk at l2
  rw [if_neg hk] at l2
  simp only [Bool.and_eq_true, decide_eq_true_eq, Bool.or_eq_true, Bool.not_eq_true', decide_eq_false_iff_not] at l2
  obtain ⟨⟨a1, a2⟩, a3⟩ := l2
  refine ⟨by rw [rR_e, l1]; exact a1, ?_, ?_⟩
  · rw [rN_e, l1, ← a2]
    exact nI_c (by split <;> omega)
  · by_cases q : X7_isFirst_r2 (X7_sign_x1 tl p gb) = 0
    · exact Or.inl q
    · exact Or.inr ⟨q, (a3.resolve_left q).1, (a3.resolve_left q).2⟩
theorem okE_use {tl p : Nat} {gb : Nat → Int32} (hk : okE tl gb p = true) : ¬ X7_isFirst_r2 (X7_sign_x1 tl p gb) = 0 ∧ (psB tl gb p = 0 → X7_needsSecond_x2 (X7_sign_x1 tl p gb) = 0) := by
  unfold okE tOK at hk
  simp only [Bool.and_eq_true, Bool.or_eq_true, Bool.not_eq_true', decide_eq_false_iff_not, decide_eq_true_eq] at hk
  refine ⟨hk.1, fun q => ?_⟩
  rcases hk.2 with z | z
  · exact absurd q z
  · exact z
/-- how far a text goes -/
def PAR1 (tl : Nat) (gb : Nat → Int32) (N : Nat) : Prop := N ≤ 60 ∧ (∀ j, j < N → psP tl gb j < tl ∧ okE tl gb (psP tl gb j) = true) ∧ (tl ≤ psP tl gb N ∨ (psP tl gb N < tl ∧ ¬ okE tl gb (psP tl gb N) = true))
theorem psP_ge {tl : Nat} {gb : Nat → Int32} : ∀ j, j ≤ psP tl gb j := by
  intro j
  induction j with
  | zero => exact Nat.zero_le _
  | succ j ih =>
    rw [psP_s]
    split <;> omega
theorem par_ex (tl : Nat) (gb : Nat → Int32) (ht : tl ≤ 60) : ∃ N, PAR1 tl gb N := by
  have K : ∀ m, (∃ N, N ≤ m ∧ (∀ j, j < N → psP tl gb j < tl ∧ okE tl gb (psP tl gb j) = true) ∧ (tl ≤ psP tl gb N ∨ (psP tl gb N < tl ∧ ¬ okE tl gb (psP tl gb N) = true))) ∨ (∀ j, j < m → psP tl gb j < tl ∧ okE tl gb (psP tl gb j) = true) := by
    intro m
    induction m with
    | zero => exact Or.inr (fun j hj => absurd hj (by omega))
    | succ m ih =>
      rcases ih with ⟨N, h1, h2⟩ | h
      · exact Or.inl ⟨N, by omega, h2⟩
      · rcases Nat.lt_or_ge (psP tl gb m) tl with q | q
        · by_cases z : okE tl gb (psP tl gb m) = true
          · refine Or.inr (fun j hj => ?_)
            rcases Nat.lt_or_ge j m with w | w
            · exact h j w
            · have e : j = m := by omega
              subst e; exact ⟨q, z⟩
          · exact Or.inl ⟨m, by omega, h, Or.inr ⟨q, z⟩⟩
        · exact Or.inl ⟨m, by omega, h, Or.inl q⟩
  rcases K 61 with ⟨N, h1, h2, h3⟩ | h
  · refine ⟨N, ?_, h2, h3⟩
    rcases Nat.lt_or_ge N 61 with q | q
    · omega
    · have e : N = 61 := by omega
      subst e
      have := (h2 60 (by omega)).1
      have := psP_ge (tl := tl) (gb := gb) 60
      omega
  · have := (h 60 (by omega)).1
    have := psP_ge (tl := tl) (gb := gb) 60
    omega
theorem par_le {tl N : Nat} {gb : Nat → Int32} (ht : tl ≤ 60) (h : PAR1 tl gb N) : ∀ j, j ≤ N → psP tl gb j ≤ 61 := by
  intro j hj
  match j, hj with
  | 0, _ => exact Nat.zero_le _
  | j + 1, hj =>
    have := (h.2.1 j (by omega)).1
    rw [psP_s]
    split <;> omega
theorem par_eq {tl N : Nat} {gb gx : Nat → Int32} (hc : CHR tl gb gx) (h : PAR1 tl gb N) : ∀ j, j ≤ N → pzP gx tl j = psP tl gb j := by
  intro j
  induction j with
  | zero => intro _; rfl
  | succ j ih =>
    intro hj
    obtain ⟨q1, q2⟩ := h.2.1 j (by omega)
    show (X9_isElement_x12 gx tl (pzP gx tl j)).toNatClampNeg = _
    rw [ih (by omega), (loc_ok hc q1 q2).1.2, psP_s]
theorem par_F {tl N : Nat} {gb gx : Nat → Int32} (hc : CHR tl gb gx) (h : PAR1 tl gb N) (ht : 1 ≤ tl) : ∀ j, j ≤ N → ¬ pzF gx tl j = 0 := by
  intro j hj
  match j, hj with
  | 0, _ =>
    show ¬ pz0 tl = 0
    unfold pz0
    have := hc.1
    rw [if_neg (fun q => by have := (nI_leI (a := tl) (b := 0) (by omega) (by omega)).mp q; omega)]
    decide
  | j + 1, hj =>
    obtain ⟨q1, q2⟩ := h.2.1 j (by omega)
    show ¬ X9_isElement_r11 gx tl (pzP gx tl j) = 0
    rw [par_eq hc h j (by omega), (loc_ok hc q1 q2).1.1]
    decide
/-- the reference's elements -/
theorem pzQ_at {tl N : Nat} {gb gx gq : Nat → Int32} (hc : CHR tl gb gx) (h : PAR1 tl gb N) : ∀ n, n ≤ N → ∀ k, k < n → pzQ gx tl gq n (4 * k) = codW (psS tl gb k) ∧ pzQ gx tl gq n (4 * k + 1) = cod1 (psS tl gb k) ∧ pzQ gx tl gq n (4 * k + 2) = cod2 (psS tl gb k) ∧ pzQ gx tl gq n (4 * k + 3) = cod3 (psS tl gb k) := by
  intro n
  induction n with
  | zero => intro _ k hk; exact absurd hk (by omega)
  | succ n ih =>
    intro hn k hk
    obtain ⟨q1, q2⟩ := h.2.1 n (by omega)
    have e : pzQ gx tl gq (n + 1) = X9_isElement_g13 gx (pzQ gx tl gq n) tl (pzP gx tl n) n := rfl
    rw [e, rE_e, par_eq hc h n (by omega)]
    unfold X9_element_g3 X9_element_g2 X9_element_g1 X9_element_g0
    rcases Nat.lt_or_ge k n with w | w
    · obtain ⟨i1, i2, i3, i4⟩ := ih (by omega) k w
      refine ⟨?_, ?_, ?_, ?_⟩
      · rw [upd_off (by omega), upd_off (by omega), upd_off (by omega), upd_off (by omega)]; exact i1
      · rw [upd_off (by omega), upd_off (by omega), upd_off (by omega), upd_off (by omega)]; exact i2
      · rw [upd_off (by omega), upd_off (by omega), upd_off (by omega), upd_off (by omega)]; exact i3
      · rw [upd_off (by omega), upd_off (by omega), upd_off (by omega), upd_off (by omega)]; exact i4
    · have ek : k = n := by omega
      subst ek
      obtain ⟨-, -, c0, c1, c2, c3, -, -⟩ := loc_ok hc q1 q2
      refine ⟨?_, ?_, ?_, ?_⟩
      · rw [upd_off (by omega), upd_off (by omega), upd_off (by omega), upd_at]; exact c0.symm
      · rw [upd_off (by omega), upd_off (by omega), upd_at]; exact c1.symm
      · rw [upd_off (by omega), upd_at]; exact c2.symm
      · rw [upd_at]; exact c3.symm
/-- the steps done one behind another -/
def flG (SS : Nat → Nat → Int32) (g : Nat → Int32) : Nat → (Nat → Int32)
  | 0 => g
  | n + 1 => DSG (SS n) (flG SS g n)
theorem plG_fl {tl N : Nat} {gb gx gq g : Nat → Int32} (hc : CHR tl gb gx) (h : PAR1 tl gb N) : ∀ k, k ≤ N → plG (pzQ gx tl gq N) g k = flG (psS tl gb) g k := by
  intro k
  induction k with
  | zero => intro _; rfl
  | succ k ih =>
    intro hk
    obtain ⟨q1, q2⟩ := h.2.1 k (by omega)
    obtain ⟨e0, e1, e2, e3⟩ := pzQ_at (gq := gq) hc h N (Nat.le_refl _) k (by omega)
    obtain ⟨-, -, c0, c1, c2, c3, c4, c5⟩ := loc_ok hc q1 q2
    show doesG _ _ _ _ 0 0 _ = DSG (psS tl gb k) (flG (psS tl gb) g k)
    rw [e0, e1, e2, e3, ih (by omega)]
    unfold DSG
    have c4' : cod4 (psS tl gb k) = 0 := c4
    have c5' : cod5 (psS tl gb k) = 0 := c5
    rw [c4', c5']
theorem par_OKS {tl N : Nat} {gb gx : Nat → Int32} (hc : CHR tl gb gx) (h : PAR1 tl gb N) (j : Nat) (hj : j < N) : OKS (psS tl gb j) := by
  obtain ⟨q1, q2⟩ := h.2.1 j hj
  exact (loc_ok hc q1 q2).2.1
/-- the steps of a text: all of them, or up to the first that is refused -/
theorem many {cm : Nat → Int32} {cs : Nat → Nat → Nat → Int32} {g : Nat → Int32} {ov : Int32} {k N : Nat} {SS : Nat → Nat → Int32} (hR : RR cm cs g ov k) (hk : k + N ≤ 512) (hS : ∀ j, j < N → OKS (SS j)) : ((∀ j, j < N → rfR (fl SS cm cs j).1 (fl SS cm cs j).2 (SS j) = 0) ∧ (∀ j, j ≤ N → RR (fl SS cm cs j).1 (fl SS cm cs j).2 (flG SS g j) ov (k + j))) ∨ (∃ K, K < N ∧ (∀ j, j < K → rfR (fl SS cm cs j).1 (fl SS cm cs j).2 (SS j) = 0) ∧ (∀ j, j ≤ K → RR (fl SS cm cs j).1 (fl SS cm cs j).2 (flG SS g j) ov (k + j)) ∧ ¬ rfR (fl SS cm cs K).1 (fl SS cm cs K).2 (SS K) = 0) := by
  induction N with
  | zero =>
    refine Or.inl ⟨fun j hj => absurd hj (by omega), fun j hj => ?_⟩
    have e : j = 0 := by omega
    subst e; exact hR
  | succ N ih =>
    rcases ih (by omega) (fun j hj => hS j (by omega)) with ⟨h1, h2⟩ | ⟨K, K1, K2⟩
    · by_cases q : rfR (fl SS cm cs N).1 (fl SS cm cs N).2 (SS N) = 0
      · refine Or.inl ⟨fun j hj => ?_, fun j hj => ?_⟩
        · rcases Nat.lt_or_ge j N with w | w
          · exact h1 j w
          · have e : j = N := by omega
            subst e; exact q
        · rcases Nat.lt_or_ge j (N + 1) with w | w
          · exact h2 j (by omega)
          · have e : j = N + 1 := by omega
            subst e
            have hRN := h2 N (Nat.le_refl _)
            exact (STEP (by omega) hRN (RR_goes hRN q) (hS N (by omega)) q).1
      · exact Or.inr ⟨N, by omega, h1, h2, q⟩
    · exact Or.inr ⟨K, by omega, K2⟩
/-- a chain with more steps behind it -/
theorem CHN_app {lo le lfi : Int32} {SS P : Nat → Nat → Int32} {nS : Nat} {g : Nat → Int32} (hb : BEG lo le) (h : CHN lo le lfi SS nS g) (cm : Nat → Int32) (cs : Nat → Nat → Nat → Int32) : ∀ N, nS + N ≤ 512 → (∀ j, j < N → OKS (P j)) → (∀ j, j < N → RFG (P j) (flG P g j) = 0) → CHN lo le lfi (fun j => if j < nS then SS j else P (j - nS)) (nS + N) (flG P g N) := by
  intro N
  induction N with
  | zero =>
    intro _ _ _
    exact CHN_ext nS g (fun i hi => if_pos hi) h
  | succ N ih =>
    intro hN hP hr
    have e : (if nS + N < nS then SS (nS + N) else P (nS + N - nS)) = P N := by rw [if_neg (by omega)]; congr 1; omega
    refine ⟨flG P g N, ih (by omega) (fun j hj => hP j (by omega)) (fun j hj => hr j (by omega)), ?_, ?_, fun p _ _ => ?_⟩
    · show OKS (if nS + N < nS then SS (nS + N) else P (nS + N - nS))
      rw [e]; exact hP N (by omega)
    · show RFG (if nS + N < nS then SS (nS + N) else P (nS + N - nS)) _ = 0
      rw [e]; exact hr N (by omega)
    · show DSG (P N) (flG P g N) p = DSG (if nS + N < nS then SS (nS + N) else P (nS + N - nS)) _ p
      rw [e]
