/-! THE MATCH WITH ITS LOG: class and reference, no machine -/
theorem fl_ext {S T : Nat → Nat → Int32} {m : Nat → Int32} {s : Nat → Nat → Nat → Int32} : ∀ n, (∀ i, i < n → T i = S i) → fl T m s n = fl S m s n := by
  intro n
  induction n with
  | zero => intro _; rfl
  | succ n ih =>
    intro h
    show (pfM (fl T m s n).1 (fl T m s n).2 (T n), pfS (fl T m s n).1 (fl T m s n).2 (T n)) = (pfM (fl S m s n).1 (fl S m s n).2 (S n), pfS (fl S m s n).1 (fl S m s n).2 (S n))
    rw [ih (fun i hi => h i (by omega)), h n (by omega)]
def jn (S P : Nat → Nat → Int32) (a : Nat) : Nat → Nat → Int32 := fun j => if j < a then S j else P (j - a)
theorem jn_lo {S P : Nat → Nat → Int32} {a j : Nat} (h : j < a) : jn S P a j = S j := if_pos h
theorem jn_hi {S P : Nat → Nat → Int32} {a j : Nat} : jn S P a (a + j) = P j := by
  unfold jn
  rw [if_neg (by omega)]
  congr 1; omega
theorem fl_app {S P : Nat → Nat → Int32} {m : Nat → Int32} {s : Nat → Nat → Nat → Int32} {a : Nat} : ∀ n, fl (jn S P a) m s (a + n) = fl P (fl S m s a).1 (fl S m s a).2 n := by
  intro n
  induction n with
  | zero => exact fl_ext a (fun i hi => jn_lo hi)
  | succ n ih =>
    show (pfM (fl (jn S P a) m s (a + n)).1 (fl (jn S P a) m s (a + n)).2 (jn S P a (a + n)), pfS (fl (jn S P a) m s (a + n)).1 (fl (jn S P a) m s (a + n)).2 (jn S P a (a + n))) = (pfM (fl P (fl S m s a).1 (fl S m s a).2 n).1 (fl P (fl S m s a).1 (fl S m s a).2 n).2 (P n), pfS (fl P (fl S m s a).1 (fl S m s a).2 n).1 (fl P (fl S m s a).1 (fl S m s a).2 n).2 (P n))
    rw [ih, jn_hi]
def ENDS (E : Nat → Nat) (nC nS : Nat) (ge : Nat → Int32) : Prop := E 0 = 0 ∧ (∀ c, c < nC → E c < E (c + 1)) ∧ E nC = nS ∧ ∀ c, c < nC → ge c = nI (E (c + 1))
theorem ENDS_up {E : Nat → Nat} {nC nS : Nat} {ge : Nat → Int32} (h : ENDS E nC nS ge) : ∀ d c, c + d ≤ nC → E c + d ≤ E (c + d) := by
  intro d
  induction d with
  | zero => intro c _; exact Nat.le_refl _
  | succ d ih =>
    intro c hc
    have h1 := ih c (by omega)
    have h2 := h.2.1 (c + d) (by omega)
    have e : c + (d + 1) = c + d + 1 := rfl
    rw [e]; omega
theorem ENDS_le {E : Nat → Nat} {nC nS c : Nat} {ge : Nat → Int32} (h : ENDS E nC nS ge) (hc : c ≤ nC) : E c + (nC - c) ≤ nS := by
  have h1 := ENDS_up h (nC - c) c (by omega)
  have e : c + (nC - c) = nC := by omega
  rw [e, h.2.2.1] at h1
  exact h1
def DED (SS : Nat → Nat → Int32) (n : Nat) (gd : Nat → Int32) : Prop := ∀ j, j < n → gd (6 * j) = codW (SS j) ∧ gd (6 * j + 1) = cod1 (SS j) ∧ gd (6 * j + 2) = cod2 (SS j) ∧ gd (6 * j + 3) = cod3 (SS j) ∧ gd (6 * j + 4) = cod4 (SS j) ∧ gd (6 * j + 5) = cod5 (SS j)
def PST (lo le lfi : Int32) (SS : Nat → Nat → Int32) (E : Nat → Nat) (nC w : Nat) (gp : Nat → Int32) : Prop := ∀ j, j < w → CHN lo le lfi SS (E (nC - w + j)) (fun p => gp (j * 6441 + p)) ∧ gp (j * 6441 + 24) = nI (nC - w + j)
/-- the log and the reference's row and deeds -/
def JLOG (lo le lfi : Int32) (nS nC : Nat) (E : Nat → Nat) (ge : Nat → Int32) (SS : Nat → Nat → Int32) (g gd : Nat → Int32) : Prop := BEG lo le ∧ nS ≤ 512 ∧ CHN lo le lfi SS nS g ∧ g 24 = nI nC ∧ ENDS E nC nS ge ∧ DED SS nS gd
def JL (cm : Nat → Int32) (cs : Nat → Nat → Nat → Int32) (lo le lfi : Int32) (w nS nC : Nat) (ge : Nat → Int32) (SS : Nat → Nat → Int32) (g gp gd : Nat → Int32) : Prop := (∃ E, JLOG lo le lfi nS nC E ge SS g gd ∧ PST lo le lfi SS E nC w gp) ∧ w ≤ 8 ∧ w ≤ nC ∧ ∃ m0 s0, cm = (fl SS (foM m0 le lfi) (foS s0 lo le) nS).1 ∧ cs = (fl SS (foM m0 le lfi) (foS s0 lo le) nS).2
theorem JLOG_nC {lo le lfi : Int32} {nS nC : Nat} {E : Nat → Nat} {ge : Nat → Int32} {SS : Nat → Nat → Int32} {g gd : Nat → Int32} (h : JLOG lo le lfi nS nC E ge SS g gd) : nC ≤ nS := by
  have := ENDS_le h.2.2.2.2.1 (Nat.zero_le _)
  omega
theorem JL_RR {cm : Nat → Int32} {cs : Nat → Nat → Nat → Int32} {lo le lfi : Int32} {w nS nC : Nat} {ge : Nat → Int32} {SS : Nat → Nat → Int32} {g gp gd : Nat → Int32} (h : JL cm cs lo le lfi w nS nC ge SS g gp gd) : RR cm cs g lo nS := by
  obtain ⟨⟨E, ⟨hb, hn, hc, -⟩, -⟩, -, -, m0, s0, rfl, rfl⟩ := h
  exact CHN_RR hb m0 s0 nS hn g hc
theorem DED_cp {SS : Nat → Nat → Int32} {n : Nat} {gd gq : Nat → Int32} (h : DED SS n gd) (hq : ∀ p, p < 6 * n → gq p = gd p) : DED SS n gq := fun j hj => by
  obtain ⟨h0, h1, h2, h3, h4, h5⟩ := h j hj
  exact ⟨(hq _ (by omega)).trans h0, (hq _ (by omega)).trans h1, (hq _ (by omega)).trans h2, (hq _ (by omega)).trans h3, (hq _ (by omega)).trans h4, (hq _ (by omega)).trans h5⟩
theorem JLOG_cp {lo le lfi : Int32} {nS nC : Nat} {E : Nat → Nat} {ge gf : Nat → Int32} {SS TT : Nat → Nat → Int32} {g q gd gr : Nat → Int32} (h : JLOG lo le lfi nS nC E ge SS g gd) (hf : ∀ c, c < 512 → gf c = ge c) (hT : ∀ j, j < nS → TT j = SS j) (hq : ∀ p, p < 6441 → q p = g p) (hr : ∀ p, p < 6 * nS → gr p = gd p) : JLOG lo le lfi nS nC E gf TT q gr := by
  have hC := JLOG_nC h
  obtain ⟨hb, hn, hc, h24, ⟨e0, e1, e2, e3⟩, hd⟩ := h
  refine ⟨hb, hn, CHN_24 (CHN_ext nS g hT hc) (fun p hp _ => hq p hp), (hq 24 (by omega)).trans h24, ⟨e0, e1, e2, fun c hc => (hf c (by omega)).trans (e3 c hc)⟩, fun j hj => ?_⟩
  rw [hT j hj]
  exact DED_cp hd hr j hj
theorem JL_cp {cm : Nat → Int32} {cs : Nat → Nat → Nat → Int32} {lo le lfi : Int32} {w nS nC : Nat} {ge : Nat → Int32} {SS : Nat → Nat → Int32} {g q gp gd gr : Nat → Int32} (h : JL cm cs lo le lfi w nS nC ge SS g gp gd) (hq : ∀ p, p < 6441 → q p = g p) (hr : ∀ p, p < 6 * nS → gr p = gd p) : JL cm cs lo le lfi w nS nC ge SS q gp gr := by
  obtain ⟨⟨E, h1, h2⟩, h3⟩ := h
  exact ⟨⟨E, JLOG_cp h1 (fun _ _ => rfl) (fun _ _ => rfl) hq hr, h2⟩, h3⟩
theorem kp_old {gp gr : Nat → Int32} {w j p : Nat} (hw : w < 8) (hj : j < w) (hp : p < 6441) : kpG gp gr w (j * 6441 + p) = gp (j * 6441 + p) := by
  unfold kpG cpo
  rw [if_neg (by omega)]
  exact if_neg (by omega)
theorem kp_new {gp gr : Nat → Int32} {w p : Nat} (hw : w < 8) (hp : p < 6441) : kpG gp gr w (w * 6441 + p) = gr p := by
  unfold kpG cpo
  rw [if_neg (by omega)]
  refine (if_pos (by omega)).trans ?_
  exact congrArg gr (by omega)
theorem kp_8 {gp gr : Nat → Int32} {j p : Nat} (hj : j < 7) (hp : p < 6441) : kpG gp gr 8 (j * 6441 + p) = gp ((j + 1) * 6441 + p) := by
  unfold kpG cpo
  rw [if_pos rfl]
  refine (if_neg (by omega)).trans ?_
  unfold shf
  refine (if_pos (by omega)).trans ?_
  exact congrArg gp (by omega)
theorem kp_8n {gp gr : Nat → Int32} {p : Nat} (hp : p < 6441) : kpG gp gr 8 (7 * 6441 + p) = gr p := by
  unfold kpG cpo
  rw [if_pos rfl]
  refine (if_pos (by omega)).trans ?_
  exact congrArg gr (by omega)
/-- a command of N steps is taken -/
theorem JL_app {cm : Nat → Int32} {cs : Nat → Nat → Nat → Int32} {lo le lfi : Int32} {w nS nC N : Nat} {ge : Nat → Int32} {SS P : Nat → Nat → Int32} {g q gp gr gd gt : Nat → Int32} (h : JL cm cs lo le lfi w nS nC ge SS g gp gd) (hN : 1 ≤ N) (hnS : nS + N ≤ 512) (hP : ∀ j, j < N → OKS (P j)) (hrf : ∀ j, j < N → RFG (P j) (flG P g j) = 0) (hq : ∀ p, p < 6441 → p ≠ 24 → q p = flG P g N p) (hq4 : q 24 = nI (nC + 1)) (hgr : ∀ p, p < 6441 → gr p = g p) (hdo : ∀ p, p < 6 * nS → gt p = gd p) (hdn : ∀ j, j < N → gt (6 * (nS + j)) = codW (P j) ∧ gt (6 * (nS + j) + 1) = cod1 (P j) ∧ gt (6 * (nS + j) + 2) = cod2 (P j) ∧ gt (6 * (nS + j) + 3) = cod3 (P j) ∧ gt (6 * (nS + j) + 4) = cod4 (P j) ∧ gt (6 * (nS + j) + 5) = cod5 (P j)) : JL (fl P cm cs N).1 (fl P cm cs N).2 lo le lfi (kpN w) (nS + N) (nC + 1) (upd ge nC (nI (nS + N))) (jn SS P nS) q (kpG gp gr w) gt := by
  obtain ⟨⟨E, hJ, hps⟩, hw8, hwC, m0, s0, rfl, rfl⟩ := h
  have hC := JLOG_nC hJ
  obtain ⟨hb, hn, hc, h24, hE, hd⟩ := id hJ
  obtain ⟨e0, e1, e2, e3⟩ := id hE
  have fE : ∀ c, c ≤ nC → fu E (nC + 1) (nS + N) c = E c := fun c hc => fu_off (by omega)
  have fT : fu E (nC + 1) (nS + N) (nC + 1) = nS + N := fu_at
  have hold : ∀ c, c ≤ nC → ∀ z, CHN lo le lfi SS (E c) z → CHN lo le lfi (jn SS P nS) (E c) z := fun c hc z hz => CHN_ext _ z (fun i hi => jn_lo (by have := ENDS_le hE hc; omega)) hz
  have hrow : CHN lo le lfi (jn SS P nS) (E nC) gr := CHN_24 (hold nC (Nat.le_refl _) g (by rw [e2]; exact hc)) (fun p hp _ => hgr p hp)
  refine ⟨⟨fu E (nC + 1) (nS + N), ⟨hb, hnS, CHN_24 (CHN_app hb hc m0 s0 N hnS hP hrf) hq, hq4, ⟨(fE 0 (by omega)).trans e0, fun c hc => ?_, fT, fun c hc => ?_⟩, fun j hj => ?_⟩, fun j hj => ?_⟩, ?_, ?_, m0, s0, ?_, ?_⟩
  · rcases Nat.lt_or_ge c nC with k | k
    · rw [fE c (by omega), fE (c + 1) (by omega)]; exact e1 c k
    · have ec : c = nC := by omega
      subst ec
      rw [fE c (Nat.le_refl _), fT, e2]; omega
  · rcases Nat.lt_or_ge c nC with k | k
    · rw [fE (c + 1) (by omega), upd_off (by omega)]; exact e3 c k
    · have ec : c = nC := by omega
      subst ec
      rw [fT, upd_at]
  · rcases Nat.lt_or_ge j nS with k | k
    · rw [jn_lo k]
      exact DED_cp hd hdo j k
    · obtain ⟨i, rfl⟩ : ∃ i, j = nS + i := ⟨j - nS, by omega⟩
      rw [jn_hi]
      exact hdn i (by omega)
  · by_cases h8 : w = 8
    · subst h8
      have ek : kpN 8 = 8 := rfl
      rw [ek] at hj ⊢
      rcases Nat.lt_or_ge j 7 with k | k
      · obtain ⟨c1, c2⟩ := hps (j + 1) (by omega)
        have ei : nC + 1 - 8 + j = nC - 8 + (j + 1) := by omega
        rw [ei, fE _ (by omega)]
        refine ⟨CHN_24 (hold _ (by omega) _ c1) (fun p hp _ => kp_8 k hp), (kp_8 k (by omega)).trans c2⟩
      · have ej : j = 7 := by omega
        subst ej
        have ei : nC + 1 - 8 + 7 = nC := by omega
        rw [ei, fE _ (by omega)]
        exact ⟨CHN_24 hrow (fun p hp _ => kp_8n hp), (kp_8n (by omega)).trans ((hgr 24 (by omega)).trans h24)⟩
    · have ek : kpN w = w + 1 := by unfold kpN; exact if_neg h8
      rw [ek] at hj ⊢
      rcases Nat.lt_or_ge j w with k | k
      · obtain ⟨c1, c2⟩ := hps j k
        have ei : nC + 1 - (w + 1) + j = nC - w + j := by omega
        rw [ei, fE _ (by omega)]
        refine ⟨CHN_24 (hold _ (by omega) _ c1) (fun p hp _ => kp_old (by omega) k hp), (kp_old (by omega) k (by omega)).trans c2⟩
      · have ej : j = w := by omega
        subst ej
        have ei : nC + 1 - (j + 1) + j = nC := by omega
        rw [ei, fE _ (by omega)]
        exact ⟨CHN_24 hrow (fun p hp _ => kp_new (by omega) hp), (kp_new (by omega) (by omega)).trans ((hgr 24 (by omega)).trans h24)⟩
  · unfold kpN
    split <;> omega
  · unfold kpN
    split <;> omega
  · rw [fl_app]
  · rw [fl_app]
/-- the last command is taken back -/
theorem JL_undo {cm : Nat → Int32} {cs : Nat → Nat → Nat → Int32} {lo le lfi : Int32} {w nS nC : Nat} {ge : Nat → Int32} {SS : Nat → Nat → Int32} {g q gp gd : Nat → Int32} (h : JL cm cs lo le lfi w nS nC ge SS g gp gd) (hw : 1 ≤ w) (hq : ∀ p, p < 6441 → q p = gp ((w - 1) * 6441 + p)) (mz : Nat → Int32) (sz : Nat → Nat → Nat → Int32) : 1 ≤ nC ∧ ∃ n1, n1 ≤ nS ∧ (nC = 1 → n1 = 0) ∧ (2 ≤ nC → ge (nC - 1 - 1) = nI n1) ∧ JL (fl SS (foM mz le lfi) (foS sz lo le) n1).1 (fl SS (foM mz le lfi) (foS sz lo le) n1).2 lo le lfi (w - 1) n1 (nC - 1) ge SS q gp gd := by
  obtain ⟨⟨E, hJ, hps⟩, hw8, hwC, m0, s0, rfl, rfl⟩ := h
  obtain ⟨hb, hn, hc, h24, hE, hd⟩ := id hJ
  obtain ⟨e0, e1, e2, e3⟩ := id hE
  have hle := ENDS_le hE (c := nC - 1) (by omega)
  obtain ⟨c1, c2⟩ := hps (w - 1) (by omega)
  have ei : nC - w + (w - 1) = nC - 1 := by omega
  rw [ei] at c1 c2
  refine ⟨by omega, E (nC - 1), by omega, fun k => by rw [k]; exact e0, fun k => ?_, ⟨E, ⟨hb, by omega, CHN_24 c1 (fun p hp _ => hq p hp), (hq 24 (by omega)).trans c2, ⟨e0, fun c hc => e1 c (by omega), rfl, fun c hc => e3 c (by omega)⟩, fun j hj => hd j (by omega)⟩, fun j hj => ?_⟩, by omega, by omega, mz, sz, rfl, rfl⟩
  · rw [e3 (nC - 1 - 1) (by omega)]
    congr 2; omega
  · have ek : nC - 1 - (w - 1) + j = nC - w + j := by omega
    rw [ek]
    exact hps j (by omega)
/-- a match begins -/
theorem JL_begin {lo le lfi : Int32} {SS : Nat → Nat → Int32} {ge g gp gd : Nat → Int32} (hb : BEG lo le) (cm : Nat → Int32) (cs : Nat → Nat → Nat → Int32) : JL (fl SS (foM cm le lfi) (foS cs lo le) 0).1 (fl SS (foM cm le lfi) (foS cs lo le) 0).2 lo le lfi 0 0 0 ge SS (X9_begins_g4 g lo le lfi) gp gd := by
  refine ⟨⟨fun _ => 0, ⟨hb, by omega, ⟨g, fun _ _ _ => rfl⟩, ?_, ⟨rfl, fun c hc => absurd hc (by omega), rfl, fun c hc => absurd hc (by omega)⟩, fun j hj => absurd hj (by omega)⟩, fun j hj => absurd hj (by omega)⟩, by omega, by omega, cm, cs, rfl, rfl⟩
  have h9 : X9_begins_g4 g lo le lfi 24 = X9_begins_g3 g lo le lfi 24 := fr_opens (by omega) (by omega) (by unfold OUTR; omega)
  rw [h9, bg_at (by omega) (by omega)]; rfl
/-- a saved log comes back -/
theorem JL_back {lo le lfi : Int32} {nS nC : Nat} {E : Nat → Nat} {ge : Nat → Int32} {SS : Nat → Nat → Int32} {g gp gd : Nat → Int32} (h : JLOG lo le lfi nS nC E ge SS g gd) (cm : Nat → Int32) (cs : Nat → Nat → Nat → Int32) : JL (fl SS (foM cm le lfi) (foS cs lo le) nS).1 (fl SS (foM cm le lfi) (foS cs lo le) nS).2 lo le lfi 0 nS nC ge SS g gp gd := ⟨⟨E, h, fun j hj => absurd hj (by omega)⟩, by omega, by omega, cm, cs, rfl, rfl⟩
