/-! A MATCH BEGINS; what follows upon it -/
theorem foS_0 {cs : Nat → Nat → Nat → Int32} {lo le : Int32} : foS cs lo le 0 = STA (cs 0) lo (X2_hasResources_x0 le) := by
  funext t
  match t with
  | 0 => rfl
  | 1 => rfl
  | 2 => rfl
  | 3 => rfl
  | 4 => rfl
  | 5 => rfl
  | 6 =>
    funext k
    match k with
    | 0 => rfl
    | 1 => rfl
    | 2 => rfl
    | 3 => rfl
    | 4 => rfl
    | 5 => rfl
    | 6 => rfl
    | 7 => rfl
    | 8 => rfl
    | 9 => rfl
    | 10 => rfl
    | 11 => rfl
    | 12 => rfl
    | k + 13 => rfl
  | 7 =>
    funext k
    match k with
    | 0 => rfl
    | 1 => rfl
    | 2 => rfl
    | 3 => rfl
    | 4 => rfl
    | k + 5 => rfl
  | t + 8 => rfl
theorem bg_at {g : Nat → Int32} {lo le lfi : Int32} {p : Nat} (h : 4 ≤ p) (h2 : p < 6441) : X9_begins_g3 g lo le lfi p = 0 := by
  rw [X9_begins_g3, upd_off (by omega), X9_begins_g2, upd_off (by omega), X9_begins_g1, upd_off (by omega), X9_begins_g0, upd_off (by omega)]
  unfold zf
  rw [if_pos (by omega)]
theorem RR_start {cm : Nat → Int32} {cs : Nat → Nat → Nat → Int32} {g : Nat → Int32} {lo le lfi : Int32} {L : Nat} (hL : 1 ≤ L ∧ L ≤ 20) (hlo : lo = nI L) (hle : le = 1 ∨ le = 2) : RR (foM cm le lfi) (foS cs lo le) (X9_begins_g4 g lo le lfi) lo 0 := by
  have g1 : X9_begins_g3 g lo le lfi 1 = le := by rw [X9_begins_g3, upd_off (by omega), X9_begins_g2, upd_off (by omega), X9_begins_g1, upd_at]
  have g2 : X9_begins_g3 g lo le lfi 2 = lfi := by rw [X9_begins_g3, upd_off (by omega), X9_begins_g2, upd_at]
  have g3 : X9_begins_g3 g lo le lfi 3 = lo := by rw [X9_begins_g3, upd_at]
  have g0 : X9_begins_g3 g lo le lfi 0 = 1 := by rw [X9_begins_g3, upd_off (by omega), X9_begins_g2, upd_off (by omega), X9_begins_g1, upd_off (by omega), X9_begins_g0, upd_at]
  have hzz : ∀ j, j < 4 → ZER (X9_begins_g3 g lo le lfi) j := fun j hj => ⟨fun k hk => bg_at (by omega) (by omega), fun k hk => bg_at (by omega) (by omega), fun k hk => bg_at (by omega) (by omega)⟩
  have hlm : nI L = X9_opens_g10 (X9_begins_g3 g lo le lfi) 0 13 := by
    unfold X9_opens_g10
    rw [if_pos (show nI 0 = 0 from rfl), X9_opens_g8, upd_at, op_7 (by omega), g3]; exact hlo.symm
  have hres : X0_start_x11 (cs 0 0) (nI L) (X2_hasResources_x0 le) = X9_opens_x12 (X9_begins_g3 g lo le lfi) 0 := by
    have a1 : X9_opens_g11 (X9_begins_g3 g lo le lfi) 0 1 = le := by rw [X9_opens_g11, upd_off (by omega), op_10 (by omega), op_7 (by omega)]; exact g1
    have a13 : X9_opens_g11 (X9_begins_g3 g lo le lfi) 0 13 = nI L := by rw [X9_opens_g11, upd_off (by omega)]; exact hlm.symm
    unfold X9_opens_x12 X0_start_x11 X2_hasResources_x0
    rw [a1, a13]
    rcases hle with q | q
    · have z1 : tget 8 1 8 (zf (cs 0 0) 0 (1 * 8)) 0 1 = 0 := (tg8 (c := 1) 1 rfl (by omega)).trans (by unfold zf; rw [if_pos (by omega)])
      have z2 : tget 8 1 8 (zf (cs 0 0) 0 (1 * 8)) 0 2 = 0 := (tg8 (c := 2) 2 rfl (by omega)).trans (by unfold zf; rw [if_pos (by omega)])
      rw [if_pos q, if_pos q, if_neg (by decide)]
      unfold X0_value_r0 X9_worth_r0
      rw [z1, z2, i32_s0, i32_s0]
    · rw [if_neg (show ¬ le = 1 by rw [q]; decide), if_neg (show ¬ le = 1 by rw [q]; decide), if_pos rfl]
  obtain ⟨mS, mR⟩ := MIDR_sta (c := cs 0) (sb := 0) (k := 0) (e := le) (ov := lo) (by omega) (hzz 0 (by omega)) hL hlm hres (fun q => by unfold X2_hasResources_x0; rw [if_pos q]) (fun _ => hlo.symm)
  rw [← hlo, ← foS_0] at mS
  have glo : ∀ p, p < 6 → p ≠ 4 → X9_begins_g4 g lo le lfi p = X9_begins_g3 g lo le lfi p := fun p q1 q2 => fr_opens (by omega) q2 (by unfold OUTR; omega)
  refine ⟨0, fun _ => 0, fun _ => 1, fun _ => 0, fun _ => 0, ⟨by omega, rfl, ?_, rfl, (glo 0 (by omega) (by omega)).trans g0, (glo 1 (by omega) (by omega)).trans g1, (glo 2 (by omega) (by omega)).trans g2, (glo 3 (by omega) (by omega)).trans g3, ?_, ?_⟩, ⟨rfl, fun j hj => absurd hj (by omega), show (0 : Nat) + 1 ≤ 0 + 0 + 1 from by omega⟩, fun j hj => ?_, fun j h1 h2 => ?_, ?_, ?_, Or.inl rfl, fun _ => ?_⟩
  · rcases hle with q | q
    · exact Or.inl ⟨q, Or.inl rfl⟩
    · exact Or.inr ⟨q, Or.inl rfl⟩
  · unfold X9_begins_g4
    rw [op_S (by omega) (by omega) (by omega), op_13 (by omega) (by omega), op_10 (by omega), X9_opens_g7, upd_off (by omega), X9_opens_g6, upd_off (by omega), X9_opens_g5, upd_off (by omega), X9_opens_g4, upd_off (by omega), X9_opens_g3, upd_off (by omega), X9_opens_g2, upd_off (by omega), X9_opens_g1, upd_off (by omega), X9_opens_g0, upd_at]
  · have h9 : X9_begins_g4 g lo le lfi 23 = X9_begins_g3 g lo le lfi 23 := fr_opens (by omega) (by omega) (by unfold OUTR; omega)
    rw [h9, bg_at (by omega) (by omega)]; rfl
  · have e : j = 0 := by omega
    subst e
    exact MIDR_past mS
  · refine ZER_fr (n := 0) (s := 1) h1 h2 (hzz j h2) (fun p q1 _ _ q4 => fr_opens (by omega) q4 q1)
  · exact mS.2.1.2.2.2.2.2.2.2.2
  · rw [glo 5 (by omega) (by omega), bg_at (by omega) (by omega)]; rfl
  · refine ⟨mS, rfl, ?_, fun _ q => absurd q (show ¬ (0 : Int32) = 1 by decide), fun _ q => absurd q (show ¬ (0 : Int32) = 3 by decide)⟩
    show ¬ lo = 0
    rw [hlo]
    intro q
    have := (nI_eq (a := L) (b := 0) (by omega) (by omega)).mp q
    omega
/-- the place 24 (the commands) is nowhere read, nor what lies behind the row -/
theorem RR_24 {cm : Nat → Int32} {cs : Nat → Nat → Nat → Int32} {g q : Nat → Int32} {ov : Int32} {k : Nat} (hk : k ≤ 600) (h : RR cm cs g ov k) (hq : ∀ p, p < 6441 → p ≠ 24 → q p = g p) : RR cm cs q ov k := by
  obtain ⟨n, SB, RP, RF, OC, ⟨b1, b2, b3, b4, b5, b6, b7, b8, b9, b10⟩, hs, hp, hz, h22, h5, h11, hl⟩ := h
  have hJ : ∀ j, j ≤ n → SB j + RP j ≤ 604 := fun j hj => by
    have h3 := hs.2.2
    rcases Nat.lt_or_ge j n with w | w
    · have := SUMS_lt hs w
      omega
    · have e : j = n := by omega
      subst e; omega
  refine ⟨n, SB, RP, RF, OC, ⟨b1, b2, b3, b4, (hq 0 (by omega) (by omega)).trans b5, (hq 1 (by omega) (by omega)).trans b6, (hq 2 (by omega) (by omega)).trans b7, (hq 3 (by omega) (by omega)).trans b8, (hq 4 (by omega) (by omega)).trans b9, (hq 23 (by omega) (by omega)).trans b10⟩, hs, fun j hj => PAST1_fr (hp j hj) (Nat.le_refl _) (fun p hp2 => hq p (by have := hJ j hj; unfold inJ at hp2; omega) (by unfold inJ at hp2; omega)), fun j h1 h2 => ?_, (hq 22 (by omega) (by omega)).trans h22, (hq 5 (by omega) (by omega)).trans h5, h11, fun q1 => ?_⟩
  · obtain ⟨z0, z1, z2⟩ := hz j h1 h2
    exact ⟨fun k hk => (hq _ (by omega) (by omega)).trans (z0 k hk), fun k hk => (hq _ (by omega) (by omega)).trans (z1 k hk), fun k hk => (hq _ (by omega) (by omega)).trans (z2 k hk)⟩
  · obtain ⟨⟨hms, ⟨n0, n3, n4, n5, n6, n9, n10, n11, n22⟩, rest⟩, r2⟩ := hl q1
    have hJn := hJ n (Nat.le_refl _)
    exact ⟨⟨SIM_fr hms (fun p hp2 => hq p (by unfold inJ at hp2; omega) (by unfold inJ at hp2; omega)), ⟨n0.trans (hq 13 (by omega) (by omega)).symm, n3.trans (hq 9 (by omega) (by omega)).symm, n4.trans (hq 12 (by omega) (by omega)).symm, n5.trans (hq 10 (by omega) (by omega)).symm, n6.trans (hq 11 (by omega) (by omega)).symm, n9.trans (hq 6 (by omega) (by omega)).symm, n10.trans (hq 7 (by omega) (by omega)).symm, n11.trans (hq 8 (by omega) (by omega)).symm, (hq 22 (by omega) (by omega)).trans n22⟩, rest⟩, r2⟩
/-- a refused step is none: what is over takes none -/
theorem RR_goes {cm : Nat → Int32} {cs : Nat → Nat → Nat → Int32} {S g : Nat → Int32} {ov : Int32} {k : Nat} (h : RR cm cs g ov k) (hr : rfR cm cs S = 0) : cm 1 = 0 := by
  obtain ⟨n, SB, RP, RF, OC, ⟨b1, b2, b3, b4, b5, b6, b7, b8, b9, b10⟩, hs, hp, hz, h22, h5, h11, hl⟩ := h
  rcases h11 with q | q
  · exact q
  · rw [rf_one b3 (by rw [b4]; decide), rf_over (by rw [b4]; decide) (by rw [q]; decide)] at hr
    exact absurd hr (by decide)
theorem RR_PP {cm : Nat → Int32} {cs : Nat → Nat → Nat → Int32} {g : Nat → Int32} {ov : Int32} {k : Nat} (hk : k ≤ 511) (h : RR cm cs g ov k) : PP cm cs := by
  obtain ⟨n, SB, RP, RF, OC, ⟨b1, b2, b3, b4, b5, b6, b7, b8, b9, b10⟩, hs, hp, hz, h22, h5, h11, hl⟩ := h
  have e4 : (cm 4).toNatClampNeg = n := by rw [b2]; exact nI_c (by omega)
  have hge := SUMS_ge hs (fun j hj => (hp j hj).2.1) n (Nat.le_refl _)
  have hsum := hs.2.2
  have pn := hp n (Nat.le_refl _)
  have r3 : cs n 7 3 = nI (RP n) := pn.1.2.2.2.2.2.2.1
  have r4 : cs n 7 4 = nI (RF n) := pn.1.2.2.2.2.2.2.2.1
  refine ⟨b3, fun j hj => (hp j (by omega)).2.2.2.2.1, ?_, ?_, ?_⟩
  · rw [e4]; exact dN_mk r3 (by omega) (by omega)
  · rw [e4, r3, nI_c (by omega)]; exact pn.2.1
  · rw [e4]; exact dN_mk r4 (by have := pn.2.2.1; omega) (by omega)
/-- THE CHAIN of the steps SS 0 .. SS (n - 1) behind a beginning: g is the reference's row behind them -/
def CHN (lo le lfi : Int32) (SS : Nat → Nat → Int32) : Nat → (Nat → Int32) → Prop
  | 0, g => ∃ g0, ∀ p, p < 6441 → p ≠ 24 → g p = X9_begins_g4 g0 lo le lfi p
  | n + 1, g => ∃ h, CHN lo le lfi SS n h ∧ OKS (SS n) ∧ RFG (SS n) h = 0 ∧ ∀ p, p < 6441 → p ≠ 24 → g p = DSG (SS n) h p
def BEG (lo le : Int32) : Prop := (∃ L, 1 ≤ L ∧ L ≤ 20 ∧ lo = nI L) ∧ (le = 1 ∨ le = 2)
theorem CHN_RR {lo le lfi : Int32} {SS : Nat → Nat → Int32} (hb : BEG lo le) (cm : Nat → Int32) (cs : Nat → Nat → Nat → Int32) : ∀ n, n ≤ 512 → ∀ g, CHN lo le lfi SS n g → RR (fl SS (foM cm le lfi) (foS cs lo le) n).1 (fl SS (foM cm le lfi) (foS cs lo le) n).2 g lo n := by
  intro n
  induction n with
  | zero =>
    intro _ g hg
    obtain ⟨g0, hg0⟩ := hg
    obtain ⟨⟨L, l1, l2, l3⟩, hle⟩ := hb
    exact RR_24 (by omega) (RR_start (g := g0) ⟨l1, l2⟩ l3 hle) hg0
  | succ n ih =>
    intro hn g hg
    obtain ⟨h, h1, h2, h3, h4⟩ := hg
    have hR := ih (by omega) h h1
    have hr := (ref_eq hR h2).trans h3
    exact RR_24 (by omega) (STEP (by omega) hR (RR_goes hR hr) h2 hr).1 h4
theorem CHN_pre {lo le lfi : Int32} {SS : Nat → Nat → Int32} : ∀ n g, CHN lo le lfi SS n g → ∀ i, i ≤ n → ∃ h, CHN lo le lfi SS i h := by
  intro n
  induction n with
  | zero => intro g hg i hi; exact ⟨g, by rw [show i = 0 by omega]; exact hg⟩
  | succ n ih =>
    intro g hg i hi
    rcases Nat.lt_or_ge i (n + 1) with q | q
    · obtain ⟨h, h1, -⟩ := hg
      exact ih h h1 i (by omega)
    · exact ⟨g, by rw [show i = n + 1 by omega]; exact hg⟩
theorem CHN_ext {lo le lfi : Int32} {SS TT : Nat → Nat → Int32} : ∀ n g, (∀ i, i < n → TT i = SS i) → CHN lo le lfi SS n g → CHN lo le lfi TT n g := by
  intro n
  induction n with
  | zero => intro g _ hg; exact hg
  | succ n ih =>
    intro g hi hg
    obtain ⟨h, h1, h2, h3, h4⟩ := hg
    refine ⟨h, ih h (fun i q => hi i (by omega)) h1, ?_⟩
    rw [hi n (by omega)]
    exact ⟨h2, h3, h4⟩
theorem CHN_24 {lo le lfi : Int32} {SS : Nat → Nat → Int32} {n : Nat} {g q : Nat → Int32} (h : CHN lo le lfi SS n g) (hq : ∀ p, p < 6441 → p ≠ 24 → q p = g p) : CHN lo le lfi SS n q := by
  match n, h with
  | 0, ⟨g0, h⟩ => exact ⟨g0, fun p hp hp2 => (hq p hp hp2).trans (h p hp hp2)⟩
  | n + 1, ⟨w, h1, h2, h3, h4⟩ => exact ⟨w, h1, h2, h3, fun p hp hp2 => (hq p hp hp2).trans (h4 p hp hp2)⟩
