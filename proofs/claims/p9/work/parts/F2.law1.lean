theorem hYH_L_append : hYH yL_append cL_append 4 (some .int) [((0 : Nat), (9 : Nat), (12 : Nat), (13 : Nat)), ((0 : Nat), (9 : Nat), (15 : Nat), (49 : Nat))] 3 := ⟨mc_L_append, mz_L, by decide, by decide +kernel⟩
theorem hYH_L_ball : hYH yL_ball cL_ball 6 (some .int) [((0 : Nat), (12 : Nat), (15 : Nat), (13 : Nat)), ((0 : Nat), (12 : Nat), (19 : Nat), (21 : Nat))] 5 := ⟨mc_L_ball, mz_L, by decide, by decide +kernel⟩
theorem hYH_L_batter : hYH yL_batter cL_batter 6 (some .int) [((0 : Nat), (12 : Nat), (15 : Nat), (19 : Nat)), ((0 : Nat), (12 : Nat), (19 : Nat), (13 : Nat))] 5 := ⟨mc_L_batter, mz_L, by decide, by decide +kernel⟩
theorem hYH_L_begin : hYH yL_begin cL_begin 6 (some .int) [((0 : Nat), (12 : Nat), (15 : Nat), (13 : Nat))] 5 := ⟨mc_L_begin, mz_L, by decide, by decide +kernel⟩
theorem hYH_L_bowl : hYH yL_bowl cL_bowl 4 (some .int) [((0 : Nat), (9 : Nat), (12 : Nat), (19 : Nat)), ((0 : Nat), (9 : Nat), (15 : Nat), (21 : Nat))] 3 := ⟨mc_L_bowl, mz_L, by decide, by decide +kernel⟩
theorem hYH_L_bowler : hYH yL_bowler cL_bowler 6 (some .int) [((0 : Nat), (12 : Nat), (15 : Nat), (19 : Nat)), ((0 : Nat), (12 : Nat), (19 : Nat), (13 : Nat))] 5 := ⟨mc_L_bowler, mz_L, by decide, by decide +kernel⟩
theorem hYH_L_choose : hYH yL_choose cL_choose 4 (some .int) [((0 : Nat), (9 : Nat), (12 : Nat), (19 : Nat)), ((0 : Nat), (9 : Nat), (15 : Nat), (21 : Nat))] 3 := ⟨mc_L_choose, mz_L, by decide, by decide +kernel⟩
theorem hYH_L_copyOvers : hYH yL_copyOvers cL_copyOvers 5 (some .int) [((0 : Nat), (17 : Nat), (20 : Nat), (19 : Nat)), ((0 : Nat), (17 : Nat), (24 : Nat), (57 : Nat)), ((0 : Nat), (17 : Nat), (28 : Nat), (49 : Nat)), ((0 : Nat), (17 : Nat), (32 : Nat), (13 : Nat))] 4 := ⟨mc_L_copyOvers, mz_L, by decide, by decide +kernel⟩
theorem hYH_L_declare : hYH yL_declare cL_declare 3 (some .int) [((0 : Nat), (8 : Nat), (11 : Nat), (21 : Nat))] 2 := ⟨mc_L_declare, mz_L, by decide, by decide +kernel⟩
theorem hYH_L_errorPosition : hYH yL_errorPosition cL_errorPosition 3 (some .int) [((0 : Nat), (8 : Nat), (11 : Nat), (57 : Nat))] 2 := ⟨mc_L_errorPosition, mz_L, by decide, by decide +kernel⟩
theorem hYH_L_fall : hYH yL_fall cL_fall 6 (some .int) [((0 : Nat), (12 : Nat), (15 : Nat), (19 : Nat)), ((0 : Nat), (12 : Nat), (19 : Nat), (57 : Nat)), ((0 : Nat), (12 : Nat), (23 : Nat), (13 : Nat))] 5 := ⟨mc_L_fall, mz_L, by decide, by decide +kernel⟩
theorem hYH_L_innings : hYH yL_innings cL_innings 5 (some .int) [((0 : Nat), (10 : Nat), (13 : Nat), (19 : Nat)), ((0 : Nat), (10 : Nat), (17 : Nat), (13 : Nat))] 4 := ⟨mc_L_innings, mz_L, by decide, by decide +kernel⟩
theorem hYH_L_isReplayed : hYH yL_isReplayed cL_isReplayed 3 (some .int) [((0 : Nat), (15 : Nat), (18 : Nat), (21 : Nat))] 2 := ⟨mc_L_isReplayed, mz_L, by decide, by decide +kernel⟩
theorem hYH_L_loseOvers : hYH yL_loseOvers cL_loseOvers 4 (some .int) [((0 : Nat), (9 : Nat), (12 : Nat), (13 : Nat)), ((0 : Nat), (9 : Nat), (15 : Nat), (21 : Nat))] 3 := ⟨mc_L_loseOvers, mz_L, by decide, by decide +kernel⟩
theorem hYH_L_needed : hYH yL_needed cL_needed 4 (some .int) [((0 : Nat), (9 : Nat), (12 : Nat), (21 : Nat)), ((0 : Nat), (9 : Nat), (15 : Nat), (57 : Nat))] 3 := ⟨mc_L_needed, mz_L, by decide, by decide +kernel⟩
theorem hYH_L_now : hYH yL_now cL_now 4 (some .int) [((0 : Nat), (9 : Nat), (12 : Nat), (13 : Nat)), ((0 : Nat), (9 : Nat), (15 : Nat), (21 : Nat))] 3 := ⟨mc_L_now, mz_L, by decide, by decide +kernel⟩
theorem hYH_L_partnership : hYH yL_partnership cL_partnership 6 (some .int) [((0 : Nat), (12 : Nat), (15 : Nat), (19 : Nat)), ((0 : Nat), (12 : Nat), (19 : Nat), (57 : Nat)), ((0 : Nat), (12 : Nat), (23 : Nat), (13 : Nat))] 5 := ⟨mc_L_partnership, mz_L, by decide, by decide +kernel⟩
theorem hYH_L_play : hYH yL_play cL_play 3 (some .int) [((0 : Nat), (8 : Nat), (11 : Nat), (13 : Nat)), ((0 : Nat), (8 : Nat), (14 : Nat), (49 : Nat))] 2 := ⟨mc_L_play, mz_L, by decide, by decide +kernel⟩
theorem hYH_L_refused : hYH yL_refused cL_refused 3 (some .int) [((0 : Nat), (8 : Nat), (11 : Nat), (57 : Nat))] 2 := ⟨mc_L_refused, mz_L, by decide, by decide +kernel⟩
theorem hYH_L_restore : hYH yL_restore cL_restore 3 (some .int) [((0 : Nat), (8 : Nat), (11 : Nat), (21 : Nat))] 2 := ⟨mc_L_restore, mz_L, by decide, by decide +kernel⟩
theorem hYH_L_retire : hYH yL_retire cL_retire 5 (some .int) [((0 : Nat), (10 : Nat), (13 : Nat), (21 : Nat))] 4 := ⟨mc_L_retire, mz_L, by decide, by decide +kernel⟩
theorem hYH_L_runRate : hYH yL_runRate cL_runRate 4 (some .int) [((0 : Nat), (8 : Nat), (11 : Nat), (19 : Nat)), ((0 : Nat), (8 : Nat), (14 : Nat), (89 : Nat))] 3 := ⟨mc_L_runRate, mz_L, by decide, by decide +kernel⟩
theorem hYH_L_snapshot : hYH yL_snapshot cL_snapshot 3 (some .int) [((0 : Nat), (8 : Nat), (11 : Nat), (21 : Nat))] 2 := ⟨mc_L_snapshot, mz_L, by decide, by decide +kernel⟩
theorem hYH_L_storeOvers : hYH yL_storeOvers cL_storeOvers 6 (some .int) [((0 : Nat), (12 : Nat), (15 : Nat), (19 : Nat))] 5 := ⟨mc_L_storeOvers, mz_L, by decide, by decide +kernel⟩
theorem hYH_L_storedOvers : hYH yL_storedOvers cL_storedOvers 5 (some .int) [((0 : Nat), (10 : Nat), (13 : Nat), (19 : Nat)), ((0 : Nat), (10 : Nat), (17 : Nat), (57 : Nat))] 4 := ⟨mc_L_storedOvers, mz_L, by decide, by decide +kernel⟩
theorem hYH_L_strikeRate : hYH yL_strikeRate cL_strikeRate 5 (some .int) [((0 : Nat), (10 : Nat), (13 : Nat), (19 : Nat)), ((0 : Nat), (10 : Nat), (17 : Nat), (89 : Nat))] 4 := ⟨mc_L_strikeRate, mz_L, by decide, by decide +kernel⟩
theorem hYH_L_undo : hYH yL_undo cL_undo 3 (some .int) [((0 : Nat), (8 : Nat), (11 : Nat), (21 : Nat))] 2 := ⟨mc_L_undo, mz_L, by decide, by decide +kernel⟩
theorem hYH_L_wicket : hYH yL_wicket cL_wicket 8 (some .int) [((0 : Nat), (16 : Nat), (19 : Nat), (13 : Nat)), ((0 : Nat), (16 : Nat), (23 : Nat), (21 : Nat))] 7 := ⟨mc_L_wicket, mz_L, by decide, by decide +kernel⟩
theorem m_MID {AD : Nat → Nat} {cy : Nat → ClassId} {q q2 : Nat → Option Nat} {k : Nat} {u : Hf} {S : Nat → Int32} {bad : Prop} {cR r : Int32} (h : MID AD cy q q2 k S bad cR r u) : ∃ fs, u (AD 125) = some (.inr (11, fs)) := by
  obtain ⟨-, xa, xr, xk, hi, th, tl, w, nS, nC, cm, cs, lo, le, lfi, ge, SS, g, gp, gd, o, hm, -⟩ := h
  obtain ⟨ps, pl, to, hm⟩ := hm
  exact ⟨_, hm⟩
theorem m_MIDB {AD : Nat → Nat} {cy : Nat → ClassId} {q q2 : Nat → Option Nat} {k : Nat} {u : Hf} {p0 p1 p2 r : Int32} (h : MIDB AD cy q q2 k p0 p1 p2 r u) : ∃ fs, u (AD 125) = some (.inr (11, fs)) := by
  obtain ⟨-, xa, xr, xk, hi, th, tl, w, nS, nC, cm, cs, lo, le, lfi, ge, SS, g, gp, gd, o, hm, -⟩ := h
  obtain ⟨ps, pl, to, hm⟩ := hm
  exact ⟨_, hm⟩
theorem m_MIDP {AD : Nat → Nat} {cy : Nat → ClassId} {q q2 : Nat → Option Nat} {k : Nat} {u : Hf} {p0 r : Int32} (h : MIDP AD cy q q2 k p0 r u) : ∃ fs, u (AD 125) = some (.inr (11, fs)) := by
  obtain ⟨-, xa, xr, xk, hi, th, tl, w, nS, nC, cm, cs, lo, le, lfi, ge, SS, g, gp, gd, o, gb, gx, -, hm, -⟩ := h
  obtain ⟨ps, pl, to, hm⟩ := hm
  exact ⟨_, hm⟩
theorem m_MIDN {AD : Nat → Nat} {cy : Nat → ClassId} {q q2 : Nat → Option Nat} {k : Nat} {u : Hf} {bad : Prop} (h : MIDN AD cy q q2 k bad u) : ∃ fs, u (AD 125) = some (.inr (11, fs)) := by
  obtain ⟨-, xa, xr, xk, hi, th, tl, w, nS, nC, cm, cs, lo, le, lfi, ge, SS, g, gp, gd, o, y, -, hm, -⟩ := h
  obtain ⟨ps, pl, to, hm⟩ := hm
  exact ⟨_, hm⟩
theorem m_MIDU {AD : Nat → Nat} {cy : Nat → ClassId} {q q2 : Nat → Option Nat} {k : Nat} {u : Hf} {r : Int32} (h : MIDU AD cy q q2 k r u) : ∃ fs, u (AD 125) = some (.inr (11, fs)) := by
  obtain ⟨-, xa, xr, xk, hi, th, tl, w, nS, nC, cm, cs, lo, le, lfi, ge, SS, g, gp, gd, o, hm, -⟩ := h
  obtain ⟨ps, pl, to, hm⟩ := hm
  exact ⟨_, hm⟩
theorem m_MIDS {AD : Nat → Nat} {cy : Nat → ClassId} {q q2 : Nat → Option Nat} {k : Nat} {u : Hf} {r : Int32} (h : MIDS AD cy q q2 k r u) : ∃ fs, u (AD 125) = some (.inr (11, fs)) := by
  obtain ⟨-, xa, xr, xk, hi, th, tl, w, nS, nC, cm, cs, lo, le, lfi, ge, SS, g, gp, gd, o, gi, gj, hm, -⟩ := h
  obtain ⟨ps, pl, to, hm⟩ := hm
  exact ⟨_, hm⟩
theorem m_MIDV {AD : Nat → Nat} {cy : Nat → ClassId} {q q2 : Nat → Option Nat} {k : Nat} {u : Hf} {r : Int32} (h : MIDV AD cy q q2 k r u) : ∃ fs, u (AD 125) = some (.inr (11, fs)) := by
  obtain ⟨-, xa, xr, xk, hi, th, tl, w, nS, nC, cm, cs, lo, le, lfi, ge, SS, g, gp, gd, o, lo', le', lfi', lun', nS', nC', ge', SS', gi, gj, hm, -⟩ := h
  obtain ⟨ps, pl, to, hm⟩ := hm
  exact ⟨_, hm⟩
theorem m_MIDW {AD : Nat → Nat} {cy : Nat → ClassId} {q q2 : Nat → Option Nat} {k : Nat} {u : Hf} {p0 p1 p2 r : Int32} (h : MIDW AD cy q q2 k p0 p1 p2 r u) : ∃ fs, u (AD 125) = some (.inr (11, fs)) := by
  obtain ⟨-, xa, xr, xk, hi, th, tl, w, nS, nC, cm, cs, lo, le, lfi, ge, SS, g, gp, gd, o, -, hm, -⟩ := h
  obtain ⟨ps, pl, to, hm⟩ := hm
  exact ⟨_, hm⟩
theorem m_MIDC {AD : Nat → Nat} {cy : Nat → ClassId} {q q2 : Nat → Option Nat} {k : Nat} {u : Hf} {p0 p1 r : Int32} (h : MIDC AD cy q q2 k p0 p1 r u) : ∃ fs, u (AD 125) = some (.inr (11, fs)) := by
  obtain ⟨-, xa, xr, xk, hi, th, tl, w, nS, nC, cm, cs, lo, le, lfi, ge, SS, g, gp, gd, o, -, hm, -⟩ := h
  obtain ⟨ps, pl, to, hm⟩ := hm
  exact ⟨_, hm⟩
theorem m_MIDPL {AD : Nat → Nat} {cy : Nat → ClassId} {q q2 : Nat → Option Nat} {k : Nat} {u : Hf} {r : Int32} (h : MIDPL AD cy q q2 k r u) : ∃ fs, u (AD 125) = some (.inr (11, fs)) := by
  obtain ⟨-, xa, xr, xk, hi, th, tl, w, nS, nC, cm, cs, lo, le, lfi, ge, SS, g, gp, gd, o, N, gb, gx, hm, -⟩ := h
  obtain ⟨ps, pl, to, hm⟩ := hm
  exact ⟨_, hm⟩
theorem m_WJ {AD : Nat → Nat} {cy : Nat → ClassId} {q q2 : Nat → Option Nat} {k : Nat} {th : Int32} {o : Nat → Int64} {u : Hf} (h : WJ AD cy q q2 k th o u) : ∃ fs, u (AD 125) = some (.inr (11, fs)) := by
  obtain ⟨hA, xa, xr, xk, hi, tl, w, nS, nC, cm, cs, lo, le, lfi, ge, SS, g, gp, gd, hX, hMc, hC, hRm, hRs, hO, hJ, hb⟩ := h
  obtain ⟨ps, pl, to, hm⟩ := hMc
  exact ⟨_, hm⟩
theorem m_XC {AD : Nat → Nat} {cy : Nat → ClassId} {q q2 : Nat → Option Nat} {k : Nat} {th : Int32} {o : Nat → Int64} {u : Hf} (h : WJ AD cy q q2 k th o u) : ∃ fs, u (AD 0) = some (.inr (10, fs)) := by
  obtain ⟨hA, xa, xr, xk, hi, tl, w, nS, nC, cm, cs, lo, le, lfi, ge, SS, g, gp, gd, hX, hMc, hC, hRm, hRs, hO, hJ, hb⟩ := h
  exact ⟨_, hX⟩
theorem m_OUT {AD : Nat → Nat} {cy : Nat → ClassId} {q q2 : Nat → Option Nat} {k : Nat} {th : Int32} {o : Nat → Int64} {u : Hf} (h : WJ AD cy q q2 k th o u) : u (AD 138) = some (.inl (cy 5, 1, .inr (.inl o))) := by
  obtain ⟨hA, xa, xr, xk, hi, tl, w, nS, nC, cm, cs, lo, le, lfi, ge, SS, g, gp, gd, hX, hMc, hC, hRm, hRs, hO, hJ, hb⟩ := h
  exact hO
theorem kR_thrown {l : Launch} (hfl : l.stackTraces = false) {D : va_G} {cy : Nat → ClassId} {f : Hf} {sz : Nat} {AD : Nat → Nat} {q q2 : Nat → Option Nat} {k : Nat} {th : Int32} {o : Nat → Int64} (h : WJ AD cy q q2 k th o f) : hMet l yX9_thrown cX9_thrown 1 (some .int) { frames := 6, cells := 0, slots := 0, locals := 158 } D (hTy cy) f sz [.ref (AD 125)] (hQi (fun r u => r = th ∧ u = f) D f sz) hNo := by
  obtain ⟨hA, xa, xr, xk, hi, tl, w, nS, nC, cm, cs, lo, le, lfi, ge, SS, g, gp, gd, hX, hMc, hC, hRm, hRs, hO, hJ, hb⟩ := h
  obtain ⟨ps, pl, to, hm⟩ := hMc
  exact h_mono (k_X9_thrown hfl hm) (Nat.le_of_ble_eq_true rfl) (Nat.le_of_ble_eq_true rfl) (Nat.le_of_ble_eq_true rfl) (Nat.le_of_ble_eq_true rfl)
def bz (x : Int32) : Int32 := if x = 0 then 0 else 1
theorem bz01 (x : Int32) : bz x = 0 ∨ bz x = 1 := by
  unfold bz
  split
  · exact Or.inl rfl
  · exact Or.inr rfl
theorem lw_bool {p : Program} {l : Launch} {e : Env} {R : Room} {s : State} {m : MethodId} {args : Array Value} {below : List Frame} {meth : Method} {c : Code} {H : Heap} {locs : List Loc} {cells slots : Nat} {Q : State → Prop} {pc t0 t1 : Nat} {o1 o2 : Int} {ls : Array Slot} {rest : List Value} {x : Int32} {cc : ByteArray} (hx : p.tables.exec = Jvm.exec) (hb : c.code = cc) (d0 : decode cc pc = .ok (.ifCond .eq o1, 3)) (h0 : (pc : Int) + o1 = (t0 : Int)) {pc1 : Nat} (d1 : decode cc pc1 = .ok (.iconst 1, 1)) (h1 : pc1 = pc + 3) {pc2 : Nat} (d2 : decode cc pc2 = .ok (.goto o2, 3)) (h2 : pc2 = pc + 3 + 1 ∧ (pc2 : Int) + o2 = (t1 : Int)) (d3 : decode cc t0 = .ok (.iconst 0, 1)) (h3 : t0 + 1 = t1) (k : W p l e R s m args below meth c H locs cells slots Q (F0 m t1 ls (.int (bz x) :: rest))) : W p l e R s m args below meth c H locs cells slots Q (F0 m pc ls (.int x :: rest)) := by
  subst h1
  refine lv_if_eq (tgt := t0) hx hb d0 h0 (fun c1 => ?_) (fun c1 => ?_)
  · refine lv_iconst (v := 0) hx hb d3 (by decide) ?_
    rw [show bz x = 0 from if_pos c1, ← h3] at k
    exact k
  · refine lv_iconst (v := 1) hx hb d1 (by decide) ?_
    rw [show bz x = 1 from if_neg c1] at k
    obtain ⟨e2, h2⟩ := h2
    rw [e2] at d2 h2
    exact lv_goto (tgt := t1) hx hb d2 h2 k
theorem lv_topvl {p : Program} {l : Launch} {e : Env} {R : Room} {s : State} {m : MethodId} {args : Array Value} {below : List Frame} {meth : Method} {c : Code} {H : Heap} {locs : List Loc} {cells slots : Nat} {Q : State → Prop} {pc : Nat} {ls : Array Slot} {rest : List Value} {x v : Int64} (h : x = v) (k : W p l e R s m args below meth c H locs cells slots Q (F0 m pc ls (.long v :: rest))) : W p l e R s m args below meth c H locs cells slots Q (F0 m pc ls (.long x :: rest)) := h ▸ k
theorem law_end {p : Program} {e : Env} {s : State} {m9 : MethodId} {below : List Frame} {meth : Method} {c : Code} {l : Launch} {b L : Nat} {xs : Nat → Int32} {D : va_G} {f : Hf} {H : Heap} {locs : List Loc} {ls : Array Slot} {cells slots : Nat} (C9 : lw_At p s m9 meth c b L xs) (G : hG D (hA f00 s.heap.size) f s H locs) (hc : cells ≤ 603072) (hs : slots ≤ 7207018) : W p l e room_1 s m9 #[Value.ref b] below meth c H locs cells slots (lw_Z below #[Value.ref b] s) (F0 m9 1338 ls []) := by
  obtain ⟨hx, hb, hr, hml, hown, hts, hX, hbl, hlocks, hgv⟩ := id C9
  refine lv_iconst (v := 1) hx hb dL_law_1338 (by decide) ?_
  refine va_forget (fun q hq => by rcases G.2.2.2 q hq with h | h; exact absurd rfl h; exact h) ?_
  refine W.widen (k := 603072) (n := 7207018) hc hs ?_
  have hd0 := Drawn.sameBut.refl s.drawn lw_cs
  refine W.base ?_
  exact lw_ret hd0 hx hb hr hlocks dL_law_1339
/-- a call is done: the next turn of the loop -/
def KON (p : Program) (l : Launch) (e : Env) (s : State) (m9 : MethodId) (b : Nat) (below : List Frame) (meth : Method) (c : Code) (D : va_G) (cy : Nat → ClassId) (AD : Nat → Nat) (q q2 : Nat → Option Nat) (k cells slots : Nat) : Prop := ∀ (th : Int32) (o : Nat → Int64) (f : Hf) (H : Heap) (locs : List Loc) (ls : Array Slot) (ce sl : Nat), WJ AD cy q q2 (k + 1) th o f → hG D (hA f00 s.heap.size) f s H locs → lv_has ls 9 [(0, .ref b), (1, .ref (AD 0)), (2, .ref (AD 125)), (3, .ref (AD 138)), (4, .ref (AD 139)), (5, .int (nI (6 * k)))] → ce ≤ cells + 64 → sl ≤ slots + 600 → W p l e room_1 s m9 #[Value.ref b] below meth c H locs ce sl (lw_Z below #[Value.ref b] s) (F0 m9 1332 ls [])
