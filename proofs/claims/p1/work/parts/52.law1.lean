theorem hYH_L_begin : hYH yL_begin cL_begin 6 (some .int) [((0 : Nat), (12 : Nat), (15 : Nat), (13 : Nat))] 5 := ⟨mc_L_begin, mz_L, by decide, by decide +kernel⟩
theorem hYH_L_bowl : hYH yL_bowl cL_bowl 4 (some .int) [((0 : Nat), (9 : Nat), (12 : Nat), (19 : Nat)), ((0 : Nat), (9 : Nat), (15 : Nat), (21 : Nat))] 3 := ⟨mc_L_bowl, mz_L, by decide, by decide +kernel⟩
theorem hYH_L_ball : hYH yL_ball cL_ball 6 (some .int) [((0 : Nat), (12 : Nat), (15 : Nat), (13 : Nat)), ((0 : Nat), (12 : Nat), (19 : Nat), (21 : Nat))] 5 := ⟨mc_L_ball, mz_L, by decide, by decide +kernel⟩
theorem hYH_L_wicket : hYH yL_wicket cL_wicket 8 (some .int) [((0 : Nat), (16 : Nat), (19 : Nat), (13 : Nat)), ((0 : Nat), (16 : Nat), (23 : Nat), (21 : Nat))] 7 := ⟨mc_L_wicket, mz_L, by decide, by decide +kernel⟩
theorem hYH_L_retire : hYH yL_retire cL_retire 5 (some .int) [((0 : Nat), (10 : Nat), (13 : Nat), (21 : Nat))] 4 := ⟨mc_L_retire, mz_L, by decide, by decide +kernel⟩
theorem hYH_L_choose : hYH yL_choose cL_choose 4 (some .int) [((0 : Nat), (9 : Nat), (12 : Nat), (19 : Nat)), ((0 : Nat), (9 : Nat), (15 : Nat), (21 : Nat))] 3 := ⟨mc_L_choose, mz_L, by decide, by decide +kernel⟩
theorem hYH_L_declare : hYH yL_declare cL_declare 3 (some .int) [((0 : Nat), (8 : Nat), (11 : Nat), (21 : Nat))] 2 := ⟨mc_L_declare, mz_L, by decide, by decide +kernel⟩
theorem hYH_L_loseOvers : hYH yL_loseOvers cL_loseOvers 4 (some .int) [((0 : Nat), (9 : Nat), (12 : Nat), (13 : Nat)), ((0 : Nat), (9 : Nat), (15 : Nat), (21 : Nat))] 3 := ⟨mc_L_loseOvers, mz_L, by decide, by decide +kernel⟩
theorem hYH_L_append : hYH yL_append cL_append 4 (some .int) [((0 : Nat), (9 : Nat), (12 : Nat), (13 : Nat)), ((0 : Nat), (9 : Nat), (15 : Nat), (49 : Nat))] 3 := ⟨mc_L_append, mz_L, by decide, by decide +kernel⟩
theorem hYH_L_play : hYH yL_play cL_play 3 (some .int) [((0 : Nat), (8 : Nat), (11 : Nat), (13 : Nat)), ((0 : Nat), (8 : Nat), (14 : Nat), (49 : Nat))] 2 := ⟨mc_L_play, mz_L, by decide, by decide +kernel⟩
theorem hYH_L_errorPosition : hYH yL_errorPosition cL_errorPosition 3 (some .int) [((0 : Nat), (8 : Nat), (11 : Nat), (57 : Nat))] 2 := ⟨mc_L_errorPosition, mz_L, by decide, by decide +kernel⟩
theorem hYH_L_refused : hYH yL_refused cL_refused 3 (some .int) [((0 : Nat), (8 : Nat), (11 : Nat), (57 : Nat))] 2 := ⟨mc_L_refused, mz_L, by decide, by decide +kernel⟩
theorem hYH_L_now : hYH yL_now cL_now 4 (some .int) [((0 : Nat), (9 : Nat), (12 : Nat), (13 : Nat)), ((0 : Nat), (9 : Nat), (15 : Nat), (21 : Nat))] 3 := ⟨mc_L_now, mz_L, by decide, by decide +kernel⟩
theorem hYH_L_innings : hYH yL_innings cL_innings 5 (some .int) [((0 : Nat), (10 : Nat), (13 : Nat), (19 : Nat)), ((0 : Nat), (10 : Nat), (17 : Nat), (13 : Nat))] 4 := ⟨mc_L_innings, mz_L, by decide, by decide +kernel⟩
theorem hYH_L_batter : hYH yL_batter cL_batter 6 (some .int) [((0 : Nat), (12 : Nat), (15 : Nat), (19 : Nat)), ((0 : Nat), (12 : Nat), (19 : Nat), (13 : Nat))] 5 := ⟨mc_L_batter, mz_L, by decide, by decide +kernel⟩
theorem hYH_L_bowler : hYH yL_bowler cL_bowler 6 (some .int) [((0 : Nat), (12 : Nat), (15 : Nat), (19 : Nat)), ((0 : Nat), (12 : Nat), (19 : Nat), (13 : Nat))] 5 := ⟨mc_L_bowler, mz_L, by decide, by decide +kernel⟩
theorem hYH_L_partnership : hYH yL_partnership cL_partnership 6 (some .int) [((0 : Nat), (12 : Nat), (15 : Nat), (19 : Nat)), ((0 : Nat), (12 : Nat), (19 : Nat), (57 : Nat)), ((0 : Nat), (12 : Nat), (23 : Nat), (13 : Nat))] 5 := ⟨mc_L_partnership, mz_L, by decide, by decide +kernel⟩
theorem hYH_L_fall : hYH yL_fall cL_fall 6 (some .int) [((0 : Nat), (12 : Nat), (15 : Nat), (19 : Nat)), ((0 : Nat), (12 : Nat), (19 : Nat), (57 : Nat)), ((0 : Nat), (12 : Nat), (23 : Nat), (13 : Nat))] 5 := ⟨mc_L_fall, mz_L, by decide, by decide +kernel⟩
theorem hYH_L_needed : hYH yL_needed cL_needed 4 (some .int) [((0 : Nat), (9 : Nat), (12 : Nat), (21 : Nat)), ((0 : Nat), (9 : Nat), (15 : Nat), (57 : Nat))] 3 := ⟨mc_L_needed, mz_L, by decide, by decide +kernel⟩
theorem hYH_L_runRate : hYH yL_runRate cL_runRate 4 (some .int) [((0 : Nat), (8 : Nat), (11 : Nat), (19 : Nat)), ((0 : Nat), (8 : Nat), (14 : Nat), (89 : Nat))] 3 := ⟨mc_L_runRate, mz_L, by decide, by decide +kernel⟩
theorem hYH_L_strikeRate : hYH yL_strikeRate cL_strikeRate 5 (some .int) [((0 : Nat), (10 : Nat), (13 : Nat), (19 : Nat)), ((0 : Nat), (10 : Nat), (17 : Nat), (89 : Nat))] 4 := ⟨mc_L_strikeRate, mz_L, by decide, by decide +kernel⟩
theorem hYH_L_storeOvers : hYH yL_storeOvers cL_storeOvers 6 (some .int) [((0 : Nat), (12 : Nat), (15 : Nat), (19 : Nat))] 5 := ⟨mc_L_storeOvers, mz_L, by decide, by decide +kernel⟩
theorem hYH_L_copyOvers : hYH yL_copyOvers cL_copyOvers 5 (some .int) [((0 : Nat), (17 : Nat), (20 : Nat), (19 : Nat)), ((0 : Nat), (17 : Nat), (24 : Nat), (57 : Nat)), ((0 : Nat), (17 : Nat), (28 : Nat), (49 : Nat)), ((0 : Nat), (17 : Nat), (32 : Nat), (13 : Nat))] 4 := ⟨mc_L_copyOvers, mz_L, by decide, by decide +kernel⟩
theorem hYH_L_storedOvers : hYH yL_storedOvers cL_storedOvers 5 (some .int) [((0 : Nat), (10 : Nat), (13 : Nat), (19 : Nat)), ((0 : Nat), (10 : Nat), (17 : Nat), (57 : Nat))] 4 := ⟨mc_L_storedOvers, mz_L, by decide, by decide +kernel⟩
theorem hYH_L_undo : hYH yL_undo cL_undo 3 (some .int) [((0 : Nat), (8 : Nat), (11 : Nat), (21 : Nat))] 2 := ⟨mc_L_undo, mz_L, by decide, by decide +kernel⟩
theorem hYH_L_isReplayed : hYH yL_isReplayed cL_isReplayed 3 (some .int) [((0 : Nat), (15 : Nat), (18 : Nat), (21 : Nat))] 2 := ⟨mc_L_isReplayed, mz_L, by decide, by decide +kernel⟩
theorem hYH_L_snapshot : hYH yL_snapshot cL_snapshot 3 (some .int) [((0 : Nat), (8 : Nat), (11 : Nat), (21 : Nat))] 2 := ⟨mc_L_snapshot, mz_L, by decide, by decide +kernel⟩
theorem hYH_L_restore : hYH yL_restore cL_restore 3 (some .int) [((0 : Nat), (8 : Nat), (11 : Nat), (21 : Nat))] 2 := ⟨mc_L_restore, mz_L, by decide, by decide +kernel⟩
theorem lv_topvl {p : Program} {l : Launch} {e : Env} {R : Room} {s : State} {m : MethodId} {args : Array Value} {below : List Frame} {meth : Method} {c : Code} {H : Heap} {locs : List Loc} {cells slots : Nat} {Q : State → Prop} {pc : Nat} {ls : Array Slot} {rest : List Value} {x v : Int64} (h : x = v) (k : W p l e R s m args below meth c H locs cells slots Q (F0 m pc ls (.long v :: rest))) : W p l e R s m args below meth c H locs cells slots Q (F0 m pc ls (.long x :: rest)) := h ▸ k
theorem law_end {p : Program} {e : Env} {s : State} {m9 : MethodId} {below : List Frame} {meth : Method} {c : Code} {l : Launch} {b L : Nat} {xs : Nat → Int32} {D : va_G} {f : Hf} {H : Heap} {locs : List Loc} {ls : Array Slot} {cells slots : Nat} (C9 : lw_At p s m9 meth c b L xs) (G : hG D (hA f00 s.heap.size) f s H locs) (hc : cells ≤ 600006) (hs : slots ≤ 7302064) : W p l e room_1 s m9 #[Value.ref b] below meth c H locs cells slots (lw_Z below #[Value.ref b] s) (F0 m9 2170 ls []) := by
  obtain ⟨hx, hb, hr, hml, hown, hts, hX, hbl, hlocks, hgv⟩ := id C9
  refine lv_iconst (v := 1) hx hb dL_law_2170 (by decide) ?_
  refine va_forget (fun q hq => by rcases G.2.2.2 q hq with h | h; exact absurd rfl h; exact h) ?_
  refine W.widen (k := 600006) (n := 7302064) hc hs ?_
  have hd0 := Drawn.sameBut.refl s.drawn lw_cs
  refine W.base ?_
  exact lw_ret hd0 hx hb hr hlocks dL_law_2171
theorem law_tail {p : Program} {e : Env} {s : State} {m9 : MethodId} {below : List Frame} {meth : Method} {c : Code} {l : Launch} {b  : Nat} {xs : Nat → Int32} {D : va_G} {cy : Nat → ClassId} {f : Hf} {H : Heap} {locs : List Loc} {ls : Array Slot} {cells slots : Nat} (hfl : l.stackTraces = false) (C9 : lw_At p s m9 meth c b 6 xs) (C0 : hC p l s m9 meth c code 9 #[Value.ref b] RL D (hTy cy) (hA f00 s.heap.size)) (G : hG D (hA f00 s.heap.size) f s H locs) (hc : cells ≤ 600006) (hs : slots ≤ 7302064) (hl : lv_has ls 9 [(0, .ref b), (5, .int 0)]) : W p l e room_1 s m9 #[Value.ref b] below meth c H locs cells slots (lw_Z below #[Value.ref b] s) (F0 m9 2164 ls []) := by
  obtain ⟨hx, hb, hr, hml, hown, hts, hX, hbl, hlocks, hgv⟩ := id C9
  have hbA : ¬ hA f00 s.heap.size b := fun q => by
    rcases q with q | q
    · exact q rfl
    · omega
  refine lv_iinc (v := 6) (lv' := [(5, .int 6), (0, .ref b)]) hx hb dL_law_2164 hl (k := 1) rfl (by decide) (by decide) rfl (fun ls hl => ?_)
  refine lv_goto (tgt := 28) hx hb dL_law_2167 (by decide) ?_
  refine lv_iload hx hb dL_law_28 (lv_at hl 0 rfl) ?_
  refine lv_aload_n hx hb dL_law_30 rfl (lv_at hl 1 rfl) ?_
  refine va_slen hx hb hX hbl hbA G.2 dL_law_31 ?_
  refine lv_bipush (v := 6) hx hb dL_law_32 (by decide) ?_
  refine lv_isub hx hb dL_law_34 ?_
  refine lv_icmp_gt (tgt := 2170) hx hb dL_law_35 (by decide) (fun _ => ?_) (fun q => absurd (by decide) q)
  exact law_end C9 G hc hs
