set_option maxRecDepth 100000 in
theorem law_loop {p : Program} {e : Env} {s : State} {m9 : MethodId} {below : List Frame} {meth : Method} {c : Code} {l : Launch} {b L : Nat} {xs : Nat → Int32} {D : va_G} {cy : Nat → ClassId} {AD : Nat → Nat} {q q2 : Nat → Option Nat} (hfl : l.stackTraces = false) (C9 : lw_At p s m9 meth c b L xs) (C0 : hC p l s m9 meth c code 9 #[Value.ref b] RL D (hTy cy) (hA f00 s.heap.size)) (hL : L ≤ 3072) : ∀ (n k : Nat) (th : Int32) (o : Nat → Int64) (f : Hf) (H : Heap) (locs : List Loc) (ls : Array Slot) (cells slots : Nat), k + n = 513 → cells ≤ 200 + 64 * k → slots ≤ 157000 + 600 * k → WJ AD cy q q2 k th o f → hG D (hA f00 s.heap.size) f s H locs → lv_has ls 9 [(0, .ref b), (1, .ref (AD 0)), (2, .ref (AD 125)), (3, .ref (AD 138)), (4, .ref (AD 139)), (5, .int (nI (6 * k)))] → (k = 0 ∨ 6 * k ≤ L) → W p l e room_1 s m9 #[Value.ref b] below meth c H locs cells slots (lw_Z below #[Value.ref b] s) (F0 m9 28 ls []) := by
  intro n
  obtain ⟨hx, hb, hr, hml, hown, hts, hX, hbl, hlocks, hgv⟩ := id C9
  have hbA : ¬ hA f00 s.heap.size b := fun q => by
    rcases q with q | q
    · exact q rfl
    · omega
  induction n with
  | zero => intro k th o f H locs ls cells slots hkn hc hs hW G hl h6; omega
  | succ n ih =>
    intro k th o f H locs ls cells slots hkn hc hs hW G hl h6
    refine lv_iload hx hb dL_law_28 (lv_at hl 5 rfl) ?_
    refine lv_aload_n hx hb dL_law_30 rfl (lv_at hl 0 rfl) ?_
    refine va_slen hx hb hX hbl hbA G.2 dL_law_31 ?_
    refine lv_bipush (v := 6) hx hb dL_law_32 (by decide) ?_
    refine lv_isub hx hb dL_law_34 ?_
    refine lv_icmp_gt (tgt := 1338) hx hb dL_law_35 (by decide) (fun _ => law_end C9 G (by omega) (by omega)) (fun c9 => ?_)
    have hk6 : 6 * k + 6 ≤ L := by
      rcases Nat.lt_or_ge L 6 with z | z
      · exfalso
        refine c9 ?_
        refine Int32.lt_of_lt_of_le (b := 0) ?_ (nI_nn _ (by omega))
        have h9 : L = 0 ∨ L = 1 ∨ L = 2 ∨ L = 3 ∨ L = 4 ∨ L = 5 := by omega
        rcases h9 with z9 | z9 | z9 | z9 | z9 | z9 <;> rw [z9] <;> decide
      · rcases Nat.lt_or_ge (L - 6) (6 * k) with z2 | z2
        · exfalso
          refine c9 ?_
          have e9 : nI L - 6 = nI (L - 6) := nI_sb (a := L) (b := 6) z
          have h9 : nI L - 6 < nI (6 * k) := by rw [e9]; exact (nI_ltI (by omega) (by omega)).mpr z2
          exact h9
        · omega
    have hK : KON p l e s m9 b below meth c D cy AD q q2 k cells slots := by
      intro th o f H locs ls ce sl hW G hl hc2 hs2
      refine lv_iinc (v := nI (6 * (k + 1))) (lv' := [(5, .int (nI (6 * (k + 1)))), (0, .ref b), (1, .ref (AD 0)), (2, .ref (AD 125)), (3, .ref (AD 138)), (4, .ref (AD 139))]) hx hb dL_law_1332 hl (k := 5) rfl (by rw [show Int32.ofInt 6 = nI 6 from by decide, nI_add]; exact congrArg nI (by omega)) (by decide) rfl (fun ls hl => ?_)
      refine lv_goto (tgt := 28) hx hb dL_law_1335 (by decide) ?_
      exact ih (k + 1) th o f H locs ls ce sl (by omega) (by omega) (by omega) hW G (lv_sub hl [1, 2, 3, 4, 5, 0] rfl) (Or.inr (by omega))
    refine lv_aload_n hx hb dL_law_38 rfl (lv_at hl 0 rfl) ?_
    refine lv_iload hx hb dL_law_39 (lv_at hl 5 rfl) ?_
    refine va_sld hx hb hX hbl hbA G.2 (i := nI (6 * k)) (vp_in_nI (by omega) (by omega)) dL_law_41 ?_
    refine lv_bipush (v := 31) hx hb dL_law_42 (by decide) ?_
    refine lv_iand hx hb dL_law_44 ?_
    refine lv_topi (fun k9 hk9 => ?_)
    by_cases s0 : k9 = 0
    · refine lv_tableIn (off := 139) (tgt := 184) hx hb dL_law_45 (by rw [s0]; decide) (by rw [s0]; decide) (by rw [s0]; rfl) (by decide) ?_
      exact law_case_0 hfl C9 C0 hL hk6 ⟨hc, hs⟩ hW G hl hK
    by_cases s1 : k9 = 1
    · refine lv_tableIn (off := 191) (tgt := 236) hx hb dL_law_45 (by rw [s1]; decide) (by rw [s1]; decide) (by rw [s1]; rfl) (by decide) ?_
      exact law_case_1 hfl C9 C0 hL hk6 ⟨hc, hs⟩ hW G hl hK
    by_cases s2 : k9 = 2
    · refine lv_tableIn (off := 219) (tgt := 264) hx hb dL_law_45 (by rw [s2]; decide) (by rw [s2]; decide) (by rw [s2]; rfl) (by decide) ?_
      exact law_case_2 hfl C9 C0 hL hk6 ⟨hc, hs⟩ hW G hl hK
    by_cases s3 : k9 = 3
    · refine lv_tableIn (off := 287) (tgt := 332) hx hb dL_law_45 (by rw [s3]; decide) (by rw [s3]; decide) (by rw [s3]; rfl) (by decide) ?_
      exact law_case_3 hfl C9 C0 hL hk6 ⟨hc, hs⟩ hW G hl hK
    by_cases s4 : k9 = 4
    · refine lv_tableIn (off := 395) (tgt := 440) hx hb dL_law_45 (by rw [s4]; decide) (by rw [s4]; decide) (by rw [s4]; rfl) (by decide) ?_
      exact law_case_4 hfl C9 C0 hL hk6 ⟨hc, hs⟩ hW G hl hK
    by_cases s5 : k9 = 5
    · refine lv_tableIn (off := 467) (tgt := 512) hx hb dL_law_45 (by rw [s5]; decide) (by rw [s5]; decide) (by rw [s5]; rfl) (by decide) ?_
      exact law_case_5 hfl C9 C0 hL hk6 ⟨hc, hs⟩ hW G hl hK
    by_cases s6 : k9 = 6
    · refine lv_tableIn (off := 495) (tgt := 540) hx hb dL_law_45 (by rw [s6]; decide) (by rw [s6]; decide) (by rw [s6]; rfl) (by decide) ?_
      exact law_case_6 hfl C9 C0 hL hk6 ⟨hc, hs⟩ hW G hl hK
    by_cases s7 : k9 = 7
    · refine lv_tableIn (off := 511) (tgt := 556) hx hb dL_law_45 (by rw [s7]; decide) (by rw [s7]; decide) (by rw [s7]; rfl) (by decide) ?_
      exact law_case_7 hfl C9 C0 hL hk6 ⟨hc, hs⟩ hW G hl hK
    by_cases s8 : k9 = 8
    · refine lv_tableIn (off := 567) (tgt := 612) hx hb dL_law_45 (by rw [s8]; decide) (by rw [s8]; decide) (by rw [s8]; rfl) (by decide) ?_
      exact law_case_8 hfl C9 C0 hL hk6 ⟨hc, hs⟩ hW G hl hK
    by_cases s9 : k9 = 9
    · refine lv_tableIn (off := 597) (tgt := 642) hx hb dL_law_45 (by rw [s9]; decide) (by rw [s9]; decide) (by rw [s9]; rfl) (by decide) ?_
      exact law_case_9 hfl C9 C0 hL hk6 ⟨hc, hs⟩ hW G hl hK
    by_cases s10 : k9 = 10
    · refine lv_tableIn (off := 613) (tgt := 658) hx hb dL_law_45 (by rw [s10]; decide) (by rw [s10]; decide) (by rw [s10]; rfl) (by decide) ?_
      exact law_case_10 hfl C9 C0 hL hk6 ⟨hc, hs⟩ hW G hl hK
    by_cases s11 : k9 = 11
    · refine lv_tableIn (off := 629) (tgt := 674) hx hb dL_law_45 (by rw [s11]; decide) (by rw [s11]; decide) (by rw [s11]; rfl) (by decide) ?_
      exact law_case_11 hfl C9 C0 hL hk6 ⟨hc, hs⟩ hW G hl hK
    by_cases s12 : k9 = 12
    · refine lv_tableIn (off := 645) (tgt := 690) hx hb dL_law_45 (by rw [s12]; decide) (by rw [s12]; decide) (by rw [s12]; rfl) (by decide) ?_
      exact law_case_12 hfl C9 C0 hL hk6 ⟨hc, hs⟩ hW G hl hK
    by_cases s13 : k9 = 13
    · refine lv_tableIn (off := 673) (tgt := 718) hx hb dL_law_45 (by rw [s13]; decide) (by rw [s13]; decide) (by rw [s13]; rfl) (by decide) ?_
      exact law_case_13 hfl C9 C0 hL hk6 ⟨hc, hs⟩ hW G hl hK
    by_cases s14 : k9 = 14
    · refine lv_tableIn (off := 713) (tgt := 758) hx hb dL_law_45 (by rw [s14]; decide) (by rw [s14]; decide) (by rw [s14]; rfl) (by decide) ?_
      exact law_case_14 hfl C9 C0 hL hk6 ⟨hc, hs⟩ hW G hl hK
    by_cases s15 : k9 = 15
    · refine lv_tableIn (off := 765) (tgt := 810) hx hb dL_law_45 (by rw [s15]; decide) (by rw [s15]; decide) (by rw [s15]; rfl) (by decide) ?_
      exact law_case_15 hfl C9 C0 hL hk6 ⟨hc, hs⟩ hW G hl hK
    by_cases s16 : k9 = 16
    · refine lv_tableIn (off := 817) (tgt := 862) hx hb dL_law_45 (by rw [s16]; decide) (by rw [s16]; decide) (by rw [s16]; rfl) (by decide) ?_
      exact law_case_16 hfl C9 C0 hL hk6 ⟨hc, hs⟩ hW G hl hK
    by_cases s17 : k9 = 17
    · refine lv_tableIn (off := 869) (tgt := 914) hx hb dL_law_45 (by rw [s17]; decide) (by rw [s17]; decide) (by rw [s17]; rfl) (by decide) ?_
      exact law_case_17 hfl C9 C0 hL hk6 ⟨hc, hs⟩ hW G hl hK
    by_cases s18 : k9 = 18
    · refine lv_tableIn (off := 921) (tgt := 966) hx hb dL_law_45 (by rw [s18]; decide) (by rw [s18]; decide) (by rw [s18]; rfl) (by decide) ?_
      exact law_case_18 hfl C9 C0 hL hk6 ⟨hc, hs⟩ hW G hl hK
    by_cases s19 : k9 = 19
    · refine lv_tableIn (off := 965) (tgt := 1010) hx hb dL_law_45 (by rw [s19]; decide) (by rw [s19]; decide) (by rw [s19]; rfl) (by decide) ?_
      exact law_case_19 hfl C9 C0 hL hk6 ⟨hc, hs⟩ hW G hl hK
    by_cases s20 : k9 = 20
    · refine lv_tableIn (off := 978) (tgt := 1023) hx hb dL_law_45 (by rw [s20]; decide) (by rw [s20]; decide) (by rw [s20]; rfl) (by decide) ?_
      exact law_case_20 hfl C9 C0 hL hk6 ⟨hc, hs⟩ hW G hl hK
    by_cases s21 : k9 = 21
    · refine lv_tableIn (off := 1007) (tgt := 1052) hx hb dL_law_45 (by rw [s21]; decide) (by rw [s21]; decide) (by rw [s21]; rfl) (by decide) ?_
      exact law_case_21 hfl C9 C0 hL hk6 ⟨hc, hs⟩ hW G hl hK
    by_cases s22 : k9 = 22
    · refine lv_tableIn (off := 1048) (tgt := 1093) hx hb dL_law_45 (by rw [s22]; decide) (by rw [s22]; decide) (by rw [s22]; rfl) (by decide) ?_
      exact law_case_22 hfl C9 C0 hL hk6 ⟨hc, hs⟩ hW G hl hK
    by_cases s23 : k9 = 23
    · refine lv_tableIn (off := 1116) (tgt := 1161) hx hb dL_law_45 (by rw [s23]; decide) (by rw [s23]; decide) (by rw [s23]; rfl) (by decide) ?_
      exact law_case_23 hfl C9 C0 hL hk6 ⟨hc, hs⟩ hW G hl hK
    by_cases s24 : k9 = 24
    · refine lv_tableIn (off := 1156) (tgt := 1201) hx hb dL_law_45 (by rw [s24]; decide) (by rw [s24]; decide) (by rw [s24]; rfl) (by decide) ?_
      exact law_case_24 hfl C9 C0 hL hk6 ⟨hc, hs⟩ hW G hl hK
    by_cases s25 : k9 = 25
    · refine lv_tableIn (off := 1197) (tgt := 1242) hx hb dL_law_45 (by rw [s25]; decide) (by rw [s25]; decide) (by rw [s25]; rfl) (by decide) ?_
      exact law_case_25 hfl C9 C0 hL hk6 ⟨hc, hs⟩ hW G hl hK
    by_cases s26 : k9 = 26
    · refine lv_tableIn (off := 1210) (tgt := 1255) hx hb dL_law_45 (by rw [s26]; decide) (by rw [s26]; decide) (by rw [s26]; rfl) (by decide) ?_
      exact law_case_26 hfl C9 C0 hL hk6 ⟨hc, hs⟩ hW G hl hK
    by_cases s27 : k9 = 27
    · refine lv_tableIn (off := 1223) (tgt := 1268) hx hb dL_law_45 (by rw [s27]; decide) (by rw [s27]; decide) (by rw [s27]; rfl) (by decide) ?_
      exact law_case_27 hfl C9 C0 hL hk6 ⟨hc, hs⟩ hW G hl hK
    by_cases s28 : k9 = 28
    · refine lv_tableIn (off := 1239) (tgt := 1284) hx hb dL_law_45 (by rw [s28]; decide) (by rw [s28]; decide) (by rw [s28]; rfl) (by decide) ?_
      exact law_case_28 hfl C9 C0 hL hk6 ⟨hc, hs⟩ hW G hl hK
    by_cases s29 : k9 = 29
    · refine lv_tableIn (off := 1255) (tgt := 1300) hx hb dL_law_45 (by rw [s29]; decide) (by rw [s29]; decide) (by rw [s29]; rfl) (by decide) ?_
      exact law_case_29 hfl C9 C0 hL hk6 ⟨hc, hs⟩ hW G hl hK
    by_cases s30 : k9 = 30
    · refine lv_tableIn (off := 1271) (tgt := 1316) hx hb dL_law_45 (by rw [s30]; decide) (by rw [s30]; decide) (by rw [s30]; rfl) (by decide) ?_
      exact law_case_30 hfl C9 C0 hL hk6 ⟨hc, hs⟩ hW G hl hK
    have s99 : k9.toInt < 0 ∨ 30 < k9.toInt := by
      have t0 : k9.toInt ≠ 0 := fun z => s0 (Int32.toInt_inj.mp z)
      have t1 : k9.toInt ≠ 1 := fun z => s1 (Int32.toInt_inj.mp z)
      have t2 : k9.toInt ≠ 2 := fun z => s2 (Int32.toInt_inj.mp z)
      have t3 : k9.toInt ≠ 3 := fun z => s3 (Int32.toInt_inj.mp z)
      have t4 : k9.toInt ≠ 4 := fun z => s4 (Int32.toInt_inj.mp z)
      have t5 : k9.toInt ≠ 5 := fun z => s5 (Int32.toInt_inj.mp z)
      have t6 : k9.toInt ≠ 6 := fun z => s6 (Int32.toInt_inj.mp z)
      have t7 : k9.toInt ≠ 7 := fun z => s7 (Int32.toInt_inj.mp z)
      have t8 : k9.toInt ≠ 8 := fun z => s8 (Int32.toInt_inj.mp z)
      have t9 : k9.toInt ≠ 9 := fun z => s9 (Int32.toInt_inj.mp z)
      have t10 : k9.toInt ≠ 10 := fun z => s10 (Int32.toInt_inj.mp z)
      have t11 : k9.toInt ≠ 11 := fun z => s11 (Int32.toInt_inj.mp z)
      have t12 : k9.toInt ≠ 12 := fun z => s12 (Int32.toInt_inj.mp z)
      have t13 : k9.toInt ≠ 13 := fun z => s13 (Int32.toInt_inj.mp z)
      have t14 : k9.toInt ≠ 14 := fun z => s14 (Int32.toInt_inj.mp z)
      have t15 : k9.toInt ≠ 15 := fun z => s15 (Int32.toInt_inj.mp z)
      have t16 : k9.toInt ≠ 16 := fun z => s16 (Int32.toInt_inj.mp z)
      have t17 : k9.toInt ≠ 17 := fun z => s17 (Int32.toInt_inj.mp z)
      have t18 : k9.toInt ≠ 18 := fun z => s18 (Int32.toInt_inj.mp z)
      have t19 : k9.toInt ≠ 19 := fun z => s19 (Int32.toInt_inj.mp z)
      have t20 : k9.toInt ≠ 20 := fun z => s20 (Int32.toInt_inj.mp z)
      have t21 : k9.toInt ≠ 21 := fun z => s21 (Int32.toInt_inj.mp z)
      have t22 : k9.toInt ≠ 22 := fun z => s22 (Int32.toInt_inj.mp z)
      have t23 : k9.toInt ≠ 23 := fun z => s23 (Int32.toInt_inj.mp z)
      have t24 : k9.toInt ≠ 24 := fun z => s24 (Int32.toInt_inj.mp z)
      have t25 : k9.toInt ≠ 25 := fun z => s25 (Int32.toInt_inj.mp z)
      have t26 : k9.toInt ≠ 26 := fun z => s26 (Int32.toInt_inj.mp z)
      have t27 : k9.toInt ≠ 27 := fun z => s27 (Int32.toInt_inj.mp z)
      have t28 : k9.toInt ≠ 28 := fun z => s28 (Int32.toInt_inj.mp z)
      have t29 : k9.toInt ≠ 29 := fun z => s29 (Int32.toInt_inj.mp z)
      have t30 : k9.toInt ≠ 30 := fun z => s30 (Int32.toInt_inj.mp z)
      omega
    refine lv_tableOut (tgt := 1332) hx hb dL_law_45 s99 (by decide) ?_
    exact hK th o f H locs ls cells slots (WJ_k hW) G hl (by omega) (by omega)
