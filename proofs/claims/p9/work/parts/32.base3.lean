/-! tables' array classes, small facts of numbers, words of callees by place -/
abbrev hTy (cy : Nat → ClassId) : List (ClassId × FieldType) := [(cy 0, .int), (cy 1, .char), (cy 2, .float), (cy 3, .object RX0), (cy 4, .object RX5), (cy 5, .long), (cy 6, .double)]
theorem mc_objinit : Cond.code objectInit ⟨#[0xb1]⟩ 1 none ∈ lw_tbl := hin1 (List.mem_of_getElem? (i := 31) rfl)
theorem hinb {x : Int32} {n : Nat} (h1 : ¬ x < 0) (h2 : ¬ Int32.ofNat n ≤ x) (hn : n < 2147483648) : vp_in x n := by
  rw [vp_in_iff]
  have e : (Int32.ofNat n).toInt = (n : Int) := nI_toInt (n := n) (by omega)
  simp only [Int32.lt_iff_toInt_lt, Int32.le_iff_toInt_le, e, Int32.toInt_zero] at h1 h2
  omega
theorem hinb' {x : Int32} {n : Nat} (h1 : 0 ≤ x) (h2 : x < Int32.ofNat n) (hn : n < 2147483648) : vp_in x n := hinb (fun q => by simp only [Int32.lt_iff_toInt_lt, Int32.le_iff_toInt_le, Int32.toInt_zero] at *; omega) (fun q => by simp only [Int32.lt_iff_toInt_lt, Int32.le_iff_toInt_le] at *; omega) hn
def hmax (a b : Int32) : Int32 := if a ≤ b then b else a
def hmin (a b : Int32) : Int32 := if a ≤ b then a else b
theorem hZ01 {r : Int32} {P : Prop} (h : (r = 1 ∧ P) ∨ (r = 0 ∧ ¬ P)) : narrow .boolean (.int r) = .int r := by rcases h with ⟨rfl, -⟩ | ⟨rfl, -⟩ <;> rfl
theorem hiX0 : ∀ w ∈ u_ws RX0 TX0 11, w ∈ lw_tbl.filter hKind := fun w h => hwf (hinX_X0 w h) ((by decide +kernel : ∀ w ∈ wsX00, hKind w = true) w h)
theorem hiX1 : ∀ w ∈ u_ws RX1 TX1 9, w ∈ lw_tbl.filter hKind := fun w h => hwf (hinX_X1 w h) ((by decide +kernel : ∀ w ∈ wsX10, hKind w = true) w h)
theorem hiX2 : ∀ w ∈ u_ws RX2 TX2 6, w ∈ lw_tbl.filter hKind := fun w h => hwf (hinX_X2 w h) ((by decide +kernel : ∀ w ∈ wsX20, hKind w = true) w h)
theorem hiX3 : ∀ w ∈ u_ws RX3 TX3 9, w ∈ lw_tbl.filter hKind := fun w h => hwf (hinX_X3 w h) ((by decide +kernel : ∀ w ∈ wsX30, hKind w = true) w h)
theorem hiX4 : ∀ w ∈ u_ws RX4 TX4 4, w ∈ lw_tbl.filter hKind := fun w h => hwf (hinX_X4 w h) ((by decide +kernel : ∀ w ∈ wsX40, hKind w = true) w h)
theorem hiX5 : ∀ w ∈ u_ws RX5 TX5 9, w ∈ lw_tbl.filter hKind := fun w h => hwf (hinX_X5 w h) ((by decide +kernel : ∀ w ∈ wsX50, hKind w = true) w h)
theorem hiX6 : ∀ w ∈ u_ws RX6 TX6 3, w ∈ lw_tbl.filter hKind := fun w h => hwf (hinX_X6 w h) ((by decide +kernel : ∀ w ∈ wsX60, hKind w = true) w h)
theorem hiX7 : ∀ w ∈ u_ws RX7 TX7 5, w ∈ lw_tbl.filter hKind := fun w h => hwf (hinX_X7 w h) ((by decide +kernel : ∀ w ∈ wsX70, hKind w = true) w h)
theorem hiX8 : ∀ w ∈ u_ws RX8 TX8 10, w ∈ lw_tbl.filter hKind := fun w h => hwf (hinX_X8 w h) ((by decide +kernel : ∀ w ∈ wsX80, hKind w = true) w h)
theorem hiX9 : ∀ w ∈ u_ws RX9 TX9 22, w ∈ lw_tbl.filter hKind := fun w h => hwf (hinX_X9 w h) ((by decide +kernel : ∀ w ∈ wsX90, hKind w = true) w h)
theorem hcn_RX0 : RX0 ≠ "java/lang/invoke/MethodHandle" ∧ RX0 ≠ "java/lang/invoke/VarHandle" := by decide
theorem hdd_0 : (parseMethodDescriptor "()V").map (fun d => d.parameters.length) = some 0 := by decide +kernel
theorem hY_X0_init : hY yX0_init cX0_init 1 none 0 := ⟨mc_X0_init, mz_X0, hcn_RX0, hdd_0⟩
theorem hdd_1 : (parseMethodDescriptor "(IZ)V").map (fun d => d.parameters.length) = some 2 := by decide +kernel
theorem hY_X0_start : hY yX0_start cX0_start 4 none 2 := ⟨mc_X0_start, mz_X0, hcn_RX0, hdd_1⟩
theorem hdd_2 : (parseMethodDescriptor "(I)I").map (fun d => d.parameters.length) = some 1 := by decide +kernel
theorem hY_X0_total : hY yX0_total cX0_total 2 (some .int) 1 := ⟨mc_X0_total, mz_X0, hcn_RX0, hdd_2⟩
theorem hdd_3 : (parseMethodDescriptor "()I").map (fun d => d.parameters.length) = some 0 := by decide +kernel
theorem hY_X0_value : hY yX0_value cX0_value 2 (some .int) 0 := ⟨mc_X0_value, mz_X0, hcn_RX0, hdd_3⟩
theorem hY_X0_bowlRefusal : hY yX0_bowlRefusal cX0_bowlRefusal 3 (some .int) 1 := ⟨mc_X0_bowlRefusal, mz_X0, hcn_RX0, hdd_2⟩
theorem hY_X0_completeOvers : hY yX0_completeOvers cX0_completeOvers 2 (some .int) 1 := ⟨mc_X0_completeOvers, mz_X0, hcn_RX0, hdd_2⟩
theorem hY_X0_startOver : hY yX0_startOver cX0_startOver 2 (some .int) 1 := ⟨mc_X0_startOver, mz_X0, hcn_RX0, hdd_2⟩
theorem hY_X0_finishOver : hY yX0_finishOver cX0_finishOver 1 none 0 := ⟨mc_X0_finishOver, mz_X0, hcn_RX0, hdd_0⟩
theorem hdd_4 : (parseMethodDescriptor "(I)Z").map (fun d => d.parameters.length) = some 1 := by decide +kernel
theorem hY_X0_canLose : hY yX0_canLose cX0_canLose 2 (some .boolean) 1 := ⟨mc_X0_canLose, mz_X0, hcn_RX0, hdd_4⟩
theorem hY_X0_lowerLimit : hY yX0_lowerLimit cX0_lowerLimit 3 (some .int) 1 := ⟨mc_X0_lowerLimit, mz_X0, hcn_RX0, hdd_2⟩
theorem hdd_5 : (parseMethodDescriptor "(LWicketScorer$Step;)I").map (fun d => d.parameters.length) = some 1 := by decide +kernel
theorem hY_X0_scoreBall : hY yX0_scoreBall cX0_scoreBall 2 (some .int) 1 := ⟨mc_X0_scoreBall, mz_X0, hcn_RX0, hdd_5⟩
theorem hY_X0_scoreWicket : hY yX0_scoreWicket cX0_scoreWicket 4 (some .int) 1 := ⟨mc_X0_scoreWicket, mz_X0, hcn_RX0, hdd_5⟩
theorem hdd_6 : (parseMethodDescriptor "(LWicketScorer$Step;)V").map (fun d => d.parameters.length) = some 1 := by decide +kernel
theorem hY_X0_count : hY yX0_count cX0_count 2 none 1 := ⟨mc_X0_count, mz_X0, hcn_RX0, hdd_6⟩
theorem hY_X0_countExtras : hY yX0_countExtras cX0_countExtras 2 none 1 := ⟨mc_X0_countExtras, mz_X0, hcn_RX0, hdd_6⟩
theorem hY_X0_countForBowler : hY yX0_countForBowler cX0_countForBowler 3 none 1 := ⟨mc_X0_countForBowler, mz_X0, hcn_RX0, hdd_6⟩
theorem hY_X0_countForStriker : hY yX0_countForStriker cX0_countForStriker 2 none 1 := ⟨mc_X0_countForStriker, mz_X0, hcn_RX0, hdd_6⟩
theorem hY_X0_countForPartnership : hY yX0_countForPartnership cX0_countForPartnership 3 none 1 := ⟨mc_X0_countForPartnership, mz_X0, hcn_RX0, hdd_6⟩
theorem hdd_7 : (parseMethodDescriptor "(II)V").map (fun d => d.parameters.length) = some 2 := by decide +kernel
theorem hY_X0_countWicket : hY yX0_countWicket cX0_countWicket 3 none 2 := ⟨mc_X0_countWicket, mz_X0, hcn_RX0, hdd_7⟩
theorem hY_X0_changeEnds : hY yX0_changeEnds cX0_changeEnds 2 none 0 := ⟨mc_X0_changeEnds, mz_X0, hcn_RX0, hdd_0⟩
theorem hY_X0_retireBatter : hY yX0_retireBatter cX0_retireBatter 3 (some .int) 1 := ⟨mc_X0_retireBatter, mz_X0, hcn_RX0, hdd_5⟩
theorem hY_X0_canComeIn : hY yX0_canComeIn cX0_canComeIn 3 (some .boolean) 1 := ⟨mc_X0_canComeIn, mz_X0, hcn_RX0, hdd_4⟩
theorem hY_X0_chooseNext : hY yX0_chooseNext cX0_chooseNext 3 (some .int) 1 := ⟨mc_X0_chooseNext, mz_X0, hcn_RX0, hdd_2⟩
theorem hY_X0_nextBatter : hY yX0_nextBatter cX0_nextBatter 2 (some .int) 0 := ⟨mc_X0_nextBatter, mz_X0, hcn_RX0, hdd_3⟩
theorem hY_X0_lowestWhoStands : hY yX0_lowestWhoStands cX0_lowestWhoStands 3 (some .int) 1 := ⟨mc_X0_lowestWhoStands, mz_X0, hcn_RX0, hdd_2⟩
theorem hdd_8 : (parseMethodDescriptor "(III)V").map (fun d => d.parameters.length) = some 3 := by decide +kernel
theorem hY_X0_leave : hY yX0_leave cX0_leave 4 none 3 := ⟨mc_X0_leave, mz_X0, hcn_RX0, hdd_8⟩
theorem hY_X0_beginPartnership : hY yX0_beginPartnership cX0_beginPartnership 2 none 0 := ⟨mc_X0_beginPartnership, mz_X0, hcn_RX0, hdd_0⟩
theorem hY_X0_ending : hY yX0_ending cX0_ending 1 (some .int) 0 := ⟨mc_X0_ending, mz_X0, hcn_RX0, hdd_3⟩
theorem hdd_9 : (parseMethodDescriptor "(I)V").map (fun d => d.parameters.length) = some 1 := by decide +kernel
theorem hY_X0_finish : hY yX0_finish cX0_finish 2 none 1 := ⟨mc_X0_finish, mz_X0, hcn_RX0, hdd_9⟩
theorem hdd_10 : (parseMethodDescriptor "(LWicketScorer$Innings;)Z").map (fun d => d.parameters.length) = some 1 := by decide +kernel
theorem hY_X0_isLike : hY yX0_isLike cX0_isLike 2 (some .boolean) 1 := ⟨mc_X0_isLike, mz_X0, hcn_RX0, hdd_10⟩
theorem hcn_RX1 : RX1 ≠ "java/lang/invoke/MethodHandle" ∧ RX1 ≠ "java/lang/invoke/VarHandle" := by decide
theorem hY_X1_init : hY yX1_init cX1_init 2 none 0 := ⟨mc_X1_init, mz_X1, hcn_RX1, hdd_0⟩
theorem hY_X1_start : hY yX1_start cX1_start 4 none 3 := ⟨mc_X1_start, mz_X1, hcn_RX1, hdd_8⟩
theorem hdd_11 : (parseMethodDescriptor "()Z").map (fun d => d.parameters.length) = some 0 := by decide +kernel
theorem hY_X1_hasMatch : hY yX1_hasMatch cX1_hasMatch 1 (some .boolean) 0 := ⟨mc_X1_hasMatch, mz_X1, hcn_RX1, hdd_11⟩
theorem hY_X1_hasRoom : hY yX1_hasRoom cX1_hasRoom 2 (some .boolean) 1 := ⟨mc_X1_hasRoom, mz_X1, hcn_RX1, hdd_4⟩
theorem hdd_12 : (parseMethodDescriptor "(I)LWicketScorer$Step;").map (fun d => d.parameters.length) = some 1 := by decide +kernel
theorem hY_X1_step : hY yX1_step cX1_step 2 (some (.object "WicketScorer$Step")) 1 := ⟨mc_X1_step, mz_X1, hcn_RX1, hdd_12⟩
theorem hY_X1_add : hY yX1_add cX1_add 2 none 1 := ⟨mc_X1_add, mz_X1, hcn_RX1, hdd_6⟩
theorem hY_X1_endCommand : hY yX1_endCommand cX1_endCommand 1 none 0 := ⟨mc_X1_endCommand, mz_X1, hcn_RX1, hdd_0⟩
theorem hY_X1_dropCommand : hY yX1_dropCommand cX1_dropCommand 2 none 0 := ⟨mc_X1_dropCommand, mz_X1, hcn_RX1, hdd_0⟩
theorem hdd_13 : (parseMethodDescriptor "(LWicketScorer$Log;)V").map (fun d => d.parameters.length) = some 1 := by decide +kernel
theorem hY_X1_copy : hY yX1_copy cX1_copy 3 none 1 := ⟨mc_X1_copy, mz_X1, hcn_RX1, hdd_13⟩
theorem hcn_RX2 : RX2 ≠ "java/lang/invoke/MethodHandle" ∧ RX2 ≠ "java/lang/invoke/VarHandle" := by decide
theorem hY_X2_init : hY yX2_init cX2_init 2 none 0 := ⟨mc_X2_init, mz_X2, hcn_RX2, hdd_0⟩
theorem hY_X2_follow : hY yX2_follow cX2_follow 3 none 1 := ⟨mc_X2_follow, mz_X2, hcn_RX2, hdd_13⟩
theorem hY_X2_hasBegun : hY yX2_hasBegun cX2_hasBegun 2 (some .boolean) 1 := ⟨mc_X2_hasBegun, mz_X2, hcn_RX2, hdd_4⟩
theorem hdd_14 : (parseMethodDescriptor "(I)LWicketScorer$Innings;").map (fun d => d.parameters.length) = some 1 := by decide +kernel
theorem hY_X2_at : hY yX2_at cX2_at 3 (some (.object "WicketScorer$Innings")) 1 := ⟨mc_X2_at, mz_X2, hcn_RX2, hdd_14⟩
theorem hdd_15 : (parseMethodDescriptor "()LWicketScorer$Innings;").map (fun d => d.parameters.length) = some 0 := by decide +kernel
theorem hY_X2_present : hY yX2_present cX2_present 1 (some (.object "WicketScorer$Innings")) 0 := ⟨mc_X2_present, mz_X2, hcn_RX2, hdd_15⟩
theorem hY_X2_hasResources : hY yX2_hasResources cX2_hasResources 1 (some .boolean) 0 := ⟨mc_X2_hasResources, mz_X2, hcn_RX2, hdd_11⟩
theorem hY_X2_lastNumber : hY yX2_lastNumber cX2_lastNumber 1 (some .int) 0 := ⟨mc_X2_lastNumber, mz_X2, hcn_RX2, hdd_3⟩
theorem hY_X2_isLastPlayed : hY yX2_isLastPlayed cX2_isLastPlayed 1 (some .boolean) 0 := ⟨mc_X2_isLastPlayed, mz_X2, hcn_RX2, hdd_11⟩
theorem hY_X2_battingTeam : hY yX2_battingTeam cX2_battingTeam 2 (some .int) 1 := ⟨mc_X2_battingTeam, mz_X2, hcn_RX2, hdd_2⟩
theorem hY_X2_refusal : hY yX2_refusal cX2_refusal 3 (some .int) 1 := ⟨mc_X2_refusal, mz_X2, hcn_RX2, hdd_5⟩
theorem hY_X2_perform : hY yX2_perform cX2_perform 5 (some .int) 1 := ⟨mc_X2_perform, mz_X2, hcn_RX2, hdd_5⟩
theorem hdd_16 : (parseMethodDescriptor "(Z)I").map (fun d => d.parameters.length) = some 1 := by decide +kernel
theorem hY_X2_dueEnd : hY yX2_dueEnd cX2_dueEnd 3 (some .int) 1 := ⟨mc_X2_dueEnd, mz_X2, hcn_RX2, hdd_16⟩
theorem hY_X2_goOn : hY yX2_goOn cX2_goOn 3 none 0 := ⟨mc_X2_goOn, mz_X2, hcn_RX2, hdd_0⟩
theorem hY_X2_target : hY yX2_target cX2_target 2 (some .int) 0 := ⟨mc_X2_target, mz_X2, hcn_RX2, hdd_3⟩
theorem hdd_17 : (parseMethodDescriptor "(JJJ)I").map (fun d => d.parameters.length) = some 3 := by decide +kernel
theorem hY_X2_revisedTarget : hY yX2_revisedTarget cX2_revisedTarget 6 (some .int) 3 := ⟨mc_X2_revisedTarget, mz_X2, hcn_RX2, hdd_17⟩
theorem hY_X2_outcome : hY yX2_outcome cX2_outcome 2 (some .int) 0 := ⟨mc_X2_outcome, mz_X2, hcn_RX2, hdd_3⟩
theorem hY_X2_numberOfPresent : hY yX2_numberOfPresent cX2_numberOfPresent 3 (some .int) 1 := ⟨mc_X2_numberOfPresent, mz_X2, hcn_RX2, hdd_2⟩
theorem hdd_18 : (parseMethodDescriptor "(LWicketScorer$Match;)Z").map (fun d => d.parameters.length) = some 1 := by decide +kernel
theorem hY_X2_isLike : hY yX2_isLike cX2_isLike 3 (some .boolean) 1 := ⟨mc_X2_isLike, mz_X2, hcn_RX2, hdd_18⟩
theorem hcn_RX3 : RX3 ≠ "java/lang/invoke/MethodHandle" ∧ RX3 ≠ "java/lang/invoke/VarHandle" := by decide
theorem hY_X3_init : hY yX3_init cX3_init 1 none 0 := ⟨mc_X3_init, mz_X3, hcn_RX3, hdd_0⟩
theorem hY_X3_quota : hY yX3_quota cX3_quota 1 (some .int) 1 := ⟨mc_X3_quota, mz_X3, hcn_RX3, hdd_2⟩
theorem hY_X3_start : hY yX3_start cX3_start 2 none 1 := ⟨mc_X3_start, mz_X3, hcn_RX3, hdd_9⟩
theorem hY_X3_rest : hY yX3_rest cX3_rest 1 none 0 := ⟨mc_X3_rest, mz_X3, hcn_RX3, hdd_0⟩
theorem hY_X3_finishOver : hY yX3_finishOver cX3_finishOver 2 none 1 := ⟨mc_X3_finishOver, mz_X3, hcn_RX3, hdd_9⟩
theorem hY_X3_begun : hY yX3_begun cX3_begun 1 (some .int) 0 := ⟨mc_X3_begun, mz_X3, hcn_RX3, hdd_3⟩
theorem hdd_19 : (parseMethodDescriptor "(II)I").map (fun d => d.parameters.length) = some 2 := by decide +kernel
theorem hY_X3_runsAfter : hY yX3_runsAfter cX3_runsAfter 3 (some .int) 2 := ⟨mc_X3_runsAfter, mz_X3, hcn_RX3, hdd_19⟩
theorem hdd_20 : (parseMethodDescriptor "(LWicketScorer$Overs;)Z").map (fun d => d.parameters.length) = some 1 := by decide +kernel
theorem hY_X3_isLike : hY yX3_isLike cX3_isLike 3 (some .boolean) 1 := ⟨mc_X3_isLike, mz_X3, hcn_RX3, hdd_20⟩
theorem hcn_RX4 : RX4 ≠ "java/lang/invoke/MethodHandle" ∧ RX4 ≠ "java/lang/invoke/VarHandle" := by decide
theorem hY_X4_init : hY yX4_init cX4_init 1 none 0 := ⟨mc_X4_init, mz_X4, hcn_RX4, hdd_0⟩
theorem hdd_21 : (parseMethodDescriptor "(LWicketScorer$Innings;Z)I").map (fun d => d.parameters.length) = some 2 := by decide +kernel
theorem hY_X4_store : hY yX4_store cX4_store 5 (some .int) 2 := ⟨mc_X4_store, mz_X4, hcn_RX4, hdd_21⟩
theorem hY_X4_has : hY yX4_has cX4_has 2 (some .boolean) 1 := ⟨mc_X4_has, mz_X4, hcn_RX4, hdd_4⟩
theorem hdd_22 : (parseMethodDescriptor "(I)F").map (fun d => d.parameters.length) = some 1 := by decide +kernel
theorem hY_X4_get : hY yX4_get cX4_get 2 (some .float) 1 := ⟨mc_X4_get, mz_X4, hcn_RX4, hdd_22⟩
theorem hdd_23 : (parseMethodDescriptor "(LWicketScorer$Row;I)Z").map (fun d => d.parameters.length) = some 2 := by decide +kernel
theorem hY_X4_take : hY yX4_take cX4_take 6 (some .boolean) 2 := ⟨mc_X4_take, mz_X4, hcn_RX4, hdd_23⟩
theorem hcn_RX5 : RX5 ≠ "java/lang/invoke/MethodHandle" ∧ RX5 ≠ "java/lang/invoke/VarHandle" := by decide
theorem hY_X5_init : hY yX5_init cX5_init 2 none 1 := ⟨mc_X5_init, mz_X5, hcn_RX5, hdd_9⟩
theorem hdd_24 : (parseMethodDescriptor "(II)LWicketScorer$Step;").map (fun d => d.parameters.length) = some 2 := by decide +kernel
theorem hY_X5_ofNumber : hY yX5_ofNumber cX5_ofNumber 3 (some (.object "WicketScorer$Step")) 2 := ⟨mc_X5_ofNumber, mz_X5, hcn_RX5, hdd_24⟩
theorem hdd_25 : (parseMethodDescriptor "(IIZ)LWicketScorer$Step;").map (fun d => d.parameters.length) = some 3 := by decide +kernel
theorem hY_X5_ofBall : hY yX5_ofBall cX5_ofBall 4 (some (.object "WicketScorer$Step")) 3 := ⟨mc_X5_ofBall, mz_X5, hcn_RX5, hdd_25⟩
theorem hdd_26 : (parseMethodDescriptor "(IIZIZ)LWicketScorer$Step;").map (fun d => d.parameters.length) = some 5 := by decide +kernel
theorem hY_X5_ofWicket : hY yX5_ofWicket cX5_ofWicket 6 (some (.object "WicketScorer$Step")) 5 := ⟨mc_X5_ofWicket, mz_X5, hcn_RX5, hdd_26⟩
theorem hdd_27 : (parseMethodDescriptor "(ZZ)LWicketScorer$Step;").map (fun d => d.parameters.length) = some 2 := by decide +kernel
theorem hY_X5_ofRetirement : hY yX5_ofRetirement cX5_ofRetirement 3 (some (.object "WicketScorer$Step")) 2 := ⟨mc_X5_ofRetirement, mz_X5, hcn_RX5, hdd_27⟩
theorem hY_X5_isLegal : hY yX5_isLegal cX5_isLegal 1 (some .boolean) 0 := ⟨mc_X5_isLegal, mz_X5, hcn_RX5, hdd_11⟩
theorem hY_X5_teamRuns : hY yX5_teamRuns cX5_teamRuns 1 (some .int) 0 := ⟨mc_X5_teamRuns, mz_X5, hcn_RX5, hdd_3⟩
theorem hY_X5_strikerRuns : hY yX5_strikerRuns cX5_strikerRuns 1 (some .int) 0 := ⟨mc_X5_strikerRuns, mz_X5, hcn_RX5, hdd_3⟩
theorem hY_X5_bowlerRuns : hY yX5_bowlerRuns cX5_bowlerRuns 1 (some .int) 0 := ⟨mc_X5_bowlerRuns, mz_X5, hcn_RX5, hdd_3⟩
theorem hY_X5_changesEnds : hY yX5_changesEnds cX5_changesEnds 1 (some .boolean) 0 := ⟨mc_X5_changesEnds, mz_X5, hcn_RX5, hdd_11⟩
theorem hY_X5_isPossibleWicket : hY yX5_isPossibleWicket cX5_isPossibleWicket 2 (some .boolean) 0 := ⟨mc_X5_isPossibleWicket, mz_X5, hcn_RX5, hdd_11⟩
theorem hcn_RX6 : RX6 ≠ "java/lang/invoke/MethodHandle" ∧ RX6 ≠ "java/lang/invoke/VarHandle" := by decide
theorem hY_X6_init : hY yX6_init cX6_init 3 none 2 := ⟨mc_X6_init, mz_X6, hcn_RX6, hdd_7⟩
theorem hY_X6_restart : hY yX6_restart cX6_restart 3 none 1 := ⟨mc_X6_restart, mz_X6, hcn_RX6, hdd_9⟩
theorem hY_X6_addRow : hY yX6_addRow cX6_addRow 3 none 0 := ⟨mc_X6_addRow, mz_X6, hcn_RX6, hdd_0⟩
theorem hY_X6_lastRow : hY yX6_lastRow cX6_lastRow 1 (some .int) 0 := ⟨mc_X6_lastRow, mz_X6, hcn_RX6, hdd_3⟩
theorem hY_X6_hasRow : hY yX6_hasRow cX6_hasRow 2 (some .boolean) 1 := ⟨mc_X6_hasRow, mz_X6, hcn_RX6, hdd_4⟩
theorem hY_X6_hasColumn : hY yX6_hasColumn cX6_hasColumn 2 (some .boolean) 1 := ⟨mc_X6_hasColumn, mz_X6, hcn_RX6, hdd_4⟩
theorem hY_X6_get : hY yX6_get cX6_get 5 (some .int) 2 := ⟨mc_X6_get, mz_X6, hcn_RX6, hdd_19⟩
theorem hY_X6_set : hY yX6_set cX6_set 6 none 3 := ⟨mc_X6_set, mz_X6, hcn_RX6, hdd_8⟩
theorem hY_X6_increase : hY yX6_increase cX6_increase 6 none 3 := ⟨mc_X6_increase, mz_X6, hcn_RX6, hdd_8⟩
theorem hdd_28 : (parseMethodDescriptor "(LWicketScorer$Table;)Z").map (fun d => d.parameters.length) = some 1 := by decide +kernel
theorem hY_X6_isLike : hY yX6_isLike cX6_isLike 4 (some .boolean) 1 := ⟨mc_X6_isLike, mz_X6, hcn_RX6, hdd_28⟩
theorem hcn_RX7 : RX7 ≠ "java/lang/invoke/MethodHandle" ∧ RX7 ≠ "java/lang/invoke/VarHandle" := by decide
theorem hY_X7_init : hY yX7_init cX7_init 2 none 0 := ⟨mc_X7_init, mz_X7, hcn_RX7, hdd_0⟩
theorem hY_X7_isFull : hY yX7_isFull cX7_isFull 1 (some .boolean) 0 := ⟨mc_X7_isFull, mz_X7, hcn_RX7, hdd_11⟩
theorem hdd_29 : (parseMethodDescriptor "(C)I").map (fun d => d.parameters.length) = some 1 := by decide +kernel
theorem hY_X7_put : hY yX7_put cX7_put 2 (some .int) 1 := ⟨mc_X7_put, mz_X7, hcn_RX7, hdd_29⟩
theorem hY_X7_clear : hY yX7_clear cX7_clear 1 none 0 := ⟨mc_X7_clear, mz_X7, hcn_RX7, hdd_0⟩
theorem hY_X7_elements : hY yX7_elements cX7_elements 1 (some .int) 0 := ⟨mc_X7_elements, mz_X7, hcn_RX7, hdd_3⟩
theorem hY_X7_element : hY yX7_element cX7_element 2 (some (.object "WicketScorer$Step")) 1 := ⟨mc_X7_element, mz_X7, hcn_RX7, hdd_12⟩
theorem hdd_30 : (parseMethodDescriptor "(I)C").map (fun d => d.parameters.length) = some 1 := by decide +kernel
theorem hY_X7_sign : hY yX7_sign cX7_sign 2 (some .char) 1 := ⟨mc_X7_sign, mz_X7, hcn_RX7, hdd_30⟩
theorem hY_X7_parse : hY yX7_parse cX7_parse 5 (some .int) 0 := ⟨mc_X7_parse, mz_X7, hcn_RX7, hdd_3⟩
theorem hY_X7_keep : hY yX7_keep cX7_keep 2 none 1 := ⟨mc_X7_keep, mz_X7, hcn_RX7, hdd_6⟩
theorem hdd_31 : (parseMethodDescriptor "(C)Z").map (fun d => d.parameters.length) = some 1 := by decide +kernel
theorem hY_X7_isFirst : hY yX7_isFirst cX7_isFirst 1 (some .boolean) 1 := ⟨mc_X7_isFirst, mz_X7, hcn_RX7, hdd_31⟩
theorem hY_X7_needsSecond : hY yX7_needsSecond cX7_needsSecond 1 (some .boolean) 1 := ⟨mc_X7_needsSecond, mz_X7, hcn_RX7, hdd_31⟩
theorem hY_X7_leastSecond : hY yX7_leastSecond cX7_leastSecond 1 (some .int) 1 := ⟨mc_X7_leastSecond, mz_X7, hcn_RX7, hdd_29⟩
theorem hY_X7_mostSecond : hY yX7_mostSecond cX7_mostSecond 1 (some .int) 1 := ⟨mc_X7_mostSecond, mz_X7, hcn_RX7, hdd_29⟩
theorem hdd_32 : (parseMethodDescriptor "(CC)LWicketScorer$Step;").map (fun d => d.parameters.length) = some 2 := by decide +kernel
theorem hY_X7_pair : hY yX7_pair cX7_pair 3 (some (.object "WicketScorer$Step")) 2 := ⟨mc_X7_pair, mz_X7, hcn_RX7, hdd_32⟩
theorem hdd_33 : (parseMethodDescriptor "(C)LWicketScorer$Step;").map (fun d => d.parameters.length) = some 1 := by decide +kernel
theorem hY_X7_single : hY yX7_single cX7_single 1 (some (.object "WicketScorer$Step")) 1 := ⟨mc_X7_single, mz_X7, hcn_RX7, hdd_33⟩
theorem hcn_RX8 : RX8 ≠ "java/lang/invoke/MethodHandle" ∧ RX8 ≠ "java/lang/invoke/VarHandle" := by decide
theorem hY_X8_init : hY yX8_init cX8_init 1 none 0 := ⟨mc_X8_init, mz_X8, hcn_RX8, hdd_0⟩
theorem hdd_34 : (parseMethodDescriptor "(III)I").map (fun d => d.parameters.length) = some 3 := by decide +kernel
theorem hY_X8_begin : hY yX8_begin cX8_begin 4 (some .int) 3 := ⟨mc_X8_begin, mz_X8, hcn_RX8, hdd_34⟩
theorem hY_X8_bowl : hY yX8_bowl cX8_bowl 2 (some .int) 1 := ⟨mc_X8_bowl, mz_X8, hcn_RX8, hdd_2⟩
theorem hdd_35 : (parseMethodDescriptor "(IIZ)I").map (fun d => d.parameters.length) = some 3 := by decide +kernel
theorem hY_X8_ball : hY yX8_ball cX8_ball 4 (some .int) 3 := ⟨mc_X8_ball, mz_X8, hcn_RX8, hdd_35⟩
theorem hdd_36 : (parseMethodDescriptor "(IIZIZ)I").map (fun d => d.parameters.length) = some 5 := by decide +kernel
theorem hY_X8_wicket : hY yX8_wicket cX8_wicket 6 (some .int) 5 := ⟨mc_X8_wicket, mz_X8, hcn_RX8, hdd_36⟩
theorem hdd_37 : (parseMethodDescriptor "(ZZ)I").map (fun d => d.parameters.length) = some 2 := by decide +kernel
theorem hY_X8_retire : hY yX8_retire cX8_retire 3 (some .int) 2 := ⟨mc_X8_retire, mz_X8, hcn_RX8, hdd_37⟩
theorem hY_X8_choose : hY yX8_choose cX8_choose 2 (some .int) 1 := ⟨mc_X8_choose, mz_X8, hcn_RX8, hdd_2⟩
theorem hY_X8_declare : hY yX8_declare cX8_declare 1 (some .int) 0 := ⟨mc_X8_declare, mz_X8, hcn_RX8, hdd_3⟩
theorem hY_X8_loseOvers : hY yX8_loseOvers cX8_loseOvers 2 (some .int) 1 := ⟨mc_X8_loseOvers, mz_X8, hcn_RX8, hdd_2⟩
theorem hY_X8_carryOut : hY yX8_carryOut cX8_carryOut 3 (some .int) 1 := ⟨mc_X8_carryOut, mz_X8, hcn_RX8, hdd_5⟩
theorem hY_X8_append : hY yX8_append cX8_append 2 (some .int) 1 := ⟨mc_X8_append, mz_X8, hcn_RX8, hdd_29⟩
theorem hY_X8_play : hY yX8_play cX8_play 3 (some .int) 0 := ⟨mc_X8_play, mz_X8, hcn_RX8, hdd_3⟩
theorem hY_X8_carryOutElements : hY yX8_carryOutElements cX8_carryOutElements 4 (some .int) 0 := ⟨mc_X8_carryOutElements, mz_X8, hcn_RX8, hdd_3⟩
theorem hY_X8_errorPosition : hY yX8_errorPosition cX8_errorPosition 1 (some .int) 0 := ⟨mc_X8_errorPosition, mz_X8, hcn_RX8, hdd_3⟩
theorem hY_X8_refused : hY yX8_refused cX8_refused 1 (some .int) 0 := ⟨mc_X8_refused, mz_X8, hcn_RX8, hdd_3⟩
theorem hY_X8_now : hY yX8_now cX8_now 2 (some .int) 1 := ⟨mc_X8_now, mz_X8, hcn_RX8, hdd_2⟩
theorem hY_X8_innings : hY yX8_innings cX8_innings 3 (some .int) 2 := ⟨mc_X8_innings, mz_X8, hcn_RX8, hdd_19⟩
theorem hY_X8_batter : hY yX8_batter cX8_batter 4 (some .int) 3 := ⟨mc_X8_batter, mz_X8, hcn_RX8, hdd_34⟩
theorem hY_X8_bowler : hY yX8_bowler cX8_bowler 4 (some .int) 3 := ⟨mc_X8_bowler, mz_X8, hcn_RX8, hdd_34⟩
theorem hY_X8_partnership : hY yX8_partnership cX8_partnership 4 (some .int) 3 := ⟨mc_X8_partnership, mz_X8, hcn_RX8, hdd_34⟩
theorem hY_X8_fall : hY yX8_fall cX8_fall 4 (some .int) 3 := ⟨mc_X8_fall, mz_X8, hcn_RX8, hdd_34⟩
theorem hdd_38 : (parseMethodDescriptor "(LWicketScorer$Table;II)I").map (fun d => d.parameters.length) = some 3 := by decide +kernel
theorem hY_X8_tableNumber : hY yX8_tableNumber cX8_tableNumber 3 (some .int) 3 := ⟨mc_X8_tableNumber, mz_X8, hcn_RX8, hdd_38⟩
theorem hY_X8_needed : hY yX8_needed cX8_needed 3 (some .int) 1 := ⟨mc_X8_needed, mz_X8, hcn_RX8, hdd_16⟩
theorem hY_X8_result : hY yX8_result cX8_result 1 (some .int) 0 := ⟨mc_X8_result, mz_X8, hcn_RX8, hdd_3⟩
theorem hdd_39 : (parseMethodDescriptor "(I)D").map (fun d => d.parameters.length) = some 1 := by decide +kernel
theorem hY_X8_runRate : hY yX8_runRate cX8_runRate 3 (some .double) 1 := ⟨mc_X8_runRate, mz_X8, hcn_RX8, hdd_39⟩
theorem hdd_40 : (parseMethodDescriptor "(II)F").map (fun d => d.parameters.length) = some 2 := by decide +kernel
theorem hY_X8_strikeRate : hY yX8_strikeRate cX8_strikeRate 5 (some .float) 2 := ⟨mc_X8_strikeRate, mz_X8, hcn_RX8, hdd_40⟩
theorem hY_X8_storeOvers : hY yX8_storeOvers cX8_storeOvers 4 (some .int) 3 := ⟨mc_X8_storeOvers, mz_X8, hcn_RX8, hdd_35⟩
theorem hdd_41 : (parseMethodDescriptor "(II)Z").map (fun d => d.parameters.length) = some 2 := by decide +kernel
theorem hY_X8_copyOvers : hY yX8_copyOvers cX8_copyOvers 5 (some .boolean) 2 := ⟨mc_X8_copyOvers, mz_X8, hcn_RX8, hdd_41⟩
theorem hY_X8_storedOvers : hY yX8_storedOvers cX8_storedOvers 3 (some .float) 2 := ⟨mc_X8_storedOvers, mz_X8, hcn_RX8, hdd_40⟩
theorem hY_X8_reason : hY yX8_reason cX8_reason 1 (some .int) 0 := ⟨mc_X8_reason, mz_X8, hcn_RX8, hdd_3⟩
theorem hY_X8_commandCount : hY yX8_commandCount cX8_commandCount 1 (some .int) 0 := ⟨mc_X8_commandCount, mz_X8, hcn_RX8, hdd_3⟩
theorem hY_X8_undo : hY yX8_undo cX8_undo 1 (some .int) 0 := ⟨mc_X8_undo, mz_X8, hcn_RX8, hdd_3⟩
theorem hY_X8_isReplayed : hY yX8_isReplayed cX8_isReplayed 1 (some .boolean) 0 := ⟨mc_X8_isReplayed, mz_X8, hcn_RX8, hdd_11⟩
theorem hY_X8_snapshot : hY yX8_snapshot cX8_snapshot 1 (some .int) 0 := ⟨mc_X8_snapshot, mz_X8, hcn_RX8, hdd_3⟩
theorem hY_X8_restore : hY yX8_restore cX8_restore 1 (some .int) 0 := ⟨mc_X8_restore, mz_X8, hcn_RX8, hdd_3⟩
theorem hY_X8_demandMatch : hY yX8_demandMatch cX8_demandMatch 1 none 0 := ⟨mc_X8_demandMatch, mz_X8, hcn_RX8, hdd_0⟩
theorem hY_X8_demandInnings : hY yX8_demandInnings cX8_demandInnings 2 none 1 := ⟨mc_X8_demandInnings, mz_X8, hcn_RX8, hdd_9⟩
theorem hY_X8_demandPlayer : hY yX8_demandPlayer cX8_demandPlayer 3 none 2 := ⟨mc_X8_demandPlayer, mz_X8, hcn_RX8, hdd_7⟩
theorem hY_X8_demandRow : hY yX8_demandRow cX8_demandRow 1 none 1 := ⟨mc_X8_demandRow, mz_X8, hcn_RX8, hdd_9⟩
theorem hdd_42 : (parseMethodDescriptor "(I)LWicketScorer$Row;").map (fun d => d.parameters.length) = some 1 := by decide +kernel
theorem hY_X8_rowAt : hY yX8_rowAt cX8_rowAt 2 (some (.object "WicketScorer$Row")) 1 := ⟨mc_X8_rowAt, mz_X8, hcn_RX8, hdd_42⟩
theorem hdd_43 : (parseMethodDescriptor "(III)Z").map (fun d => d.parameters.length) = some 3 := by decide +kernel
theorem hY_X8_isWithin : hY yX8_isWithin cX8_isWithin 3 (some .boolean) 3 := ⟨mc_X8_isWithin, mz_X8, hcn_RX8, hdd_43⟩
theorem hY_X8_isPlayer : hY yX8_isPlayer cX8_isPlayer 1 (some .boolean) 1 := ⟨mc_X8_isPlayer, mz_X8, hcn_RX8, hdd_4⟩
theorem hY_X8_leastRuns : hY yX8_leastRuns cX8_leastRuns 1 (some .int) 1 := ⟨mc_X8_leastRuns, mz_X8, hcn_RX8, hdd_2⟩
theorem hY_X8_mostRuns : hY yX8_mostRuns cX8_mostRuns 1 (some .int) 1 := ⟨mc_X8_mostRuns, mz_X8, hcn_RX8, hdd_2⟩
theorem hY_X8_canBeBoundary : hY yX8_canBeBoundary cX8_canBeBoundary 2 (some .boolean) 2 := ⟨mc_X8_canBeBoundary, mz_X8, hcn_RX8, hdd_41⟩
theorem hcn_RX9 : RX9 ≠ "java/lang/invoke/MethodHandle" ∧ RX9 ≠ "java/lang/invoke/VarHandle" := by decide
theorem hY_X9_init : hY yX9_init cX9_init 1 none 0 := ⟨mc_X9_init, mz_X9, hcn_RX9, hdd_0⟩
theorem hY_X9_thrown : hY yX9_thrown cX9_thrown 1 (some .int) 0 := ⟨mc_X9_thrown, mz_X9, hcn_RX9, hdd_3⟩
theorem hY_X9_no : hY yX9_no cX9_no 2 (some .int) 1 := ⟨mc_X9_no, mz_X9, hcn_RX9, hdd_2⟩
theorem hY_X9_isIn : hY yX9_isIn cX9_isIn 3 (some .boolean) 3 := ⟨mc_X9_isIn, mz_X9, hcn_RX9, hdd_43⟩
theorem hdd_44 : (parseMethodDescriptor "([I[II)V").map (fun d => d.parameters.length) = some 3 := by decide +kernel
theorem hY_X9_copies : hY yX9_copies cX9_copies 4 none 3 := ⟨mc_X9_copies, mz_X9, hcn_RX9, hdd_44⟩
theorem hY_X9_at : hY yX9_at cX9_at 2 (some .int) 2 := ⟨mc_X9_at, mz_X9, hcn_RX9, hdd_19⟩
theorem hY_X9_batterAt : hY yX9_batterAt cX9_batterAt 3 (some .int) 3 := ⟨mc_X9_batterAt, mz_X9, hcn_RX9, hdd_34⟩
theorem hY_X9_bowlerAt : hY yX9_bowlerAt cX9_bowlerAt 3 (some .int) 3 := ⟨mc_X9_bowlerAt, mz_X9, hcn_RX9, hdd_34⟩
theorem hY_X9_last : hY yX9_last cX9_last 1 (some .int) 0 := ⟨mc_X9_last, mz_X9, hcn_RX9, hdd_3⟩
theorem hY_X9_team : hY yX9_team cX9_team 2 (some .int) 1 := ⟨mc_X9_team, mz_X9, hcn_RX9, hdd_2⟩
theorem hY_X9_worth : hY yX9_worth cX9_worth 2 (some .int) 2 := ⟨mc_X9_worth, mz_X9, hcn_RX9, hdd_19⟩
theorem hY_X9_share : hY yX9_share cX9_share 5 none 0 := ⟨mc_X9_share, mz_X9, hcn_RX9, hdd_0⟩
theorem hY_X9_opens : hY yX9_opens cX9_opens 3 none 1 := ⟨mc_X9_opens, mz_X9, hcn_RX9, hdd_9⟩
theorem hY_X9_begins : hY yX9_begins cX9_begins 5 none 3 := ⟨mc_X9_begins, mz_X9, hcn_RX9, hdd_8⟩
theorem hY_X9_fifth : hY yX9_fifth cX9_fifth 1 (some .int) 1 := ⟨mc_X9_fifth, mz_X9, hcn_RX9, hdd_2⟩
theorem hY_X9_begin : hY yX9_begin cX9_begin 4 (some .int) 3 := ⟨mc_X9_begin, mz_X9, hcn_RX9, hdd_34⟩
theorem hY_X9_target : hY yX9_target cX9_target 7 (some .int) 0 := ⟨mc_X9_target, mz_X9, hcn_RX9, hdd_3⟩
theorem hdd_45 : (parseMethodDescriptor "(ZZ)V").map (fun d => d.parameters.length) = some 2 := by decide +kernel
theorem hY_X9_looks : hY yX9_looks cX9_looks 5 none 2 := ⟨mc_X9_looks, mz_X9, hcn_RX9, hdd_45⟩
theorem hY_X9_noMatch : hY yX9_noMatch cX9_noMatch 1 (some .int) 0 := ⟨mc_X9_noMatch, mz_X9, hcn_RX9, hdd_3⟩
theorem hY_X9_refusesBowl : hY yX9_refusesBowl cX9_refusesBowl 3 (some .int) 1 := ⟨mc_X9_refusesBowl, mz_X9, hcn_RX9, hdd_2⟩
theorem hY_X9_refusesBall : hY yX9_refusesBall cX9_refusesBall 1 (some .int) 0 := ⟨mc_X9_refusesBall, mz_X9, hcn_RX9, hdd_3⟩
theorem hY_X9_refusesWicket : hY yX9_refusesWicket cX9_refusesWicket 8 (some .int) 5 := ⟨mc_X9_refusesWicket, mz_X9, hcn_RX9, hdd_36⟩
theorem hdd_46 : (parseMethodDescriptor "(IIIIII)I").map (fun d => d.parameters.length) = some 6 := by decide +kernel
theorem hY_X9_refuses : hY yX9_refuses cX9_refuses 7 (some .int) 6 := ⟨mc_X9_refuses, mz_X9, hcn_RX9, hdd_46⟩
theorem hY_X9_does : hY yX9_does cX9_does 9 (some .int) 6 := ⟨mc_X9_does, mz_X9, hcn_RX9, hdd_46⟩
theorem hY_X9_changesEnds : hY yX9_changesEnds cX9_changesEnds 2 none 0 := ⟨mc_X9_changesEnds, mz_X9, hcn_RX9, hdd_0⟩
theorem hY_X9_mayCome : hY yX9_mayCome cX9_mayCome 3 (some .boolean) 1 := ⟨mc_X9_mayCome, mz_X9, hcn_RX9, hdd_4⟩
theorem hY_X9_lowest : hY yX9_lowest cX9_lowest 3 (some .int) 1 := ⟨mc_X9_lowest, mz_X9, hcn_RX9, hdd_2⟩
theorem hY_X9_next : hY yX9_next cX9_next 2 (some .int) 0 := ⟨mc_X9_next, mz_X9, hcn_RX9, hdd_3⟩
theorem hY_X9_begun : hY yX9_begun cX9_begun 1 (some .int) 0 := ⟨mc_X9_begun, mz_X9, hcn_RX9, hdd_3⟩
theorem hY_X9_scores : hY yX9_scores cX9_scores 11 (some .int) 3 := ⟨mc_X9_scores, mz_X9, hcn_RX9, hdd_35⟩
theorem hY_X9_completes : hY yX9_completes cX9_completes 3 none 0 := ⟨mc_X9_completes, mz_X9, hcn_RX9, hdd_0⟩
theorem hY_X9_bowled : hY yX9_bowled cX9_bowled 5 (some .int) 3 := ⟨mc_X9_bowled, mz_X9, hcn_RX9, hdd_35⟩
theorem hY_X9_leaves : hY yX9_leaves cX9_leaves 5 none 3 := ⟨mc_X9_leaves, mz_X9, hcn_RX9, hdd_8⟩
theorem hY_X9_falls : hY yX9_falls cX9_falls 11 (some .int) 5 := ⟨mc_X9_falls, mz_X9, hcn_RX9, hdd_36⟩
theorem hY_X9_retires : hY yX9_retires cX9_retires 4 (some .int) 2 := ⟨mc_X9_retires, mz_X9, hcn_RX9, hdd_37⟩
theorem hY_X9_loses : hY yX9_loses cX9_loses 6 (some .int) 1 := ⟨mc_X9_loses, mz_X9, hcn_RX9, hdd_2⟩
theorem hdd_47 : (parseMethodDescriptor "([I)V").map (fun d => d.parameters.length) = some 1 := by decide +kernel
theorem hY_X9_keeps : hY yX9_keeps cX9_keeps 3 none 1 := ⟨mc_X9_keeps, mz_X9, hcn_RX9, hdd_47⟩
theorem hdd_48 : (parseMethodDescriptor "(IIIIIII)I").map (fun d => d.parameters.length) = some 7 := by decide +kernel
theorem hY_X9_commands : hY yX9_commands cX9_commands 10 (some .int) 7 := ⟨mc_X9_commands, mz_X9, hcn_RX9, hdd_48⟩
theorem hY_X9_bit : hY yX9_bit cX9_bit 1 (some .int) 1 := ⟨mc_X9_bit, mz_X9, hcn_RX9, hdd_16⟩
theorem hY_X9_bowl : hY yX9_bowl cX9_bowl 2 (some .int) 1 := ⟨mc_X9_bowl, mz_X9, hcn_RX9, hdd_2⟩
theorem hdd_49 : (parseMethodDescriptor "(IIZ)Z").map (fun d => d.parameters.length) = some 3 := by decide +kernel
theorem hY_X9_isBall : hY yX9_isBall cX9_isBall 4 (some .boolean) 3 := ⟨mc_X9_isBall, mz_X9, hcn_RX9, hdd_49⟩
theorem hY_X9_ball : hY yX9_ball cX9_ball 4 (some .int) 3 := ⟨mc_X9_ball, mz_X9, hcn_RX9, hdd_35⟩
theorem hY_X9_wicket : hY yX9_wicket cX9_wicket 6 (some .int) 5 := ⟨mc_X9_wicket, mz_X9, hcn_RX9, hdd_36⟩
theorem hY_X9_retire : hY yX9_retire cX9_retire 3 (some .int) 2 := ⟨mc_X9_retire, mz_X9, hcn_RX9, hdd_37⟩
theorem hY_X9_choose : hY yX9_choose cX9_choose 2 (some .int) 1 := ⟨mc_X9_choose, mz_X9, hcn_RX9, hdd_2⟩
theorem hY_X9_declare : hY yX9_declare cX9_declare 1 (some .int) 0 := ⟨mc_X9_declare, mz_X9, hcn_RX9, hdd_3⟩
theorem hY_X9_loseOvers : hY yX9_loseOvers cX9_loseOvers 2 (some .int) 1 := ⟨mc_X9_loseOvers, mz_X9, hcn_RX9, hdd_2⟩
theorem hY_X9_append : hY yX9_append cX9_append 2 (some .int) 1 := ⟨mc_X9_append, mz_X9, hcn_RX9, hdd_29⟩
theorem hY_X9_here : hY yX9_here cX9_here 1 (some .int) 0 := ⟨mc_X9_here, mz_X9, hcn_RX9, hdd_3⟩
theorem hdd_50 : (parseMethodDescriptor "(IIII)V").map (fun d => d.parameters.length) = some 4 := by decide +kernel
theorem hY_X9_element : hY yX9_element cX9_element 5 none 4 := ⟨mc_X9_element, mz_X9, hcn_RX9, hdd_50⟩
theorem hY_X9_follows : hY yX9_follows cX9_follows 3 (some .int) 1 := ⟨mc_X9_follows, mz_X9, hcn_RX9, hdd_2⟩
theorem hY_X9_isElement : hY yX9_isElement cX9_isElement 3 (some .boolean) 0 := ⟨mc_X9_isElement, mz_X9, hcn_RX9, hdd_11⟩
theorem hY_X9_play : hY yX9_play cX9_play 5 (some .int) 0 := ⟨mc_X9_play, mz_X9, hcn_RX9, hdd_3⟩
theorem hY_X9_errorPosition : hY yX9_errorPosition cX9_errorPosition 1 (some .int) 0 := ⟨mc_X9_errorPosition, mz_X9, hcn_RX9, hdd_3⟩
theorem hY_X9_refused : hY yX9_refused cX9_refused 1 (some .int) 0 := ⟨mc_X9_refused, mz_X9, hcn_RX9, hdd_3⟩
theorem hY_X9_hasMatch : hY yX9_hasMatch cX9_hasMatch 2 (some .boolean) 1 := ⟨mc_X9_hasMatch, mz_X9, hcn_RX9, hdd_4⟩
theorem hY_X9_now : hY yX9_now cX9_now 3 (some .int) 1 := ⟨mc_X9_now, mz_X9, hcn_RX9, hdd_2⟩
theorem hY_X9_isInnings : hY yX9_isInnings cX9_isInnings 2 (some .boolean) 1 := ⟨mc_X9_isInnings, mz_X9, hcn_RX9, hdd_4⟩
theorem hdd_51 : (parseMethodDescriptor "(ZIII)I").map (fun d => d.parameters.length) = some 4 := by decide +kernel
theorem hY_X9_asks : hY yX9_asks cX9_asks 5 (some .int) 4 := ⟨mc_X9_asks, mz_X9, hcn_RX9, hdd_51⟩
theorem hY_X9_innings : hY yX9_innings cX9_innings 4 (some .int) 2 := ⟨mc_X9_innings, mz_X9, hcn_RX9, hdd_19⟩
theorem hY_X9_batter : hY yX9_batter cX9_batter 5 (some .int) 3 := ⟨mc_X9_batter, mz_X9, hcn_RX9, hdd_34⟩
theorem hY_X9_bowler : hY yX9_bowler cX9_bowler 5 (some .int) 3 := ⟨mc_X9_bowler, mz_X9, hcn_RX9, hdd_34⟩
theorem hY_X9_shares : hY yX9_shares cX9_shares 2 (some .int) 1 := ⟨mc_X9_shares, mz_X9, hcn_RX9, hdd_2⟩
theorem hY_X9_listed : hY yX9_listed cX9_listed 7 (some .int) 6 := ⟨mc_X9_listed, mz_X9, hcn_RX9, hdd_46⟩
theorem hY_X9_partnership : hY yX9_partnership cX9_partnership 4 (some .int) 3 := ⟨mc_X9_partnership, mz_X9, hcn_RX9, hdd_34⟩
theorem hY_X9_fall : hY yX9_fall cX9_fall 4 (some .int) 3 := ⟨mc_X9_fall, mz_X9, hcn_RX9, hdd_34⟩
theorem hY_X9_needed : hY yX9_needed cX9_needed 3 (some .int) 1 := ⟨mc_X9_needed, mz_X9, hcn_RX9, hdd_16⟩
theorem hY_X9_result : hY yX9_result cX9_result 3 (some .int) 0 := ⟨mc_X9_result, mz_X9, hcn_RX9, hdd_3⟩
theorem hY_X9_runRate : hY yX9_runRate cX9_runRate 2 (some .double) 1 := ⟨mc_X9_runRate, mz_X9, hcn_RX9, hdd_39⟩
theorem hY_X9_strikeRate : hY yX9_strikeRate cX9_strikeRate 3 (some .float) 2 := ⟨mc_X9_strikeRate, mz_X9, hcn_RX9, hdd_40⟩
theorem hY_X9_storeOvers : hY yX9_storeOvers cX9_storeOvers 7 (some .int) 3 := ⟨mc_X9_storeOvers, mz_X9, hcn_RX9, hdd_35⟩
theorem hY_X9_copyOvers : hY yX9_copyOvers cX9_copyOvers 7 (some .boolean) 2 := ⟨mc_X9_copyOvers, mz_X9, hcn_RX9, hdd_41⟩
theorem hY_X9_storedOvers : hY yX9_storedOvers cX9_storedOvers 3 (some .float) 2 := ⟨mc_X9_storedOvers, mz_X9, hcn_RX9, hdd_40⟩
theorem hY_X9_reason : hY yX9_reason cX9_reason 1 (some .int) 0 := ⟨mc_X9_reason, mz_X9, hcn_RX9, hdd_3⟩
theorem hY_X9_commandCount : hY yX9_commandCount cX9_commandCount 1 (some .int) 0 := ⟨mc_X9_commandCount, mz_X9, hcn_RX9, hdd_3⟩
theorem hY_X9_undo : hY yX9_undo cX9_undo 2 (some .int) 0 := ⟨mc_X9_undo, mz_X9, hcn_RX9, hdd_3⟩
theorem hY_X9_isReplayed : hY yX9_isReplayed cX9_isReplayed 3 (some .boolean) 0 := ⟨mc_X9_isReplayed, mz_X9, hcn_RX9, hdd_11⟩
theorem hY_X9_snapshot : hY yX9_snapshot cX9_snapshot 1 (some .int) 0 := ⟨mc_X9_snapshot, mz_X9, hcn_RX9, hdd_3⟩
theorem hY_X9_restore : hY yX9_restore cX9_restore 1 (some .int) 0 := ⟨mc_X9_restore, mz_X9, hcn_RX9, hdd_3⟩
theorem mq_X2_34 : Cond.methodLinkNest RX2 34 yX0_init RX8 ∈ lw_tbl := hin1 (List.mem_of_getElem? (i := 41) rfl)
theorem mq_X0_34 : Cond.methodLinkNest RX0 34 yX3_init RX8 ∈ lw_tbl := hin1 (List.mem_of_getElem? (i := 67) rfl)
theorem mq_X8_38 : Cond.methodLinkNest RX8 38 yX4_init RX8 ∈ lw_tbl := hin2 (List.mem_of_getElem? (i := 44) rfl)
theorem mq_X7_50 : Cond.methodLinkNest RX7 50 yX8_isWithin RX8 ∈ lw_tbl := hin4 (List.mem_of_getElem? (i := 165) rfl)
theorem mq_X7_77 : Cond.methodLinkNest RX7 77 yX8_canBeBoundary RX8 ∈ lw_tbl := hin4 (List.mem_of_getElem? (i := 180) rfl)
theorem hat_64 : ∀ w ∈ vx_atS RX8 64 "java/lang/IllegalArgumentException" ["java/lang/RuntimeException", "java/lang/Exception"], w ∈ lw_tbl ∧ hKind w = true ∧ vx_ot w = true := fun w hw => ⟨hsub [(0, 12), (1, 190), (1, 199), (1, 207), (1, 210), (1, 212), (1, 191), (1, 192), (0, 30), (0, 31), (1, 193), (1, 198), (1, 208), (1, 228), (1, 180), (1, 229), (1, 182), (1, 230), (1, 184), (1, 194), (1, 196), (1, 186), (1, 224), (1, 225), (1, 227), (1, 186), (1, 215), (1, 216), (1, 217), (1, 218), (1, 172), (1, 218), (1, 219), (1, 220), (1, 221), (1, 174), (1, 221), (1, 222), (1, 223), (1, 224), (1, 176), (1, 214), (1, 169), (1, 170), (1, 177), (1, 178), (1, 179), (1, 181), (1, 183), (1, 185), (1, 189), (1, 188), (1, 187)] (by decide +kernel) w hw, (by decide +kernel : ∀ w ∈ vx_atS RX8 64 "java/lang/IllegalArgumentException" ["java/lang/RuntimeException", "java/lang/Exception"], hKind w = true ∧ vx_ot w = true) w hw⟩
theorem hat_89 : ∀ w ∈ vx_atS RX8 89 "java/lang/IndexOutOfBoundsException" ["java/lang/RuntimeException", "java/lang/Exception"], w ∈ lw_tbl ∧ hKind w = true ∧ vx_ot w = true := fun w hw => ⟨hsub [(0, 12), (1, 190), (1, 199), (1, 207), (1, 210), (1, 212), (1, 191), (1, 192), (0, 30), (0, 31), (1, 193), (1, 198), (1, 208), (1, 228), (1, 180), (1, 229), (1, 182), (1, 230), (1, 184), (1, 194), (1, 196), (1, 186), (1, 224), (1, 225), (1, 227), (1, 186), (2, 187), (2, 188), (2, 189), (1, 218), (1, 172), (1, 218), (1, 219), (1, 220), (1, 221), (1, 174), (1, 221), (1, 222), (1, 223), (1, 224), (1, 176), (2, 224), (2, 215), (2, 216), (2, 217), (1, 204), (2, 218), (2, 219), (2, 220), (2, 221), (1, 189), (1, 188), (2, 222)] (by decide +kernel) w hw, (by decide +kernel : ∀ w ∈ vx_atS RX8 89 "java/lang/IndexOutOfBoundsException" ["java/lang/RuntimeException", "java/lang/Exception"], hKind w = true ∧ vx_ot w = true) w hw⟩
theorem hat_135 : ∀ w ∈ vx_atS RX8 135 "java/lang/IllegalStateException" ["java/lang/RuntimeException", "java/lang/Exception"], w ∈ lw_tbl ∧ hKind w = true ∧ vx_ot w = true := fun w hw => ⟨hsub [(0, 12), (1, 190), (1, 199), (1, 207), (1, 210), (1, 212), (1, 191), (1, 192), (0, 30), (0, 31), (1, 193), (1, 198), (1, 208), (1, 228), (1, 180), (1, 229), (1, 182), (1, 230), (1, 184), (1, 194), (1, 196), (1, 186), (1, 224), (1, 225), (1, 227), (1, 186), (3, 32), (3, 33), (3, 34), (1, 218), (1, 172), (1, 218), (1, 219), (1, 220), (1, 221), (1, 174), (1, 221), (1, 222), (1, 223), (1, 224), (1, 176), (3, 31), (3, 22), (3, 23), (3, 24), (1, 203), (3, 25), (3, 26), (3, 27), (3, 28), (1, 189), (1, 188), (3, 29)] (by decide +kernel) w hw, (by decide +kernel : ∀ w ∈ vx_atS RX8 135 "java/lang/IllegalStateException" ["java/lang/RuntimeException", "java/lang/Exception"], hKind w = true ∧ vx_ot w = true) w hw⟩
theorem hat_159 : ∀ w ∈ vx_atS RX8 159 "java/lang/UnsupportedOperationException" ["java/lang/RuntimeException", "java/lang/Exception"], w ∈ lw_tbl ∧ hKind w = true ∧ vx_ot w = true := fun w hw => ⟨hsub [(0, 12), (1, 190), (1, 199), (1, 207), (1, 210), (1, 212), (1, 191), (1, 192), (0, 30), (0, 31), (1, 193), (1, 198), (1, 208), (1, 228), (1, 180), (1, 229), (1, 182), (1, 230), (1, 184), (1, 194), (1, 196), (1, 186), (1, 224), (1, 225), (1, 227), (1, 186), (3, 138), (3, 139), (3, 140), (1, 218), (1, 172), (1, 218), (1, 219), (1, 220), (1, 221), (1, 174), (1, 221), (1, 222), (1, 223), (1, 224), (1, 176), (3, 137), (3, 128), (3, 129), (3, 130), (1, 205), (3, 131), (3, 132), (3, 133), (3, 134), (1, 189), (1, 188), (3, 135)] (by decide +kernel) w hw, (by decide +kernel : ∀ w ∈ vx_atS RX8 159 "java/lang/UnsupportedOperationException" ["java/lang/RuntimeException", "java/lang/Exception"], hKind w = true ∧ vx_ot w = true) w hw⟩
theorem hat_272 : ∀ w ∈ vx_atS RX8 272 "java/lang/ArithmeticException" ["java/lang/RuntimeException", "java/lang/Exception"], w ∈ lw_tbl ∧ hKind w = true ∧ vx_ot w = true := fun w hw => ⟨hsub [(0, 12), (1, 190), (1, 199), (1, 207), (1, 210), (1, 212), (1, 191), (1, 192), (0, 30), (0, 31), (1, 193), (1, 198), (1, 208), (1, 228), (1, 180), (1, 229), (1, 182), (1, 230), (1, 184), (1, 194), (1, 196), (1, 186), (1, 224), (1, 225), (1, 227), (1, 186), (4, 99), (4, 100), (4, 101), (1, 218), (1, 172), (1, 218), (1, 219), (1, 220), (1, 221), (1, 174), (1, 221), (1, 222), (1, 223), (1, 224), (1, 176), (4, 117), (4, 98), (4, 109), (4, 110), (1, 201), (4, 104), (4, 105), (4, 107), (4, 103), (1, 189), (1, 188), (4, 102)] (by decide +kernel) w hw, (by decide +kernel : ∀ w ∈ vx_atS RX8 272 "java/lang/ArithmeticException" ["java/lang/RuntimeException", "java/lang/Exception"], hKind w = true ∧ vx_ot w = true) w hw⟩
