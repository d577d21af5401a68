/-- both statements, from the printed start itself: false -/
theorem p27_start (Lm : Cond) : ¬ ArmFor flags0 classFile x code maxLocals ret World_1 tables_1 room_1 Calls_1 rest_1 Pre_1 (fun tb e a s o t => postC Lm tb e a s o t ∧ Framed s o t (fieldLocs frame_1_writes a s ++ arrayLocs frame_1_arrays a s ++ staticLocs frame_1_statics s) 290 6445) := p27_refuted Lm launch0 start1.atStart rfl (launch0.hasRoom_least _ bigR (by decide +kernel) (by decide +kernel) (by decide +kernel) (by decide +kernel) (by decide +kernel) (by decide +kernel)) (b := 0) rfl rfl rfl rfl rfl
theorem p27_false_1 : ¬ Claimed_1_1 := p27_start limb_1_1
theorem p27_false_2 : ¬ Claimed_1_2 := p27_start limb_1_2
theorem p27_false : ¬ (Claimed_1_1 ∧ Claimed_1_2) := fun h => p27_false_1 h.1
