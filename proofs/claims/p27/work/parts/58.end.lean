/-- from the printed start itself (its module is there in a whole round alone) -/
theorem p27_false : ¬ (Claimed_1_1 ∧ Claimed_1_2) := fun h => p27_refuted launch0 start1.atStart rfl (launch0.hasRoom_least _ bigR (by decide +kernel) (by decide +kernel) (by decide +kernel) (by decide +kernel) (by decide +kernel) (by decide +kernel)) (b := 0) rfl rfl rfl rfl rfl h.1
