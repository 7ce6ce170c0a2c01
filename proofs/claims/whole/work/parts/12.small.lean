theorem pd_X0_add : yX0_add.cls = RX0 ∧ yX0_add.cls ≠ "java/lang/invoke/MethodHandle" ∧ yX0_add.cls ≠ "java/lang/invoke/VarHandle" ∧ (parseMethodDescriptor yX0_add.desc).map (fun d => d.parameters.length) = some 3 := by decide +kernel
theorem pd_X0_putInAll : yX0_putInAll.cls = RX0 ∧ yX0_putInAll.cls ≠ "java/lang/invoke/MethodHandle" ∧ yX0_putInAll.cls ≠ "java/lang/invoke/VarHandle" ∧ (parseMethodDescriptor yX0_putInAll.desc).map (fun d => d.parameters.length) = some 2 := by decide +kernel
theorem pd_X0_countCounted : yX0_countCounted.cls = RX0 ∧ yX0_countCounted.cls ≠ "java/lang/invoke/MethodHandle" ∧ yX0_countCounted.cls ≠ "java/lang/invoke/VarHandle" ∧ (parseMethodDescriptor yX0_countCounted.desc).map (fun d => d.parameters.length) = some 0 := by decide +kernel
theorem pd_X0_countedOdds : yX0_countedOdds.cls = RX0 ∧ yX0_countedOdds.cls ≠ "java/lang/invoke/MethodHandle" ∧ yX0_countedOdds.cls ≠ "java/lang/invoke/VarHandle" ∧ (parseMethodDescriptor yX0_countedOdds.desc).map (fun d => d.parameters.length) = some 0 := by decide +kernel
theorem pd_X1_add : yX1_add.cls = RX1 ∧ yX1_add.cls ≠ "java/lang/invoke/MethodHandle" ∧ yX1_add.cls ≠ "java/lang/invoke/VarHandle" ∧ (parseMethodDescriptor yX1_add.desc).map (fun d => d.parameters.length) = some 3 := by decide +kernel
theorem pd_X2_add : yX2_add.cls = RX2 ∧ yX2_add.cls ≠ "java/lang/invoke/MethodHandle" ∧ yX2_add.cls ≠ "java/lang/invoke/VarHandle" ∧ (parseMethodDescriptor yX2_add.desc).map (fun d => d.parameters.length) = some 4 := by decide +kernel
theorem pd_X2_isTaken : yX2_isTaken.cls = RX2 ∧ yX2_isTaken.cls ≠ "java/lang/invoke/MethodHandle" ∧ yX2_isTaken.cls ≠ "java/lang/invoke/VarHandle" ∧ (parseMethodDescriptor yX2_isTaken.desc).map (fun d => d.parameters.length) = some 2 := by decide +kernel
theorem pd_X3_slotOf : yX3_slotOf.cls ≠ "java/lang/invoke/MethodHandle" ∧ yX3_slotOf.cls ≠ "java/lang/invoke/VarHandle" ∧ (parseMethodDescriptor yX3_slotOf.desc).map (fun d => d.parameters.length) = some 1 := by decide +kernel
theorem pd_X2_sumUp : yX2_sumUp.cls = RX2 ∧ yX2_sumUp.cls ≠ "java/lang/invoke/MethodHandle" ∧ yX2_sumUp.cls ≠ "java/lang/invoke/VarHandle" ∧ (parseMethodDescriptor yX2_sumUp.desc).map (fun d => d.parameters.length) = some 3 := by decide +kernel
theorem pd_X2_weigh : yX2_weigh.cls = RX2 ∧ yX2_weigh.cls ≠ "java/lang/invoke/MethodHandle" ∧ yX2_weigh.cls ≠ "java/lang/invoke/VarHandle" ∧ (parseMethodDescriptor yX2_weigh.desc).map (fun d => d.parameters.length) = some 3 := by decide +kernel
theorem pd_X3_startAnew : yX3_startAnew.cls = RX3 ∧ yX3_startAnew.cls ≠ "java/lang/invoke/MethodHandle" ∧ yX3_startAnew.cls ≠ "java/lang/invoke/VarHandle" ∧ (parseMethodDescriptor yX3_startAnew.desc).map (fun d => d.parameters.length) = some 2 := by decide +kernel
theorem pd_X3_isWithin : yX3_isWithin.cls ≠ "java/lang/invoke/MethodHandle" ∧ yX3_isWithin.cls ≠ "java/lang/invoke/VarHandle" ∧ (parseMethodDescriptor yX3_isWithin.desc).map (fun d => d.parameters.length) = some 3 := by decide +kernel
theorem pd_X3_begin : yX3_begin.cls = RX3 ∧ yX3_begin.cls ≠ "java/lang/invoke/MethodHandle" ∧ yX3_begin.cls ≠ "java/lang/invoke/VarHandle" ∧ (parseMethodDescriptor yX3_begin.desc).map (fun d => d.parameters.length) = some 2 := by decide +kernel
theorem pd_X3_name : yX3_name.cls = RX3 ∧ yX3_name.cls ≠ "java/lang/invoke/MethodHandle" ∧ yX3_name.cls ≠ "java/lang/invoke/VarHandle" ∧ (parseMethodDescriptor yX3_name.desc).map (fun d => d.parameters.length) = some 3 := by decide +kernel
theorem pd_X3_budget : yX3_budget.cls = RX3 ∧ yX3_budget.cls ≠ "java/lang/invoke/MethodHandle" ∧ yX3_budget.cls ≠ "java/lang/invoke/VarHandle" ∧ (parseMethodDescriptor yX3_budget.desc).map (fun d => d.parameters.length) = some 1 := by decide +kernel
theorem pd_X3_row : yX3_row.cls = RX3 ∧ yX3_row.cls ≠ "java/lang/invoke/MethodHandle" ∧ yX3_row.cls ≠ "java/lang/invoke/VarHandle" ∧ (parseMethodDescriptor yX3_row.desc).map (fun d => d.parameters.length) = some 0 := by decide +kernel
theorem pd_X3_isRowOrCost : yX3_isRowOrCost.cls = RX3 ∧ yX3_isRowOrCost.cls ≠ "java/lang/invoke/MethodHandle" ∧ yX3_isRowOrCost.cls ≠ "java/lang/invoke/VarHandle" ∧ (parseMethodDescriptor yX3_isRowOrCost.desc).map (fun d => d.parameters.length) = some 1 := by decide +kernel
theorem pd_X3_term : yX3_term.cls = RX3 ∧ yX3_term.cls ≠ "java/lang/invoke/MethodHandle" ∧ yX3_term.cls ≠ "java/lang/invoke/VarHandle" ∧ (parseMethodDescriptor yX3_term.desc).map (fun d => d.parameters.length) = some 4 := by decide +kernel
theorem pd_X3_future : yX3_future.cls = RX3 ∧ yX3_future.cls ≠ "java/lang/invoke/MethodHandle" ∧ yX3_future.cls ≠ "java/lang/invoke/VarHandle" ∧ (parseMethodDescriptor yX3_future.desc).map (fun d => d.parameters.length) = some 2 := by decide +kernel
theorem pd_X3_isListed : yX3_isListed.cls = RX3 ∧ yX3_isListed.cls ≠ "java/lang/invoke/MethodHandle" ∧ yX3_isListed.cls ≠ "java/lang/invoke/VarHandle" ∧ (parseMethodDescriptor yX3_isListed.desc).map (fun d => d.parameters.length) = some 1 := by decide +kernel
theorem pd_X3_isName : yX3_isName.cls = RX3 ∧ yX3_isName.cls ≠ "java/lang/invoke/MethodHandle" ∧ yX3_isName.cls ≠ "java/lang/invoke/VarHandle" ∧ (parseMethodDescriptor yX3_isName.desc).map (fun d => d.parameters.length) = some 1 := by decide +kernel
theorem pd_X3_set : yX3_set.cls = RX3 ∧ yX3_set.cls ≠ "java/lang/invoke/MethodHandle" ∧ yX3_set.cls ≠ "java/lang/invoke/VarHandle" ∧ (parseMethodDescriptor yX3_set.desc).map (fun d => d.parameters.length) = some 3 := by decide +kernel
theorem pd_X3_told : yX3_told.cls = RX3 ∧ yX3_told.cls ≠ "java/lang/invoke/MethodHandle" ∧ yX3_told.cls ≠ "java/lang/invoke/VarHandle" ∧ (parseMethodDescriptor yX3_told.desc).map (fun d => d.parameters.length) = some 1 := by decide +kernel
theorem pd_X3_planCount : yX3_planCount.cls = RX3 ∧ yX3_planCount.cls ≠ "java/lang/invoke/MethodHandle" ∧ yX3_planCount.cls ≠ "java/lang/invoke/VarHandle" ∧ (parseMethodDescriptor yX3_planCount.desc).map (fun d => d.parameters.length) = some 0 := by decide +kernel
theorem pd_X3_isPlan : yX3_isPlan.cls = RX3 ∧ yX3_isPlan.cls ≠ "java/lang/invoke/MethodHandle" ∧ yX3_isPlan.cls ≠ "java/lang/invoke/VarHandle" ∧ (parseMethodDescriptor yX3_isPlan.desc).map (fun d => d.parameters.length) = some 1 := by decide +kernel
theorem pd_X3_comes : yX3_comes.cls = RX3 ∧ yX3_comes.cls ≠ "java/lang/invoke/MethodHandle" ∧ yX3_comes.cls ≠ "java/lang/invoke/VarHandle" ∧ (parseMethodDescriptor yX3_comes.desc).map (fun d => d.parameters.length) = some 3 := by decide +kernel
theorem pd_X3_worstOf : yX3_worstOf.cls = RX3 ∧ yX3_worstOf.cls ≠ "java/lang/invoke/MethodHandle" ∧ yX3_worstOf.cls ≠ "java/lang/invoke/VarHandle" ∧ (parseMethodDescriptor yX3_worstOf.desc).map (fun d => d.parameters.length) = some 1 := by decide +kernel
theorem pd_X3_greatestGain : yX3_greatestGain.cls = RX3 ∧ yX3_greatestGain.cls ≠ "java/lang/invoke/MethodHandle" ∧ yX3_greatestGain.cls ≠ "java/lang/invoke/VarHandle" ∧ (parseMethodDescriptor yX3_greatestGain.desc).map (fun d => d.parameters.length) = some 0 := by decide +kernel
theorem pd_X3_findWorst : yX3_findWorst.cls = RX3 ∧ yX3_findWorst.cls ≠ "java/lang/invoke/MethodHandle" ∧ yX3_findWorst.cls ≠ "java/lang/invoke/VarHandle" ∧ (parseMethodDescriptor yX3_findWorst.desc).map (fun d => d.parameters.length) = some 2 := by decide +kernel
theorem pd_X3_worst : yX3_worst.cls = RX3 ∧ yX3_worst.cls ≠ "java/lang/invoke/MethodHandle" ∧ yX3_worst.cls ≠ "java/lang/invoke/VarHandle" ∧ (parseMethodDescriptor yX3_worst.desc).map (fun d => d.parameters.length) = some 2 := by decide +kernel
theorem pd_X3_worstName : yX3_worstName.cls = RX3 ∧ yX3_worstName.cls ≠ "java/lang/invoke/MethodHandle" ∧ yX3_worstName.cls ≠ "java/lang/invoke/VarHandle" ∧ (parseMethodDescriptor yX3_worstName.desc).map (fun d => d.parameters.length) = some 3 := by decide +kernel
theorem pd_X3_firstBroken : yX3_firstBroken.cls = RX3 ∧ yX3_firstBroken.cls ≠ "java/lang/invoke/MethodHandle" ∧ yX3_firstBroken.cls ≠ "java/lang/invoke/VarHandle" ∧ (parseMethodDescriptor yX3_firstBroken.desc).map (fun d => d.parameters.length) = some 1 := by decide +kernel
theorem pd_X3_breaks : yX3_breaks.cls = RX3 ∧ yX3_breaks.cls ≠ "java/lang/invoke/MethodHandle" ∧ yX3_breaks.cls ≠ "java/lang/invoke/VarHandle" ∧ (parseMethodDescriptor yX3_breaks.desc).map (fun d => d.parameters.length) = some 1 := by decide +kernel
theorem pd_X3_safest : yX3_safest.cls = RX3 ∧ yX3_safest.cls ≠ "java/lang/invoke/MethodHandle" ∧ yX3_safest.cls ≠ "java/lang/invoke/VarHandle" ∧ (parseMethodDescriptor yX3_safest.desc).map (fun d => d.parameters.length) = some 0 := by decide +kernel
theorem pd_X3_firstPartCount : yX3_firstPartCount.cls = RX3 ∧ yX3_firstPartCount.cls ≠ "java/lang/invoke/MethodHandle" ∧ yX3_firstPartCount.cls ≠ "java/lang/invoke/VarHandle" ∧ (parseMethodDescriptor yX3_firstPartCount.desc).map (fun d => d.parameters.length) = some 0 := by decide +kernel
theorem pd_X3_isFirstPart : yX3_isFirstPart.cls = RX3 ∧ yX3_isFirstPart.cls ≠ "java/lang/invoke/MethodHandle" ∧ yX3_isFirstPart.cls ≠ "java/lang/invoke/VarHandle" ∧ (parseMethodDescriptor yX3_isFirstPart.desc).map (fun d => d.parameters.length) = some 1 := by decide +kernel
theorem pd_X3_allHold : yX3_allHold.cls = RX3 ∧ yX3_allHold.cls ≠ "java/lang/invoke/MethodHandle" ∧ yX3_allHold.cls ≠ "java/lang/invoke/VarHandle" ∧ (parseMethodDescriptor yX3_allHold.desc).map (fun d => d.parameters.length) = some 2 := by decide +kernel
theorem pd_X3_findAnswer : yX3_findAnswer.cls = RX3 ∧ yX3_findAnswer.cls ≠ "java/lang/invoke/MethodHandle" ∧ yX3_findAnswer.cls ≠ "java/lang/invoke/VarHandle" ∧ (parseMethodDescriptor yX3_findAnswer.desc).map (fun d => d.parameters.length) = some 2 := by decide +kernel
theorem pd_X3_answer : yX3_answer.cls = RX3 ∧ yX3_answer.cls ≠ "java/lang/invoke/MethodHandle" ∧ yX3_answer.cls ≠ "java/lang/invoke/VarHandle" ∧ (parseMethodDescriptor yX3_answer.desc).map (fun d => d.parameters.length) = some 2 := by decide +kernel
theorem pd_X3_costOf : yX3_costOf.cls = RX3 ∧ yX3_costOf.cls ≠ "java/lang/invoke/MethodHandle" ∧ yX3_costOf.cls ≠ "java/lang/invoke/VarHandle" ∧ (parseMethodDescriptor yX3_costOf.desc).map (fun d => d.parameters.length) = some 2 := by decide +kernel
theorem pd_X3_costByOdds : yX3_costByOdds.cls = RX3 ∧ yX3_costByOdds.cls ≠ "java/lang/invoke/MethodHandle" ∧ yX3_costByOdds.cls ≠ "java/lang/invoke/VarHandle" ∧ (parseMethodDescriptor yX3_costByOdds.desc).map (fun d => d.parameters.length) = some 1 := by decide +kernel
theorem pd_X3_findTwoStep : yX3_findTwoStep.cls = RX3 ∧ yX3_findTwoStep.cls ≠ "java/lang/invoke/MethodHandle" ∧ yX3_findTwoStep.cls ≠ "java/lang/invoke/VarHandle" ∧ (parseMethodDescriptor yX3_findTwoStep.desc).map (fun d => d.parameters.length) = some 0 := by decide +kernel
theorem pd_X3_twoStep : yX3_twoStep.cls = RX3 ∧ yX3_twoStep.cls ≠ "java/lang/invoke/MethodHandle" ∧ yX3_twoStep.cls ≠ "java/lang/invoke/VarHandle" ∧ (parseMethodDescriptor yX3_twoStep.desc).map (fun d => d.parameters.length) = some 0 := by decide +kernel
theorem pd_X3_isPart : yX3_isPart.cls ≠ "java/lang/invoke/MethodHandle" ∧ yX3_isPart.cls ≠ "java/lang/invoke/VarHandle" ∧ (parseMethodDescriptor yX3_isPart.desc).map (fun d => d.parameters.length) = some 1 := by decide +kernel
theorem pd_X3_commonDivisor : yX3_commonDivisor.cls ≠ "java/lang/invoke/MethodHandle" ∧ yX3_commonDivisor.cls ≠ "java/lang/invoke/VarHandle" ∧ (parseMethodDescriptor yX3_commonDivisor.desc).map (fun d => d.parameters.length) = some 2 := by decide +kernel
theorem pd_X3_partOfFraction : yX3_partOfFraction.cls ≠ "java/lang/invoke/MethodHandle" ∧ yX3_partOfFraction.cls ≠ "java/lang/invoke/VarHandle" ∧ (parseMethodDescriptor yX3_partOfFraction.desc).map (fun d => d.parameters.length) = some 3 := by decide +kernel
theorem pd_X3_mean : yX3_mean.cls = RX3 ∧ yX3_mean.cls ≠ "java/lang/invoke/MethodHandle" ∧ yX3_mean.cls ≠ "java/lang/invoke/VarHandle" ∧ (parseMethodDescriptor yX3_mean.desc).map (fun d => d.parameters.length) = some 2 := by decide +kernel
theorem pd_X3_leastCost : yX3_leastCost.cls = RX3 ∧ yX3_leastCost.cls ≠ "java/lang/invoke/MethodHandle" ∧ yX3_leastCost.cls ≠ "java/lang/invoke/VarHandle" ∧ (parseMethodDescriptor yX3_leastCost.desc).map (fun d => d.parameters.length) = some 1 := by decide +kernel
theorem pd_X3_best : yX3_best.cls = RX3 ∧ yX3_best.cls ≠ "java/lang/invoke/MethodHandle" ∧ yX3_best.cls ≠ "java/lang/invoke/VarHandle" ∧ (parseMethodDescriptor yX3_best.desc).map (fun d => d.parameters.length) = some 1 := by decide +kernel
theorem pd_X3_fillBests : yX3_fillBests.cls = RX3 ∧ yX3_fillBests.cls ≠ "java/lang/invoke/MethodHandle" ∧ yX3_fillBests.cls ≠ "java/lang/invoke/VarHandle" ∧ (parseMethodDescriptor yX3_fillBests.desc).map (fun d => d.parameters.length) = some 0 := by decide +kernel
theorem pd_X3_greatestRegret : yX3_greatestRegret.cls = RX3 ∧ yX3_greatestRegret.cls ≠ "java/lang/invoke/MethodHandle" ∧ yX3_greatestRegret.cls ≠ "java/lang/invoke/VarHandle" ∧ (parseMethodDescriptor yX3_greatestRegret.desc).map (fun d => d.parameters.length) = some 1 := by decide +kernel
theorem pd_X3_regret : yX3_regret.cls = RX3 ∧ yX3_regret.cls ≠ "java/lang/invoke/MethodHandle" ∧ yX3_regret.cls ≠ "java/lang/invoke/VarHandle" ∧ (parseMethodDescriptor yX3_regret.desc).map (fun d => d.parameters.length) = some 1 := by decide +kernel
theorem pd_X3_calmest : yX3_calmest.cls = RX3 ∧ yX3_calmest.cls ≠ "java/lang/invoke/MethodHandle" ∧ yX3_calmest.cls ≠ "java/lang/invoke/VarHandle" ∧ (parseMethodDescriptor yX3_calmest.desc).map (fun d => d.parameters.length) = some 0 := by decide +kernel
theorem pd_X3_waiting : yX3_waiting.cls = RX3 ∧ yX3_waiting.cls ≠ "java/lang/invoke/MethodHandle" ∧ yX3_waiting.cls ≠ "java/lang/invoke/VarHandle" ∧ (parseMethodDescriptor yX3_waiting.desc).map (fun d => d.parameters.length) = some 1 := by decide +kernel
theorem pd_X3_chance : yX3_chance.cls = RX3 ∧ yX3_chance.cls ≠ "java/lang/invoke/MethodHandle" ∧ yX3_chance.cls ≠ "java/lang/invoke/VarHandle" ∧ (parseMethodDescriptor yX3_chance.desc).map (fun d => d.parameters.length) = some 2 := by decide +kernel
theorem pd_X4_in : yX4_in.cls ≠ "java/lang/invoke/MethodHandle" ∧ yX4_in.cls ≠ "java/lang/invoke/VarHandle" ∧ (parseMethodDescriptor yX4_in.desc).map (fun d => d.parameters.length) = some 3 := by decide +kernel
theorem pd_X4_begin : yX4_begin.cls = RX4 ∧ yX4_begin.cls ≠ "java/lang/invoke/MethodHandle" ∧ yX4_begin.cls ≠ "java/lang/invoke/VarHandle" ∧ (parseMethodDescriptor yX4_begin.desc).map (fun d => d.parameters.length) = some 2 := by decide +kernel
theorem pd_X4_name : yX4_name.cls = RX4 ∧ yX4_name.cls ≠ "java/lang/invoke/MethodHandle" ∧ yX4_name.cls ≠ "java/lang/invoke/VarHandle" ∧ (parseMethodDescriptor yX4_name.desc).map (fun d => d.parameters.length) = some 3 := by decide +kernel
theorem pd_X4_budget : yX4_budget.cls = RX4 ∧ yX4_budget.cls ≠ "java/lang/invoke/MethodHandle" ∧ yX4_budget.cls ≠ "java/lang/invoke/VarHandle" ∧ (parseMethodDescriptor yX4_budget.desc).map (fun d => d.parameters.length) = some 1 := by decide +kernel
theorem pd_X4_row : yX4_row.cls = RX4 ∧ yX4_row.cls ≠ "java/lang/invoke/MethodHandle" ∧ yX4_row.cls ≠ "java/lang/invoke/VarHandle" ∧ (parseMethodDescriptor yX4_row.desc).map (fun d => d.parameters.length) = some 0 := by decide +kernel
theorem pd_X4_term : yX4_term.cls = RX4 ∧ yX4_term.cls ≠ "java/lang/invoke/MethodHandle" ∧ yX4_term.cls ≠ "java/lang/invoke/VarHandle" ∧ (parseMethodDescriptor yX4_term.desc).map (fun d => d.parameters.length) = some 4 := by decide +kernel
theorem pd_X4_future : yX4_future.cls = RX4 ∧ yX4_future.cls ≠ "java/lang/invoke/MethodHandle" ∧ yX4_future.cls ≠ "java/lang/invoke/VarHandle" ∧ (parseMethodDescriptor yX4_future.desc).map (fun d => d.parameters.length) = some 2 := by decide +kernel
theorem pd_X4_set : yX4_set.cls = RX4 ∧ yX4_set.cls ≠ "java/lang/invoke/MethodHandle" ∧ yX4_set.cls ≠ "java/lang/invoke/VarHandle" ∧ (parseMethodDescriptor yX4_set.desc).map (fun d => d.parameters.length) = some 3 := by decide +kernel
theorem pd_X4_counted : yX4_counted.cls = RX4 ∧ yX4_counted.cls ≠ "java/lang/invoke/MethodHandle" ∧ yX4_counted.cls ≠ "java/lang/invoke/VarHandle" ∧ (parseMethodDescriptor yX4_counted.desc).map (fun d => d.parameters.length) = some 0 := by decide +kernel
theorem pd_X4_told : yX4_told.cls = RX4 ∧ yX4_told.cls ≠ "java/lang/invoke/MethodHandle" ∧ yX4_told.cls ≠ "java/lang/invoke/VarHandle" ∧ (parseMethodDescriptor yX4_told.desc).map (fun d => d.parameters.length) = some 1 := by decide +kernel
theorem pd_X4_isPlan : yX4_isPlan.cls = RX4 ∧ yX4_isPlan.cls ≠ "java/lang/invoke/MethodHandle" ∧ yX4_isPlan.cls ≠ "java/lang/invoke/VarHandle" ∧ (parseMethodDescriptor yX4_isPlan.desc).map (fun d => d.parameters.length) = some 1 := by decide +kernel
theorem pd_X4_isOn : yX4_isOn.cls = RX4 ∧ yX4_isOn.cls ≠ "java/lang/invoke/MethodHandle" ∧ yX4_isOn.cls ≠ "java/lang/invoke/VarHandle" ∧ (parseMethodDescriptor yX4_isOn.desc).map (fun d => d.parameters.length) = some 3 := by decide +kernel
theorem pd_X4_sum : yX4_sum.cls = RX4 ∧ yX4_sum.cls ≠ "java/lang/invoke/MethodHandle" ∧ yX4_sum.cls ≠ "java/lang/invoke/VarHandle" ∧ (parseMethodDescriptor yX4_sum.desc).map (fun d => d.parameters.length) = some 3 := by decide +kernel
theorem pd_X4_comes : yX4_comes.cls = RX4 ∧ yX4_comes.cls ≠ "java/lang/invoke/MethodHandle" ∧ yX4_comes.cls ≠ "java/lang/invoke/VarHandle" ∧ (parseMethodDescriptor yX4_comes.desc).map (fun d => d.parameters.length) = some 3 := by decide +kernel
theorem pd_X4_isUp : yX4_isUp.cls = RX4 ∧ yX4_isUp.cls ≠ "java/lang/invoke/MethodHandle" ∧ yX4_isUp.cls ≠ "java/lang/invoke/VarHandle" ∧ (parseMethodDescriptor yX4_isUp.desc).map (fun d => d.parameters.length) = some 3 := by decide +kernel
theorem pd_X4_findWorst : yX4_findWorst.cls = RX4 ∧ yX4_findWorst.cls ≠ "java/lang/invoke/MethodHandle" ∧ yX4_findWorst.cls ≠ "java/lang/invoke/VarHandle" ∧ (parseMethodDescriptor yX4_findWorst.desc).map (fun d => d.parameters.length) = some 2 := by decide +kernel
theorem pd_X4_worst : yX4_worst.cls = RX4 ∧ yX4_worst.cls ≠ "java/lang/invoke/MethodHandle" ∧ yX4_worst.cls ≠ "java/lang/invoke/VarHandle" ∧ (parseMethodDescriptor yX4_worst.desc).map (fun d => d.parameters.length) = some 2 := by decide +kernel
theorem pd_X4_worstName : yX4_worstName.cls = RX4 ∧ yX4_worstName.cls ≠ "java/lang/invoke/MethodHandle" ∧ yX4_worstName.cls ≠ "java/lang/invoke/VarHandle" ∧ (parseMethodDescriptor yX4_worstName.desc).map (fun d => d.parameters.length) = some 3 := by decide +kernel
theorem pd_X4_breaks : yX4_breaks.cls = RX4 ∧ yX4_breaks.cls ≠ "java/lang/invoke/MethodHandle" ∧ yX4_breaks.cls ≠ "java/lang/invoke/VarHandle" ∧ (parseMethodDescriptor yX4_breaks.desc).map (fun d => d.parameters.length) = some 1 := by decide +kernel
theorem pd_X4_safest : yX4_safest.cls = RX4 ∧ yX4_safest.cls ≠ "java/lang/invoke/MethodHandle" ∧ yX4_safest.cls ≠ "java/lang/invoke/VarHandle" ∧ (parseMethodDescriptor yX4_safest.desc).map (fun d => d.parameters.length) = some 0 := by decide +kernel
theorem pd_X4_holds : yX4_holds.cls = RX4 ∧ yX4_holds.cls ≠ "java/lang/invoke/MethodHandle" ∧ yX4_holds.cls ≠ "java/lang/invoke/VarHandle" ∧ (parseMethodDescriptor yX4_holds.desc).map (fun d => d.parameters.length) = some 2 := by decide +kernel
theorem pd_X4_answerTo : yX4_answerTo.cls = RX4 ∧ yX4_answerTo.cls ≠ "java/lang/invoke/MethodHandle" ∧ yX4_answerTo.cls ≠ "java/lang/invoke/VarHandle" ∧ (parseMethodDescriptor yX4_answerTo.desc).map (fun d => d.parameters.length) = some 2 := by decide +kernel
theorem pd_X4_isFirst : yX4_isFirst.cls = RX4 ∧ yX4_isFirst.cls ≠ "java/lang/invoke/MethodHandle" ∧ yX4_isFirst.cls ≠ "java/lang/invoke/VarHandle" ∧ (parseMethodDescriptor yX4_isFirst.desc).map (fun d => d.parameters.length) = some 1 := by decide +kernel
theorem pd_X4_answer : yX4_answer.cls = RX4 ∧ yX4_answer.cls ≠ "java/lang/invoke/MethodHandle" ∧ yX4_answer.cls ≠ "java/lang/invoke/VarHandle" ∧ (parseMethodDescriptor yX4_answer.desc).map (fun d => d.parameters.length) = some 2 := by decide +kernel
theorem pd_X4_allOdds : yX4_allOdds.cls = RX4 ∧ yX4_allOdds.cls ≠ "java/lang/invoke/MethodHandle" ∧ yX4_allOdds.cls ≠ "java/lang/invoke/VarHandle" ∧ (parseMethodDescriptor yX4_allOdds.desc).map (fun d => d.parameters.length) = some 0 := by decide +kernel
theorem pd_X4_total : yX4_total.cls = RX4 ∧ yX4_total.cls ≠ "java/lang/invoke/MethodHandle" ∧ yX4_total.cls ≠ "java/lang/invoke/VarHandle" ∧ (parseMethodDescriptor yX4_total.desc).map (fun d => d.parameters.length) = some 1 := by decide +kernel
theorem pd_X4_twoStep : yX4_twoStep.cls = RX4 ∧ yX4_twoStep.cls ≠ "java/lang/invoke/MethodHandle" ∧ yX4_twoStep.cls ≠ "java/lang/invoke/VarHandle" ∧ (parseMethodDescriptor yX4_twoStep.desc).map (fun d => d.parameters.length) = some 0 := by decide +kernel
theorem pd_X4_lowest : yX4_lowest.cls ≠ "java/lang/invoke/MethodHandle" ∧ yX4_lowest.cls ≠ "java/lang/invoke/VarHandle" ∧ (parseMethodDescriptor yX4_lowest.desc).map (fun d => d.parameters.length) = some 3 := by decide +kernel
theorem pd_X4_mean : yX4_mean.cls = RX4 ∧ yX4_mean.cls ≠ "java/lang/invoke/MethodHandle" ∧ yX4_mean.cls ≠ "java/lang/invoke/VarHandle" ∧ (parseMethodDescriptor yX4_mean.desc).map (fun d => d.parameters.length) = some 2 := by decide +kernel
theorem pd_X4_bestOf : yX4_bestOf.cls = RX4 ∧ yX4_bestOf.cls ≠ "java/lang/invoke/MethodHandle" ∧ yX4_bestOf.cls ≠ "java/lang/invoke/VarHandle" ∧ (parseMethodDescriptor yX4_bestOf.desc).map (fun d => d.parameters.length) = some 1 := by decide +kernel
theorem pd_X4_best : yX4_best.cls = RX4 ∧ yX4_best.cls ≠ "java/lang/invoke/MethodHandle" ∧ yX4_best.cls ≠ "java/lang/invoke/VarHandle" ∧ (parseMethodDescriptor yX4_best.desc).map (fun d => d.parameters.length) = some 1 := by decide +kernel
theorem pd_X4_findBests : yX4_findBests.cls = RX4 ∧ yX4_findBests.cls ≠ "java/lang/invoke/MethodHandle" ∧ yX4_findBests.cls ≠ "java/lang/invoke/VarHandle" ∧ (parseMethodDescriptor yX4_findBests.desc).map (fun d => d.parameters.length) = some 0 := by decide +kernel
theorem pd_X4_regretOf : yX4_regretOf.cls = RX4 ∧ yX4_regretOf.cls ≠ "java/lang/invoke/MethodHandle" ∧ yX4_regretOf.cls ≠ "java/lang/invoke/VarHandle" ∧ (parseMethodDescriptor yX4_regretOf.desc).map (fun d => d.parameters.length) = some 1 := by decide +kernel
theorem pd_X4_regret : yX4_regret.cls = RX4 ∧ yX4_regret.cls ≠ "java/lang/invoke/MethodHandle" ∧ yX4_regret.cls ≠ "java/lang/invoke/VarHandle" ∧ (parseMethodDescriptor yX4_regret.desc).map (fun d => d.parameters.length) = some 1 := by decide +kernel
theorem pd_X4_calmest : yX4_calmest.cls = RX4 ∧ yX4_calmest.cls ≠ "java/lang/invoke/MethodHandle" ∧ yX4_calmest.cls ≠ "java/lang/invoke/VarHandle" ∧ (parseMethodDescriptor yX4_calmest.desc).map (fun d => d.parameters.length) = some 0 := by decide +kernel
theorem pd_X4_waiting : yX4_waiting.cls = RX4 ∧ yX4_waiting.cls ≠ "java/lang/invoke/MethodHandle" ∧ yX4_waiting.cls ≠ "java/lang/invoke/VarHandle" ∧ (parseMethodDescriptor yX4_waiting.desc).map (fun d => d.parameters.length) = some 1 := by decide +kernel
theorem pd_X4_chance : yX4_chance.cls = RX4 ∧ yX4_chance.cls ≠ "java/lang/invoke/MethodHandle" ∧ yX4_chance.cls ≠ "java/lang/invoke/VarHandle" ∧ (parseMethodDescriptor yX4_chance.desc).map (fun d => d.parameters.length) = some 2 := by decide +kernel
def bI (b : Bool) : Int32 := if b then 1 else 0
theorem bI_0 {b : Bool} : bI b = 0 ↔ b = false := by cases b <;> decide
theorem bI_n0 {b : Bool} : ¬ bI b = 0 ↔ b = true := by cases b <;> decide
theorem bI_t : bI true = 1 := rfl
theorem bI_f : bI false = 0 := rfl
def inW (n lo hi : Int32) : Bool := decide (lo ≤ n) && decide (n ≤ hi)
theorem inW_f1 {n lo hi : Int32} (h : n < lo) : inW n lo hi = false := by
  unfold inW; rw [decide_eq_false (Int32.not_le.mpr h)]; rfl
theorem inW_f2 {n lo hi : Int32} (h : hi < n) : inW n lo hi = false := by
  unfold inW; rw [decide_eq_false (p := n ≤ hi) (Int32.not_le.mpr h), Bool.and_false]
theorem inW_t {n lo hi : Int32} (h : ¬ n < lo) (h2 : ¬ hi < n) : inW n lo hi = true := by
  unfold inW; rw [decide_eq_true (Int32.not_lt.mp h), decide_eq_true (Int32.not_lt.mp h2)]; rfl
def pcF (f s : Nat) : Int32 := (1 : Int32) <<< ((nI f + nI s) &&& 31)
def fcF (f : Nat) : Int32 := (1 : Int32) <<< (nI f &&& 31)
set_option maxHeartbeats 4000000 in
set_option maxRecDepth 100000 in
theorem c_X3_isWithin {l : Launch} {D : va_G} {cI cZ cQ : ClassId} {ad : Nat → Nat} {np : Nat} {x : Nat → Nat} {g : Nat → Nat → Int32} {n lo hi : Int32} : Cn l D cI cZ cQ ad np 0 yX3_isWithin wsX3_isWithin [.int n, .int lo, .int hi] x g (rp (bI (inW n lo hi)) x g) := by
  refine cn_of (own := RX3) (by decide) rfl rfl (by simp [Value.category]) (Nat.le_of_ble_eq_true rfl) ?_
  intro p e s m args below meth c A Q C HR HV
  refine j_iload_n C dX3_isWithin_0 rfl ?_
  refine j_iload_n C dX3_isWithin_1 rfl ?_
  refine j_icmp_gt C 14 dX3_isWithin_2 (by decide) (fun hc2 => ?_) (fun hc2 => ?_)
  · refine j_iconst (v := 0) C dX3_isWithin_14 rfl ?_
    exact HR _ _ _ _ _ _ rfl rfl dX3_isWithin_15 ⟨_, rfl, by first | (rw [inW_f1 hc2]; rfl) | (rw [inW_f2 hc7]; rfl) | (rw [inW_t hc2 hc7]; rfl), rfl, rfl⟩
  · refine j_iload_n C dX3_isWithin_5 rfl ?_
    refine j_iload_n C dX3_isWithin_6 rfl ?_
    refine j_icmp_gt C 14 dX3_isWithin_7 (by decide) (fun hc7 => ?_) (fun hc7 => ?_)
    · refine j_iconst (v := 0) C dX3_isWithin_14 rfl ?_
      exact HR _ _ _ _ _ _ rfl rfl dX3_isWithin_15 ⟨_, rfl, by first | (rw [inW_f1 hc2]; rfl) | (rw [inW_f2 hc7]; rfl) | (rw [inW_t hc2 hc7]; rfl), rfl, rfl⟩
    · refine j_iconst (v := 1) C dX3_isWithin_10 rfl ?_
      refine j_goto C 15 dX3_isWithin_11 (by decide) ?_
      exact HR _ _ _ _ _ _ rfl rfl dX3_isWithin_15 ⟨_, rfl, by first | (rw [inW_f1 hc2]; rfl) | (rw [inW_f2 hc7]; rfl) | (rw [inW_t hc2 hc7]; rfl), rfl, rfl⟩
set_option maxHeartbeats 4000000 in
set_option maxRecDepth 100000 in
theorem c_X4_in {l : Launch} {D : va_G} {cI cZ cQ : ClassId} {ad : Nat → Nat} {np : Nat} {x : Nat → Nat} {g : Nat → Nat → Int32} {n lo hi : Int32} : Cn l D cI cZ cQ ad np 0 yX4_in wsX4_in [.int n, .int lo, .int hi] x g (rp (bI (inW n lo hi)) x g) := by
  refine cn_of (own := RX4) (by decide) rfl rfl (by simp [Value.category]) (Nat.le_of_ble_eq_true rfl) ?_
  intro p e s m args below meth c A Q C HR HV
  refine j_iload_n C dX4_in_0 rfl ?_
  refine j_iload_n C dX4_in_1 rfl ?_
  refine j_icmp_lt C 14 dX4_in_2 (by decide) (fun hc2 => ?_) (fun hc2 => ?_)
  · refine j_iconst (v := 0) C dX4_in_14 rfl ?_
    exact HR _ _ _ _ _ _ rfl rfl dX4_in_15 ⟨_, rfl, by first | (rw [inW_f1 hc2]; rfl) | (rw [inW_f2 hc7]; rfl) | (rw [inW_t hc2 hc7]; rfl), rfl, rfl⟩
  · refine j_iload_n C dX4_in_5 rfl ?_
    refine j_iload_n C dX4_in_6 rfl ?_
    refine j_icmp_gt C 14 dX4_in_7 (by decide) (fun hc7 => ?_) (fun hc7 => ?_)
    · refine j_iconst (v := 0) C dX4_in_14 rfl ?_
      exact HR _ _ _ _ _ _ rfl rfl dX4_in_15 ⟨_, rfl, by first | (rw [inW_f1 hc2]; rfl) | (rw [inW_f2 hc7]; rfl) | (rw [inW_t hc2 hc7]; rfl), rfl, rfl⟩
    · refine j_iconst (v := 1) C dX4_in_10 rfl ?_
      refine j_goto C 15 dX4_in_11 (by decide) ?_
      exact HR _ _ _ _ _ _ rfl rfl dX4_in_15 ⟨_, rfl, by first | (rw [inW_f1 hc2]; rfl) | (rw [inW_f2 hc7]; rfl) | (rw [inW_t hc2 hc7]; rfl), rfl, rfl⟩
set_option maxHeartbeats 4000000 in
set_option maxRecDepth 100000 in
theorem c_X3_slotOf {l : Launch} {D : va_G} {cI cZ cQ : ClassId} {ad : Nat → Nat} {np : Nat} {x : Nat → Nat} {g : Nat → Nat → Int32} {n : Int32} : Cn l D cI cZ cQ ad np 0 yX3_slotOf wsX3_slotOf [.int n] x g (rp (n - (-1)) x g) := by
  refine cn_of (own := RX3) (by decide) rfl rfl (by simp [Value.category]) (Nat.le_of_ble_eq_true rfl) ?_
  intro p e s m args below meth c A Q C HR HV
  refine j_iload_n C dX3_slotOf_0 rfl ?_
  refine j_iconst (v := (-1)) C dX3_slotOf_1 rfl ?_
  refine j_isub C dX3_slotOf_2 ?_
  exact HR _ _ _ _ _ _ rfl rfl dX3_slotOf_3 ⟨_, rfl, rfl, rfl, rfl⟩
theorem n_X3_planCount_X3 : ∀ w ∈ wsX30, w ∈ wsX3_planCount := by decide +kernel
set_option maxHeartbeats 4000000 in
set_option maxRecDepth 100000 in
theorem c_X3_planCount {l : Launch} {D : va_G} {cI cZ cQ : ClassId} {ad : Nat → Nat} {np : Nat} {x : Nat → Nat} {g : Nat → Nat → Int32} (hnp : 27 ≤ np)  : Cn l D cI cZ cQ ad np 0 yX3_planCount wsX3_planCount [.ref (ad 0)] x g (rp (pcF (x 1) (x 2)) x g) := by
  refine cn_of (own := RX3) (by decide) rfl rfl (by simp [Value.category]) (Nat.le_of_ble_eq_true rfl) ?_
  intro p e s m args below meth c A Q C HR HV
  refine j_iconst (v := 1) C dX3_planCount_0 rfl ?_
  refine j_aload_n C dX3_planCount_1 rfl ?_
  refine jg_X3_firstCount C dX3_planCount_2 n_X3_planCount_X3 (by decide +kernel) (Nat.lt_of_lt_of_le (by decide) hnp) ?_
  refine j_aload_n C dX3_planCount_5 rfl ?_
  refine jg_X3_secondCount C dX3_planCount_6 n_X3_planCount_X3 (by decide +kernel) (Nat.lt_of_lt_of_le (by decide) hnp) ?_
  refine j_iadd C dX3_planCount_9 ?_
  refine j_ishl C dX3_planCount_10 ?_
  exact HR _ _ _ _ _ _ rfl rfl dX3_planCount_11 ⟨_, rfl, rfl, rfl, rfl⟩
theorem n_X3_firstPartCount_X3 : ∀ w ∈ wsX30, w ∈ wsX3_firstPartCount := by decide +kernel
set_option maxHeartbeats 4000000 in
set_option maxRecDepth 100000 in
theorem c_X3_firstPartCount {l : Launch} {D : va_G} {cI cZ cQ : ClassId} {ad : Nat → Nat} {np : Nat} {x : Nat → Nat} {g : Nat → Nat → Int32} (hnp : 27 ≤ np)  : Cn l D cI cZ cQ ad np 0 yX3_firstPartCount wsX3_firstPartCount [.ref (ad 0)] x g (rp (fcF (x 1)) x g) := by
  refine cn_of (own := RX3) (by decide) rfl rfl (by simp [Value.category]) (Nat.le_of_ble_eq_true rfl) ?_
  intro p e s m args below meth c A Q C HR HV
  refine j_iconst (v := 1) C dX3_firstPartCount_0 rfl ?_
  refine j_aload_n C dX3_firstPartCount_1 rfl ?_
  refine jg_X3_firstCount C dX3_firstPartCount_2 n_X3_firstPartCount_X3 (by decide +kernel) (Nat.lt_of_lt_of_le (by decide) hnp) ?_
  refine j_ishl C dX3_firstPartCount_5 ?_
  exact HR _ _ _ _ _ _ rfl rfl dX3_firstPartCount_6 ⟨_, rfl, rfl, rfl, rfl⟩
set_option maxHeartbeats 4000000 in
set_option maxRecDepth 100000 in
theorem c_X3_isPlan {l : Launch} {D : va_G} {cI cZ cQ : ClassId} {ad : Nat → Nat} {np : Nat} {x : Nat → Nat} {g : Nat → Nat → Int32} (hnp : 27 ≤ np) {n : Int32} : Cn l D cI cZ cQ ad np 1 yX3_isPlan wsX3_isPlan [.ref (ad 0), .int n] x g (rp (bI (inW n 0 (pcF (x 1) (x 2) - 1))) x g) := by
  refine cn_of (own := RX3) (by decide) rfl rfl (by simp [Value.category]) (Nat.le_of_ble_eq_true rfl) ?_
  intro p e s m args below meth c A Q C HR HV
  refine j_iload_n C dX3_isPlan_0 rfl ?_
  refine j_iconst (v := 0) C dX3_isPlan_1 rfl ?_
  refine j_aload_n C dX3_isPlan_2 rfl ?_
  refine jVp0 (ci := 3) C dX3_isPlan_3 gX3_isPlan_X3_planCount rfl pd_X3_planCount ⟨by decide, by decide⟩ (Nat.lt_of_lt_of_le (by decide) hnp) rfl rfl rfl (Nat.le_of_ble_eq_true rfl) (c_X3_planCount hnp) ?_
  refine j_iconst (v := 1) C dX3_isPlan_6 rfl ?_
  refine j_isub C dX3_isPlan_7 ?_
  refine jSp3 C dX3_isPlan_8 gX3_isPlan_X3_isWithin rfl pd_X3_isWithin ⟨by decide, by decide⟩ (Nat.le_of_ble_eq_true rfl) c_X3_isWithin ?_
  exact HR _ _ _ _ _ _ rfl (by unfold bI; split <;> rfl) dX3_isPlan_11 ⟨_, rfl, rfl, rfl, rfl⟩
set_option maxHeartbeats 4000000 in
set_option maxRecDepth 100000 in
theorem c_X3_isFirstPart {l : Launch} {D : va_G} {cI cZ cQ : ClassId} {ad : Nat → Nat} {np : Nat} {x : Nat → Nat} {g : Nat → Nat → Int32} (hnp : 27 ≤ np) {n : Int32} : Cn l D cI cZ cQ ad np 1 yX3_isFirstPart wsX3_isFirstPart [.ref (ad 0), .int n] x g (rp (bI (inW n 0 (fcF (x 1) - 1))) x g) := by
  refine cn_of (own := RX3) (by decide) rfl rfl (by simp [Value.category]) (Nat.le_of_ble_eq_true rfl) ?_
  intro p e s m args below meth c A Q C HR HV
  refine j_iload_n C dX3_isFirstPart_0 rfl ?_
  refine j_iconst (v := 0) C dX3_isFirstPart_1 rfl ?_
  refine j_aload_n C dX3_isFirstPart_2 rfl ?_
  refine jVp0 (ci := 3) C dX3_isFirstPart_3 gX3_isFirstPart_X3_firstPartCount rfl pd_X3_firstPartCount ⟨by decide, by decide⟩ (Nat.lt_of_lt_of_le (by decide) hnp) rfl rfl rfl (Nat.le_of_ble_eq_true rfl) (c_X3_firstPartCount hnp) ?_
  refine j_iconst (v := 1) C dX3_isFirstPart_6 rfl ?_
  refine j_isub C dX3_isFirstPart_7 ?_
  refine jSp3 C dX3_isFirstPart_8 gX3_isFirstPart_X3_isWithin rfl pd_X3_isWithin ⟨by decide, by decide⟩ (Nat.le_of_ble_eq_true rfl) c_X3_isWithin ?_
  exact HR _ _ _ _ _ _ rfl (by unfold bI; split <;> rfl) dX3_isFirstPart_11 ⟨_, rfl, rfl, rfl, rfl⟩
theorem n_X3_isRowOrCost_X3 : ∀ w ∈ wsX30, w ∈ wsX3_isRowOrCost := by decide +kernel
set_option maxHeartbeats 4000000 in
set_option maxRecDepth 100000 in
theorem c_X3_isRowOrCost {l : Launch} {D : va_G} {cI cZ cQ : ClassId} {ad : Nat → Nat} {np : Nat} {x : Nat → Nat} {g : Nat → Nat → Int32} (hnp : 27 ≤ np) {n : Int32} : Cn l D cI cZ cQ ad np 1 yX3_isRowOrCost wsX3_isRowOrCost [.ref (ad 0), .int n] x g (rp (bI (inW n (-1) (nI (x 0) - 1))) x g) := by
  refine cn_of (own := RX3) (by decide) rfl rfl (by simp [Value.category]) (Nat.le_of_ble_eq_true rfl) ?_
  intro p e s m args below meth c A Q C HR HV
  refine j_iload_n C dX3_isRowOrCost_0 rfl ?_
  refine j_iconst (v := (-1)) C dX3_isRowOrCost_1 rfl ?_
  refine j_aload_n C dX3_isRowOrCost_2 rfl ?_
  refine jg_X3_rowCount C dX3_isRowOrCost_3 n_X3_isRowOrCost_X3 (by decide +kernel) (Nat.lt_of_lt_of_le (by decide) hnp) ?_
  refine j_iconst (v := 1) C dX3_isRowOrCost_6 rfl ?_
  refine j_isub C dX3_isRowOrCost_7 ?_
  refine jSp3 C dX3_isRowOrCost_8 gX3_isRowOrCost_X3_isWithin rfl pd_X3_isWithin ⟨by decide, by decide⟩ (Nat.le_of_ble_eq_true rfl) c_X3_isWithin ?_
  exact HR _ _ _ _ _ _ rfl (by unfold bI; split <;> rfl) dX3_isRowOrCost_11 ⟨_, rfl, rfl, rfl, rfl⟩
theorem n_X3_isName_X1 : ∀ w ∈ wsX10, w ∈ wsX3_isName := by decide +kernel
theorem n_X3_isName_X3 : ∀ w ∈ wsX30, w ∈ wsX3_isName := by decide +kernel
set_option maxHeartbeats 4000000 in
set_option maxRecDepth 100000 in
theorem c_X3_isName {l : Launch} {D : va_G} {cI cZ cQ : ClassId} {ad : Nat → Nat} {np : Nat} {x : Nat → Nat} {g : Nat → Nat → Int32} (hnp : 27 ≤ np) {n : Int32} : Cn l D cI cZ cQ ad np 1 yX3_isName wsX3_isName [.ref (ad 0), .int n] x g (rp (bI (inW n 0 (nI (x 4) - 1))) x g) := by
  refine cn_of (own := RX3) (by decide) rfl rfl (by simp [Value.category]) (Nat.le_of_ble_eq_true rfl) ?_
  intro p e s m args below meth c A Q C HR HV
  refine j_iload_n C dX3_isName_0 rfl ?_
  refine j_iconst (v := 0) C dX3_isName_1 rfl ?_
  refine j_aload_n C dX3_isName_2 rfl ?_
  refine jg_X3_names C dX3_isName_3 n_X3_isName_X3 (by decide +kernel) (Nat.lt_of_lt_of_le (by decide) hnp) ?_
  refine jg_X1_count C dX3_isName_6 n_X3_isName_X1 (by decide +kernel) (Nat.lt_of_lt_of_le (by decide) hnp) ?_
  refine j_iconst (v := 1) C dX3_isName_9 rfl ?_
  refine j_isub C dX3_isName_10 ?_
  refine jSp3 C dX3_isName_11 gX3_isName_X3_isWithin rfl pd_X3_isWithin ⟨by decide, by decide⟩ (Nat.le_of_ble_eq_true rfl) c_X3_isWithin ?_
  exact HR _ _ _ _ _ _ rfl (by unfold bI; split <;> rfl) dX3_isName_14 ⟨_, rfl, rfl, rfl, rfl⟩
theorem n_X3_isListed_X0 : ∀ w ∈ wsX00, w ∈ wsX3_isListed := by decide +kernel
theorem n_X3_isListed_X3 : ∀ w ∈ wsX30, w ∈ wsX3_isListed := by decide +kernel
set_option maxHeartbeats 4000000 in
set_option maxRecDepth 100000 in
theorem c_X3_isListed {l : Launch} {D : va_G} {cI cZ cQ : ClassId} {ad : Nat → Nat} {np : Nat} {x : Nat → Nat} {g : Nat → Nat → Int32} (hnp : 27 ≤ np) {n : Int32} : Cn l D cI cZ cQ ad np 1 yX3_isListed wsX3_isListed [.ref (ad 0), .int n] x g (rp (bI (inW n 0 (nI (x 6) - 1))) x g) := by
  refine cn_of (own := RX3) (by decide) rfl rfl (by simp [Value.category]) (Nat.le_of_ble_eq_true rfl) ?_
  intro p e s m args below meth c A Q C HR HV
  refine j_iload_n C dX3_isListed_0 rfl ?_
  refine j_iconst (v := 0) C dX3_isListed_1 rfl ?_
  refine j_aload_n C dX3_isListed_2 rfl ?_
  refine jg_X3_listed C dX3_isListed_3 n_X3_isListed_X3 (by decide +kernel) (Nat.lt_of_lt_of_le (by decide) hnp) ?_
  refine jg_X0_count C dX3_isListed_6 n_X3_isListed_X0 (by decide +kernel) (Nat.lt_of_lt_of_le (by decide) hnp) ?_
  refine j_iconst (v := 1) C dX3_isListed_9 rfl ?_
  refine j_isub C dX3_isListed_10 ?_
  refine jSp3 C dX3_isListed_11 gX3_isListed_X3_isWithin rfl pd_X3_isWithin ⟨by decide, by decide⟩ (Nat.le_of_ble_eq_true rfl) c_X3_isWithin ?_
  exact HR _ _ _ _ _ _ rfl (by unfold bI; split <;> rfl) dX3_isListed_14 ⟨_, rfl, rfl, rfl, rfl⟩
set_option maxHeartbeats 4000000 in
set_option maxRecDepth 100000 in
theorem c_X3_isPart {l : Launch} {D : va_G} {cI cZ cQ : ClassId} {ad : Nat → Nat} {np : Nat} {x : Nat → Nat} {g : Nat → Nat → Int32} {n : Int32} : Cn l D cI cZ cQ ad np 1 yX3_isPart wsX3_isPart [.int n] x g (rp (bI (inW n 0 1)) x g) := by
  refine cn_of (own := RX3) (by decide) rfl rfl (by simp [Value.category]) (Nat.le_of_ble_eq_true rfl) ?_
  intro p e s m args below meth c A Q C HR HV
  refine j_iload_n C dX3_isPart_0 rfl ?_
  refine j_iconst (v := 0) C dX3_isPart_1 rfl ?_
  refine j_iconst (v := 1) C dX3_isPart_2 rfl ?_
  refine jSp3 C dX3_isPart_3 gX3_isPart_X3_isWithin rfl pd_X3_isWithin ⟨by decide, by decide⟩ (Nat.le_of_ble_eq_true rfl) c_X3_isWithin ?_
  exact HR _ _ _ _ _ _ rfl (by unfold bI; split <;> rfl) dX3_isPart_6 ⟨_, rfl, rfl, rfl, rfl⟩
theorem n_X4_isPlan_X4 : ∀ w ∈ wsX40, w ∈ wsX4_isPlan := by decide +kernel
set_option maxHeartbeats 4000000 in
set_option maxRecDepth 100000 in
theorem c_X4_isPlan {l : Launch} {D : va_G} {cI cZ cQ : ClassId} {ad : Nat → Nat} {np : Nat} {x : Nat → Nat} {g : Nat → Nat → Int32} (hnp : 41 ≤ np) {n : Int32} : Cn l D cI cZ cQ ad np 1 yX4_isPlan wsX4_isPlan [.ref (ad 27), .int n] x g (rp (bI (inW n 0 (pcF (x 7) (x 8) - 1))) x g) := by
  refine cn_of (own := RX4) (by decide) rfl rfl (by simp [Value.category]) (Nat.le_of_ble_eq_true rfl) ?_
  intro p e s m args below meth c A Q C HR HV
  refine j_iload_n C dX4_isPlan_0 rfl ?_
  refine j_iconst (v := 0) C dX4_isPlan_1 rfl ?_
  refine j_iconst (v := 1) C dX4_isPlan_2 rfl ?_
  refine j_aload_n C dX4_isPlan_3 rfl ?_
  refine jg_X4_firsts C dX4_isPlan_4 n_X4_isPlan_X4 (by decide +kernel) (Nat.lt_of_lt_of_le (by decide) hnp) ?_
  refine j_aload_n C dX4_isPlan_7 rfl ?_
  refine jg_X4_seconds C dX4_isPlan_8 n_X4_isPlan_X4 (by decide +kernel) (Nat.lt_of_lt_of_le (by decide) hnp) ?_
  refine j_iadd C dX4_isPlan_11 ?_
  refine j_ishl C dX4_isPlan_12 ?_
  refine j_iconst (v := 1) C dX4_isPlan_13 rfl ?_
  refine j_isub C dX4_isPlan_14 ?_
  refine jSp3 C dX4_isPlan_15 gX4_isPlan_X4_in rfl pd_X4_in ⟨by decide, by decide⟩ (Nat.le_of_ble_eq_true rfl) c_X4_in ?_
  exact HR _ _ _ _ _ _ rfl (by unfold bI; split <;> rfl) dX4_isPlan_18 ⟨_, rfl, rfl, rfl, rfl⟩
theorem n_X4_isFirst_X4 : ∀ w ∈ wsX40, w ∈ wsX4_isFirst := by decide +kernel
set_option maxHeartbeats 4000000 in
set_option maxRecDepth 100000 in
theorem c_X4_isFirst {l : Launch} {D : va_G} {cI cZ cQ : ClassId} {ad : Nat → Nat} {np : Nat} {x : Nat → Nat} {g : Nat → Nat → Int32} (hnp : 41 ≤ np) {n : Int32} : Cn l D cI cZ cQ ad np 1 yX4_isFirst wsX4_isFirst [.ref (ad 27), .int n] x g (rp (bI (inW n 0 (fcF (x 7) - 1))) x g) := by
  refine cn_of (own := RX4) (by decide) rfl rfl (by simp [Value.category]) (Nat.le_of_ble_eq_true rfl) ?_
  intro p e s m args below meth c A Q C HR HV
  refine j_iload_n C dX4_isFirst_0 rfl ?_
  refine j_iconst (v := 0) C dX4_isFirst_1 rfl ?_
  refine j_iconst (v := 1) C dX4_isFirst_2 rfl ?_
  refine j_aload_n C dX4_isFirst_3 rfl ?_
  refine jg_X4_firsts C dX4_isFirst_4 n_X4_isFirst_X4 (by decide +kernel) (Nat.lt_of_lt_of_le (by decide) hnp) ?_
  refine j_ishl C dX4_isFirst_7 ?_
  refine j_iconst (v := 1) C dX4_isFirst_8 rfl ?_
  refine j_isub C dX4_isFirst_9 ?_
  refine jSp3 C dX4_isFirst_10 gX4_isFirst_X4_in rfl pd_X4_in ⟨by decide, by decide⟩ (Nat.le_of_ble_eq_true rfl) c_X4_in ?_
  exact HR _ _ _ _ _ _ rfl (by unfold bI; split <;> rfl) dX4_isFirst_13 ⟨_, rfl, rfl, rfl, rfl⟩
