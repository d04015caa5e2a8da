/-! The square for trials is a square like the other. -/
theorem q2_isOver : @X9_isOver_q2 = @X9_isOver_q0 := rfl
theorem q2_isRight : @X9_isRight_q2 = @X9_isRight_q0 := rfl
theorem q2_paysOf : @X9_paysOf_q2 = @X9_paysOf_q0 := by delta X9_paysOf_q2 X9_paysOf_q0; rw [q2_isRight]
theorem q2_skyAt : @X9_skyAt_q2 = @X9_skyAt_q0 := rfl
theorem q2_kindOf : @X9_kindOf_q2 = @X9_kindOf_q0 := rfl
theorem q2_holds1 : @X7_holds_f2_L1 = @X7_holds_f0_L1 := by delta X7_holds_f2_L1 X7_holds_f0_L1; rfl
theorem q2_holds : @X7_holds_f2 = @X7_holds_f0 := by delta X7_holds_f2 X7_holds_f0; rw [q2_holds1]
theorem q2_tell1 : @X7_tell_f2_L1 = @X7_tell_f0_L1 := by delta X7_tell_f2_L1 X7_tell_f0_L1 X7_tell_f2_L1._f X7_tell_f0_L1._f; rw [q2_holds]
theorem q2_tell : @X7_tell_f2 = @X7_tell_f0 := by delta X7_tell_f2 X7_tell_f0; rw [q2_tell1]
theorem q2_willOf : @X9_willOf_q2 = @X9_willOf_q0 := by delta X9_willOf_q2 X9_willOf_q0; rw [q2_skyAt, q2_tell]
theorem q2_mayBeSet : @X9_mayBeSet_q2 = @X9_mayBeSet_q0 := by delta X9_mayBeSet_q2 X9_mayBeSet_q0; rw [q2_paysOf, q2_willOf]
theorem q2_restAct1 : @X9_restAct_q2_L1 = @X9_restAct_q0_L1 := by delta X9_restAct_q2_L1 X9_restAct_q0_L1 X9_restAct_q2_L1._f X9_restAct_q0_L1._f; rw [q2_mayBeSet]
theorem q2_restAct : @X9_restAct_q2 = @X9_restAct_q0 := by delta X9_restAct_q2 X9_restAct_q0; rw [q2_restAct1]
theorem q2_setRight : @X9_setRight_q2 = @X9_setRight_q0 := by delta X9_setRight_q2 X9_setRight_q0; rw [q2_paysOf]
theorem q2_argued1 : @X9_arguedBy_q2_L1 = @X9_arguedBy_q0_L1 := by delta X9_arguedBy_q2_L1 X9_arguedBy_q0_L1 X9_arguedBy_q2_L1._f X9_arguedBy_q0_L1._f; rw [q2_isRight]
theorem q2_argued : @X9_arguedBy_q2 = @X9_arguedBy_q0 := by delta X9_arguedBy_q2 X9_arguedBy_q0; rw [q2_argued1]
theorem q2_agree : @X9_agree_q2 = @X9_agree_q0 := rfl
theorem q2_pairs2 : @X9_pairs_q2_L2 = @X9_pairs_q0_L2 := by delta X9_pairs_q2_L2 X9_pairs_q0_L2 X9_pairs_q2_L2._f X9_pairs_q0_L2._f; rw [q2_agree]
theorem q2_pairs1 : @X9_pairs_q2_L1 = @X9_pairs_q0_L1 := by delta X9_pairs_q2_L1 X9_pairs_q0_L1 X9_pairs_q2_L1._f X9_pairs_q0_L1._f; rw [q2_pairs2]
theorem q2_pairs : @X9_pairs_q2 = @X9_pairs_q0 := by delta X9_pairs_q2 X9_pairs_q0; rw [q2_pairs1]
theorem q2_measure1 : @X9_measureShades_q2_L1 = @X9_measureShades_q0_L1 := by delta X9_measureShades_q2_L1 X9_measureShades_q0_L1; rfl
theorem q2_measure2 : @X9_measureShades_q2_L2 = @X9_measureShades_q0_L2 := by delta X9_measureShades_q2_L2 X9_measureShades_q0_L2 X9_measureShades_q2_L2._f X9_measureShades_q0_L2._f; rw [q2_kindOf]
theorem q2_measure : @X9_measureShades_q2 = @X9_measureShades_q0 := by delta X9_measureShades_q2 X9_measureShades_q0; rw [q2_skyAt, q2_measure1, q2_measure2]
theorem q2_slip1 : @X9_slipAll_q2_L1 = @X9_slipAll_q0_L1 := by delta X9_slipAll_q2_L1 X9_slipAll_q0_L1 X9_slipAll_q2_L1._f X9_slipAll_q0_L1._f; rw [q2_isRight, q2_kindOf]
theorem q2_slip : @X9_slipAll_q2 = @X9_slipAll_q0 := by delta X9_slipAll_q2 X9_slipAll_q0; rw [q2_skyAt, q2_slip1]
theorem q2_goBy : @X9_goBy_q2 = @X9_goBy_q0 := by delta X9_goBy_q2 X9_goBy_q0; rw [q2_willOf, q2_setRight, q2_argued, q2_pairs, q2_measure, q2_slip]
theorem q2_rest1 : @X9_rest_q2_L1 = @X9_rest_q0_L1 := by delta X9_rest_q2_L1 X9_rest_q0_L1 X9_rest_q2_L1._f X9_rest_q0_L1._f; rw [q2_isOver, q2_restAct, q2_goBy]
theorem q2_rest : @X9_rest_q2 = @X9_rest_q0 := by delta X9_rest_q2 X9_rest_q0; rw [q2_rest1]
theorem q2_byLot1 : @X9_byLot_q2_L1 = @X9_byLot_q0_L1 := by delta X9_byLot_q2_L1 X9_byLot_q0_L1 X9_byLot_q2_L1._f X9_byLot_q0_L1._f; rw [q2_isOver, q2_goBy]
theorem q2_byLot : @X9_byLot_q2 = @X9_byLot_q0 := by delta X9_byLot_q2 X9_byLot_q0; rw [q2_byLot1]
theorem q2_rightSet1 : @X9_rightSet_q2_L1 = @X9_rightSet_q0_L1 := by delta X9_rightSet_q2_L1 X9_rightSet_q0_L1 X9_rightSet_q2_L1._f X9_rightSet_q0_L1._f; rw [q2_isRight]
theorem q2_rightSet : @X9_rightSet_q2 = @X9_rightSet_q0 := by delta X9_rightSet_q2 X9_rightSet_q0; rw [q2_rightSet1]
theorem q2_isAct : @X9_isAct_q2 = @X9_isAct_q0 := rfl
