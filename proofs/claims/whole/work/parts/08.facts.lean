/-! facts of fields and callees, written by program -/
theorem hin_X0_init_0 : ∀ w ∈ u_ws RX0 TX0 4, w ∈ wsX0_init := fun w h => List.mem_cons_of_mem _ (List.mem_append_right _ h)
theorem fpX0_init_15 : FP wsX0_init RX0 15 0 1 .int := ⟨RX0, TX0, 4, tyX0, rfl, hin_X0_init_0, by decide, by decide +kernel, rfl, tyX0_ok, nmX0, rfl, by decide +kernel⟩
theorem fpX0_init_19 : FP wsX0_init RX0 19 0 2 .int := ⟨RX0, TX0, 4, tyX0, rfl, hin_X0_init_0, by decide, by decide +kernel, rfl, tyX0_ok, nmX0, rfl, by decide +kernel⟩
theorem fpX0_init_22 : FP wsX0_init RX0 22 0 3 .long := ⟨RX0, TX0, 4, tyX0, rfl, hin_X0_init_0, by decide, by decide +kernel, rfl, tyX0_ok, nmX0, rfl, by decide +kernel⟩
theorem hin_X0_find_0 : ∀ w ∈ u_ws RX0 TX0 4, w ∈ wsX0_find := fun w h => List.mem_cons_of_mem _ (List.mem_append_right _ h)
theorem flX0_find_19 : FL wsX0_find RX0 19 0 2 := ⟨RX0, TX0, 4, rfl, hin_X0_find_0, by decide, by decide +kernel, rfl⟩
theorem flX0_find_22 : FL wsX0_find RX0 22 0 3 := ⟨RX0, TX0, 4, rfl, hin_X0_find_0, by decide, by decide +kernel, rfl⟩
theorem fpX0_find_19 : FP wsX0_find RX0 19 0 2 .int := ⟨RX0, TX0, 4, tyX0, rfl, hin_X0_find_0, by decide, by decide +kernel, rfl, tyX0_ok, nmX0, rfl, by decide +kernel⟩
theorem fpX0_find_22 : FP wsX0_find RX0 22 0 3 .long := ⟨RX0, TX0, 4, tyX0, rfl, hin_X0_find_0, by decide, by decide +kernel, rfl, tyX0_ok, nmX0, rfl, by decide +kernel⟩
theorem flX0_find_9 : FL wsX0_find RX0 9 0 0 := ⟨RX0, TX0, 4, rfl, hin_X0_find_0, by decide, by decide +kernel, rfl⟩
theorem fpX0_find_15 : FP wsX0_find RX0 15 0 1 .int := ⟨RX0, TX0, 4, tyX0, rfl, hin_X0_find_0, by decide, by decide +kernel, rfl, tyX0_ok, nmX0, rfl, by decide +kernel⟩
theorem hin_X1_init_1 : ∀ w ∈ u_ws RX1 TX1 3, w ∈ wsX1_init := fun w h => List.mem_cons_of_mem _ (List.mem_append_right _ h)
theorem fpX1_init_9 : FP wsX1_init RX1 9 1 0 .int := ⟨RX1, TX1, 3, tyX1, rfl, hin_X1_init_1, by decide, by decide +kernel, rfl, tyX1_ok, nmX1, rfl, by decide +kernel⟩
theorem fpX1_init_15 : FP wsX1_init RX1 15 1 1 .int := ⟨RX1, TX1, 3, tyX1, rfl, hin_X1_init_1, by decide, by decide +kernel, rfl, tyX1_ok, nmX1, rfl, by decide +kernel⟩
theorem hin_X1_isMissing_1 : ∀ w ∈ u_ws RX1 TX1 3, w ∈ wsX1_isMissing := fun w h => List.mem_cons_of_mem _ (List.mem_append_right _ h)
theorem flX1_isMissing_9 : FL wsX1_isMissing RX1 9 1 0 := ⟨RX1, TX1, 3, rfl, hin_X1_isMissing_1, by decide, by decide +kernel, rfl⟩
theorem hin_X1_hasPart_1 : ∀ w ∈ u_ws RX1 TX1 3, w ∈ wsX1_hasPart := fun w h => List.mem_cons_of_mem _ (List.mem_append_right _ h)
theorem flX1_hasPart_15 : FL wsX1_hasPart RX1 15 1 1 := ⟨RX1, TX1, 3, rfl, hin_X1_hasPart_1, by decide, by decide +kernel, rfl⟩
theorem hin_X1_renew_1 : ∀ w ∈ u_ws RX1 TX1 3, w ∈ wsX1_renew := fun w h => List.mem_cons_of_mem _ (List.mem_append_right _ h)
theorem fpX1_renew_9 : FP wsX1_renew RX1 9 1 0 .int := ⟨RX1, TX1, 3, tyX1, rfl, hin_X1_renew_1, by decide, by decide +kernel, rfl, tyX1_ok, nmX1, rfl, by decide +kernel⟩
theorem fpX1_renew_15 : FP wsX1_renew RX1 15 1 1 .int := ⟨RX1, TX1, 3, tyX1, rfl, hin_X1_renew_1, by decide, by decide +kernel, rfl, tyX1_ok, nmX1, rfl, by decide +kernel⟩
theorem flX1_renew_18 : FL wsX1_renew RX1 18 1 2 := ⟨RX1, TX1, 3, rfl, hin_X1_renew_1, by decide, by decide +kernel, rfl⟩
theorem hin_X1_write_1 : ∀ w ∈ u_ws RX1 TX1 3, w ∈ wsX1_write := fun w h => List.mem_cons_of_mem _ (List.mem_append_right _ h)
theorem flX1_write_18 : FL wsX1_write RX1 18 1 2 := ⟨RX1, TX1, 3, rfl, hin_X1_write_1, by decide, by decide +kernel, rfl⟩
theorem flX1_write_9 : FL wsX1_write RX1 9 1 0 := ⟨RX1, TX1, 3, rfl, hin_X1_write_1, by decide, by decide +kernel, rfl⟩
theorem hin_X1_compare_1 : ∀ w ∈ u_ws RX1 TX1 3, w ∈ wsX1_compare := fun w h => List.mem_cons_of_mem _ (List.mem_append_right _ h)
theorem flX1_compare_18 : FL wsX1_compare RX1 18 1 2 := ⟨RX1, TX1, 3, rfl, hin_X1_compare_1, by decide, by decide +kernel, rfl⟩
theorem hin_X1_rank_1 : ∀ w ∈ u_ws RX1 TX1 3, w ∈ wsX1_rank := fun w h => List.mem_cons_of_mem _ (List.mem_append_right _ h)
theorem flX1_rank_9 : FL wsX1_rank RX1 9 1 0 := ⟨RX1, TX1, 3, rfl, hin_X1_rank_1, by decide, by decide +kernel, rfl⟩
theorem hin_X1_exchange_1 : ∀ w ∈ u_ws RX1 TX1 3, w ∈ wsX1_exchange := fun w h => List.mem_cons_of_mem _ (List.mem_append_right _ h)
theorem flX1_exchange_18 : FL wsX1_exchange RX1 18 1 2 := ⟨RX1, TX1, 3, rfl, hin_X1_exchange_1, by decide, by decide +kernel, rfl⟩
theorem hin_X2_init_2 : ∀ w ∈ u_ws RX2 TX2 3, w ∈ wsX2_init := fun w h => List.mem_cons_of_mem _ (List.mem_append_left _ (List.mem_append_right _ h))
theorem fpX2_init_17 : FP wsX2_init RX2 17 2 1 .int := ⟨RX2, TX2, 3, tyX2, rfl, hin_X2_init_2, by decide, by decide +kernel, rfl, tyX2_ok, nmX2, rfl, by decide +kernel⟩
theorem fpX2_init_21 : FP wsX2_init RX2 21 2 2 .int := ⟨RX2, TX2, 3, tyX2, rfl, hin_X2_init_2, by decide, by decide +kernel, rfl, tyX2_ok, nmX2, rfl, by decide +kernel⟩
theorem flX2_init_11 : FL wsX2_init RX2 11 2 0 := ⟨RX2, TX2, 3, rfl, hin_X2_init_2, by decide, by decide +kernel, rfl⟩
theorem hin_X2_remember_2 : ∀ w ∈ u_ws RX2 TX2 3, w ∈ wsX2_remember := fun w h => List.mem_cons_of_mem _ (List.mem_append_left _ (List.mem_append_right _ h))
theorem flX2_remember_11 : FL wsX2_remember RX2 11 2 0 := ⟨RX2, TX2, 3, rfl, hin_X2_remember_2, by decide, by decide +kernel, rfl⟩
theorem flX2_remember_17 : FL wsX2_remember RX2 17 2 1 := ⟨RX2, TX2, 3, rfl, hin_X2_remember_2, by decide, by decide +kernel, rfl⟩
theorem fpX2_remember_17 : FP wsX2_remember RX2 17 2 1 .int := ⟨RX2, TX2, 3, tyX2, rfl, hin_X2_remember_2, by decide, by decide +kernel, rfl, tyX2_ok, nmX2, rfl, by decide +kernel⟩
theorem flX2_remember_21 : FL wsX2_remember RX2 21 2 2 := ⟨RX2, TX2, 3, rfl, hin_X2_remember_2, by decide, by decide +kernel, rfl⟩
theorem fpX2_remember_21 : FP wsX2_remember RX2 21 2 2 .int := ⟨RX2, TX2, 3, tyX2, rfl, hin_X2_remember_2, by decide, by decide +kernel, rfl, tyX2_ok, nmX2, rfl, by decide +kernel⟩
theorem hin_X2_giveBack_2 : ∀ w ∈ u_ws RX2 TX2 3, w ∈ wsX2_giveBack := fun w h => List.mem_cons_of_mem _ (List.mem_append_left _ (List.mem_append_right _ h))
theorem flX2_giveBack_21 : FL wsX2_giveBack RX2 21 2 2 := ⟨RX2, TX2, 3, rfl, hin_X2_giveBack_2, by decide, by decide +kernel, rfl⟩
theorem flX2_giveBack_17 : FL wsX2_giveBack RX2 17 2 1 := ⟨RX2, TX2, 3, rfl, hin_X2_giveBack_2, by decide, by decide +kernel, rfl⟩
theorem fpX2_giveBack_17 : FP wsX2_giveBack RX2 17 2 1 .int := ⟨RX2, TX2, 3, tyX2, rfl, hin_X2_giveBack_2, by decide, by decide +kernel, rfl, tyX2_ok, nmX2, rfl, by decide +kernel⟩
theorem fpX2_giveBack_21 : FP wsX2_giveBack RX2 21 2 2 .int := ⟨RX2, TX2, 3, tyX2, rfl, hin_X2_giveBack_2, by decide, by decide +kernel, rfl, tyX2_ok, nmX2, rfl, by decide +kernel⟩
theorem flX2_giveBack_11 : FL wsX2_giveBack RX2 11 2 0 := ⟨RX2, TX2, 3, rfl, hin_X2_giveBack_2, by decide, by decide +kernel, rfl⟩
theorem hin_X3_init_3 : ∀ w ∈ u_ws RX3 TX3 3, w ∈ wsX3_init := fun w h => List.mem_cons_of_mem _ (List.mem_append_right _ h)
theorem fpX3_init_9 : FP wsX3_init RX3 9 3 0 .int := ⟨RX3, TX3, 3, tyX3, rfl, hin_X3_init_3, by decide, by decide +kernel, rfl, tyX3_ok, nmX3, rfl, by decide +kernel⟩
theorem fpX3_init_15 : FP wsX3_init RX3 15 3 1 .int := ⟨RX3, TX3, 3, tyX3, rfl, hin_X3_init_3, by decide, by decide +kernel, rfl, tyX3_ok, nmX3, rfl, by decide +kernel⟩
theorem hin_X3_isNone_3 : ∀ w ∈ u_ws RX3 TX3 3, w ∈ wsX3_isNone := fun w h => List.mem_cons_of_mem _ (List.mem_append_right _ h)
theorem flX3_isNone_9 : FL wsX3_isNone RX3 9 3 0 := ⟨RX3, TX3, 3, rfl, hin_X3_isNone_3, by decide, by decide +kernel, rfl⟩
theorem hin_X3_has_3 : ∀ w ∈ u_ws RX3 TX3 3, w ∈ wsX3_has := fun w h => List.mem_cons_of_mem _ (List.mem_append_right _ h)
theorem flX3_has_15 : FL wsX3_has RX3 15 3 1 := ⟨RX3, TX3, 3, rfl, hin_X3_has_3, by decide, by decide +kernel, rfl⟩
theorem hin_X3_hasLane_3 : ∀ w ∈ u_ws RX3 TX3 3, w ∈ wsX3_hasLane := fun w h => List.mem_cons_of_mem _ (List.mem_append_right _ h)
theorem flX3_hasLane_9 : FL wsX3_hasLane RX3 9 3 0 := ⟨RX3, TX3, 3, rfl, hin_X3_hasLane_3, by decide, by decide +kernel, rfl⟩
theorem hin_X3_kind_3 : ∀ w ∈ u_ws RX3 TX3 3, w ∈ wsX3_kind := fun w h => List.mem_cons_of_mem _ (List.mem_append_right _ h)
theorem flX3_kind_18 : FL wsX3_kind RX3 18 3 2 := ⟨RX3, TX3, 3, rfl, hin_X3_kind_3, by decide, by decide +kernel, rfl⟩
theorem hin_X3_low_3 : ∀ w ∈ u_ws RX3 TX3 3, w ∈ wsX3_low := fun w h => List.mem_cons_of_mem _ (List.mem_append_right _ h)
theorem flX3_low_18 : FL wsX3_low RX3 18 3 2 := ⟨RX3, TX3, 3, rfl, hin_X3_low_3, by decide, by decide +kernel, rfl⟩
theorem hin_X3_high_3 : ∀ w ∈ u_ws RX3 TX3 3, w ∈ wsX3_high := fun w h => List.mem_cons_of_mem _ (List.mem_append_right _ h)
theorem flX3_high_18 : FL wsX3_high RX3 18 3 2 := ⟨RX3, TX3, 3, rfl, hin_X3_high_3, by decide, by decide +kernel, rfl⟩
theorem hin_X3_switchOf_3 : ∀ w ∈ u_ws RX3 TX3 3, w ∈ wsX3_switchOf := fun w h => List.mem_cons_of_mem _ (List.mem_append_right _ h)
theorem flX3_switchOf_18 : FL wsX3_switchOf RX3 18 3 2 := ⟨RX3, TX3, 3, rfl, hin_X3_switchOf_3, by decide, by decide +kernel, rfl⟩
theorem hin_X3_clear_3 : ∀ w ∈ u_ws RX3 TX3 3, w ∈ wsX3_clear := fun w h => List.mem_cons_of_mem _ (List.mem_append_right _ h)
theorem fpX3_clear_9 : FP wsX3_clear RX3 9 3 0 .int := ⟨RX3, TX3, 3, tyX3, rfl, hin_X3_clear_3, by decide, by decide +kernel, rfl, tyX3_ok, nmX3, rfl, by decide +kernel⟩
theorem fpX3_clear_15 : FP wsX3_clear RX3 15 3 1 .int := ⟨RX3, TX3, 3, tyX3, rfl, hin_X3_clear_3, by decide, by decide +kernel, rfl, tyX3_ok, nmX3, rfl, by decide +kernel⟩
theorem hin_X3_add_3 : ∀ w ∈ u_ws RX3 TX3 3, w ∈ wsX3_add := fun w h => List.mem_cons_of_mem _ (List.mem_append_right _ h)
theorem flX3_add_15 : FL wsX3_add RX3 15 3 1 := ⟨RX3, TX3, 3, rfl, hin_X3_add_3, by decide, by decide +kernel, rfl⟩
theorem fpX3_add_15 : FP wsX3_add RX3 15 3 1 .int := ⟨RX3, TX3, 3, tyX3, rfl, hin_X3_add_3, by decide, by decide +kernel, rfl, tyX3_ok, nmX3, rfl, by decide +kernel⟩
theorem hin_X3_write_3 : ∀ w ∈ u_ws RX3 TX3 3, w ∈ wsX3_write := fun w h => List.mem_cons_of_mem _ (List.mem_append_right _ h)
theorem flX3_write_18 : FL wsX3_write RX3 18 3 2 := ⟨RX3, TX3, 3, rfl, hin_X3_write_3, by decide, by decide +kernel, rfl⟩
theorem hin_X3_move_3 : ∀ w ∈ u_ws RX3 TX3 3, w ∈ wsX3_move := fun w h => List.mem_cons_of_mem _ (List.mem_append_right _ h)
theorem flX3_move_18 : FL wsX3_move RX3 18 3 2 := ⟨RX3, TX3, 3, rfl, hin_X3_move_3, by decide, by decide +kernel, rfl⟩
theorem hin_X3_setSwitch_3 : ∀ w ∈ u_ws RX3 TX3 3, w ∈ wsX3_setSwitch := fun w h => List.mem_cons_of_mem _ (List.mem_append_right _ h)
theorem flX3_setSwitch_18 : FL wsX3_setSwitch RX3 18 3 2 := ⟨RX3, TX3, 3, rfl, hin_X3_setSwitch_3, by decide, by decide +kernel, rfl⟩
theorem hin_X3_become_3 : ∀ w ∈ u_ws RX3 TX3 3, w ∈ wsX3_become := fun w h => List.mem_cons_of_mem _ (List.mem_append_right _ h)
theorem flX3_become_9 : FL wsX3_become RX3 9 3 0 := ⟨RX3, TX3, 3, rfl, hin_X3_become_3, by decide, by decide +kernel, rfl⟩
theorem fpX3_become_9 : FP wsX3_become RX3 9 3 0 .int := ⟨RX3, TX3, 3, tyX3, rfl, hin_X3_become_3, by decide, by decide +kernel, rfl, tyX3_ok, nmX3, rfl, by decide +kernel⟩
theorem flX3_become_15 : FL wsX3_become RX3 15 3 1 := ⟨RX3, TX3, 3, rfl, hin_X3_become_3, by decide, by decide +kernel, rfl⟩
theorem fpX3_become_15 : FP wsX3_become RX3 15 3 1 .int := ⟨RX3, TX3, 3, tyX3, rfl, hin_X3_become_3, by decide, by decide +kernel, rfl, tyX3_ok, nmX3, rfl, by decide +kernel⟩
theorem flX3_become_18 : FL wsX3_become RX3 18 3 2 := ⟨RX3, TX3, 3, rfl, hin_X3_become_3, by decide, by decide +kernel, rfl⟩
theorem hin_X4_init_4 : ∀ w ∈ u_ws RX4 TX4 2, w ∈ wsX4_init := fun w h => List.mem_cons_of_mem _ (List.mem_append_right _ h)
theorem fpX4_init_15 : FP wsX4_init RX4 15 4 1 .long := ⟨RX4, TX4, 2, tyX4, rfl, hin_X4_init_4, by decide, by decide +kernel, rfl, tyX4_ok, nmX4, rfl, by decide +kernel⟩
theorem hin_X4_start_4 : ∀ w ∈ u_ws RX4 TX4 2, w ∈ wsX4_start := fun w h => List.mem_cons_of_mem _ (List.mem_append_right _ h)
theorem fpX4_start_15 : FP wsX4_start RX4 15 4 1 .long := ⟨RX4, TX4, 2, tyX4, rfl, hin_X4_start_4, by decide, by decide +kernel, rfl, tyX4_ok, nmX4, rfl, by decide +kernel⟩
theorem flX4_start_9 : FL wsX4_start RX4 9 4 0 := ⟨RX4, TX4, 2, rfl, hin_X4_start_4, by decide, by decide +kernel, rfl⟩
theorem flX4_start_15 : FL wsX4_start RX4 15 4 1 := ⟨RX4, TX4, 2, rfl, hin_X4_start_4, by decide, by decide +kernel, rfl⟩
theorem hin_X4_changing_4 : ∀ w ∈ u_ws RX4 TX4 2, w ∈ wsX4_changing := fun w h => List.mem_cons_of_mem _ (List.mem_append_right _ h)
theorem flX4_changing_9 : FL wsX4_changing RX4 9 4 0 := ⟨RX4, TX4, 2, rfl, hin_X4_changing_4, by decide, by decide +kernel, rfl⟩
theorem flX4_changing_15 : FL wsX4_changing RX4 15 4 1 := ⟨RX4, TX4, 2, rfl, hin_X4_changing_4, by decide, by decide +kernel, rfl⟩
theorem hin_X4_step_4 : ∀ w ∈ u_ws RX4 TX4 2, w ∈ wsX4_step := fun w h => List.mem_cons_of_mem _ (List.mem_append_right _ h)
theorem flX4_step_9 : FL wsX4_step RX4 9 4 0 := ⟨RX4, TX4, 2, rfl, hin_X4_step_4, by decide, by decide +kernel, rfl⟩
theorem hin_X4_pass_3 : ∀ w ∈ u_ws RX3 TX3 3, w ∈ wsX4_pass := fun w h => List.mem_cons_of_mem _ (List.mem_append_left _ (List.mem_append_right _ h))
theorem flX4_pass_38 : FL wsX4_pass RX4 38 3 1 := ⟨RX3, TX3, 3, rfl, hin_X4_pass_3, by decide, by decide +kernel, rfl⟩
theorem hin_X4_falling_4 : ∀ w ∈ u_ws RX4 TX4 2, w ∈ wsX4_falling := fun w h => List.mem_cons_of_mem _ (List.mem_append_right _ h)
theorem flX4_falling_9 : FL wsX4_falling RX4 9 4 0 := ⟨RX4, TX4, 2, rfl, hin_X4_falling_4, by decide, by decide +kernel, rfl⟩
theorem hin_X4_differing_4 : ∀ w ∈ u_ws RX4 TX4 2, w ∈ wsX4_differing := fun w h => List.mem_cons_of_mem _ (List.mem_append_right _ h)
theorem flX4_differing_9 : FL wsX4_differing RX4 9 4 0 := ⟨RX4, TX4, 2, rfl, hin_X4_differing_4, by decide, by decide +kernel, rfl⟩
theorem hin_X4_numberOf_4 : ∀ w ∈ u_ws RX4 TX4 2, w ∈ wsX4_numberOf := fun w h => List.mem_cons_of_mem _ (List.mem_append_right _ h)
theorem flX4_numberOf_9 : FL wsX4_numberOf RX4 9 4 0 := ⟨RX4, TX4, 2, rfl, hin_X4_numberOf_4, by decide, by decide +kernel, rfl⟩
theorem hin_X4_packed_4 : ∀ w ∈ u_ws RX4 TX4 2, w ∈ wsX4_packed := fun w h => List.mem_cons_of_mem _ (List.mem_append_right _ h)
theorem flX4_packed_9 : FL wsX4_packed RX4 9 4 0 := ⟨RX4, TX4, 2, rfl, hin_X4_packed_4, by decide, by decide +kernel, rfl⟩
theorem hin_X5_init_5 : ∀ w ∈ u_ws RX5 TX5 11, w ∈ wsX5_init := fun w h => List.mem_cons_of_mem _ (List.mem_append_left _ (List.mem_append_left _ (List.mem_append_left _ (List.mem_append_left _ (List.mem_append_right _ h)))))
theorem fpX5_init_57 : FP wsX5_init RX5 57 5 9 .int := ⟨RX5, TX5, 11, tyX5, rfl, hin_X5_init_5, by decide, by decide +kernel, rfl, tyX5_ok, nmX5, rfl, by decide +kernel⟩
theorem fpX5_init_61 : FP wsX5_init RX5 61 5 10 .int := ⟨RX5, TX5, 11, tyX5, rfl, hin_X5_init_5, by decide, by decide +kernel, rfl, tyX5_ok, nmX5, rfl, by decide +kernel⟩
theorem flX5_init_10 : FL wsX5_init RX5 10 5 0 := ⟨RX5, TX5, 11, rfl, hin_X5_init_5, by decide, by decide +kernel, rfl⟩
theorem flX5_init_16 : FL wsX5_init RX5 16 5 1 := ⟨RX5, TX5, 11, rfl, hin_X5_init_5, by decide, by decide +kernel, rfl⟩
theorem flX5_init_29 : FL wsX5_init RX5 29 5 3 := ⟨RX5, TX5, 11, rfl, hin_X5_init_5, by decide, by decide +kernel, rfl⟩
theorem hin_X5_lanes_5 : ∀ w ∈ u_ws RX5 TX5 11, w ∈ wsX5_lanes := fun w h => List.mem_cons_of_mem _ (List.mem_append_left _ (List.mem_append_left _ (List.mem_append_right _ h)))
theorem flX5_lanes_23 : FL wsX5_lanes RX5 23 5 2 := ⟨RX5, TX5, 11, rfl, hin_X5_lanes_5, by decide, by decide +kernel, rfl⟩
theorem flX5_lanes_10 : FL wsX5_lanes RX5 10 5 0 := ⟨RX5, TX5, 11, rfl, hin_X5_lanes_5, by decide, by decide +kernel, rfl⟩
theorem hin_X5_lanes_3 : ∀ w ∈ u_ws RX3 TX3 3, w ∈ wsX5_lanes := fun w h => List.mem_cons_of_mem _ (List.mem_append_left _ (List.mem_append_right _ h))
theorem flX5_lanes_77 : FL wsX5_lanes RX5 77 3 1 := ⟨RX3, TX3, 3, rfl, hin_X5_lanes_3, by decide, by decide +kernel, rfl⟩
theorem hin_X5_comparer_5 : ∀ w ∈ u_ws RX5 TX5 11, w ∈ wsX5_comparer := fun w h => List.mem_cons_of_mem _ (List.mem_append_left _ (List.mem_append_left _ (List.mem_append_right _ h)))
theorem flX5_comparer_10 : FL wsX5_comparer RX5 10 5 0 := ⟨RX5, TX5, 11, rfl, hin_X5_comparer_5, by decide, by decide +kernel, rfl⟩
theorem hin_X5_comparer_3 : ∀ w ∈ u_ws RX3 TX3 3, w ∈ wsX5_comparer := fun w h => List.mem_cons_of_mem _ (List.mem_append_left _ (List.mem_append_right _ h))
theorem flX5_comparer_77 : FL wsX5_comparer RX5 77 3 1 := ⟨RX3, TX3, 3, rfl, hin_X5_comparer_3, by decide, by decide +kernel, rfl⟩
theorem flX5_comparer_23 : FL wsX5_comparer RX5 23 5 2 := ⟨RX5, TX5, 11, rfl, hin_X5_comparer_5, by decide, by decide +kernel, rfl⟩
theorem hin_X5_cut_5 : ∀ w ∈ u_ws RX5 TX5 11, w ∈ wsX5_cut := fun w h => List.mem_cons_of_mem _ (List.mem_append_left _ (List.mem_append_left _ (List.mem_append_right _ h)))
theorem flX5_cut_10 : FL wsX5_cut RX5 10 5 0 := ⟨RX5, TX5, 11, rfl, hin_X5_cut_5, by decide, by decide +kernel, rfl⟩
theorem hin_X5_cut_3 : ∀ w ∈ u_ws RX3 TX3 3, w ∈ wsX5_cut := fun w h => List.mem_cons_of_mem _ (List.mem_append_left _ (List.mem_append_right _ h))
theorem flX5_cut_77 : FL wsX5_cut RX5 77 3 1 := ⟨RX3, TX3, 3, rfl, hin_X5_cut_3, by decide, by decide +kernel, rfl⟩
theorem flX5_cut_23 : FL wsX5_cut RX5 23 5 2 := ⟨RX5, TX5, 11, rfl, hin_X5_cut_5, by decide, by decide +kernel, rfl⟩
theorem fpX5_cut_77 : FP wsX5_cut RX5 77 3 1 .int := ⟨RX3, TX3, 3, tyX3, rfl, hin_X5_cut_3, by decide, by decide +kernel, rfl, tyX3_ok, nmX3, rfl, by decide +kernel⟩
theorem hin_X5_change_5 : ∀ w ∈ u_ws RX5 TX5 11, w ∈ wsX5_change := fun w h => List.mem_cons_of_mem _ (List.mem_append_left _ (List.mem_append_left _ (List.mem_append_right _ h)))
theorem flX5_change_10 : FL wsX5_change RX5 10 5 0 := ⟨RX5, TX5, 11, rfl, hin_X5_change_5, by decide, by decide +kernel, rfl⟩
theorem flX5_change_23 : FL wsX5_change RX5 23 5 2 := ⟨RX5, TX5, 11, rfl, hin_X5_change_5, by decide, by decide +kernel, rfl⟩
theorem hin_X5_turnSwitch_5 : ∀ w ∈ u_ws RX5 TX5 11, w ∈ wsX5_turnSwitch := fun w h => List.mem_cons_of_mem _ (List.mem_append_left _ (List.mem_append_left _ (List.mem_append_right _ h)))
theorem flX5_turnSwitch_10 : FL wsX5_turnSwitch RX5 10 5 0 := ⟨RX5, TX5, 11, rfl, hin_X5_turnSwitch_5, by decide, by decide +kernel, rfl⟩
theorem flX5_turnSwitch_23 : FL wsX5_turnSwitch RX5 23 5 2 := ⟨RX5, TX5, 11, rfl, hin_X5_turnSwitch_5, by decide, by decide +kernel, rfl⟩
theorem hin_X5_as_5 : ∀ w ∈ u_ws RX5 TX5 11, w ∈ wsX5_as := fun w h => List.mem_cons_of_mem _ (List.mem_append_left _ (List.mem_append_right _ h))
theorem flX5_as_10 : FL wsX5_as RX5 10 5 0 := ⟨RX5, TX5, 11, rfl, hin_X5_as_5, by decide, by decide +kernel, rfl⟩
theorem hin_X5_of_5 : ∀ w ∈ u_ws RX5 TX5 11, w ∈ wsX5_of := fun w h => List.mem_cons_of_mem _ (List.mem_append_left _ (List.mem_append_right _ h))
theorem flX5_of_10 : FL wsX5_of RX5 10 5 0 := ⟨RX5, TX5, 11, rfl, hin_X5_of_5, by decide, by decide +kernel, rfl⟩
theorem flX5_of_50 : FL wsX5_of RX5 50 5 7 := ⟨RX5, TX5, 11, rfl, hin_X5_of_5, by decide, by decide +kernel, rfl⟩
theorem hin_X5_rounds_5 : ∀ w ∈ u_ws RX5 TX5 11, w ∈ wsX5_rounds := fun w h => List.mem_cons_of_mem _ (List.mem_append_left _ (List.mem_append_right _ h))
theorem flX5_rounds_10 : FL wsX5_rounds RX5 10 5 0 := ⟨RX5, TX5, 11, rfl, hin_X5_rounds_5, by decide, by decide +kernel, rfl⟩
theorem hin_X5_rounds_3 : ∀ w ∈ u_ws RX3 TX3 3, w ∈ wsX5_rounds := fun w h => List.mem_cons_of_mem _ (List.mem_append_right _ h)
theorem flX5_rounds_77 : FL wsX5_rounds RX5 77 3 1 := ⟨RX3, TX3, 3, rfl, hin_X5_rounds_3, by decide, by decide +kernel, rfl⟩
theorem hin_X5_crate_5 : ∀ w ∈ u_ws RX5 TX5 11, w ∈ wsX5_crate := fun w h => List.mem_cons_of_mem _ (List.mem_append_left _ (List.mem_append_right _ h))
theorem flX5_crate_29 : FL wsX5_crate RX5 29 5 3 := ⟨RX5, TX5, 11, rfl, hin_X5_crate_5, by decide, by decide +kernel, rfl⟩
theorem hin_X5_put_5 : ∀ w ∈ u_ws RX5 TX5 11, w ∈ wsX5_put := fun w h => List.mem_cons_of_mem _ (List.mem_append_left _ (List.mem_append_right _ h))
theorem flX5_put_29 : FL wsX5_put RX5 29 5 3 := ⟨RX5, TX5, 11, rfl, hin_X5_put_5, by decide, by decide +kernel, rfl⟩
theorem hin_X5_load_5 : ∀ w ∈ u_ws RX5 TX5 11, w ∈ wsX5_load := fun w h => List.mem_cons_of_mem _ (List.mem_append_left _ (List.mem_append_right _ h))
theorem flX5_load_29 : FL wsX5_load RX5 29 5 3 := ⟨RX5, TX5, 11, rfl, hin_X5_load_5, by decide, by decide +kernel, rfl⟩
theorem hin_X5_load_1 : ∀ w ∈ u_ws RX1 TX1 3, w ∈ wsX5_load := fun w h => List.mem_cons_of_mem _ (List.mem_append_right _ h)
theorem flX5_load_137 : FL wsX5_load RX5 137 1 2 := ⟨RX1, TX1, 3, rfl, hin_X5_load_1, by decide, by decide +kernel, rfl⟩
theorem hin_X5_copy_5 : ∀ w ∈ u_ws RX5 TX5 11, w ∈ wsX5_copy := fun w h => List.mem_cons_of_mem _ (List.mem_append_left _ (List.mem_append_right _ h))
theorem flX5_copy_29 : FL wsX5_copy RX5 29 5 3 := ⟨RX5, TX5, 11, rfl, hin_X5_copy_5, by decide, by decide +kernel, rfl⟩
theorem hin_X5_copy_1 : ∀ w ∈ u_ws RX1 TX1 3, w ∈ wsX5_copy := fun w h => List.mem_cons_of_mem _ (List.mem_append_right _ h)
theorem flX5_copy_145 : FL wsX5_copy RX5 145 1 0 := ⟨RX1, TX1, 3, rfl, hin_X5_copy_1, by decide, by decide +kernel, rfl⟩
theorem flX5_copy_137 : FL wsX5_copy RX5 137 1 2 := ⟨RX1, TX1, 3, rfl, hin_X5_copy_1, by decide, by decide +kernel, rfl⟩
theorem hin_X5_run_5 : ∀ w ∈ u_ws RX5 TX5 11, w ∈ wsX5_run := fun w h => List.mem_cons_of_mem _ (List.mem_append_left _ (List.mem_append_left _ (List.mem_append_right _ h)))
theorem flX5_run_29 : FL wsX5_run RX5 29 5 3 := ⟨RX5, TX5, 11, rfl, hin_X5_run_5, by decide, by decide +kernel, rfl⟩
theorem hin_X5_run_1 : ∀ w ∈ u_ws RX1 TX1 3, w ∈ wsX5_run := fun w h => List.mem_cons_of_mem _ (List.mem_append_left _ (List.mem_append_right _ h))
theorem flX5_run_159 : FL wsX5_run RX5 159 1 1 := ⟨RX1, TX1, 3, rfl, hin_X5_run_1, by decide, by decide +kernel, rfl⟩
theorem flX5_run_10 : FL wsX5_run RX5 10 5 0 := ⟨RX5, TX5, 11, rfl, hin_X5_run_5, by decide, by decide +kernel, rfl⟩
theorem hin_X5_run_3 : ∀ w ∈ u_ws RX3 TX3 3, w ∈ wsX5_run := fun w h => List.mem_cons_of_mem _ (List.mem_append_right _ h)
theorem flX5_run_160 : FL wsX5_run RX5 160 3 0 := ⟨RX3, TX3, 3, rfl, hin_X5_run_3, by decide, by decide +kernel, rfl⟩
theorem flX5_run_77 : FL wsX5_run RX5 77 3 1 := ⟨RX3, TX3, 3, rfl, hin_X5_run_3, by decide, by decide +kernel, rfl⟩
theorem hin_X5_rises_5 : ∀ w ∈ u_ws RX5 TX5 11, w ∈ wsX5_rises := fun w h => List.mem_cons_of_mem _ (List.mem_append_left _ (List.mem_append_right _ h))
theorem flX5_rises_29 : FL wsX5_rises RX5 29 5 3 := ⟨RX5, TX5, 11, rfl, hin_X5_rises_5, by decide, by decide +kernel, rfl⟩
theorem hin_X5_rises_1 : ∀ w ∈ u_ws RX1 TX1 3, w ∈ wsX5_rises := fun w h => List.mem_cons_of_mem _ (List.mem_append_right _ h)
theorem flX5_rises_159 : FL wsX5_rises RX5 159 1 1 := ⟨RX1, TX1, 3, rfl, hin_X5_rises_1, by decide, by decide +kernel, rfl⟩
theorem hin_X5_order_5 : ∀ w ∈ u_ws RX5 TX5 11, w ∈ wsX5_order := fun w h => List.mem_cons_of_mem _ (List.mem_append_left _ (List.mem_append_right _ h))
theorem flX5_order_29 : FL wsX5_order RX5 29 5 3 := ⟨RX5, TX5, 11, rfl, hin_X5_order_5, by decide, by decide +kernel, rfl⟩
theorem hin_X5_out_5 : ∀ w ∈ u_ws RX5 TX5 11, w ∈ wsX5_out := fun w h => List.mem_cons_of_mem _ (List.mem_append_left _ (List.mem_append_left _ (List.mem_append_right _ h)))
theorem flX5_out_10 : FL wsX5_out RX5 10 5 0 := ⟨RX5, TX5, 11, rfl, hin_X5_out_5, by decide, by decide +kernel, rfl⟩
theorem hin_X5_out_3 : ∀ w ∈ u_ws RX3 TX3 3, w ∈ wsX5_out := fun w h => List.mem_cons_of_mem _ (List.mem_append_left _ (List.mem_append_right _ h))
theorem flX5_out_160 : FL wsX5_out RX5 160 3 0 := ⟨RX3, TX3, 3, rfl, hin_X5_out_3, by decide, by decide +kernel, rfl⟩
theorem flX5_out_36 : FL wsX5_out RX5 36 5 4 := ⟨RX5, TX5, 11, rfl, hin_X5_out_5, by decide, by decide +kernel, rfl⟩
theorem hin_X5_fails_5 : ∀ w ∈ u_ws RX5 TX5 11, w ∈ wsX5_fails := fun w h => List.mem_cons_of_mem _ (List.mem_append_left _ (List.mem_append_left _ (List.mem_append_right _ h)))
theorem flX5_fails_10 : FL wsX5_fails RX5 10 5 0 := ⟨RX5, TX5, 11, rfl, hin_X5_fails_5, by decide, by decide +kernel, rfl⟩
theorem hin_X5_fails_3 : ∀ w ∈ u_ws RX3 TX3 3, w ∈ wsX5_fails := fun w h => List.mem_cons_of_mem _ (List.mem_append_left _ (List.mem_append_right _ h))
theorem flX5_fails_160 : FL wsX5_fails RX5 160 3 0 := ⟨RX3, TX3, 3, rfl, hin_X5_fails_3, by decide, by decide +kernel, rfl⟩
theorem hin_X5_merges_5 : ∀ w ∈ u_ws RX5 TX5 11, w ∈ wsX5_merges := fun w h => List.mem_cons_of_mem _ (List.mem_append_left _ (List.mem_append_left _ (List.mem_append_right _ h)))
theorem flX5_merges_10 : FL wsX5_merges RX5 10 5 0 := ⟨RX5, TX5, 11, rfl, hin_X5_merges_5, by decide, by decide +kernel, rfl⟩
theorem hin_X5_merges_3 : ∀ w ∈ u_ws RX3 TX3 3, w ∈ wsX5_merges := fun w h => List.mem_cons_of_mem _ (List.mem_append_left _ (List.mem_append_right _ h))
theorem flX5_merges_160 : FL wsX5_merges RX5 160 3 0 := ⟨RX3, TX3, 3, rfl, hin_X5_merges_3, by decide, by decide +kernel, rfl⟩
theorem flX5_merges_36 : FL wsX5_merges RX5 36 5 4 := ⟨RX5, TX5, 11, rfl, hin_X5_merges_5, by decide, by decide +kernel, rfl⟩
theorem hin_X5_idle_5 : ∀ w ∈ u_ws RX5 TX5 11, w ∈ wsX5_idle := fun w h => List.mem_cons_of_mem _ (List.mem_append_left _ (List.mem_append_left _ (List.mem_append_right _ h)))
theorem flX5_idle_10 : FL wsX5_idle RX5 10 5 0 := ⟨RX5, TX5, 11, rfl, hin_X5_idle_5, by decide, by decide +kernel, rfl⟩
theorem hin_X5_drop_5 : ∀ w ∈ u_ws RX5 TX5 11, w ∈ wsX5_drop := fun w h => List.mem_cons_of_mem _ (List.mem_append_left _ (List.mem_append_left _ (List.mem_append_left _ (List.mem_append_right _ h))))
theorem flX5_drop_23 : FL wsX5_drop RX5 23 5 2 := ⟨RX5, TX5, 11, rfl, hin_X5_drop_5, by decide, by decide +kernel, rfl⟩
theorem flX5_drop_10 : FL wsX5_drop RX5 10 5 0 := ⟨RX5, TX5, 11, rfl, hin_X5_drop_5, by decide, by decide +kernel, rfl⟩
theorem hin_X5_drop_3 : ∀ w ∈ u_ws RX3 TX3 3, w ∈ wsX5_drop := fun w h => List.mem_cons_of_mem _ (List.mem_append_left _ (List.mem_append_left _ (List.mem_append_right _ h)))
theorem flX5_drop_77 : FL wsX5_drop RX5 77 3 1 := ⟨RX3, TX3, 3, rfl, hin_X5_drop_3, by decide, by decide +kernel, rfl⟩
theorem flX5_drop_218 : FL wsX5_drop RX5 218 3 2 := ⟨RX3, TX3, 3, rfl, hin_X5_drop_3, by decide, by decide +kernel, rfl⟩
theorem fpX5_drop_77 : FP wsX5_drop RX5 77 3 1 .int := ⟨RX3, TX3, 3, tyX3, rfl, hin_X5_drop_3, by decide, by decide +kernel, rfl, tyX3_ok, nmX3, rfl, by decide +kernel⟩
theorem hin_X5_turn_5 : ∀ w ∈ u_ws RX5 TX5 11, w ∈ wsX5_turn := fun w h => List.mem_cons_of_mem _ (List.mem_append_left _ (List.mem_append_left _ (List.mem_append_right _ h)))
theorem flX5_turn_10 : FL wsX5_turn RX5 10 5 0 := ⟨RX5, TX5, 11, rfl, hin_X5_turn_5, by decide, by decide +kernel, rfl⟩
theorem hin_X5_turn_3 : ∀ w ∈ u_ws RX3 TX3 3, w ∈ wsX5_turn := fun w h => List.mem_cons_of_mem _ (List.mem_append_left _ (List.mem_append_right _ h))
theorem flX5_turn_77 : FL wsX5_turn RX5 77 3 1 := ⟨RX3, TX3, 3, rfl, hin_X5_turn_3, by decide, by decide +kernel, rfl⟩
theorem flX5_turn_23 : FL wsX5_turn RX5 23 5 2 := ⟨RX5, TX5, 11, rfl, hin_X5_turn_5, by decide, by decide +kernel, rfl⟩
theorem flX5_turn_50 : FL wsX5_turn RX5 50 5 7 := ⟨RX5, TX5, 11, rfl, hin_X5_turn_5, by decide, by decide +kernel, rfl⟩
theorem fpX5_turn_77 : FP wsX5_turn RX5 77 3 1 .int := ⟨RX3, TX3, 3, tyX3, rfl, hin_X5_turn_3, by decide, by decide +kernel, rfl, tyX3_ok, nmX3, rfl, by decide +kernel⟩
theorem hin_X5_mirror_5 : ∀ w ∈ u_ws RX5 TX5 11, w ∈ wsX5_mirror := fun w h => List.mem_cons_of_mem _ (List.mem_append_left _ (List.mem_append_left _ (List.mem_append_right _ h)))
theorem flX5_mirror_23 : FL wsX5_mirror RX5 23 5 2 := ⟨RX5, TX5, 11, rfl, hin_X5_mirror_5, by decide, by decide +kernel, rfl⟩
theorem flX5_mirror_10 : FL wsX5_mirror RX5 10 5 0 := ⟨RX5, TX5, 11, rfl, hin_X5_mirror_5, by decide, by decide +kernel, rfl⟩
theorem hin_X5_mirror_3 : ∀ w ∈ u_ws RX3 TX3 3, w ∈ wsX5_mirror := fun w h => List.mem_cons_of_mem _ (List.mem_append_left _ (List.mem_append_right _ h))
theorem flX5_mirror_160 : FL wsX5_mirror RX5 160 3 0 := ⟨RX3, TX3, 3, rfl, hin_X5_mirror_3, by decide, by decide +kernel, rfl⟩
theorem flX5_mirror_77 : FL wsX5_mirror RX5 77 3 1 := ⟨RX3, TX3, 3, rfl, hin_X5_mirror_3, by decide, by decide +kernel, rfl⟩
theorem hin_X5_missing_5 : ∀ w ∈ u_ws RX5 TX5 11, w ∈ wsX5_missing := fun w h => List.mem_cons_of_mem _ (List.mem_append_left _ (List.mem_append_left _ (List.mem_append_left _ (List.mem_append_right _ h))))
theorem flX5_missing_10 : FL wsX5_missing RX5 10 5 0 := ⟨RX5, TX5, 11, rfl, hin_X5_missing_5, by decide, by decide +kernel, rfl⟩
theorem hin_X5_missing_3 : ∀ w ∈ u_ws RX3 TX3 3, w ∈ wsX5_missing := fun w h => List.mem_cons_of_mem _ (List.mem_append_left _ (List.mem_append_left _ (List.mem_append_right _ h)))
theorem flX5_missing_160 : FL wsX5_missing RX5 160 3 0 := ⟨RX3, TX3, 3, rfl, hin_X5_missing_3, by decide, by decide +kernel, rfl⟩
theorem flX5_missing_46 : FL wsX5_missing RX5 46 5 6 := ⟨RX5, TX5, 11, rfl, hin_X5_missing_5, by decide, by decide +kernel, rfl⟩
theorem hin_X5_missing_0 : ∀ w ∈ u_ws RX0 TX0 4, w ∈ wsX5_missing := fun w h => List.mem_cons_of_mem _ (List.mem_append_left _ (List.mem_append_right _ h))
theorem flX5_missing_238 : FL wsX5_missing RX5 238 0 1 := ⟨RX0, TX0, 4, rfl, hin_X5_missing_0, by decide, by decide +kernel, rfl⟩
theorem hin_X5_next_5 : ∀ w ∈ u_ws RX5 TX5 11, w ∈ wsX5_next := fun w h => List.mem_cons_of_mem _ (List.mem_append_left _ (List.mem_append_left _ (List.mem_append_left _ (List.mem_append_right _ h))))
theorem flX5_next_10 : FL wsX5_next RX5 10 5 0 := ⟨RX5, TX5, 11, rfl, hin_X5_next_5, by decide, by decide +kernel, rfl⟩
theorem hin_X5_next_3 : ∀ w ∈ u_ws RX3 TX3 3, w ∈ wsX5_next := fun w h => List.mem_cons_of_mem _ (List.mem_append_left _ (List.mem_append_left _ (List.mem_append_right _ h)))
theorem flX5_next_160 : FL wsX5_next RX5 160 3 0 := ⟨RX3, TX3, 3, rfl, hin_X5_next_3, by decide, by decide +kernel, rfl⟩
theorem flX5_next_46 : FL wsX5_next RX5 46 5 6 := ⟨RX5, TX5, 11, rfl, hin_X5_next_5, by decide, by decide +kernel, rfl⟩
theorem hin_X5_next_0 : ∀ w ∈ u_ws RX0 TX0 4, w ∈ wsX5_next := fun w h => List.mem_cons_of_mem _ (List.mem_append_left _ (List.mem_append_right _ h))
theorem flX5_next_238 : FL wsX5_next RX5 238 0 1 := ⟨RX0, TX0, 4, rfl, hin_X5_next_0, by decide, by decide +kernel, rfl⟩
theorem flX5_next_241 : FL wsX5_next RX5 241 0 0 := ⟨RX0, TX0, 4, rfl, hin_X5_next_0, by decide, by decide +kernel, rfl⟩
theorem hin_X5_bears_5 : ∀ w ∈ u_ws RX5 TX5 11, w ∈ wsX5_bears := fun w h => List.mem_cons_of_mem _ (List.mem_append_left _ (List.mem_append_left _ (List.mem_append_right _ h)))
theorem flX5_bears_10 : FL wsX5_bears RX5 10 5 0 := ⟨RX5, TX5, 11, rfl, hin_X5_bears_5, by decide, by decide +kernel, rfl⟩
theorem hin_X5_bears_3 : ∀ w ∈ u_ws RX3 TX3 3, w ∈ wsX5_bears := fun w h => List.mem_cons_of_mem _ (List.mem_append_left _ (List.mem_append_right _ h))
theorem flX5_bears_77 : FL wsX5_bears RX5 77 3 1 := ⟨RX3, TX3, 3, rfl, hin_X5_bears_3, by decide, by decide +kernel, rfl⟩
theorem hin_X5_weak_5 : ∀ w ∈ u_ws RX5 TX5 11, w ∈ wsX5_weak := fun w h => List.mem_cons_of_mem _ (List.mem_append_left _ (List.mem_append_left _ (List.mem_append_right _ h)))
theorem flX5_weak_10 : FL wsX5_weak RX5 10 5 0 := ⟨RX5, TX5, 11, rfl, hin_X5_weak_5, by decide, by decide +kernel, rfl⟩
theorem hin_X5_keep_5 : ∀ w ∈ u_ws RX5 TX5 11, w ∈ wsX5_keep := fun w h => List.mem_cons_of_mem _ (List.mem_append_left _ (List.mem_append_right _ h))
theorem flX5_keep_16 : FL wsX5_keep RX5 16 5 1 := ⟨RX5, TX5, 11, rfl, hin_X5_keep_5, by decide, by decide +kernel, rfl⟩
theorem flX5_keep_10 : FL wsX5_keep RX5 10 5 0 := ⟨RX5, TX5, 11, rfl, hin_X5_keep_5, by decide, by decide +kernel, rfl⟩
theorem hin_X5_keep_3 : ∀ w ∈ u_ws RX3 TX3 3, w ∈ wsX5_keep := fun w h => List.mem_cons_of_mem _ (List.mem_append_right _ h)
theorem flX5_keep_77 : FL wsX5_keep RX5 77 3 1 := ⟨RX3, TX3, 3, rfl, hin_X5_keep_3, by decide, by decide +kernel, rfl⟩
theorem hin_X5_bring_5 : ∀ w ∈ u_ws RX5 TX5 11, w ∈ wsX5_bring := fun w h => List.mem_cons_of_mem _ (List.mem_append_left _ (List.mem_append_left _ (List.mem_append_right _ h)))
theorem flX5_bring_23 : FL wsX5_bring RX5 23 5 2 := ⟨RX5, TX5, 11, rfl, hin_X5_bring_5, by decide, by decide +kernel, rfl⟩
theorem flX5_bring_10 : FL wsX5_bring RX5 10 5 0 := ⟨RX5, TX5, 11, rfl, hin_X5_bring_5, by decide, by decide +kernel, rfl⟩
theorem flX5_bring_16 : FL wsX5_bring RX5 16 5 1 := ⟨RX5, TX5, 11, rfl, hin_X5_bring_5, by decide, by decide +kernel, rfl⟩
theorem hin_X5_bring_3 : ∀ w ∈ u_ws RX3 TX3 3, w ∈ wsX5_bring := fun w h => List.mem_cons_of_mem _ (List.mem_append_left _ (List.mem_append_right _ h))
theorem flX5_bring_77 : FL wsX5_bring RX5 77 3 1 := ⟨RX3, TX3, 3, rfl, hin_X5_bring_3, by decide, by decide +kernel, rfl⟩
theorem hin_X5_follow_5 : ∀ w ∈ u_ws RX5 TX5 11, w ∈ wsX5_follow := fun w h => List.mem_cons_of_mem _ (List.mem_append_left _ (List.mem_append_left _ (List.mem_append_right _ h)))
theorem flX5_follow_16 : FL wsX5_follow RX5 16 5 1 := ⟨RX5, TX5, 11, rfl, hin_X5_follow_5, by decide, by decide +kernel, rfl⟩
theorem flX5_follow_10 : FL wsX5_follow RX5 10 5 0 := ⟨RX5, TX5, 11, rfl, hin_X5_follow_5, by decide, by decide +kernel, rfl⟩
theorem hin_X5_follow_3 : ∀ w ∈ u_ws RX3 TX3 3, w ∈ wsX5_follow := fun w h => List.mem_cons_of_mem _ (List.mem_append_left _ (List.mem_append_right _ h))
theorem flX5_follow_77 : FL wsX5_follow RX5 77 3 1 := ⟨RX3, TX3, 3, rfl, hin_X5_follow_3, by decide, by decide +kernel, rfl⟩
theorem flX5_follow_23 : FL wsX5_follow RX5 23 5 2 := ⟨RX5, TX5, 11, rfl, hin_X5_follow_5, by decide, by decide +kernel, rfl⟩
theorem flX5_follow_218 : FL wsX5_follow RX5 218 3 2 := ⟨RX3, TX3, 3, rfl, hin_X5_follow_3, by decide, by decide +kernel, rfl⟩
theorem fpX5_follow_77 : FP wsX5_follow RX5 77 3 1 .int := ⟨RX3, TX3, 3, tyX3, rfl, hin_X5_follow_3, by decide, by decide +kernel, rfl, tyX3_ok, nmX3, rfl, by decide +kernel⟩
theorem hin_X5_unlike_5 : ∀ w ∈ u_ws RX5 TX5 11, w ∈ wsX5_unlike := fun w h => List.mem_cons_of_mem _ (List.mem_append_left _ (List.mem_append_left _ (List.mem_append_right _ h)))
theorem flX5_unlike_10 : FL wsX5_unlike RX5 10 5 0 := ⟨RX5, TX5, 11, rfl, hin_X5_unlike_5, by decide, by decide +kernel, rfl⟩
theorem hin_X5_unlike_3 : ∀ w ∈ u_ws RX3 TX3 3, w ∈ wsX5_unlike := fun w h => List.mem_cons_of_mem _ (List.mem_append_left _ (List.mem_append_right _ h))
theorem flX5_unlike_160 : FL wsX5_unlike RX5 160 3 0 := ⟨RX3, TX3, 3, rfl, hin_X5_unlike_3, by decide, by decide +kernel, rfl⟩
theorem flX5_unlike_36 : FL wsX5_unlike RX5 36 5 4 := ⟨RX5, TX5, 11, rfl, hin_X5_unlike_5, by decide, by decide +kernel, rfl⟩
theorem flX5_unlike_40 : FL wsX5_unlike RX5 40 5 5 := ⟨RX5, TX5, 11, rfl, hin_X5_unlike_5, by decide, by decide +kernel, rfl⟩
theorem flX5_unlike_16 : FL wsX5_unlike RX5 16 5 1 := ⟨RX5, TX5, 11, rfl, hin_X5_unlike_5, by decide, by decide +kernel, rfl⟩
theorem hin_X5_tell_5 : ∀ w ∈ u_ws RX5 TX5 11, w ∈ wsX5_tell := fun w h => List.mem_cons_of_mem _ (List.mem_append_right _ h)
theorem flX5_tell_57 : FL wsX5_tell RX5 57 5 9 := ⟨RX5, TX5, 11, rfl, hin_X5_tell_5, by decide, by decide +kernel, rfl⟩
theorem flX5_tell_54 : FL wsX5_tell RX5 54 5 8 := ⟨RX5, TX5, 11, rfl, hin_X5_tell_5, by decide, by decide +kernel, rfl⟩
theorem fpX5_tell_57 : FP wsX5_tell RX5 57 5 9 .int := ⟨RX5, TX5, 11, tyX5, rfl, hin_X5_tell_5, by decide, by decide +kernel, rfl, tyX5_ok, nmX5, rfl, by decide +kernel⟩
theorem hin_X5_would_5 : ∀ w ∈ u_ws RX5 TX5 11, w ∈ wsX5_would := fun w h => List.mem_cons_of_mem _ (List.mem_append_left _ (List.mem_append_left _ (List.mem_append_right _ h)))
theorem flX5_would_57 : FL wsX5_would RX5 57 5 9 := ⟨RX5, TX5, 11, rfl, hin_X5_would_5, by decide, by decide +kernel, rfl⟩
theorem fpX5_would_57 : FP wsX5_would RX5 57 5 9 .int := ⟨RX5, TX5, 11, tyX5, rfl, hin_X5_would_5, by decide, by decide +kernel, rfl, tyX5_ok, nmX5, rfl, by decide +kernel⟩
theorem flX5_would_10 : FL wsX5_would RX5 10 5 0 := ⟨RX5, TX5, 11, rfl, hin_X5_would_5, by decide, by decide +kernel, rfl⟩
theorem hin_X5_would_3 : ∀ w ∈ u_ws RX3 TX3 3, w ∈ wsX5_would := fun w h => List.mem_cons_of_mem _ (List.mem_append_left _ (List.mem_append_right _ h))
theorem flX5_would_160 : FL wsX5_would RX5 160 3 0 := ⟨RX3, TX3, 3, rfl, hin_X5_would_3, by decide, by decide +kernel, rfl⟩
theorem flX5_would_36 : FL wsX5_would RX5 36 5 4 := ⟨RX5, TX5, 11, rfl, hin_X5_would_5, by decide, by decide +kernel, rfl⟩
theorem flX5_would_54 : FL wsX5_would RX5 54 5 8 := ⟨RX5, TX5, 11, rfl, hin_X5_would_5, by decide, by decide +kernel, rfl⟩
theorem hin_X5_undo_5 : ∀ w ∈ u_ws RX5 TX5 11, w ∈ wsX5_undo := fun w h => List.mem_cons_of_mem _ (List.mem_append_left _ (List.mem_append_left _ (List.mem_append_right _ h)))
theorem flX5_undo_23 : FL wsX5_undo RX5 23 5 2 := ⟨RX5, TX5, 11, rfl, hin_X5_undo_5, by decide, by decide +kernel, rfl⟩
theorem hin_X5_undo_2 : ∀ w ∈ u_ws RX2 TX2 3, w ∈ wsX5_undo := fun w h => List.mem_cons_of_mem _ (List.mem_append_left _ (List.mem_append_right _ h))
theorem flX5_undo_274 : FL wsX5_undo RX5 274 2 2 := ⟨RX2, TX2, 3, rfl, hin_X5_undo_2, by decide, by decide +kernel, rfl⟩
theorem flX5_undo_10 : FL wsX5_undo RX5 10 5 0 := ⟨RX5, TX5, 11, rfl, hin_X5_undo_5, by decide, by decide +kernel, rfl⟩
theorem hin_X5_told_5 : ∀ w ∈ u_ws RX5 TX5 11, w ∈ wsX5_told := fun w h => List.mem_cons_of_mem _ (List.mem_append_left _ (List.mem_append_right _ h))
theorem flX5_told_10 : FL wsX5_told RX5 10 5 0 := ⟨RX5, TX5, 11, rfl, hin_X5_told_5, by decide, by decide +kernel, rfl⟩
theorem hin_X5_told_3 : ∀ w ∈ u_ws RX3 TX3 3, w ∈ wsX5_told := fun w h => List.mem_cons_of_mem _ (List.mem_append_right _ h)
theorem flX5_told_160 : FL wsX5_told RX5 160 3 0 := ⟨RX3, TX3, 3, rfl, hin_X5_told_3, by decide, by decide +kernel, rfl⟩
theorem flX5_told_77 : FL wsX5_told RX5 77 3 1 := ⟨RX3, TX3, 3, rfl, hin_X5_told_3, by decide, by decide +kernel, rfl⟩
theorem flX5_told_57 : FL wsX5_told RX5 57 5 9 := ⟨RX5, TX5, 11, rfl, hin_X5_told_5, by decide, by decide +kernel, rfl⟩
theorem flX5_told_61 : FL wsX5_told RX5 61 5 10 := ⟨RX5, TX5, 11, rfl, hin_X5_told_5, by decide, by decide +kernel, rfl⟩
theorem hin_X5_finding_5 : ∀ w ∈ u_ws RX5 TX5 11, w ∈ wsX5_finding := fun w h => List.mem_cons_of_mem _ (List.mem_append_right _ h)
theorem flX5_finding_61 : FL wsX5_finding RX5 61 5 10 := ⟨RX5, TX5, 11, rfl, hin_X5_finding_5, by decide, by decide +kernel, rfl⟩
theorem fpX5_finding_61 : FP wsX5_finding RX5 61 5 10 .int := ⟨RX5, TX5, 11, tyX5, rfl, hin_X5_finding_5, by decide, by decide +kernel, rfl, tyX5_ok, nmX5, rfl, by decide +kernel⟩
theorem hin_X5_findingOfCrate_5 : ∀ w ∈ u_ws RX5 TX5 11, w ∈ wsX5_findingOfCrate := fun w h => List.mem_cons_of_mem _ (List.mem_append_left _ (List.mem_append_right _ h))
theorem flX5_findingOfCrate_29 : FL wsX5_findingOfCrate RX5 29 5 3 := ⟨RX5, TX5, 11, rfl, hin_X5_findingOfCrate_5, by decide, by decide +kernel, rfl⟩
theorem hin_X5_findingOfLoad_5 : ∀ w ∈ u_ws RX5 TX5 11, w ∈ wsX5_findingOfLoad := fun w h => List.mem_cons_of_mem _ (List.mem_append_left _ (List.mem_append_right _ h))
theorem flX5_findingOfLoad_29 : FL wsX5_findingOfLoad RX5 29 5 3 := ⟨RX5, TX5, 11, rfl, hin_X5_findingOfLoad_5, by decide, by decide +kernel, rfl⟩
theorem hin_X5_findingOfLoad_1 : ∀ w ∈ u_ws RX1 TX1 3, w ∈ wsX5_findingOfLoad := fun w h => List.mem_cons_of_mem _ (List.mem_append_right _ h)
theorem flX5_findingOfLoad_159 : FL wsX5_findingOfLoad RX5 159 1 1 := ⟨RX1, TX1, 3, rfl, hin_X5_findingOfLoad_1, by decide, by decide +kernel, rfl⟩
theorem hin_X5_findingOfSlot_5 : ∀ w ∈ u_ws RX5 TX5 11, w ∈ wsX5_findingOfSlot := fun w h => List.mem_cons_of_mem _ (List.mem_append_left _ (List.mem_append_right _ h))
theorem flX5_findingOfSlot_16 : FL wsX5_findingOfSlot RX5 16 5 1 := ⟨RX5, TX5, 11, rfl, hin_X5_findingOfSlot_5, by decide, by decide +kernel, rfl⟩
theorem hin_X5_findingOfFit_5 : ∀ w ∈ u_ws RX5 TX5 11, w ∈ wsX5_findingOfFit := fun w h => List.mem_cons_of_mem _ (List.mem_append_left _ (List.mem_append_right _ h))
theorem flX5_findingOfFit_16 : FL wsX5_findingOfFit RX5 16 5 1 := ⟨RX5, TX5, 11, rfl, hin_X5_findingOfFit_5, by decide, by decide +kernel, rfl⟩
theorem hin_X5_findingOfFit_3 : ∀ w ∈ u_ws RX3 TX3 3, w ∈ wsX5_findingOfFit := fun w h => List.mem_cons_of_mem _ (List.mem_append_right _ h)
theorem flX5_findingOfFit_160 : FL wsX5_findingOfFit RX5 160 3 0 := ⟨RX3, TX3, 3, rfl, hin_X5_findingOfFit_3, by decide, by decide +kernel, rfl⟩
theorem flX5_findingOfFit_10 : FL wsX5_findingOfFit RX5 10 5 0 := ⟨RX5, TX5, 11, rfl, hin_X5_findingOfFit_5, by decide, by decide +kernel, rfl⟩
theorem hin_X5_areLanePairs_5 : ∀ w ∈ u_ws RX5 TX5 11, w ∈ wsX5_areLanePairs := fun w h => List.mem_cons_of_mem _ (List.mem_append_left _ (List.mem_append_right _ h))
theorem flX5_areLanePairs_54 : FL wsX5_areLanePairs RX5 54 5 8 := ⟨RX5, TX5, 11, rfl, hin_X5_areLanePairs_5, by decide, by decide +kernel, rfl⟩
theorem flX5_areLanePairs_10 : FL wsX5_areLanePairs RX5 10 5 0 := ⟨RX5, TX5, 11, rfl, hin_X5_areLanePairs_5, by decide, by decide +kernel, rfl⟩
theorem hin_X5_lastRound_5 : ∀ w ∈ u_ws RX5 TX5 11, w ∈ wsX5_lastRound := fun w h => List.mem_cons_of_mem _ (List.mem_append_left _ (List.mem_append_right _ h))
theorem flX5_lastRound_50 : FL wsX5_lastRound RX5 50 5 7 := ⟨RX5, TX5, 11, rfl, hin_X5_lastRound_5, by decide, by decide +kernel, rfl⟩
theorem flX5_lastRound_10 : FL wsX5_lastRound RX5 10 5 0 := ⟨RX5, TX5, 11, rfl, hin_X5_lastRound_5, by decide, by decide +kernel, rfl⟩
theorem hin_X5_lastRound_3 : ∀ w ∈ u_ws RX3 TX3 3, w ∈ wsX5_lastRound := fun w h => List.mem_cons_of_mem _ (List.mem_append_right _ h)
theorem flX5_lastRound_77 : FL wsX5_lastRound RX5 77 3 1 := ⟨RX3, TX3, 3, rfl, hin_X5_lastRound_3, by decide, by decide +kernel, rfl⟩
theorem hin_X5_failingRows_5 : ∀ w ∈ u_ws RX5 TX5 11, w ∈ wsX5_failingRows := fun w h => List.mem_cons_of_mem _ (List.mem_append_left _ (List.mem_append_left _ (List.mem_append_right _ h)))
theorem flX5_failingRows_36 : FL wsX5_failingRows RX5 36 5 4 := ⟨RX5, TX5, 11, rfl, hin_X5_failingRows_5, by decide, by decide +kernel, rfl⟩
theorem flX5_failingRows_10 : FL wsX5_failingRows RX5 10 5 0 := ⟨RX5, TX5, 11, rfl, hin_X5_failingRows_5, by decide, by decide +kernel, rfl⟩
theorem hin_X5_failingRows_3 : ∀ w ∈ u_ws RX3 TX3 3, w ∈ wsX5_failingRows := fun w h => List.mem_cons_of_mem _ (List.mem_append_left _ (List.mem_append_right _ h))
theorem flX5_failingRows_160 : FL wsX5_failingRows RX5 160 3 0 := ⟨RX3, TX3, 3, rfl, hin_X5_failingRows_3, by decide, by decide +kernel, rfl⟩
theorem hin_X5_leastFailing_5 : ∀ w ∈ u_ws RX5 TX5 11, w ∈ wsX5_leastFailing := fun w h => List.mem_cons_of_mem _ (List.mem_append_left _ (List.mem_append_left _ (List.mem_append_right _ h)))
theorem flX5_leastFailing_10 : FL wsX5_leastFailing RX5 10 5 0 := ⟨RX5, TX5, 11, rfl, hin_X5_leastFailing_5, by decide, by decide +kernel, rfl⟩
theorem hin_X5_leastFailing_3 : ∀ w ∈ u_ws RX3 TX3 3, w ∈ wsX5_leastFailing := fun w h => List.mem_cons_of_mem _ (List.mem_append_left _ (List.mem_append_right _ h))
theorem flX5_leastFailing_160 : FL wsX5_leastFailing RX5 160 3 0 := ⟨RX3, TX3, 3, rfl, hin_X5_leastFailing_3, by decide, by decide +kernel, rfl⟩
theorem hin_X5_busyComparers_5 : ∀ w ∈ u_ws RX5 TX5 11, w ∈ wsX5_busyComparers := fun w h => List.mem_cons_of_mem _ (List.mem_append_left _ (List.mem_append_left _ (List.mem_append_right _ h)))
theorem flX5_busyComparers_10 : FL wsX5_busyComparers RX5 10 5 0 := ⟨RX5, TX5, 11, rfl, hin_X5_busyComparers_5, by decide, by decide +kernel, rfl⟩
theorem hin_X5_busyComparers_3 : ∀ w ∈ u_ws RX3 TX3 3, w ∈ wsX5_busyComparers := fun w h => List.mem_cons_of_mem _ (List.mem_append_left _ (List.mem_append_right _ h))
theorem flX5_busyComparers_160 : FL wsX5_busyComparers RX5 160 3 0 := ⟨RX3, TX3, 3, rfl, hin_X5_busyComparers_3, by decide, by decide +kernel, rfl⟩
theorem flX5_busyComparers_36 : FL wsX5_busyComparers RX5 36 5 4 := ⟨RX5, TX5, 11, rfl, hin_X5_busyComparers_5, by decide, by decide +kernel, rfl⟩
theorem flX5_busyComparers_77 : FL wsX5_busyComparers RX5 77 3 1 := ⟨RX3, TX3, 3, rfl, hin_X5_busyComparers_3, by decide, by decide +kernel, rfl⟩
theorem hin_X5_findCompletion_5 : ∀ w ∈ u_ws RX5 TX5 11, w ∈ wsX5_findCompletion := fun w h => List.mem_cons_of_mem _ (List.mem_append_left _ (List.mem_append_left _ (List.mem_append_left _ (List.mem_append_right _ h))))
theorem flX5_findCompletion_36 : FL wsX5_findCompletion RX5 36 5 4 := ⟨RX5, TX5, 11, rfl, hin_X5_findCompletion_5, by decide, by decide +kernel, rfl⟩
theorem flX5_findCompletion_10 : FL wsX5_findCompletion RX5 10 5 0 := ⟨RX5, TX5, 11, rfl, hin_X5_findCompletion_5, by decide, by decide +kernel, rfl⟩
theorem hin_X5_findCompletion_3 : ∀ w ∈ u_ws RX3 TX3 3, w ∈ wsX5_findCompletion := fun w h => List.mem_cons_of_mem _ (List.mem_append_left _ (List.mem_append_left _ (List.mem_append_right _ h)))
theorem flX5_findCompletion_160 : FL wsX5_findCompletion RX5 160 3 0 := ⟨RX3, TX3, 3, rfl, hin_X5_findCompletion_3, by decide, by decide +kernel, rfl⟩
theorem flX5_findCompletion_46 : FL wsX5_findCompletion RX5 46 5 6 := ⟨RX5, TX5, 11, rfl, hin_X5_findCompletion_5, by decide, by decide +kernel, rfl⟩
theorem hin_X6_init_6 : ∀ w ∈ u_ws RX6 TX6 25, w ∈ wsX6_init := fun w h => List.mem_cons_of_mem _ (List.mem_append_right _ h)
theorem fpX6_init_7 : FP wsX6_init RX6 7 6 0 .int := ⟨RX6, TX6, 25, tyX6, rfl, hin_X6_init_6, by decide, by decide +kernel, rfl, tyX6_ok, nmX6, rfl, by decide +kernel⟩
theorem hin_X6_found_6 : ∀ w ∈ u_ws RX6 TX6 25, w ∈ wsX6_found := fun w h => List.mem_cons_of_mem _ (List.mem_append_right _ h)
theorem flX6_found_76 : FL wsX6_found RX6 76 6 18 := ⟨RX6, TX6, 25, rfl, hin_X6_found_6, by decide, by decide +kernel, rfl⟩
theorem fpX6_found_76 : FP wsX6_found RX6 76 6 18 .int := ⟨RX6, TX6, 25, tyX6, rfl, hin_X6_found_6, by decide, by decide +kernel, rfl, tyX6_ok, nmX6, rfl, by decide +kernel⟩
theorem hin_X6_isComparer_6 : ∀ w ∈ u_ws RX6 TX6 25, w ∈ wsX6_isComparer := fun w h => List.mem_cons_of_mem _ (List.mem_append_right _ h)
theorem flX6_isComparer_79 : FL wsX6_isComparer RX6 79 6 1 := ⟨RX6, TX6, 25, rfl, hin_X6_isComparer_6, by decide, by decide +kernel, rfl⟩
theorem hin_X6_isLane_6 : ∀ w ∈ u_ws RX6 TX6 25, w ∈ wsX6_isLane := fun w h => List.mem_cons_of_mem _ (List.mem_append_right _ h)
theorem flX6_isLane_7 : FL wsX6_isLane RX6 7 6 0 := ⟨RX6, TX6, 25, rfl, hin_X6_isLane_6, by decide, by decide +kernel, rfl⟩
theorem hin_X6_store_6 : ∀ w ∈ u_ws RX6 TX6 25, w ∈ wsX6_store := fun w h => List.mem_cons_of_mem _ (List.mem_append_right _ h)
theorem flX6_store_27 : FL wsX6_store RX6 27 6 6 := ⟨RX6, TX6, 25, rfl, hin_X6_store_6, by decide, by decide +kernel, rfl⟩
theorem flX6_store_7 : FL wsX6_store RX6 7 6 0 := ⟨RX6, TX6, 25, rfl, hin_X6_store_6, by decide, by decide +kernel, rfl⟩
theorem flX6_store_30 : FL wsX6_store RX6 30 6 7 := ⟨RX6, TX6, 25, rfl, hin_X6_store_6, by decide, by decide +kernel, rfl⟩
theorem flX6_store_79 : FL wsX6_store RX6 79 6 1 := ⟨RX6, TX6, 25, rfl, hin_X6_store_6, by decide, by decide +kernel, rfl⟩
theorem flX6_store_33 : FL wsX6_store RX6 33 6 8 := ⟨RX6, TX6, 25, rfl, hin_X6_store_6, by decide, by decide +kernel, rfl⟩
theorem flX6_store_13 : FL wsX6_store RX6 13 6 2 := ⟨RX6, TX6, 25, rfl, hin_X6_store_6, by decide, by decide +kernel, rfl⟩
theorem flX6_store_36 : FL wsX6_store RX6 36 6 9 := ⟨RX6, TX6, 25, rfl, hin_X6_store_6, by decide, by decide +kernel, rfl⟩
theorem flX6_store_17 : FL wsX6_store RX6 17 6 3 := ⟨RX6, TX6, 25, rfl, hin_X6_store_6, by decide, by decide +kernel, rfl⟩
theorem flX6_store_39 : FL wsX6_store RX6 39 6 10 := ⟨RX6, TX6, 25, rfl, hin_X6_store_6, by decide, by decide +kernel, rfl⟩
theorem flX6_store_20 : FL wsX6_store RX6 20 6 4 := ⟨RX6, TX6, 25, rfl, hin_X6_store_6, by decide, by decide +kernel, rfl⟩
theorem flX6_store_42 : FL wsX6_store RX6 42 6 11 := ⟨RX6, TX6, 25, rfl, hin_X6_store_6, by decide, by decide +kernel, rfl⟩
theorem flX6_store_23 : FL wsX6_store RX6 23 6 5 := ⟨RX6, TX6, 25, rfl, hin_X6_store_6, by decide, by decide +kernel, rfl⟩
theorem hin_X6_restore_6 : ∀ w ∈ u_ws RX6 TX6 25, w ∈ wsX6_restore := fun w h => List.mem_cons_of_mem _ (List.mem_append_right _ h)
theorem flX6_restore_27 : FL wsX6_restore RX6 27 6 6 := ⟨RX6, TX6, 25, rfl, hin_X6_restore_6, by decide, by decide +kernel, rfl⟩
theorem fpX6_restore_7 : FP wsX6_restore RX6 7 6 0 .int := ⟨RX6, TX6, 25, tyX6, rfl, hin_X6_restore_6, by decide, by decide +kernel, rfl, tyX6_ok, nmX6, rfl, by decide +kernel⟩
theorem flX6_restore_30 : FL wsX6_restore RX6 30 6 7 := ⟨RX6, TX6, 25, rfl, hin_X6_restore_6, by decide, by decide +kernel, rfl⟩
theorem fpX6_restore_79 : FP wsX6_restore RX6 79 6 1 .int := ⟨RX6, TX6, 25, tyX6, rfl, hin_X6_restore_6, by decide, by decide +kernel, rfl, tyX6_ok, nmX6, rfl, by decide +kernel⟩
theorem flX6_restore_13 : FL wsX6_restore RX6 13 6 2 := ⟨RX6, TX6, 25, rfl, hin_X6_restore_6, by decide, by decide +kernel, rfl⟩
theorem flX6_restore_33 : FL wsX6_restore RX6 33 6 8 := ⟨RX6, TX6, 25, rfl, hin_X6_restore_6, by decide, by decide +kernel, rfl⟩
theorem flX6_restore_17 : FL wsX6_restore RX6 17 6 3 := ⟨RX6, TX6, 25, rfl, hin_X6_restore_6, by decide, by decide +kernel, rfl⟩
theorem flX6_restore_36 : FL wsX6_restore RX6 36 6 9 := ⟨RX6, TX6, 25, rfl, hin_X6_restore_6, by decide, by decide +kernel, rfl⟩
theorem flX6_restore_20 : FL wsX6_restore RX6 20 6 4 := ⟨RX6, TX6, 25, rfl, hin_X6_restore_6, by decide, by decide +kernel, rfl⟩
theorem flX6_restore_39 : FL wsX6_restore RX6 39 6 10 := ⟨RX6, TX6, 25, rfl, hin_X6_restore_6, by decide, by decide +kernel, rfl⟩
theorem flX6_restore_23 : FL wsX6_restore RX6 23 6 5 := ⟨RX6, TX6, 25, rfl, hin_X6_restore_6, by decide, by decide +kernel, rfl⟩
theorem flX6_restore_42 : FL wsX6_restore RX6 42 6 11 := ⟨RX6, TX6, 25, rfl, hin_X6_restore_6, by decide, by decide +kernel, rfl⟩
theorem hin_X6_begins_6 : ∀ w ∈ u_ws RX6 TX6 25, w ∈ wsX6_begins := fun w h => List.mem_cons_of_mem _ (List.mem_append_right _ h)
theorem flX6_begins_86 : FL wsX6_begins RX6 86 6 12 := ⟨RX6, TX6, 25, rfl, hin_X6_begins_6, by decide, by decide +kernel, rfl⟩
theorem flX6_begins_27 : FL wsX6_begins RX6 27 6 6 := ⟨RX6, TX6, 25, rfl, hin_X6_begins_6, by decide, by decide +kernel, rfl⟩
theorem flX6_begins_30 : FL wsX6_begins RX6 30 6 7 := ⟨RX6, TX6, 25, rfl, hin_X6_begins_6, by decide, by decide +kernel, rfl⟩
theorem flX6_begins_33 : FL wsX6_begins RX6 33 6 8 := ⟨RX6, TX6, 25, rfl, hin_X6_begins_6, by decide, by decide +kernel, rfl⟩
theorem flX6_begins_36 : FL wsX6_begins RX6 36 6 9 := ⟨RX6, TX6, 25, rfl, hin_X6_begins_6, by decide, by decide +kernel, rfl⟩
theorem flX6_begins_39 : FL wsX6_begins RX6 39 6 10 := ⟨RX6, TX6, 25, rfl, hin_X6_begins_6, by decide, by decide +kernel, rfl⟩
theorem flX6_begins_42 : FL wsX6_begins RX6 42 6 11 := ⟨RX6, TX6, 25, rfl, hin_X6_begins_6, by decide, by decide +kernel, rfl⟩
theorem fpX6_begins_86 : FP wsX6_begins RX6 86 6 12 .int := ⟨RX6, TX6, 25, tyX6, rfl, hin_X6_begins_6, by decide, by decide +kernel, rfl, tyX6_ok, nmX6, rfl, by decide +kernel⟩
theorem hin_X6_undo_6 : ∀ w ∈ u_ws RX6 TX6 25, w ∈ wsX6_undo := fun w h => List.mem_cons_of_mem _ (List.mem_append_right _ h)
theorem flX6_undo_86 : FL wsX6_undo RX6 86 6 12 := ⟨RX6, TX6, 25, rfl, hin_X6_undo_6, by decide, by decide +kernel, rfl⟩
theorem fpX6_undo_86 : FP wsX6_undo RX6 86 6 12 .int := ⟨RX6, TX6, 25, tyX6, rfl, hin_X6_undo_6, by decide, by decide +kernel, rfl, tyX6_ok, nmX6, rfl, by decide +kernel⟩
theorem hin_X6_lanes_6 : ∀ w ∈ u_ws RX6 TX6 25, w ∈ wsX6_lanes := fun w h => List.mem_cons_of_mem _ (List.mem_append_right _ h)
theorem flX6_lanes_79 : FL wsX6_lanes RX6 79 6 1 := ⟨RX6, TX6, 25, rfl, hin_X6_lanes_6, by decide, by decide +kernel, rfl⟩
theorem fpX6_lanes_7 : FP wsX6_lanes RX6 7 6 0 .int := ⟨RX6, TX6, 25, tyX6, rfl, hin_X6_lanes_6, by decide, by decide +kernel, rfl, tyX6_ok, nmX6, rfl, by decide +kernel⟩
theorem fpX6_lanes_79 : FP wsX6_lanes RX6 79 6 1 .int := ⟨RX6, TX6, 25, tyX6, rfl, hin_X6_lanes_6, by decide, by decide +kernel, rfl, tyX6_ok, nmX6, rfl, by decide +kernel⟩
theorem hin_X6_add_6 : ∀ w ∈ u_ws RX6 TX6 25, w ∈ wsX6_add := fun w h => List.mem_cons_of_mem _ (List.mem_append_right _ h)
theorem flX6_add_13 : FL wsX6_add RX6 13 6 2 := ⟨RX6, TX6, 25, rfl, hin_X6_add_6, by decide, by decide +kernel, rfl⟩
theorem flX6_add_79 : FL wsX6_add RX6 79 6 1 := ⟨RX6, TX6, 25, rfl, hin_X6_add_6, by decide, by decide +kernel, rfl⟩
theorem flX6_add_17 : FL wsX6_add RX6 17 6 3 := ⟨RX6, TX6, 25, rfl, hin_X6_add_6, by decide, by decide +kernel, rfl⟩
theorem flX6_add_20 : FL wsX6_add RX6 20 6 4 := ⟨RX6, TX6, 25, rfl, hin_X6_add_6, by decide, by decide +kernel, rfl⟩
theorem flX6_add_23 : FL wsX6_add RX6 23 6 5 := ⟨RX6, TX6, 25, rfl, hin_X6_add_6, by decide, by decide +kernel, rfl⟩
theorem fpX6_add_79 : FP wsX6_add RX6 79 6 1 .int := ⟨RX6, TX6, 25, tyX6, rfl, hin_X6_add_6, by decide, by decide +kernel, rfl, tyX6_ok, nmX6, rfl, by decide +kernel⟩
theorem hin_X6_comparer_6 : ∀ w ∈ u_ws RX6 TX6 25, w ∈ wsX6_comparer := fun w h => List.mem_cons_of_mem _ (List.mem_append_right _ h)
theorem flX6_comparer_79 : FL wsX6_comparer RX6 79 6 1 := ⟨RX6, TX6, 25, rfl, hin_X6_comparer_6, by decide, by decide +kernel, rfl⟩
theorem hin_X6_cut_6 : ∀ w ∈ u_ws RX6 TX6 25, w ∈ wsX6_cut := fun w h => List.mem_cons_of_mem _ (List.mem_append_right _ h)
theorem flX6_cut_79 : FL wsX6_cut RX6 79 6 1 := ⟨RX6, TX6, 25, rfl, hin_X6_cut_6, by decide, by decide +kernel, rfl⟩
theorem fpX6_cut_79 : FP wsX6_cut RX6 79 6 1 .int := ⟨RX6, TX6, 25, tyX6, rfl, hin_X6_cut_6, by decide, by decide +kernel, rfl, tyX6_ok, nmX6, rfl, by decide +kernel⟩
theorem hin_X6_change_6 : ∀ w ∈ u_ws RX6 TX6 25, w ∈ wsX6_change := fun w h => List.mem_cons_of_mem _ (List.mem_append_right _ h)
theorem flX6_change_13 : FL wsX6_change RX6 13 6 2 := ⟨RX6, TX6, 25, rfl, hin_X6_change_6, by decide, by decide +kernel, rfl⟩
theorem flX6_change_23 : FL wsX6_change RX6 23 6 5 := ⟨RX6, TX6, 25, rfl, hin_X6_change_6, by decide, by decide +kernel, rfl⟩
theorem hin_X6_turnSwitch_6 : ∀ w ∈ u_ws RX6 TX6 25, w ∈ wsX6_turnSwitch := fun w h => List.mem_cons_of_mem _ (List.mem_append_right _ h)
theorem flX6_turnSwitch_13 : FL wsX6_turnSwitch RX6 13 6 2 := ⟨RX6, TX6, 25, rfl, hin_X6_turnSwitch_6, by decide, by decide +kernel, rfl⟩
theorem flX6_turnSwitch_23 : FL wsX6_turnSwitch RX6 23 6 5 := ⟨RX6, TX6, 25, rfl, hin_X6_turnSwitch_6, by decide, by decide +kernel, rfl⟩
theorem hin_X6_as_6 : ∀ w ∈ u_ws RX6 TX6 25, w ∈ wsX6_as := fun w h => List.mem_cons_of_mem _ (List.mem_append_right _ h)
theorem flX6_as_13 : FL wsX6_as RX6 13 6 2 := ⟨RX6, TX6, 25, rfl, hin_X6_as_6, by decide, by decide +kernel, rfl⟩
theorem hin_X6_roundOf_6 : ∀ w ∈ u_ws RX6 TX6 25, w ∈ wsX6_roundOf := fun w h => List.mem_cons_of_mem _ (List.mem_append_right _ h)
theorem flX6_roundOf_17 : FL wsX6_roundOf RX6 17 6 3 := ⟨RX6, TX6, 25, rfl, hin_X6_roundOf_6, by decide, by decide +kernel, rfl⟩
theorem flX6_roundOf_20 : FL wsX6_roundOf RX6 20 6 4 := ⟨RX6, TX6, 25, rfl, hin_X6_roundOf_6, by decide, by decide +kernel, rfl⟩
theorem flX6_roundOf_58 : FL wsX6_roundOf RX6 58 6 19 := ⟨RX6, TX6, 25, rfl, hin_X6_roundOf_6, by decide, by decide +kernel, rfl⟩
theorem hin_X6_of_6 : ∀ w ∈ u_ws RX6 TX6 25, w ∈ wsX6_of := fun w h => List.mem_cons_of_mem _ (List.mem_append_right _ h)
theorem flX6_of_13 : FL wsX6_of RX6 13 6 2 := ⟨RX6, TX6, 25, rfl, hin_X6_of_6, by decide, by decide +kernel, rfl⟩
theorem flX6_of_17 : FL wsX6_of RX6 17 6 3 := ⟨RX6, TX6, 25, rfl, hin_X6_of_6, by decide, by decide +kernel, rfl⟩
theorem flX6_of_20 : FL wsX6_of RX6 20 6 4 := ⟨RX6, TX6, 25, rfl, hin_X6_of_6, by decide, by decide +kernel, rfl⟩
theorem flX6_of_23 : FL wsX6_of RX6 23 6 5 := ⟨RX6, TX6, 25, rfl, hin_X6_of_6, by decide, by decide +kernel, rfl⟩
theorem hin_X6_rounds_6 : ∀ w ∈ u_ws RX6 TX6 25, w ∈ wsX6_rounds := fun w h => List.mem_cons_of_mem _ (List.mem_append_right _ h)
theorem flX6_rounds_79 : FL wsX6_rounds RX6 79 6 1 := ⟨RX6, TX6, 25, rfl, hin_X6_rounds_6, by decide, by decide +kernel, rfl⟩
theorem hin_X6_crate_6 : ∀ w ∈ u_ws RX6 TX6 25, w ∈ wsX6_crate := fun w h => List.mem_cons_of_mem _ (List.mem_append_right _ h)
theorem flX6_crate_45 : FL wsX6_crate RX6 45 6 13 := ⟨RX6, TX6, 25, rfl, hin_X6_crate_6, by decide, by decide +kernel, rfl⟩
theorem flX6_crate_48 : FL wsX6_crate RX6 48 6 14 := ⟨RX6, TX6, 25, rfl, hin_X6_crate_6, by decide, by decide +kernel, rfl⟩
theorem flX6_crate_51 : FL wsX6_crate RX6 51 6 15 := ⟨RX6, TX6, 25, rfl, hin_X6_crate_6, by decide, by decide +kernel, rfl⟩
theorem hin_X6_lacks_6 : ∀ w ∈ u_ws RX6 TX6 25, w ∈ wsX6_lacks := fun w h => List.mem_cons_of_mem _ (List.mem_append_right _ h)
theorem flX6_lacks_45 : FL wsX6_lacks RX6 45 6 13 := ⟨RX6, TX6, 25, rfl, hin_X6_lacks_6, by decide, by decide +kernel, rfl⟩
theorem flX6_lacks_48 : FL wsX6_lacks RX6 48 6 14 := ⟨RX6, TX6, 25, rfl, hin_X6_lacks_6, by decide, by decide +kernel, rfl⟩
theorem hin_X6_put_6 : ∀ w ∈ u_ws RX6 TX6 25, w ∈ wsX6_put := fun w h => List.mem_cons_of_mem _ (List.mem_append_right _ h)
theorem flX6_put_51 : FL wsX6_put RX6 51 6 15 := ⟨RX6, TX6, 25, rfl, hin_X6_put_6, by decide, by decide +kernel, rfl⟩
theorem flX6_put_45 : FL wsX6_put RX6 45 6 13 := ⟨RX6, TX6, 25, rfl, hin_X6_put_6, by decide, by decide +kernel, rfl⟩
theorem hin_X6_load_6 : ∀ w ∈ u_ws RX6 TX6 25, w ∈ wsX6_load := fun w h => List.mem_cons_of_mem _ (List.mem_append_right _ h)
theorem flX6_load_76 : FL wsX6_load RX6 76 6 18 := ⟨RX6, TX6, 25, rfl, hin_X6_load_6, by decide, by decide +kernel, rfl⟩
theorem fpX6_load_76 : FP wsX6_load RX6 76 6 18 .int := ⟨RX6, TX6, 25, tyX6, rfl, hin_X6_load_6, by decide, by decide +kernel, rfl, tyX6_ok, nmX6, rfl, by decide +kernel⟩
theorem flX6_load_51 : FL wsX6_load RX6 51 6 15 := ⟨RX6, TX6, 25, rfl, hin_X6_load_6, by decide, by decide +kernel, rfl⟩
theorem hin_X6_copy_6 : ∀ w ∈ u_ws RX6 TX6 25, w ∈ wsX6_copy := fun w h => List.mem_cons_of_mem _ (List.mem_append_right _ h)
theorem flX6_copy_45 : FL wsX6_copy RX6 45 6 13 := ⟨RX6, TX6, 25, rfl, hin_X6_copy_6, by decide, by decide +kernel, rfl⟩
theorem flX6_copy_48 : FL wsX6_copy RX6 48 6 14 := ⟨RX6, TX6, 25, rfl, hin_X6_copy_6, by decide, by decide +kernel, rfl⟩
theorem flX6_copy_61 : FL wsX6_copy RX6 61 6 20 := ⟨RX6, TX6, 25, rfl, hin_X6_copy_6, by decide, by decide +kernel, rfl⟩
theorem flX6_copy_51 : FL wsX6_copy RX6 51 6 15 := ⟨RX6, TX6, 25, rfl, hin_X6_copy_6, by decide, by decide +kernel, rfl⟩
theorem hin_X6_key_6 : ∀ w ∈ u_ws RX6 TX6 25, w ∈ wsX6_key := fun w h => List.mem_cons_of_mem _ (List.mem_append_right _ h)
theorem flX6_key_51 : FL wsX6_key RX6 51 6 15 := ⟨RX6, TX6, 25, rfl, hin_X6_key_6, by decide, by decide +kernel, rfl⟩
theorem flX6_key_45 : FL wsX6_key RX6 45 6 13 := ⟨RX6, TX6, 25, rfl, hin_X6_key_6, by decide, by decide +kernel, rfl⟩
theorem hin_X6_changes_6 : ∀ w ∈ u_ws RX6 TX6 25, w ∈ wsX6_changes := fun w h => List.mem_cons_of_mem _ (List.mem_append_right _ h)
theorem flX6_changes_13 : FL wsX6_changes RX6 13 6 2 := ⟨RX6, TX6, 25, rfl, hin_X6_changes_6, by decide, by decide +kernel, rfl⟩
theorem flX6_changes_23 : FL wsX6_changes RX6 23 6 5 := ⟨RX6, TX6, 25, rfl, hin_X6_changes_6, by decide, by decide +kernel, rfl⟩
theorem hin_X6_run_6 : ∀ w ∈ u_ws RX6 TX6 25, w ∈ wsX6_run := fun w h => List.mem_cons_of_mem _ (List.mem_append_right _ h)
theorem flX6_run_45 : FL wsX6_run RX6 45 6 13 := ⟨RX6, TX6, 25, rfl, hin_X6_run_6, by decide, by decide +kernel, rfl⟩
theorem flX6_run_48 : FL wsX6_run RX6 48 6 14 := ⟨RX6, TX6, 25, rfl, hin_X6_run_6, by decide, by decide +kernel, rfl⟩
theorem flX6_run_7 : FL wsX6_run RX6 7 6 0 := ⟨RX6, TX6, 25, rfl, hin_X6_run_6, by decide, by decide +kernel, rfl⟩
theorem flX6_run_79 : FL wsX6_run RX6 79 6 1 := ⟨RX6, TX6, 25, rfl, hin_X6_run_6, by decide, by decide +kernel, rfl⟩
theorem flX6_run_17 : FL wsX6_run RX6 17 6 3 := ⟨RX6, TX6, 25, rfl, hin_X6_run_6, by decide, by decide +kernel, rfl⟩
theorem flX6_run_20 : FL wsX6_run RX6 20 6 4 := ⟨RX6, TX6, 25, rfl, hin_X6_run_6, by decide, by decide +kernel, rfl⟩
theorem flX6_run_51 : FL wsX6_run RX6 51 6 15 := ⟨RX6, TX6, 25, rfl, hin_X6_run_6, by decide, by decide +kernel, rfl⟩
theorem hin_X6_rises_6 : ∀ w ∈ u_ws RX6 TX6 25, w ∈ wsX6_rises := fun w h => List.mem_cons_of_mem _ (List.mem_append_right _ h)
theorem flX6_rises_45 : FL wsX6_rises RX6 45 6 13 := ⟨RX6, TX6, 25, rfl, hin_X6_rises_6, by decide, by decide +kernel, rfl⟩
theorem flX6_rises_48 : FL wsX6_rises RX6 48 6 14 := ⟨RX6, TX6, 25, rfl, hin_X6_rises_6, by decide, by decide +kernel, rfl⟩
theorem hin_X6_goes_6 : ∀ w ∈ u_ws RX6 TX6 25, w ∈ wsX6_goes := fun w h => List.mem_cons_of_mem _ (List.mem_append_right _ h)
theorem flX6_goes_17 : FL wsX6_goes RX6 17 6 3 := ⟨RX6, TX6, 25, rfl, hin_X6_goes_6, by decide, by decide +kernel, rfl⟩
theorem flX6_goes_20 : FL wsX6_goes RX6 20 6 4 := ⟨RX6, TX6, 25, rfl, hin_X6_goes_6, by decide, by decide +kernel, rfl⟩
theorem hin_X6_isRising_6 : ∀ w ∈ u_ws RX6 TX6 25, w ∈ wsX6_isRising := fun w h => List.mem_cons_of_mem _ (List.mem_append_right _ h)
theorem flX6_isRising_7 : FL wsX6_isRising RX6 7 6 0 := ⟨RX6, TX6, 25, rfl, hin_X6_isRising_6, by decide, by decide +kernel, rfl⟩
theorem hin_X6_rows_6 : ∀ w ∈ u_ws RX6 TX6 25, w ∈ wsX6_rows := fun w h => List.mem_cons_of_mem _ (List.mem_append_right _ h)
theorem flX6_rows_7 : FL wsX6_rows RX6 7 6 0 := ⟨RX6, TX6, 25, rfl, hin_X6_rows_6, by decide, by decide +kernel, rfl⟩
theorem hin_X6_failing_6 : ∀ w ∈ u_ws RX6 TX6 25, w ∈ wsX6_failing := fun w h => List.mem_cons_of_mem _ (List.mem_append_right _ h)
theorem flX6_failing_79 : FL wsX6_failing RX6 79 6 1 := ⟨RX6, TX6, 25, rfl, hin_X6_failing_6, by decide, by decide +kernel, rfl⟩
theorem hin_X6_out_6 : ∀ w ∈ u_ws RX6 TX6 25, w ∈ wsX6_out := fun w h => List.mem_cons_of_mem _ (List.mem_append_right _ h)
theorem flX6_out_79 : FL wsX6_out RX6 79 6 1 := ⟨RX6, TX6, 25, rfl, hin_X6_out_6, by decide, by decide +kernel, rfl⟩
theorem hin_X6_fails_6 : ∀ w ∈ u_ws RX6 TX6 25, w ∈ wsX6_fails := fun w h => List.mem_cons_of_mem _ (List.mem_append_right _ h)
theorem flX6_fails_79 : FL wsX6_fails RX6 79 6 1 := ⟨RX6, TX6, 25, rfl, hin_X6_fails_6, by decide, by decide +kernel, rfl⟩
theorem hin_X6_merges_6 : ∀ w ∈ u_ws RX6 TX6 25, w ∈ wsX6_merges := fun w h => List.mem_cons_of_mem _ (List.mem_append_right _ h)
theorem flX6_merges_7 : FL wsX6_merges RX6 7 6 0 := ⟨RX6, TX6, 25, rfl, hin_X6_merges_6, by decide, by decide +kernel, rfl⟩
theorem flX6_merges_79 : FL wsX6_merges RX6 79 6 1 := ⟨RX6, TX6, 25, rfl, hin_X6_merges_6, by decide, by decide +kernel, rfl⟩
theorem hin_X6_isIdle_6 : ∀ w ∈ u_ws RX6 TX6 25, w ∈ wsX6_isIdle := fun w h => List.mem_cons_of_mem _ (List.mem_append_right _ h)
theorem flX6_isIdle_13 : FL wsX6_isIdle RX6 13 6 2 := ⟨RX6, TX6, 25, rfl, hin_X6_isIdle_6, by decide, by decide +kernel, rfl⟩
theorem flX6_isIdle_17 : FL wsX6_isIdle RX6 17 6 3 := ⟨RX6, TX6, 25, rfl, hin_X6_isIdle_6, by decide, by decide +kernel, rfl⟩
theorem flX6_isIdle_20 : FL wsX6_isIdle RX6 20 6 4 := ⟨RX6, TX6, 25, rfl, hin_X6_isIdle_6, by decide, by decide +kernel, rfl⟩
theorem hin_X6_drop_6 : ∀ w ∈ u_ws RX6 TX6 25, w ∈ wsX6_drop := fun w h => List.mem_cons_of_mem _ (List.mem_append_right _ h)
theorem flX6_drop_79 : FL wsX6_drop RX6 79 6 1 := ⟨RX6, TX6, 25, rfl, hin_X6_drop_6, by decide, by decide +kernel, rfl⟩
theorem flX6_drop_64 : FL wsX6_drop RX6 64 6 21 := ⟨RX6, TX6, 25, rfl, hin_X6_drop_6, by decide, by decide +kernel, rfl⟩
theorem flX6_drop_13 : FL wsX6_drop RX6 13 6 2 := ⟨RX6, TX6, 25, rfl, hin_X6_drop_6, by decide, by decide +kernel, rfl⟩
theorem flX6_drop_17 : FL wsX6_drop RX6 17 6 3 := ⟨RX6, TX6, 25, rfl, hin_X6_drop_6, by decide, by decide +kernel, rfl⟩
theorem flX6_drop_20 : FL wsX6_drop RX6 20 6 4 := ⟨RX6, TX6, 25, rfl, hin_X6_drop_6, by decide, by decide +kernel, rfl⟩
theorem flX6_drop_23 : FL wsX6_drop RX6 23 6 5 := ⟨RX6, TX6, 25, rfl, hin_X6_drop_6, by decide, by decide +kernel, rfl⟩
theorem fpX6_drop_79 : FP wsX6_drop RX6 79 6 1 .int := ⟨RX6, TX6, 25, tyX6, rfl, hin_X6_drop_6, by decide, by decide +kernel, rfl, tyX6_ok, nmX6, rfl, by decide +kernel⟩
theorem hin_X6_turn_6 : ∀ w ∈ u_ws RX6 TX6 25, w ∈ wsX6_turn := fun w h => List.mem_cons_of_mem _ (List.mem_append_right _ h)
theorem flX6_turn_79 : FL wsX6_turn RX6 79 6 1 := ⟨RX6, TX6, 25, rfl, hin_X6_turn_6, by decide, by decide +kernel, rfl⟩
theorem flX6_turn_13 : FL wsX6_turn RX6 13 6 2 := ⟨RX6, TX6, 25, rfl, hin_X6_turn_6, by decide, by decide +kernel, rfl⟩
theorem flX6_turn_23 : FL wsX6_turn RX6 23 6 5 := ⟨RX6, TX6, 25, rfl, hin_X6_turn_6, by decide, by decide +kernel, rfl⟩
theorem flX6_turn_67 : FL wsX6_turn RX6 67 6 22 := ⟨RX6, TX6, 25, rfl, hin_X6_turn_6, by decide, by decide +kernel, rfl⟩
theorem flX6_turn_17 : FL wsX6_turn RX6 17 6 3 := ⟨RX6, TX6, 25, rfl, hin_X6_turn_6, by decide, by decide +kernel, rfl⟩
theorem flX6_turn_20 : FL wsX6_turn RX6 20 6 4 := ⟨RX6, TX6, 25, rfl, hin_X6_turn_6, by decide, by decide +kernel, rfl⟩
theorem fpX6_turn_79 : FP wsX6_turn RX6 79 6 1 .int := ⟨RX6, TX6, 25, tyX6, rfl, hin_X6_turn_6, by decide, by decide +kernel, rfl, tyX6_ok, nmX6, rfl, by decide +kernel⟩
theorem hin_X6_mirror_6 : ∀ w ∈ u_ws RX6 TX6 25, w ∈ wsX6_mirror := fun w h => List.mem_cons_of_mem _ (List.mem_append_right _ h)
theorem flX6_mirror_79 : FL wsX6_mirror RX6 79 6 1 := ⟨RX6, TX6, 25, rfl, hin_X6_mirror_6, by decide, by decide +kernel, rfl⟩
theorem flX6_mirror_17 : FL wsX6_mirror RX6 17 6 3 := ⟨RX6, TX6, 25, rfl, hin_X6_mirror_6, by decide, by decide +kernel, rfl⟩
theorem flX6_mirror_7 : FL wsX6_mirror RX6 7 6 0 := ⟨RX6, TX6, 25, rfl, hin_X6_mirror_6, by decide, by decide +kernel, rfl⟩
theorem flX6_mirror_20 : FL wsX6_mirror RX6 20 6 4 := ⟨RX6, TX6, 25, rfl, hin_X6_mirror_6, by decide, by decide +kernel, rfl⟩
theorem hin_X6_pair_6 : ∀ w ∈ u_ws RX6 TX6 25, w ∈ wsX6_pair := fun w h => List.mem_cons_of_mem _ (List.mem_append_right _ h)
theorem flX6_pair_7 : FL wsX6_pair RX6 7 6 0 := ⟨RX6, TX6, 25, rfl, hin_X6_pair_6, by decide, by decide +kernel, rfl⟩
theorem hin_X6_does_6 : ∀ w ∈ u_ws RX6 TX6 25, w ∈ wsX6_does := fun w h => List.mem_cons_of_mem _ (List.mem_append_right _ h)
theorem flX6_does_79 : FL wsX6_does RX6 79 6 1 := ⟨RX6, TX6, 25, rfl, hin_X6_does_6, by decide, by decide +kernel, rfl⟩
theorem flX6_does_70 : FL wsX6_does RX6 70 6 23 := ⟨RX6, TX6, 25, rfl, hin_X6_does_6, by decide, by decide +kernel, rfl⟩
theorem hin_X6_shortest_6 : ∀ w ∈ u_ws RX6 TX6 25, w ∈ wsX6_shortest := fun w h => List.mem_cons_of_mem _ (List.mem_append_right _ h)
theorem flX6_shortest_7 : FL wsX6_shortest RX6 7 6 0 := ⟨RX6, TX6, 25, rfl, hin_X6_shortest_6, by decide, by decide +kernel, rfl⟩
theorem flX6_shortest_70 : FL wsX6_shortest RX6 70 6 23 := ⟨RX6, TX6, 25, rfl, hin_X6_shortest_6, by decide, by decide +kernel, rfl⟩
theorem hin_X6_missing_6 : ∀ w ∈ u_ws RX6 TX6 25, w ∈ wsX6_missing := fun w h => List.mem_cons_of_mem _ (List.mem_append_right _ h)
theorem flX6_missing_7 : FL wsX6_missing RX6 7 6 0 := ⟨RX6, TX6, 25, rfl, hin_X6_missing_6, by decide, by decide +kernel, rfl⟩
theorem hin_X6_next_6 : ∀ w ∈ u_ws RX6 TX6 25, w ∈ wsX6_next := fun w h => List.mem_cons_of_mem _ (List.mem_append_right _ h)
theorem flX6_next_7 : FL wsX6_next RX6 7 6 0 := ⟨RX6, TX6, 25, rfl, hin_X6_next_6, by decide, by decide +kernel, rfl⟩
theorem flX6_next_70 : FL wsX6_next RX6 70 6 23 := ⟨RX6, TX6, 25, rfl, hin_X6_next_6, by decide, by decide +kernel, rfl⟩
theorem hin_X6_bears_6 : ∀ w ∈ u_ws RX6 TX6 25, w ∈ wsX6_bears := fun w h => List.mem_cons_of_mem _ (List.mem_append_right _ h)
theorem flX6_bears_79 : FL wsX6_bears RX6 79 6 1 := ⟨RX6, TX6, 25, rfl, hin_X6_bears_6, by decide, by decide +kernel, rfl⟩
theorem hin_X6_keep_6 : ∀ w ∈ u_ws RX6 TX6 25, w ∈ wsX6_keep := fun w h => List.mem_cons_of_mem _ (List.mem_append_right _ h)
theorem flX6_keep_79 : FL wsX6_keep RX6 79 6 1 := ⟨RX6, TX6, 25, rfl, hin_X6_keep_6, by decide, by decide +kernel, rfl⟩
theorem hin_X6_bring_6 : ∀ w ∈ u_ws RX6 TX6 25, w ∈ wsX6_bring := fun w h => List.mem_cons_of_mem _ (List.mem_append_right _ h)
theorem flX6_bring_27 : FL wsX6_bring RX6 27 6 6 := ⟨RX6, TX6, 25, rfl, hin_X6_bring_6, by decide, by decide +kernel, rfl⟩
theorem flX6_bring_79 : FL wsX6_bring RX6 79 6 1 := ⟨RX6, TX6, 25, rfl, hin_X6_bring_6, by decide, by decide +kernel, rfl⟩
theorem hin_X6_follow_6 : ∀ w ∈ u_ws RX6 TX6 25, w ∈ wsX6_follow := fun w h => List.mem_cons_of_mem _ (List.mem_append_right _ h)
theorem flX6_follow_27 : FL wsX6_follow RX6 27 6 6 := ⟨RX6, TX6, 25, rfl, hin_X6_follow_6, by decide, by decide +kernel, rfl⟩
theorem flX6_follow_7 : FL wsX6_follow RX6 7 6 0 := ⟨RX6, TX6, 25, rfl, hin_X6_follow_6, by decide, by decide +kernel, rfl⟩
theorem flX6_follow_79 : FL wsX6_follow RX6 79 6 1 := ⟨RX6, TX6, 25, rfl, hin_X6_follow_6, by decide, by decide +kernel, rfl⟩
theorem flX6_follow_30 : FL wsX6_follow RX6 30 6 7 := ⟨RX6, TX6, 25, rfl, hin_X6_follow_6, by decide, by decide +kernel, rfl⟩
theorem flX6_follow_13 : FL wsX6_follow RX6 13 6 2 := ⟨RX6, TX6, 25, rfl, hin_X6_follow_6, by decide, by decide +kernel, rfl⟩
theorem flX6_follow_33 : FL wsX6_follow RX6 33 6 8 := ⟨RX6, TX6, 25, rfl, hin_X6_follow_6, by decide, by decide +kernel, rfl⟩
theorem flX6_follow_17 : FL wsX6_follow RX6 17 6 3 := ⟨RX6, TX6, 25, rfl, hin_X6_follow_6, by decide, by decide +kernel, rfl⟩
theorem flX6_follow_36 : FL wsX6_follow RX6 36 6 9 := ⟨RX6, TX6, 25, rfl, hin_X6_follow_6, by decide, by decide +kernel, rfl⟩
theorem flX6_follow_20 : FL wsX6_follow RX6 20 6 4 := ⟨RX6, TX6, 25, rfl, hin_X6_follow_6, by decide, by decide +kernel, rfl⟩
theorem flX6_follow_39 : FL wsX6_follow RX6 39 6 10 := ⟨RX6, TX6, 25, rfl, hin_X6_follow_6, by decide, by decide +kernel, rfl⟩
theorem flX6_follow_23 : FL wsX6_follow RX6 23 6 5 := ⟨RX6, TX6, 25, rfl, hin_X6_follow_6, by decide, by decide +kernel, rfl⟩
theorem flX6_follow_42 : FL wsX6_follow RX6 42 6 11 := ⟨RX6, TX6, 25, rfl, hin_X6_follow_6, by decide, by decide +kernel, rfl⟩
theorem fpX6_follow_79 : FP wsX6_follow RX6 79 6 1 .int := ⟨RX6, TX6, 25, tyX6, rfl, hin_X6_follow_6, by decide, by decide +kernel, rfl, tyX6_ok, nmX6, rfl, by decide +kernel⟩
theorem hin_X6_unlike_6 : ∀ w ∈ u_ws RX6 TX6 25, w ∈ wsX6_unlike := fun w h => List.mem_cons_of_mem _ (List.mem_append_right _ h)
theorem flX6_unlike_27 : FL wsX6_unlike RX6 27 6 6 := ⟨RX6, TX6, 25, rfl, hin_X6_unlike_6, by decide, by decide +kernel, rfl⟩
theorem flX6_unlike_7 : FL wsX6_unlike RX6 7 6 0 := ⟨RX6, TX6, 25, rfl, hin_X6_unlike_6, by decide, by decide +kernel, rfl⟩
theorem flX6_unlike_73 : FL wsX6_unlike RX6 73 6 24 := ⟨RX6, TX6, 25, rfl, hin_X6_unlike_6, by decide, by decide +kernel, rfl⟩
theorem flX6_unlike_79 : FL wsX6_unlike RX6 79 6 1 := ⟨RX6, TX6, 25, rfl, hin_X6_unlike_6, by decide, by decide +kernel, rfl⟩
theorem hin_X6_tell_6 : ∀ w ∈ u_ws RX6 TX6 25, w ∈ wsX6_tell := fun w h => List.mem_cons_of_mem _ (List.mem_append_right _ h)
theorem flX6_tell_193 : FL wsX6_tell RX6 193 6 17 := ⟨RX6, TX6, 25, rfl, hin_X6_tell_6, by decide, by decide +kernel, rfl⟩
theorem flX6_tell_55 : FL wsX6_tell RX6 55 6 16 := ⟨RX6, TX6, 25, rfl, hin_X6_tell_6, by decide, by decide +kernel, rfl⟩
theorem fpX6_tell_193 : FP wsX6_tell RX6 193 6 17 .int := ⟨RX6, TX6, 25, tyX6, rfl, hin_X6_tell_6, by decide, by decide +kernel, rfl, tyX6_ok, nmX6, rfl, by decide +kernel⟩
theorem hin_X6_would_6 : ∀ w ∈ u_ws RX6 TX6 25, w ∈ wsX6_would := fun w h => List.mem_cons_of_mem _ (List.mem_append_right _ h)
theorem flX6_would_193 : FL wsX6_would RX6 193 6 17 := ⟨RX6, TX6, 25, rfl, hin_X6_would_6, by decide, by decide +kernel, rfl⟩
theorem fpX6_would_193 : FP wsX6_would RX6 193 6 17 .int := ⟨RX6, TX6, 25, tyX6, rfl, hin_X6_would_6, by decide, by decide +kernel, rfl, tyX6_ok, nmX6, rfl, by decide +kernel⟩
theorem flX6_would_55 : FL wsX6_would RX6 55 6 16 := ⟨RX6, TX6, 25, rfl, hin_X6_would_6, by decide, by decide +kernel, rfl⟩
theorem flX6_would_79 : FL wsX6_would RX6 79 6 1 := ⟨RX6, TX6, 25, rfl, hin_X6_would_6, by decide, by decide +kernel, rfl⟩
theorem hin_X6_told_6 : ∀ w ∈ u_ws RX6 TX6 25, w ∈ wsX6_told := fun w h => List.mem_cons_of_mem _ (List.mem_append_right _ h)
theorem flX6_told_7 : FL wsX6_told RX6 7 6 0 := ⟨RX6, TX6, 25, rfl, hin_X6_told_6, by decide, by decide +kernel, rfl⟩
theorem flX6_told_79 : FL wsX6_told RX6 79 6 1 := ⟨RX6, TX6, 25, rfl, hin_X6_told_6, by decide, by decide +kernel, rfl⟩
theorem flX6_told_193 : FL wsX6_told RX6 193 6 17 := ⟨RX6, TX6, 25, rfl, hin_X6_told_6, by decide, by decide +kernel, rfl⟩
theorem flX6_told_76 : FL wsX6_told RX6 76 6 18 := ⟨RX6, TX6, 25, rfl, hin_X6_told_6, by decide, by decide +kernel, rfl⟩
theorem mfJ13_bitCount_95d88 : MF yJ13_bitCount_95d88 1 := ⟨by decide +kernel, by decide +kernel, by decide +kernel⟩
theorem mfJ13_compare_74951 : MF yJ13_compare_74951 2 := ⟨by decide +kernel, by decide +kernel, by decide +kernel⟩
theorem mfX0_areRising : MF yX0_areRising 2 := ⟨by decide +kernel, by decide +kernel, by decide +kernel⟩
theorem mfX0_column : MF yX0_column 2 := ⟨by decide +kernel, by decide +kernel, by decide +kernel⟩
theorem mfX0_compared : MF yX0_compared 3 := ⟨by decide +kernel, by decide +kernel, by decide +kernel⟩
theorem mfX0_completes : MF yX0_completes 5 := ⟨by decide +kernel, by decide +kernel, by decide +kernel⟩
theorem mfX0_find : MF yX0_find 2 := ⟨by decide +kernel, by decide +kernel, by decide +kernel⟩
theorem mfX1_compare : MF yX1_compare 2 := ⟨by decide +kernel, by decide +kernel, by decide +kernel⟩
theorem mfX1_exchange : MF yX1_exchange 2 := ⟨by decide +kernel, by decide +kernel, by decide +kernel⟩
theorem mfX1_fitted : MF yX1_fitted 2 := ⟨by decide +kernel, by decide +kernel, by decide +kernel⟩
theorem mfX1_hasPart : MF yX1_hasPart 2 := ⟨by decide +kernel, by decide +kernel, by decide +kernel⟩
theorem mfX1_isMissing : MF yX1_isMissing 0 := ⟨by decide +kernel, by decide +kernel, by decide +kernel⟩
theorem mfX1_mustChange : MF yX1_mustChange 3 := ⟨by decide +kernel, by decide +kernel, by decide +kernel⟩
theorem mfX1_rank : MF yX1_rank 1 := ⟨by decide +kernel, by decide +kernel, by decide +kernel⟩
theorem mfX1_renew : MF yX1_renew 2 := ⟨by decide +kernel, by decide +kernel, by decide +kernel⟩
theorem mfX1_write : MF yX1_write 2 := ⟨by decide +kernel, by decide +kernel, by decide +kernel⟩
theorem mfX2_giveBack : MF yX2_giveBack 1 := ⟨by decide +kernel, by decide +kernel, by decide +kernel⟩
theorem mfX2_init : MF yX2_init 0 := ⟨by decide +kernel, by decide +kernel, by decide +kernel⟩
theorem mfX2_remember : MF yX2_remember 1 := ⟨by decide +kernel, by decide +kernel, by decide +kernel⟩
theorem mfX3_actingKind : MF yX3_actingKind 1 := ⟨by decide +kernel, by decide +kernel, by decide +kernel⟩
theorem mfX3_add : MF yX3_add 3 := ⟨by decide +kernel, by decide +kernel, by decide +kernel⟩
theorem mfX3_become : MF yX3_become 1 := ⟨by decide +kernel, by decide +kernel, by decide +kernel⟩
theorem mfX3_clear : MF yX3_clear 1 := ⟨by decide +kernel, by decide +kernel, by decide +kernel⟩
theorem mfX3_has : MF yX3_has 1 := ⟨by decide +kernel, by decide +kernel, by decide +kernel⟩
theorem mfX3_hasLane : MF yX3_hasLane 1 := ⟨by decide +kernel, by decide +kernel, by decide +kernel⟩
theorem mfX3_high : MF yX3_high 1 := ⟨by decide +kernel, by decide +kernel, by decide +kernel⟩
theorem mfX3_isNone : MF yX3_isNone 0 := ⟨by decide +kernel, by decide +kernel, by decide +kernel⟩
theorem mfX3_kind : MF yX3_kind 1 := ⟨by decide +kernel, by decide +kernel, by decide +kernel⟩
theorem mfX3_low : MF yX3_low 1 := ⟨by decide +kernel, by decide +kernel, by decide +kernel⟩
theorem mfX3_move : MF yX3_move 3 := ⟨by decide +kernel, by decide +kernel, by decide +kernel⟩
theorem mfX3_setSwitch : MF yX3_setSwitch 2 := ⟨by decide +kernel, by decide +kernel, by decide +kernel⟩
theorem mfX3_switchOf : MF yX3_switchOf 1 := ⟨by decide +kernel, by decide +kernel, by decide +kernel⟩
theorem mfX3_write : MF yX3_write 4 := ⟨by decide +kernel, by decide +kernel, by decide +kernel⟩
theorem mfX4_blocks : MF yX4_blocks 1 := ⟨by decide +kernel, by decide +kernel, by decide +kernel⟩
theorem mfX4_changing : MF yX4_changing 3 := ⟨by decide +kernel, by decide +kernel, by decide +kernel⟩
theorem mfX4_differing : MF yX4_differing 2 := ⟨by decide +kernel, by decide +kernel, by decide +kernel⟩
theorem mfX4_falling : MF yX4_falling 2 := ⟨by decide +kernel, by decide +kernel, by decide +kernel⟩
theorem mfX4_firstColumn : MF yX4_firstColumn 2 := ⟨by decide +kernel, by decide +kernel, by decide +kernel⟩
theorem mfX4_leastOf : MF yX4_leastOf 2 := ⟨by decide +kernel, by decide +kernel, by decide +kernel⟩
theorem mfX4_numberOf : MF yX4_numberOf 2 := ⟨by decide +kernel, by decide +kernel, by decide +kernel⟩
theorem mfX4_packed : MF yX4_packed 1 := ⟨by decide +kernel, by decide +kernel, by decide +kernel⟩
theorem mfX4_pass : MF yX4_pass 2 := ⟨by decide +kernel, by decide +kernel, by decide +kernel⟩
theorem mfX4_start : MF yX4_start 2 := ⟨by decide +kernel, by decide +kernel, by decide +kernel⟩
theorem mfX4_step : MF yX4_step 3 := ⟨by decide +kernel, by decide +kernel, by decide +kernel⟩
theorem mfX5_areLanePairs : MF yX5_areLanePairs 1 := ⟨by decide +kernel, by decide +kernel, by decide +kernel⟩
theorem mfX5_as : MF yX5_as 2 := ⟨by decide +kernel, by decide +kernel, by decide +kernel⟩
theorem mfX5_bears : MF yX5_bears 0 := ⟨by decide +kernel, by decide +kernel, by decide +kernel⟩
theorem mfX5_bring : MF yX5_bring 1 := ⟨by decide +kernel, by decide +kernel, by decide +kernel⟩
theorem mfX5_busyComparers : MF yX5_busyComparers 0 := ⟨by decide +kernel, by decide +kernel, by decide +kernel⟩
theorem mfX5_change : MF yX5_change 2 := ⟨by decide +kernel, by decide +kernel, by decide +kernel⟩
theorem mfX5_changesPlaces : MF yX5_changesPlaces 3 := ⟨by decide +kernel, by decide +kernel, by decide +kernel⟩
theorem mfX5_comparer : MF yX5_comparer 3 := ⟨by decide +kernel, by decide +kernel, by decide +kernel⟩
theorem mfX5_copy : MF yX5_copy 5 := ⟨by decide +kernel, by decide +kernel, by decide +kernel⟩
theorem mfX5_crate : MF yX5_crate 3 := ⟨by decide +kernel, by decide +kernel, by decide +kernel⟩
theorem mfX5_cut : MF yX5_cut 1 := ⟨by decide +kernel, by decide +kernel, by decide +kernel⟩
theorem mfX5_drop : MF yX5_drop 0 := ⟨by decide +kernel, by decide +kernel, by decide +kernel⟩
theorem mfX5_failingRows : MF yX5_failingRows 2 := ⟨by decide +kernel, by decide +kernel, by decide +kernel⟩
theorem mfX5_fails : MF yX5_fails 1 := ⟨by decide +kernel, by decide +kernel, by decide +kernel⟩
theorem mfX5_findCompletion : MF yX5_findCompletion 0 := ⟨by decide +kernel, by decide +kernel, by decide +kernel⟩
theorem mfX5_finding : MF yX5_finding 1 := ⟨by decide +kernel, by decide +kernel, by decide +kernel⟩
theorem mfX5_findingOfCrate : MF yX5_findingOfCrate 1 := ⟨by decide +kernel, by decide +kernel, by decide +kernel⟩
theorem mfX5_findingOfFit : MF yX5_findingOfFit 1 := ⟨by decide +kernel, by decide +kernel, by decide +kernel⟩
theorem mfX5_findingOfLoad : MF yX5_findingOfLoad 2 := ⟨by decide +kernel, by decide +kernel, by decide +kernel⟩
theorem mfX5_findingOfSlot : MF yX5_findingOfSlot 1 := ⟨by decide +kernel, by decide +kernel, by decide +kernel⟩
theorem mfX5_follow : MF yX5_follow 1 := ⟨by decide +kernel, by decide +kernel, by decide +kernel⟩
theorem mfX5_idle : MF yX5_idle 1 := ⟨by decide +kernel, by decide +kernel, by decide +kernel⟩
theorem mfX5_init : MF yX5_init 0 := ⟨by decide +kernel, by decide +kernel, by decide +kernel⟩
theorem mfX5_isCrate : MF yX5_isCrate 1 := ⟨by decide +kernel, by decide +kernel, by decide +kernel⟩
theorem mfX5_isIn : MF yX5_isIn 2 := ⟨by decide +kernel, by decide +kernel, by decide +kernel⟩
theorem mfX5_isKind : MF yX5_isKind 1 := ⟨by decide +kernel, by decide +kernel, by decide +kernel⟩
theorem mfX5_isSlot : MF yX5_isSlot 1 := ⟨by decide +kernel, by decide +kernel, by decide +kernel⟩
theorem mfX5_isUnder : MF yX5_isUnder 2 := ⟨by decide +kernel, by decide +kernel, by decide +kernel⟩
theorem mfX5_keep : MF yX5_keep 1 := ⟨by decide +kernel, by decide +kernel, by decide +kernel⟩
theorem mfX5_lanes : MF yX5_lanes 1 := ⟨by decide +kernel, by decide +kernel, by decide +kernel⟩
theorem mfX5_lastRound : MF yX5_lastRound 1 := ⟨by decide +kernel, by decide +kernel, by decide +kernel⟩
theorem mfX5_leastFailing : MF yX5_leastFailing 1 := ⟨by decide +kernel, by decide +kernel, by decide +kernel⟩
theorem mfX5_load : MF yX5_load 2 := ⟨by decide +kernel, by decide +kernel, by decide +kernel⟩
theorem mfX5_merges : MF yX5_merges 1 := ⟨by decide +kernel, by decide +kernel, by decide +kernel⟩
theorem mfX5_mirror : MF yX5_mirror 0 := ⟨by decide +kernel, by decide +kernel, by decide +kernel⟩
theorem mfX5_missing : MF yX5_missing 0 := ⟨by decide +kernel, by decide +kernel, by decide +kernel⟩
theorem mfX5_next : MF yX5_next 1 := ⟨by decide +kernel, by decide +kernel, by decide +kernel⟩
theorem mfX5_of : MF yX5_of 2 := ⟨by decide +kernel, by decide +kernel, by decide +kernel⟩
theorem mfX5_order : MF yX5_order 3 := ⟨by decide +kernel, by decide +kernel, by decide +kernel⟩
theorem mfX5_out : MF yX5_out 1 := ⟨by decide +kernel, by decide +kernel, by decide +kernel⟩
theorem mfX5_put : MF yX5_put 3 := ⟨by decide +kernel, by decide +kernel, by decide +kernel⟩
theorem mfX5_rises : MF yX5_rises 1 := ⟨by decide +kernel, by decide +kernel, by decide +kernel⟩
theorem mfX5_rounds : MF yX5_rounds 0 := ⟨by decide +kernel, by decide +kernel, by decide +kernel⟩
theorem mfX5_run : MF yX5_run 1 := ⟨by decide +kernel, by decide +kernel, by decide +kernel⟩
theorem mfX5_sorts : MF yX5_sorts 0 := ⟨by decide +kernel, by decide +kernel, by decide +kernel⟩
theorem mfX5_tell : MF yX5_tell 1 := ⟨by decide +kernel, by decide +kernel, by decide +kernel⟩
theorem mfX5_told : MF yX5_told 1 := ⟨by decide +kernel, by decide +kernel, by decide +kernel⟩
theorem mfX5_toldOrFinding : MF yX5_toldOrFinding 1 := ⟨by decide +kernel, by decide +kernel, by decide +kernel⟩
theorem mfX5_turn : MF yX5_turn 0 := ⟨by decide +kernel, by decide +kernel, by decide +kernel⟩
theorem mfX5_turnSwitch : MF yX5_turnSwitch 2 := ⟨by decide +kernel, by decide +kernel, by decide +kernel⟩
theorem mfX5_undo : MF yX5_undo 0 := ⟨by decide +kernel, by decide +kernel, by decide +kernel⟩
theorem mfX5_unlike : MF yX5_unlike 1 := ⟨by decide +kernel, by decide +kernel, by decide +kernel⟩
theorem mfX5_weak : MF yX5_weak 1 := ⟨by decide +kernel, by decide +kernel, by decide +kernel⟩
theorem mfX5_would : MF yX5_would 0 := ⟨by decide +kernel, by decide +kernel, by decide +kernel⟩
theorem mfX6_above : MF yX6_above 1 := ⟨by decide +kernel, by decide +kernel, by decide +kernel⟩
theorem mfX6_add : MF yX6_add 3 := ⟨by decide +kernel, by decide +kernel, by decide +kernel⟩
theorem mfX6_against : MF yX6_against 3 := ⟨by decide +kernel, by decide +kernel, by decide +kernel⟩
theorem mfX6_as : MF yX6_as 2 := ⟨by decide +kernel, by decide +kernel, by decide +kernel⟩
theorem mfX6_at : MF yX6_at 2 := ⟨by decide +kernel, by decide +kernel, by decide +kernel⟩
theorem mfX6_bears : MF yX6_bears 0 := ⟨by decide +kernel, by decide +kernel, by decide +kernel⟩
theorem mfX6_begins : MF yX6_begins 0 := ⟨by decide +kernel, by decide +kernel, by decide +kernel⟩
theorem mfX6_bring : MF yX6_bring 1 := ⟨by decide +kernel, by decide +kernel, by decide +kernel⟩
theorem mfX6_change : MF yX6_change 2 := ⟨by decide +kernel, by decide +kernel, by decide +kernel⟩
theorem mfX6_changes : MF yX6_changes 2 := ⟨by decide +kernel, by decide +kernel, by decide +kernel⟩
theorem mfX6_comparer : MF yX6_comparer 3 := ⟨by decide +kernel, by decide +kernel, by decide +kernel⟩
theorem mfX6_copy : MF yX6_copy 5 := ⟨by decide +kernel, by decide +kernel, by decide +kernel⟩
theorem mfX6_crate : MF yX6_crate 3 := ⟨by decide +kernel, by decide +kernel, by decide +kernel⟩
theorem mfX6_cut : MF yX6_cut 1 := ⟨by decide +kernel, by decide +kernel, by decide +kernel⟩
theorem mfX6_does : MF yX6_does 1 := ⟨by decide +kernel, by decide +kernel, by decide +kernel⟩
theorem mfX6_drop : MF yX6_drop 0 := ⟨by decide +kernel, by decide +kernel, by decide +kernel⟩
theorem mfX6_failing : MF yX6_failing 1 := ⟨by decide +kernel, by decide +kernel, by decide +kernel⟩
theorem mfX6_fails : MF yX6_fails 1 := ⟨by decide +kernel, by decide +kernel, by decide +kernel⟩
theorem mfX6_follow : MF yX6_follow 1 := ⟨by decide +kernel, by decide +kernel, by decide +kernel⟩
theorem mfX6_found : MF yX6_found 1 := ⟨by decide +kernel, by decide +kernel, by decide +kernel⟩
theorem mfX6_goes : MF yX6_goes 3 := ⟨by decide +kernel, by decide +kernel, by decide +kernel⟩
theorem mfX6_idle : MF yX6_idle 1 := ⟨by decide +kernel, by decide +kernel, by decide +kernel⟩
theorem mfX6_in : MF yX6_in 3 := ⟨by decide +kernel, by decide +kernel, by decide +kernel⟩
theorem mfX6_init : MF yX6_init 0 := ⟨by decide +kernel, by decide +kernel, by decide +kernel⟩
theorem mfX6_isComparer : MF yX6_isComparer 1 := ⟨by decide +kernel, by decide +kernel, by decide +kernel⟩
theorem mfX6_isCrate : MF yX6_isCrate 1 := ⟨by decide +kernel, by decide +kernel, by decide +kernel⟩
theorem mfX6_isIdle : MF yX6_isIdle 1 := ⟨by decide +kernel, by decide +kernel, by decide +kernel⟩
theorem mfX6_isLane : MF yX6_isLane 1 := ⟨by decide +kernel, by decide +kernel, by decide +kernel⟩
theorem mfX6_isRising : MF yX6_isRising 1 := ⟨by decide +kernel, by decide +kernel, by decide +kernel⟩
theorem mfX6_isSlot : MF yX6_isSlot 1 := ⟨by decide +kernel, by decide +kernel, by decide +kernel⟩
theorem mfX6_keep : MF yX6_keep 1 := ⟨by decide +kernel, by decide +kernel, by decide +kernel⟩
theorem mfX6_key : MF yX6_key 2 := ⟨by decide +kernel, by decide +kernel, by decide +kernel⟩
theorem mfX6_lacks : MF yX6_lacks 2 := ⟨by decide +kernel, by decide +kernel, by decide +kernel⟩
theorem mfX6_lanes : MF yX6_lanes 1 := ⟨by decide +kernel, by decide +kernel, by decide +kernel⟩
theorem mfX6_load : MF yX6_load 2 := ⟨by decide +kernel, by decide +kernel, by decide +kernel⟩
theorem mfX6_merges : MF yX6_merges 1 := ⟨by decide +kernel, by decide +kernel, by decide +kernel⟩
theorem mfX6_mirror : MF yX6_mirror 0 := ⟨by decide +kernel, by decide +kernel, by decide +kernel⟩
theorem mfX6_missing : MF yX6_missing 0 := ⟨by decide +kernel, by decide +kernel, by decide +kernel⟩
theorem mfX6_narrow : MF yX6_narrow 2 := ⟨by decide +kernel, by decide +kernel, by decide +kernel⟩
theorem mfX6_next : MF yX6_next 1 := ⟨by decide +kernel, by decide +kernel, by decide +kernel⟩
theorem mfX6_of : MF yX6_of 2 := ⟨by decide +kernel, by decide +kernel, by decide +kernel⟩
theorem mfX6_order : MF yX6_order 3 := ⟨by decide +kernel, by decide +kernel, by decide +kernel⟩
theorem mfX6_out : MF yX6_out 1 := ⟨by decide +kernel, by decide +kernel, by decide +kernel⟩
theorem mfX6_pair : MF yX6_pair 1 := ⟨by decide +kernel, by decide +kernel, by decide +kernel⟩
theorem mfX6_put : MF yX6_put 3 := ⟨by decide +kernel, by decide +kernel, by decide +kernel⟩
theorem mfX6_restore : MF yX6_restore 1 := ⟨by decide +kernel, by decide +kernel, by decide +kernel⟩
theorem mfX6_rises : MF yX6_rises 1 := ⟨by decide +kernel, by decide +kernel, by decide +kernel⟩
theorem mfX6_roundOf : MF yX6_roundOf 1 := ⟨by decide +kernel, by decide +kernel, by decide +kernel⟩
theorem mfX6_rounds : MF yX6_rounds 0 := ⟨by decide +kernel, by decide +kernel, by decide +kernel⟩
theorem mfX6_rows : MF yX6_rows 0 := ⟨by decide +kernel, by decide +kernel, by decide +kernel⟩
theorem mfX6_run : MF yX6_run 1 := ⟨by decide +kernel, by decide +kernel, by decide +kernel⟩
theorem mfX6_shortest : MF yX6_shortest 0 := ⟨by decide +kernel, by decide +kernel, by decide +kernel⟩
theorem mfX6_sorts : MF yX6_sorts 0 := ⟨by decide +kernel, by decide +kernel, by decide +kernel⟩
theorem mfX6_store : MF yX6_store 1 := ⟨by decide +kernel, by decide +kernel, by decide +kernel⟩
theorem mfX6_tell : MF yX6_tell 1 := ⟨by decide +kernel, by decide +kernel, by decide +kernel⟩
theorem mfX6_told : MF yX6_told 1 := ⟨by decide +kernel, by decide +kernel, by decide +kernel⟩
theorem mfX6_turn : MF yX6_turn 0 := ⟨by decide +kernel, by decide +kernel, by decide +kernel⟩
theorem mfX6_turnSwitch : MF yX6_turnSwitch 2 := ⟨by decide +kernel, by decide +kernel, by decide +kernel⟩
theorem mfX6_undo : MF yX6_undo 0 := ⟨by decide +kernel, by decide +kernel, by decide +kernel⟩
theorem mfX6_unlike : MF yX6_unlike 1 := ⟨by decide +kernel, by decide +kernel, by decide +kernel⟩
theorem mfX6_weak : MF yX6_weak 1 := ⟨by decide +kernel, by decide +kernel, by decide +kernel⟩
theorem mfX6_would : MF yX6_would 0 := ⟨by decide +kernel, by decide +kernel, by decide +kernel⟩
theorem ln_all : ln 2 = 40 ∧ ln 3 = 4 ∧ ln 5 = 25 ∧ ln 56 = 6 ∧ ln 58 = 8 ∧ ln 60 = 8 ∧ ln 62 = 5 ∧ ln 63 = 8 ∧ ln 64 = 80 ∧ ln 86 = 40 ∧ ln 87 = 40 ∧ ln 88 = 40 ∧ ln 89 = 40 ∧ ln 90 = 30 ∧ ln 91 = 30 ∧ ln 92 = 1200 ∧ ln 93 = 1200 ∧ ln 94 = 1200 ∧ ln 95 = 1200 ∧ ln 96 = 6 ∧ ln 97 = 6 ∧ ln 98 = 72 ∧ ln 99 = 80 ∧ ln 100 = 40 ∧ ln 101 = 12 ∧ ln 102 = 40 ∧ ln 103 = 8 ∧ ln 104 = 10 ∧ ln 105 = 256 := by decide +kernel
