abbrev mX0_actingOn : x_M := (yX0_actingOn, cX0_actingOn, 5, (some .int), wsX0_actingOn, 0, 0, RX0)
theorem mwX0_actingOn : x_mw mX0_actingOn := ⟨by decide +kernel, ⟨_, rfl⟩, rfl⟩
theorem iX0_actingOn_X0 : ∀ w ∈ wsX00, w ∈ wsX0_actingOn := fun _ h => List.mem_cons_of_mem _ (List.mem_append_left _ (List.mem_append_right _ h))
theorem fX0_actingOn_22 : x_fw mX0_actingOn 1 3 22 RX0 TX0 7 := ⟨rfl, by decide, rfl, by decide, iX0_actingOn_X0, by decide +kernel⟩
theorem iX0_actingOn_X1 : ∀ w ∈ wsX10, w ∈ wsX0_actingOn := fun _ h => List.mem_cons_of_mem _ (List.mem_append_right _ h)
theorem fX0_actingOn_35 : x_fw mX0_actingOn 2 0 35 RX1 TX1 2 := ⟨rfl, by decide, rfl, by decide, iX0_actingOn_X1, by decide +kernel⟩
theorem fX0_actingOn_43 : x_fw mX0_actingOn 2 1 43 RX1 TX1 2 := ⟨rfl, by decide, rfl, by decide, iX0_actingOn_X1, by decide +kernel⟩
abbrev mX1_init : x_M := (yX1_init, cX1_init, 2, none, wsX1_init, 1, 20, RX1)
theorem mwX1_init : x_mw mX1_init := ⟨by decide +kernel, ⟨_, rfl⟩, rfl⟩
theorem sX1_init_1 : x_ow0 mX1_init 1 := ⟨by decide +kernel, by decide +kernel, by decide +kernel, by decide, by decide⟩
theorem iX1_init_X1 : ∀ w ∈ wsX10, w ∈ wsX1_init := fun _ h => List.mem_cons_of_mem _ (List.mem_append_right _ h)
theorem fX1_init_7 : x_fw mX1_init 2 1 7 RX1 TX1 2 := ⟨rfl, by decide, rfl, by decide, iX1_init_X1, by decide +kernel⟩
theorem pX1_init_7 : x_pw mX1_init 2 1 7 RX1 TX1 2 (.object "HazardRules$Edition") := ⟨fX1_init_7, ⟨tyX1, tyX1_ok⟩, nmX1, Or.inl rfl, by decide +kernel⟩
theorem fX1_init_13 : x_fw mX1_init 2 0 13 RX1 TX1 2 := ⟨rfl, by decide, rfl, by decide, iX1_init_X1, by decide +kernel⟩
theorem pX1_init_13 : x_pw mX1_init 2 0 13 RX1 TX1 2 (.int) := ⟨fX1_init_13, ⟨tyX1, tyX1_ok⟩, nmX1, Or.inr ⟨rfl, rfl, rfl⟩, by decide +kernel⟩
abbrev mX0_addEdition : x_M := (yX0_addEdition, cX0_addEdition, 3, none, wsX0_addEdition, 2, 41, RX0)
theorem mwX0_addEdition : x_mw mX0_addEdition := ⟨by decide +kernel, ⟨_, rfl⟩, rfl⟩
theorem iX0_addEdition_X1 : ∀ w ∈ wsX10, w ∈ wsX0_addEdition := fun _ h => List.mem_cons_of_mem _ (List.mem_append_left _ (List.mem_append_right _ h))
theorem nX0_addEdition_36 : x_nw mX0_addEdition 2 36 RX1 TX1 2 := ⟨rfl, by decide, rfl, iX0_addEdition_X1, by decide +kernel, by decide +kernel, by decide +kernel, tyX1, tyX1_ok, by decide +kernel⟩
theorem sX0_addEdition_40 : x_iw mX0_addEdition mX1_init 40 1 := ⟨_, gX0_addEdition_X1_init, rfl, by decide +kernel, by decide +kernel, by decide +kernel, rfl, by decide +kernel, by decide⟩
theorem iX0_addEdition_X0 : ∀ w ∈ wsX00, w ∈ wsX0_addEdition := fun _ h => List.mem_cons_of_mem _ (List.mem_append_right _ h)
theorem fX0_addEdition_26 : x_fw mX0_addEdition 1 4 26 RX0 TX0 7 := ⟨rfl, by decide, rfl, by decide, iX0_addEdition_X0, by decide +kernel⟩
theorem fX0_addEdition_22 : x_fw mX0_addEdition 1 3 22 RX0 TX0 7 := ⟨rfl, by decide, rfl, by decide, iX0_addEdition_X0, by decide +kernel⟩
theorem pX0_addEdition_22 : x_pw mX0_addEdition 1 3 22 RX0 TX0 7 (.object "HazardRules$Edition") := ⟨fX0_addEdition_22, ⟨tyX0, tyX0_ok⟩, nmX0, Or.inl rfl, by decide +kernel⟩
theorem fX0_addEdition_43 : x_fw mX0_addEdition 2 1 43 RX1 TX1 2 := ⟨rfl, by decide, rfl, by decide, iX0_addEdition_X1, by decide +kernel⟩
theorem pX0_addEdition_43 : x_pw mX0_addEdition 2 1 43 RX1 TX1 2 (.object "HazardRules$Edition") := ⟨fX0_addEdition_43, ⟨tyX1, tyX1_ok⟩, nmX1, Or.inl rfl, by decide +kernel⟩
theorem pX0_addEdition_26 : x_pw mX0_addEdition 1 4 26 RX0 TX0 7 (.object "HazardRules$Edition") := ⟨fX0_addEdition_26, ⟨tyX0, tyX0_ok⟩, nmX0, Or.inl rfl, by decide +kernel⟩
theorem fX0_addEdition_29 : x_fw mX0_addEdition 1 5 29 RX0 TX0 7 := ⟨rfl, by decide, rfl, by decide, iX0_addEdition_X0, by decide +kernel⟩
theorem pX0_addEdition_29 : x_pw mX0_addEdition 1 5 29 RX0 TX0 7 (.int) := ⟨fX0_addEdition_29, ⟨tyX0, tyX0_ok⟩, nmX0, Or.inl rfl, by decide +kernel⟩
abbrev mX0_addRule : x_M := (yX0_addRule, cX0_addRule, 2, none, wsX0_addRule, 0, 0, RX0)
theorem mwX0_addRule : x_mw mX0_addRule := ⟨by decide +kernel, ⟨_, rfl⟩, rfl⟩
theorem iX0_addRule_X0 : ∀ w ∈ wsX00, w ∈ wsX0_addRule := fun _ h => List.mem_cons_of_mem _ (List.mem_append_left _ (List.mem_append_right _ h))
theorem fX0_addRule_18 : x_fw mX0_addRule 1 2 18 RX0 TX0 7 := ⟨rfl, by decide, rfl, by decide, iX0_addRule_X0, by decide +kernel⟩
theorem iX0_addRule_X6 : ∀ w ∈ wsX60, w ∈ wsX0_addRule := fun _ h => List.mem_cons_of_mem _ (List.mem_append_right _ h)
theorem fX0_addRule_46 : x_fw mX0_addRule 6 2 46 RX6 TX6 9 := ⟨rfl, by decide, rfl, by decide, iX0_addRule_X6, by decide +kernel⟩
theorem pX0_addRule_46 : x_pw mX0_addRule 6 2 46 RX6 TX6 9 (.int) := ⟨fX0_addRule_46, ⟨tyX6, tyX6_ok⟩, nmX6, Or.inl rfl, by decide +kernel⟩
theorem fX0_addRule_29 : x_fw mX0_addRule 1 5 29 RX0 TX0 7 := ⟨rfl, by decide, rfl, by decide, iX0_addRule_X0, by decide +kernel⟩
theorem fX0_addRule_51 : x_fw mX0_addRule 6 3 51 RX6 TX6 9 := ⟨rfl, by decide, rfl, by decide, iX0_addRule_X6, by decide +kernel⟩
theorem pX0_addRule_51 : x_pw mX0_addRule 6 3 51 RX6 TX6 9 (.int) := ⟨fX0_addRule_51, ⟨tyX6, tyX6_ok⟩, nmX6, Or.inl rfl, by decide +kernel⟩
theorem fX0_addRule_15 : x_fw mX0_addRule 1 1 15 RX0 TX0 7 := ⟨rfl, by decide, rfl, by decide, iX0_addRule_X0, by decide +kernel⟩
theorem fX0_addRule_9 : x_fw mX0_addRule 1 0 9 RX0 TX0 7 := ⟨rfl, by decide, rfl, by decide, iX0_addRule_X0, by decide +kernel⟩
theorem pX0_addRule_9 : x_pw mX0_addRule 1 0 9 RX0 TX0 7 (.object "HazardRules$Rule") := ⟨fX0_addRule_9, ⟨tyX0, tyX0_ok⟩, nmX0, Or.inl rfl, by decide +kernel⟩
theorem fX0_addRule_54 : x_fw mX0_addRule 6 6 54 RX6 TX6 9 := ⟨rfl, by decide, rfl, by decide, iX0_addRule_X6, by decide +kernel⟩
theorem pX0_addRule_54 : x_pw mX0_addRule 6 6 54 RX6 TX6 9 (.object "HazardRules$Rule") := ⟨fX0_addRule_54, ⟨tyX6, tyX6_ok⟩, nmX6, Or.inl rfl, by decide +kernel⟩
theorem pX0_addRule_15 : x_pw mX0_addRule 1 1 15 RX0 TX0 7 (.object "HazardRules$Rule") := ⟨fX0_addRule_15, ⟨tyX0, tyX0_ok⟩, nmX0, Or.inl rfl, by decide +kernel⟩
theorem pX0_addRule_18 : x_pw mX0_addRule 1 2 18 RX0 TX0 7 (.int) := ⟨fX0_addRule_18, ⟨tyX0, tyX0_ok⟩, nmX0, Or.inl rfl, by decide +kernel⟩
abbrev mX0_heldBy : x_M := (yX0_heldBy, cX0_heldBy, 5, (some (.object "HazardRules$Rule")), wsX0_heldBy, 0, 0, RX0)
theorem mwX0_heldBy : x_mw mX0_heldBy := ⟨by decide +kernel, ⟨_, rfl⟩, rfl⟩
theorem iX0_heldBy_X0 : ∀ w ∈ wsX00, w ∈ wsX0_heldBy := fun _ h => List.mem_cons_of_mem _ (List.mem_append_left _ (List.mem_append_right _ h))
theorem fX0_heldBy_9 : x_fw mX0_heldBy 1 0 9 RX0 TX0 7 := ⟨rfl, by decide, rfl, by decide, iX0_heldBy_X0, by decide +kernel⟩
theorem iX0_heldBy_X6 : ∀ w ∈ wsX60, w ∈ wsX0_heldBy := fun _ h => List.mem_cons_of_mem _ (List.mem_append_right _ h)
theorem fX0_heldBy_83 : x_fw mX0_heldBy 6 0 83 RX6 TX6 9 := ⟨rfl, by decide, rfl, by decide, iX0_heldBy_X6, by decide +kernel⟩
theorem fX0_heldBy_60 : x_fw mX0_heldBy 6 5 60 RX6 TX6 9 := ⟨rfl, by decide, rfl, by decide, iX0_heldBy_X6, by decide +kernel⟩
theorem fX0_heldBy_54 : x_fw mX0_heldBy 6 6 54 RX6 TX6 9 := ⟨rfl, by decide, rfl, by decide, iX0_heldBy_X6, by decide +kernel⟩
abbrev mX0_isHeld : x_M := (yX0_isHeld, cX0_isHeld, 2, (some .boolean), wsX0_isHeld, 1, 24, RX0)
theorem mwX0_isHeld : x_mw mX0_isHeld := ⟨by decide +kernel, ⟨_, rfl⟩, rfl⟩
theorem sX0_isHeld_124 : x_vw mX0_isHeld mX0_heldBy 124 1 2 := ⟨RX0, TX0, 7, _, rfl, by decide, gX0_isHeld_X0_heldBy, rfl, by decide +kernel, by decide⟩
abbrev mX0_heldCount : x_M := (yX0_heldCount, cX0_heldCount, 3, (some .int), wsX0_heldCount, 2, 45, RX0)
theorem mwX0_heldCount : x_mw mX0_heldCount := ⟨by decide +kernel, ⟨_, rfl⟩, rfl⟩
theorem sX0_heldCount_120 : x_vw mX0_heldCount mX0_isHeld 120 1 1 := ⟨RX0, TX0, 7, _, rfl, by decide, gX0_heldCount_X0_isHeld, rfl, by decide +kernel, by decide⟩
abbrev mX0_holdsVerdict : x_M := (yX0_holdsVerdict, cX0_holdsVerdict, 3, (some .int), wsX0_holdsVerdict, 2, 45, RX0)
theorem mwX0_holdsVerdict : x_mw mX0_holdsVerdict := ⟨by decide +kernel, ⟨_, rfl⟩, rfl⟩
theorem sX0_holdsVerdict_120 : x_vw mX0_holdsVerdict mX0_isHeld 120 1 1 := ⟨RX0, TX0, 7, _, rfl, by decide, gX0_holdsVerdict_X0_isHeld, rfl, by decide +kernel, by decide⟩
theorem iX0_holdsVerdict_X0 : ∀ w ∈ wsX00, w ∈ wsX0_holdsVerdict := fun _ h => List.mem_cons_of_mem _ (List.mem_append_left _ (List.mem_append_right _ h))
theorem fX0_holdsVerdict_9 : x_fw mX0_holdsVerdict 1 0 9 RX0 TX0 7 := ⟨rfl, by decide, rfl, by decide, iX0_holdsVerdict_X0, by decide +kernel⟩
theorem iX0_holdsVerdict_X6 : ∀ w ∈ wsX60, w ∈ wsX0_holdsVerdict := fun _ h => List.mem_cons_of_mem _ (List.mem_append_right _ h)
theorem fX0_holdsVerdict_83 : x_fw mX0_holdsVerdict 6 0 83 RX6 TX6 9 := ⟨rfl, by decide, rfl, by decide, iX0_holdsVerdict_X6, by decide +kernel⟩
theorem fX0_holdsVerdict_60 : x_fw mX0_holdsVerdict 6 5 60 RX6 TX6 9 := ⟨rfl, by decide, rfl, by decide, iX0_holdsVerdict_X6, by decide +kernel⟩
theorem fX0_holdsVerdict_54 : x_fw mX0_holdsVerdict 6 6 54 RX6 TX6 9 := ⟨rfl, by decide, rfl, by decide, iX0_holdsVerdict_X6, by decide +kernel⟩
abbrev mX0_init : x_M := (yX0_init, cX0_init, 1, none, wsX0_init, 1, 20, RX0)
theorem mwX0_init : x_mw mX0_init := ⟨by decide +kernel, ⟨_, rfl⟩, rfl⟩
theorem sX0_init_3 : x_ow0 mX0_init 3 := ⟨by decide +kernel, by decide +kernel, by decide +kernel, by decide, by decide⟩
theorem iX0_init_X0 : ∀ w ∈ wsX00, w ∈ wsX0_init := fun _ h => List.mem_cons_of_mem _ (List.mem_append_right _ h)
theorem fX0_init_9 : x_fw mX0_init 1 0 9 RX0 TX0 7 := ⟨rfl, by decide, rfl, by decide, iX0_init_X0, by decide +kernel⟩
theorem pX0_init_9 : x_pw mX0_init 1 0 9 RX0 TX0 7 (.object "HazardRules$Rule") := ⟨fX0_init_9, ⟨tyX0, tyX0_ok⟩, nmX0, Or.inl rfl, by decide +kernel⟩
theorem fX0_init_15 : x_fw mX0_init 1 1 15 RX0 TX0 7 := ⟨rfl, by decide, rfl, by decide, iX0_init_X0, by decide +kernel⟩
theorem pX0_init_15 : x_pw mX0_init 1 1 15 RX0 TX0 7 (.object "HazardRules$Rule") := ⟨fX0_init_15, ⟨tyX0, tyX0_ok⟩, nmX0, Or.inl rfl, by decide +kernel⟩
theorem fX0_init_18 : x_fw mX0_init 1 2 18 RX0 TX0 7 := ⟨rfl, by decide, rfl, by decide, iX0_init_X0, by decide +kernel⟩
theorem pX0_init_18 : x_pw mX0_init 1 2 18 RX0 TX0 7 (.int) := ⟨fX0_init_18, ⟨tyX0, tyX0_ok⟩, nmX0, Or.inl rfl, by decide +kernel⟩
theorem fX0_init_22 : x_fw mX0_init 1 3 22 RX0 TX0 7 := ⟨rfl, by decide, rfl, by decide, iX0_init_X0, by decide +kernel⟩
theorem pX0_init_22 : x_pw mX0_init 1 3 22 RX0 TX0 7 (.object "HazardRules$Edition") := ⟨fX0_init_22, ⟨tyX0, tyX0_ok⟩, nmX0, Or.inl rfl, by decide +kernel⟩
theorem fX0_init_26 : x_fw mX0_init 1 4 26 RX0 TX0 7 := ⟨rfl, by decide, rfl, by decide, iX0_init_X0, by decide +kernel⟩
theorem pX0_init_26 : x_pw mX0_init 1 4 26 RX0 TX0 7 (.object "HazardRules$Edition") := ⟨fX0_init_26, ⟨tyX0, tyX0_ok⟩, nmX0, Or.inl rfl, by decide +kernel⟩
theorem fX0_init_29 : x_fw mX0_init 1 5 29 RX0 TX0 7 := ⟨rfl, by decide, rfl, by decide, iX0_init_X0, by decide +kernel⟩
theorem pX0_init_29 : x_pw mX0_init 1 5 29 RX0 TX0 7 (.int) := ⟨fX0_init_29, ⟨tyX0, tyX0_ok⟩, nmX0, Or.inl rfl, by decide +kernel⟩
theorem fX0_init_32 : x_fw mX0_init 1 6 32 RX0 TX0 7 := ⟨rfl, by decide, rfl, by decide, iX0_init_X0, by decide +kernel⟩
theorem pX0_init_32 : x_pw mX0_init 1 6 32 RX0 TX0 7 (.int) := ⟨fX0_init_32, ⟨tyX0, tyX0_ok⟩, nmX0, Or.inl rfl, by decide +kernel⟩
abbrev mX0_isFirstToHold : x_M := (yX0_isFirstToHold, cX0_isFirstToHold, 3, (some .boolean), wsX0_isFirstToHold, 1, 24, RX0)
theorem mwX0_isFirstToHold : x_mw mX0_isFirstToHold := ⟨by decide +kernel, ⟨_, rfl⟩, rfl⟩
theorem iX0_isFirstToHold_X6 : ∀ w ∈ wsX60, w ∈ wsX0_isFirstToHold := fun _ h => List.mem_cons_of_mem _ (List.mem_append_left _ (List.mem_append_right _ h))
theorem fX0_isFirstToHold_83 : x_fw mX0_isFirstToHold 6 0 83 RX6 TX6 9 := ⟨rfl, by decide, rfl, by decide, iX0_isFirstToHold_X6, by decide +kernel⟩
theorem sX0_isFirstToHold_124 : x_vw mX0_isFirstToHold mX0_heldBy 124 1 2 := ⟨RX0, TX0, 7, _, rfl, by decide, gX0_isFirstToHold_X0_heldBy, rfl, by decide +kernel, by decide⟩
theorem fX0_isFirstToHold_46 : x_fw mX0_isFirstToHold 6 2 46 RX6 TX6 9 := ⟨rfl, by decide, rfl, by decide, iX0_isFirstToHold_X6, by decide +kernel⟩
abbrev mX0_isOpen : x_M := (yX0_isOpen, cX0_isOpen, 2, (some .boolean), wsX0_isOpen, 2, 45, RX0)
theorem mwX0_isOpen : x_mw mX0_isOpen := ⟨by decide +kernel, ⟨_, rfl⟩, rfl⟩
theorem iX0_isOpen_X6 : ∀ w ∈ wsX60, w ∈ wsX0_isOpen := fun _ h => List.mem_cons_of_mem _ (List.mem_append_left _ (List.mem_append_right _ h))
theorem fX0_isOpen_60 : x_fw mX0_isOpen 6 5 60 RX6 TX6 9 := ⟨rfl, by decide, rfl, by decide, iX0_isOpen_X6, by decide +kernel⟩
theorem fX0_isOpen_83 : x_fw mX0_isOpen 6 0 83 RX6 TX6 9 := ⟨rfl, by decide, rfl, by decide, iX0_isOpen_X6, by decide +kernel⟩
theorem sX0_isOpen_120 : x_vw mX0_isOpen mX0_isHeld 120 1 1 := ⟨RX0, TX0, 7, _, rfl, by decide, gX0_isOpen_X0_isHeld, rfl, by decide +kernel, by decide⟩
abbrev mX0_isFirstToLack : x_M := (yX0_isFirstToLack, cX0_isFirstToLack, 3, (some .boolean), wsX0_isFirstToLack, 3, 66, RX0)
theorem mwX0_isFirstToLack : x_mw mX0_isFirstToLack := ⟨by decide +kernel, ⟨_, rfl⟩, rfl⟩
theorem sX0_isFirstToLack_128 : x_vw mX0_isFirstToLack mX0_isOpen 128 1 1 := ⟨RX0, TX0, 7, _, rfl, by decide, gX0_isFirstToLack_X0_isOpen, rfl, by decide +kernel, by decide⟩
theorem iX0_isFirstToLack_X0 : ∀ w ∈ wsX00, w ∈ wsX0_isFirstToLack := fun _ h => List.mem_cons_of_mem _ (List.mem_append_left _ (List.mem_append_right _ h))
theorem fX0_isFirstToLack_9 : x_fw mX0_isFirstToLack 1 0 9 RX0 TX0 7 := ⟨rfl, by decide, rfl, by decide, iX0_isFirstToLack_X0, by decide +kernel⟩
theorem iX0_isFirstToLack_X6 : ∀ w ∈ wsX60, w ∈ wsX0_isFirstToLack := fun _ h => List.mem_cons_of_mem _ (List.mem_append_right _ h)
theorem fX0_isFirstToLack_46 : x_fw mX0_isFirstToLack 6 2 46 RX6 TX6 9 := ⟨rfl, by decide, rfl, by decide, iX0_isFirstToLack_X6, by decide +kernel⟩
theorem fX0_isFirstToLack_60 : x_fw mX0_isFirstToLack 6 5 60 RX6 TX6 9 := ⟨rfl, by decide, rfl, by decide, iX0_isFirstToLack_X6, by decide +kernel⟩
theorem fX0_isFirstToLack_54 : x_fw mX0_isFirstToLack 6 6 54 RX6 TX6 9 := ⟨rfl, by decide, rfl, by decide, iX0_isFirstToLack_X6, by decide +kernel⟩
abbrev mX2_resultOf : x_M := (yX2_resultOf, cX2_resultOf, 2, (some .int), wsX2_resultOf, 0, 0, RX2)
theorem mwX2_resultOf : x_mw mX2_resultOf := ⟨by decide +kernel, ⟨_, rfl⟩, rfl⟩
theorem iX2_resultOf_X2 : ∀ w ∈ wsX20, w ∈ wsX2_resultOf := fun _ h => List.mem_cons_of_mem _ (List.mem_append_right _ h)
theorem fX2_resultOf_26 : x_fw mX2_resultOf 3 4 26 RX2 TX2 5 := ⟨rfl, by decide, rfl, by decide, iX2_resultOf_X2, by decide +kernel⟩
abbrev mX6_hasAllResults : x_M := (yX6_hasAllResults, cX6_hasAllResults, 3, (some .boolean), wsX6_hasAllResults, 1, 21, RX6)
theorem mwX6_hasAllResults : x_mw mX6_hasAllResults := ⟨by decide +kernel, ⟨_, rfl⟩, rfl⟩
theorem iX6_hasAllResults_X6 : ∀ w ∈ wsX60, w ∈ wsX6_hasAllResults := fun _ h => List.mem_cons_of_mem _ (List.mem_append_left _ (List.mem_append_left _ (List.mem_append_right _ h)))
theorem fX6_hasAllResults_28 : x_fw mX6_hasAllResults 6 7 28 RX6 TX6 9 := ⟨rfl, by decide, rfl, by decide, iX6_hasAllResults_X6, by decide +kernel⟩
theorem iX6_hasAllResults_X3 : ∀ w ∈ wsX30, w ∈ wsX6_hasAllResults := fun _ h => List.mem_cons_of_mem _ (List.mem_append_left _ (List.mem_append_right _ h))
theorem fX6_hasAllResults_45 : x_fw mX6_hasAllResults 4 0 45 RX3 TX3 7 := ⟨rfl, by decide, rfl, by decide, iX6_hasAllResults_X3, by decide +kernel⟩
theorem fX6_hasAllResults_48 : x_fw mX6_hasAllResults 4 1 48 RX3 TX3 7 := ⟨rfl, by decide, rfl, by decide, iX6_hasAllResults_X3, by decide +kernel⟩
theorem sX6_hasAllResults_51 : x_vw mX6_hasAllResults mX2_resultOf 51 3 1 := ⟨RX2, TX2, 5, _, rfl, by decide, gX6_hasAllResults_X2_resultOf, rfl, by decide +kernel, by decide⟩
theorem fX6_hasAllResults_41 : x_fw mX6_hasAllResults 4 4 41 RX3 TX3 7 := ⟨rfl, by decide, rfl, by decide, iX6_hasAllResults_X3, by decide +kernel⟩
abbrev mX6_hasTest : x_M := (yX6_hasTest, cX6_hasTest, 2, (some .boolean), wsX6_hasTest, 0, 0, RX6)
theorem mwX6_hasTest : x_mw mX6_hasTest := ⟨by decide +kernel, ⟨_, rfl⟩, rfl⟩
theorem iX6_hasTest_X6 : ∀ w ∈ wsX60, w ∈ wsX6_hasTest := fun _ h => List.mem_cons_of_mem _ (List.mem_append_left _ (List.mem_append_right _ h))
theorem fX6_hasTest_28 : x_fw mX6_hasTest 6 7 28 RX6 TX6 9 := ⟨rfl, by decide, rfl, by decide, iX6_hasTest_X6, by decide +kernel⟩
theorem iX6_hasTest_X3 : ∀ w ∈ wsX30, w ∈ wsX6_hasTest := fun _ h => List.mem_cons_of_mem _ (List.mem_append_right _ h)
theorem fX6_hasTest_45 : x_fw mX6_hasTest 4 0 45 RX3 TX3 7 := ⟨rfl, by decide, rfl, by decide, iX6_hasTest_X3, by decide +kernel⟩
theorem fX6_hasTest_41 : x_fw mX6_hasTest 4 4 41 RX3 TX3 7 := ⟨rfl, by decide, rfl, by decide, iX6_hasTest_X3, by decide +kernel⟩
abbrev mX0_isPassedOver : x_M := (yX0_isPassedOver, cX0_isPassedOver, 4, (some .boolean), wsX0_isPassedOver, 2, 43, RX0)
theorem mwX0_isPassedOver : x_mw mX0_isPassedOver := ⟨by decide +kernel, ⟨_, rfl⟩, rfl⟩
theorem sX0_isPassedOver_79 : x_vw mX0_isPassedOver mX6_hasTest 79 6 0 := ⟨RX6, TX6, 9, _, rfl, by decide, gX0_isPassedOver_X6_hasTest, rfl, by decide +kernel, by decide⟩
theorem iX0_isPassedOver_X0 : ∀ w ∈ wsX00, w ∈ wsX0_isPassedOver := fun _ h => List.mem_cons_of_mem _ (List.mem_append_left _ (List.mem_append_left _ (List.mem_append_left _ (List.mem_append_right _ h))))
theorem fX0_isPassedOver_9 : x_fw mX0_isPassedOver 1 0 9 RX0 TX0 7 := ⟨rfl, by decide, rfl, by decide, iX0_isPassedOver_X0, by decide +kernel⟩
theorem iX0_isPassedOver_X6 : ∀ w ∈ wsX60, w ∈ wsX0_isPassedOver := fun _ h => List.mem_cons_of_mem _ (List.mem_append_left _ (List.mem_append_left _ (List.mem_append_right _ h)))
theorem fX0_isPassedOver_51 : x_fw mX0_isPassedOver 6 3 51 RX6 TX6 9 := ⟨rfl, by decide, rfl, by decide, iX0_isPassedOver_X6, by decide +kernel⟩
theorem fX0_isPassedOver_83 : x_fw mX0_isPassedOver 6 0 83 RX6 TX6 9 := ⟨rfl, by decide, rfl, by decide, iX0_isPassedOver_X6, by decide +kernel⟩
theorem sX0_isPassedOver_86 : x_vw mX0_isPassedOver mX6_hasAllResults 86 6 1 := ⟨RX6, TX6, 9, _, rfl, by decide, gX0_isPassedOver_X6_hasAllResults, rfl, by decide +kernel, by decide⟩
theorem fX0_isPassedOver_54 : x_fw mX0_isPassedOver 6 6 54 RX6 TX6 9 := ⟨rfl, by decide, rfl, by decide, iX0_isPassedOver_X6, by decide +kernel⟩
abbrev mX2_hasSpan : x_M := (yX2_hasSpan, cX2_hasSpan, 2, (some .boolean), wsX2_hasSpan, 0, 0, RX2)
theorem mwX2_hasSpan : x_mw mX2_hasSpan := ⟨by decide +kernel, ⟨_, rfl⟩, rfl⟩
theorem iX2_hasSpan_X2 : ∀ w ∈ wsX20, w ∈ wsX2_hasSpan := fun _ h => List.mem_cons_of_mem _ (List.mem_append_right _ h)
theorem fX2_hasSpan_22 : x_fw mX2_hasSpan 3 3 22 RX2 TX2 5 := ⟨rfl, by decide, rfl, by decide, iX2_hasSpan_X2, by decide +kernel⟩
abbrev mX2_lackOf : x_M := (yX2_lackOf, cX2_lackOf, 3, (some .int), wsX2_lackOf, 1, 21, RX2)
theorem mwX2_lackOf : x_mw mX2_lackOf := ⟨by decide +kernel, ⟨_, rfl⟩, rfl⟩
theorem iX2_lackOf_X3 : ∀ w ∈ wsX30, w ∈ wsX2_lackOf := fun _ h => List.mem_cons_of_mem _ (List.mem_append_left _ (List.mem_append_left _ (List.mem_append_right _ h)))
theorem fX2_lackOf_62 : x_fw mX2_lackOf 4 5 62 RX3 TX3 7 := ⟨rfl, by decide, rfl, by decide, iX2_lackOf_X3, by decide +kernel⟩
theorem iX2_lackOf_X7 : ∀ w ∈ wsX70, w ∈ wsX2_lackOf := fun _ h => List.mem_cons_of_mem _ (List.mem_append_left _ (List.mem_append_right _ h))
theorem fX2_lackOf_66 : x_fw mX2_lackOf 7 2 66 RX7 TX7 6 := ⟨rfl, by decide, rfl, by decide, iX2_lackOf_X7, by decide +kernel⟩
theorem sX2_lackOf_71 : x_vw mX2_lackOf mX2_hasSpan 71 3 1 := ⟨RX2, TX2, 5, _, rfl, by decide, gX2_lackOf_X2_hasSpan, rfl, by decide +kernel, by decide⟩
theorem fX2_lackOf_75 : x_fw mX2_lackOf 7 4 75 RX7 TX7 6 := ⟨rfl, by decide, rfl, by decide, iX2_lackOf_X7, by decide +kernel⟩
theorem fX2_lackOf_78 : x_fw mX2_lackOf 7 5 78 RX7 TX7 6 := ⟨rfl, by decide, rfl, by decide, iX2_lackOf_X7, by decide +kernel⟩
abbrev mX2_shareOf : x_M := (yX2_shareOf, cX2_shareOf, 7, (some .long), wsX2_shareOf, 1, 21, RX2)
theorem mwX2_shareOf : x_mw mX2_shareOf := ⟨by decide +kernel, ⟨_, rfl⟩, rfl⟩
theorem iX2_shareOf_X7 : ∀ w ∈ wsX70, w ∈ wsX2_shareOf := fun _ h => List.mem_cons_of_mem _ (List.mem_append_left _ (List.mem_append_right _ h))
theorem fX2_shareOf_66 : x_fw mX2_shareOf 7 2 66 RX7 TX7 6 := ⟨rfl, by decide, rfl, by decide, iX2_shareOf_X7, by decide +kernel⟩
theorem sX2_shareOf_71 : x_vw mX2_shareOf mX2_hasSpan 71 3 1 := ⟨RX2, TX2, 5, _, rfl, by decide, gX2_shareOf_X2_hasSpan, rfl, by decide +kernel, by decide⟩
theorem fX2_shareOf_75 : x_fw mX2_shareOf 7 4 75 RX7 TX7 6 := ⟨rfl, by decide, rfl, by decide, iX2_shareOf_X7, by decide +kernel⟩
theorem fX2_shareOf_85 : x_fw mX2_shareOf 7 0 85 RX7 TX7 6 := ⟨rfl, by decide, rfl, by decide, iX2_shareOf_X7, by decide +kernel⟩
theorem iX2_shareOf_X2 : ∀ w ∈ wsX20, w ∈ wsX2_shareOf := fun _ h => List.mem_cons_of_mem _ (List.mem_append_right _ h)
theorem fX2_shareOf_19 : x_fw mX2_shareOf 3 2 19 RX2 TX2 5 := ⟨rfl, by decide, rfl, by decide, iX2_shareOf_X2, by decide +kernel⟩
theorem fX2_shareOf_15 : x_fw mX2_shareOf 3 1 15 RX2 TX2 5 := ⟨rfl, by decide, rfl, by decide, iX2_shareOf_X2, by decide +kernel⟩
theorem fX2_shareOf_88 : x_fw mX2_shareOf 7 3 88 RX7 TX7 6 := ⟨rfl, by decide, rfl, by decide, iX2_shareOf_X7, by decide +kernel⟩
theorem fX2_shareOf_91 : x_fw mX2_shareOf 7 1 91 RX7 TX7 6 := ⟨rfl, by decide, rfl, by decide, iX2_shareOf_X7, by decide +kernel⟩
abbrev mX2_sumAt : x_M := (yX2_sumAt, cX2_sumAt, 7, (some .long), wsX2_sumAt, 2, 47, RX2)
theorem mwX2_sumAt : x_mw mX2_sumAt := ⟨by decide +kernel, ⟨_, rfl⟩, rfl⟩
theorem iX2_sumAt_X3 : ∀ w ∈ wsX30, w ∈ wsX2_sumAt := fun _ h => List.mem_cons_of_mem _ (List.mem_append_left _ (List.mem_append_left _ (List.mem_append_right _ h)))
theorem fX2_sumAt_62 : x_fw mX2_sumAt 4 5 62 RX3 TX3 7 := ⟨rfl, by decide, rfl, by decide, iX2_sumAt_X3, by decide +kernel⟩
theorem iX2_sumAt_X7 : ∀ w ∈ wsX70, w ∈ wsX2_sumAt := fun _ h => List.mem_cons_of_mem _ (List.mem_append_left _ (List.mem_append_right _ h))
theorem fX2_sumAt_66 : x_fw mX2_sumAt 7 2 66 RX7 TX7 6 := ⟨rfl, by decide, rfl, by decide, iX2_sumAt_X7, by decide +kernel⟩
theorem sX2_sumAt_81 : x_vw mX2_sumAt mX2_shareOf 81 3 2 := ⟨RX2, TX2, 5, _, rfl, by decide, gX2_sumAt_X2_shareOf, rfl, by decide +kernel, by decide⟩
theorem fX2_sumAt_78 : x_fw mX2_sumAt 7 5 78 RX7 TX7 6 := ⟨rfl, by decide, rfl, by decide, iX2_sumAt_X7, by decide +kernel⟩
abbrev mX2_sumVerdict : x_M := (yX2_sumVerdict, cX2_sumVerdict, 6, (some .int), wsX2_sumVerdict, 3, 73, RX2)
theorem mwX2_sumVerdict : x_mw mX2_sumVerdict := ⟨by decide +kernel, ⟨_, rfl⟩, rfl⟩
theorem sX2_sumVerdict_54 : x_vw mX2_sumVerdict mX2_lackOf 54 3 1 := ⟨RX2, TX2, 5, _, rfl, by decide, gX2_sumVerdict_X2_lackOf, rfl, by decide +kernel, by decide⟩
theorem iX2_sumVerdict_X2 : ∀ w ∈ wsX20, w ∈ wsX2_sumVerdict := fun _ h => List.mem_cons_of_mem _ (List.mem_append_left _ (List.mem_append_left _ (List.mem_append_right _ h)))
theorem fX2_sumVerdict_9 : x_fw mX2_sumVerdict 3 0 9 RX2 TX2 5 := ⟨rfl, by decide, rfl, by decide, iX2_sumVerdict_X2, by decide +kernel⟩
theorem iX2_sumVerdict_X3 : ∀ w ∈ wsX30, w ∈ wsX2_sumVerdict := fun _ h => List.mem_cons_of_mem _ (List.mem_append_left _ (List.mem_append_right _ h))
theorem fX2_sumVerdict_51 : x_fw mX2_sumVerdict 4 2 51 RX3 TX3 7 := ⟨rfl, by decide, rfl, by decide, iX2_sumVerdict_X3, by decide +kernel⟩
theorem sX2_sumVerdict_58 : x_vw mX2_sumVerdict mX2_sumAt 58 3 3 := ⟨RX2, TX2, 5, _, rfl, by decide, gX2_sumVerdict_X2_sumAt, rfl, by decide +kernel, by decide⟩
theorem fX2_sumVerdict_48 : x_fw mX2_sumVerdict 4 3 48 RX3 TX3 7 := ⟨rfl, by decide, rfl, by decide, iX2_sumVerdict_X3, by decide +kernel⟩
abbrev mX2_testVerdict : x_M := (yX2_testVerdict, cX2_testVerdict, 4, (some .int), wsX2_testVerdict, 1, 21, RX2)
theorem mwX2_testVerdict : x_mw mX2_testVerdict := ⟨by decide +kernel, ⟨_, rfl⟩, rfl⟩
theorem iX2_testVerdict_X3 : ∀ w ∈ wsX30, w ∈ wsX2_testVerdict := fun _ h => List.mem_cons_of_mem _ (List.mem_append_left _ (List.mem_append_right _ h))
theorem fX2_testVerdict_38 : x_fw mX2_testVerdict 4 1 38 RX3 TX3 7 := ⟨rfl, by decide, rfl, by decide, iX2_testVerdict_X3, by decide +kernel⟩
theorem sX2_testVerdict_44 : x_vw mX2_testVerdict mX2_resultOf 44 3 1 := ⟨RX2, TX2, 5, _, rfl, by decide, gX2_testVerdict_X2_resultOf, rfl, by decide +kernel, by decide⟩
theorem fX2_testVerdict_48 : x_fw mX2_testVerdict 4 3 48 RX3 TX3 7 := ⟨rfl, by decide, rfl, by decide, iX2_testVerdict_X3, by decide +kernel⟩
theorem fX2_testVerdict_51 : x_fw mX2_testVerdict 4 2 51 RX3 TX3 7 := ⟨rfl, by decide, rfl, by decide, iX2_testVerdict_X3, by decide +kernel⟩
abbrev mX0_itemVerdict : x_M := (yX0_itemVerdict, cX0_itemVerdict, 3, (some .int), wsX0_itemVerdict, 4, 98, RX0)
theorem mwX0_itemVerdict : x_mw mX0_itemVerdict := ⟨by decide +kernel, ⟨_, rfl⟩, rfl⟩
theorem iX0_itemVerdict_X3 : ∀ w ∈ wsX30, w ∈ wsX0_itemVerdict := fun _ h => List.mem_cons_of_mem _ (List.mem_append_left _ (List.mem_append_left _ (List.mem_append_left _ (List.mem_append_left _ (List.mem_append_right _ h)))))
theorem fX0_itemVerdict_101 : x_fw mX0_itemVerdict 4 0 101 RX3 TX3 7 := ⟨rfl, by decide, rfl, by decide, iX0_itemVerdict_X3, by decide +kernel⟩
theorem sX0_itemVerdict_104 : x_vw mX0_itemVerdict mX2_testVerdict 104 3 1 := ⟨RX2, TX2, 5, _, rfl, by decide, gX0_itemVerdict_X2_testVerdict, rfl, by decide +kernel, by decide⟩
theorem fX0_itemVerdict_110 : x_fw mX0_itemVerdict 4 1 110 RX3 TX3 7 := ⟨rfl, by decide, rfl, by decide, iX0_itemVerdict_X3, by decide +kernel⟩
theorem sX0_itemVerdict_113 : x_vw mX0_itemVerdict mX0_holdsVerdict 113 1 1 := ⟨RX0, TX0, 7, _, rfl, by decide, gX0_itemVerdict_X0_holdsVerdict, rfl, by decide +kernel, by decide⟩
theorem sX0_itemVerdict_117 : x_vw mX0_itemVerdict mX2_sumVerdict 117 3 1 := ⟨RX2, TX2, 5, _, rfl, by decide, gX0_itemVerdict_X2_sumVerdict, rfl, by decide +kernel, by decide⟩
abbrev mX0_leastNextDay : x_M := (yX0_leastNextDay, cX0_leastNextDay, 1, (some .int), wsX0_leastNextDay, 0, 0, RX0)
theorem mwX0_leastNextDay : x_mw mX0_leastNextDay := ⟨by decide +kernel, ⟨_, rfl⟩, rfl⟩
theorem iX0_leastNextDay_X0 : ∀ w ∈ wsX00, w ∈ wsX0_leastNextDay := fun _ h => List.mem_cons_of_mem _ (List.mem_append_left _ (List.mem_append_right _ h))
theorem fX0_leastNextDay_26 : x_fw mX0_leastNextDay 1 4 26 RX0 TX0 7 := ⟨rfl, by decide, rfl, by decide, iX0_leastNextDay_X0, by decide +kernel⟩
theorem iX0_leastNextDay_X1 : ∀ w ∈ wsX10, w ∈ wsX0_leastNextDay := fun _ h => List.mem_cons_of_mem _ (List.mem_append_right _ h)
theorem fX0_leastNextDay_35 : x_fw mX0_leastNextDay 2 0 35 RX1 TX1 2 := ⟨rfl, by decide, rfl, by decide, iX0_leastNextDay_X1, by decide +kernel⟩
abbrev mX0_openRule : x_M := (yX0_openRule, cX0_openRule, 4, (some (.object "HazardRules$Rule")), wsX0_openRule, 3, 66, RX0)
theorem mwX0_openRule : x_mw mX0_openRule := ⟨by decide +kernel, ⟨_, rfl⟩, rfl⟩
theorem iX0_openRule_X0 : ∀ w ∈ wsX00, w ∈ wsX0_openRule := fun _ h => List.mem_cons_of_mem _ (List.mem_append_left _ (List.mem_append_right _ h))
theorem fX0_openRule_9 : x_fw mX0_openRule 1 0 9 RX0 TX0 7 := ⟨rfl, by decide, rfl, by decide, iX0_openRule_X0, by decide +kernel⟩
theorem sX0_openRule_128 : x_vw mX0_openRule mX0_isOpen 128 1 1 := ⟨RX0, TX0, 7, _, rfl, by decide, gX0_openRule_X0_isOpen, rfl, by decide +kernel, by decide⟩
theorem iX0_openRule_X6 : ∀ w ∈ wsX60, w ∈ wsX0_openRule := fun _ h => List.mem_cons_of_mem _ (List.mem_append_right _ h)
theorem fX0_openRule_54 : x_fw mX0_openRule 6 6 54 RX6 TX6 9 := ⟨rfl, by decide, rfl, by decide, iX0_openRule_X6, by decide +kernel⟩
abbrev mX0_verdictOf : x_M := (yX0_verdictOf, cX0_verdictOf, 6, (some .int), wsX0_verdictOf, 5, 120, RX0)
theorem mwX0_verdictOf : x_mw mX0_verdictOf := ⟨by decide +kernel, ⟨_, rfl⟩, rfl⟩
theorem iX0_verdictOf_X6 : ∀ w ∈ wsX60, w ∈ wsX0_verdictOf := fun _ h => List.mem_cons_of_mem _ (List.mem_append_left _ (List.mem_append_left _ (List.mem_append_left _ (List.mem_append_left _ (List.mem_append_right _ h)))))
theorem fX0_verdictOf_90 : x_fw mX0_verdictOf 6 7 90 RX6 TX6 9 := ⟨rfl, by decide, rfl, by decide, iX0_verdictOf_X6, by decide +kernel⟩
theorem sX0_verdictOf_93 : x_vw mX0_verdictOf mX0_itemVerdict 93 1 2 := ⟨RX0, TX0, 7, _, rfl, by decide, gX0_verdictOf_X0_itemVerdict, rfl, by decide +kernel, by decide⟩
theorem iX0_verdictOf_X3 : ∀ w ∈ wsX30, w ∈ wsX0_verdictOf := fun _ h => List.mem_cons_of_mem _ (List.mem_append_left _ (List.mem_append_left _ (List.mem_append_left _ (List.mem_append_right _ h))))
theorem fX0_verdictOf_97 : x_fw mX0_verdictOf 4 4 97 RX3 TX3 7 := ⟨rfl, by decide, rfl, by decide, iX0_verdictOf_X3, by decide +kernel⟩
abbrev mX0_lookAt : x_M := (yX0_lookAt, cX0_lookAt, 5, (some .int), wsX0_lookAt, 6, 145, RX0)
theorem mwX0_lookAt : x_mw mX0_lookAt := ⟨by decide +kernel, ⟨_, rfl⟩, rfl⟩
theorem sX0_lookAt_56 : x_vw mX0_lookAt mX0_actingOn 56 1 1 := ⟨RX0, TX0, 7, _, rfl, by decide, gX0_lookAt_X0_actingOn, rfl, by decide +kernel, by decide⟩
theorem iX0_lookAt_X0 : ∀ w ∈ wsX00, w ∈ wsX0_lookAt := fun _ h => List.mem_cons_of_mem _ (List.mem_append_left _ (List.mem_append_left _ (List.mem_append_left _ (List.mem_append_left _ (List.mem_append_left _ (List.mem_append_right _ h))))))
theorem fX0_lookAt_32 : x_fw mX0_lookAt 1 6 32 RX0 TX0 7 := ⟨rfl, by decide, rfl, by decide, iX0_lookAt_X0, by decide +kernel⟩
theorem pX0_lookAt_32 : x_pw mX0_lookAt 1 6 32 RX0 TX0 7 (.int) := ⟨fX0_lookAt_32, ⟨tyX0, tyX0_ok⟩, nmX0, Or.inl rfl, by decide +kernel⟩
theorem fX0_lookAt_9 : x_fw mX0_lookAt 1 0 9 RX0 TX0 7 := ⟨rfl, by decide, rfl, by decide, iX0_lookAt_X0, by decide +kernel⟩
theorem iX0_lookAt_X6 : ∀ w ∈ wsX60, w ∈ wsX0_lookAt := fun _ h => List.mem_cons_of_mem _ (List.mem_append_left _ (List.mem_append_left _ (List.mem_append_left _ (List.mem_append_left _ (List.mem_append_right _ h)))))
theorem fX0_lookAt_60 : x_fw mX0_lookAt 6 5 60 RX6 TX6 9 := ⟨rfl, by decide, rfl, by decide, iX0_lookAt_X6, by decide +kernel⟩
theorem pX0_lookAt_60 : x_pw mX0_lookAt 6 5 60 RX6 TX6 9 (.int) := ⟨fX0_lookAt_60, ⟨tyX6, tyX6_ok⟩, nmX6, Or.inl rfl, by decide +kernel⟩
theorem fX0_lookAt_54 : x_fw mX0_lookAt 6 6 54 RX6 TX6 9 := ⟨rfl, by decide, rfl, by decide, iX0_lookAt_X6, by decide +kernel⟩
theorem fX0_lookAt_51 : x_fw mX0_lookAt 6 3 51 RX6 TX6 9 := ⟨rfl, by decide, rfl, by decide, iX0_lookAt_X6, by decide +kernel⟩
theorem sX0_lookAt_63 : x_vw mX0_lookAt mX0_isPassedOver 63 1 2 := ⟨RX0, TX0, 7, _, rfl, by decide, gX0_lookAt_X0_isPassedOver, rfl, by decide +kernel, by decide⟩
theorem sX0_lookAt_67 : x_vw mX0_lookAt mX0_verdictOf 67 1 2 := ⟨RX0, TX0, 7, _, rfl, by decide, gX0_lookAt_X0_verdictOf, rfl, by decide +kernel, by decide⟩
theorem sX0_lookAt_71 : x_vw mX0_lookAt mX0_openRule 71 1 1 := ⟨RX0, TX0, 7, _, rfl, by decide, gX0_lookAt_X0_openRule, rfl, by decide +kernel, by decide⟩
theorem sX0_lookAt_75 : x_vw mX0_lookAt mX0_heldCount 75 1 0 := ⟨RX0, TX0, 7, _, rfl, by decide, gX0_lookAt_X0_heldCount, rfl, by decide +kernel, by decide⟩
theorem fX0_lookAt_46 : x_fw mX0_lookAt 6 2 46 RX6 TX6 9 := ⟨rfl, by decide, rfl, by decide, iX0_lookAt_X6, by decide +kernel⟩
abbrev mX0_ruleAt : x_M := (yX0_ruleAt, cX0_ruleAt, 3, (some (.object "HazardRules$Rule")), wsX0_ruleAt, 0, 0, RX0)
theorem mwX0_ruleAt : x_mw mX0_ruleAt := ⟨by decide +kernel, ⟨_, rfl⟩, rfl⟩
theorem iX0_ruleAt_X0 : ∀ w ∈ wsX00, w ∈ wsX0_ruleAt := fun _ h => List.mem_cons_of_mem _ (List.mem_append_left _ (List.mem_append_right _ h))
theorem fX0_ruleAt_9 : x_fw mX0_ruleAt 1 0 9 RX0 TX0 7 := ⟨rfl, by decide, rfl, by decide, iX0_ruleAt_X0, by decide +kernel⟩
theorem iX0_ruleAt_X6 : ∀ w ∈ wsX60, w ∈ wsX0_ruleAt := fun _ h => List.mem_cons_of_mem _ (List.mem_append_right _ h)
theorem fX0_ruleAt_46 : x_fw mX0_ruleAt 6 2 46 RX6 TX6 9 := ⟨rfl, by decide, rfl, by decide, iX0_ruleAt_X6, by decide +kernel⟩
theorem fX0_ruleAt_54 : x_fw mX0_ruleAt 6 6 54 RX6 TX6 9 := ⟨rfl, by decide, rfl, by decide, iX0_ruleAt_X6, by decide +kernel⟩
abbrev mX2_forget : x_M := (yX2_forget, cX2_forget, 2, none, wsX2_forget, 1, 23, RX2)
theorem mwX2_forget : x_mw mX2_forget := ⟨by decide +kernel, ⟨_, rfl⟩, rfl⟩
theorem iX2_forget_X2 : ∀ w ∈ wsX20, w ∈ wsX2_forget := fun _ h => List.mem_cons_of_mem _ (List.mem_append_right _ h)
theorem fX2_forget_22 : x_fw mX2_forget 3 3 22 RX2 TX2 5 := ⟨rfl, by decide, rfl, by decide, iX2_forget_X2, by decide +kernel⟩
theorem fX2_forget_26 : x_fw mX2_forget 3 4 26 RX2 TX2 5 := ⟨rfl, by decide, rfl, by decide, iX2_forget_X2, by decide +kernel⟩
abbrev mX2_init : x_M := (yX2_init, cX2_init, 1, none, wsX2_init, 1, 23, RX2)
theorem mwX2_init : x_mw mX2_init := ⟨by decide +kernel, ⟨_, rfl⟩, rfl⟩
theorem sX2_init_3 : x_ow0 mX2_init 3 := ⟨by decide +kernel, by decide +kernel, by decide +kernel, by decide, by decide⟩
theorem iX2_init_X2 : ∀ w ∈ wsX20, w ∈ wsX2_init := fun _ h => List.mem_cons_of_mem _ (List.mem_append_right _ h)
theorem fX2_init_9 : x_fw mX2_init 3 0 9 RX2 TX2 5 := ⟨rfl, by decide, rfl, by decide, iX2_init_X2, by decide +kernel⟩
theorem pX2_init_9 : x_pw mX2_init 3 0 9 RX2 TX2 5 (.boolean) := ⟨fX2_init_9, ⟨tyX2, tyX2_ok⟩, nmX2, Or.inl rfl, by decide +kernel⟩
theorem aX2_init_long : Cond.arrayClass .long ∈ x_ws mX2_init := by decide +kernel
theorem fX2_init_15 : x_fw mX2_init 3 1 15 RX2 TX2 5 := ⟨rfl, by decide, rfl, by decide, iX2_init_X2, by decide +kernel⟩
theorem pX2_init_15 : x_pw mX2_init 3 1 15 RX2 TX2 5 (.array .long) := ⟨fX2_init_15, ⟨tyX2, tyX2_ok⟩, nmX2, Or.inr ⟨rfl, rfl, rfl⟩, by decide +kernel⟩
theorem fX2_init_19 : x_fw mX2_init 3 2 19 RX2 TX2 5 := ⟨rfl, by decide, rfl, by decide, iX2_init_X2, by decide +kernel⟩
theorem pX2_init_19 : x_pw mX2_init 3 2 19 RX2 TX2 5 (.array .long) := ⟨fX2_init_19, ⟨tyX2, tyX2_ok⟩, nmX2, Or.inr ⟨rfl, rfl, rfl⟩, by decide +kernel⟩
theorem aX2_init_boolean : Cond.arrayClass .boolean ∈ x_ws mX2_init := by decide +kernel
theorem fX2_init_22 : x_fw mX2_init 3 3 22 RX2 TX2 5 := ⟨rfl, by decide, rfl, by decide, iX2_init_X2, by decide +kernel⟩
theorem pX2_init_22 : x_pw mX2_init 3 3 22 RX2 TX2 5 (.array .boolean) := ⟨fX2_init_22, ⟨tyX2, tyX2_ok⟩, nmX2, Or.inr ⟨rfl, rfl, rfl⟩, by decide +kernel⟩
theorem aX2_init_int : Cond.arrayClass .int ∈ x_ws mX2_init := by decide +kernel
theorem fX2_init_26 : x_fw mX2_init 3 4 26 RX2 TX2 5 := ⟨rfl, by decide, rfl, by decide, iX2_init_X2, by decide +kernel⟩
theorem pX2_init_26 : x_pw mX2_init 3 4 26 RX2 TX2 5 (.array .int) := ⟨fX2_init_26, ⟨tyX2, tyX2_ok⟩, nmX2, Or.inr ⟨rfl, rfl, rfl⟩, by decide +kernel⟩
abbrev mX2_setResult : x_M := (yX2_setResult, cX2_setResult, 3, (some .boolean), wsX2_setResult, 0, 0, RX2)
theorem mwX2_setResult : x_mw mX2_setResult := ⟨by decide +kernel, ⟨_, rfl⟩, rfl⟩
theorem iX2_setResult_X2 : ∀ w ∈ wsX20, w ∈ wsX2_setResult := fun _ h => List.mem_cons_of_mem _ (List.mem_append_right _ h)
theorem fX2_setResult_26 : x_fw mX2_setResult 3 4 26 RX2 TX2 5 := ⟨rfl, by decide, rfl, by decide, iX2_setResult_X2, by decide +kernel⟩
abbrev mX2_setSpan : x_M := (yX2_setSpan, cX2_setSpan, 6, (some .boolean), wsX2_setSpan, 0, 0, RX2)
theorem mwX2_setSpan : x_mw mX2_setSpan := ⟨by decide +kernel, ⟨_, rfl⟩, rfl⟩
theorem kX2_setSpan_36 : Cond.constantLong (x_ow mX2_setSpan) 36 (1000000) ∈ x_ws mX2_setSpan := by decide +kernel
theorem iX2_setSpan_X2 : ∀ w ∈ wsX20, w ∈ wsX2_setSpan := fun _ h => List.mem_cons_of_mem _ (List.mem_append_right _ h)
theorem fX2_setSpan_15 : x_fw mX2_setSpan 3 1 15 RX2 TX2 5 := ⟨rfl, by decide, rfl, by decide, iX2_setSpan_X2, by decide +kernel⟩
theorem fX2_setSpan_19 : x_fw mX2_setSpan 3 2 19 RX2 TX2 5 := ⟨rfl, by decide, rfl, by decide, iX2_setSpan_X2, by decide +kernel⟩
theorem fX2_setSpan_22 : x_fw mX2_setSpan 3 3 22 RX2 TX2 5 := ⟨rfl, by decide, rfl, by decide, iX2_setSpan_X2, by decide +kernel⟩
abbrev mX3_addTerm : x_M := (yX3_addTerm, cX3_addTerm, 2, none, wsX3_addTerm, 0, 0, RX3)
theorem mwX3_addTerm : x_mw mX3_addTerm := ⟨by decide +kernel, ⟨_, rfl⟩, rfl⟩
theorem iX3_addTerm_X3 : ∀ w ∈ wsX30, w ∈ wsX3_addTerm := fun _ h => List.mem_cons_of_mem _ (List.mem_append_left _ (List.mem_append_right _ h))
theorem fX3_addTerm_27 : x_fw mX3_addTerm 4 6 27 RX3 TX3 7 := ⟨rfl, by decide, rfl, by decide, iX3_addTerm_X3, by decide +kernel⟩
theorem fX3_addTerm_23 : x_fw mX3_addTerm 4 5 23 RX3 TX3 7 := ⟨rfl, by decide, rfl, by decide, iX3_addTerm_X3, by decide +kernel⟩
theorem pX3_addTerm_23 : x_pw mX3_addTerm 4 5 23 RX3 TX3 7 (.object "HazardRules$Term") := ⟨fX3_addTerm_23, ⟨tyX3, tyX3_ok⟩, nmX3, Or.inl rfl, by decide +kernel⟩
theorem iX3_addTerm_X7 : ∀ w ∈ wsX70, w ∈ wsX3_addTerm := fun _ h => List.mem_cons_of_mem _ (List.mem_append_right _ h)
theorem fX3_addTerm_36 : x_fw mX3_addTerm 7 5 36 RX7 TX7 6 := ⟨rfl, by decide, rfl, by decide, iX3_addTerm_X7, by decide +kernel⟩
theorem pX3_addTerm_36 : x_pw mX3_addTerm 7 5 36 RX7 TX7 6 (.object "HazardRules$Term") := ⟨fX3_addTerm_36, ⟨tyX7, tyX7_ok⟩, nmX7, Or.inl rfl, by decide +kernel⟩
theorem pX3_addTerm_27 : x_pw mX3_addTerm 4 6 27 RX3 TX3 7 (.object "HazardRules$Term") := ⟨fX3_addTerm_27, ⟨tyX3, tyX3_ok⟩, nmX3, Or.inl rfl, by decide +kernel⟩
abbrev mX3_init : x_M := (yX3_init, cX3_init, 3, none, wsX3_init, 1, 20, RX3)
theorem mwX3_init : x_mw mX3_init := ⟨by decide +kernel, ⟨_, rfl⟩, rfl⟩
theorem sX3_init_3 : x_ow0 mX3_init 3 := ⟨by decide +kernel, by decide +kernel, by decide +kernel, by decide, by decide⟩
theorem iX3_init_X3 : ∀ w ∈ wsX30, w ∈ wsX3_init := fun _ h => List.mem_cons_of_mem _ (List.mem_append_right _ h)
theorem fX3_init_9 : x_fw mX3_init 4 2 9 RX3 TX3 7 := ⟨rfl, by decide, rfl, by decide, iX3_init_X3, by decide +kernel⟩
theorem pX3_init_9 : x_pw mX3_init 4 2 9 RX3 TX3 7 (.boolean) := ⟨fX3_init_9, ⟨tyX3, tyX3_ok⟩, nmX3, Or.inl rfl, by decide +kernel⟩
theorem fX3_init_15 : x_fw mX3_init 4 3 15 RX3 TX3 7 := ⟨rfl, by decide, rfl, by decide, iX3_init_X3, by decide +kernel⟩
theorem pX3_init_15 : x_pw mX3_init 4 3 15 RX3 TX3 7 (.int) := ⟨fX3_init_15, ⟨tyX3, tyX3_ok⟩, nmX3, Or.inl rfl, by decide +kernel⟩
theorem fX3_init_19 : x_fw mX3_init 4 4 19 RX3 TX3 7 := ⟨rfl, by decide, rfl, by decide, iX3_init_X3, by decide +kernel⟩
theorem pX3_init_19 : x_pw mX3_init 4 4 19 RX3 TX3 7 (.object "HazardRules$Item") := ⟨fX3_init_19, ⟨tyX3, tyX3_ok⟩, nmX3, Or.inl rfl, by decide +kernel⟩
theorem fX3_init_23 : x_fw mX3_init 4 5 23 RX3 TX3 7 := ⟨rfl, by decide, rfl, by decide, iX3_init_X3, by decide +kernel⟩
theorem pX3_init_23 : x_pw mX3_init 4 5 23 RX3 TX3 7 (.object "HazardRules$Term") := ⟨fX3_init_23, ⟨tyX3, tyX3_ok⟩, nmX3, Or.inl rfl, by decide +kernel⟩
theorem fX3_init_27 : x_fw mX3_init 4 6 27 RX3 TX3 7 := ⟨rfl, by decide, rfl, by decide, iX3_init_X3, by decide +kernel⟩
theorem pX3_init_27 : x_pw mX3_init 4 6 27 RX3 TX3 7 (.object "HazardRules$Term") := ⟨fX3_init_27, ⟨tyX3, tyX3_ok⟩, nmX3, Or.inl rfl, by decide +kernel⟩
theorem fX3_init_30 : x_fw mX3_init 4 0 30 RX3 TX3 7 := ⟨rfl, by decide, rfl, by decide, iX3_init_X3, by decide +kernel⟩
theorem pX3_init_30 : x_pw mX3_init 4 0 30 RX3 TX3 7 (.int) := ⟨fX3_init_30, ⟨tyX3, tyX3_ok⟩, nmX3, Or.inr ⟨rfl, rfl, rfl⟩, by decide +kernel⟩
theorem fX3_init_33 : x_fw mX3_init 4 1 33 RX3 TX3 7 := ⟨rfl, by decide, rfl, by decide, iX3_init_X3, by decide +kernel⟩
theorem pX3_init_33 : x_pw mX3_init 4 1 33 RX3 TX3 7 (.int) := ⟨fX3_init_33, ⟨tyX3, tyX3_ok⟩, nmX3, Or.inr ⟨rfl, rfl, rfl⟩, by decide +kernel⟩
abbrev mX5_init : x_M := (yX5_init, cX5_init, 2, none, wsX5_init, 2, 40, RX5)
theorem mwX5_init : x_mw mX5_init := ⟨by decide +kernel, ⟨_, rfl⟩, rfl⟩
theorem sX5_init_3 : x_ow0 mX5_init 3 := ⟨by decide +kernel, by decide +kernel, by decide +kernel, by decide, by decide⟩
theorem iX5_init_X0 : ∀ w ∈ wsX00, w ∈ wsX5_init := fun _ h => List.mem_cons_of_mem _ (List.mem_append_left _ (List.mem_append_right _ h))
theorem nX5_init_9 : x_nw mX5_init 1 9 RX0 TX0 7 := ⟨rfl, by decide, rfl, iX5_init_X0, by decide +kernel, by decide +kernel, by decide +kernel, tyX0, tyX0_ok, by decide +kernel⟩
theorem iX5_init_X5 : ∀ w ∈ wsX50, w ∈ wsX5_init := fun _ h => List.mem_cons_of_mem _ (List.mem_append_right _ h)
theorem fX5_init_12 : x_fw mX5_init 5 0 12 RX5 TX5 2 := ⟨rfl, by decide, rfl, by decide, iX5_init_X5, by decide +kernel⟩
theorem pX5_init_12 : x_pw mX5_init 5 0 12 RX5 TX5 2 (.object "HazardRules$Book") := ⟨fX5_init_12, ⟨tyX5, tyX5_ok⟩, nmX5, Or.inr ⟨rfl, rfl, rfl⟩, by decide +kernel⟩
theorem fX5_init_18 : x_fw mX5_init 5 1 18 RX5 TX5 2 := ⟨rfl, by decide, rfl, by decide, iX5_init_X5, by decide +kernel⟩
theorem pX5_init_18 : x_pw mX5_init 5 1 18 RX5 TX5 2 (.object "HazardRules$Words") := ⟨fX5_init_18, ⟨tyX5, tyX5_ok⟩, nmX5, Or.inr ⟨rfl, rfl, rfl⟩, by decide +kernel⟩
abbrev mX8_takeNumber : x_M := (yX8_takeNumber, cX8_takeNumber, 4, (some .int), wsX8_takeNumber, 0, 0, RX8)
theorem mwX8_takeNumber : x_mw mX8_takeNumber := ⟨by decide +kernel, ⟨_, rfl⟩, rfl⟩
theorem iX8_takeNumber_X8 : ∀ w ∈ wsX80, w ∈ wsX8_takeNumber := fun _ h => List.mem_cons_of_mem _ (List.mem_append_right _ h)
theorem fX8_takeNumber_19 : x_fw mX8_takeNumber 8 2 19 RX8 TX8 3 := ⟨rfl, by decide, rfl, by decide, iX8_takeNumber_X8, by decide +kernel⟩
theorem fX8_takeNumber_15 : x_fw mX8_takeNumber 8 1 15 RX8 TX8 3 := ⟨rfl, by decide, rfl, by decide, iX8_takeNumber_X8, by decide +kernel⟩
theorem fX8_takeNumber_9 : x_fw mX8_takeNumber 8 0 9 RX8 TX8 3 := ⟨rfl, by decide, rfl, by decide, iX8_takeNumber_X8, by decide +kernel⟩
theorem pX8_takeNumber_19 : x_pw mX8_takeNumber 8 2 19 RX8 TX8 3 (.int) := ⟨fX8_takeNumber_19, ⟨tyX8, tyX8_ok⟩, nmX8, Or.inl rfl, by decide +kernel⟩
abbrev mX5_readDay : x_M := (yX5_readDay, cX5_readDay, 2, (some .boolean), wsX5_readDay, 3, 63, RX5)
theorem mwX5_readDay : x_mw mX5_readDay := ⟨by decide +kernel, ⟨_, rfl⟩, rfl⟩
theorem iX5_readDay_X5 : ∀ w ∈ wsX50, w ∈ wsX5_readDay := fun _ h => List.mem_cons_of_mem _ (List.mem_append_left _ (List.mem_append_left _ (List.mem_append_left _ (List.mem_append_right _ h))))
theorem fX5_readDay_18 : x_fw mX5_readDay 5 1 18 RX5 TX5 2 := ⟨rfl, by decide, rfl, by decide, iX5_readDay_X5, by decide +kernel⟩
theorem fX5_readDay_12 : x_fw mX5_readDay 5 0 12 RX5 TX5 2 := ⟨rfl, by decide, rfl, by decide, iX5_readDay_X5, by decide +kernel⟩
theorem sX5_readDay_44 : x_vw mX5_readDay mX0_leastNextDay 44 1 0 := ⟨RX0, TX0, 7, _, rfl, by decide, gX5_readDay_X0_leastNextDay, rfl, by decide +kernel, by decide⟩
theorem kX5_readDay_48 : Cond.constant (x_ow mX5_readDay) 48 (999999999) ∈ x_ws mX5_readDay := by decide +kernel
theorem sX5_readDay_49 : x_vw mX5_readDay mX8_takeNumber 49 8 2 := ⟨RX8, TX8, 3, _, rfl, by decide, gX5_readDay_X8_takeNumber, rfl, by decide +kernel, by decide⟩
theorem sX5_readDay_53 : x_vw mX5_readDay mX0_addEdition 53 1 1 := ⟨RX0, TX0, 7, _, rfl, by decide, gX5_readDay_X0_addEdition, rfl, by decide +kernel, by decide⟩
abbrev mX7_init : x_M := (yX7_init, cX7_init, 4, none, wsX7_init, 1, 20, RX7)
theorem mwX7_init : x_mw mX7_init := ⟨by decide +kernel, ⟨_, rfl⟩, rfl⟩
theorem sX7_init_1 : x_ow0 mX7_init 1 := ⟨by decide +kernel, by decide +kernel, by decide +kernel, by decide, by decide⟩
theorem iX7_init_X7 : ∀ w ∈ wsX70, w ∈ wsX7_init := fun _ h => List.mem_cons_of_mem _ (List.mem_append_right _ h)
theorem fX7_init_7 : x_fw mX7_init 7 3 7 RX7 TX7 6 := ⟨rfl, by decide, rfl, by decide, iX7_init_X7, by decide +kernel⟩
theorem pX7_init_7 : x_pw mX7_init 7 3 7 RX7 TX7 6 (.int) := ⟨fX7_init_7, ⟨tyX7, tyX7_ok⟩, nmX7, Or.inl rfl, by decide +kernel⟩
theorem fX7_init_13 : x_fw mX7_init 7 4 13 RX7 TX7 6 := ⟨rfl, by decide, rfl, by decide, iX7_init_X7, by decide +kernel⟩
theorem pX7_init_13 : x_pw mX7_init 7 4 13 RX7 TX7 6 (.int) := ⟨fX7_init_13, ⟨tyX7, tyX7_ok⟩, nmX7, Or.inl rfl, by decide +kernel⟩
theorem fX7_init_16 : x_fw mX7_init 7 5 16 RX7 TX7 6 := ⟨rfl, by decide, rfl, by decide, iX7_init_X7, by decide +kernel⟩
theorem pX7_init_16 : x_pw mX7_init 7 5 16 RX7 TX7 6 (.object "HazardRules$Term") := ⟨fX7_init_16, ⟨tyX7, tyX7_ok⟩, nmX7, Or.inl rfl, by decide +kernel⟩
theorem fX7_init_20 : x_fw mX7_init 7 0 20 RX7 TX7 6 := ⟨rfl, by decide, rfl, by decide, iX7_init_X7, by decide +kernel⟩
theorem pX7_init_20 : x_pw mX7_init 7 0 20 RX7 TX7 6 (.boolean) := ⟨fX7_init_20, ⟨tyX7, tyX7_ok⟩, nmX7, Or.inr ⟨rfl, rfl, rfl⟩, by decide +kernel⟩
theorem fX7_init_24 : x_fw mX7_init 7 1 24 RX7 TX7 6 := ⟨rfl, by decide, rfl, by decide, iX7_init_X7, by decide +kernel⟩
theorem pX7_init_24 : x_pw mX7_init 7 1 24 RX7 TX7 6 (.int) := ⟨fX7_init_24, ⟨tyX7, tyX7_ok⟩, nmX7, Or.inr ⟨rfl, rfl, rfl⟩, by decide +kernel⟩
theorem fX7_init_27 : x_fw mX7_init 7 2 27 RX7 TX7 6 := ⟨rfl, by decide, rfl, by decide, iX7_init_X7, by decide +kernel⟩
theorem pX7_init_27 : x_pw mX7_init 7 2 27 RX7 TX7 6 (.int) := ⟨fX7_init_27, ⟨tyX7, tyX7_ok⟩, nmX7, Or.inr ⟨rfl, rfl, rfl⟩, by decide +kernel⟩
abbrev mX8_take : x_M := (yX8_take, cX8_take, 2, (some .boolean), wsX8_take, 0, 0, RX8)
theorem mwX8_take : x_mw mX8_take := ⟨by decide +kernel, ⟨_, rfl⟩, rfl⟩
theorem iX8_take_X8 : ∀ w ∈ wsX80, w ∈ wsX8_take := fun _ h => List.mem_cons_of_mem _ (List.mem_append_right _ h)
theorem fX8_take_19 : x_fw mX8_take 8 2 19 RX8 TX8 3 := ⟨rfl, by decide, rfl, by decide, iX8_take_X8, by decide +kernel⟩
theorem fX8_take_15 : x_fw mX8_take 8 1 15 RX8 TX8 3 := ⟨rfl, by decide, rfl, by decide, iX8_take_X8, by decide +kernel⟩
theorem fX8_take_9 : x_fw mX8_take 8 0 9 RX8 TX8 3 := ⟨rfl, by decide, rfl, by decide, iX8_take_X8, by decide +kernel⟩
theorem pX8_take_19 : x_pw mX8_take 8 2 19 RX8 TX8 3 (.int) := ⟨fX8_take_19, ⟨tyX8, tyX8_ok⟩, nmX8, Or.inl rfl, by decide +kernel⟩
abbrev mX5_readTerm : x_M := (yX5_readTerm, cX5_readTerm, 5, (some (.object "HazardRules$Term")), wsX5_readTerm, 2, 43, RX5)
theorem mwX5_readTerm : x_mw mX5_readTerm := ⟨by decide +kernel, ⟨_, rfl⟩, rfl⟩
theorem iX5_readTerm_X5 : ∀ w ∈ wsX50, w ∈ wsX5_readTerm := fun _ h => List.mem_cons_of_mem _ (List.mem_append_left _ (List.mem_append_left _ (List.mem_append_right _ h)))
theorem fX5_readTerm_18 : x_fw mX5_readTerm 5 1 18 RX5 TX5 2 := ⟨rfl, by decide, rfl, by decide, iX5_readTerm_X5, by decide +kernel⟩
theorem sX5_readTerm_34 : x_vw mX5_readTerm mX8_take 34 8 1 := ⟨RX8, TX8, 3, _, rfl, by decide, gX5_readTerm_X8_take, rfl, by decide +kernel, by decide⟩
theorem sX5_readTerm_49 : x_vw mX5_readTerm mX8_takeNumber 49 8 2 := ⟨RX8, TX8, 3, _, rfl, by decide, gX5_readTerm_X8_takeNumber, rfl, by decide +kernel, by decide⟩
theorem iX5_readTerm_X7 : ∀ w ∈ wsX70, w ∈ wsX5_readTerm := fun _ h => List.mem_cons_of_mem _ (List.mem_append_left _ (List.mem_append_right _ h))
theorem nX5_readTerm_150 : x_nw mX5_readTerm 7 150 RX7 TX7 6 := ⟨rfl, by decide, rfl, iX5_readTerm_X7, by decide +kernel, by decide +kernel, by decide +kernel, tyX7, tyX7_ok, by decide +kernel⟩
theorem sX5_readTerm_152 : x_iw mX5_readTerm mX7_init 152 3 := ⟨_, gX5_readTerm_X7_init, rfl, by decide +kernel, by decide +kernel, by decide +kernel, rfl, by decide +kernel, by decide⟩
theorem kX5_readTerm_48 : Cond.constant (x_ow mX5_readTerm) 48 (999999999) ∈ x_ws mX5_readTerm := by decide +kernel
theorem fX5_readTerm_158 : x_fw mX5_readTerm 7 3 158 RX7 TX7 6 := ⟨rfl, by decide, rfl, by decide, iX5_readTerm_X7, by decide +kernel⟩
theorem pX5_readTerm_158 : x_pw mX5_readTerm 7 3 158 RX7 TX7 6 (.int) := ⟨fX5_readTerm_158, ⟨tyX7, tyX7_ok⟩, nmX7, Or.inl rfl, by decide +kernel⟩
theorem fX5_readTerm_164 : x_fw mX5_readTerm 7 4 164 RX7 TX7 6 := ⟨rfl, by decide, rfl, by decide, iX5_readTerm_X7, by decide +kernel⟩
theorem pX5_readTerm_164 : x_pw mX5_readTerm 7 4 164 RX7 TX7 6 (.int) := ⟨fX5_readTerm_164, ⟨tyX7, tyX7_ok⟩, nmX7, Or.inl rfl, by decide +kernel⟩
abbrev mX5_readSum : x_M := (yX5_readSum, cX5_readSum, 4, (some (.object "HazardRules$Item")), wsX5_readSum, 3, 67, RX5)
theorem mwX5_readSum : x_mw mX5_readSum := ⟨by decide +kernel, ⟨_, rfl⟩, rfl⟩
theorem iX5_readSum_X3 : ∀ w ∈ wsX30, w ∈ wsX5_readSum := fun _ h => List.mem_cons_of_mem _ (List.mem_append_left _ (List.mem_append_left _ (List.mem_append_left _ (List.mem_append_right _ h))))
theorem nX5_readSum_105 : x_nw mX5_readSum 4 105 RX3 TX3 7 := ⟨rfl, by decide, rfl, iX5_readSum_X3, by decide +kernel, by decide +kernel, by decide +kernel, tyX3, tyX3_ok, by decide +kernel⟩
theorem sX5_readSum_107 : x_iw mX5_readSum mX3_init 107 2 := ⟨_, gX5_readSum_X3_init, rfl, by decide +kernel, by decide +kernel, by decide +kernel, rfl, by decide +kernel, by decide⟩
theorem sX5_readSum_127 : x_vw mX5_readSum mX5_readTerm 127 5 0 := ⟨RX5, TX5, 2, _, rfl, by decide, gX5_readSum_X5_readTerm, rfl, by decide +kernel, by decide⟩
theorem sX5_readSum_131 : x_vw mX5_readSum mX3_addTerm 131 4 1 := ⟨RX3, TX3, 7, _, rfl, by decide, gX5_readSum_X3_addTerm, rfl, by decide +kernel, by decide⟩
theorem iX5_readSum_X5 : ∀ w ∈ wsX50, w ∈ wsX5_readSum := fun _ h => List.mem_cons_of_mem _ (List.mem_append_left _ (List.mem_append_left _ (List.mem_append_right _ h)))
theorem fX5_readSum_18 : x_fw mX5_readSum 5 1 18 RX5 TX5 2 := ⟨rfl, by decide, rfl, by decide, iX5_readSum_X5, by decide +kernel⟩
theorem sX5_readSum_34 : x_vw mX5_readSum mX8_take 34 8 1 := ⟨RX8, TX8, 3, _, rfl, by decide, gX5_readSum_X8_take, rfl, by decide +kernel, by decide⟩
theorem fX5_readSum_117 : x_fw mX5_readSum 4 2 117 RX3 TX3 7 := ⟨rfl, by decide, rfl, by decide, iX5_readSum_X3, by decide +kernel⟩
theorem pX5_readSum_117 : x_pw mX5_readSum 4 2 117 RX3 TX3 7 (.boolean) := ⟨fX5_readSum_117, ⟨tyX3, tyX3_ok⟩, nmX3, Or.inl rfl, by decide +kernel⟩
theorem kX5_readSum_48 : Cond.constant (x_ow mX5_readSum) 48 (999999999) ∈ x_ws mX5_readSum := by decide +kernel
theorem sX5_readSum_49 : x_vw mX5_readSum mX8_takeNumber 49 8 2 := ⟨RX8, TX8, 3, _, rfl, by decide, gX5_readSum_X8_takeNumber, rfl, by decide +kernel, by decide⟩
theorem fX5_readSum_124 : x_fw mX5_readSum 4 3 124 RX3 TX3 7 := ⟨rfl, by decide, rfl, by decide, iX5_readSum_X3, by decide +kernel⟩
theorem pX5_readSum_124 : x_pw mX5_readSum 4 3 124 RX3 TX3 7 (.int) := ⟨fX5_readSum_124, ⟨tyX3, tyX3_ok⟩, nmX3, Or.inl rfl, by decide +kernel⟩
abbrev mX5_readTest : x_M := (yX5_readTest, cX5_readTest, 3, (some (.object "HazardRules$Item")), wsX5_readTest, 2, 42, RX5)
theorem mwX5_readTest : x_mw mX5_readTest := ⟨by decide +kernel, ⟨_, rfl⟩, rfl⟩
theorem iX5_readTest_X5 : ∀ w ∈ wsX50, w ∈ wsX5_readTest := fun _ h => List.mem_cons_of_mem _ (List.mem_append_left _ (List.mem_append_left _ (List.mem_append_right _ h)))
theorem fX5_readTest_18 : x_fw mX5_readTest 5 1 18 RX5 TX5 2 := ⟨rfl, by decide, rfl, by decide, iX5_readTest_X5, by decide +kernel⟩
theorem sX5_readTest_49 : x_vw mX5_readTest mX8_takeNumber 49 8 2 := ⟨RX8, TX8, 3, _, rfl, by decide, gX5_readTest_X8_takeNumber, rfl, by decide +kernel, by decide⟩
theorem iX5_readTest_X3 : ∀ w ∈ wsX30, w ∈ wsX5_readTest := fun _ h => List.mem_cons_of_mem _ (List.mem_append_left _ (List.mem_append_right _ h))
theorem nX5_readTest_105 : x_nw mX5_readTest 4 105 RX3 TX3 7 := ⟨rfl, by decide, rfl, iX5_readTest_X3, by decide +kernel, by decide +kernel, by decide +kernel, tyX3, tyX3_ok, by decide +kernel⟩
theorem sX5_readTest_107 : x_iw mX5_readTest mX3_init 107 2 := ⟨_, gX5_readTest_X3_init, rfl, by decide +kernel, by decide +kernel, by decide +kernel, rfl, by decide +kernel, by decide⟩
theorem sX5_readTest_34 : x_vw mX5_readTest mX8_take 34 8 1 := ⟨RX8, TX8, 3, _, rfl, by decide, gX5_readTest_X8_take, rfl, by decide +kernel, by decide⟩
theorem fX5_readTest_117 : x_fw mX5_readTest 4 2 117 RX3 TX3 7 := ⟨rfl, by decide, rfl, by decide, iX5_readTest_X3, by decide +kernel⟩
theorem pX5_readTest_117 : x_pw mX5_readTest 4 2 117 RX3 TX3 7 (.boolean) := ⟨fX5_readTest_117, ⟨tyX3, tyX3_ok⟩, nmX3, Or.inl rfl, by decide +kernel⟩
theorem fX5_readTest_124 : x_fw mX5_readTest 4 3 124 RX3 TX3 7 := ⟨rfl, by decide, rfl, by decide, iX5_readTest_X3, by decide +kernel⟩
theorem pX5_readTest_124 : x_pw mX5_readTest 4 3 124 RX3 TX3 7 (.int) := ⟨fX5_readTest_124, ⟨tyX3, tyX3_ok⟩, nmX3, Or.inl rfl, by decide +kernel⟩
abbrev mX5_readItem : x_M := (yX5_readItem, cX5_readItem, 2, (some (.object "HazardRules$Item")), wsX5_readItem, 4, 90, RX5)
theorem mwX5_readItem : x_mw mX5_readItem := ⟨by decide +kernel, ⟨_, rfl⟩, rfl⟩
theorem iX5_readItem_X5 : ∀ w ∈ wsX50, w ∈ wsX5_readItem := fun _ h => List.mem_cons_of_mem _ (List.mem_append_left _ (List.mem_append_left _ (List.mem_append_left _ (List.mem_append_right _ h))))
theorem fX5_readItem_18 : x_fw mX5_readItem 5 1 18 RX5 TX5 2 := ⟨rfl, by decide, rfl, by decide, iX5_readItem_X5, by decide +kernel⟩
theorem sX5_readItem_34 : x_vw mX5_readItem mX8_take 34 8 1 := ⟨RX8, TX8, 3, _, rfl, by decide, gX5_readItem_X8_take, rfl, by decide +kernel, by decide⟩
theorem sX5_readItem_99 : x_vw mX5_readItem mX5_readTest 99 5 0 := ⟨RX5, TX5, 2, _, rfl, by decide, gX5_readItem_X5_readTest, rfl, by decide +kernel, by decide⟩
theorem sX5_readItem_49 : x_vw mX5_readItem mX8_takeNumber 49 8 2 := ⟨RX8, TX8, 3, _, rfl, by decide, gX5_readItem_X8_takeNumber, rfl, by decide +kernel, by decide⟩
theorem iX5_readItem_X3 : ∀ w ∈ wsX30, w ∈ wsX5_readItem := fun _ h => List.mem_cons_of_mem _ (List.mem_append_left _ (List.mem_append_left _ (List.mem_append_right _ h)))
theorem nX5_readItem_105 : x_nw mX5_readItem 4 105 RX3 TX3 7 := ⟨rfl, by decide, rfl, iX5_readItem_X3, by decide +kernel, by decide +kernel, by decide +kernel, tyX3, tyX3_ok, by decide +kernel⟩
theorem sX5_readItem_107 : x_iw mX5_readItem mX3_init 107 2 := ⟨_, gX5_readItem_X3_init, rfl, by decide +kernel, by decide +kernel, by decide +kernel, rfl, by decide +kernel, by decide⟩
theorem sX5_readItem_111 : x_vw mX5_readItem mX5_readSum 111 5 0 := ⟨RX5, TX5, 2, _, rfl, by decide, gX5_readItem_X5_readSum, rfl, by decide +kernel, by decide⟩
abbrev mX6_addItem : x_M := (yX6_addItem, cX6_addItem, 2, none, wsX6_addItem, 0, 0, RX6)
theorem mwX6_addItem : x_mw mX6_addItem := ⟨by decide +kernel, ⟨_, rfl⟩, rfl⟩
theorem iX6_addItem_X6 : ∀ w ∈ wsX60, w ∈ wsX6_addItem := fun _ h => List.mem_cons_of_mem _ (List.mem_append_left _ (List.mem_append_right _ h))
theorem fX6_addItem_32 : x_fw mX6_addItem 6 8 32 RX6 TX6 9 := ⟨rfl, by decide, rfl, by decide, iX6_addItem_X6, by decide +kernel⟩
theorem fX6_addItem_28 : x_fw mX6_addItem 6 7 28 RX6 TX6 9 := ⟨rfl, by decide, rfl, by decide, iX6_addItem_X6, by decide +kernel⟩
theorem pX6_addItem_28 : x_pw mX6_addItem 6 7 28 RX6 TX6 9 (.object "HazardRules$Item") := ⟨fX6_addItem_28, ⟨tyX6, tyX6_ok⟩, nmX6, Or.inl rfl, by decide +kernel⟩
theorem iX6_addItem_X3 : ∀ w ∈ wsX30, w ∈ wsX6_addItem := fun _ h => List.mem_cons_of_mem _ (List.mem_append_right _ h)
theorem fX6_addItem_41 : x_fw mX6_addItem 4 4 41 RX3 TX3 7 := ⟨rfl, by decide, rfl, by decide, iX6_addItem_X3, by decide +kernel⟩
theorem pX6_addItem_41 : x_pw mX6_addItem 4 4 41 RX3 TX3 7 (.object "HazardRules$Item") := ⟨fX6_addItem_41, ⟨tyX3, tyX3_ok⟩, nmX3, Or.inl rfl, by decide +kernel⟩
theorem pX6_addItem_32 : x_pw mX6_addItem 6 8 32 RX6 TX6 9 (.object "HazardRules$Item") := ⟨fX6_addItem_32, ⟨tyX6, tyX6_ok⟩, nmX6, Or.inl rfl, by decide +kernel⟩
theorem fX6_addItem_18 : x_fw mX6_addItem 6 4 18 RX6 TX6 9 := ⟨rfl, by decide, rfl, by decide, iX6_addItem_X6, by decide +kernel⟩
theorem pX6_addItem_18 : x_pw mX6_addItem 6 4 18 RX6 TX6 9 (.int) := ⟨fX6_addItem_18, ⟨tyX6, tyX6_ok⟩, nmX6, Or.inl rfl, by decide +kernel⟩
abbrev mX6_init : x_M := (yX6_init, cX6_init, 3, none, wsX6_init, 1, 20, RX6)
theorem mwX6_init : x_mw mX6_init := ⟨by decide +kernel, ⟨_, rfl⟩, rfl⟩
theorem sX6_init_3 : x_ow0 mX6_init 3 := ⟨by decide +kernel, by decide +kernel, by decide +kernel, by decide, by decide⟩
theorem iX6_init_X6 : ∀ w ∈ wsX60, w ∈ wsX6_init := fun _ h => List.mem_cons_of_mem _ (List.mem_append_right _ h)
theorem fX6_init_9 : x_fw mX6_init 6 2 9 RX6 TX6 9 := ⟨rfl, by decide, rfl, by decide, iX6_init_X6, by decide +kernel⟩
theorem pX6_init_9 : x_pw mX6_init 6 2 9 RX6 TX6 9 (.int) := ⟨fX6_init_9, ⟨tyX6, tyX6_ok⟩, nmX6, Or.inl rfl, by decide +kernel⟩
theorem fX6_init_15 : x_fw mX6_init 6 3 15 RX6 TX6 9 := ⟨rfl, by decide, rfl, by decide, iX6_init_X6, by decide +kernel⟩
theorem pX6_init_15 : x_pw mX6_init 6 3 15 RX6 TX6 9 (.int) := ⟨fX6_init_15, ⟨tyX6, tyX6_ok⟩, nmX6, Or.inl rfl, by decide +kernel⟩
theorem fX6_init_18 : x_fw mX6_init 6 4 18 RX6 TX6 9 := ⟨rfl, by decide, rfl, by decide, iX6_init_X6, by decide +kernel⟩
theorem pX6_init_18 : x_pw mX6_init 6 4 18 RX6 TX6 9 (.int) := ⟨fX6_init_18, ⟨tyX6, tyX6_ok⟩, nmX6, Or.inl rfl, by decide +kernel⟩
theorem fX6_init_21 : x_fw mX6_init 6 5 21 RX6 TX6 9 := ⟨rfl, by decide, rfl, by decide, iX6_init_X6, by decide +kernel⟩
theorem pX6_init_21 : x_pw mX6_init 6 5 21 RX6 TX6 9 (.int) := ⟨fX6_init_21, ⟨tyX6, tyX6_ok⟩, nmX6, Or.inl rfl, by decide +kernel⟩
theorem fX6_init_24 : x_fw mX6_init 6 6 24 RX6 TX6 9 := ⟨rfl, by decide, rfl, by decide, iX6_init_X6, by decide +kernel⟩
theorem pX6_init_24 : x_pw mX6_init 6 6 24 RX6 TX6 9 (.object "HazardRules$Rule") := ⟨fX6_init_24, ⟨tyX6, tyX6_ok⟩, nmX6, Or.inl rfl, by decide +kernel⟩
theorem fX6_init_28 : x_fw mX6_init 6 7 28 RX6 TX6 9 := ⟨rfl, by decide, rfl, by decide, iX6_init_X6, by decide +kernel⟩
theorem pX6_init_28 : x_pw mX6_init 6 7 28 RX6 TX6 9 (.object "HazardRules$Item") := ⟨fX6_init_28, ⟨tyX6, tyX6_ok⟩, nmX6, Or.inl rfl, by decide +kernel⟩
theorem fX6_init_32 : x_fw mX6_init 6 8 32 RX6 TX6 9 := ⟨rfl, by decide, rfl, by decide, iX6_init_X6, by decide +kernel⟩
theorem pX6_init_32 : x_pw mX6_init 6 8 32 RX6 TX6 9 (.object "HazardRules$Item") := ⟨fX6_init_32, ⟨tyX6, tyX6_ok⟩, nmX6, Or.inl rfl, by decide +kernel⟩
theorem fX6_init_35 : x_fw mX6_init 6 0 35 RX6 TX6 9 := ⟨rfl, by decide, rfl, by decide, iX6_init_X6, by decide +kernel⟩
theorem pX6_init_35 : x_pw mX6_init 6 0 35 RX6 TX6 9 (.int) := ⟨fX6_init_35, ⟨tyX6, tyX6_ok⟩, nmX6, Or.inr ⟨rfl, rfl, rfl⟩, by decide +kernel⟩
theorem fX6_init_38 : x_fw mX6_init 6 1 38 RX6 TX6 9 := ⟨rfl, by decide, rfl, by decide, iX6_init_X6, by decide +kernel⟩
theorem pX6_init_38 : x_pw mX6_init 6 1 38 RX6 TX6 9 (.int) := ⟨fX6_init_38, ⟨tyX6, tyX6_ok⟩, nmX6, Or.inr ⟨rfl, rfl, rfl⟩, by decide +kernel⟩
abbrev mX5_readRule : x_M := (yX5_readRule, cX5_readRule, 6, (some .boolean), wsX5_readRule, 5, 111, RX5)
theorem mwX5_readRule : x_mw mX5_readRule := ⟨by decide +kernel, ⟨_, rfl⟩, rfl⟩
theorem iX5_readRule_X5 : ∀ w ∈ wsX50, w ∈ wsX5_readRule := fun _ h => List.mem_cons_of_mem _ (List.mem_append_left _ (List.mem_append_left _ (List.mem_append_left _ (List.mem_append_left _ (List.mem_append_left _ (List.mem_append_right _ h))))))
theorem fX5_readRule_18 : x_fw mX5_readRule 5 1 18 RX5 TX5 2 := ⟨rfl, by decide, rfl, by decide, iX5_readRule_X5, by decide +kernel⟩
theorem iX5_readRule_X8 : ∀ w ∈ wsX80, w ∈ wsX5_readRule := fun _ h => List.mem_cons_of_mem _ (List.mem_append_left _ (List.mem_append_left _ (List.mem_append_left _ (List.mem_append_left _ (List.mem_append_right _ h)))))
theorem fX5_readRule_57 : x_fw mX5_readRule 8 2 57 RX8 TX8 3 := ⟨rfl, by decide, rfl, by decide, iX5_readRule_X8, by decide +kernel⟩
theorem fX5_readRule_12 : x_fw mX5_readRule 5 0 12 RX5 TX5 2 := ⟨rfl, by decide, rfl, by decide, iX5_readRule_X5, by decide +kernel⟩
theorem iX5_readRule_X0 : ∀ w ∈ wsX00, w ∈ wsX5_readRule := fun _ h => List.mem_cons_of_mem _ (List.mem_append_left _ (List.mem_append_left _ (List.mem_append_left _ (List.mem_append_right _ h))))
theorem fX5_readRule_61 : x_fw mX5_readRule 1 5 61 RX0 TX0 7 := ⟨rfl, by decide, rfl, by decide, iX5_readRule_X0, by decide +kernel⟩
theorem fX5_readRule_64 : x_fw mX5_readRule 1 2 64 RX0 TX0 7 := ⟨rfl, by decide, rfl, by decide, iX5_readRule_X0, by decide +kernel⟩
theorem sX5_readRule_34 : x_vw mX5_readRule mX8_take 34 8 1 := ⟨RX8, TX8, 3, _, rfl, by decide, gX5_readRule_X8_take, rfl, by decide +kernel, by decide⟩
theorem sX5_readRule_49 : x_vw mX5_readRule mX8_takeNumber 49 8 2 := ⟨RX8, TX8, 3, _, rfl, by decide, gX5_readRule_X8_takeNumber, rfl, by decide +kernel, by decide⟩
theorem iX5_readRule_X6 : ∀ w ∈ wsX60, w ∈ wsX5_readRule := fun _ h => List.mem_cons_of_mem _ (List.mem_append_left _ (List.mem_append_left _ (List.mem_append_right _ h)))
theorem nX5_readRule_73 : x_nw mX5_readRule 6 73 RX6 TX6 9 := ⟨rfl, by decide, rfl, iX5_readRule_X6, by decide +kernel, by decide +kernel, by decide +kernel, tyX6, tyX6_ok, by decide +kernel⟩
theorem sX5_readRule_75 : x_iw mX5_readRule mX6_init 75 2 := ⟨_, gX5_readRule_X6_init, rfl, by decide +kernel, by decide +kernel, by decide +kernel, rfl, by decide +kernel, by decide⟩
theorem sX5_readRule_78 : x_vw mX5_readRule mX5_readItem 78 5 0 := ⟨RX5, TX5, 2, _, rfl, by decide, gX5_readRule_X5_readItem, rfl, by decide +kernel, by decide⟩
theorem sX5_readRule_82 : x_vw mX5_readRule mX6_addItem 82 6 1 := ⟨RX6, TX6, 9, _, rfl, by decide, gX5_readRule_X6_addItem, rfl, by decide +kernel, by decide⟩
theorem sX5_readRule_89 : x_vw mX5_readRule mX0_addRule 89 1 1 := ⟨RX0, TX0, 7, _, rfl, by decide, gX5_readRule_X0_addRule, rfl, by decide +kernel, by decide⟩
abbrev mX8_ended : x_M := (yX8_ended, cX8_ended, 1, (some .boolean), wsX8_ended, 0, 0, RX8)
theorem mwX8_ended : x_mw mX8_ended := ⟨by decide +kernel, ⟨_, rfl⟩, rfl⟩
theorem iX8_ended_X8 : ∀ w ∈ wsX80, w ∈ wsX8_ended := fun _ h => List.mem_cons_of_mem _ (List.mem_append_right _ h)
theorem fX8_ended_19 : x_fw mX8_ended 8 2 19 RX8 TX8 3 := ⟨rfl, by decide, rfl, by decide, iX8_ended_X8, by decide +kernel⟩
theorem fX8_ended_15 : x_fw mX8_ended 8 1 15 RX8 TX8 3 := ⟨rfl, by decide, rfl, by decide, iX8_ended_X8, by decide +kernel⟩
abbrev mX5_readText : x_M := (yX5_readText, cX5_readText, 3, (some .boolean), wsX5_readText, 6, 136, RX5)
theorem mwX5_readText : x_mw mX5_readText := ⟨by decide +kernel, ⟨_, rfl⟩, rfl⟩
theorem iX5_readText_X5 : ∀ w ∈ wsX50, w ∈ wsX5_readText := fun _ h => List.mem_cons_of_mem _ (List.mem_append_left _ (List.mem_append_left _ (List.mem_append_left _ (List.mem_append_left _ (List.mem_append_left _ (List.mem_append_left _ (List.mem_append_right _ h)))))))
theorem fX5_readText_18 : x_fw mX5_readText 5 1 18 RX5 TX5 2 := ⟨rfl, by decide, rfl, by decide, iX5_readText_X5, by decide +kernel⟩
theorem sX5_readText_22 : x_vw mX5_readText mX8_ended 22 8 0 := ⟨RX8, TX8, 3, _, rfl, by decide, gX5_readText_X8_ended, rfl, by decide +kernel, by decide⟩
theorem sX5_readText_34 : x_vw mX5_readText mX8_take 34 8 1 := ⟨RX8, TX8, 3, _, rfl, by decide, gX5_readText_X8_take, rfl, by decide +kernel, by decide⟩
theorem sX5_readText_38 : x_vw mX5_readText mX5_readDay 38 5 0 := ⟨RX5, TX5, 2, _, rfl, by decide, gX5_readText_X5_readDay, rfl, by decide +kernel, by decide⟩
theorem sX5_readText_41 : x_vw mX5_readText mX5_readRule 41 5 0 := ⟨RX5, TX5, 2, _, rfl, by decide, gX5_readText_X5_readRule, rfl, by decide +kernel, by decide⟩
abbrev mX6_firstSum : x_M := (yX6_firstSum, cX6_firstSum, 2, (some (.object "HazardRules$Item")), wsX6_firstSum, 0, 0, RX6)
theorem mwX6_firstSum : x_mw mX6_firstSum := ⟨by decide +kernel, ⟨_, rfl⟩, rfl⟩
theorem iX6_firstSum_X6 : ∀ w ∈ wsX60, w ∈ wsX6_firstSum := fun _ h => List.mem_cons_of_mem _ (List.mem_append_left _ (List.mem_append_right _ h))
theorem fX6_firstSum_28 : x_fw mX6_firstSum 6 7 28 RX6 TX6 9 := ⟨rfl, by decide, rfl, by decide, iX6_firstSum_X6, by decide +kernel⟩
theorem iX6_firstSum_X3 : ∀ w ∈ wsX30, w ∈ wsX6_firstSum := fun _ h => List.mem_cons_of_mem _ (List.mem_append_right _ h)
theorem fX6_firstSum_45 : x_fw mX6_firstSum 4 0 45 RX3 TX3 7 := ⟨rfl, by decide, rfl, by decide, iX6_firstSum_X3, by decide +kernel⟩
theorem fX6_firstSum_41 : x_fw mX6_firstSum 4 4 41 RX3 TX3 7 := ⟨rfl, by decide, rfl, by decide, iX6_firstSum_X3, by decide +kernel⟩
abbrev mX6_itemAt : x_M := (yX6_itemAt, cX6_itemAt, 4, (some (.object "HazardRules$Item")), wsX6_itemAt, 0, 0, RX6)
theorem mwX6_itemAt : x_mw mX6_itemAt := ⟨by decide +kernel, ⟨_, rfl⟩, rfl⟩
theorem iX6_itemAt_X6 : ∀ w ∈ wsX60, w ∈ wsX6_itemAt := fun _ h => List.mem_cons_of_mem _ (List.mem_append_left _ (List.mem_append_right _ h))
theorem fX6_itemAt_28 : x_fw mX6_itemAt 6 7 28 RX6 TX6 9 := ⟨rfl, by decide, rfl, by decide, iX6_itemAt_X6, by decide +kernel⟩
theorem iX6_itemAt_X3 : ∀ w ∈ wsX30, w ∈ wsX6_itemAt := fun _ h => List.mem_cons_of_mem _ (List.mem_append_right _ h)
theorem fX6_itemAt_41 : x_fw mX6_itemAt 4 4 41 RX3 TX3 7 := ⟨rfl, by decide, rfl, by decide, iX6_itemAt_X3, by decide +kernel⟩
abbrev mX6_leastOver : x_M := (yX6_leastOver, cX6_leastOver, 3, (some .int), wsX6_leastOver, 0, 0, RX6)
theorem mwX6_leastOver : x_mw mX6_leastOver := ⟨by decide +kernel, ⟨_, rfl⟩, rfl⟩
theorem iX6_leastOver_X6 : ∀ w ∈ wsX60, w ∈ wsX6_leastOver := fun _ h => List.mem_cons_of_mem _ (List.mem_append_left _ (List.mem_append_right _ h))
theorem fX6_leastOver_28 : x_fw mX6_leastOver 6 7 28 RX6 TX6 9 := ⟨rfl, by decide, rfl, by decide, iX6_leastOver_X6, by decide +kernel⟩
theorem iX6_leastOver_X3 : ∀ w ∈ wsX30, w ∈ wsX6_leastOver := fun _ h => List.mem_cons_of_mem _ (List.mem_append_right _ h)
theorem fX6_leastOver_45 : x_fw mX6_leastOver 4 0 45 RX3 TX3 7 := ⟨rfl, by decide, rfl, by decide, iX6_leastOver_X3, by decide +kernel⟩
theorem fX6_leastOver_57 : x_fw mX6_leastOver 4 2 57 RX3 TX3 7 := ⟨rfl, by decide, rfl, by decide, iX6_leastOver_X3, by decide +kernel⟩
theorem fX6_leastOver_61 : x_fw mX6_leastOver 4 3 61 RX3 TX3 7 := ⟨rfl, by decide, rfl, by decide, iX6_leastOver_X3, by decide +kernel⟩
theorem fX6_leastOver_41 : x_fw mX6_leastOver 4 4 41 RX3 TX3 7 := ⟨rfl, by decide, rfl, by decide, iX6_leastOver_X3, by decide +kernel⟩
abbrev mX8_numberOf : x_M := (yX8_numberOf, cX8_numberOf, 5, (some .int), wsX8_numberOf, 0, 0, RX8)
theorem mwX8_numberOf : x_mw mX8_numberOf := ⟨by decide +kernel, ⟨_, rfl⟩, rfl⟩
abbrev mX8_spells : x_M := (yX8_spells, cX8_spells, 5, (some .boolean), wsX8_spells, 5, 106, RX8)
theorem mwX8_spells : x_mw mX8_spells := ⟨by decide +kernel, ⟨_, rfl⟩, rfl⟩
abbrev mX8_codeOf : x_M := (yX8_codeOf, cX8_codeOf, 8, (some .int), wsX8_codeOf, 6, 130, RX8)
theorem mwX8_codeOf : x_mw mX8_codeOf := ⟨by decide +kernel, ⟨_, rfl⟩, rfl⟩
theorem sX8_codeOf_41 : x_tw mX8_codeOf mX8_numberOf 41 3 := ⟨_, gX8_codeOf_X8_numberOf, rfl, by decide +kernel, by decide⟩
theorem sX8_codeOf_52 : x_tw mX8_codeOf mX8_spells 52 4 := ⟨_, gX8_codeOf_X8_spells, rfl, by decide +kernel, by decide⟩
abbrev mX8_init : x_M := (yX8_init, cX8_init, 1, none, wsX8_init, 1, 20, RX8)
theorem mwX8_init : x_mw mX8_init := ⟨by decide +kernel, ⟨_, rfl⟩, rfl⟩
theorem sX8_init_3 : x_ow0 mX8_init 3 := ⟨by decide +kernel, by decide +kernel, by decide +kernel, by decide, by decide⟩
theorem aX8_init_int : Cond.arrayClass .int ∈ x_ws mX8_init := by decide +kernel
theorem iX8_init_X8 : ∀ w ∈ wsX80, w ∈ wsX8_init := fun _ h => List.mem_cons_of_mem _ (List.mem_append_right _ h)
theorem fX8_init_9 : x_fw mX8_init 8 0 9 RX8 TX8 3 := ⟨rfl, by decide, rfl, by decide, iX8_init_X8, by decide +kernel⟩
theorem pX8_init_9 : x_pw mX8_init 8 0 9 RX8 TX8 3 (.array .int) := ⟨fX8_init_9, ⟨tyX8, tyX8_ok⟩, nmX8, Or.inr ⟨rfl, rfl, rfl⟩, by decide +kernel⟩
theorem fX8_init_15 : x_fw mX8_init 8 1 15 RX8 TX8 3 := ⟨rfl, by decide, rfl, by decide, iX8_init_X8, by decide +kernel⟩
theorem pX8_init_15 : x_pw mX8_init 8 1 15 RX8 TX8 3 (.int) := ⟨fX8_init_15, ⟨tyX8, tyX8_ok⟩, nmX8, Or.inl rfl, by decide +kernel⟩
theorem fX8_init_19 : x_fw mX8_init 8 2 19 RX8 TX8 3 := ⟨rfl, by decide, rfl, by decide, iX8_init_X8, by decide +kernel⟩
theorem pX8_init_19 : x_pw mX8_init 8 2 19 RX8 TX8 3 (.int) := ⟨fX8_init_19, ⟨tyX8, tyX8_ok⟩, nmX8, Or.inl rfl, by decide +kernel⟩
abbrev mX9_isGap : x_M := (yX9_isGap, cX9_isGap, 1, (some .boolean), wsX9_isGap, 0, 0, RX9)
theorem mwX9_isGap : x_mw mX9_isGap := ⟨by decide +kernel, ⟨_, rfl⟩, rfl⟩
abbrev mX8_split : x_M := (yX8_split, cX8_split, 6, none, wsX8_split, 7, 157, RX8)
theorem mwX8_split : x_mw mX8_split := ⟨by decide +kernel, ⟨_, rfl⟩, rfl⟩
theorem iX8_split_X8 : ∀ w ∈ wsX80, w ∈ wsX8_split := fun _ h => List.mem_cons_of_mem _ (List.mem_append_right _ h)
theorem fX8_split_15 : x_fw mX8_split 8 1 15 RX8 TX8 3 := ⟨rfl, by decide, rfl, by decide, iX8_split_X8, by decide +kernel⟩
theorem pX8_split_15 : x_pw mX8_split 8 1 15 RX8 TX8 3 (.int) := ⟨fX8_split_15, ⟨tyX8, tyX8_ok⟩, nmX8, Or.inl rfl, by decide +kernel⟩
theorem fX8_split_19 : x_fw mX8_split 8 2 19 RX8 TX8 3 := ⟨rfl, by decide, rfl, by decide, iX8_split_X8, by decide +kernel⟩
theorem pX8_split_19 : x_pw mX8_split 8 2 19 RX8 TX8 3 (.int) := ⟨fX8_split_19, ⟨tyX8, tyX8_ok⟩, nmX8, Or.inl rfl, by decide +kernel⟩
theorem fX8_split_9 : x_fw mX8_split 8 0 9 RX8 TX8 3 := ⟨rfl, by decide, rfl, by decide, iX8_split_X8, by decide +kernel⟩
theorem sX8_split_32 : x_tw mX8_split mX8_codeOf 32 3 := ⟨_, gX8_split_X8_codeOf, rfl, by decide +kernel, by decide⟩
abbrev mX9_clearParts : x_M := (yX9_clearParts, cX9_clearParts, 1, none, wsX9_clearParts, 2, 44, RX9)
theorem mwX9_clearParts : x_mw mX9_clearParts := ⟨by decide +kernel, ⟨_, rfl⟩, rfl⟩
theorem iX9_clearParts_X9 : ∀ w ∈ wsX90, w ∈ wsX9_clearParts := fun _ h => List.mem_cons_of_mem _ (List.mem_append_left _ (List.mem_append_right _ h))
theorem fX9_clearParts_33 : x_fw mX9_clearParts 9 5 33 RX9 TX9 7 := ⟨rfl, by decide, rfl, by decide, iX9_clearParts_X9, by decide +kernel⟩
theorem sX9_clearParts_79 : x_vw mX9_clearParts mX2_forget 79 3 0 := ⟨RX2, TX2, 5, _, rfl, by decide, gX9_clearParts_X2_forget, rfl, by decide +kernel, by decide⟩
abbrev mX9_cls : x_M := (yX9_cls, cX9_cls, 4, (some .int), wsX9_cls, 2, 45, RX9)
theorem mwX9_cls : x_mw mX9_cls := ⟨by decide +kernel, ⟨_, rfl⟩, rfl⟩
theorem iX9_cls_X9 : ∀ w ∈ wsX90, w ∈ wsX9_cls := fun _ h => List.mem_cons_of_mem _ (List.mem_append_left _ (List.mem_append_left _ (List.mem_append_right _ h)))
theorem fX9_cls_40 : x_fw mX9_cls 9 6 40 RX9 TX9 7 := ⟨rfl, by decide, rfl, by decide, iX9_cls_X9, by decide +kernel⟩
theorem sX9_cls_90 : x_vw mX9_cls mX0_isHeld 90 1 1 := ⟨RX0, TX0, 7, _, rfl, by decide, gX9_cls_X0_isHeld, rfl, by decide +kernel, by decide⟩
abbrev mX9_edition : x_M := (yX9_edition, cX9_edition, 3, (some .int), wsX9_edition, 1, 24, RX9)
theorem mwX9_edition : x_mw mX9_edition := ⟨by decide +kernel, ⟨_, rfl⟩, rfl⟩
theorem iX9_edition_X9 : ∀ w ∈ wsX90, w ∈ wsX9_edition := fun _ h => List.mem_cons_of_mem _ (List.mem_append_left _ (List.mem_append_left _ (List.mem_append_right _ h)))
theorem fX9_edition_40 : x_fw mX9_edition 9 6 40 RX9 TX9 7 := ⟨rfl, by decide, rfl, by decide, iX9_edition_X9, by decide +kernel⟩
theorem sX9_edition_67 : x_vw mX9_edition mX0_actingOn 67 1 1 := ⟨RX0, TX0, 7, _, rfl, by decide, gX9_edition_X0_actingOn, rfl, by decide +kernel, by decide⟩
abbrev mX9_explain : x_M := (yX9_explain, cX9_explain, 5, (some .int), wsX9_explain, 1, 24, RX9)
theorem mwX9_explain : x_mw mX9_explain := ⟨by decide +kernel, ⟨_, rfl⟩, rfl⟩
theorem iX9_explain_X9 : ∀ w ∈ wsX90, w ∈ wsX9_explain := fun _ h => List.mem_cons_of_mem _ (List.mem_append_left _ (List.mem_append_left _ (List.mem_append_right _ h)))
theorem fX9_explain_40 : x_fw mX9_explain 9 6 40 RX9 TX9 7 := ⟨rfl, by decide, rfl, by decide, iX9_explain_X9, by decide +kernel⟩
theorem sX9_explain_126 : x_vw mX9_explain mX0_heldBy 126 1 2 := ⟨RX0, TX0, 7, _, rfl, by decide, gX9_explain_X0_heldBy, rfl, by decide +kernel, by decide⟩
theorem iX9_explain_X6 : ∀ w ∈ wsX60, w ∈ wsX9_explain := fun _ h => List.mem_cons_of_mem _ (List.mem_append_left _ (List.mem_append_right _ h))
theorem fX9_explain_117 : x_fw mX9_explain 6 2 117 RX6 TX6 9 := ⟨rfl, by decide, rfl, by decide, iX9_explain_X6, by decide +kernel⟩
theorem fX9_explain_130 : x_fw mX9_explain 6 4 130 RX6 TX6 9 := ⟨rfl, by decide, rfl, by decide, iX9_explain_X6, by decide +kernel⟩
theorem fX9_explain_133 : x_fw mX9_explain 6 1 133 RX6 TX6 9 := ⟨rfl, by decide, rfl, by decide, iX9_explain_X6, by decide +kernel⟩
abbrev mX9_init : x_M := (yX9_init, cX9_init, 1, none, wsX9_init, 2, 43, RX9)
theorem mwX9_init : x_mw mX9_init := ⟨by decide +kernel, ⟨_, rfl⟩, rfl⟩
theorem sX9_init_1 : x_ow0 mX9_init 1 := ⟨by decide +kernel, by decide +kernel, by decide +kernel, by decide, by decide⟩
theorem aX9_init_byte : Cond.arrayClass .byte ∈ x_ws mX9_init := by decide +kernel
theorem iX9_init_X9 : ∀ w ∈ wsX90, w ∈ wsX9_init := fun _ h => List.mem_cons_of_mem _ (List.mem_append_left _ (List.mem_append_left _ (List.mem_append_left _ (List.mem_append_right _ h))))
theorem fX9_init_9 : x_fw mX9_init 9 0 9 RX9 TX9 7 := ⟨rfl, by decide, rfl, by decide, iX9_init_X9, by decide +kernel⟩
theorem pX9_init_9 : x_pw mX9_init 9 0 9 RX9 TX9 7 (.array .byte) := ⟨fX9_init_9, ⟨tyX9, tyX9_ok⟩, nmX9, Or.inr ⟨rfl, rfl, rfl⟩, by decide +kernel⟩
theorem fX9_init_13 : x_fw mX9_init 9 1 13 RX9 TX9 7 := ⟨rfl, by decide, rfl, by decide, iX9_init_X9, by decide +kernel⟩
theorem pX9_init_13 : x_pw mX9_init 9 1 13 RX9 TX9 7 (.int) := ⟨fX9_init_13, ⟨tyX9, tyX9_ok⟩, nmX9, Or.inl rfl, by decide +kernel⟩
theorem fX9_init_17 : x_fw mX9_init 9 2 17 RX9 TX9 7 := ⟨rfl, by decide, rfl, by decide, iX9_init_X9, by decide +kernel⟩
theorem pX9_init_17 : x_pw mX9_init 9 2 17 RX9 TX9 7 (.array .byte) := ⟨fX9_init_17, ⟨tyX9, tyX9_ok⟩, nmX9, Or.inr ⟨rfl, rfl, rfl⟩, by decide +kernel⟩
theorem fX9_init_20 : x_fw mX9_init 9 3 20 RX9 TX9 7 := ⟨rfl, by decide, rfl, by decide, iX9_init_X9, by decide +kernel⟩
theorem pX9_init_20 : x_pw mX9_init 9 3 20 RX9 TX9 7 (.int) := ⟨fX9_init_20, ⟨tyX9, tyX9_ok⟩, nmX9, Or.inl rfl, by decide +kernel⟩
theorem iX9_init_X8 : ∀ w ∈ wsX80, w ∈ wsX9_init := fun _ h => List.mem_cons_of_mem _ (List.mem_append_left _ (List.mem_append_left _ (List.mem_append_right _ h)))
theorem nX9_init_23 : x_nw mX9_init 8 23 RX8 TX8 3 := ⟨rfl, by decide, rfl, iX9_init_X8, by decide +kernel, by decide +kernel, by decide +kernel, tyX8, tyX8_ok, by decide +kernel⟩
theorem fX9_init_26 : x_fw mX9_init 9 4 26 RX9 TX9 7 := ⟨rfl, by decide, rfl, by decide, iX9_init_X9, by decide +kernel⟩
theorem pX9_init_26 : x_pw mX9_init 9 4 26 RX9 TX9 7 (.object "HazardRules$Words") := ⟨fX9_init_26, ⟨tyX9, tyX9_ok⟩, nmX9, Or.inr ⟨rfl, rfl, rfl⟩, by decide +kernel⟩
theorem iX9_init_X2 : ∀ w ∈ wsX20, w ∈ wsX9_init := fun _ h => List.mem_cons_of_mem _ (List.mem_append_left _ (List.mem_append_right _ h))
theorem nX9_init_30 : x_nw mX9_init 3 30 RX2 TX2 5 := ⟨rfl, by decide, rfl, iX9_init_X2, by decide +kernel, by decide +kernel, by decide +kernel, tyX2, tyX2_ok, by decide +kernel⟩
theorem sX9_init_32 : x_iw mX9_init mX2_init 32 0 := ⟨_, gX9_init_X2_init, rfl, by decide +kernel, by decide +kernel, by decide +kernel, rfl, by decide +kernel, by decide⟩
theorem fX9_init_33 : x_fw mX9_init 9 5 33 RX9 TX9 7 := ⟨rfl, by decide, rfl, by decide, iX9_init_X9, by decide +kernel⟩
theorem pX9_init_33 : x_pw mX9_init 9 5 33 RX9 TX9 7 (.object "HazardRules$Facts") := ⟨fX9_init_33, ⟨tyX9, tyX9_ok⟩, nmX9, Or.inr ⟨rfl, rfl, rfl⟩, by decide +kernel⟩
theorem iX9_init_X0 : ∀ w ∈ wsX00, w ∈ wsX9_init := fun _ h => List.mem_cons_of_mem _ (List.mem_append_right _ h)
theorem nX9_init_37 : x_nw mX9_init 1 37 RX0 TX0 7 := ⟨rfl, by decide, rfl, iX9_init_X0, by decide +kernel, by decide +kernel, by decide +kernel, tyX0, tyX0_ok, by decide +kernel⟩
theorem fX9_init_40 : x_fw mX9_init 9 6 40 RX9 TX9 7 := ⟨rfl, by decide, rfl, by decide, iX9_init_X9, by decide +kernel⟩
theorem pX9_init_40 : x_pw mX9_init 9 6 40 RX9 TX9 7 (.object "HazardRules$Book") := ⟨fX9_init_40, ⟨tyX9, tyX9_ok⟩, nmX9, Or.inl rfl, by decide +kernel⟩
abbrev mX9_keepByte : x_M := (yX9_keepByte, cX9_keepByte, 2, none, wsX9_keepByte, 0, 0, RX9)
theorem mwX9_keepByte : x_mw mX9_keepByte := ⟨by decide +kernel, ⟨_, rfl⟩, rfl⟩
theorem iX9_keepByte_X9 : ∀ w ∈ wsX90, w ∈ wsX9_keepByte := fun _ h => List.mem_cons_of_mem _ (List.mem_append_right _ h)
theorem fX9_keepByte_20 : x_fw mX9_keepByte 9 3 20 RX9 TX9 7 := ⟨rfl, by decide, rfl, by decide, iX9_keepByte_X9, by decide +kernel⟩
theorem fX9_keepByte_17 : x_fw mX9_keepByte 9 2 17 RX9 TX9 7 := ⟨rfl, by decide, rfl, by decide, iX9_keepByte_X9, by decide +kernel⟩
theorem pX9_keepByte_20 : x_pw mX9_keepByte 9 3 20 RX9 TX9 7 (.int) := ⟨fX9_keepByte_20, ⟨tyX9, tyX9_ok⟩, nmX9, Or.inl rfl, by decide +kernel⟩
abbrev mX9_keepText : x_M := (yX9_keepText, cX9_keepText, 3, none, wsX9_keepText, 1, 21, RX9)
theorem mwX9_keepText : x_mw mX9_keepText := ⟨by decide +kernel, ⟨_, rfl⟩, rfl⟩
theorem iX9_keepText_X9 : ∀ w ∈ wsX90, w ∈ wsX9_keepText := fun _ h => List.mem_cons_of_mem _ (List.mem_append_right _ h)
theorem fX9_keepText_20 : x_fw mX9_keepText 9 3 20 RX9 TX9 7 := ⟨rfl, by decide, rfl, by decide, iX9_keepText_X9, by decide +kernel⟩
theorem pX9_keepText_20 : x_pw mX9_keepText 9 3 20 RX9 TX9 7 (.int) := ⟨fX9_keepText_20, ⟨tyX9, tyX9_ok⟩, nmX9, Or.inl rfl, by decide +kernel⟩
theorem fX9_keepText_13 : x_fw mX9_keepText 9 1 13 RX9 TX9 7 := ⟨rfl, by decide, rfl, by decide, iX9_keepText_X9, by decide +kernel⟩
theorem fX9_keepText_9 : x_fw mX9_keepText 9 0 9 RX9 TX9 7 := ⟨rfl, by decide, rfl, by decide, iX9_keepText_X9, by decide +kernel⟩
theorem sX9_keepText_179 : x_tw mX9_keepText mX9_isGap 179 1 := ⟨_, gX9_keepText_X9_isGap, rfl, by decide +kernel, by decide⟩
theorem sX9_keepText_183 : x_vw mX9_keepText mX9_keepByte 183 9 1 := ⟨RX9, TX9, 7, _, rfl, by decide, gX9_keepText_X9_keepByte, rfl, by decide +kernel, by decide⟩
abbrev mX9_limit : x_M := (yX9_limit, cX9_limit, 6, (some .long), wsX9_limit, 1, 22, RX9)
theorem mwX9_limit : x_mw mX9_limit := ⟨by decide +kernel, ⟨_, rfl⟩, rfl⟩
theorem kX9_limit_136 : Cond.constantLong (x_ow mX9_limit) 136 (-1) ∈ x_ws mX9_limit := by decide +kernel
theorem iX9_limit_X9 : ∀ w ∈ wsX90, w ∈ wsX9_limit := fun _ h => List.mem_cons_of_mem _ (List.mem_append_left _ (List.mem_append_left _ (List.mem_append_left _ (List.mem_append_right _ h))))
theorem fX9_limit_40 : x_fw mX9_limit 9 6 40 RX9 TX9 7 := ⟨rfl, by decide, rfl, by decide, iX9_limit_X9, by decide +kernel⟩
theorem iX9_limit_X0 : ∀ w ∈ wsX00, w ∈ wsX9_limit := fun _ h => List.mem_cons_of_mem _ (List.mem_append_left _ (List.mem_append_left _ (List.mem_append_right _ h)))
theorem fX9_limit_94 : x_fw mX9_limit 1 0 94 RX0 TX0 7 := ⟨rfl, by decide, rfl, by decide, iX9_limit_X0, by decide +kernel⟩
theorem iX9_limit_X6 : ∀ w ∈ wsX60, w ∈ wsX9_limit := fun _ h => List.mem_cons_of_mem _ (List.mem_append_left _ (List.mem_append_right _ h))
theorem fX9_limit_138 : x_fw mX9_limit 6 3 138 RX6 TX6 9 := ⟨rfl, by decide, rfl, by decide, iX9_limit_X6, by decide +kernel⟩
theorem fX9_limit_141 : x_fw mX9_limit 1 6 141 RX0 TX0 7 := ⟨rfl, by decide, rfl, by decide, iX9_limit_X0, by decide +kernel⟩
theorem fX9_limit_102 : x_fw mX9_limit 6 0 102 RX6 TX6 9 := ⟨rfl, by decide, rfl, by decide, iX9_limit_X6, by decide +kernel⟩
theorem sX9_limit_144 : x_vw mX9_limit mX6_leastOver 144 6 0 := ⟨RX6, TX6, 9, _, rfl, by decide, gX9_limit_X6_leastOver, rfl, by decide +kernel, by decide⟩
theorem fX9_limit_107 : x_fw mX9_limit 6 6 107 RX6 TX6 9 := ⟨rfl, by decide, rfl, by decide, iX9_limit_X6, by decide +kernel⟩
abbrev mX9_mark : x_M := (yX9_mark, cX9_mark, 4, (some .int), wsX9_mark, 2, 46, RX9)
theorem mwX9_mark : x_mw mX9_mark := ⟨by decide +kernel, ⟨_, rfl⟩, rfl⟩
theorem iX9_mark_X9 : ∀ w ∈ wsX90, w ∈ wsX9_mark := fun _ h => List.mem_cons_of_mem _ (List.mem_append_left _ (List.mem_append_left _ (List.mem_append_right _ h)))
theorem fX9_mark_40 : x_fw mX9_mark 9 6 40 RX9 TX9 7 := ⟨rfl, by decide, rfl, by decide, iX9_mark_X9, by decide +kernel⟩
theorem iX9_mark_X0 : ∀ w ∈ wsX00, w ∈ wsX9_mark := fun _ h => List.mem_cons_of_mem _ (List.mem_append_left _ (List.mem_append_right _ h))
theorem fX9_mark_94 : x_fw mX9_mark 1 0 94 RX0 TX0 7 := ⟨rfl, by decide, rfl, by decide, iX9_mark_X0, by decide +kernel⟩
theorem sX9_mark_98 : x_vw mX9_mark mX0_isFirstToHold 98 1 1 := ⟨RX0, TX0, 7, _, rfl, by decide, gX9_mark_X0_isFirstToHold, rfl, by decide +kernel, by decide⟩
theorem iX9_mark_X6 : ∀ w ∈ wsX60, w ∈ wsX9_mark := fun _ h => List.mem_cons_of_mem _ (List.mem_append_right _ h)
theorem fX9_mark_102 : x_fw mX9_mark 6 0 102 RX6 TX6 9 := ⟨rfl, by decide, rfl, by decide, iX9_mark_X6, by decide +kernel⟩
theorem fX9_mark_107 : x_fw mX9_mark 6 6 107 RX6 TX6 9 := ⟨rfl, by decide, rfl, by decide, iX9_mark_X6, by decide +kernel⟩
abbrev mX9_missing : x_M := (yX9_missing, cX9_missing, 4, (some .int), wsX9_missing, 4, 88, RX9)
theorem mwX9_missing : x_mw mX9_missing := ⟨by decide +kernel, ⟨_, rfl⟩, rfl⟩
theorem iX9_missing_X9 : ∀ w ∈ wsX90, w ∈ wsX9_missing := fun _ h => List.mem_cons_of_mem _ (List.mem_append_left _ (List.mem_append_left _ (List.mem_append_right _ h)))
theorem fX9_missing_40 : x_fw mX9_missing 9 6 40 RX9 TX9 7 := ⟨rfl, by decide, rfl, by decide, iX9_missing_X9, by decide +kernel⟩
theorem iX9_missing_X0 : ∀ w ∈ wsX00, w ∈ wsX9_missing := fun _ h => List.mem_cons_of_mem _ (List.mem_append_left _ (List.mem_append_right _ h))
theorem fX9_missing_94 : x_fw mX9_missing 1 0 94 RX0 TX0 7 := ⟨rfl, by decide, rfl, by decide, iX9_missing_X0, by decide +kernel⟩
theorem sX9_missing_123 : x_vw mX9_missing mX0_isFirstToLack 123 1 1 := ⟨RX0, TX0, 7, _, rfl, by decide, gX9_missing_X0_isFirstToLack, rfl, by decide +kernel, by decide⟩
theorem iX9_missing_X6 : ∀ w ∈ wsX60, w ∈ wsX9_missing := fun _ h => List.mem_cons_of_mem _ (List.mem_append_right _ h)
theorem fX9_missing_120 : x_fw mX9_missing 6 5 120 RX6 TX6 9 := ⟨rfl, by decide, rfl, by decide, iX9_missing_X6, by decide +kernel⟩
theorem fX9_missing_107 : x_fw mX9_missing 6 6 107 RX6 TX6 9 := ⟨rfl, by decide, rfl, by decide, iX9_missing_X6, by decide +kernel⟩
abbrev mX9_moving : x_M := (yX9_moving, cX9_moving, 1, (some .int), wsX9_moving, 3, 68, RX9)
theorem mwX9_moving : x_mw mX9_moving := ⟨by decide +kernel, ⟨_, rfl⟩, rfl⟩
theorem sX9_moving_110 : x_vw mX9_moving mX9_cls 110 9 1 := ⟨RX9, TX9, 7, _, rfl, by decide, gX9_moving_X9_cls, rfl, by decide +kernel, by decide⟩
abbrev mX9_open : x_M := (yX9_open, cX9_open, 4, (some .int), wsX9_open, 4, 89, RX9)
theorem mwX9_open : x_mw mX9_open := ⟨by decide +kernel, ⟨_, rfl⟩, rfl⟩
theorem iX9_open_X9 : ∀ w ∈ wsX90, w ∈ wsX9_open := fun _ h => List.mem_cons_of_mem _ (List.mem_append_left _ (List.mem_append_left _ (List.mem_append_right _ h)))
theorem fX9_open_40 : x_fw mX9_open 9 6 40 RX9 TX9 7 := ⟨rfl, by decide, rfl, by decide, iX9_open_X9, by decide +kernel⟩
theorem sX9_open_113 : x_vw mX9_open mX0_openRule 113 1 1 := ⟨RX0, TX0, 7, _, rfl, by decide, gX9_open_X0_openRule, rfl, by decide +kernel, by decide⟩
theorem iX9_open_X6 : ∀ w ∈ wsX60, w ∈ wsX9_open := fun _ h => List.mem_cons_of_mem _ (List.mem_append_left _ (List.mem_append_right _ h))
theorem fX9_open_117 : x_fw mX9_open 6 2 117 RX6 TX6 9 := ⟨rfl, by decide, rfl, by decide, iX9_open_X6, by decide +kernel⟩
theorem fX9_open_102 : x_fw mX9_open 6 0 102 RX6 TX6 9 := ⟨rfl, by decide, rfl, by decide, iX9_open_X6, by decide +kernel⟩
theorem fX9_open_120 : x_fw mX9_open 6 5 120 RX6 TX6 9 := ⟨rfl, by decide, rfl, by decide, iX9_open_X6, by decide +kernel⟩
abbrev mX9_part : x_M := (yX9_part, cX9_part, 6, (some .boolean), wsX9_part, 1, 25, RX9)
theorem mwX9_part : x_mw mX9_part := ⟨by decide +kernel, ⟨_, rfl⟩, rfl⟩
theorem iX9_part_X9 : ∀ w ∈ wsX90, w ∈ wsX9_part := fun _ h => List.mem_cons_of_mem _ (List.mem_append_left _ (List.mem_append_right _ h))
theorem fX9_part_33 : x_fw mX9_part 9 5 33 RX9 TX9 7 := ⟨rfl, by decide, rfl, by decide, iX9_part_X9, by decide +kernel⟩
theorem sX9_part_71 : x_vw mX9_part mX2_setSpan 71 3 3 := ⟨RX2, TX2, 5, _, rfl, by decide, gX9_part_X2_setSpan, rfl, by decide +kernel, by decide⟩
abbrev mX9_read : x_M := (yX9_read, cX9_read, 3, (some .int), wsX9_read, 8, 182, RX9)
theorem mwX9_read : x_mw mX9_read := ⟨by decide +kernel, ⟨_, rfl⟩, rfl⟩
theorem iX9_read_X9 : ∀ w ∈ wsX90, w ∈ wsX9_read := fun _ h => List.mem_cons_of_mem _ (List.mem_append_left _ (List.mem_append_left _ (List.mem_append_left _ (List.mem_append_left _ (List.mem_append_left _ (List.mem_append_left _ (List.mem_append_left _ (List.mem_append_right _ h))))))))
theorem fX9_read_26 : x_fw mX9_read 9 4 26 RX9 TX9 7 := ⟨rfl, by decide, rfl, by decide, iX9_read_X9, by decide +kernel⟩
theorem fX9_read_9 : x_fw mX9_read 9 0 9 RX9 TX9 7 := ⟨rfl, by decide, rfl, by decide, iX9_read_X9, by decide +kernel⟩
theorem fX9_read_13 : x_fw mX9_read 9 1 13 RX9 TX9 7 := ⟨rfl, by decide, rfl, by decide, iX9_read_X9, by decide +kernel⟩
theorem sX9_read_44 : x_vw mX9_read mX8_split 44 8 2 := ⟨RX8, TX8, 3, _, rfl, by decide, gX9_read_X8_split, rfl, by decide +kernel, by decide⟩
theorem iX9_read_X5 : ∀ w ∈ wsX50, w ∈ wsX9_read := fun _ h => List.mem_cons_of_mem _ (List.mem_append_left _ (List.mem_append_left _ (List.mem_append_left _ (List.mem_append_left _ (List.mem_append_left _ (List.mem_append_left _ (List.mem_append_right _ h)))))))
theorem nX9_read_48 : x_nw mX9_read 5 48 RX5 TX5 2 := ⟨rfl, by decide, rfl, iX9_read_X5, by decide +kernel, by decide +kernel, by decide +kernel, tyX5, tyX5_ok, by decide +kernel⟩
theorem sX9_read_50 : x_iw mX9_read mX5_init 50 1 := ⟨_, gX9_read_X5_init, rfl, by decide +kernel, by decide +kernel, by decide +kernel, rfl, by decide +kernel, by decide⟩
theorem sX9_read_53 : x_vw mX9_read mX5_readText 53 5 0 := ⟨RX5, TX5, 2, _, rfl, by decide, gX9_read_X5_readText, rfl, by decide +kernel, by decide⟩
theorem sX9_read_57 : x_vw mX9_read mX9_keepText 57 9 0 := ⟨RX9, TX9, 7, _, rfl, by decide, gX9_read_X9_keepText, rfl, by decide +kernel, by decide⟩
theorem fX9_read_60 : x_fw mX9_read 5 0 60 RX5 TX5 2 := ⟨rfl, by decide, rfl, by decide, iX9_read_X5, by decide +kernel⟩
theorem fX9_read_40 : x_fw mX9_read 9 6 40 RX9 TX9 7 := ⟨rfl, by decide, rfl, by decide, iX9_read_X9, by decide +kernel⟩
theorem pX9_read_40 : x_pw mX9_read 9 6 40 RX9 TX9 7 (.object "HazardRules$Book") := ⟨fX9_read_40, ⟨tyX9, tyX9_ok⟩, nmX9, Or.inl rfl, by decide +kernel⟩
theorem pX9_read_13 : x_pw mX9_read 9 1 13 RX9 TX9 7 (.int) := ⟨fX9_read_13, ⟨tyX9, tyX9_ok⟩, nmX9, Or.inl rfl, by decide +kernel⟩
theorem iX9_read_X0 : ∀ w ∈ wsX00, w ∈ wsX9_read := fun _ h => List.mem_cons_of_mem _ (List.mem_append_left _ (List.mem_append_left _ (List.mem_append_left _ (List.mem_append_left _ (List.mem_append_left _ (List.mem_append_right _ h))))))
theorem fX9_read_61 : x_fw mX9_read 1 2 61 RX0 TX0 7 := ⟨rfl, by decide, rfl, by decide, iX9_read_X0, by decide +kernel⟩
theorem iX9_read_X8 : ∀ w ∈ wsX80, w ∈ wsX9_read := fun _ h => List.mem_cons_of_mem _ (List.mem_append_left _ (List.mem_append_left _ (List.mem_append_left _ (List.mem_append_left _ (List.mem_append_right _ h)))))
theorem fX9_read_64 : x_fw mX9_read 8 2 64 RX8 TX8 3 := ⟨rfl, by decide, rfl, by decide, iX9_read_X8, by decide +kernel⟩
abbrev mX9_run : x_M := (yX9_run, cX9_run, 3, (some .int), wsX9_run, 7, 169, RX9)
theorem mwX9_run : x_mw mX9_run := ⟨by decide +kernel, ⟨_, rfl⟩, rfl⟩
theorem iX9_run_X9 : ∀ w ∈ wsX90, w ∈ wsX9_run := fun _ h => List.mem_cons_of_mem _ (List.mem_append_left _ (List.mem_append_left _ (List.mem_append_left _ (List.mem_append_left _ (List.mem_append_left _ (List.mem_append_left _ (List.mem_append_right _ h)))))))
theorem fX9_run_40 : x_fw mX9_run 9 6 40 RX9 TX9 7 := ⟨rfl, by decide, rfl, by decide, iX9_run_X9, by decide +kernel⟩
theorem fX9_run_33 : x_fw mX9_run 9 5 33 RX9 TX9 7 := ⟨rfl, by decide, rfl, by decide, iX9_run_X9, by decide +kernel⟩
theorem sX9_run_86 : x_vw mX9_run mX0_lookAt 86 1 2 := ⟨RX0, TX0, 7, _, rfl, by decide, gX9_run_X0_lookAt, rfl, by decide +kernel, by decide⟩
abbrev mX9_sum : x_M := (yX9_sum, cX9_sum, 6, (some .long), wsX9_sum, 3, 73, RX9)
theorem mwX9_sum : x_mw mX9_sum := ⟨by decide +kernel, ⟨_, rfl⟩, rfl⟩
theorem iX9_sum_X9 : ∀ w ∈ wsX90, w ∈ wsX9_sum := fun _ h => List.mem_cons_of_mem _ (List.mem_append_left _ (List.mem_append_left _ (List.mem_append_left _ (List.mem_append_left _ (List.mem_append_left _ (List.mem_append_right _ h))))))
theorem fX9_sum_40 : x_fw mX9_sum 9 6 40 RX9 TX9 7 := ⟨rfl, by decide, rfl, by decide, iX9_sum_X9, by decide +kernel⟩
theorem sX9_sum_148 : x_vw mX9_sum mX0_ruleAt 148 1 1 := ⟨RX0, TX0, 7, _, rfl, by decide, gX9_sum_X0_ruleAt, rfl, by decide +kernel, by decide⟩
theorem sX9_sum_151 : x_vw mX9_sum mX6_firstSum 151 6 0 := ⟨RX6, TX6, 9, _, rfl, by decide, gX9_sum_X6_firstSum, rfl, by decide +kernel, by decide⟩
theorem fX9_sum_33 : x_fw mX9_sum 9 5 33 RX9 TX9 7 := ⟨rfl, by decide, rfl, by decide, iX9_sum_X9, by decide +kernel⟩
theorem sX9_sum_155 : x_vw mX9_sum mX2_lackOf 155 3 1 := ⟨RX2, TX2, 5, _, rfl, by decide, gX9_sum_X2_lackOf, rfl, by decide +kernel, by decide⟩
theorem sX9_sum_159 : x_vw mX9_sum mX2_sumAt 159 3 3 := ⟨RX2, TX2, 5, _, rfl, by decide, gX9_sum_X2_sumAt, rfl, by decide +kernel, by decide⟩
abbrev mX9_table : x_M := (yX9_table, cX9_table, 5, (some .int), wsX9_table, 1, 23, RX9)
theorem mwX9_table : x_mw mX9_table := ⟨by decide +kernel, ⟨_, rfl⟩, rfl⟩
theorem iX9_table_X9 : ∀ w ∈ wsX90, w ∈ wsX9_table := fun _ h => List.mem_cons_of_mem _ (List.mem_append_left _ (List.mem_append_left _ (List.mem_append_left _ (List.mem_append_left _ (List.mem_append_right _ h)))))
theorem fX9_table_40 : x_fw mX9_table 9 6 40 RX9 TX9 7 := ⟨rfl, by decide, rfl, by decide, iX9_table_X9, by decide +kernel⟩
theorem sX9_table_148 : x_vw mX9_table mX0_ruleAt 148 1 1 := ⟨RX0, TX0, 7, _, rfl, by decide, gX9_table_X0_ruleAt, rfl, by decide +kernel, by decide⟩
theorem sX9_table_163 : x_vw mX9_table mX6_itemAt 163 6 1 := ⟨RX6, TX6, 9, _, rfl, by decide, gX9_table_X6_itemAt, rfl, by decide +kernel, by decide⟩
theorem iX9_table_X3 : ∀ w ∈ wsX30, w ∈ wsX9_table := fun _ h => List.mem_cons_of_mem _ (List.mem_append_left _ (List.mem_append_left _ (List.mem_append_right _ h)))
theorem fX9_table_174 : x_fw mX9_table 4 0 174 RX3 TX3 7 := ⟨rfl, by decide, rfl, by decide, iX9_table_X3, by decide +kernel⟩
abbrev mX9_test : x_M := (yX9_test, cX9_test, 3, (some .boolean), wsX9_test, 1, 22, RX9)
theorem mwX9_test : x_mw mX9_test := ⟨by decide +kernel, ⟨_, rfl⟩, rfl⟩
theorem iX9_test_X9 : ∀ w ∈ wsX90, w ∈ wsX9_test := fun _ h => List.mem_cons_of_mem _ (List.mem_append_left _ (List.mem_append_right _ h))
theorem fX9_test_33 : x_fw mX9_test 9 5 33 RX9 TX9 7 := ⟨rfl, by decide, rfl, by decide, iX9_test_X9, by decide +kernel⟩
theorem sX9_test_75 : x_vw mX9_test mX2_setResult 75 3 2 := ⟨RX2, TX2, 5, _, rfl, by decide, gX9_test_X2_setResult, rfl, by decide +kernel, by decide⟩
abbrev mX9_unit : x_M := (yX9_unit, cX9_unit, 2, (some .boolean), wsX9_unit, 0, 0, RX9)
theorem mwX9_unit : x_mw mX9_unit := ⟨by decide +kernel, ⟨_, rfl⟩, rfl⟩
theorem iX9_unit_X9 : ∀ w ∈ wsX90, w ∈ wsX9_unit := fun _ h => List.mem_cons_of_mem _ (List.mem_append_right _ h)
theorem fX9_unit_13 : x_fw mX9_unit 9 1 13 RX9 TX9 7 := ⟨rfl, by decide, rfl, by decide, iX9_unit_X9, by decide +kernel⟩
theorem fX9_unit_9 : x_fw mX9_unit 9 0 9 RX9 TX9 7 := ⟨rfl, by decide, rfl, by decide, iX9_unit_X9, by decide +kernel⟩
theorem pX9_unit_13 : x_pw mX9_unit 9 1 13 RX9 TX9 7 (.int) := ⟨fX9_unit_13, ⟨tyX9, tyX9_ok⟩, nmX9, Or.inl rfl, by decide +kernel⟩
abbrev mX9_walk : x_M := (yX9_walk, cX9_walk, 4, (some .int), wsX9_walk, 8, 182, RX9)
theorem mwX9_walk : x_mw mX9_walk := ⟨by decide +kernel, ⟨_, rfl⟩, rfl⟩
theorem iX9_walk_X9 : ∀ w ∈ wsX90, w ∈ wsX9_walk := fun _ h => List.mem_cons_of_mem _ (List.mem_append_left _ (List.mem_append_left _ (List.mem_append_left _ (List.mem_append_left _ (List.mem_append_left _ (List.mem_append_left _ (List.mem_append_left _ (List.mem_append_left _ (List.mem_append_right _ h)))))))))
theorem fX9_walk_26 : x_fw mX9_walk 9 4 26 RX9 TX9 7 := ⟨rfl, by decide, rfl, by decide, iX9_walk_X9, by decide +kernel⟩
theorem fX9_walk_17 : x_fw mX9_walk 9 2 17 RX9 TX9 7 := ⟨rfl, by decide, rfl, by decide, iX9_walk_X9, by decide +kernel⟩
theorem fX9_walk_20 : x_fw mX9_walk 9 3 20 RX9 TX9 7 := ⟨rfl, by decide, rfl, by decide, iX9_walk_X9, by decide +kernel⟩
theorem sX9_walk_44 : x_vw mX9_walk mX8_split 44 8 2 := ⟨RX8, TX8, 3, _, rfl, by decide, gX9_walk_X8_split, rfl, by decide +kernel, by decide⟩
theorem iX9_walk_X5 : ∀ w ∈ wsX50, w ∈ wsX9_walk := fun _ h => List.mem_cons_of_mem _ (List.mem_append_left _ (List.mem_append_left _ (List.mem_append_left _ (List.mem_append_left _ (List.mem_append_left _ (List.mem_append_left _ (List.mem_append_left _ (List.mem_append_right _ h))))))))
theorem nX9_walk_48 : x_nw mX9_walk 5 48 RX5 TX5 2 := ⟨rfl, by decide, rfl, iX9_walk_X5, by decide +kernel, by decide +kernel, by decide +kernel, tyX5, tyX5_ok, by decide +kernel⟩
theorem sX9_walk_50 : x_iw mX9_walk mX5_init 50 1 := ⟨_, gX9_walk_X5_init, rfl, by decide +kernel, by decide +kernel, by decide +kernel, rfl, by decide +kernel, by decide⟩
theorem sX9_walk_53 : x_vw mX9_walk mX5_readText 53 5 0 := ⟨RX5, TX5, 2, _, rfl, by decide, gX9_walk_X5_readText, rfl, by decide +kernel, by decide⟩
theorem fX9_walk_60 : x_fw mX9_walk 5 0 60 RX5 TX5 2 := ⟨rfl, by decide, rfl, by decide, iX9_walk_X5, by decide +kernel⟩
theorem fX9_walk_40 : x_fw mX9_walk 9 6 40 RX9 TX9 7 := ⟨rfl, by decide, rfl, by decide, iX9_walk_X9, by decide +kernel⟩
theorem pX9_walk_40 : x_pw mX9_walk 9 6 40 RX9 TX9 7 (.object "HazardRules$Book") := ⟨fX9_walk_40, ⟨tyX9, tyX9_ok⟩, nmX9, Or.inl rfl, by decide +kernel⟩
theorem fX9_walk_33 : x_fw mX9_walk 9 5 33 RX9 TX9 7 := ⟨rfl, by decide, rfl, by decide, iX9_walk_X9, by decide +kernel⟩
theorem sX9_walk_86 : x_vw mX9_walk mX0_lookAt 86 1 2 := ⟨RX0, TX0, 7, _, rfl, by decide, gX9_walk_X0_lookAt, rfl, by decide +kernel, by decide⟩
abbrev mX9_way : x_M := (yX9_way, cX9_way, 3, (some .boolean), wsX9_way, 0, 0, RX9)
theorem mwX9_way : x_mw mX9_way := ⟨by decide +kernel, ⟨_, rfl⟩, rfl⟩
theorem iX9_way_X9 : ∀ w ∈ wsX90, w ∈ wsX9_way := fun _ h => List.mem_cons_of_mem _ (List.mem_append_left _ (List.mem_append_right _ h))
theorem fX9_way_33 : x_fw mX9_way 9 5 33 RX9 TX9 7 := ⟨rfl, by decide, rfl, by decide, iX9_way_X9, by decide +kernel⟩
theorem iX9_way_X2 : ∀ w ∈ wsX20, w ∈ wsX9_way := fun _ h => List.mem_cons_of_mem _ (List.mem_append_right _ h)
theorem fX9_way_82 : x_fw mX9_way 3 0 82 RX2 TX2 5 := ⟨rfl, by decide, rfl, by decide, iX9_way_X2, by decide +kernel⟩
theorem pX9_way_82 : x_pw mX9_way 3 0 82 RX2 TX2 5 (.boolean) := ⟨fX9_way_82, ⟨tyX2, tyX2_ok⟩, nmX2, Or.inl rfl, by decide +kernel⟩
abbrev mX9_write : x_M := (yX9_write, cX9_write, 2, (some .int), wsX9_write, 0, 0, RX9)
theorem mwX9_write : x_mw mX9_write := ⟨by decide +kernel, ⟨_, rfl⟩, rfl⟩
theorem iX9_write_X9 : ∀ w ∈ wsX90, w ∈ wsX9_write := fun _ h => List.mem_cons_of_mem _ (List.mem_append_right _ h)
theorem fX9_write_20 : x_fw mX9_write 9 3 20 RX9 TX9 7 := ⟨rfl, by decide, rfl, by decide, iX9_write_X9, by decide +kernel⟩
theorem fX9_write_17 : x_fw mX9_write 9 2 17 RX9 TX9 7 := ⟨rfl, by decide, rfl, by decide, iX9_write_X9, by decide +kernel⟩
