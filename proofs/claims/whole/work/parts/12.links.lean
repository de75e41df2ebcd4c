/-! by program: which words a method has (its classes, fields, constants, library calls), what a callee takes -/
theorem f_X1_comesBehind_15 : Cond.fieldLink RX1 15 "OneWinter$Reader" "size" "I" ∈ wsX1_comesBehind := by decide +kernel
theorem f_X1_comesBehind_9 : Cond.fieldLink RX1 9 "OneWinter$Reader" "tape" "[I" ∈ wsX1_comesBehind := by decide +kernel
theorem in_X1_readsInto_X1 : ∀ w ∈ wsX10, w ∈ wsX1_readsInto := fun w h => List.mem_cons_of_mem _ (List.mem_append_left _ (List.mem_append_right _ h))
theorem in_X1_readsInto_X3 : ∀ w ∈ wsX30, w ∈ wsX1_readsInto := fun w h => List.mem_cons_of_mem _ (List.mem_append_right _ h)
theorem f_X1_readsInto_37 : Cond.fieldLink RX1 37 "OneWinter$Reader" "into" "LOneWinter$Text;" ∈ wsX1_readsInto := by decide +kernel
theorem f_X1_readsInto_34 : Cond.fieldLink RX1 34 "OneWinter$Reader" "at" "I" ∈ wsX1_readsInto := by decide +kernel
theorem f_X1_readsInto_19 : Cond.fieldLink RX1 19 "OneWinter$Reader" "fault" "I" ∈ wsX1_readsInto := by decide +kernel
theorem in_X1_scan_X1 : ∀ w ∈ wsX10, w ∈ wsX1_scan := fun w h => List.mem_cons_of_mem _ (List.mem_append_right _ h)
theorem f_X1_scan_31 : Cond.fieldLink RX1 31 "OneWinter$Reader" "tokens" "I" ∈ wsX1_scan := by decide +kernel
theorem f_X1_scan_15 : Cond.fieldLink RX1 15 "OneWinter$Reader" "size" "I" ∈ wsX1_scan := by decide +kernel
theorem f_X1_scan_9 : Cond.fieldLink RX1 9 "OneWinter$Reader" "tape" "[I" ∈ wsX1_scan := by decide +kernel
theorem in_X1_scanToken_X1 : ∀ w ∈ wsX10, w ∈ wsX1_scanToken := fun w h => List.mem_cons_of_mem _ (List.mem_append_right _ h)
theorem f_X1_byteAt_15 : Cond.fieldLink RX1 15 "OneWinter$Reader" "size" "I" ∈ wsX1_byteAt := by decide +kernel
theorem f_X1_byteAt_9 : Cond.fieldLink RX1 9 "OneWinter$Reader" "tape" "[I" ∈ wsX1_byteAt := by decide +kernel
theorem in_X1_nameOf_X1 : ∀ w ∈ wsX10, w ∈ wsX1_nameOf := fun w h => List.mem_cons_of_mem _ (List.mem_append_right _ h)
theorem in_X1_keyOf_X1 : ∀ w ∈ wsX10, w ∈ wsX1_keyOf := fun w h => List.mem_cons_of_mem _ (List.mem_append_right _ h)
theorem in_X1_isWord_X1 : ∀ w ∈ wsX10, w ∈ wsX1_isWord := fun w h => List.mem_cons_of_mem _ (List.mem_append_right _ h)
theorem f_X1_addToken_31 : Cond.fieldLink RX1 31 "OneWinter$Reader" "tokens" "I" ∈ wsX1_addToken := by decide +kernel
theorem f_X1_addToken_22 : Cond.fieldLink RX1 22 "OneWinter$Reader" "sorts" "[I" ∈ wsX1_addToken := by decide +kernel
theorem f_X1_addToken_25 : Cond.fieldLink RX1 25 "OneWinter$Reader" "values" "[I" ∈ wsX1_addToken := by decide +kernel
theorem f_X1_addToken_28 : Cond.fieldLink RX1 28 "OneWinter$Reader" "places" "[I" ∈ wsX1_addToken := by decide +kernel
theorem f_X1_sortNow_34 : Cond.fieldLink RX1 34 "OneWinter$Reader" "at" "I" ∈ wsX1_sortNow := by decide +kernel
theorem f_X1_sortNow_31 : Cond.fieldLink RX1 31 "OneWinter$Reader" "tokens" "I" ∈ wsX1_sortNow := by decide +kernel
theorem f_X1_sortNow_22 : Cond.fieldLink RX1 22 "OneWinter$Reader" "sorts" "[I" ∈ wsX1_sortNow := by decide +kernel
theorem f_X1_refuse_34 : Cond.fieldLink RX1 34 "OneWinter$Reader" "at" "I" ∈ wsX1_refuse := by decide +kernel
theorem f_X1_refuse_31 : Cond.fieldLink RX1 31 "OneWinter$Reader" "tokens" "I" ∈ wsX1_refuse := by decide +kernel
theorem f_X1_refuse_28 : Cond.fieldLink RX1 28 "OneWinter$Reader" "places" "[I" ∈ wsX1_refuse := by decide +kernel
theorem f_X1_refuse_15 : Cond.fieldLink RX1 15 "OneWinter$Reader" "size" "I" ∈ wsX1_refuse := by decide +kernel
theorem f_X1_refuse_19 : Cond.fieldLink RX1 19 "OneWinter$Reader" "fault" "I" ∈ wsX1_refuse := by decide +kernel
theorem f_X1_take_34 : Cond.fieldLink RX1 34 "OneWinter$Reader" "at" "I" ∈ wsX1_take := by decide +kernel
theorem f_X1_write_37 : Cond.fieldLink RX1 37 "OneWinter$Reader" "into" "LOneWinter$Text;" ∈ wsX1_write := by decide +kernel
theorem in_X1_part_X1 : ∀ w ∈ wsX10, w ∈ wsX1_part := fun w h => List.mem_cons_of_mem _ (List.mem_append_left _ (List.mem_append_right _ h))
theorem in_X1_part_X3 : ∀ w ∈ wsX30, w ∈ wsX1_part := fun w h => List.mem_cons_of_mem _ (List.mem_append_right _ h)
theorem f_X1_part_37 : Cond.fieldLink RX1 37 "OneWinter$Reader" "into" "LOneWinter$Text;" ∈ wsX1_part := by decide +kernel
theorem in_X1_either_X1 : ∀ w ∈ wsX10, w ∈ wsX1_either := fun w h => List.mem_cons_of_mem _ (List.mem_append_left _ (List.mem_append_right _ h))
theorem in_X1_either_X3 : ∀ w ∈ wsX30, w ∈ wsX1_either := fun w h => List.mem_cons_of_mem _ (List.mem_append_right _ h)
theorem f_X1_either_34 : Cond.fieldLink RX1 34 "OneWinter$Reader" "at" "I" ∈ wsX1_either := by decide +kernel
theorem in_X1_both_X1 : ∀ w ∈ wsX10, w ∈ wsX1_both := fun w h => List.mem_cons_of_mem _ (List.mem_append_left _ (List.mem_append_right _ h))
theorem in_X1_both_X3 : ∀ w ∈ wsX30, w ∈ wsX1_both := fun w h => List.mem_cons_of_mem _ (List.mem_append_right _ h)
theorem f_X1_both_34 : Cond.fieldLink RX1 34 "OneWinter$Reader" "at" "I" ∈ wsX1_both := by decide +kernel
theorem in_X1_negated_X1 : ∀ w ∈ wsX10, w ∈ wsX1_negated := fun w h => List.mem_cons_of_mem _ (List.mem_append_left _ (List.mem_append_right _ h))
theorem in_X1_negated_X3 : ∀ w ∈ wsX30, w ∈ wsX1_negated := fun w h => List.mem_cons_of_mem _ (List.mem_append_right _ h)
theorem f_X1_negated_34 : Cond.fieldLink RX1 34 "OneWinter$Reader" "at" "I" ∈ wsX1_negated := by decide +kernel
theorem in_X1_compared_X1 : ∀ w ∈ wsX10, w ∈ wsX1_compared := fun w h => List.mem_cons_of_mem _ (List.mem_append_left _ (List.mem_append_right _ h))
theorem in_X1_compared_X3 : ∀ w ∈ wsX30, w ∈ wsX1_compared := fun w h => List.mem_cons_of_mem _ (List.mem_append_right _ h)
theorem f_X1_compared_34 : Cond.fieldLink RX1 34 "OneWinter$Reader" "at" "I" ∈ wsX1_compared := by decide +kernel
theorem in_X1_sum_X1 : ∀ w ∈ wsX10, w ∈ wsX1_sum := fun w h => List.mem_cons_of_mem _ (List.mem_append_left _ (List.mem_append_right _ h))
theorem in_X1_sum_X3 : ∀ w ∈ wsX30, w ∈ wsX1_sum := fun w h => List.mem_cons_of_mem _ (List.mem_append_right _ h)
theorem f_X1_sum_34 : Cond.fieldLink RX1 34 "OneWinter$Reader" "at" "I" ∈ wsX1_sum := by decide +kernel
theorem in_X1_term_X1 : ∀ w ∈ wsX10, w ∈ wsX1_term := fun w h => List.mem_cons_of_mem _ (List.mem_append_left _ (List.mem_append_right _ h))
theorem in_X1_term_X3 : ∀ w ∈ wsX30, w ∈ wsX1_term := fun w h => List.mem_cons_of_mem _ (List.mem_append_right _ h)
theorem f_X1_term_34 : Cond.fieldLink RX1 34 "OneWinter$Reader" "at" "I" ∈ wsX1_term := by decide +kernel
theorem in_X1_one_X1 : ∀ w ∈ wsX10, w ∈ wsX1_one := fun w h => List.mem_cons_of_mem _ (List.mem_append_left _ (List.mem_append_right _ h))
theorem in_X1_one_X3 : ∀ w ∈ wsX30, w ∈ wsX1_one := fun w h => List.mem_cons_of_mem _ (List.mem_append_right _ h)
theorem f_X1_one_34 : Cond.fieldLink RX1 34 "OneWinter$Reader" "at" "I" ∈ wsX1_one := by decide +kernel
theorem f_X1_operandNow_34 : Cond.fieldLink RX1 34 "OneWinter$Reader" "at" "I" ∈ wsX1_operandNow := by decide +kernel
theorem f_X1_operandNow_25 : Cond.fieldLink RX1 25 "OneWinter$Reader" "values" "[I" ∈ wsX1_operandNow := by decide +kernel
theorem in_X2_isMissing_X2 : ∀ w ∈ wsX20, w ∈ wsX2_isMissing := fun w h => List.mem_cons_of_mem _ (List.mem_append_right _ h)
theorem f_X2_isMissing_9 : Cond.fieldLink RX2 9 "OneWinter$Sheet" "sort" "I" ∈ wsX2_isMissing := by decide +kernel
theorem f_X2_become_9 : Cond.fieldLink RX2 9 "OneWinter$Sheet" "sort" "I" ∈ wsX2_become := by decide +kernel
theorem f_X2_become_15 : Cond.fieldLink RX2 15 "OneWinter$Sheet" "size" "I" ∈ wsX2_become := by decide +kernel
theorem f_X2_become_18 : Cond.fieldLink RX2 18 "OneWinter$Sheet" "items" "[I" ∈ wsX2_become := by decide +kernel
theorem in_X2_holds_X2 : ∀ w ∈ wsX20, w ∈ wsX2_holds := fun w h => List.mem_cons_of_mem _ (List.mem_append_right _ h)
theorem f_X2_holds_15 : Cond.fieldLink RX2 15 "OneWinter$Sheet" "size" "I" ∈ wsX2_holds := by decide +kernel
theorem f_X2_put_15 : Cond.fieldLink RX2 15 "OneWinter$Sheet" "size" "I" ∈ wsX2_put := by decide +kernel
theorem f_X2_put_18 : Cond.fieldLink RX2 18 "OneWinter$Sheet" "items" "[I" ∈ wsX2_put := by decide +kernel
theorem f_X2_put_9 : Cond.fieldLink RX2 9 "OneWinter$Sheet" "sort" "I" ∈ wsX2_put := by decide +kernel
theorem in_X3_clear_X3 : ∀ w ∈ wsX30, w ∈ wsX3_clear := fun w h => List.mem_cons_of_mem _ (List.mem_append_right _ h)
theorem f_X3_clear_18 : Cond.fieldLink RX3 18 "OneWinter$Text" "made" "I" ∈ wsX3_clear := by decide +kernel
theorem f_X3_add_18 : Cond.fieldLink RX3 18 "OneWinter$Text" "made" "I" ∈ wsX3_add := by decide +kernel
theorem f_X3_add_9 : Cond.fieldLink RX3 9 "OneWinter$Text" "codes" "[I" ∈ wsX3_add := by decide +kernel
theorem f_X3_endPart_15 : Cond.fieldLink RX3 15 "OneWinter$Text" "ends" "[I" ∈ wsX3_endPart := by decide +kernel
theorem f_X3_endPart_18 : Cond.fieldLink RX3 18 "OneWinter$Text" "made" "I" ∈ wsX3_endPart := by decide +kernel
theorem f_X3_valueOf_15 : Cond.fieldLink RX3 15 "OneWinter$Text" "ends" "[I" ∈ wsX3_valueOf := by decide +kernel
theorem f_X3_valueOf_9 : Cond.fieldLink RX3 9 "OneWinter$Text" "codes" "[I" ∈ wsX3_valueOf := by decide +kernel
theorem in_X4_become_X4 : ∀ w ∈ wsX40, w ∈ wsX4_become := fun w h => List.mem_cons_of_mem _ (List.mem_append_right _ h)
theorem f_X4_become_9 : Cond.fieldLink RX4 9 "OneWinter$User" "kind" "I" ∈ wsX4_become := by decide +kernel
theorem f_X4_become_15 : Cond.fieldLink RX4 15 "OneWinter$User" "number" "I" ∈ wsX4_become := by decide +kernel
theorem f_X4_become_18 : Cond.fieldLink RX4 18 "OneWinter$User" "town" "I" ∈ wsX4_become := by decide +kernel
theorem in_X4_ofWinter_X4 : ∀ w ∈ wsX40, w ∈ wsX4_ofWinter := fun w h => List.mem_cons_of_mem _ (List.mem_append_right _ h)
theorem f_X4_ofWinter_9 : Cond.fieldLink RX4 9 "OneWinter$User" "kind" "I" ∈ wsX4_ofWinter := by decide +kernel
theorem f_X4_ofWinter_15 : Cond.fieldLink RX4 15 "OneWinter$User" "number" "I" ∈ wsX4_ofWinter := by decide +kernel
theorem in_X4_ofMild_X4 : ∀ w ∈ wsX40, w ∈ wsX4_ofMild := fun w h => List.mem_cons_of_mem _ (List.mem_append_right _ h)
theorem f_X4_ofMild_9 : Cond.fieldLink RX4 9 "OneWinter$User" "kind" "I" ∈ wsX4_ofMild := by decide +kernel
theorem f_X4_ofMild_15 : Cond.fieldLink RX4 15 "OneWinter$User" "number" "I" ∈ wsX4_ofMild := by decide +kernel
theorem in_X5_set_X5 : ∀ w ∈ wsX50, w ∈ wsX5_set := fun w h => List.mem_cons_of_mem _ (List.mem_append_left _ (List.mem_append_right _ h))
theorem in_X5_set_X4 : ∀ w ∈ wsX40, w ∈ wsX5_set := fun w h => List.mem_cons_of_mem _ (List.mem_append_right _ h)
theorem in_X5_putShare_X5 : ∀ w ∈ wsX50, w ∈ wsX5_putShare := fun w h => List.mem_cons_of_mem _ (List.mem_append_right _ h)
theorem k_X5_putShare_97 : Cond.constant RX5 97 (1073741823) ∈ wsX5_putShare := by decide +kernel
theorem f_X5_putShare_13 : Cond.fieldLink RX5 13 "OneWinter" "nights" "I" ∈ wsX5_putShare := by decide +kernel
theorem f_X5_putCold_9 : Cond.fieldLink RX5 9 "OneWinter" "colds" "[I" ∈ wsX5_putCold := by decide +kernel
theorem f_X5_putNumber_19 : Cond.fieldLink RX5 19 "OneWinter" "crowd" "[LOneWinter$User;" ∈ wsX5_putNumber := by decide +kernel
theorem f_X5_putNumber_108 : Cond.fieldLink RX5 108 "OneWinter$User" "number" "I" ∈ wsX5_putNumber := by decide +kernel
theorem f_X5_putTown_19 : Cond.fieldLink RX5 19 "OneWinter" "crowd" "[LOneWinter$User;" ∈ wsX5_putTown := by decide +kernel
theorem f_X5_putTown_114 : Cond.fieldLink RX5 114 "OneWinter$User" "town" "I" ∈ wsX5_putTown := by decide +kernel
theorem f_X5_user_23 : Cond.fieldLink RX5 23 "OneWinter" "here" "I" ∈ wsX5_user := by decide +kernel
theorem f_X5_user_19 : Cond.fieldLink RX5 19 "OneWinter" "crowd" "[LOneWinter$User;" ∈ wsX5_user := by decide +kernel
theorem in_X5_told_X5 : ∀ w ∈ wsX50, w ∈ wsX5_told := fun w h => List.mem_cons_of_mem _ (List.mem_append_left _ (List.mem_append_left _ (List.mem_append_right _ h)))
theorem in_X5_told_X4 : ∀ w ∈ wsX40, w ∈ wsX5_told := fun w h => List.mem_cons_of_mem _ (List.mem_append_left _ (List.mem_append_right _ h))
theorem in_X5_told_X3 : ∀ w ∈ wsX30, w ∈ wsX5_told := fun w h => List.mem_cons_of_mem _ (List.mem_append_right _ h)
theorem f_X5_told_13 : Cond.fieldLink RX5 13 "OneWinter" "nights" "I" ∈ wsX5_told := by decide +kernel
theorem f_X5_told_9 : Cond.fieldLink RX5 9 "OneWinter" "colds" "[I" ∈ wsX5_told := by decide +kernel
theorem f_X5_told_19 : Cond.fieldLink RX5 19 "OneWinter" "crowd" "[LOneWinter$User;" ∈ wsX5_told := by decide +kernel
theorem f_X5_told_108 : Cond.fieldLink RX5 108 "OneWinter$User" "number" "I" ∈ wsX5_told := by decide +kernel
theorem f_X5_told_114 : Cond.fieldLink RX5 114 "OneWinter$User" "town" "I" ∈ wsX5_told := by decide +kernel
theorem f_X5_told_124 : Cond.fieldLink RX5 124 "OneWinter$User" "kind" "I" ∈ wsX5_told := by decide +kernel
theorem in_X5_isUser_X5 : ∀ w ∈ wsX50, w ∈ wsX5_isUser := fun w h => List.mem_cons_of_mem _ (List.mem_append_right _ h)
theorem f_X5_isUser_23 : Cond.fieldLink RX5 23 "OneWinter" "here" "I" ∈ wsX5_isUser := by decide +kernel
theorem f_X5_feed_34 : Cond.fieldLink RX5 34 "OneWinter" "reader" "LOneWinter$Reader;" ∈ wsX5_feed := by decide +kernel
theorem f_X5_feed_139 : Cond.fieldLink RX5 139 "OneWinter$Reader" "size" "I" ∈ wsX5_feed := by decide +kernel
theorem in_X5_text_X5 : ∀ w ∈ wsX50, w ∈ wsX5_text := fun w h => List.mem_cons_of_mem _ (List.mem_append_left _ (List.mem_append_left _ (List.mem_append_right _ h)))
theorem in_X5_text_X1 : ∀ w ∈ wsX10, w ∈ wsX5_text := fun w h => List.mem_cons_of_mem _ (List.mem_append_left _ (List.mem_append_right _ h))
theorem in_X5_text_X3 : ∀ w ∈ wsX30, w ∈ wsX5_text := fun w h => List.mem_cons_of_mem _ (List.mem_append_right _ h)
theorem f_X5_text_44 : Cond.fieldLink RX5 44 "OneWinter" "textsRead" "I" ∈ wsX5_text := by decide +kernel
theorem f_X5_text_34 : Cond.fieldLink RX5 34 "OneWinter" "reader" "LOneWinter$Reader;" ∈ wsX5_text := by decide +kernel
theorem f_X5_text_40 : Cond.fieldLink RX5 40 "OneWinter" "texts" "[LOneWinter$Text;" ∈ wsX5_text := by decide +kernel
theorem f_X5_text_139 : Cond.fieldLink RX5 139 "OneWinter$Reader" "size" "I" ∈ wsX5_text := by decide +kernel
theorem f_X5_text_146 : Cond.fieldLink RX5 146 "OneWinter$Reader" "fault" "I" ∈ wsX5_text := by decide +kernel
theorem in_X5_force_X5 : ∀ w ∈ wsX50, w ∈ wsX5_force := fun w h => List.mem_cons_of_mem _ (List.mem_append_right _ h)
theorem f_X5_force_44 : Cond.fieldLink RX5 44 "OneWinter" "textsRead" "I" ∈ wsX5_force := by decide +kernel
theorem f_X5_force_47 : Cond.fieldLink RX5 47 "OneWinter" "rule" "I" ∈ wsX5_force := by decide +kernel
theorem f_X5_textAt_40 : Cond.fieldLink RX5 40 "OneWinter" "texts" "[LOneWinter$Text;" ∈ wsX5_textAt := by decide +kernel
theorem in_X5_has_X5 : ∀ w ∈ wsX50, w ∈ wsX5_has := fun w h => List.mem_cons_of_mem _ (List.mem_append_left _ (List.mem_append_left _ (List.mem_append_right _ h)))
theorem in_X5_has_X4 : ∀ w ∈ wsX40, w ∈ wsX5_has := fun w h => List.mem_cons_of_mem _ (List.mem_append_left _ (List.mem_append_right _ h))
theorem in_X5_has_X3 : ∀ w ∈ wsX30, w ∈ wsX5_has := fun w h => List.mem_cons_of_mem _ (List.mem_append_right _ h)
theorem k_X5_has_149 : Cond.constant RX5 149 (-100000) ∈ wsX5_has := by decide +kernel
theorem f_X5_has_19 : Cond.fieldLink RX5 19 "OneWinter" "crowd" "[LOneWinter$User;" ∈ wsX5_has := by decide +kernel
theorem f_X5_has_47 : Cond.fieldLink RX5 47 "OneWinter" "rule" "I" ∈ wsX5_has := by decide +kernel
theorem f_X5_has_9 : Cond.fieldLink RX5 9 "OneWinter" "colds" "[I" ∈ wsX5_has := by decide +kernel
theorem f_X5_has_13 : Cond.fieldLink RX5 13 "OneWinter" "nights" "I" ∈ wsX5_has := by decide +kernel
theorem in_X5_worth_X5 : ∀ w ∈ wsX50, w ∈ wsX5_worth := fun w h => List.mem_cons_of_mem _ (List.mem_append_left _ (List.mem_append_left _ (List.mem_append_right _ h)))
theorem in_X5_worth_X4 : ∀ w ∈ wsX40, w ∈ wsX5_worth := fun w h => List.mem_cons_of_mem _ (List.mem_append_left _ (List.mem_append_right _ h))
theorem in_X5_worth_X3 : ∀ w ∈ wsX30, w ∈ wsX5_worth := fun w h => List.mem_cons_of_mem _ (List.mem_append_right _ h)
theorem k_X5_worth_158 : Cond.constant RX5 158 (-1000000) ∈ wsX5_worth := by decide +kernel
theorem f_X5_worth_9 : Cond.fieldLink RX5 9 "OneWinter" "colds" "[I" ∈ wsX5_worth := by decide +kernel
theorem f_X5_worth_13 : Cond.fieldLink RX5 13 "OneWinter" "nights" "I" ∈ wsX5_worth := by decide +kernel
theorem in_X5_share_X5 : ∀ w ∈ wsX50, w ∈ wsX5_share := fun w h => List.mem_cons_of_mem _ (List.mem_append_left _ (List.mem_append_right _ h))
theorem in_X5_share_X3 : ∀ w ∈ wsX30, w ∈ wsX5_share := fun w h => List.mem_cons_of_mem _ (List.mem_append_right _ h)
theorem f_X5_share_13 : Cond.fieldLink RX5 13 "OneWinter" "nights" "I" ∈ wsX5_share := by decide +kernel
theorem in_X5_mean_X5 : ∀ w ∈ wsX50, w ∈ wsX5_mean := fun w h => List.mem_cons_of_mem _ (List.mem_append_left _ (List.mem_append_left _ (List.mem_append_right _ h)))
theorem in_X5_mean_X4 : ∀ w ∈ wsX40, w ∈ wsX5_mean := fun w h => List.mem_cons_of_mem _ (List.mem_append_left _ (List.mem_append_right _ h))
theorem in_X5_mean_X3 : ∀ w ∈ wsX30, w ∈ wsX5_mean := fun w h => List.mem_cons_of_mem _ (List.mem_append_right _ h)
theorem k_X5_mean_175 : Cond.constantLong RX5 175 (-4611686018427387904) ∈ wsX5_mean := by decide +kernel
theorem f_X5_mean_19 : Cond.fieldLink RX5 19 "OneWinter" "crowd" "[LOneWinter$User;" ∈ wsX5_mean := by decide +kernel
theorem f_X5_mean_9 : Cond.fieldLink RX5 9 "OneWinter" "colds" "[I" ∈ wsX5_mean := by decide +kernel
theorem f_X5_mean_13 : Cond.fieldLink RX5 13 "OneWinter" "nights" "I" ∈ wsX5_mean := by decide +kernel
theorem in_X5_firstTooLong_X5 : ∀ w ∈ wsX50, w ∈ wsX5_firstTooLong := fun w h => List.mem_cons_of_mem _ (List.mem_append_left _ (List.mem_append_right _ h))
theorem in_X5_firstTooLong_X3 : ∀ w ∈ wsX30, w ∈ wsX5_firstTooLong := fun w h => List.mem_cons_of_mem _ (List.mem_append_right _ h)
theorem f_X5_firstTooLong_13 : Cond.fieldLink RX5 13 "OneWinter" "nights" "I" ∈ wsX5_firstTooLong := by decide +kernel
theorem in_X5_longest_X5 : ∀ w ∈ wsX50, w ∈ wsX5_longest := fun w h => List.mem_cons_of_mem _ (List.mem_append_right _ h)
theorem f_X5_longest_13 : Cond.fieldLink RX5 13 "OneWinter" "nights" "I" ∈ wsX5_longest := by decide +kernel
theorem m_X5_longest_189 : Cond.methodLink RX5 189 Lib.Math.max.name ∈ wsX5_longest ∧ Cond.static Lib.Math.max.name ∈ wsX5_longest ∧ Cond.initialized "java/lang/Math" ∈ wsX5_longest ∧ Cond.code Lib.Math.max.name Lib.Math.max.code 2 (some .int) ∈ wsX5_longest := by decide +kernel
theorem in_X5_mostOf_X5 : ∀ w ∈ wsX50, w ∈ wsX5_mostOf := fun w h => List.mem_cons_of_mem _ (List.mem_append_left _ (List.mem_append_right _ h))
theorem in_X5_mostOf_X3 : ∀ w ∈ wsX30, w ∈ wsX5_mostOf := fun w h => List.mem_cons_of_mem _ (List.mem_append_right _ h)
theorem f_X5_mostOf_63 : Cond.fieldLink RX5 63 "OneWinter" "names" "[I" ∈ wsX5_mostOf := by decide +kernel
theorem f_X5_mostOf_9 : Cond.fieldLink RX5 9 "OneWinter" "colds" "[I" ∈ wsX5_mostOf := by decide +kernel
theorem f_X5_mostOf_23 : Cond.fieldLink RX5 23 "OneWinter" "here" "I" ∈ wsX5_mostOf := by decide +kernel
theorem f_X5_mostOf_47 : Cond.fieldLink RX5 47 "OneWinter" "rule" "I" ∈ wsX5_mostOf := by decide +kernel
theorem f_X5_mostOf_66 : Cond.fieldLink RX5 66 "OneWinter" "stack" "[I" ∈ wsX5_mostOf := by decide +kernel
theorem in_X5_hasAt_X5 : ∀ w ∈ wsX50, w ∈ wsX5_hasAt := fun w h => List.mem_cons_of_mem _ (List.mem_append_left _ (List.mem_append_left _ (List.mem_append_right _ h)))
theorem in_X5_hasAt_X4 : ∀ w ∈ wsX40, w ∈ wsX5_hasAt := fun w h => List.mem_cons_of_mem _ (List.mem_append_left _ (List.mem_append_right _ h))
theorem in_X5_hasAt_X3 : ∀ w ∈ wsX30, w ∈ wsX5_hasAt := fun w h => List.mem_cons_of_mem _ (List.mem_append_right _ h)
theorem f_X5_hasAt_63 : Cond.fieldLink RX5 63 "OneWinter" "names" "[I" ∈ wsX5_hasAt := by decide +kernel
theorem f_X5_hasAt_108 : Cond.fieldLink RX5 108 "OneWinter$User" "number" "I" ∈ wsX5_hasAt := by decide +kernel
theorem f_X5_hasAt_23 : Cond.fieldLink RX5 23 "OneWinter" "here" "I" ∈ wsX5_hasAt := by decide +kernel
theorem f_X5_hasAt_114 : Cond.fieldLink RX5 114 "OneWinter$User" "town" "I" ∈ wsX5_hasAt := by decide +kernel
theorem f_X5_hasAt_66 : Cond.fieldLink RX5 66 "OneWinter" "stack" "[I" ∈ wsX5_hasAt := by decide +kernel
theorem in_X5_sumOf_X5 : ∀ w ∈ wsX50, w ∈ wsX5_sumOf := fun w h => List.mem_cons_of_mem _ (List.mem_append_left _ (List.mem_append_left _ (List.mem_append_right _ h)))
theorem in_X5_sumOf_X4 : ∀ w ∈ wsX40, w ∈ wsX5_sumOf := fun w h => List.mem_cons_of_mem _ (List.mem_append_left _ (List.mem_append_right _ h))
theorem in_X5_sumOf_X3 : ∀ w ∈ wsX30, w ∈ wsX5_sumOf := fun w h => List.mem_cons_of_mem _ (List.mem_append_right _ h)
theorem f_X5_sumOf_47 : Cond.fieldLink RX5 47 "OneWinter" "rule" "I" ∈ wsX5_sumOf := by decide +kernel
theorem in_X5_worthOf_X5 : ∀ w ∈ wsX50, w ∈ wsX5_worthOf := fun w h => List.mem_cons_of_mem _ (List.mem_append_left _ (List.mem_append_left _ (List.mem_append_right _ h)))
theorem in_X5_worthOf_X4 : ∀ w ∈ wsX40, w ∈ wsX5_worthOf := fun w h => List.mem_cons_of_mem _ (List.mem_append_left _ (List.mem_append_right _ h))
theorem in_X5_worthOf_X3 : ∀ w ∈ wsX30, w ∈ wsX5_worthOf := fun w h => List.mem_cons_of_mem _ (List.mem_append_right _ h)
theorem f_X5_worthOf_23 : Cond.fieldLink RX5 23 "OneWinter" "here" "I" ∈ wsX5_worthOf := by decide +kernel
theorem f_X5_worthOf_19 : Cond.fieldLink RX5 19 "OneWinter" "crowd" "[LOneWinter$User;" ∈ wsX5_worthOf := by decide +kernel
theorem f_X5_worthOf_114 : Cond.fieldLink RX5 114 "OneWinter$User" "town" "I" ∈ wsX5_worthOf := by decide +kernel
theorem m_X5_bounded_207 : Cond.methodLink RX5 207 Lib.Math.min.name ∈ wsX5_bounded ∧ Cond.static Lib.Math.min.name ∈ wsX5_bounded ∧ Cond.initialized "java/lang/Math" ∈ wsX5_bounded ∧ Cond.code Lib.Math.min.name Lib.Math.min.code 2 (some .int) ∈ wsX5_bounded := by decide +kernel
theorem m_X5_bounded_189 : Cond.methodLink RX5 189 Lib.Math.max.name ∈ wsX5_bounded ∧ Cond.static Lib.Math.max.name ∈ wsX5_bounded ∧ Cond.initialized "java/lang/Math" ∈ wsX5_bounded ∧ Cond.code Lib.Math.max.name Lib.Math.max.code 2 (some .int) ∈ wsX5_bounded := by decide +kernel
theorem m_X5_lowest_210 : Cond.methodLink RX5 210 Lib.Math.abs.name ∈ wsX5_lowest ∧ Cond.static Lib.Math.abs.name ∈ wsX5_lowest ∧ Cond.initialized "java/lang/Math" ∈ wsX5_lowest ∧ Cond.code Lib.Math.abs.name Lib.Math.abs.code 1 (some .int) ∈ wsX5_lowest := by decide +kernel
theorem k_X5_lowest_175 : Cond.constantLong RX5 175 (-4611686018427387904) ∈ wsX5_lowest := by decide +kernel
theorem in_X5_best_X5 : ∀ w ∈ wsX50, w ∈ wsX5_best := fun w h => List.mem_cons_of_mem _ (List.mem_append_left _ (List.mem_append_left _ (List.mem_append_right _ h)))
theorem in_X5_best_X3 : ∀ w ∈ wsX30, w ∈ wsX5_best := fun w h => List.mem_cons_of_mem _ (List.mem_append_left _ (List.mem_append_right _ h))
theorem in_X5_best_X4 : ∀ w ∈ wsX40, w ∈ wsX5_best := fun w h => List.mem_cons_of_mem _ (List.mem_append_right _ h)
theorem k_X5_best_158 : Cond.constant RX5 158 (-1000000) ∈ wsX5_best := by decide +kernel
theorem f_X5_best_9 : Cond.fieldLink RX5 9 "OneWinter" "colds" "[I" ∈ wsX5_best := by decide +kernel
theorem in_X5_settle_X5 : ∀ w ∈ wsX50, w ∈ wsX5_settle := fun w h => List.mem_cons_of_mem _ (List.mem_append_left _ (List.mem_append_left _ (List.mem_append_right _ h)))
theorem in_X5_settle_X3 : ∀ w ∈ wsX30, w ∈ wsX5_settle := fun w h => List.mem_cons_of_mem _ (List.mem_append_left _ (List.mem_append_right _ h))
theorem in_X5_settle_X4 : ∀ w ∈ wsX40, w ∈ wsX5_settle := fun w h => List.mem_cons_of_mem _ (List.mem_append_right _ h)
theorem f_X5_settle_13 : Cond.fieldLink RX5 13 "OneWinter" "nights" "I" ∈ wsX5_settle := by decide +kernel
theorem f_X5_settle_9 : Cond.fieldLink RX5 9 "OneWinter" "colds" "[I" ∈ wsX5_settle := by decide +kernel
theorem in_X5_cut_X5 : ∀ w ∈ wsX50, w ∈ wsX5_cut := fun w h => List.mem_cons_of_mem _ (List.mem_append_left _ (List.mem_append_left _ (List.mem_append_right _ h)))
theorem in_X5_cut_X4 : ∀ w ∈ wsX40, w ∈ wsX5_cut := fun w h => List.mem_cons_of_mem _ (List.mem_append_left _ (List.mem_append_right _ h))
theorem in_X5_cut_X3 : ∀ w ∈ wsX30, w ∈ wsX5_cut := fun w h => List.mem_cons_of_mem _ (List.mem_append_right _ h)
theorem in_X5_change_X5 : ∀ w ∈ wsX50, w ∈ wsX5_change := fun w h => List.mem_cons_of_mem _ (List.mem_append_left _ (List.mem_append_left _ (List.mem_append_right _ h)))
theorem in_X5_change_X4 : ∀ w ∈ wsX40, w ∈ wsX5_change := fun w h => List.mem_cons_of_mem _ (List.mem_append_left _ (List.mem_append_right _ h))
theorem in_X5_change_X3 : ∀ w ∈ wsX30, w ∈ wsX5_change := fun w h => List.mem_cons_of_mem _ (List.mem_append_right _ h)
theorem k_X5_change_158 : Cond.constant RX5 158 (-1000000) ∈ wsX5_change := by decide +kernel
theorem f_X5_change_9 : Cond.fieldLink RX5 9 "OneWinter" "colds" "[I" ∈ wsX5_change := by decide +kernel
theorem in_X5_forTown_X5 : ∀ w ∈ wsX50, w ∈ wsX5_forTown := fun w h => List.mem_cons_of_mem _ (List.mem_append_left _ (List.mem_append_left _ (List.mem_append_right _ h)))
theorem in_X5_forTown_X4 : ∀ w ∈ wsX40, w ∈ wsX5_forTown := fun w h => List.mem_cons_of_mem _ (List.mem_append_left _ (List.mem_append_right _ h))
theorem in_X5_forTown_X3 : ∀ w ∈ wsX30, w ∈ wsX5_forTown := fun w h => List.mem_cons_of_mem _ (List.mem_append_right _ h)
theorem k_X5_forTown_158 : Cond.constant RX5 158 (-1000000) ∈ wsX5_forTown := by decide +kernel
theorem f_X5_forTown_9 : Cond.fieldLink RX5 9 "OneWinter" "colds" "[I" ∈ wsX5_forTown := by decide +kernel
theorem in_X5_heaviest_X5 : ∀ w ∈ wsX50, w ∈ wsX5_heaviest := fun w h => List.mem_cons_of_mem _ (List.mem_append_left _ (List.mem_append_left _ (List.mem_append_right _ h)))
theorem in_X5_heaviest_X4 : ∀ w ∈ wsX40, w ∈ wsX5_heaviest := fun w h => List.mem_cons_of_mem _ (List.mem_append_left _ (List.mem_append_right _ h))
theorem in_X5_heaviest_X3 : ∀ w ∈ wsX30, w ∈ wsX5_heaviest := fun w h => List.mem_cons_of_mem _ (List.mem_append_right _ h)
theorem k_X5_heaviest_158 : Cond.constant RX5 158 (-1000000) ∈ wsX5_heaviest := by decide +kernel
theorem f_X5_heaviest_23 : Cond.fieldLink RX5 23 "OneWinter" "here" "I" ∈ wsX5_heaviest := by decide +kernel
theorem f_X5_heaviest_19 : Cond.fieldLink RX5 19 "OneWinter" "crowd" "[LOneWinter$User;" ∈ wsX5_heaviest := by decide +kernel
theorem f_X5_heaviest_9 : Cond.fieldLink RX5 9 "OneWinter" "colds" "[I" ∈ wsX5_heaviest := by decide +kernel
theorem f_X5_heaviest_13 : Cond.fieldLink RX5 13 "OneWinter" "nights" "I" ∈ wsX5_heaviest := by decide +kernel
theorem m_X5_heaviest_210 : Cond.methodLink RX5 210 Lib.Math.abs.name ∈ wsX5_heaviest ∧ Cond.static Lib.Math.abs.name ∈ wsX5_heaviest ∧ Cond.initialized "java/lang/Math" ∈ wsX5_heaviest ∧ Cond.code Lib.Math.abs.name Lib.Math.abs.code 1 (some .int) ∈ wsX5_heaviest := by decide +kernel
theorem in_X5_findBest_X5 : ∀ w ∈ wsX50, w ∈ wsX5_findBest := fun w h => List.mem_cons_of_mem _ (List.mem_append_left _ (List.mem_append_left _ (List.mem_append_right _ h)))
theorem in_X5_findBest_X3 : ∀ w ∈ wsX30, w ∈ wsX5_findBest := fun w h => List.mem_cons_of_mem _ (List.mem_append_left _ (List.mem_append_right _ h))
theorem in_X5_findBest_X4 : ∀ w ∈ wsX40, w ∈ wsX5_findBest := fun w h => List.mem_cons_of_mem _ (List.mem_append_right _ h)
theorem in_X5_fillLimits_X5 : ∀ w ∈ wsX50, w ∈ wsX5_fillLimits := fun w h => List.mem_cons_of_mem _ (List.mem_append_left _ (List.mem_append_right _ h))
theorem in_X5_fillLimits_X3 : ∀ w ∈ wsX30, w ∈ wsX5_fillLimits := fun w h => List.mem_cons_of_mem _ (List.mem_append_right _ h)
theorem f_X5_fillLimits_72 : Cond.fieldLink RX5 72 "OneWinter" "limits" "[I" ∈ wsX5_fillLimits := by decide +kernel
theorem in_X5_fillAhead_X5 : ∀ w ∈ wsX50, w ∈ wsX5_fillAhead := fun w h => List.mem_cons_of_mem _ (List.mem_append_left _ (List.mem_append_left _ (List.mem_append_right _ h)))
theorem in_X5_fillAhead_X4 : ∀ w ∈ wsX40, w ∈ wsX5_fillAhead := fun w h => List.mem_cons_of_mem _ (List.mem_append_left _ (List.mem_append_right _ h))
theorem in_X5_fillAhead_X3 : ∀ w ∈ wsX30, w ∈ wsX5_fillAhead := fun w h => List.mem_cons_of_mem _ (List.mem_append_right _ h)
theorem f_X5_fillAhead_72 : Cond.fieldLink RX5 72 "OneWinter" "limits" "[I" ∈ wsX5_fillAhead := by decide +kernel
theorem m_X5_fillAhead_207 : Cond.methodLink RX5 207 Lib.Math.min.name ∈ wsX5_fillAhead ∧ Cond.static Lib.Math.min.name ∈ wsX5_fillAhead ∧ Cond.initialized "java/lang/Math" ∈ wsX5_fillAhead ∧ Cond.code Lib.Math.min.name Lib.Math.min.code 2 (some .int) ∈ wsX5_fillAhead := by decide +kernel
theorem m_X5_fillAhead_189 : Cond.methodLink RX5 189 Lib.Math.max.name ∈ wsX5_fillAhead ∧ Cond.static Lib.Math.max.name ∈ wsX5_fillAhead ∧ Cond.initialized "java/lang/Math" ∈ wsX5_fillAhead ∧ Cond.code Lib.Math.max.name Lib.Math.max.code 2 (some .int) ∈ wsX5_fillAhead := by decide +kernel
theorem f_X5_fillAhead_75 : Cond.fieldLink RX5 75 "OneWinter" "ahead" "[I" ∈ wsX5_fillAhead := by decide +kernel
theorem f_X5_aheadBehind_72 : Cond.fieldLink RX5 72 "OneWinter" "limits" "[I" ∈ wsX5_aheadBehind := by decide +kernel
theorem k_X5_aheadBehind_248 : Cond.constant RX5 248 (-2000000000) ∈ wsX5_aheadBehind := by decide +kernel
theorem f_X5_aheadBehind_75 : Cond.fieldLink RX5 75 "OneWinter" "ahead" "[I" ∈ wsX5_aheadBehind := by decide +kernel
theorem in_X5_allAt_X5 : ∀ w ∈ wsX50, w ∈ wsX5_allAt := fun w h => List.mem_cons_of_mem _ (List.mem_append_left _ (List.mem_append_left _ (List.mem_append_right _ h)))
theorem in_X5_allAt_X4 : ∀ w ∈ wsX40, w ∈ wsX5_allAt := fun w h => List.mem_cons_of_mem _ (List.mem_append_left _ (List.mem_append_right _ h))
theorem in_X5_allAt_X3 : ∀ w ∈ wsX30, w ∈ wsX5_allAt := fun w h => List.mem_cons_of_mem _ (List.mem_append_right _ h)
theorem f_X5_allAt_47 : Cond.fieldLink RX5 47 "OneWinter" "rule" "I" ∈ wsX5_allAt := by decide +kernel
theorem f_X5_allAt_23 : Cond.fieldLink RX5 23 "OneWinter" "here" "I" ∈ wsX5_allAt := by decide +kernel
theorem f_X5_allAt_19 : Cond.fieldLink RX5 19 "OneWinter" "crowd" "[LOneWinter$User;" ∈ wsX5_allAt := by decide +kernel
theorem f_X5_allAt_9 : Cond.fieldLink RX5 9 "OneWinter" "colds" "[I" ∈ wsX5_allAt := by decide +kernel
theorem k_X5_cutShare_97 : Cond.constant RX5 97 (1073741823) ∈ wsX5_cutShare := by decide +kernel
theorem in_X5_apartBy_X5 : ∀ w ∈ wsX50, w ∈ wsX5_apartBy := fun w h => List.mem_cons_of_mem _ (List.mem_append_left _ (List.mem_append_left _ (List.mem_append_right _ h)))
theorem in_X5_apartBy_X4 : ∀ w ∈ wsX40, w ∈ wsX5_apartBy := fun w h => List.mem_cons_of_mem _ (List.mem_append_left _ (List.mem_append_right _ h))
theorem in_X5_apartBy_X3 : ∀ w ∈ wsX30, w ∈ wsX5_apartBy := fun w h => List.mem_cons_of_mem _ (List.mem_append_right _ h)
theorem f_X5_apartBy_9 : Cond.fieldLink RX5 9 "OneWinter" "colds" "[I" ∈ wsX5_apartBy := by decide +kernel
theorem m_X5_apartBy_210 : Cond.methodLink RX5 210 Lib.Math.abs.name ∈ wsX5_apartBy ∧ Cond.static Lib.Math.abs.name ∈ wsX5_apartBy ∧ Cond.initialized "java/lang/Math" ∈ wsX5_apartBy ∧ Cond.code Lib.Math.abs.name Lib.Math.abs.code 1 (some .int) ∈ wsX5_apartBy := by decide +kernel
theorem in_X5_findFlip_X5 : ∀ w ∈ wsX50, w ∈ wsX5_findFlip := fun w h => List.mem_cons_of_mem _ (List.mem_append_left _ (List.mem_append_left _ (List.mem_append_right _ h)))
theorem in_X5_findFlip_X4 : ∀ w ∈ wsX40, w ∈ wsX5_findFlip := fun w h => List.mem_cons_of_mem _ (List.mem_append_left _ (List.mem_append_right _ h))
theorem in_X5_findFlip_X3 : ∀ w ∈ wsX30, w ∈ wsX5_findFlip := fun w h => List.mem_cons_of_mem _ (List.mem_append_right _ h)
theorem f_X5_findFlip_9 : Cond.fieldLink RX5 9 "OneWinter" "colds" "[I" ∈ wsX5_findFlip := by decide +kernel
theorem f_X5_findFlip_13 : Cond.fieldLink RX5 13 "OneWinter" "nights" "I" ∈ wsX5_findFlip := by decide +kernel
theorem in_X5_flipped_X5 : ∀ w ∈ wsX50, w ∈ wsX5_flipped := fun w h => List.mem_cons_of_mem _ (List.mem_append_right _ h)
theorem f_X5_flipped_13 : Cond.fieldLink RX5 13 "OneWinter" "nights" "I" ∈ wsX5_flipped := by decide +kernel
theorem in_X5_tells_X5 : ∀ w ∈ wsX50, w ∈ wsX5_tells := fun w h => List.mem_cons_of_mem _ (List.mem_append_left _ (List.mem_append_left _ (List.mem_append_left _ (List.mem_append_right _ h))))
theorem in_X5_tells_X2 : ∀ w ∈ wsX20, w ∈ wsX5_tells := fun w h => List.mem_cons_of_mem _ (List.mem_append_left _ (List.mem_append_left _ (List.mem_append_right _ h)))
theorem in_X5_tells_X4 : ∀ w ∈ wsX40, w ∈ wsX5_tells := fun w h => List.mem_cons_of_mem _ (List.mem_append_left _ (List.mem_append_right _ h))
theorem in_X5_tells_X3 : ∀ w ∈ wsX30, w ∈ wsX5_tells := fun w h => List.mem_cons_of_mem _ (List.mem_append_right _ h)
theorem f_X5_tells_52 : Cond.fieldLink RX5 52 "OneWinter" "sheets" "[LOneWinter$Sheet;" ∈ wsX5_tells := by decide +kernel
theorem f_X5_tells_256 : Cond.fieldLink RX5 256 "OneWinter$Sheet" "size" "I" ∈ wsX5_tells := by decide +kernel
theorem f_X5_tells_19 : Cond.fieldLink RX5 19 "OneWinter" "crowd" "[LOneWinter$User;" ∈ wsX5_tells := by decide +kernel
theorem f_X5_tells_47 : Cond.fieldLink RX5 47 "OneWinter" "rule" "I" ∈ wsX5_tells := by decide +kernel
theorem f_X5_tells_13 : Cond.fieldLink RX5 13 "OneWinter" "nights" "I" ∈ wsX5_tells := by decide +kernel
theorem in_X5_firstOtherwise_X2 : ∀ w ∈ wsX20, w ∈ wsX5_firstOtherwise := fun w h => List.mem_cons_of_mem _ (List.mem_append_left _ (List.mem_append_left _ (List.mem_append_left _ (List.mem_append_right _ h))))
theorem in_X5_firstOtherwise_X5 : ∀ w ∈ wsX50, w ∈ wsX5_firstOtherwise := fun w h => List.mem_cons_of_mem _ (List.mem_append_left _ (List.mem_append_left _ (List.mem_append_right _ h)))
theorem in_X5_firstOtherwise_X4 : ∀ w ∈ wsX40, w ∈ wsX5_firstOtherwise := fun w h => List.mem_cons_of_mem _ (List.mem_append_left _ (List.mem_append_right _ h))
theorem in_X5_firstOtherwise_X3 : ∀ w ∈ wsX30, w ∈ wsX5_firstOtherwise := fun w h => List.mem_cons_of_mem _ (List.mem_append_right _ h)
theorem f_X5_firstOtherwise_256 : Cond.fieldLink RX5 256 "OneWinter$Sheet" "size" "I" ∈ wsX5_firstOtherwise := by decide +kernel
theorem f_X5_firstOtherwise_272 : Cond.fieldLink RX5 272 "OneWinter$Sheet" "items" "[I" ∈ wsX5_firstOtherwise := by decide +kernel
theorem f_X5_firstOtherwise_9 : Cond.fieldLink RX5 9 "OneWinter" "colds" "[I" ∈ wsX5_firstOtherwise := by decide +kernel
theorem in_X5_usersTold_X5 : ∀ w ∈ wsX50, w ∈ wsX5_usersTold := fun w h => List.mem_cons_of_mem _ (List.mem_append_left _ (List.mem_append_left _ (List.mem_append_left _ (List.mem_append_right _ h))))
theorem in_X5_usersTold_X4 : ∀ w ∈ wsX40, w ∈ wsX5_usersTold := fun w h => List.mem_cons_of_mem _ (List.mem_append_left _ (List.mem_append_left _ (List.mem_append_right _ h)))
theorem in_X5_usersTold_X2 : ∀ w ∈ wsX20, w ∈ wsX5_usersTold := fun w h => List.mem_cons_of_mem _ (List.mem_append_left _ (List.mem_append_right _ h))
theorem in_X5_usersTold_X3 : ∀ w ∈ wsX30, w ∈ wsX5_usersTold := fun w h => List.mem_cons_of_mem _ (List.mem_append_right _ h)
theorem f_X5_usersTold_27 : Cond.fieldLink RX5 27 "OneWinter" "guess" "LOneWinter$User;" ∈ wsX5_usersTold := by decide +kernel
theorem f_X5_usersTold_124 : Cond.fieldLink RX5 124 "OneWinter$User" "kind" "I" ∈ wsX5_usersTold := by decide +kernel
theorem f_X5_usersTold_108 : Cond.fieldLink RX5 108 "OneWinter$User" "number" "I" ∈ wsX5_usersTold := by decide +kernel
theorem f_X5_usersTold_114 : Cond.fieldLink RX5 114 "OneWinter$User" "town" "I" ∈ wsX5_usersTold := by decide +kernel
theorem f_X5_usersTold_47 : Cond.fieldLink RX5 47 "OneWinter" "rule" "I" ∈ wsX5_usersTold := by decide +kernel
theorem f_X5_usersTold_13 : Cond.fieldLink RX5 13 "OneWinter" "nights" "I" ∈ wsX5_usersTold := by decide +kernel
theorem in_X5_textsTold_X5 : ∀ w ∈ wsX50, w ∈ wsX5_textsTold := fun w h => List.mem_cons_of_mem _ (List.mem_append_left _ (List.mem_append_left _ (List.mem_append_left _ (List.mem_append_right _ h))))
theorem in_X5_textsTold_X2 : ∀ w ∈ wsX20, w ∈ wsX5_textsTold := fun w h => List.mem_cons_of_mem _ (List.mem_append_left _ (List.mem_append_left _ (List.mem_append_right _ h)))
theorem in_X5_textsTold_X4 : ∀ w ∈ wsX40, w ∈ wsX5_textsTold := fun w h => List.mem_cons_of_mem _ (List.mem_append_left _ (List.mem_append_right _ h))
theorem in_X5_textsTold_X3 : ∀ w ∈ wsX30, w ∈ wsX5_textsTold := fun w h => List.mem_cons_of_mem _ (List.mem_append_right _ h)
theorem f_X5_textsTold_44 : Cond.fieldLink RX5 44 "OneWinter" "textsRead" "I" ∈ wsX5_textsTold := by decide +kernel
theorem f_X5_textsTold_13 : Cond.fieldLink RX5 13 "OneWinter" "nights" "I" ∈ wsX5_textsTold := by decide +kernel
theorem in_X5_nightsTold_X2 : ∀ w ∈ wsX20, w ∈ wsX5_nightsTold := fun w h => List.mem_cons_of_mem _ (List.mem_append_left _ (List.mem_append_left _ (List.mem_append_left _ (List.mem_append_right _ h))))
theorem in_X5_nightsTold_X5 : ∀ w ∈ wsX50, w ∈ wsX5_nightsTold := fun w h => List.mem_cons_of_mem _ (List.mem_append_left _ (List.mem_append_left _ (List.mem_append_right _ h)))
theorem in_X5_nightsTold_X4 : ∀ w ∈ wsX40, w ∈ wsX5_nightsTold := fun w h => List.mem_cons_of_mem _ (List.mem_append_left _ (List.mem_append_right _ h))
theorem in_X5_nightsTold_X3 : ∀ w ∈ wsX30, w ∈ wsX5_nightsTold := fun w h => List.mem_cons_of_mem _ (List.mem_append_right _ h)
theorem f_X5_nightsTold_256 : Cond.fieldLink RX5 256 "OneWinter$Sheet" "size" "I" ∈ wsX5_nightsTold := by decide +kernel
theorem f_X5_nightsTold_47 : Cond.fieldLink RX5 47 "OneWinter" "rule" "I" ∈ wsX5_nightsTold := by decide +kernel
theorem in_X5_film_X5 : ∀ w ∈ wsX50, w ∈ wsX5_film := fun w h => List.mem_cons_of_mem _ (List.mem_append_left _ (List.mem_append_left _ (List.mem_append_left _ (List.mem_append_right _ h))))
theorem in_X5_film_X2 : ∀ w ∈ wsX20, w ∈ wsX5_film := fun w h => List.mem_cons_of_mem _ (List.mem_append_left _ (List.mem_append_left _ (List.mem_append_right _ h)))
theorem in_X5_film_X4 : ∀ w ∈ wsX40, w ∈ wsX5_film := fun w h => List.mem_cons_of_mem _ (List.mem_append_left _ (List.mem_append_right _ h))
theorem in_X5_film_X3 : ∀ w ∈ wsX30, w ∈ wsX5_film := fun w h => List.mem_cons_of_mem _ (List.mem_append_right _ h)
theorem f_X5_film_52 : Cond.fieldLink RX5 52 "OneWinter" "sheets" "[LOneWinter$Sheet;" ∈ wsX5_film := by decide +kernel
theorem f_X5_film_13 : Cond.fieldLink RX5 13 "OneWinter" "nights" "I" ∈ wsX5_film := by decide +kernel
theorem f_X5_film_19 : Cond.fieldLink RX5 19 "OneWinter" "crowd" "[LOneWinter$User;" ∈ wsX5_film := by decide +kernel
theorem f_X5_film_47 : Cond.fieldLink RX5 47 "OneWinter" "rule" "I" ∈ wsX5_film := by decide +kernel
theorem f_X5_film_9 : Cond.fieldLink RX5 9 "OneWinter" "colds" "[I" ∈ wsX5_film := by decide +kernel
theorem in_X5_drawn_X5 : ∀ w ∈ wsX50, w ∈ wsX5_drawn := fun w h => List.mem_cons_of_mem _ (List.mem_append_left _ (List.mem_append_left _ (List.mem_append_right _ h)))
theorem in_X5_drawn_X4 : ∀ w ∈ wsX40, w ∈ wsX5_drawn := fun w h => List.mem_cons_of_mem _ (List.mem_append_left _ (List.mem_append_right _ h))
theorem in_X5_drawn_X3 : ∀ w ∈ wsX30, w ∈ wsX5_drawn := fun w h => List.mem_cons_of_mem _ (List.mem_append_right _ h)
theorem f_X5_drawn_69 : Cond.fieldLink RX5 69 "OneWinter" "drawnColds" "[I" ∈ wsX5_drawn := by decide +kernel
theorem f_X5_drawn_13 : Cond.fieldLink RX5 13 "OneWinter" "nights" "I" ∈ wsX5_drawn := by decide +kernel
theorem in_X5_chance_X5 : ∀ w ∈ wsX50, w ∈ wsX5_chance := fun w h => List.mem_cons_of_mem _ (List.mem_append_left _ (List.mem_append_left _ (List.mem_append_right _ h)))
theorem in_X5_chance_X4 : ∀ w ∈ wsX40, w ∈ wsX5_chance := fun w h => List.mem_cons_of_mem _ (List.mem_append_left _ (List.mem_append_right _ h))
theorem in_X5_chance_X3 : ∀ w ∈ wsX30, w ∈ wsX5_chance := fun w h => List.mem_cons_of_mem _ (List.mem_append_right _ h)
theorem k_X5_chance_175 : Cond.constantLong RX5 175 (-4611686018427387904) ∈ wsX5_chance := by decide +kernel
theorem f_X5_chance_69 : Cond.fieldLink RX5 69 "OneWinter" "drawnColds" "[I" ∈ wsX5_chance := by decide +kernel
theorem f_X5_chance_13 : Cond.fieldLink RX5 13 "OneWinter" "nights" "I" ∈ wsX5_chance := by decide +kernel
theorem k_X5_drawColds_284 : Cond.constant RX5 284 (1103515245) ∈ wsX5_drawColds := by decide +kernel
theorem f_X5_drawColds_69 : Cond.fieldLink RX5 69 "OneWinter" "drawnColds" "[I" ∈ wsX5_drawColds := by decide +kernel
theorem f_X5_image_59 : Cond.fieldLink RX5 59 "OneWinter" "kept" "LOneWinter$Image;" ∈ wsX5_image := by decide +kernel
theorem f_X5_image_285 : Cond.fieldLink RX5 285 "OneWinter$Image" "there" "Z" ∈ wsX5_image := by decide +kernel
theorem f_X5_image_9 : Cond.fieldLink RX5 9 "OneWinter" "colds" "[I" ∈ wsX5_image := by decide +kernel
theorem f_X5_image_289 : Cond.fieldLink RX5 289 "OneWinter$Image" "colds" "[I" ∈ wsX5_image := by decide +kernel
theorem m_X5_image_290 : Cond.methodLink RX5 290 arraycopyName ∈ wsX5_image ∧ Cond.native arraycopyName ∈ wsX5_image ∧ Cond.static arraycopyName ∈ wsX5_image ∧ Cond.initialized "java/lang/System" ∈ wsX5_image := by decide +kernel
theorem f_X5_image_13 : Cond.fieldLink RX5 13 "OneWinter" "nights" "I" ∈ wsX5_image := by decide +kernel
theorem f_X5_image_296 : Cond.fieldLink RX5 296 "OneWinter$Image" "nights" "I" ∈ wsX5_image := by decide +kernel
theorem f_X5_image_47 : Cond.fieldLink RX5 47 "OneWinter" "rule" "I" ∈ wsX5_image := by decide +kernel
theorem f_X5_image_297 : Cond.fieldLink RX5 297 "OneWinter$Image" "rule" "I" ∈ wsX5_image := by decide +kernel
theorem f_X5_image_23 : Cond.fieldLink RX5 23 "OneWinter" "here" "I" ∈ wsX5_image := by decide +kernel
theorem f_X5_image_298 : Cond.fieldLink RX5 298 "OneWinter$Image" "here" "I" ∈ wsX5_image := by decide +kernel
theorem f_X5_image_299 : Cond.fieldLink RX5 299 "OneWinter$Image" "numbers" "[I" ∈ wsX5_image := by decide +kernel
theorem f_X5_image_19 : Cond.fieldLink RX5 19 "OneWinter" "crowd" "[LOneWinter$User;" ∈ wsX5_image := by decide +kernel
theorem f_X5_image_108 : Cond.fieldLink RX5 108 "OneWinter$User" "number" "I" ∈ wsX5_image := by decide +kernel
theorem f_X5_image_302 : Cond.fieldLink RX5 302 "OneWinter$Image" "towns" "[I" ∈ wsX5_image := by decide +kernel
theorem f_X5_image_114 : Cond.fieldLink RX5 114 "OneWinter$User" "town" "I" ∈ wsX5_image := by decide +kernel
theorem f_X5_back_59 : Cond.fieldLink RX5 59 "OneWinter" "kept" "LOneWinter$Image;" ∈ wsX5_back := by decide +kernel
theorem f_X5_back_285 : Cond.fieldLink RX5 285 "OneWinter$Image" "there" "Z" ∈ wsX5_back := by decide +kernel
theorem f_X5_back_289 : Cond.fieldLink RX5 289 "OneWinter$Image" "colds" "[I" ∈ wsX5_back := by decide +kernel
theorem f_X5_back_9 : Cond.fieldLink RX5 9 "OneWinter" "colds" "[I" ∈ wsX5_back := by decide +kernel
theorem m_X5_back_290 : Cond.methodLink RX5 290 arraycopyName ∈ wsX5_back ∧ Cond.native arraycopyName ∈ wsX5_back ∧ Cond.static arraycopyName ∈ wsX5_back ∧ Cond.initialized "java/lang/System" ∈ wsX5_back := by decide +kernel
theorem f_X5_back_296 : Cond.fieldLink RX5 296 "OneWinter$Image" "nights" "I" ∈ wsX5_back := by decide +kernel
theorem f_X5_back_13 : Cond.fieldLink RX5 13 "OneWinter" "nights" "I" ∈ wsX5_back := by decide +kernel
theorem f_X5_back_297 : Cond.fieldLink RX5 297 "OneWinter$Image" "rule" "I" ∈ wsX5_back := by decide +kernel
theorem f_X5_back_47 : Cond.fieldLink RX5 47 "OneWinter" "rule" "I" ∈ wsX5_back := by decide +kernel
theorem f_X5_back_298 : Cond.fieldLink RX5 298 "OneWinter$Image" "here" "I" ∈ wsX5_back := by decide +kernel
theorem f_X5_back_23 : Cond.fieldLink RX5 23 "OneWinter" "here" "I" ∈ wsX5_back := by decide +kernel
theorem f_X5_back_19 : Cond.fieldLink RX5 19 "OneWinter" "crowd" "[LOneWinter$User;" ∈ wsX5_back := by decide +kernel
theorem f_X5_back_299 : Cond.fieldLink RX5 299 "OneWinter$Image" "numbers" "[I" ∈ wsX5_back := by decide +kernel
theorem f_X5_back_108 : Cond.fieldLink RX5 108 "OneWinter$User" "number" "I" ∈ wsX5_back := by decide +kernel
theorem f_X5_back_302 : Cond.fieldLink RX5 302 "OneWinter$Image" "towns" "[I" ∈ wsX5_back := by decide +kernel
theorem f_X5_back_114 : Cond.fieldLink RX5 114 "OneWinter$User" "town" "I" ∈ wsX5_back := by decide +kernel
theorem f_X5_count_23 : Cond.fieldLink RX5 23 "OneWinter" "here" "I" ∈ wsX5_count := by decide +kernel
theorem f_X5_count_44 : Cond.fieldLink RX5 44 "OneWinter" "textsRead" "I" ∈ wsX5_count := by decide +kernel
theorem f_X5_count_34 : Cond.fieldLink RX5 34 "OneWinter" "reader" "LOneWinter$Reader;" ∈ wsX5_count := by decide +kernel
theorem f_X5_count_139 : Cond.fieldLink RX5 139 "OneWinter$Reader" "size" "I" ∈ wsX5_count := by decide +kernel
theorem f_X5_count_47 : Cond.fieldLink RX5 47 "OneWinter" "rule" "I" ∈ wsX5_count := by decide +kernel
theorem f_X5_usersOfTownOne_23 : Cond.fieldLink RX5 23 "OneWinter" "here" "I" ∈ wsX5_usersOfTownOne := by decide +kernel
theorem f_X5_usersOfTownOne_19 : Cond.fieldLink RX5 19 "OneWinter" "crowd" "[LOneWinter$User;" ∈ wsX5_usersOfTownOne := by decide +kernel
theorem f_X5_usersOfTownOne_114 : Cond.fieldLink RX5 114 "OneWinter$User" "town" "I" ∈ wsX5_usersOfTownOne := by decide +kernel
theorem f_X5_coldTogether_9 : Cond.fieldLink RX5 9 "OneWinter" "colds" "[I" ∈ wsX5_coldTogether := by decide +kernel
theorem in_X5_sheet_X5 : ∀ w ∈ wsX50, w ∈ wsX5_sheet := fun w h => List.mem_cons_of_mem _ (List.mem_append_left _ (List.mem_append_right _ h))
theorem in_X5_sheet_X2 : ∀ w ∈ wsX20, w ∈ wsX5_sheet := fun w h => List.mem_cons_of_mem _ (List.mem_append_right _ h)
theorem f_X5_sheet_52 : Cond.fieldLink RX5 52 "OneWinter" "sheets" "[LOneWinter$Sheet;" ∈ wsX5_sheet := by decide +kernel
theorem f_X5_cell_52 : Cond.fieldLink RX5 52 "OneWinter" "sheets" "[LOneWinter$Sheet;" ∈ wsX5_cell := by decide +kernel
theorem f_X5_cell_256 : Cond.fieldLink RX5 256 "OneWinter$Sheet" "size" "I" ∈ wsX5_cell := by decide +kernel
theorem f_X5_copy_52 : Cond.fieldLink RX5 52 "OneWinter" "sheets" "[LOneWinter$Sheet;" ∈ wsX5_copy := by decide +kernel
theorem f_X5_copy_314 : Cond.fieldLink RX5 314 "OneWinter$Sheet" "sort" "I" ∈ wsX5_copy := by decide +kernel
theorem f_X5_copy_272 : Cond.fieldLink RX5 272 "OneWinter$Sheet" "items" "[I" ∈ wsX5_copy := by decide +kernel
theorem m_X5_copy_290 : Cond.methodLink RX5 290 arraycopyName ∈ wsX5_copy ∧ Cond.native arraycopyName ∈ wsX5_copy ∧ Cond.static arraycopyName ∈ wsX5_copy ∧ Cond.initialized "java/lang/System" ∈ wsX5_copy := by decide +kernel
theorem in_X5_users_X5 : ∀ w ∈ wsX50, w ∈ wsX5_users := fun w h => List.mem_cons_of_mem _ (List.mem_append_left _ (List.mem_append_left _ (List.mem_append_right _ h)))
theorem in_X5_users_X2 : ∀ w ∈ wsX20, w ∈ wsX5_users := fun w h => List.mem_cons_of_mem _ (List.mem_append_left _ (List.mem_append_right _ h))
theorem in_X5_users_X4 : ∀ w ∈ wsX40, w ∈ wsX5_users := fun w h => List.mem_cons_of_mem _ (List.mem_append_right _ h)
theorem f_X5_users_52 : Cond.fieldLink RX5 52 "OneWinter" "sheets" "[LOneWinter$Sheet;" ∈ wsX5_users := by decide +kernel
theorem f_X5_users_314 : Cond.fieldLink RX5 314 "OneWinter$Sheet" "sort" "I" ∈ wsX5_users := by decide +kernel
theorem f_X5_users_272 : Cond.fieldLink RX5 272 "OneWinter$Sheet" "items" "[I" ∈ wsX5_users := by decide +kernel
theorem f_X5_taken_19 : Cond.fieldLink RX5 19 "OneWinter" "crowd" "[LOneWinter$User;" ∈ wsX5_taken := by decide +kernel
theorem f_X5_taken_124 : Cond.fieldLink RX5 124 "OneWinter$User" "kind" "I" ∈ wsX5_taken := by decide +kernel
theorem f_X5_taken_108 : Cond.fieldLink RX5 108 "OneWinter$User" "number" "I" ∈ wsX5_taken := by decide +kernel
theorem f_X5_isUnder_327 : Cond.fieldLink RX5 327 "OneWinter" "ABOVE" "[I" ∈ wsX5_isUnder := by decide +kernel
theorem f_X6_spell_13 : Cond.fieldLink RX6 13 "OneWinterModel" "texts" "[I" ∈ wsX6_spell := by decide +kernel
theorem in_X6_isUser_X6 : ∀ w ∈ wsX60, w ∈ wsX6_isUser := fun w h => List.mem_cons_of_mem _ (List.mem_append_right _ h)
theorem f_X6_isUser_70 : Cond.fieldLink RX6 70 "OneWinterModel" "many" "I" ∈ wsX6_isUser := by decide +kernel
theorem k_X6_isNight_77 : Cond.constantLong RX6 77 (29) ∈ wsX6_isNight := by decide +kernel
theorem in_X6_isOf_X6 : ∀ w ∈ wsX60, w ∈ wsX6_isOf := fun w h => List.mem_cons_of_mem _ (List.mem_append_right _ h)
theorem in_X6_set_X6 : ∀ w ∈ wsX60, w ∈ wsX6_set := fun w h => List.mem_cons_of_mem _ (List.mem_append_right _ h)
theorem k_X6_set_86 : Cond.constantLong RX6 86 (3) ∈ wsX6_set := by decide +kernel
theorem k_X6_set_92 : Cond.constantLong RX6 92 (1073741823) ∈ wsX6_set := by decide +kernel
theorem k_X6_set_94 : Cond.constantLong RX6 94 (9) ∈ wsX6_set := by decide +kernel
theorem f_X6_lays_104 : Cond.fieldLink RX6 104 "OneWinterModel" "shareNow" "I" ∈ wsX6_lays := by decide +kernel
theorem f_X6_lays_23 : Cond.fieldLink RX6 23 "OneWinterModel" "colds" "[I" ∈ wsX6_lays := by decide +kernel
theorem f_X6_lays_29 : Cond.fieldLink RX6 29 "OneWinterModel" "rows" "[I" ∈ wsX6_lays := by decide +kernel
theorem f_X6_lays_26 : Cond.fieldLink RX6 26 "OneWinterModel" "kinds" "[I" ∈ wsX6_lays := by decide +kernel
theorem f_X6_lays_107 : Cond.fieldLink RX6 107 "OneWinterModel" "rule" "I" ∈ wsX6_lays := by decide +kernel
theorem k_X6_user_110 : Cond.constantLong RX6 110 (5) ∈ wsX6_user := by decide +kernel
theorem k_X6_user_94 : Cond.constantLong RX6 94 (9) ∈ wsX6_user := by decide +kernel
theorem f_X6_user_70 : Cond.fieldLink RX6 70 "OneWinterModel" "many" "I" ∈ wsX6_user := by decide +kernel
theorem f_X6_user_26 : Cond.fieldLink RX6 26 "OneWinterModel" "kinds" "[I" ∈ wsX6_user := by decide +kernel
theorem f_X6_user_29 : Cond.fieldLink RX6 29 "OneWinterModel" "rows" "[I" ∈ wsX6_user := by decide +kernel
theorem in_X6_told_X6 : ∀ w ∈ wsX60, w ∈ wsX6_told := fun w h => List.mem_cons_of_mem _ (List.mem_append_right _ h)
theorem k_X6_told_112 : Cond.constantLong RX6 112 (6) ∈ wsX6_told := by decide +kernel
theorem f_X6_told_104 : Cond.fieldLink RX6 104 "OneWinterModel" "shareNow" "I" ∈ wsX6_told := by decide +kernel
theorem f_X6_told_23 : Cond.fieldLink RX6 23 "OneWinterModel" "colds" "[I" ∈ wsX6_told := by decide +kernel
theorem f_X6_told_29 : Cond.fieldLink RX6 29 "OneWinterModel" "rows" "[I" ∈ wsX6_told := by decide +kernel
theorem f_X6_told_26 : Cond.fieldLink RX6 26 "OneWinterModel" "kinds" "[I" ∈ wsX6_told := by decide +kernel
theorem k_X6_feed_123 : Cond.constantLong RX6 123 (255) ∈ wsX6_feed := by decide +kernel
theorem f_X6_feed_125 : Cond.fieldLink RX6 125 "OneWinterModel" "taped" "I" ∈ wsX6_feed := by decide +kernel
theorem f_X6_feed_20 : Cond.fieldLink RX6 20 "OneWinterModel" "tape" "[I" ∈ wsX6_feed := by decide +kernel
theorem f_X6_byteAt_128 : Cond.fieldLink RX6 128 "OneWinterModel" "size" "I" ∈ wsX6_byteAt := by decide +kernel
theorem f_X6_byteAt_13 : Cond.fieldLink RX6 13 "OneWinterModel" "texts" "[I" ∈ wsX6_byteAt := by decide +kernel
theorem f_X6_byteAt_131 : Cond.fieldLink RX6 131 "OneWinterModel" "from" "I" ∈ wsX6_byteAt := by decide +kernel
theorem f_X6_next_134 : Cond.fieldLink RX6 134 "OneWinterModel" "here" "I" ∈ wsX6_next := by decide +kernel
theorem f_X6_next_141 : Cond.fieldLink RX6 141 "OneWinterModel" "tokenAt" "I" ∈ wsX6_next := by decide +kernel
theorem f_X6_next_144 : Cond.fieldLink RX6 144 "OneWinterModel" "token" "I" ∈ wsX6_next := by decide +kernel
theorem f_X6_next_128 : Cond.fieldLink RX6 128 "OneWinterModel" "size" "I" ∈ wsX6_next := by decide +kernel
theorem k_X6_next_147 : Cond.constantLong RX6 147 (97) ∈ wsX6_next := by decide +kernel
theorem k_X6_next_149 : Cond.constantLong RX6 149 (122) ∈ wsX6_next := by decide +kernel
theorem k_X6_next_151 : Cond.constantLong RX6 151 (48) ∈ wsX6_next := by decide +kernel
theorem k_X6_next_153 : Cond.constantLong RX6 153 (57) ∈ wsX6_next := by decide +kernel
theorem f_X6_next_155 : Cond.fieldLink RX6 155 "OneWinterModel" "tokenWorth" "J" ∈ wsX6_next := by decide +kernel
theorem k_X6_next_159 : Cond.constantLong RX6 159 (10) ∈ wsX6_next := by decide +kernel
theorem in_X6_fail_X6 : ∀ w ∈ wsX60, w ∈ wsX6_fail := fun w h => List.mem_cons_of_mem _ (List.mem_append_right _ h)
theorem f_X6_fail_161 : Cond.fieldLink RX6 161 "OneWinterModel" "bad" "Z" ∈ wsX6_fail := by decide +kernel
theorem f_X6_fail_141 : Cond.fieldLink RX6 141 "OneWinterModel" "tokenAt" "I" ∈ wsX6_fail := by decide +kernel
theorem f_X6_fail_165 : Cond.fieldLink RX6 165 "OneWinterModel" "fault" "I" ∈ wsX6_fail := by decide +kernel
theorem f_X6_isLetter_141 : Cond.fieldLink RX6 141 "OneWinterModel" "tokenAt" "I" ∈ wsX6_isLetter := by decide +kernel
theorem f_X6_isLetter_134 : Cond.fieldLink RX6 134 "OneWinterModel" "here" "I" ∈ wsX6_isLetter := by decide +kernel
theorem f_X6_isWord_161 : Cond.fieldLink RX6 161 "OneWinterModel" "bad" "Z" ∈ wsX6_isWord := by decide +kernel
theorem f_X6_isWord_144 : Cond.fieldLink RX6 144 "OneWinterModel" "token" "I" ∈ wsX6_isWord := by decide +kernel
theorem f_X6_isWord_134 : Cond.fieldLink RX6 134 "OneWinterModel" "here" "I" ∈ wsX6_isWord := by decide +kernel
theorem f_X6_isWord_141 : Cond.fieldLink RX6 141 "OneWinterModel" "tokenAt" "I" ∈ wsX6_isWord := by decide +kernel
theorem in_X6_isSign_X6 : ∀ w ∈ wsX60, w ∈ wsX6_isSign := fun w h => List.mem_cons_of_mem _ (List.mem_append_right _ h)
theorem f_X6_isSign_161 : Cond.fieldLink RX6 161 "OneWinterModel" "bad" "Z" ∈ wsX6_isSign := by decide +kernel
theorem f_X6_isSign_144 : Cond.fieldLink RX6 144 "OneWinterModel" "token" "I" ∈ wsX6_isSign := by decide +kernel
theorem f_X6_isSign_155 : Cond.fieldLink RX6 155 "OneWinterModel" "tokenWorth" "J" ∈ wsX6_isSign := by decide +kernel
theorem in_X6_opens_X6 : ∀ w ∈ wsX60, w ∈ wsX6_opens := fun w h => List.mem_cons_of_mem _ (List.mem_append_right _ h)
theorem f_X6_opens_171 : Cond.fieldLink RX6 171 "OneWinterModel" "open" "I" ∈ wsX6_opens := by decide +kernel
theorem in_X6_name_X6 : ∀ w ∈ wsX60, w ∈ wsX6_name := fun w h => List.mem_cons_of_mem _ (List.mem_append_right _ h)
theorem f_X6_name_184 : Cond.fieldLink RX6 184 "OneWinterModel" "ofCold" "I" ∈ wsX6_name := by decide +kernel
theorem f_X6_name_187 : Cond.fieldLink RX6 187 "OneWinterModel" "ofNight" "I" ∈ wsX6_name := by decide +kernel
theorem f_X6_name_190 : Cond.fieldLink RX6 190 "OneWinterModel" "ofNumber" "I" ∈ wsX6_name := by decide +kernel
theorem f_X6_name_193 : Cond.fieldLink RX6 193 "OneWinterModel" "ofRun" "I" ∈ wsX6_name := by decide +kernel
theorem f_X6_name_196 : Cond.fieldLink RX6 196 "OneWinterModel" "ofTown" "I" ∈ wsX6_name := by decide +kernel
theorem f_X6_name_199 : Cond.fieldLink RX6 199 "OneWinterModel" "ofUsers" "I" ∈ wsX6_name := by decide +kernel
theorem in_X6_atom5_X6 : ∀ w ∈ wsX60, w ∈ wsX6_atom5 := fun w h => List.mem_cons_of_mem _ (List.mem_append_right _ h)
theorem f_X6_atom5_161 : Cond.fieldLink RX6 161 "OneWinterModel" "bad" "Z" ∈ wsX6_atom5 := by decide +kernel
theorem f_X6_atom5_144 : Cond.fieldLink RX6 144 "OneWinterModel" "token" "I" ∈ wsX6_atom5 := by decide +kernel
theorem f_X6_atom5_155 : Cond.fieldLink RX6 155 "OneWinterModel" "tokenWorth" "J" ∈ wsX6_atom5 := by decide +kernel
theorem in_X6_term5_X6 : ∀ w ∈ wsX60, w ∈ wsX6_term5 := fun w h => List.mem_cons_of_mem _ (List.mem_append_right _ h)
theorem in_X6_added5_X6 : ∀ w ∈ wsX60, w ∈ wsX6_added5 := fun w h => List.mem_cons_of_mem _ (List.mem_append_right _ h)
theorem f_X6_added5_155 : Cond.fieldLink RX6 155 "OneWinterModel" "tokenWorth" "J" ∈ wsX6_added5 := by decide +kernel
theorem k_X6_added5_219 : Cond.constantLong RX6 219 (43) ∈ wsX6_added5 := by decide +kernel
theorem in_X6_not5_X6 : ∀ w ∈ wsX60, w ∈ wsX6_not5 := fun w h => List.mem_cons_of_mem _ (List.mem_append_right _ h)
theorem f_X6_not5_155 : Cond.fieldLink RX6 155 "OneWinterModel" "tokenWorth" "J" ∈ wsX6_not5 := by decide +kernel
theorem k_X6_not5_224 : Cond.constantLong RX6 224 (60) ∈ wsX6_not5 := by decide +kernel
theorem in_X6_both5_X6 : ∀ w ∈ wsX60, w ∈ wsX6_both5 := fun w h => List.mem_cons_of_mem _ (List.mem_append_right _ h)
theorem in_X6_either5_X6 : ∀ w ∈ wsX60, w ∈ wsX6_either5 := fun w h => List.mem_cons_of_mem _ (List.mem_append_right _ h)
theorem in_X6_atom4_X6 : ∀ w ∈ wsX60, w ∈ wsX6_atom4 := fun w h => List.mem_cons_of_mem _ (List.mem_append_right _ h)
theorem f_X6_atom4_171 : Cond.fieldLink RX6 171 "OneWinterModel" "open" "I" ∈ wsX6_atom4 := by decide +kernel
theorem f_X6_atom4_161 : Cond.fieldLink RX6 161 "OneWinterModel" "bad" "Z" ∈ wsX6_atom4 := by decide +kernel
theorem f_X6_atom4_144 : Cond.fieldLink RX6 144 "OneWinterModel" "token" "I" ∈ wsX6_atom4 := by decide +kernel
theorem f_X6_atom4_155 : Cond.fieldLink RX6 155 "OneWinterModel" "tokenWorth" "J" ∈ wsX6_atom4 := by decide +kernel
theorem in_X6_term4_X6 : ∀ w ∈ wsX60, w ∈ wsX6_term4 := fun w h => List.mem_cons_of_mem _ (List.mem_append_right _ h)
theorem in_X6_added4_X6 : ∀ w ∈ wsX60, w ∈ wsX6_added4 := fun w h => List.mem_cons_of_mem _ (List.mem_append_right _ h)
theorem f_X6_added4_155 : Cond.fieldLink RX6 155 "OneWinterModel" "tokenWorth" "J" ∈ wsX6_added4 := by decide +kernel
theorem k_X6_added4_219 : Cond.constantLong RX6 219 (43) ∈ wsX6_added4 := by decide +kernel
theorem in_X6_not4_X6 : ∀ w ∈ wsX60, w ∈ wsX6_not4 := fun w h => List.mem_cons_of_mem _ (List.mem_append_right _ h)
theorem f_X6_not4_171 : Cond.fieldLink RX6 171 "OneWinterModel" "open" "I" ∈ wsX6_not4 := by decide +kernel
theorem f_X6_not4_155 : Cond.fieldLink RX6 155 "OneWinterModel" "tokenWorth" "J" ∈ wsX6_not4 := by decide +kernel
theorem k_X6_not4_224 : Cond.constantLong RX6 224 (60) ∈ wsX6_not4 := by decide +kernel
theorem in_X6_both4_X6 : ∀ w ∈ wsX60, w ∈ wsX6_both4 := fun w h => List.mem_cons_of_mem _ (List.mem_append_right _ h)
theorem in_X6_either4_X6 : ∀ w ∈ wsX60, w ∈ wsX6_either4 := fun w h => List.mem_cons_of_mem _ (List.mem_append_right _ h)
theorem in_X6_atom3_X6 : ∀ w ∈ wsX60, w ∈ wsX6_atom3 := fun w h => List.mem_cons_of_mem _ (List.mem_append_right _ h)
theorem f_X6_atom3_171 : Cond.fieldLink RX6 171 "OneWinterModel" "open" "I" ∈ wsX6_atom3 := by decide +kernel
theorem f_X6_atom3_161 : Cond.fieldLink RX6 161 "OneWinterModel" "bad" "Z" ∈ wsX6_atom3 := by decide +kernel
theorem f_X6_atom3_144 : Cond.fieldLink RX6 144 "OneWinterModel" "token" "I" ∈ wsX6_atom3 := by decide +kernel
theorem f_X6_atom3_155 : Cond.fieldLink RX6 155 "OneWinterModel" "tokenWorth" "J" ∈ wsX6_atom3 := by decide +kernel
theorem in_X6_term3_X6 : ∀ w ∈ wsX60, w ∈ wsX6_term3 := fun w h => List.mem_cons_of_mem _ (List.mem_append_right _ h)
theorem in_X6_added3_X6 : ∀ w ∈ wsX60, w ∈ wsX6_added3 := fun w h => List.mem_cons_of_mem _ (List.mem_append_right _ h)
theorem f_X6_added3_155 : Cond.fieldLink RX6 155 "OneWinterModel" "tokenWorth" "J" ∈ wsX6_added3 := by decide +kernel
theorem k_X6_added3_219 : Cond.constantLong RX6 219 (43) ∈ wsX6_added3 := by decide +kernel
theorem in_X6_not3_X6 : ∀ w ∈ wsX60, w ∈ wsX6_not3 := fun w h => List.mem_cons_of_mem _ (List.mem_append_right _ h)
theorem f_X6_not3_171 : Cond.fieldLink RX6 171 "OneWinterModel" "open" "I" ∈ wsX6_not3 := by decide +kernel
theorem f_X6_not3_155 : Cond.fieldLink RX6 155 "OneWinterModel" "tokenWorth" "J" ∈ wsX6_not3 := by decide +kernel
theorem k_X6_not3_224 : Cond.constantLong RX6 224 (60) ∈ wsX6_not3 := by decide +kernel
theorem in_X6_both3_X6 : ∀ w ∈ wsX60, w ∈ wsX6_both3 := fun w h => List.mem_cons_of_mem _ (List.mem_append_right _ h)
theorem in_X6_either3_X6 : ∀ w ∈ wsX60, w ∈ wsX6_either3 := fun w h => List.mem_cons_of_mem _ (List.mem_append_right _ h)
theorem in_X6_atom2_X6 : ∀ w ∈ wsX60, w ∈ wsX6_atom2 := fun w h => List.mem_cons_of_mem _ (List.mem_append_right _ h)
theorem f_X6_atom2_171 : Cond.fieldLink RX6 171 "OneWinterModel" "open" "I" ∈ wsX6_atom2 := by decide +kernel
theorem f_X6_atom2_161 : Cond.fieldLink RX6 161 "OneWinterModel" "bad" "Z" ∈ wsX6_atom2 := by decide +kernel
theorem f_X6_atom2_144 : Cond.fieldLink RX6 144 "OneWinterModel" "token" "I" ∈ wsX6_atom2 := by decide +kernel
theorem f_X6_atom2_155 : Cond.fieldLink RX6 155 "OneWinterModel" "tokenWorth" "J" ∈ wsX6_atom2 := by decide +kernel
theorem in_X6_term2_X6 : ∀ w ∈ wsX60, w ∈ wsX6_term2 := fun w h => List.mem_cons_of_mem _ (List.mem_append_right _ h)
theorem in_X6_added2_X6 : ∀ w ∈ wsX60, w ∈ wsX6_added2 := fun w h => List.mem_cons_of_mem _ (List.mem_append_right _ h)
theorem f_X6_added2_155 : Cond.fieldLink RX6 155 "OneWinterModel" "tokenWorth" "J" ∈ wsX6_added2 := by decide +kernel
theorem k_X6_added2_219 : Cond.constantLong RX6 219 (43) ∈ wsX6_added2 := by decide +kernel
theorem in_X6_not2_X6 : ∀ w ∈ wsX60, w ∈ wsX6_not2 := fun w h => List.mem_cons_of_mem _ (List.mem_append_right _ h)
theorem f_X6_not2_171 : Cond.fieldLink RX6 171 "OneWinterModel" "open" "I" ∈ wsX6_not2 := by decide +kernel
theorem f_X6_not2_155 : Cond.fieldLink RX6 155 "OneWinterModel" "tokenWorth" "J" ∈ wsX6_not2 := by decide +kernel
theorem k_X6_not2_224 : Cond.constantLong RX6 224 (60) ∈ wsX6_not2 := by decide +kernel
theorem in_X6_both2_X6 : ∀ w ∈ wsX60, w ∈ wsX6_both2 := fun w h => List.mem_cons_of_mem _ (List.mem_append_right _ h)
theorem in_X6_either2_X6 : ∀ w ∈ wsX60, w ∈ wsX6_either2 := fun w h => List.mem_cons_of_mem _ (List.mem_append_right _ h)
theorem in_X6_atom1_X6 : ∀ w ∈ wsX60, w ∈ wsX6_atom1 := fun w h => List.mem_cons_of_mem _ (List.mem_append_right _ h)
theorem f_X6_atom1_171 : Cond.fieldLink RX6 171 "OneWinterModel" "open" "I" ∈ wsX6_atom1 := by decide +kernel
theorem f_X6_atom1_161 : Cond.fieldLink RX6 161 "OneWinterModel" "bad" "Z" ∈ wsX6_atom1 := by decide +kernel
theorem f_X6_atom1_144 : Cond.fieldLink RX6 144 "OneWinterModel" "token" "I" ∈ wsX6_atom1 := by decide +kernel
theorem f_X6_atom1_155 : Cond.fieldLink RX6 155 "OneWinterModel" "tokenWorth" "J" ∈ wsX6_atom1 := by decide +kernel
theorem in_X6_term1_X6 : ∀ w ∈ wsX60, w ∈ wsX6_term1 := fun w h => List.mem_cons_of_mem _ (List.mem_append_right _ h)
theorem in_X6_added1_X6 : ∀ w ∈ wsX60, w ∈ wsX6_added1 := fun w h => List.mem_cons_of_mem _ (List.mem_append_right _ h)
theorem f_X6_added1_155 : Cond.fieldLink RX6 155 "OneWinterModel" "tokenWorth" "J" ∈ wsX6_added1 := by decide +kernel
theorem k_X6_added1_219 : Cond.constantLong RX6 219 (43) ∈ wsX6_added1 := by decide +kernel
theorem in_X6_not1_X6 : ∀ w ∈ wsX60, w ∈ wsX6_not1 := fun w h => List.mem_cons_of_mem _ (List.mem_append_right _ h)
theorem f_X6_not1_171 : Cond.fieldLink RX6 171 "OneWinterModel" "open" "I" ∈ wsX6_not1 := by decide +kernel
theorem f_X6_not1_155 : Cond.fieldLink RX6 155 "OneWinterModel" "tokenWorth" "J" ∈ wsX6_not1 := by decide +kernel
theorem k_X6_not1_224 : Cond.constantLong RX6 224 (60) ∈ wsX6_not1 := by decide +kernel
theorem in_X6_both1_X6 : ∀ w ∈ wsX60, w ∈ wsX6_both1 := fun w h => List.mem_cons_of_mem _ (List.mem_append_right _ h)
theorem in_X6_either1_X6 : ∀ w ∈ wsX60, w ∈ wsX6_either1 := fun w h => List.mem_cons_of_mem _ (List.mem_append_right _ h)
theorem in_X6_atom0_X6 : ∀ w ∈ wsX60, w ∈ wsX6_atom0 := fun w h => List.mem_cons_of_mem _ (List.mem_append_right _ h)
theorem f_X6_atom0_171 : Cond.fieldLink RX6 171 "OneWinterModel" "open" "I" ∈ wsX6_atom0 := by decide +kernel
theorem f_X6_atom0_161 : Cond.fieldLink RX6 161 "OneWinterModel" "bad" "Z" ∈ wsX6_atom0 := by decide +kernel
theorem f_X6_atom0_144 : Cond.fieldLink RX6 144 "OneWinterModel" "token" "I" ∈ wsX6_atom0 := by decide +kernel
theorem f_X6_atom0_155 : Cond.fieldLink RX6 155 "OneWinterModel" "tokenWorth" "J" ∈ wsX6_atom0 := by decide +kernel
theorem in_X6_term0_X6 : ∀ w ∈ wsX60, w ∈ wsX6_term0 := fun w h => List.mem_cons_of_mem _ (List.mem_append_right _ h)
theorem in_X6_added0_X6 : ∀ w ∈ wsX60, w ∈ wsX6_added0 := fun w h => List.mem_cons_of_mem _ (List.mem_append_right _ h)
theorem f_X6_added0_155 : Cond.fieldLink RX6 155 "OneWinterModel" "tokenWorth" "J" ∈ wsX6_added0 := by decide +kernel
theorem k_X6_added0_219 : Cond.constantLong RX6 219 (43) ∈ wsX6_added0 := by decide +kernel
theorem in_X6_not0_X6 : ∀ w ∈ wsX60, w ∈ wsX6_not0 := fun w h => List.mem_cons_of_mem _ (List.mem_append_right _ h)
theorem f_X6_not0_171 : Cond.fieldLink RX6 171 "OneWinterModel" "open" "I" ∈ wsX6_not0 := by decide +kernel
theorem f_X6_not0_155 : Cond.fieldLink RX6 155 "OneWinterModel" "tokenWorth" "J" ∈ wsX6_not0 := by decide +kernel
theorem k_X6_not0_224 : Cond.constantLong RX6 224 (60) ∈ wsX6_not0 := by decide +kernel
theorem in_X6_both0_X6 : ∀ w ∈ wsX60, w ∈ wsX6_both0 := fun w h => List.mem_cons_of_mem _ (List.mem_append_right _ h)
theorem in_X6_either0_X6 : ∀ w ∈ wsX60, w ∈ wsX6_either0 := fun w h => List.mem_cons_of_mem _ (List.mem_append_right _ h)
theorem in_X6_part_X6 : ∀ w ∈ wsX60, w ∈ wsX6_part := fun w h => List.mem_cons_of_mem _ (List.mem_append_right _ h)
theorem f_X6_part_161 : Cond.fieldLink RX6 161 "OneWinterModel" "bad" "Z" ∈ wsX6_part := by decide +kernel
theorem in_X6_read_X6 : ∀ w ∈ wsX60, w ∈ wsX6_read := fun w h => List.mem_cons_of_mem _ (List.mem_append_right _ h)
theorem f_X6_read_131 : Cond.fieldLink RX6 131 "OneWinterModel" "from" "I" ∈ wsX6_read := by decide +kernel
theorem f_X6_read_17 : Cond.fieldLink RX6 17 "OneWinterModel" "textSize" "[I" ∈ wsX6_read := by decide +kernel
theorem f_X6_read_128 : Cond.fieldLink RX6 128 "OneWinterModel" "size" "I" ∈ wsX6_read := by decide +kernel
theorem f_X6_read_134 : Cond.fieldLink RX6 134 "OneWinterModel" "here" "I" ∈ wsX6_read := by decide +kernel
theorem f_X6_read_171 : Cond.fieldLink RX6 171 "OneWinterModel" "open" "I" ∈ wsX6_read := by decide +kernel
theorem f_X6_read_161 : Cond.fieldLink RX6 161 "OneWinterModel" "bad" "Z" ∈ wsX6_read := by decide +kernel
theorem f_X6_read_144 : Cond.fieldLink RX6 144 "OneWinterModel" "token" "I" ∈ wsX6_read := by decide +kernel
theorem in_X6_text_X6 : ∀ w ∈ wsX60, w ∈ wsX6_text := fun w h => List.mem_cons_of_mem _ (List.mem_append_right _ h)
theorem f_X6_text_67 : Cond.fieldLink RX6 67 "OneWinterModel" "textCount" "I" ∈ wsX6_text := by decide +kernel
theorem f_X6_text_125 : Cond.fieldLink RX6 125 "OneWinterModel" "taped" "I" ∈ wsX6_text := by decide +kernel
theorem f_X6_text_13 : Cond.fieldLink RX6 13 "OneWinterModel" "texts" "[I" ∈ wsX6_text := by decide +kernel
theorem f_X6_text_20 : Cond.fieldLink RX6 20 "OneWinterModel" "tape" "[I" ∈ wsX6_text := by decide +kernel
theorem f_X6_text_17 : Cond.fieldLink RX6 17 "OneWinterModel" "textSize" "[I" ∈ wsX6_text := by decide +kernel
theorem f_X6_text_161 : Cond.fieldLink RX6 161 "OneWinterModel" "bad" "Z" ∈ wsX6_text := by decide +kernel
theorem f_X6_text_165 : Cond.fieldLink RX6 165 "OneWinterModel" "fault" "I" ∈ wsX6_text := by decide +kernel
theorem in_X6_force_X6 : ∀ w ∈ wsX60, w ∈ wsX6_force := fun w h => List.mem_cons_of_mem _ (List.mem_append_right _ h)
theorem f_X6_force_67 : Cond.fieldLink RX6 67 "OneWinterModel" "textCount" "I" ∈ wsX6_force := by decide +kernel
theorem f_X6_force_107 : Cond.fieldLink RX6 107 "OneWinterModel" "rule" "I" ∈ wsX6_force := by decide +kernel
theorem in_X6_says_X6 : ∀ w ∈ wsX60, w ∈ wsX6_says := fun w h => List.mem_cons_of_mem _ (List.mem_append_right _ h)
theorem f_X6_says_23 : Cond.fieldLink RX6 23 "OneWinterModel" "colds" "[I" ∈ wsX6_says := by decide +kernel
theorem f_X6_says_184 : Cond.fieldLink RX6 184 "OneWinterModel" "ofCold" "I" ∈ wsX6_says := by decide +kernel
theorem f_X6_says_187 : Cond.fieldLink RX6 187 "OneWinterModel" "ofNight" "I" ∈ wsX6_says := by decide +kernel
theorem f_X6_says_190 : Cond.fieldLink RX6 190 "OneWinterModel" "ofNumber" "I" ∈ wsX6_says := by decide +kernel
theorem f_X6_says_193 : Cond.fieldLink RX6 193 "OneWinterModel" "ofRun" "I" ∈ wsX6_says := by decide +kernel
theorem f_X6_says_196 : Cond.fieldLink RX6 196 "OneWinterModel" "ofTown" "I" ∈ wsX6_says := by decide +kernel
theorem f_X6_says_70 : Cond.fieldLink RX6 70 "OneWinterModel" "many" "I" ∈ wsX6_says := by decide +kernel
theorem f_X6_says_199 : Cond.fieldLink RX6 199 "OneWinterModel" "ofUsers" "I" ∈ wsX6_says := by decide +kernel
theorem f_X6_says_107 : Cond.fieldLink RX6 107 "OneWinterModel" "rule" "I" ∈ wsX6_says := by decide +kernel
theorem in_X6_mostOf_X6 : ∀ w ∈ wsX60, w ∈ wsX6_mostOf := fun w h => List.mem_cons_of_mem _ (List.mem_append_right _ h)
theorem in_X6_hasBy_X6 : ∀ w ∈ wsX60, w ∈ wsX6_hasBy := fun w h => List.mem_cons_of_mem _ (List.mem_append_right _ h)
theorem f_X6_hasBy_26 : Cond.fieldLink RX6 26 "OneWinterModel" "kinds" "[I" ∈ wsX6_hasBy := by decide +kernel
theorem f_X6_hasBy_29 : Cond.fieldLink RX6 29 "OneWinterModel" "rows" "[I" ∈ wsX6_hasBy := by decide +kernel
theorem f_X6_hasBy_23 : Cond.fieldLink RX6 23 "OneWinterModel" "colds" "[I" ∈ wsX6_hasBy := by decide +kernel
theorem in_X6_hasOf_X6 : ∀ w ∈ wsX60, w ∈ wsX6_hasOf := fun w h => List.mem_cons_of_mem _ (List.mem_append_right _ h)
theorem in_X6_has_X6 : ∀ w ∈ wsX60, w ∈ wsX6_has := fun w h => List.mem_cons_of_mem _ (List.mem_append_right _ h)
theorem f_X6_has_104 : Cond.fieldLink RX6 104 "OneWinterModel" "shareNow" "I" ∈ wsX6_has := by decide +kernel
theorem k_X6_has_347 : Cond.constant RX6 347 (-100000) ∈ wsX6_has := by decide +kernel
theorem in_X6_hasAll_X6 : ∀ w ∈ wsX60, w ∈ wsX6_hasAll := fun w h => List.mem_cons_of_mem _ (List.mem_append_right _ h)
theorem in_X6_worthBy_X6 : ∀ w ∈ wsX60, w ∈ wsX6_worthBy := fun w h => List.mem_cons_of_mem _ (List.mem_append_right _ h)
theorem f_X6_worthBy_70 : Cond.fieldLink RX6 70 "OneWinterModel" "many" "I" ∈ wsX6_worthBy := by decide +kernel
theorem f_X6_worthBy_29 : Cond.fieldLink RX6 29 "OneWinterModel" "rows" "[I" ∈ wsX6_worthBy := by decide +kernel
theorem in_X6_worth_X6 : ∀ w ∈ wsX60, w ∈ wsX6_worth := fun w h => List.mem_cons_of_mem _ (List.mem_append_right _ h)
theorem k_X6_worth_351 : Cond.constantLong RX6 351 (2) ∈ wsX6_worth := by decide +kernel
theorem f_X6_worth_104 : Cond.fieldLink RX6 104 "OneWinterModel" "shareNow" "I" ∈ wsX6_worth := by decide +kernel
theorem k_X6_worth_356 : Cond.constant RX6 356 (-1000000) ∈ wsX6_worth := by decide +kernel
theorem in_X6_tooMuch_X6 : ∀ w ∈ wsX60, w ∈ wsX6_tooMuch := fun w h => List.mem_cons_of_mem _ (List.mem_append_right _ h)
theorem in_X6_share_X6 : ∀ w ∈ wsX60, w ∈ wsX6_share := fun w h => List.mem_cons_of_mem _ (List.mem_append_right _ h)
theorem k_X6_share_86 : Cond.constantLong RX6 86 (3) ∈ wsX6_share := by decide +kernel
theorem f_X6_share_104 : Cond.fieldLink RX6 104 "OneWinterModel" "shareNow" "I" ∈ wsX6_share := by decide +kernel
theorem in_X6_mean_X6 : ∀ w ∈ wsX60, w ∈ wsX6_mean := fun w h => List.mem_cons_of_mem _ (List.mem_append_right _ h)
theorem k_X6_mean_360 : Cond.constantLong RX6 360 (-4611686018427387904) ∈ wsX6_mean := by decide +kernel
theorem f_X6_mean_104 : Cond.fieldLink RX6 104 "OneWinterModel" "shareNow" "I" ∈ wsX6_mean := by decide +kernel
theorem in_X6_fills_X6 : ∀ w ∈ wsX60, w ∈ wsX6_fills := fun w h => List.mem_cons_of_mem _ (List.mem_append_right _ h)
theorem f_X6_fills_35 : Cond.fieldLink RX6 35 "OneWinterModel" "can" "[Z" ∈ wsX6_fills := by decide +kernel
theorem f_X6_fills_70 : Cond.fieldLink RX6 70 "OneWinterModel" "many" "I" ∈ wsX6_fills := by decide +kernel
theorem f_X6_fills_32 : Cond.fieldLink RX6 32 "OneWinterModel" "brings" "[I" ∈ wsX6_fills := by decide +kernel
theorem in_X6_bestShare_X6 : ∀ w ∈ wsX60, w ∈ wsX6_bestShare := fun w h => List.mem_cons_of_mem _ (List.mem_append_right _ h)
theorem f_X6_bestShare_35 : Cond.fieldLink RX6 35 "OneWinterModel" "can" "[Z" ∈ wsX6_bestShare := by decide +kernel
theorem f_X6_bestShare_32 : Cond.fieldLink RX6 32 "OneWinterModel" "brings" "[I" ∈ wsX6_bestShare := by decide +kernel
theorem f_X6_bestShare_374 : Cond.fieldLink RX6 374 "OneWinterModel" "bestAll" "I" ∈ wsX6_bestShare := by decide +kernel
theorem in_X6_best_X6 : ∀ w ∈ wsX60, w ∈ wsX6_best := fun w h => List.mem_cons_of_mem _ (List.mem_append_right _ h)
theorem k_X6_best_356 : Cond.constant RX6 356 (-1000000) ∈ wsX6_best := by decide +kernel
theorem f_X6_best_374 : Cond.fieldLink RX6 374 "OneWinterModel" "bestAll" "I" ∈ wsX6_best := by decide +kernel
theorem in_X6_settle_X6 : ∀ w ∈ wsX60, w ∈ wsX6_settle := fun w h => List.mem_cons_of_mem _ (List.mem_append_right _ h)
theorem f_X6_settle_104 : Cond.fieldLink RX6 104 "OneWinterModel" "shareNow" "I" ∈ wsX6_settle := by decide +kernel
theorem f_X6_settle_374 : Cond.fieldLink RX6 374 "OneWinterModel" "bestAll" "I" ∈ wsX6_settle := by decide +kernel
theorem in_X6_cut_X6 : ∀ w ∈ wsX60, w ∈ wsX6_cut := fun w h => List.mem_cons_of_mem _ (List.mem_append_right _ h)
theorem k_X6_cut_380 : Cond.constant RX6 380 (1073741823) ∈ wsX6_cut := by decide +kernel
theorem in_X6_changes_X6 : ∀ w ∈ wsX60, w ∈ wsX6_changes := fun w h => List.mem_cons_of_mem _ (List.mem_append_right _ h)
theorem f_X6_changes_381 : Cond.fieldLink RX6 381 "OneWinterModel" "changed" "I" ∈ wsX6_changes := by decide +kernel
theorem f_X6_changes_104 : Cond.fieldLink RX6 104 "OneWinterModel" "shareNow" "I" ∈ wsX6_changes := by decide +kernel
theorem f_X6_changes_384 : Cond.fieldLink RX6 384 "OneWinterModel" "changedMost" "I" ∈ wsX6_changes := by decide +kernel
theorem in_X6_change_X6 : ∀ w ∈ wsX60, w ∈ wsX6_change := fun w h => List.mem_cons_of_mem _ (List.mem_append_right _ h)
theorem k_X6_change_356 : Cond.constant RX6 356 (-1000000) ∈ wsX6_change := by decide +kernel
theorem f_X6_change_381 : Cond.fieldLink RX6 381 "OneWinterModel" "changed" "I" ∈ wsX6_change := by decide +kernel
theorem f_X6_change_384 : Cond.fieldLink RX6 384 "OneWinterModel" "changedMost" "I" ∈ wsX6_change := by decide +kernel
theorem in_X6_forTown_X6 : ∀ w ∈ wsX60, w ∈ wsX6_forTown := fun w h => List.mem_cons_of_mem _ (List.mem_append_right _ h)
theorem k_X6_forTown_356 : Cond.constant RX6 356 (-1000000) ∈ wsX6_forTown := by decide +kernel
theorem f_X6_forTown_381 : Cond.fieldLink RX6 381 "OneWinterModel" "changed" "I" ∈ wsX6_forTown := by decide +kernel
theorem f_X6_forTown_384 : Cond.fieldLink RX6 384 "OneWinterModel" "changedMost" "I" ∈ wsX6_forTown := by decide +kernel
theorem in_X6_heaviest_X6 : ∀ w ∈ wsX60, w ∈ wsX6_heaviest := fun w h => List.mem_cons_of_mem _ (List.mem_append_right _ h)
theorem k_X6_heaviest_356 : Cond.constant RX6 356 (-1000000) ∈ wsX6_heaviest := by decide +kernel
theorem f_X6_heaviest_70 : Cond.fieldLink RX6 70 "OneWinterModel" "many" "I" ∈ wsX6_heaviest := by decide +kernel
theorem f_X6_heaviest_104 : Cond.fieldLink RX6 104 "OneWinterModel" "shareNow" "I" ∈ wsX6_heaviest := by decide +kernel
theorem in_X6_firstOther_X6 : ∀ w ∈ wsX60, w ∈ wsX6_firstOther := fun w h => List.mem_cons_of_mem _ (List.mem_append_right _ h)
theorem f_X6_firstOther_57 : Cond.fieldLink RX6 57 "OneWinterModel" "sheetSize" "[I" ∈ wsX6_firstOther := by decide +kernel
theorem f_X6_firstOther_60 : Cond.fieldLink RX6 60 "OneWinterModel" "items" "[I" ∈ wsX6_firstOther := by decide +kernel
theorem in_X6_tells_X6 : ∀ w ∈ wsX60, w ∈ wsX6_tells := fun w h => List.mem_cons_of_mem _ (List.mem_append_right _ h)
theorem k_X6_tells_110 : Cond.constantLong RX6 110 (5) ∈ wsX6_tells := by decide +kernel
theorem f_X6_tells_51 : Cond.fieldLink RX6 51 "OneWinterModel" "isThere" "[Z" ∈ wsX6_tells := by decide +kernel
theorem f_X6_tells_57 : Cond.fieldLink RX6 57 "OneWinterModel" "sheetSize" "[I" ∈ wsX6_tells := by decide +kernel
theorem f_X6_tells_104 : Cond.fieldLink RX6 104 "OneWinterModel" "shareNow" "I" ∈ wsX6_tells := by decide +kernel
theorem f_X6_tells_107 : Cond.fieldLink RX6 107 "OneWinterModel" "rule" "I" ∈ wsX6_tells := by decide +kernel
theorem f_X6_tells_67 : Cond.fieldLink RX6 67 "OneWinterModel" "textCount" "I" ∈ wsX6_tells := by decide +kernel
theorem in_X6_film_X6 : ∀ w ∈ wsX60, w ∈ wsX6_film := fun w h => List.mem_cons_of_mem _ (List.mem_append_right _ h)
theorem k_X6_film_397 : Cond.constantLong RX6 397 (30) ∈ wsX6_film := by decide +kernel
theorem f_X6_film_60 : Cond.fieldLink RX6 60 "OneWinterModel" "items" "[I" ∈ wsX6_film := by decide +kernel
theorem f_X6_film_104 : Cond.fieldLink RX6 104 "OneWinterModel" "shareNow" "I" ∈ wsX6_film := by decide +kernel
theorem f_X6_draws_39 : Cond.fieldLink RX6 39 "OneWinterModel" "coldsWas" "[I" ∈ wsX6_draws := by decide +kernel
theorem f_X6_draws_23 : Cond.fieldLink RX6 23 "OneWinterModel" "colds" "[I" ∈ wsX6_draws := by decide +kernel
theorem k_X6_draws_402 : Cond.constant RX6 402 (1103515245) ∈ wsX6_draws := by decide +kernel
theorem f_X6_warms_23 : Cond.fieldLink RX6 23 "OneWinterModel" "colds" "[I" ∈ wsX6_warms := by decide +kernel
theorem f_X6_warms_39 : Cond.fieldLink RX6 39 "OneWinterModel" "coldsWas" "[I" ∈ wsX6_warms := by decide +kernel
theorem in_X6_drawn_X6 : ∀ w ∈ wsX60, w ∈ wsX6_drawn := fun w h => List.mem_cons_of_mem _ (List.mem_append_right _ h)
theorem f_X6_drawn_104 : Cond.fieldLink RX6 104 "OneWinterModel" "shareNow" "I" ∈ wsX6_drawn := by decide +kernel
theorem in_X6_chance_X6 : ∀ w ∈ wsX60, w ∈ wsX6_chance := fun w h => List.mem_cons_of_mem _ (List.mem_append_right _ h)
theorem k_X6_chance_409 : Cond.constantLong RX6 409 (20) ∈ wsX6_chance := by decide +kernel
theorem k_X6_chance_360 : Cond.constantLong RX6 360 (-4611686018427387904) ∈ wsX6_chance := by decide +kernel
theorem f_X6_chance_104 : Cond.fieldLink RX6 104 "OneWinterModel" "shareNow" "I" ∈ wsX6_chance := by decide +kernel
theorem f_X6_image_42 : Cond.fieldLink RX6 42 "OneWinterModel" "coldsKept" "[I" ∈ wsX6_image := by decide +kernel
theorem f_X6_image_23 : Cond.fieldLink RX6 23 "OneWinterModel" "colds" "[I" ∈ wsX6_image := by decide +kernel
theorem f_X6_image_45 : Cond.fieldLink RX6 45 "OneWinterModel" "rowsKept" "[I" ∈ wsX6_image := by decide +kernel
theorem f_X6_image_29 : Cond.fieldLink RX6 29 "OneWinterModel" "rows" "[I" ∈ wsX6_image := by decide +kernel
theorem f_X6_image_70 : Cond.fieldLink RX6 70 "OneWinterModel" "many" "I" ∈ wsX6_image := by decide +kernel
theorem f_X6_image_48 : Cond.fieldLink RX6 48 "OneWinterModel" "manyKept" "I" ∈ wsX6_image := by decide +kernel
theorem f_X6_image_104 : Cond.fieldLink RX6 104 "OneWinterModel" "shareNow" "I" ∈ wsX6_image := by decide +kernel
theorem f_X6_image_411 : Cond.fieldLink RX6 411 "OneWinterModel" "shareKept" "I" ∈ wsX6_image := by decide +kernel
theorem f_X6_image_107 : Cond.fieldLink RX6 107 "OneWinterModel" "rule" "I" ∈ wsX6_image := by decide +kernel
theorem f_X6_image_414 : Cond.fieldLink RX6 414 "OneWinterModel" "ruleKept" "I" ∈ wsX6_image := by decide +kernel
theorem f_X6_back_48 : Cond.fieldLink RX6 48 "OneWinterModel" "manyKept" "I" ∈ wsX6_back := by decide +kernel
theorem f_X6_back_23 : Cond.fieldLink RX6 23 "OneWinterModel" "colds" "[I" ∈ wsX6_back := by decide +kernel
theorem f_X6_back_42 : Cond.fieldLink RX6 42 "OneWinterModel" "coldsKept" "[I" ∈ wsX6_back := by decide +kernel
theorem f_X6_back_29 : Cond.fieldLink RX6 29 "OneWinterModel" "rows" "[I" ∈ wsX6_back := by decide +kernel
theorem f_X6_back_45 : Cond.fieldLink RX6 45 "OneWinterModel" "rowsKept" "[I" ∈ wsX6_back := by decide +kernel
theorem f_X6_back_70 : Cond.fieldLink RX6 70 "OneWinterModel" "many" "I" ∈ wsX6_back := by decide +kernel
theorem f_X6_back_411 : Cond.fieldLink RX6 411 "OneWinterModel" "shareKept" "I" ∈ wsX6_back := by decide +kernel
theorem f_X6_back_104 : Cond.fieldLink RX6 104 "OneWinterModel" "shareNow" "I" ∈ wsX6_back := by decide +kernel
theorem f_X6_back_414 : Cond.fieldLink RX6 414 "OneWinterModel" "ruleKept" "I" ∈ wsX6_back := by decide +kernel
theorem f_X6_back_107 : Cond.fieldLink RX6 107 "OneWinterModel" "rule" "I" ∈ wsX6_back := by decide +kernel
theorem k_X6_count_110 : Cond.constantLong RX6 110 (5) ∈ wsX6_count := by decide +kernel
theorem k_X6_count_351 : Cond.constantLong RX6 351 (2) ∈ wsX6_count := by decide +kernel
theorem k_X6_count_417 : Cond.constantLong RX6 417 (4) ∈ wsX6_count := by decide +kernel
theorem f_X6_count_70 : Cond.fieldLink RX6 70 "OneWinterModel" "many" "I" ∈ wsX6_count := by decide +kernel
theorem f_X6_count_67 : Cond.fieldLink RX6 67 "OneWinterModel" "textCount" "I" ∈ wsX6_count := by decide +kernel
theorem f_X6_count_125 : Cond.fieldLink RX6 125 "OneWinterModel" "taped" "I" ∈ wsX6_count := by decide +kernel
theorem f_X6_count_107 : Cond.fieldLink RX6 107 "OneWinterModel" "rule" "I" ∈ wsX6_count := by decide +kernel
theorem f_X6_count_29 : Cond.fieldLink RX6 29 "OneWinterModel" "rows" "[I" ∈ wsX6_count := by decide +kernel
theorem f_X6_count_23 : Cond.fieldLink RX6 23 "OneWinterModel" "colds" "[I" ∈ wsX6_count := by decide +kernel
theorem k_X6_isSheet_86 : Cond.constantLong RX6 86 (3) ∈ wsX6_isSheet := by decide +kernel
theorem k_X6_sheet_419 : Cond.constantLong RX6 419 (-1) ∈ wsX6_sheet := by decide +kernel
theorem k_X6_sheet_351 : Cond.constantLong RX6 351 (2) ∈ wsX6_sheet := by decide +kernel
theorem f_X6_sheet_51 : Cond.fieldLink RX6 51 "OneWinterModel" "isThere" "[Z" ∈ wsX6_sheet := by decide +kernel
theorem f_X6_sheet_54 : Cond.fieldLink RX6 54 "OneWinterModel" "sorts" "[I" ∈ wsX6_sheet := by decide +kernel
theorem f_X6_sheet_57 : Cond.fieldLink RX6 57 "OneWinterModel" "sheetSize" "[I" ∈ wsX6_sheet := by decide +kernel
theorem f_X6_sheet_60 : Cond.fieldLink RX6 60 "OneWinterModel" "items" "[I" ∈ wsX6_sheet := by decide +kernel
theorem f_X6_cell_51 : Cond.fieldLink RX6 51 "OneWinterModel" "isThere" "[Z" ∈ wsX6_cell := by decide +kernel
theorem f_X6_cell_57 : Cond.fieldLink RX6 57 "OneWinterModel" "sheetSize" "[I" ∈ wsX6_cell := by decide +kernel
theorem f_X6_cell_60 : Cond.fieldLink RX6 60 "OneWinterModel" "items" "[I" ∈ wsX6_cell := by decide +kernel
theorem f_X6_cell_54 : Cond.fieldLink RX6 54 "OneWinterModel" "sorts" "[I" ∈ wsX6_cell := by decide +kernel
theorem f_X6_copy_51 : Cond.fieldLink RX6 51 "OneWinterModel" "isThere" "[Z" ∈ wsX6_copy := by decide +kernel
theorem f_X6_copy_54 : Cond.fieldLink RX6 54 "OneWinterModel" "sorts" "[I" ∈ wsX6_copy := by decide +kernel
theorem f_X6_copy_57 : Cond.fieldLink RX6 57 "OneWinterModel" "sheetSize" "[I" ∈ wsX6_copy := by decide +kernel
theorem f_X6_copy_60 : Cond.fieldLink RX6 60 "OneWinterModel" "items" "[I" ∈ wsX6_copy := by decide +kernel
theorem k_X6_users_351 : Cond.constantLong RX6 351 (2) ∈ wsX6_users := by decide +kernel
theorem k_X6_users_112 : Cond.constantLong RX6 112 (6) ∈ wsX6_users := by decide +kernel
theorem f_X6_users_51 : Cond.fieldLink RX6 51 "OneWinterModel" "isThere" "[Z" ∈ wsX6_users := by decide +kernel
theorem f_X6_users_54 : Cond.fieldLink RX6 54 "OneWinterModel" "sorts" "[I" ∈ wsX6_users := by decide +kernel
theorem f_X6_users_57 : Cond.fieldLink RX6 57 "OneWinterModel" "sheetSize" "[I" ∈ wsX6_users := by decide +kernel
theorem f_X6_users_60 : Cond.fieldLink RX6 60 "OneWinterModel" "items" "[I" ∈ wsX6_users := by decide +kernel
theorem k_X6_taken_110 : Cond.constantLong RX6 110 (5) ∈ wsX6_taken := by decide +kernel
theorem f_X6_taken_26 : Cond.fieldLink RX6 26 "OneWinterModel" "kinds" "[I" ∈ wsX6_taken := by decide +kernel
theorem f_X6_taken_29 : Cond.fieldLink RX6 29 "OneWinterModel" "rows" "[I" ∈ wsX6_taken := by decide +kernel
theorem k_J6_bitCount_0f7a4_265 : Cond.constant RJ6 265 (1431655765) ∈ wsJ6_bitCount_0f7a4 := by decide +kernel
theorem k_J6_bitCount_0f7a4_266 : Cond.constant RJ6 266 (858993459) ∈ wsJ6_bitCount_0f7a4 := by decide +kernel
theorem k_J6_bitCount_0f7a4_267 : Cond.constant RJ6 267 (252645135) ∈ wsJ6_bitCount_0f7a4 := by decide +kernel
theorem f_J0_length_8abf5_9 : Cond.fieldLink RJ0 9 "java/lang/String" "value" "[B" ∈ wsJ0_length_8abf5 := by decide +kernel
theorem f_J0_charAt_5068e_9 : Cond.fieldLink RJ0 9 "java/lang/String" "value" "[B" ∈ wsJ0_charAt_5068e := by decide +kernel
theorem f_J0_coder_7d493_38 : Cond.fieldLink RJ0 38 "java/lang/String" "COMPACT_STRINGS" "Z" ∈ wsJ0_coder_7d493 := by decide +kernel
theorem f_J0_coder_7d493_15 : Cond.fieldLink RJ0 15 "java/lang/String" "coder" "B" ∈ wsJ0_coder_7d493 := by decide +kernel
theorem f_J0_isLatin1_aae02_38 : Cond.fieldLink RJ0 38 "java/lang/String" "COMPACT_STRINGS" "Z" ∈ wsJ0_isLatin1_aae02 := by decide +kernel
theorem f_J0_isLatin1_aae02_15 : Cond.fieldLink RJ0 15 "java/lang/String" "coder" "B" ∈ wsJ0_isLatin1_aae02 := by decide +kernel
theorem f_J0_checkIndex_df160_1053 : Cond.fieldLink RJ0 1053 "jdk/internal/util/Preconditions" "SIOOBE_FORMATTER" "Ljava/util/function/BiFunction;" ∈ wsJ0_checkIndex_df160 := by decide +kernel
theorem f_J2_getChar_3b067_44 : Cond.fieldLink RJ2 44 "java/lang/StringUTF16" "$assertionsDisabled" "Z" ∈ wsJ2_getChar_3b067 := by decide +kernel
theorem f_J2_getChar_3b067_59 : Cond.fieldLink RJ2 59 "java/lang/StringUTF16" "HI_BYTE_SHIFT" "I" ∈ wsJ2_getChar_3b067 := by decide +kernel
theorem f_J2_getChar_3b067_63 : Cond.fieldLink RJ2 63 "java/lang/StringUTF16" "LO_BYTE_SHIFT" "I" ∈ wsJ2_getChar_3b067 := by decide +kernel
theorem hd_X1_comesBehind : yX1_comesBehind.cls ≠ "java/lang/invoke/MethodHandle" ∧ yX1_comesBehind.cls ≠ "java/lang/invoke/VarHandle" ∧ (parseMethodDescriptor yX1_comesBehind.desc).map (fun d => d.parameters.length) = some 1 := by decide +kernel
theorem hd_X1_readsInto : yX1_readsInto.cls ≠ "java/lang/invoke/MethodHandle" ∧ yX1_readsInto.cls ≠ "java/lang/invoke/VarHandle" ∧ (parseMethodDescriptor yX1_readsInto.desc).map (fun d => d.parameters.length) = some 1 := by decide +kernel
theorem hd_X1_scan : yX1_scan.cls ≠ "java/lang/invoke/MethodHandle" ∧ yX1_scan.cls ≠ "java/lang/invoke/VarHandle" ∧ (parseMethodDescriptor yX1_scan.desc).map (fun d => d.parameters.length) = some 0 := by decide +kernel
theorem hd_X1_scanToken : yX1_scanToken.cls ≠ "java/lang/invoke/MethodHandle" ∧ yX1_scanToken.cls ≠ "java/lang/invoke/VarHandle" ∧ (parseMethodDescriptor yX1_scanToken.desc).map (fun d => d.parameters.length) = some 1 := by decide +kernel
theorem hd_X1_endOf : yX1_endOf.cls ≠ "java/lang/invoke/MethodHandle" ∧ yX1_endOf.cls ≠ "java/lang/invoke/VarHandle" ∧ (parseMethodDescriptor yX1_endOf.desc).map (fun d => d.parameters.length) = some 3 := by decide +kernel
theorem hd_X1_numberOf : yX1_numberOf.cls ≠ "java/lang/invoke/MethodHandle" ∧ yX1_numberOf.cls ≠ "java/lang/invoke/VarHandle" ∧ (parseMethodDescriptor yX1_numberOf.desc).map (fun d => d.parameters.length) = some 2 := by decide +kernel
theorem hd_X1_byteAt : yX1_byteAt.cls ≠ "java/lang/invoke/MethodHandle" ∧ yX1_byteAt.cls ≠ "java/lang/invoke/VarHandle" ∧ (parseMethodDescriptor yX1_byteAt.desc).map (fun d => d.parameters.length) = some 1 := by decide +kernel
theorem hd_X1_isSign : yX1_isSign.cls ≠ "java/lang/invoke/MethodHandle" ∧ yX1_isSign.cls ≠ "java/lang/invoke/VarHandle" ∧ (parseMethodDescriptor yX1_isSign.desc).map (fun d => d.parameters.length) = some 1 := by decide +kernel
theorem hd_X1_nameOf : yX1_nameOf.cls ≠ "java/lang/invoke/MethodHandle" ∧ yX1_nameOf.cls ≠ "java/lang/invoke/VarHandle" ∧ (parseMethodDescriptor yX1_nameOf.desc).map (fun d => d.parameters.length) = some 2 := by decide +kernel
theorem hd_X1_keyOf : yX1_keyOf.cls ≠ "java/lang/invoke/MethodHandle" ∧ yX1_keyOf.cls ≠ "java/lang/invoke/VarHandle" ∧ (parseMethodDescriptor yX1_keyOf.desc).map (fun d => d.parameters.length) = some 2 := by decide +kernel
theorem hd_X1_isWord : yX1_isWord.cls ≠ "java/lang/invoke/MethodHandle" ∧ yX1_isWord.cls ≠ "java/lang/invoke/VarHandle" ∧ (parseMethodDescriptor yX1_isWord.desc).map (fun d => d.parameters.length) = some 3 := by decide +kernel
theorem hd_X1_addToken : yX1_addToken.cls ≠ "java/lang/invoke/MethodHandle" ∧ yX1_addToken.cls ≠ "java/lang/invoke/VarHandle" ∧ (parseMethodDescriptor yX1_addToken.desc).map (fun d => d.parameters.length) = some 3 := by decide +kernel
theorem hd_X1_sortNow : yX1_sortNow.cls ≠ "java/lang/invoke/MethodHandle" ∧ yX1_sortNow.cls ≠ "java/lang/invoke/VarHandle" ∧ (parseMethodDescriptor yX1_sortNow.desc).map (fun d => d.parameters.length) = some 0 := by decide +kernel
theorem hd_X1_refuse : yX1_refuse.cls ≠ "java/lang/invoke/MethodHandle" ∧ yX1_refuse.cls ≠ "java/lang/invoke/VarHandle" ∧ (parseMethodDescriptor yX1_refuse.desc).map (fun d => d.parameters.length) = some 0 := by decide +kernel
theorem hd_X1_take : yX1_take.cls ≠ "java/lang/invoke/MethodHandle" ∧ yX1_take.cls ≠ "java/lang/invoke/VarHandle" ∧ (parseMethodDescriptor yX1_take.desc).map (fun d => d.parameters.length) = some 1 := by decide +kernel
theorem hd_X1_write : yX1_write.cls ≠ "java/lang/invoke/MethodHandle" ∧ yX1_write.cls ≠ "java/lang/invoke/VarHandle" ∧ (parseMethodDescriptor yX1_write.desc).map (fun d => d.parameters.length) = some 1 := by decide +kernel
theorem hd_X1_part : yX1_part.cls ≠ "java/lang/invoke/MethodHandle" ∧ yX1_part.cls ≠ "java/lang/invoke/VarHandle" ∧ (parseMethodDescriptor yX1_part.desc).map (fun d => d.parameters.length) = some 2 := by decide +kernel
theorem hd_X1_either : yX1_either.cls ≠ "java/lang/invoke/MethodHandle" ∧ yX1_either.cls ≠ "java/lang/invoke/VarHandle" ∧ (parseMethodDescriptor yX1_either.desc).map (fun d => d.parameters.length) = some 1 := by decide +kernel
theorem hd_X1_both : yX1_both.cls ≠ "java/lang/invoke/MethodHandle" ∧ yX1_both.cls ≠ "java/lang/invoke/VarHandle" ∧ (parseMethodDescriptor yX1_both.desc).map (fun d => d.parameters.length) = some 1 := by decide +kernel
theorem hd_X1_negated : yX1_negated.cls ≠ "java/lang/invoke/MethodHandle" ∧ yX1_negated.cls ≠ "java/lang/invoke/VarHandle" ∧ (parseMethodDescriptor yX1_negated.desc).map (fun d => d.parameters.length) = some 1 := by decide +kernel
theorem hd_X1_compared : yX1_compared.cls ≠ "java/lang/invoke/MethodHandle" ∧ yX1_compared.cls ≠ "java/lang/invoke/VarHandle" ∧ (parseMethodDescriptor yX1_compared.desc).map (fun d => d.parameters.length) = some 1 := by decide +kernel
theorem hd_X1_sum : yX1_sum.cls ≠ "java/lang/invoke/MethodHandle" ∧ yX1_sum.cls ≠ "java/lang/invoke/VarHandle" ∧ (parseMethodDescriptor yX1_sum.desc).map (fun d => d.parameters.length) = some 1 := by decide +kernel
theorem hd_X1_term : yX1_term.cls ≠ "java/lang/invoke/MethodHandle" ∧ yX1_term.cls ≠ "java/lang/invoke/VarHandle" ∧ (parseMethodDescriptor yX1_term.desc).map (fun d => d.parameters.length) = some 1 := by decide +kernel
theorem hd_X1_one : yX1_one.cls ≠ "java/lang/invoke/MethodHandle" ∧ yX1_one.cls ≠ "java/lang/invoke/VarHandle" ∧ (parseMethodDescriptor yX1_one.desc).map (fun d => d.parameters.length) = some 1 := by decide +kernel
theorem hd_X1_operandNow : yX1_operandNow.cls ≠ "java/lang/invoke/MethodHandle" ∧ yX1_operandNow.cls ≠ "java/lang/invoke/VarHandle" ∧ (parseMethodDescriptor yX1_operandNow.desc).map (fun d => d.parameters.length) = some 0 := by decide +kernel
theorem hd_X2_isMissing : yX2_isMissing.cls ≠ "java/lang/invoke/MethodHandle" ∧ yX2_isMissing.cls ≠ "java/lang/invoke/VarHandle" ∧ (parseMethodDescriptor yX2_isMissing.desc).map (fun d => d.parameters.length) = some 0 := by decide +kernel
theorem hd_X2_become : yX2_become.cls ≠ "java/lang/invoke/MethodHandle" ∧ yX2_become.cls ≠ "java/lang/invoke/VarHandle" ∧ (parseMethodDescriptor yX2_become.desc).map (fun d => d.parameters.length) = some 2 := by decide +kernel
theorem hd_X2_holds : yX2_holds.cls ≠ "java/lang/invoke/MethodHandle" ∧ yX2_holds.cls ≠ "java/lang/invoke/VarHandle" ∧ (parseMethodDescriptor yX2_holds.desc).map (fun d => d.parameters.length) = some 2 := by decide +kernel
theorem hd_X2_put : yX2_put.cls ≠ "java/lang/invoke/MethodHandle" ∧ yX2_put.cls ≠ "java/lang/invoke/VarHandle" ∧ (parseMethodDescriptor yX2_put.desc).map (fun d => d.parameters.length) = some 2 := by decide +kernel
theorem hd_X3_clear : yX3_clear.cls ≠ "java/lang/invoke/MethodHandle" ∧ yX3_clear.cls ≠ "java/lang/invoke/VarHandle" ∧ (parseMethodDescriptor yX3_clear.desc).map (fun d => d.parameters.length) = some 0 := by decide +kernel
theorem hd_X3_writeFirst : yX3_writeFirst.cls ≠ "java/lang/invoke/MethodHandle" ∧ yX3_writeFirst.cls ≠ "java/lang/invoke/VarHandle" ∧ (parseMethodDescriptor yX3_writeFirst.desc).map (fun d => d.parameters.length) = some 0 := by decide +kernel
theorem hd_X3_add : yX3_add.cls ≠ "java/lang/invoke/MethodHandle" ∧ yX3_add.cls ≠ "java/lang/invoke/VarHandle" ∧ (parseMethodDescriptor yX3_add.desc).map (fun d => d.parameters.length) = some 1 := by decide +kernel
theorem hd_X3_endPart : yX3_endPart.cls ≠ "java/lang/invoke/MethodHandle" ∧ yX3_endPart.cls ≠ "java/lang/invoke/VarHandle" ∧ (parseMethodDescriptor yX3_endPart.desc).map (fun d => d.parameters.length) = some 1 := by decide +kernel
theorem hd_X3_valueOf : yX3_valueOf.cls ≠ "java/lang/invoke/MethodHandle" ∧ yX3_valueOf.cls ≠ "java/lang/invoke/VarHandle" ∧ (parseMethodDescriptor yX3_valueOf.desc).map (fun d => d.parameters.length) = some 3 := by decide +kernel
theorem hd_X3_operand : yX3_operand.cls ≠ "java/lang/invoke/MethodHandle" ∧ yX3_operand.cls ≠ "java/lang/invoke/VarHandle" ∧ (parseMethodDescriptor yX3_operand.desc).map (fun d => d.parameters.length) = some 2 := by decide +kernel
theorem hd_X3_joined : yX3_joined.cls ≠ "java/lang/invoke/MethodHandle" ∧ yX3_joined.cls ≠ "java/lang/invoke/VarHandle" ∧ (parseMethodDescriptor yX3_joined.desc).map (fun d => d.parameters.length) = some 3 := by decide +kernel
theorem hd_X4_become : yX4_become.cls ≠ "java/lang/invoke/MethodHandle" ∧ yX4_become.cls ≠ "java/lang/invoke/VarHandle" ∧ (parseMethodDescriptor yX4_become.desc).map (fun d => d.parameters.length) = some 3 := by decide +kernel
theorem hd_X4_ofWinter : yX4_ofWinter.cls ≠ "java/lang/invoke/MethodHandle" ∧ yX4_ofWinter.cls ≠ "java/lang/invoke/VarHandle" ∧ (parseMethodDescriptor yX4_ofWinter.desc).map (fun d => d.parameters.length) = some 3 := by decide +kernel
theorem hd_X4_ofMild : yX4_ofMild.cls ≠ "java/lang/invoke/MethodHandle" ∧ yX4_ofMild.cls ≠ "java/lang/invoke/VarHandle" ∧ (parseMethodDescriptor yX4_ofMild.desc).map (fun d => d.parameters.length) = some 1 := by decide +kernel
theorem hd_X5_set : yX5_set.cls ≠ "java/lang/invoke/MethodHandle" ∧ yX5_set.cls ≠ "java/lang/invoke/VarHandle" ∧ (parseMethodDescriptor yX5_set.desc).map (fun d => d.parameters.length) = some 3 := by decide +kernel
theorem hd_X5_putShare : yX5_putShare.cls ≠ "java/lang/invoke/MethodHandle" ∧ yX5_putShare.cls ≠ "java/lang/invoke/VarHandle" ∧ (parseMethodDescriptor yX5_putShare.desc).map (fun d => d.parameters.length) = some 1 := by decide +kernel
theorem hd_X5_putCold : yX5_putCold.cls ≠ "java/lang/invoke/MethodHandle" ∧ yX5_putCold.cls ≠ "java/lang/invoke/VarHandle" ∧ (parseMethodDescriptor yX5_putCold.desc).map (fun d => d.parameters.length) = some 2 := by decide +kernel
theorem hd_X5_putNumber : yX5_putNumber.cls ≠ "java/lang/invoke/MethodHandle" ∧ yX5_putNumber.cls ≠ "java/lang/invoke/VarHandle" ∧ (parseMethodDescriptor yX5_putNumber.desc).map (fun d => d.parameters.length) = some 2 := by decide +kernel
theorem hd_X5_putTown : yX5_putTown.cls ≠ "java/lang/invoke/MethodHandle" ∧ yX5_putTown.cls ≠ "java/lang/invoke/VarHandle" ∧ (parseMethodDescriptor yX5_putTown.desc).map (fun d => d.parameters.length) = some 2 := by decide +kernel
theorem hd_X5_user : yX5_user.cls ≠ "java/lang/invoke/MethodHandle" ∧ yX5_user.cls ≠ "java/lang/invoke/VarHandle" ∧ (parseMethodDescriptor yX5_user.desc).map (fun d => d.parameters.length) = some 3 := by decide +kernel
theorem hd_X5_told : yX5_told.cls ≠ "java/lang/invoke/MethodHandle" ∧ yX5_told.cls ≠ "java/lang/invoke/VarHandle" ∧ (parseMethodDescriptor yX5_told.desc).map (fun d => d.parameters.length) = some 2 := by decide +kernel
theorem hd_X5_isUser : yX5_isUser.cls ≠ "java/lang/invoke/MethodHandle" ∧ yX5_isUser.cls ≠ "java/lang/invoke/VarHandle" ∧ (parseMethodDescriptor yX5_isUser.desc).map (fun d => d.parameters.length) = some 1 := by decide +kernel
theorem hd_X5_isNight : yX5_isNight.cls ≠ "java/lang/invoke/MethodHandle" ∧ yX5_isNight.cls ≠ "java/lang/invoke/VarHandle" ∧ (parseMethodDescriptor yX5_isNight.desc).map (fun d => d.parameters.length) = some 1 := by decide +kernel
theorem hd_X5_isDigit : yX5_isDigit.cls ≠ "java/lang/invoke/MethodHandle" ∧ yX5_isDigit.cls ≠ "java/lang/invoke/VarHandle" ∧ (parseMethodDescriptor yX5_isDigit.desc).map (fun d => d.parameters.length) = some 1 := by decide +kernel
theorem hd_X5_isTown : yX5_isTown.cls ≠ "java/lang/invoke/MethodHandle" ∧ yX5_isTown.cls ≠ "java/lang/invoke/VarHandle" ∧ (parseMethodDescriptor yX5_isTown.desc).map (fun d => d.parameters.length) = some 1 := by decide +kernel
theorem hd_X5_isKind : yX5_isKind.cls ≠ "java/lang/invoke/MethodHandle" ∧ yX5_isKind.cls ≠ "java/lang/invoke/VarHandle" ∧ (parseMethodDescriptor yX5_isKind.desc).map (fun d => d.parameters.length) = some 1 := by decide +kernel
theorem hd_X5_isSheet : yX5_isSheet.cls ≠ "java/lang/invoke/MethodHandle" ∧ yX5_isSheet.cls ≠ "java/lang/invoke/VarHandle" ∧ (parseMethodDescriptor yX5_isSheet.desc).map (fun d => d.parameters.length) = some 1 := by decide +kernel
theorem hd_X5_isSort : yX5_isSort.cls ≠ "java/lang/invoke/MethodHandle" ∧ yX5_isSort.cls ≠ "java/lang/invoke/VarHandle" ∧ (parseMethodDescriptor yX5_isSort.desc).map (fun d => d.parameters.length) = some 1 := by decide +kernel
theorem hd_X5_feed : yX5_feed.cls ≠ "java/lang/invoke/MethodHandle" ∧ yX5_feed.cls ≠ "java/lang/invoke/VarHandle" ∧ (parseMethodDescriptor yX5_feed.desc).map (fun d => d.parameters.length) = some 1 := by decide +kernel
theorem hd_X5_text : yX5_text.cls ≠ "java/lang/invoke/MethodHandle" ∧ yX5_text.cls ≠ "java/lang/invoke/VarHandle" ∧ (parseMethodDescriptor yX5_text.desc).map (fun d => d.parameters.length) = some 0 := by decide +kernel
theorem hd_X5_force : yX5_force.cls ≠ "java/lang/invoke/MethodHandle" ∧ yX5_force.cls ≠ "java/lang/invoke/VarHandle" ∧ (parseMethodDescriptor yX5_force.desc).map (fun d => d.parameters.length) = some 1 := by decide +kernel
theorem hd_X5_textAt : yX5_textAt.cls ≠ "java/lang/invoke/MethodHandle" ∧ yX5_textAt.cls ≠ "java/lang/invoke/VarHandle" ∧ (parseMethodDescriptor yX5_textAt.desc).map (fun d => d.parameters.length) = some 1 := by decide +kernel
theorem hd_X5_has : yX5_has.cls ≠ "java/lang/invoke/MethodHandle" ∧ yX5_has.cls ≠ "java/lang/invoke/VarHandle" ∧ (parseMethodDescriptor yX5_has.desc).map (fun d => d.parameters.length) = some 2 := by decide +kernel
theorem hd_X5_worth : yX5_worth.cls ≠ "java/lang/invoke/MethodHandle" ∧ yX5_worth.cls ≠ "java/lang/invoke/VarHandle" ∧ (parseMethodDescriptor yX5_worth.desc).map (fun d => d.parameters.length) = some 1 := by decide +kernel
theorem hd_X5_share : yX5_share.cls ≠ "java/lang/invoke/MethodHandle" ∧ yX5_share.cls ≠ "java/lang/invoke/VarHandle" ∧ (parseMethodDescriptor yX5_share.desc).map (fun d => d.parameters.length) = some 1 := by decide +kernel
theorem hd_X5_mean : yX5_mean.cls ≠ "java/lang/invoke/MethodHandle" ∧ yX5_mean.cls ≠ "java/lang/invoke/VarHandle" ∧ (parseMethodDescriptor yX5_mean.desc).map (fun d => d.parameters.length) = some 2 := by decide +kernel
theorem hd_X5_townOf : yX5_townOf.cls ≠ "java/lang/invoke/MethodHandle" ∧ yX5_townOf.cls ≠ "java/lang/invoke/VarHandle" ∧ (parseMethodDescriptor yX5_townOf.desc).map (fun d => d.parameters.length) = some 2 := by decide +kernel
theorem hd_X5_runBehind : yX5_runBehind.cls ≠ "java/lang/invoke/MethodHandle" ∧ yX5_runBehind.cls ≠ "java/lang/invoke/VarHandle" ∧ (parseMethodDescriptor yX5_runBehind.desc).map (fun d => d.parameters.length) = some 3 := by decide +kernel
theorem hd_X5_runOf : yX5_runOf.cls ≠ "java/lang/invoke/MethodHandle" ∧ yX5_runOf.cls ≠ "java/lang/invoke/VarHandle" ∧ (parseMethodDescriptor yX5_runOf.desc).map (fun d => d.parameters.length) = some 2 := by decide +kernel
theorem hd_X5_firstTooLong : yX5_firstTooLong.cls ≠ "java/lang/invoke/MethodHandle" ∧ yX5_firstTooLong.cls ≠ "java/lang/invoke/VarHandle" ∧ (parseMethodDescriptor yX5_firstTooLong.desc).map (fun d => d.parameters.length) = some 0 := by decide +kernel
theorem hd_X5_longest : yX5_longest.cls ≠ "java/lang/invoke/MethodHandle" ∧ yX5_longest.cls ≠ "java/lang/invoke/VarHandle" ∧ (parseMethodDescriptor yX5_longest.desc).map (fun d => d.parameters.length) = some 0 := by decide +kernel
theorem hd_X5_mostOf : yX5_mostOf.cls ≠ "java/lang/invoke/MethodHandle" ∧ yX5_mostOf.cls ≠ "java/lang/invoke/VarHandle" ∧ (parseMethodDescriptor yX5_mostOf.desc).map (fun d => d.parameters.length) = some 2 := by decide +kernel
theorem hd_X5_hasAt : yX5_hasAt.cls ≠ "java/lang/invoke/MethodHandle" ∧ yX5_hasAt.cls ≠ "java/lang/invoke/VarHandle" ∧ (parseMethodDescriptor yX5_hasAt.desc).map (fun d => d.parameters.length) = some 6 := by decide +kernel
theorem hd_X5_sumOf : yX5_sumOf.cls ≠ "java/lang/invoke/MethodHandle" ∧ yX5_sumOf.cls ≠ "java/lang/invoke/VarHandle" ∧ (parseMethodDescriptor yX5_sumOf.desc).map (fun d => d.parameters.length) = some 3 := by decide +kernel
theorem hd_X5_worthOf : yX5_worthOf.cls ≠ "java/lang/invoke/MethodHandle" ∧ yX5_worthOf.cls ≠ "java/lang/invoke/VarHandle" ∧ (parseMethodDescriptor yX5_worthOf.desc).map (fun d => d.parameters.length) = some 3 := by decide +kernel
theorem hd_X5_bounded : yX5_bounded.cls ≠ "java/lang/invoke/MethodHandle" ∧ yX5_bounded.cls ≠ "java/lang/invoke/VarHandle" ∧ (parseMethodDescriptor yX5_bounded.desc).map (fun d => d.parameters.length) = some 3 := by decide +kernel
theorem hd_X5_divisorOf : yX5_divisorOf.cls ≠ "java/lang/invoke/MethodHandle" ∧ yX5_divisorOf.cls ≠ "java/lang/invoke/VarHandle" ∧ (parseMethodDescriptor yX5_divisorOf.desc).map (fun d => d.parameters.length) = some 2 := by decide +kernel
theorem hd_X5_lowest : yX5_lowest.cls ≠ "java/lang/invoke/MethodHandle" ∧ yX5_lowest.cls ≠ "java/lang/invoke/VarHandle" ∧ (parseMethodDescriptor yX5_lowest.desc).map (fun d => d.parameters.length) = some 3 := by decide +kernel
theorem hd_X5_best : yX5_best.cls ≠ "java/lang/invoke/MethodHandle" ∧ yX5_best.cls ≠ "java/lang/invoke/VarHandle" ∧ (parseMethodDescriptor yX5_best.desc).map (fun d => d.parameters.length) = some 1 := by decide +kernel
theorem hd_X5_settle : yX5_settle.cls ≠ "java/lang/invoke/MethodHandle" ∧ yX5_settle.cls ≠ "java/lang/invoke/VarHandle" ∧ (parseMethodDescriptor yX5_settle.desc).map (fun d => d.parameters.length) = some 0 := by decide +kernel
theorem hd_X5_cut : yX5_cut.cls ≠ "java/lang/invoke/MethodHandle" ∧ yX5_cut.cls ≠ "java/lang/invoke/VarHandle" ∧ (parseMethodDescriptor yX5_cut.desc).map (fun d => d.parameters.length) = some 1 := by decide +kernel
theorem hd_X5_change : yX5_change.cls ≠ "java/lang/invoke/MethodHandle" ∧ yX5_change.cls ≠ "java/lang/invoke/VarHandle" ∧ (parseMethodDescriptor yX5_change.desc).map (fun d => d.parameters.length) = some 1 := by decide +kernel
theorem hd_X5_forTown : yX5_forTown.cls ≠ "java/lang/invoke/MethodHandle" ∧ yX5_forTown.cls ≠ "java/lang/invoke/VarHandle" ∧ (parseMethodDescriptor yX5_forTown.desc).map (fun d => d.parameters.length) = some 2 := by decide +kernel
theorem hd_X5_heaviest : yX5_heaviest.cls ≠ "java/lang/invoke/MethodHandle" ∧ yX5_heaviest.cls ≠ "java/lang/invoke/VarHandle" ∧ (parseMethodDescriptor yX5_heaviest.desc).map (fun d => d.parameters.length) = some 1 := by decide +kernel
theorem hd_X5_findBest : yX5_findBest.cls ≠ "java/lang/invoke/MethodHandle" ∧ yX5_findBest.cls ≠ "java/lang/invoke/VarHandle" ∧ (parseMethodDescriptor yX5_findBest.desc).map (fun d => d.parameters.length) = some 0 := by decide +kernel
theorem hd_X5_fillLimits : yX5_fillLimits.cls ≠ "java/lang/invoke/MethodHandle" ∧ yX5_fillLimits.cls ≠ "java/lang/invoke/VarHandle" ∧ (parseMethodDescriptor yX5_fillLimits.desc).map (fun d => d.parameters.length) = some 0 := by decide +kernel
theorem hd_X5_fillAhead : yX5_fillAhead.cls ≠ "java/lang/invoke/MethodHandle" ∧ yX5_fillAhead.cls ≠ "java/lang/invoke/VarHandle" ∧ (parseMethodDescriptor yX5_fillAhead.desc).map (fun d => d.parameters.length) = some 2 := by decide +kernel
theorem hd_X5_aheadBehind : yX5_aheadBehind.cls ≠ "java/lang/invoke/MethodHandle" ∧ yX5_aheadBehind.cls ≠ "java/lang/invoke/VarHandle" ∧ (parseMethodDescriptor yX5_aheadBehind.desc).map (fun d => d.parameters.length) = some 4 := by decide +kernel
theorem hd_X5_placeAhead : yX5_placeAhead.cls ≠ "java/lang/invoke/MethodHandle" ∧ yX5_placeAhead.cls ≠ "java/lang/invoke/VarHandle" ∧ (parseMethodDescriptor yX5_placeAhead.desc).map (fun d => d.parameters.length) = some 3 := by decide +kernel
theorem hd_X5_allAt : yX5_allAt.cls ≠ "java/lang/invoke/MethodHandle" ∧ yX5_allAt.cls ≠ "java/lang/invoke/VarHandle" ∧ (parseMethodDescriptor yX5_allAt.desc).map (fun d => d.parameters.length) = some 3 := by decide +kernel
theorem hd_X5_cutShare : yX5_cutShare.cls ≠ "java/lang/invoke/MethodHandle" ∧ yX5_cutShare.cls ≠ "java/lang/invoke/VarHandle" ∧ (parseMethodDescriptor yX5_cutShare.desc).map (fun d => d.parameters.length) = some 2 := by decide +kernel
theorem hd_X5_apartBy : yX5_apartBy.cls ≠ "java/lang/invoke/MethodHandle" ∧ yX5_apartBy.cls ≠ "java/lang/invoke/VarHandle" ∧ (parseMethodDescriptor yX5_apartBy.desc).map (fun d => d.parameters.length) = some 1 := by decide +kernel
theorem hd_X5_findFlip : yX5_findFlip.cls ≠ "java/lang/invoke/MethodHandle" ∧ yX5_findFlip.cls ≠ "java/lang/invoke/VarHandle" ∧ (parseMethodDescriptor yX5_findFlip.desc).map (fun d => d.parameters.length) = some 1 := by decide +kernel
theorem hd_X5_flipped : yX5_flipped.cls ≠ "java/lang/invoke/MethodHandle" ∧ yX5_flipped.cls ≠ "java/lang/invoke/VarHandle" ∧ (parseMethodDescriptor yX5_flipped.desc).map (fun d => d.parameters.length) = some 1 := by decide +kernel
theorem hd_X5_tells : yX5_tells.cls ≠ "java/lang/invoke/MethodHandle" ∧ yX5_tells.cls ≠ "java/lang/invoke/VarHandle" ∧ (parseMethodDescriptor yX5_tells.desc).map (fun d => d.parameters.length) = some 3 := by decide +kernel
theorem hd_X5_firstOtherwise : yX5_firstOtherwise.cls ≠ "java/lang/invoke/MethodHandle" ∧ yX5_firstOtherwise.cls ≠ "java/lang/invoke/VarHandle" ∧ (parseMethodDescriptor yX5_firstOtherwise.desc).map (fun d => d.parameters.length) = some 4 := by decide +kernel
theorem hd_X5_usersTold : yX5_usersTold.cls ≠ "java/lang/invoke/MethodHandle" ∧ yX5_usersTold.cls ≠ "java/lang/invoke/VarHandle" ∧ (parseMethodDescriptor yX5_usersTold.desc).map (fun d => d.parameters.length) = some 3 := by decide +kernel
theorem hd_X5_textsTold : yX5_textsTold.cls ≠ "java/lang/invoke/MethodHandle" ∧ yX5_textsTold.cls ≠ "java/lang/invoke/VarHandle" ∧ (parseMethodDescriptor yX5_textsTold.desc).map (fun d => d.parameters.length) = some 2 := by decide +kernel
theorem hd_X5_nightsTold : yX5_nightsTold.cls ≠ "java/lang/invoke/MethodHandle" ∧ yX5_nightsTold.cls ≠ "java/lang/invoke/VarHandle" ∧ (parseMethodDescriptor yX5_nightsTold.desc).map (fun d => d.parameters.length) = some 2 := by decide +kernel
theorem hd_X5_film : yX5_film.cls ≠ "java/lang/invoke/MethodHandle" ∧ yX5_film.cls ≠ "java/lang/invoke/VarHandle" ∧ (parseMethodDescriptor yX5_film.desc).map (fun d => d.parameters.length) = some 3 := by decide +kernel
theorem hd_X5_drawn : yX5_drawn.cls ≠ "java/lang/invoke/MethodHandle" ∧ yX5_drawn.cls ≠ "java/lang/invoke/VarHandle" ∧ (parseMethodDescriptor yX5_drawn.desc).map (fun d => d.parameters.length) = some 1 := by decide +kernel
theorem hd_X5_chance : yX5_chance.cls ≠ "java/lang/invoke/MethodHandle" ∧ yX5_chance.cls ≠ "java/lang/invoke/VarHandle" ∧ (parseMethodDescriptor yX5_chance.desc).map (fun d => d.parameters.length) = some 3 := by decide +kernel
theorem hd_X5_drawColds : yX5_drawColds.cls ≠ "java/lang/invoke/MethodHandle" ∧ yX5_drawColds.cls ≠ "java/lang/invoke/VarHandle" ∧ (parseMethodDescriptor yX5_drawColds.desc).map (fun d => d.parameters.length) = some 1 := by decide +kernel
theorem hd_X5_image : yX5_image.cls ≠ "java/lang/invoke/MethodHandle" ∧ yX5_image.cls ≠ "java/lang/invoke/VarHandle" ∧ (parseMethodDescriptor yX5_image.desc).map (fun d => d.parameters.length) = some 0 := by decide +kernel
theorem hd_X5_back : yX5_back.cls ≠ "java/lang/invoke/MethodHandle" ∧ yX5_back.cls ≠ "java/lang/invoke/VarHandle" ∧ (parseMethodDescriptor yX5_back.desc).map (fun d => d.parameters.length) = some 0 := by decide +kernel
theorem hd_X5_count : yX5_count.cls ≠ "java/lang/invoke/MethodHandle" ∧ yX5_count.cls ≠ "java/lang/invoke/VarHandle" ∧ (parseMethodDescriptor yX5_count.desc).map (fun d => d.parameters.length) = some 1 := by decide +kernel
theorem hd_X5_usersOfTownOne : yX5_usersOfTownOne.cls ≠ "java/lang/invoke/MethodHandle" ∧ yX5_usersOfTownOne.cls ≠ "java/lang/invoke/VarHandle" ∧ (parseMethodDescriptor yX5_usersOfTownOne.desc).map (fun d => d.parameters.length) = some 0 := by decide +kernel
theorem hd_X5_coldTogether : yX5_coldTogether.cls ≠ "java/lang/invoke/MethodHandle" ∧ yX5_coldTogether.cls ≠ "java/lang/invoke/VarHandle" ∧ (parseMethodDescriptor yX5_coldTogether.desc).map (fun d => d.parameters.length) = some 0 := by decide +kernel
theorem hd_X5_sheet : yX5_sheet.cls ≠ "java/lang/invoke/MethodHandle" ∧ yX5_sheet.cls ≠ "java/lang/invoke/VarHandle" ∧ (parseMethodDescriptor yX5_sheet.desc).map (fun d => d.parameters.length) = some 3 := by decide +kernel
theorem hd_X5_cell : yX5_cell.cls ≠ "java/lang/invoke/MethodHandle" ∧ yX5_cell.cls ≠ "java/lang/invoke/VarHandle" ∧ (parseMethodDescriptor yX5_cell.desc).map (fun d => d.parameters.length) = some 3 := by decide +kernel
theorem hd_X5_copy : yX5_copy.cls ≠ "java/lang/invoke/MethodHandle" ∧ yX5_copy.cls ≠ "java/lang/invoke/VarHandle" ∧ (parseMethodDescriptor yX5_copy.desc).map (fun d => d.parameters.length) = some 5 := by decide +kernel
theorem hd_X5_users : yX5_users.cls ≠ "java/lang/invoke/MethodHandle" ∧ yX5_users.cls ≠ "java/lang/invoke/VarHandle" ∧ (parseMethodDescriptor yX5_users.desc).map (fun d => d.parameters.length) = some 4 := by decide +kernel
theorem hd_X5_taken : yX5_taken.cls ≠ "java/lang/invoke/MethodHandle" ∧ yX5_taken.cls ≠ "java/lang/invoke/VarHandle" ∧ (parseMethodDescriptor yX5_taken.desc).map (fun d => d.parameters.length) = some 2 := by decide +kernel
theorem hd_X5_isUnder : yX5_isUnder.cls ≠ "java/lang/invoke/MethodHandle" ∧ yX5_isUnder.cls ≠ "java/lang/invoke/VarHandle" ∧ (parseMethodDescriptor yX5_isUnder.desc).map (fun d => d.parameters.length) = some 2 := by decide +kernel
theorem hd_X6_in : yX6_in.cls ≠ "java/lang/invoke/MethodHandle" ∧ yX6_in.cls ≠ "java/lang/invoke/VarHandle" ∧ (parseMethodDescriptor yX6_in.desc).map (fun d => d.parameters.length) = some 3 := by decide +kernel
theorem hd_X6_within : yX6_within.cls ≠ "java/lang/invoke/MethodHandle" ∧ yX6_within.cls ≠ "java/lang/invoke/VarHandle" ∧ (parseMethodDescriptor yX6_within.desc).map (fun d => d.parameters.length) = some 3 := by decide +kernel
theorem hd_X6_plain : yX6_plain.cls ≠ "java/lang/invoke/MethodHandle" ∧ yX6_plain.cls ≠ "java/lang/invoke/VarHandle" ∧ (parseMethodDescriptor yX6_plain.desc).map (fun d => d.parameters.length) = some 1 := by decide +kernel
theorem hd_X6_spell : yX6_spell.cls ≠ "java/lang/invoke/MethodHandle" ∧ yX6_spell.cls ≠ "java/lang/invoke/VarHandle" ∧ (parseMethodDescriptor yX6_spell.desc).map (fun d => d.parameters.length) = some 9 := by decide +kernel
theorem hd_X6_isUser : yX6_isUser.cls ≠ "java/lang/invoke/MethodHandle" ∧ yX6_isUser.cls ≠ "java/lang/invoke/VarHandle" ∧ (parseMethodDescriptor yX6_isUser.desc).map (fun d => d.parameters.length) = some 1 := by decide +kernel
theorem hd_X6_isNight : yX6_isNight.cls ≠ "java/lang/invoke/MethodHandle" ∧ yX6_isNight.cls ≠ "java/lang/invoke/VarHandle" ∧ (parseMethodDescriptor yX6_isNight.desc).map (fun d => d.parameters.length) = some 1 := by decide +kernel
theorem hd_X6_isOf : yX6_isOf.cls ≠ "java/lang/invoke/MethodHandle" ∧ yX6_isOf.cls ≠ "java/lang/invoke/VarHandle" ∧ (parseMethodDescriptor yX6_isOf.desc).map (fun d => d.parameters.length) = some 2 := by decide +kernel
theorem hd_X6_set : yX6_set.cls ≠ "java/lang/invoke/MethodHandle" ∧ yX6_set.cls ≠ "java/lang/invoke/VarHandle" ∧ (parseMethodDescriptor yX6_set.desc).map (fun d => d.parameters.length) = some 3 := by decide +kernel
theorem hd_X6_lays : yX6_lays.cls ≠ "java/lang/invoke/MethodHandle" ∧ yX6_lays.cls ≠ "java/lang/invoke/VarHandle" ∧ (parseMethodDescriptor yX6_lays.desc).map (fun d => d.parameters.length) = some 3 := by decide +kernel
theorem hd_X6_user : yX6_user.cls ≠ "java/lang/invoke/MethodHandle" ∧ yX6_user.cls ≠ "java/lang/invoke/VarHandle" ∧ (parseMethodDescriptor yX6_user.desc).map (fun d => d.parameters.length) = some 3 := by decide +kernel
theorem hd_X6_told : yX6_told.cls ≠ "java/lang/invoke/MethodHandle" ∧ yX6_told.cls ≠ "java/lang/invoke/VarHandle" ∧ (parseMethodDescriptor yX6_told.desc).map (fun d => d.parameters.length) = some 2 := by decide +kernel
theorem hd_X6_townOf : yX6_townOf.cls ≠ "java/lang/invoke/MethodHandle" ∧ yX6_townOf.cls ≠ "java/lang/invoke/VarHandle" ∧ (parseMethodDescriptor yX6_townOf.desc).map (fun d => d.parameters.length) = some 2 := by decide +kernel
theorem hd_X6_runOf : yX6_runOf.cls ≠ "java/lang/invoke/MethodHandle" ∧ yX6_runOf.cls ≠ "java/lang/invoke/VarHandle" ∧ (parseMethodDescriptor yX6_runOf.desc).map (fun d => d.parameters.length) = some 2 := by decide +kernel
theorem hd_X6_feed : yX6_feed.cls ≠ "java/lang/invoke/MethodHandle" ∧ yX6_feed.cls ≠ "java/lang/invoke/VarHandle" ∧ (parseMethodDescriptor yX6_feed.desc).map (fun d => d.parameters.length) = some 1 := by decide +kernel
theorem hd_X6_byteAt : yX6_byteAt.cls ≠ "java/lang/invoke/MethodHandle" ∧ yX6_byteAt.cls ≠ "java/lang/invoke/VarHandle" ∧ (parseMethodDescriptor yX6_byteAt.desc).map (fun d => d.parameters.length) = some 1 := by decide +kernel
theorem hd_X6_next : yX6_next.cls ≠ "java/lang/invoke/MethodHandle" ∧ yX6_next.cls ≠ "java/lang/invoke/VarHandle" ∧ (parseMethodDescriptor yX6_next.desc).map (fun d => d.parameters.length) = some 0 := by decide +kernel
theorem hd_X6_fail : yX6_fail.cls ≠ "java/lang/invoke/MethodHandle" ∧ yX6_fail.cls ≠ "java/lang/invoke/VarHandle" ∧ (parseMethodDescriptor yX6_fail.desc).map (fun d => d.parameters.length) = some 0 := by decide +kernel
theorem hd_X6_isLetter : yX6_isLetter.cls ≠ "java/lang/invoke/MethodHandle" ∧ yX6_isLetter.cls ≠ "java/lang/invoke/VarHandle" ∧ (parseMethodDescriptor yX6_isLetter.desc).map (fun d => d.parameters.length) = some 2 := by decide +kernel
theorem hd_X6_isWord : yX6_isWord.cls ≠ "java/lang/invoke/MethodHandle" ∧ yX6_isWord.cls ≠ "java/lang/invoke/VarHandle" ∧ (parseMethodDescriptor yX6_isWord.desc).map (fun d => d.parameters.length) = some 8 := by decide +kernel
theorem hd_X6_isSign : yX6_isSign.cls ≠ "java/lang/invoke/MethodHandle" ∧ yX6_isSign.cls ≠ "java/lang/invoke/VarHandle" ∧ (parseMethodDescriptor yX6_isSign.desc).map (fun d => d.parameters.length) = some 1 := by decide +kernel
theorem hd_X6_opens : yX6_opens.cls ≠ "java/lang/invoke/MethodHandle" ∧ yX6_opens.cls ≠ "java/lang/invoke/VarHandle" ∧ (parseMethodDescriptor yX6_opens.desc).map (fun d => d.parameters.length) = some 0 := by decide +kernel
theorem hd_X6_name : yX6_name.cls ≠ "java/lang/invoke/MethodHandle" ∧ yX6_name.cls ≠ "java/lang/invoke/VarHandle" ∧ (parseMethodDescriptor yX6_name.desc).map (fun d => d.parameters.length) = some 0 := by decide +kernel
theorem hd_X6_atom5 : yX6_atom5.cls ≠ "java/lang/invoke/MethodHandle" ∧ yX6_atom5.cls ≠ "java/lang/invoke/VarHandle" ∧ (parseMethodDescriptor yX6_atom5.desc).map (fun d => d.parameters.length) = some 0 := by decide +kernel
theorem hd_X6_term5 : yX6_term5.cls ≠ "java/lang/invoke/MethodHandle" ∧ yX6_term5.cls ≠ "java/lang/invoke/VarHandle" ∧ (parseMethodDescriptor yX6_term5.desc).map (fun d => d.parameters.length) = some 0 := by decide +kernel
theorem hd_X6_added5 : yX6_added5.cls ≠ "java/lang/invoke/MethodHandle" ∧ yX6_added5.cls ≠ "java/lang/invoke/VarHandle" ∧ (parseMethodDescriptor yX6_added5.desc).map (fun d => d.parameters.length) = some 0 := by decide +kernel
theorem hd_X6_not5 : yX6_not5.cls ≠ "java/lang/invoke/MethodHandle" ∧ yX6_not5.cls ≠ "java/lang/invoke/VarHandle" ∧ (parseMethodDescriptor yX6_not5.desc).map (fun d => d.parameters.length) = some 0 := by decide +kernel
theorem hd_X6_both5 : yX6_both5.cls ≠ "java/lang/invoke/MethodHandle" ∧ yX6_both5.cls ≠ "java/lang/invoke/VarHandle" ∧ (parseMethodDescriptor yX6_both5.desc).map (fun d => d.parameters.length) = some 0 := by decide +kernel
theorem hd_X6_either5 : yX6_either5.cls ≠ "java/lang/invoke/MethodHandle" ∧ yX6_either5.cls ≠ "java/lang/invoke/VarHandle" ∧ (parseMethodDescriptor yX6_either5.desc).map (fun d => d.parameters.length) = some 0 := by decide +kernel
theorem hd_X6_atom4 : yX6_atom4.cls ≠ "java/lang/invoke/MethodHandle" ∧ yX6_atom4.cls ≠ "java/lang/invoke/VarHandle" ∧ (parseMethodDescriptor yX6_atom4.desc).map (fun d => d.parameters.length) = some 0 := by decide +kernel
theorem hd_X6_term4 : yX6_term4.cls ≠ "java/lang/invoke/MethodHandle" ∧ yX6_term4.cls ≠ "java/lang/invoke/VarHandle" ∧ (parseMethodDescriptor yX6_term4.desc).map (fun d => d.parameters.length) = some 0 := by decide +kernel
theorem hd_X6_added4 : yX6_added4.cls ≠ "java/lang/invoke/MethodHandle" ∧ yX6_added4.cls ≠ "java/lang/invoke/VarHandle" ∧ (parseMethodDescriptor yX6_added4.desc).map (fun d => d.parameters.length) = some 0 := by decide +kernel
theorem hd_X6_not4 : yX6_not4.cls ≠ "java/lang/invoke/MethodHandle" ∧ yX6_not4.cls ≠ "java/lang/invoke/VarHandle" ∧ (parseMethodDescriptor yX6_not4.desc).map (fun d => d.parameters.length) = some 0 := by decide +kernel
theorem hd_X6_both4 : yX6_both4.cls ≠ "java/lang/invoke/MethodHandle" ∧ yX6_both4.cls ≠ "java/lang/invoke/VarHandle" ∧ (parseMethodDescriptor yX6_both4.desc).map (fun d => d.parameters.length) = some 0 := by decide +kernel
theorem hd_X6_either4 : yX6_either4.cls ≠ "java/lang/invoke/MethodHandle" ∧ yX6_either4.cls ≠ "java/lang/invoke/VarHandle" ∧ (parseMethodDescriptor yX6_either4.desc).map (fun d => d.parameters.length) = some 0 := by decide +kernel
theorem hd_X6_atom3 : yX6_atom3.cls ≠ "java/lang/invoke/MethodHandle" ∧ yX6_atom3.cls ≠ "java/lang/invoke/VarHandle" ∧ (parseMethodDescriptor yX6_atom3.desc).map (fun d => d.parameters.length) = some 0 := by decide +kernel
theorem hd_X6_term3 : yX6_term3.cls ≠ "java/lang/invoke/MethodHandle" ∧ yX6_term3.cls ≠ "java/lang/invoke/VarHandle" ∧ (parseMethodDescriptor yX6_term3.desc).map (fun d => d.parameters.length) = some 0 := by decide +kernel
theorem hd_X6_added3 : yX6_added3.cls ≠ "java/lang/invoke/MethodHandle" ∧ yX6_added3.cls ≠ "java/lang/invoke/VarHandle" ∧ (parseMethodDescriptor yX6_added3.desc).map (fun d => d.parameters.length) = some 0 := by decide +kernel
theorem hd_X6_not3 : yX6_not3.cls ≠ "java/lang/invoke/MethodHandle" ∧ yX6_not3.cls ≠ "java/lang/invoke/VarHandle" ∧ (parseMethodDescriptor yX6_not3.desc).map (fun d => d.parameters.length) = some 0 := by decide +kernel
theorem hd_X6_both3 : yX6_both3.cls ≠ "java/lang/invoke/MethodHandle" ∧ yX6_both3.cls ≠ "java/lang/invoke/VarHandle" ∧ (parseMethodDescriptor yX6_both3.desc).map (fun d => d.parameters.length) = some 0 := by decide +kernel
theorem hd_X6_either3 : yX6_either3.cls ≠ "java/lang/invoke/MethodHandle" ∧ yX6_either3.cls ≠ "java/lang/invoke/VarHandle" ∧ (parseMethodDescriptor yX6_either3.desc).map (fun d => d.parameters.length) = some 0 := by decide +kernel
theorem hd_X6_atom2 : yX6_atom2.cls ≠ "java/lang/invoke/MethodHandle" ∧ yX6_atom2.cls ≠ "java/lang/invoke/VarHandle" ∧ (parseMethodDescriptor yX6_atom2.desc).map (fun d => d.parameters.length) = some 0 := by decide +kernel
theorem hd_X6_term2 : yX6_term2.cls ≠ "java/lang/invoke/MethodHandle" ∧ yX6_term2.cls ≠ "java/lang/invoke/VarHandle" ∧ (parseMethodDescriptor yX6_term2.desc).map (fun d => d.parameters.length) = some 0 := by decide +kernel
theorem hd_X6_added2 : yX6_added2.cls ≠ "java/lang/invoke/MethodHandle" ∧ yX6_added2.cls ≠ "java/lang/invoke/VarHandle" ∧ (parseMethodDescriptor yX6_added2.desc).map (fun d => d.parameters.length) = some 0 := by decide +kernel
theorem hd_X6_not2 : yX6_not2.cls ≠ "java/lang/invoke/MethodHandle" ∧ yX6_not2.cls ≠ "java/lang/invoke/VarHandle" ∧ (parseMethodDescriptor yX6_not2.desc).map (fun d => d.parameters.length) = some 0 := by decide +kernel
theorem hd_X6_both2 : yX6_both2.cls ≠ "java/lang/invoke/MethodHandle" ∧ yX6_both2.cls ≠ "java/lang/invoke/VarHandle" ∧ (parseMethodDescriptor yX6_both2.desc).map (fun d => d.parameters.length) = some 0 := by decide +kernel
theorem hd_X6_either2 : yX6_either2.cls ≠ "java/lang/invoke/MethodHandle" ∧ yX6_either2.cls ≠ "java/lang/invoke/VarHandle" ∧ (parseMethodDescriptor yX6_either2.desc).map (fun d => d.parameters.length) = some 0 := by decide +kernel
theorem hd_X6_atom1 : yX6_atom1.cls ≠ "java/lang/invoke/MethodHandle" ∧ yX6_atom1.cls ≠ "java/lang/invoke/VarHandle" ∧ (parseMethodDescriptor yX6_atom1.desc).map (fun d => d.parameters.length) = some 0 := by decide +kernel
theorem hd_X6_term1 : yX6_term1.cls ≠ "java/lang/invoke/MethodHandle" ∧ yX6_term1.cls ≠ "java/lang/invoke/VarHandle" ∧ (parseMethodDescriptor yX6_term1.desc).map (fun d => d.parameters.length) = some 0 := by decide +kernel
theorem hd_X6_added1 : yX6_added1.cls ≠ "java/lang/invoke/MethodHandle" ∧ yX6_added1.cls ≠ "java/lang/invoke/VarHandle" ∧ (parseMethodDescriptor yX6_added1.desc).map (fun d => d.parameters.length) = some 0 := by decide +kernel
theorem hd_X6_not1 : yX6_not1.cls ≠ "java/lang/invoke/MethodHandle" ∧ yX6_not1.cls ≠ "java/lang/invoke/VarHandle" ∧ (parseMethodDescriptor yX6_not1.desc).map (fun d => d.parameters.length) = some 0 := by decide +kernel
theorem hd_X6_both1 : yX6_both1.cls ≠ "java/lang/invoke/MethodHandle" ∧ yX6_both1.cls ≠ "java/lang/invoke/VarHandle" ∧ (parseMethodDescriptor yX6_both1.desc).map (fun d => d.parameters.length) = some 0 := by decide +kernel
theorem hd_X6_either1 : yX6_either1.cls ≠ "java/lang/invoke/MethodHandle" ∧ yX6_either1.cls ≠ "java/lang/invoke/VarHandle" ∧ (parseMethodDescriptor yX6_either1.desc).map (fun d => d.parameters.length) = some 0 := by decide +kernel
theorem hd_X6_atom0 : yX6_atom0.cls ≠ "java/lang/invoke/MethodHandle" ∧ yX6_atom0.cls ≠ "java/lang/invoke/VarHandle" ∧ (parseMethodDescriptor yX6_atom0.desc).map (fun d => d.parameters.length) = some 0 := by decide +kernel
theorem hd_X6_term0 : yX6_term0.cls ≠ "java/lang/invoke/MethodHandle" ∧ yX6_term0.cls ≠ "java/lang/invoke/VarHandle" ∧ (parseMethodDescriptor yX6_term0.desc).map (fun d => d.parameters.length) = some 0 := by decide +kernel
theorem hd_X6_added0 : yX6_added0.cls ≠ "java/lang/invoke/MethodHandle" ∧ yX6_added0.cls ≠ "java/lang/invoke/VarHandle" ∧ (parseMethodDescriptor yX6_added0.desc).map (fun d => d.parameters.length) = some 0 := by decide +kernel
theorem hd_X6_not0 : yX6_not0.cls ≠ "java/lang/invoke/MethodHandle" ∧ yX6_not0.cls ≠ "java/lang/invoke/VarHandle" ∧ (parseMethodDescriptor yX6_not0.desc).map (fun d => d.parameters.length) = some 0 := by decide +kernel
theorem hd_X6_both0 : yX6_both0.cls ≠ "java/lang/invoke/MethodHandle" ∧ yX6_both0.cls ≠ "java/lang/invoke/VarHandle" ∧ (parseMethodDescriptor yX6_both0.desc).map (fun d => d.parameters.length) = some 0 := by decide +kernel
theorem hd_X6_either0 : yX6_either0.cls ≠ "java/lang/invoke/MethodHandle" ∧ yX6_either0.cls ≠ "java/lang/invoke/VarHandle" ∧ (parseMethodDescriptor yX6_either0.desc).map (fun d => d.parameters.length) = some 0 := by decide +kernel
theorem hd_X6_part : yX6_part.cls ≠ "java/lang/invoke/MethodHandle" ∧ yX6_part.cls ≠ "java/lang/invoke/VarHandle" ∧ (parseMethodDescriptor yX6_part.desc).map (fun d => d.parameters.length) = some 1 := by decide +kernel
theorem hd_X6_read : yX6_read.cls ≠ "java/lang/invoke/MethodHandle" ∧ yX6_read.cls ≠ "java/lang/invoke/VarHandle" ∧ (parseMethodDescriptor yX6_read.desc).map (fun d => d.parameters.length) = some 2 := by decide +kernel
theorem hd_X6_text : yX6_text.cls ≠ "java/lang/invoke/MethodHandle" ∧ yX6_text.cls ≠ "java/lang/invoke/VarHandle" ∧ (parseMethodDescriptor yX6_text.desc).map (fun d => d.parameters.length) = some 0 := by decide +kernel
theorem hd_X6_force : yX6_force.cls ≠ "java/lang/invoke/MethodHandle" ∧ yX6_force.cls ≠ "java/lang/invoke/VarHandle" ∧ (parseMethodDescriptor yX6_force.desc).map (fun d => d.parameters.length) = some 1 := by decide +kernel
theorem hd_X6_says : yX6_says.cls ≠ "java/lang/invoke/MethodHandle" ∧ yX6_says.cls ≠ "java/lang/invoke/VarHandle" ∧ (parseMethodDescriptor yX6_says.desc).map (fun d => d.parameters.length) = some 5 := by decide +kernel
theorem hd_X6_mostOf : yX6_mostOf.cls ≠ "java/lang/invoke/MethodHandle" ∧ yX6_mostOf.cls ≠ "java/lang/invoke/VarHandle" ∧ (parseMethodDescriptor yX6_mostOf.desc).map (fun d => d.parameters.length) = some 2 := by decide +kernel
theorem hd_X6_hasBy : yX6_hasBy.cls ≠ "java/lang/invoke/MethodHandle" ∧ yX6_hasBy.cls ≠ "java/lang/invoke/VarHandle" ∧ (parseMethodDescriptor yX6_hasBy.desc).map (fun d => d.parameters.length) = some 4 := by decide +kernel
theorem hd_X6_hasOf : yX6_hasOf.cls ≠ "java/lang/invoke/MethodHandle" ∧ yX6_hasOf.cls ≠ "java/lang/invoke/VarHandle" ∧ (parseMethodDescriptor yX6_hasOf.desc).map (fun d => d.parameters.length) = some 3 := by decide +kernel
theorem hd_X6_has : yX6_has.cls ≠ "java/lang/invoke/MethodHandle" ∧ yX6_has.cls ≠ "java/lang/invoke/VarHandle" ∧ (parseMethodDescriptor yX6_has.desc).map (fun d => d.parameters.length) = some 2 := by decide +kernel
theorem hd_X6_hasAll : yX6_hasAll.cls ≠ "java/lang/invoke/MethodHandle" ∧ yX6_hasAll.cls ≠ "java/lang/invoke/VarHandle" ∧ (parseMethodDescriptor yX6_hasAll.desc).map (fun d => d.parameters.length) = some 2 := by decide +kernel
theorem hd_X6_worthBy : yX6_worthBy.cls ≠ "java/lang/invoke/MethodHandle" ∧ yX6_worthBy.cls ≠ "java/lang/invoke/VarHandle" ∧ (parseMethodDescriptor yX6_worthBy.desc).map (fun d => d.parameters.length) = some 2 := by decide +kernel
theorem hd_X6_worth : yX6_worth.cls ≠ "java/lang/invoke/MethodHandle" ∧ yX6_worth.cls ≠ "java/lang/invoke/VarHandle" ∧ (parseMethodDescriptor yX6_worth.desc).map (fun d => d.parameters.length) = some 1 := by decide +kernel
theorem hd_X6_tooMuch : yX6_tooMuch.cls ≠ "java/lang/invoke/MethodHandle" ∧ yX6_tooMuch.cls ≠ "java/lang/invoke/VarHandle" ∧ (parseMethodDescriptor yX6_tooMuch.desc).map (fun d => d.parameters.length) = some 1 := by decide +kernel
theorem hd_X6_share : yX6_share.cls ≠ "java/lang/invoke/MethodHandle" ∧ yX6_share.cls ≠ "java/lang/invoke/VarHandle" ∧ (parseMethodDescriptor yX6_share.desc).map (fun d => d.parameters.length) = some 1 := by decide +kernel
theorem hd_X6_mean : yX6_mean.cls ≠ "java/lang/invoke/MethodHandle" ∧ yX6_mean.cls ≠ "java/lang/invoke/VarHandle" ∧ (parseMethodDescriptor yX6_mean.desc).map (fun d => d.parameters.length) = some 2 := by decide +kernel
theorem hd_X6_spot : yX6_spot.cls ≠ "java/lang/invoke/MethodHandle" ∧ yX6_spot.cls ≠ "java/lang/invoke/VarHandle" ∧ (parseMethodDescriptor yX6_spot.desc).map (fun d => d.parameters.length) = some 3 := by decide +kernel
theorem hd_X6_spotBehind : yX6_spotBehind.cls ≠ "java/lang/invoke/MethodHandle" ∧ yX6_spotBehind.cls ≠ "java/lang/invoke/VarHandle" ∧ (parseMethodDescriptor yX6_spotBehind.desc).map (fun d => d.parameters.length) = some 4 := by decide +kernel
theorem hd_X6_fills : yX6_fills.cls ≠ "java/lang/invoke/MethodHandle" ∧ yX6_fills.cls ≠ "java/lang/invoke/VarHandle" ∧ (parseMethodDescriptor yX6_fills.desc).map (fun d => d.parameters.length) = some 3 := by decide +kernel
theorem hd_X6_bestShare : yX6_bestShare.cls ≠ "java/lang/invoke/MethodHandle" ∧ yX6_bestShare.cls ≠ "java/lang/invoke/VarHandle" ∧ (parseMethodDescriptor yX6_bestShare.desc).map (fun d => d.parameters.length) = some 0 := by decide +kernel
theorem hd_X6_best : yX6_best.cls ≠ "java/lang/invoke/MethodHandle" ∧ yX6_best.cls ≠ "java/lang/invoke/VarHandle" ∧ (parseMethodDescriptor yX6_best.desc).map (fun d => d.parameters.length) = some 1 := by decide +kernel
theorem hd_X6_settle : yX6_settle.cls ≠ "java/lang/invoke/MethodHandle" ∧ yX6_settle.cls ≠ "java/lang/invoke/VarHandle" ∧ (parseMethodDescriptor yX6_settle.desc).map (fun d => d.parameters.length) = some 0 := by decide +kernel
theorem hd_X6_cut : yX6_cut.cls ≠ "java/lang/invoke/MethodHandle" ∧ yX6_cut.cls ≠ "java/lang/invoke/VarHandle" ∧ (parseMethodDescriptor yX6_cut.desc).map (fun d => d.parameters.length) = some 1 := by decide +kernel
theorem hd_X6_changes : yX6_changes.cls ≠ "java/lang/invoke/MethodHandle" ∧ yX6_changes.cls ≠ "java/lang/invoke/VarHandle" ∧ (parseMethodDescriptor yX6_changes.desc).map (fun d => d.parameters.length) = some 1 := by decide +kernel
theorem hd_X6_change : yX6_change.cls ≠ "java/lang/invoke/MethodHandle" ∧ yX6_change.cls ≠ "java/lang/invoke/VarHandle" ∧ (parseMethodDescriptor yX6_change.desc).map (fun d => d.parameters.length) = some 1 := by decide +kernel
theorem hd_X6_forTown : yX6_forTown.cls ≠ "java/lang/invoke/MethodHandle" ∧ yX6_forTown.cls ≠ "java/lang/invoke/VarHandle" ∧ (parseMethodDescriptor yX6_forTown.desc).map (fun d => d.parameters.length) = some 2 := by decide +kernel
theorem hd_X6_heaviest : yX6_heaviest.cls ≠ "java/lang/invoke/MethodHandle" ∧ yX6_heaviest.cls ≠ "java/lang/invoke/VarHandle" ∧ (parseMethodDescriptor yX6_heaviest.desc).map (fun d => d.parameters.length) = some 1 := by decide +kernel
theorem hd_X6_firstOther : yX6_firstOther.cls ≠ "java/lang/invoke/MethodHandle" ∧ yX6_firstOther.cls ≠ "java/lang/invoke/VarHandle" ∧ (parseMethodDescriptor yX6_firstOther.desc).map (fun d => d.parameters.length) = some 3 := by decide +kernel
theorem hd_X6_tells : yX6_tells.cls ≠ "java/lang/invoke/MethodHandle" ∧ yX6_tells.cls ≠ "java/lang/invoke/VarHandle" ∧ (parseMethodDescriptor yX6_tells.desc).map (fun d => d.parameters.length) = some 3 := by decide +kernel
theorem hd_X6_film : yX6_film.cls ≠ "java/lang/invoke/MethodHandle" ∧ yX6_film.cls ≠ "java/lang/invoke/VarHandle" ∧ (parseMethodDescriptor yX6_film.desc).map (fun d => d.parameters.length) = some 3 := by decide +kernel
theorem hd_X6_draws : yX6_draws.cls ≠ "java/lang/invoke/MethodHandle" ∧ yX6_draws.cls ≠ "java/lang/invoke/VarHandle" ∧ (parseMethodDescriptor yX6_draws.desc).map (fun d => d.parameters.length) = some 1 := by decide +kernel
theorem hd_X6_warms : yX6_warms.cls ≠ "java/lang/invoke/MethodHandle" ∧ yX6_warms.cls ≠ "java/lang/invoke/VarHandle" ∧ (parseMethodDescriptor yX6_warms.desc).map (fun d => d.parameters.length) = some 0 := by decide +kernel
theorem hd_X6_drawn : yX6_drawn.cls ≠ "java/lang/invoke/MethodHandle" ∧ yX6_drawn.cls ≠ "java/lang/invoke/VarHandle" ∧ (parseMethodDescriptor yX6_drawn.desc).map (fun d => d.parameters.length) = some 1 := by decide +kernel
theorem hd_X6_chance : yX6_chance.cls ≠ "java/lang/invoke/MethodHandle" ∧ yX6_chance.cls ≠ "java/lang/invoke/VarHandle" ∧ (parseMethodDescriptor yX6_chance.desc).map (fun d => d.parameters.length) = some 3 := by decide +kernel
theorem hd_X6_image : yX6_image.cls ≠ "java/lang/invoke/MethodHandle" ∧ yX6_image.cls ≠ "java/lang/invoke/VarHandle" ∧ (parseMethodDescriptor yX6_image.desc).map (fun d => d.parameters.length) = some 0 := by decide +kernel
theorem hd_X6_back : yX6_back.cls ≠ "java/lang/invoke/MethodHandle" ∧ yX6_back.cls ≠ "java/lang/invoke/VarHandle" ∧ (parseMethodDescriptor yX6_back.desc).map (fun d => d.parameters.length) = some 0 := by decide +kernel
theorem hd_X6_count : yX6_count.cls ≠ "java/lang/invoke/MethodHandle" ∧ yX6_count.cls ≠ "java/lang/invoke/VarHandle" ∧ (parseMethodDescriptor yX6_count.desc).map (fun d => d.parameters.length) = some 1 := by decide +kernel
theorem hd_X6_isSheet : yX6_isSheet.cls ≠ "java/lang/invoke/MethodHandle" ∧ yX6_isSheet.cls ≠ "java/lang/invoke/VarHandle" ∧ (parseMethodDescriptor yX6_isSheet.desc).map (fun d => d.parameters.length) = some 1 := by decide +kernel
theorem hd_X6_sheet : yX6_sheet.cls ≠ "java/lang/invoke/MethodHandle" ∧ yX6_sheet.cls ≠ "java/lang/invoke/VarHandle" ∧ (parseMethodDescriptor yX6_sheet.desc).map (fun d => d.parameters.length) = some 3 := by decide +kernel
theorem hd_X6_cell : yX6_cell.cls ≠ "java/lang/invoke/MethodHandle" ∧ yX6_cell.cls ≠ "java/lang/invoke/VarHandle" ∧ (parseMethodDescriptor yX6_cell.desc).map (fun d => d.parameters.length) = some 3 := by decide +kernel
theorem hd_X6_copy : yX6_copy.cls ≠ "java/lang/invoke/MethodHandle" ∧ yX6_copy.cls ≠ "java/lang/invoke/VarHandle" ∧ (parseMethodDescriptor yX6_copy.desc).map (fun d => d.parameters.length) = some 5 := by decide +kernel
theorem hd_X6_users : yX6_users.cls ≠ "java/lang/invoke/MethodHandle" ∧ yX6_users.cls ≠ "java/lang/invoke/VarHandle" ∧ (parseMethodDescriptor yX6_users.desc).map (fun d => d.parameters.length) = some 4 := by decide +kernel
theorem hd_X6_over : yX6_over.cls ≠ "java/lang/invoke/MethodHandle" ∧ yX6_over.cls ≠ "java/lang/invoke/VarHandle" ∧ (parseMethodDescriptor yX6_over.desc).map (fun d => d.parameters.length) = some 1 := by decide +kernel
theorem hd_X6_taken : yX6_taken.cls ≠ "java/lang/invoke/MethodHandle" ∧ yX6_taken.cls ≠ "java/lang/invoke/VarHandle" ∧ (parseMethodDescriptor yX6_taken.desc).map (fun d => d.parameters.length) = some 2 := by decide +kernel
theorem hd_J6_bitCount_0f7a4 : yJ6_bitCount_0f7a4.cls ≠ "java/lang/invoke/MethodHandle" ∧ yJ6_bitCount_0f7a4.cls ≠ "java/lang/invoke/VarHandle" ∧ (parseMethodDescriptor yJ6_bitCount_0f7a4.desc).map (fun d => d.parameters.length) = some 1 := by decide +kernel
theorem hd_J9_abs_0f7a4 : yJ9_abs_0f7a4.cls ≠ "java/lang/invoke/MethodHandle" ∧ yJ9_abs_0f7a4.cls ≠ "java/lang/invoke/VarHandle" ∧ (parseMethodDescriptor yJ9_abs_0f7a4.desc).map (fun d => d.parameters.length) = some 1 := by decide +kernel
theorem hd_J9_max_7cf53 : yJ9_max_7cf53.cls ≠ "java/lang/invoke/MethodHandle" ∧ yJ9_max_7cf53.cls ≠ "java/lang/invoke/VarHandle" ∧ (parseMethodDescriptor yJ9_max_7cf53.desc).map (fun d => d.parameters.length) = some 2 := by decide +kernel
theorem hd_J9_min_7cf53 : yJ9_min_7cf53.cls ≠ "java/lang/invoke/MethodHandle" ∧ yJ9_min_7cf53.cls ≠ "java/lang/invoke/VarHandle" ∧ (parseMethodDescriptor yJ9_min_7cf53.desc).map (fun d => d.parameters.length) = some 2 := by decide +kernel
theorem hd_J0_length_8abf5 : yJ0_length_8abf5.cls ≠ "java/lang/invoke/MethodHandle" ∧ yJ0_length_8abf5.cls ≠ "java/lang/invoke/VarHandle" ∧ (parseMethodDescriptor yJ0_length_8abf5.desc).map (fun d => d.parameters.length) = some 0 := by decide +kernel
theorem hd_J0_charAt_5068e : yJ0_charAt_5068e.cls ≠ "java/lang/invoke/MethodHandle" ∧ yJ0_charAt_5068e.cls ≠ "java/lang/invoke/VarHandle" ∧ (parseMethodDescriptor yJ0_charAt_5068e.desc).map (fun d => d.parameters.length) = some 1 := by decide +kernel
theorem hd_J0_coder_7d493 : yJ0_coder_7d493.cls ≠ "java/lang/invoke/MethodHandle" ∧ yJ0_coder_7d493.cls ≠ "java/lang/invoke/VarHandle" ∧ (parseMethodDescriptor yJ0_coder_7d493.desc).map (fun d => d.parameters.length) = some 0 := by decide +kernel
theorem hd_J0_isLatin1_aae02 : yJ0_isLatin1_aae02.cls ≠ "java/lang/invoke/MethodHandle" ∧ yJ0_isLatin1_aae02.cls ≠ "java/lang/invoke/VarHandle" ∧ (parseMethodDescriptor yJ0_isLatin1_aae02.desc).map (fun d => d.parameters.length) = some 0 := by decide +kernel
theorem hd_J0_checkIndex_df160 : yJ0_checkIndex_df160.cls ≠ "java/lang/invoke/MethodHandle" ∧ yJ0_checkIndex_df160.cls ≠ "java/lang/invoke/VarHandle" ∧ (parseMethodDescriptor yJ0_checkIndex_df160.desc).map (fun d => d.parameters.length) = some 2 := by decide +kernel
theorem hd_J1_charAt_3b067 : yJ1_charAt_3b067.cls ≠ "java/lang/invoke/MethodHandle" ∧ yJ1_charAt_3b067.cls ≠ "java/lang/invoke/VarHandle" ∧ (parseMethodDescriptor yJ1_charAt_3b067.desc).map (fun d => d.parameters.length) = some 2 := by decide +kernel
theorem hd_J2_getChar_3b067 : yJ2_getChar_3b067.cls ≠ "java/lang/invoke/MethodHandle" ∧ yJ2_getChar_3b067.cls ≠ "java/lang/invoke/VarHandle" ∧ (parseMethodDescriptor yJ2_getChar_3b067.desc).map (fun d => d.parameters.length) = some 2 := by decide +kernel
theorem hd_J2_length_9d52b : yJ2_length_9d52b.cls ≠ "java/lang/invoke/MethodHandle" ∧ yJ2_length_9d52b.cls ≠ "java/lang/invoke/VarHandle" ∧ (parseMethodDescriptor yJ2_length_9d52b.desc).map (fun d => d.parameters.length) = some 1 := by decide +kernel
theorem hd_J2_charAt_3b067 : yJ2_charAt_3b067.cls ≠ "java/lang/invoke/MethodHandle" ∧ yJ2_charAt_3b067.cls ≠ "java/lang/invoke/VarHandle" ∧ (parseMethodDescriptor yJ2_charAt_3b067.desc).map (fun d => d.parameters.length) = some 2 := by decide +kernel
theorem hd_J2_checkIndex_2214a : yJ2_checkIndex_2214a.cls ≠ "java/lang/invoke/MethodHandle" ∧ yJ2_checkIndex_2214a.cls ≠ "java/lang/invoke/VarHandle" ∧ (parseMethodDescriptor yJ2_checkIndex_2214a.desc).map (fun d => d.parameters.length) = some 2 := by decide +kernel
theorem hd_J3_checkIndex_8e157 : yJ3_checkIndex_8e157.cls ≠ "java/lang/invoke/MethodHandle" ∧ yJ3_checkIndex_8e157.cls ≠ "java/lang/invoke/VarHandle" ∧ (parseMethodDescriptor yJ3_checkIndex_8e157.desc).map (fun d => d.parameters.length) = some 3 := by decide +kernel
