/-! method descriptors; links of fields, methods, constants, by their places in the tables -/
theorem tb_g : ∀ w ∈ lw_g, (w.onTables && w.keeps) = true ∨ ∃ ty, w = .arrayClass ty := fun w hw => good_of_word (lw_gg w hw)
def sm_m (Y : MD_) (c : Nat) : Prop := Cond.code Y.1 Y.2.1 Y.2.2.1 Y.2.2.2.1 ∈ lw_g ∧ Cond.instanceMethod Y.1 ∈ lw_g ∧ Cond.selects Y.1.cls Y.1 Y.1 ∈ lw_g ∧ Cond.initialized Y.1.cls ∈ lw_g ∧ (Y.1.cls ≠ "java/lang/invoke/MethodHandle" ∧ Y.1.cls ≠ "java/lang/invoke/VarHandle") ∧ Y.2.2.1 ≤ 45 ∧ ∃ T N, vwCl[c]? = some (Y.1.cls, T, N)
def sm_ms (Y : MD_) : Prop := Cond.code Y.1 Y.2.1 Y.2.2.1 Y.2.2.2.1 ∈ lw_g ∧ Cond.static Y.1 ∈ lw_g ∧ Cond.initialized Y.1.cls ∈ lw_g ∧ (Y.1.cls ≠ "java/lang/invoke/MethodHandle" ∧ Y.1.cls ≠ "java/lang/invoke/VarHandle") ∧ Y.2.2.1 ≤ 45
theorem sm_wg {Y : MD_} (hc : Cond.code Y.1 Y.2.1 Y.2.2.1 Y.2.2.2.1 ∈ lw_g) : ∀ w ∈ sm_w Y, w ∈ lw_g := fun w hw => (List.mem_cons.mp hw).elim (fun e => e ▸ hc) id
theorem sm_vk {own : String} {idx c n : Nat} {Y : MD_} (k : sm_m Y c) (hl : Cond.methodLink own idx Y.1 ∈ lw_g) (hp : (parseMethodDescriptor Y.1.desc).map (fun d => d.parameters.length) = some n) : sm_V own idx Y c n := by
  obtain ⟨k1, k2, k3, k4, k5, k6, k7⟩ := k
  refine ⟨fun w hw => ?_, k5.1, k5.2, hp, k6, k7⟩
  have hm : w ∈ lw_g := by
    unfold wsV at hw
    rcases List.mem_append.mp hw with z | z
    · simp only [List.mem_cons, List.not_mem_nil, or_false] at z
      rcases z with rfl | rfl | rfl | rfl
      · exact hl
      · exact k2
      · exact k3
      · exact k4
    · exact sm_wg k1 w z
  exact ⟨hm, tb_g w hm⟩
theorem sm_sk {own : String} {idx n : Nat} {Y : MD_} (k : sm_ms Y) (hl : Cond.methodLink own idx Y.1 ∈ lw_g) (hp : (parseMethodDescriptor Y.1.desc).map (fun d => d.parameters.length) = some n) : sm_S own idx Y n := by
  obtain ⟨k1, k2, k3, k5, k6⟩ := k
  refine ⟨fun w hw => ?_, k5.1, k5.2, hp, k6⟩
  have hm : w ∈ lw_g := by
    unfold va_wsS at hw
    rcases List.mem_append.mp hw with z | z
    · simp only [List.mem_cons, List.not_mem_nil, or_false] at z
      rcases z with rfl | rfl | rfl
      · exact hl
      · exact k2
      · exact k3
    · exact sm_wg k1 w z
  exact ⟨hm, tb_g w hm⟩
abbrev mX0_kept : MD_ := (yX0_kept, cX0_kept, 1, some .int, 1)
abbrev mX0_clear : MD_ := (yX0_clear, cX0_clear, 1, none, 0)
abbrev mX0_keepAhead : MD_ := (yX0_keepAhead, cX0_keepAhead, 3, none, 0)
abbrev mX0_undoLatest : MD_ := (yX0_undoLatest, cX0_undoLatest, 3, none, 0)
abbrev mX1_answer : MD_ := (yX1_answer, cX1_answer, 4, some .int, 1)
abbrev mX1_traceAt : MD_ := (yX1_traceAt, cX1_traceAt, 2, some .int, 1)
abbrev mX1_sizeOf : MD_ := (yX1_sizeOf, cX1_sizeOf, 4, some .int, 1)
abbrev mX1_markOf : MD_ := (yX1_markOf, cX1_markOf, 4, some .int, 1)
abbrev mX1_nearestBody : MD_ := (yX1_nearestBody, cX1_nearestBody, 4, some .int, 1)
abbrev mX1_run : MD_ := (yX1_run, cX1_run, 6, some .int, 1)
abbrev mX1_leaveTrace : MD_ := (yX1_leaveTrace, cX1_leaveTrace, 2, none, 0)
abbrev mX2_mindOf : MD_ := (yX2_mindOf, cX2_mindOf, 3, some (.object "NodBets$Mind"), 4)
abbrev mX2_nodsNow : MD_ := (yX2_nodsNow, cX2_nodsNow, 7, some .int, 1)
abbrev mX2_seekOrder : MD_ := (yX2_seekOrder, cX2_seekOrder, 4, none, 0)
abbrev mX2_bestNods : MD_ := (yX2_bestNods, cX2_bestNods, 1, some .int, 1)
abbrev mX2_bestAt : MD_ := (yX2_bestAt, cX2_bestAt, 2, some .int, 1)
abbrev mX2_seekOrderFrom : MD_ := (yX2_seekOrderFrom, cX2_seekOrderFrom, 7, none, 0)
abbrev mX2_keepBest : MD_ := (yX2_keepBest, cX2_keepBest, 4, none, 0)
abbrev mX2_tryNext : MD_ := (yX2_tryNext, cX2_tryNext, 5, some .boolean, 2)
abbrev mX2_fewestAhead : MD_ := (yX2_fewestAhead, cX2_fewestAhead, 7, some .int, 1)
abbrev mX2_firstAhead : MD_ := (yX2_firstAhead, cX2_firstAhead, 1, some .int, 1)
abbrev mX2_comesInFrom : MD_ := (yX2_comesInFrom, cX2_comesInFrom, 7, some .boolean, 2)
abbrev mX2_deadLies : MD_ := (yX2_deadLies, cX2_deadLies, 4, some .int, 1)
abbrev mX2_deadFrom : MD_ := (yX2_deadFrom, cX2_deadFrom, 7, some .int, 1)
abbrev mX2_helpEachOther : MD_ := (yX2_helpEachOther, cX2_helpEachOther, 5, some .boolean, 2)
abbrev mX2_bringsIn : MD_ := (yX2_bringsIn, cX2_bringsIn, 4, some .boolean, 2)
abbrev mX2_takeTelling : MD_ := (yX2_takeTelling, cX2_takeTelling, 8, some .boolean, 2)
abbrev mX2_goesSo : MD_ := (yX2_goesSo, cX2_goesSo, 8, some .boolean, 2)
abbrev mX2_waysToNod : MD_ := (yX2_waysToNod, cX2_waysToNod, 5, some .int, 1)
abbrev mX2_waysInAll : MD_ := (yX2_waysInAll, cX2_waysInAll, 3, some .int, 1)
abbrev mX2_waysFrom : MD_ := (yX2_waysFrom, cX2_waysFrom, 8, some .int, 1)
abbrev mX3_isKind : MD_ := (yX3_isKind, cX3_isKind, 1, some .boolean, 2)
abbrev mX3_isOne : MD_ := (yX3_isOne, cX3_isOne, 4, some .boolean, 2)
abbrev mX3_above : MD_ := (yX3_above, cX3_above, 1, some .int, 1)
abbrev mX3_ofLetter : MD_ := (yX3_ofLetter, cX3_ofLetter, 1, some .int, 1)
abbrev mX4_enter : MD_ := (yX4_enter, cX4_enter, 4, none, 0)
abbrev mX4_become : MD_ := (yX4_become, cX4_become, 3, none, 0)
abbrev mX4_needOf : MD_ := (yX4_needOf, cX4_needOf, 5, some .int, 1)
abbrev mX4_wouldNod : MD_ := (yX4_wouldNod, cX4_wouldNod, 3, some .boolean, 2)
abbrev mX4_hear : MD_ := (yX4_hear, cX4_hear, 4, some .boolean, 2)
abbrev mX4_hearAs : MD_ := (yX4_hearAs, cX4_hearAs, 4, none, 0)
abbrev mX4_dine : MD_ := (yX4_dine, cX4_dine, 1, none, 0)
abbrev mX4_undoubtedNeed : MD_ := (yX4_undoubtedNeed, cX4_undoubtedNeed, 4, some .int, 1)
abbrev mX5_isFull : MD_ := (yX5_isFull, cX5_isFull, 1, some .boolean, 2)
abbrev mX5_append : MD_ := (yX5_append, cX5_append, 2, some .int, 1)
abbrev mX5_length : MD_ := (yX5_length, cX5_length, 1, some .int, 1)
abbrev mX5_faultPlace : MD_ := (yX5_faultPlace, cX5_faultPlace, 1, some .int, 1)
abbrev mX5_latestFault : MD_ := (yX5_latestFault, cX5_latestFault, 1, some .int, 1)
abbrev mX5_readInto : MD_ := (yX5_readInto, cX5_readInto, 3, some .boolean, 2)
abbrev mX5_readLaw : MD_ := (yX5_readLaw, cX5_readLaw, 3, some .boolean, 2)
abbrev mX5_readLies : MD_ := (yX5_readLies, cX5_readLies, 6, some .boolean, 2)
abbrev mX5_readStrangers : MD_ := (yX5_readStrangers, cX5_readStrangers, 5, some .boolean, 2)
abbrev mX5_readNumber : MD_ := (yX5_readNumber, cX5_readNumber, 5, some .int, 1)
abbrev mX5_passed : MD_ := (yX5_passed, cX5_passed, 2, some .boolean, 2)
abbrev mX5_refuse : MD_ := (yX5_refuse, cX5_refuse, 2, some .boolean, 2)
abbrev mX5_here : MD_ := (yX5_here, cX5_here, 1, some .int, 1)
abbrev mX5_byteAt : MD_ := (yX5_byteAt, cX5_byteAt, 2, some .int, 1)
abbrev mX5_isFigure : MD_ := (yX5_isFigure, cX5_isFigure, 1, some .boolean, 2)
abbrev mX6_isRow : MD_ := (yX6_isRow, cX6_isRow, 1, some .boolean, 2)
abbrev mX6_isLane : MD_ := (yX6_isLane, cX6_isLane, 1, some .boolean, 2)
abbrev mX6_isMissing : MD_ := (yX6_isMissing, cX6_isMissing, 2, some .boolean, 2)
abbrev mX6_laneOf : MD_ := (yX6_laneOf, cX6_laneOf, 2, some .int, 1)
abbrev mX6_hasPlaces : MD_ := (yX6_hasPlaces, cX6_hasPlaces, 4, some .boolean, 2)
abbrev mX6_make : MD_ := (yX6_make, cX6_make, 5, none, 0)
abbrev mX6_put : MD_ := (yX6_put, cX6_put, 5, some .int, 1)
abbrev mX6_itemAt : MD_ := (yX6_itemAt, cX6_itemAt, 3, some .int, 1)
abbrev mX6_move : MD_ := (yX6_move, cX6_move, 6, none, 0)
abbrev mX6_remove : MD_ := (yX6_remove, cX6_remove, 3, some .int, 1)
abbrev mX6_present : MD_ := (yX6_present, cX6_present, 3, some .int, 1)
abbrev mX6_cutToLane : MD_ := (yX6_cutToLane, cX6_cutToLane, 2, some .int, 1)
abbrev mX7_stands : MD_ := (yX7_stands, cX7_stands, 1, some .boolean, 2)
abbrev mX7_hasLie : MD_ := (yX7_hasLie, cX7_hasLie, 2, some .boolean, 2)
abbrev mX7_hasStranger : MD_ := (yX7_hasStranger, cX7_hasStranger, 2, some .boolean, 2)
abbrev mX7_isSetOfLies : MD_ := (yX7_isSetOfLies, cX7_isSetOfLies, 2, some .boolean, 2)
abbrev mX7_wasTold : MD_ := (yX7_wasTold, cX7_wasTold, 3, some .boolean, 2)
abbrev mX7_untold : MD_ := (yX7_untold, cX7_untold, 2, some .int, 1)
abbrev mX7_strangersWith : MD_ := (yX7_strangersWith, cX7_strangersWith, 5, some .int, 1)
abbrev mX7_begin : MD_ := (yX7_begin, cX7_begin, 2, none, 0)
abbrev mX7_addLie : MD_ := (yX7_addLie, cX7_addLie, 4, none, 0)
abbrev mX7_addStranger : MD_ := (yX7_addStranger, cX7_addStranger, 3, none, 0)
abbrev mX7_become : MD_ := (yX7_become, cX7_become, 3, none, 0)
abbrev mX7_noteTold : MD_ := (yX7_noteTold, cX7_noteTold, 5, none, 0)
abbrev mX7_noteSupper : MD_ := (yX7_noteSupper, cX7_noteSupper, 3, none, 0)
abbrev mX7_noteForgotten : MD_ := (yX7_noteForgotten, cX7_noteForgotten, 3, none, 0)
abbrev mX8_row : MD_ := (yX8_row, cX8_row, 4, some .int, 1)
abbrev mX8_set : MD_ := (yX8_set, cX8_set, 4, some .int, 1)
abbrev mX8_copy : MD_ := (yX8_copy, cX8_copy, 6, some .int, 1)
abbrev mX8_drop : MD_ := (yX8_drop, cX8_drop, 2, some .int, 1)
abbrev mX8_feed : MD_ := (yX8_feed, cX8_feed, 2, some .int, 1)
abbrev mX8_town : MD_ := (yX8_town, cX8_town, 1, some .int, 1)
abbrev mX8_fault : MD_ := (yX8_fault, cX8_fault, 1, some .int, 1)
abbrev mX8_tell : MD_ := (yX8_tell, cX8_tell, 5, some .int, 1)
abbrev mX8_supper : MD_ := (yX8_supper, cX8_supper, 3, some .int, 1)
abbrev mX8_forget : MD_ := (yX8_forget, cX8_forget, 3, some .int, 1)
abbrev mX8_undo : MD_ := (yX8_undo, cX8_undo, 1, some .int, 1)
abbrev mX8_lie : MD_ := (yX8_lie, cX8_lie, 3, some .int, 1)
abbrev mX8_stranger : MD_ := (yX8_stranger, cX8_stranger, 3, some .int, 1)
abbrev mX8_need : MD_ := (yX8_need, cX8_need, 3, some .int, 1)
abbrev mX8_nods : MD_ := (yX8_nods, cX8_nods, 2, some .int, 1)
abbrev mX8_order : MD_ := (yX8_order, cX8_order, 4, some .int, 1)
abbrev mX8_comesIn : MD_ := (yX8_comesIn, cX8_comesIn, 5, some .int, 1)
abbrev mX8_dead : MD_ := (yX8_dead, cX8_dead, 2, some .int, 1)
abbrev mX8_help : MD_ := (yX8_help, cX8_help, 7, some .int, 1)
abbrev mX8_suppers : MD_ := (yX8_suppers, cX8_suppers, 5, some .int, 1)
abbrev mX8_doubted : MD_ := (yX8_doubted, cX8_doubted, 10, some .int, 1)
abbrev mX8_trusted : MD_ := (yX8_trusted, cX8_trusted, 8, some .int, 1)
abbrev mX8_who : MD_ := (yX8_who, cX8_who, 7, some .int, 1)
abbrev mX8_odds : MD_ := (yX8_odds, cX8_odds, 12, some .int, 1)
abbrev mX8_image : MD_ := (yX8_image, cX8_image, 2, some .int, 1)
abbrev mX8_restore : MD_ := (yX8_restore, cX8_restore, 2, some .int, 1)
abbrev mX8_kind : MD_ := (yX8_kind, cX8_kind, 2, some .int, 1)
abbrev mX8_as : MD_ := (yX8_as, cX8_as, 3, some .int, 1)
abbrev mX8_ask : MD_ := (yX8_ask, cX8_ask, 3, some .int, 1)
abbrev mX8_trace : MD_ := (yX8_trace, cX8_trace, 2, some .int, 1)
abbrev mX8_count : MD_ := (yX8_count, cX8_count, 2, some .int, 1)
abbrev mX8_status : MD_ := (yX8_status, cX8_status, 1, some .int, 1)
abbrev mX8_found : MD_ := (yX8_found, cX8_found, 2, some .int, 1)
abbrev mX8_unfound : MD_ := (yX8_unfound, cX8_unfound, 2, some .int, 1)
abbrev mX8_isTelling : MD_ := (yX8_isTelling, cX8_isTelling, 2, some .boolean, 2)
abbrev mX8_takeTelling : MD_ := (yX8_takeTelling, cX8_takeTelling, 4, some .int, 1)
abbrev mX8_commonDivisor : MD_ := (yX8_commonDivisor, cX8_commonDivisor, 6, some .int, 1)
abbrev mX9_in : MD_ := (yX9_in, cX9_in, 3, some .boolean, 2)
abbrev mX9_has : MD_ := (yX9_has, cX9_has, 2, some .boolean, 2)
abbrev mX9_ones : MD_ := (yX9_ones, cX9_ones, 3, some .int, 1)
abbrev mX9_found : MD_ := (yX9_found, cX9_found, 2, some .int, 1)
abbrev mX9_well : MD_ := (yX9_well, cX9_well, 2, some .int, 1)
abbrev mX9_copies : MD_ := (yX9_copies, cX9_copies, 5, none, 0)
abbrev mX9_isRow : MD_ := (yX9_isRow, cX9_isRow, 1, some .boolean, 2)
abbrev mX9_isMissing : MD_ := (yX9_isMissing, cX9_isMissing, 2, some .boolean, 2)
abbrev mX9_cut : MD_ := (yX9_cut, cX9_cut, 2, some .int, 1)
abbrev mX9_row : MD_ := (yX9_row, cX9_row, 5, some .int, 1)
abbrev mX9_set : MD_ := (yX9_set, cX9_set, 4, some .int, 1)
abbrev mX9_isPart : MD_ := (yX9_isPart, cX9_isPart, 4, some .boolean, 2)
abbrev mX9_copy : MD_ := (yX9_copy, cX9_copy, 7, some .int, 1)
abbrev mX9_drop : MD_ := (yX9_drop, cX9_drop, 2, some .int, 1)
abbrev mX9_feed : MD_ := (yX9_feed, cX9_feed, 2, some .int, 1)
abbrev mX9_byteAt : MD_ := (yX9_byteAt, cX9_byteAt, 2, some .int, 1)
abbrev mX9_advances : MD_ := (yX9_advances, cX9_advances, 2, none, 0)
abbrev mX9_isWell : MD_ := (yX9_isWell, cX9_isWell, 1, some .boolean, 2)
abbrev mX9_takes : MD_ := (yX9_takes, cX9_takes, 4, some .int, 1)
abbrev mX9_figure : MD_ := (yX9_figure, cX9_figure, 3, some .int, 1)
abbrev mX9_kindOf : MD_ := (yX9_kindOf, cX9_kindOf, 1, some .int, 1)
abbrev mX9_next : MD_ := (yX9_next, cX9_next, 3, some .int, 1)
abbrev mX9_readsLie : MD_ := (yX9_readsLie, cX9_readsLie, 5, none, 0)
abbrev mX9_readsStranger : MD_ := (yX9_readsStranger, cX9_readsStranger, 4, none, 0)
abbrev mX9_town : MD_ := (yX9_town, cX9_town, 2, some .int, 1)
abbrev mX9_fault : MD_ := (yX9_fault, cX9_fault, 1, some .int, 1)
abbrev mX9_isTown : MD_ := (yX9_isTown, cX9_isTown, 1, some .boolean, 2)
abbrev mX9_isLie : MD_ := (yX9_isLie, cX9_isLie, 2, some .boolean, 2)
abbrev mX9_isStranger : MD_ := (yX9_isStranger, cX9_isStranger, 2, some .boolean, 2)
abbrev mX9_tries : MD_ := (yX9_tries, cX9_tries, 4, none, 0)
abbrev mX9_needs : MD_ := (yX9_needs, cX9_needs, 6, some .int, 1)
abbrev mX9_wouldNod : MD_ := (yX9_wouldNod, cX9_wouldNod, 2, some .boolean, 2)
abbrev mX9_hears : MD_ := (yX9_hears, cX9_hears, 4, none, 0)
abbrev mX9_notes : MD_ := (yX9_notes, cX9_notes, 2, none, 0)
abbrev mX9_wasTold : MD_ := (yX9_wasTold, cX9_wasTold, 3, some .boolean, 2)
abbrev mX9_tell : MD_ := (yX9_tell, cX9_tell, 5, some .int, 1)
abbrev mX9_supper : MD_ := (yX9_supper, cX9_supper, 3, some .int, 1)
abbrev mX9_forget : MD_ := (yX9_forget, cX9_forget, 4, some .int, 1)
abbrev mX9_undo : MD_ := (yX9_undo, cX9_undo, 1, some .int, 1)
abbrev mX9_strangersWith : MD_ := (yX9_strangersWith, cX9_strangersWith, 5, some .int, 1)
abbrev mX9_noddedAt : MD_ := (yX9_noddedAt, cX9_noddedAt, 2, some .int, 1)
abbrev mX9_lie : MD_ := (yX9_lie, cX9_lie, 3, some .int, 1)
abbrev mX9_stranger : MD_ := (yX9_stranger, cX9_stranger, 3, some .int, 1)
abbrev mX9_need : MD_ := (yX9_need, cX9_need, 3, some .int, 1)
abbrev mX9_untold : MD_ := (yX9_untold, cX9_untold, 2, some .int, 1)
abbrev mX9_nods : MD_ := (yX9_nods, cX9_nods, 4, some .int, 1)
abbrev mX9_nodsAt : MD_ := (yX9_nodsAt, cX9_nodsAt, 6, some .int, 1)
abbrev mX9_goesOn : MD_ := (yX9_goesOn, cX9_goesOn, 6, some .boolean, 2)
abbrev mX9_fills : MD_ := (yX9_fills, cX9_fills, 8, none, 0)
abbrev mX9_order : MD_ := (yX9_order, cX9_order, 8, some .int, 1)
abbrev mX9_aheadOf : MD_ := (yX9_aheadOf, cX9_aheadOf, 7, some .int, 1)
abbrev mX9_comesIn : MD_ := (yX9_comesIn, cX9_comesIn, 5, some .int, 1)
abbrev mX9_dead : MD_ := (yX9_dead, cX9_dead, 4, some .int, 1)
abbrev mX9_helps : MD_ := (yX9_helps, cX9_helps, 5, some .boolean, 2)
abbrev mX9_help : MD_ := (yX9_help, cX9_help, 9, some .int, 1)
abbrev mX9_suppers : MD_ := (yX9_suppers, cX9_suppers, 4, some .int, 1)
abbrev mX9_wrongIn : MD_ := (yX9_wrongIn, cX9_wrongIn, 6, some .int, 1)
abbrev mX9_goesSo : MD_ := (yX9_goesSo, cX9_goesSo, 7, some .boolean, 2)
abbrev mX9_doubted : MD_ := (yX9_doubted, cX9_doubted, 11, some .int, 1)
abbrev mX9_trusted : MD_ := (yX9_trusted, cX9_trusted, 8, some .int, 1)
abbrev mX9_who : MD_ := (yX9_who, cX9_who, 7, some .int, 1)
abbrev mX9_goesBy : MD_ := (yX9_goesBy, cX9_goesBy, 12, some .long, 3)
abbrev mX9_odds : MD_ := (yX9_odds, cX9_odds, 19, some .int, 1)
abbrev mX9_image : MD_ := (yX9_image, cX9_image, 2, some .int, 1)
abbrev mX9_restore : MD_ := (yX9_restore, cX9_restore, 2, some .int, 1)
abbrev mX9_kindIn : MD_ := (yX9_kindIn, cX9_kindIn, 2, some .int, 1)
abbrev mX9_kind : MD_ := (yX9_kind, cX9_kind, 2, some .int, 1)
abbrev mX9_as : MD_ := (yX9_as, cX9_as, 5, some .int, 1)
abbrev mX9_begins : MD_ := (yX9_begins, cX9_begins, 2, none, 0)
abbrev mX9_easyMark : MD_ := (yX9_easyMark, cX9_easyMark, 4, some .int, 1)
abbrev mX9_proofSize : MD_ := (yX9_proofSize, cX9_proofSize, 4, some .int, 1)
abbrev mX9_easySize : MD_ := (yX9_easySize, cX9_easySize, 4, some .int, 1)
abbrev mX9_proofMark : MD_ := (yX9_proofMark, cX9_proofMark, 2, some .int, 1)
abbrev mX9_ask : MD_ := (yX9_ask, cX9_ask, 4, some .int, 1)
abbrev mX9_trace : MD_ := (yX9_trace, cX9_trace, 2, some .int, 1)
abbrev mX9_count : MD_ := (yX9_count, cX9_count, 4, some .int, 1)
abbrev mX9_status : MD_ := (yX9_status, cX9_status, 1, some .int, 1)
abbrev mJ6_bitCount_0f7a4 : MD_ := (yJ6_bitCount_0f7a4, cJ6_bitCount_0f7a4, 1, some .int, 1)
abbrev mJ9_max_7cf53 : MD_ := (yJ9_max_7cf53, cJ9_max_7cf53, 2, some .int, 1)
abbrev mJ9_min_7cf53 : MD_ := (yJ9_min_7cf53, cJ9_min_7cf53, 2, some .int, 1)
theorem in_X0 : ∀ w ∈ u_ws RX0 TX0 7, w ∈ lw_g := by decide +kernel
theorem in_X1 : ∀ w ∈ u_ws RX1 TX1 2, w ∈ lw_g := by decide +kernel
theorem in_X2 : ∀ w ∈ u_ws RX2 TX2 8, w ∈ lw_g := by decide +kernel
theorem in_X4 : ∀ w ∈ u_ws RX4 TX4 4, w ∈ lw_g := by decide +kernel
theorem in_X5 : ∀ w ∈ u_ws RX5 TX5 4, w ∈ lw_g := by decide +kernel
theorem in_X6 : ∀ w ∈ u_ws RX6 TX6 3, w ∈ lw_g := by decide +kernel
theorem in_X7 : ∀ w ∈ u_ws RX7 TX7 11, w ∈ lw_g := by decide +kernel
theorem in_X8 : ∀ w ∈ u_ws RX8 TX8 9, w ∈ lw_g := by decide +kernel
theorem in_X9 : ∀ w ∈ u_ws RX9 TX9 28, w ∈ lw_g := by decide +kernel
theorem y_X0_0 : ∀ i : Nat, i < 83 → sl_y[i]? = some (4, 0) → (0 : Nat) ≠ 5 ∧ 0 ≤ (i : Int) + 1 ∧ sl_y[((i : Int) + 1).toNat]? = some (0, 24) := by decide +kernel
theorem y_X0_1 : ∀ i : Nat, i < 83 → sl_y[i]? = some (4, 0) → (0 : Nat) ≠ 5 ∧ 0 ≤ (i : Int) + 2 ∧ sl_y[((i : Int) + 2).toNat]? = some (0, 24) := by decide +kernel
theorem y_X0_2 : ∀ i : Nat, i < 83 → sl_y[i]? = some (4, 0) → (0 : Nat) ≠ 5 ∧ 0 ≤ (i : Int) + 3 ∧ sl_y[((i : Int) + 3).toNat]? = some (0, 24) := by decide +kernel
theorem y_X0_3 : ∀ i : Nat, i < 83 → sl_y[i]? = some (4, 0) → (0 : Nat) ≠ 5 ∧ 0 ≤ (i : Int) + 4 ∧ sl_y[((i : Int) + 4).toNat]? = some (0, 24) := by decide +kernel
theorem y_X0_4 : ∀ i : Nat, i < 83 → sl_y[i]? = some (4, 0) → (0 : Nat) ≠ 5 ∧ 0 ≤ (i : Int) + 5 ∧ sl_y[((i : Int) + 5).toNat]? = some (0, 24) := by decide +kernel
theorem y_X1_0 : ∀ i : Nat, i < 83 → sl_y[i]? = some (4, 1) → (0 : Nat) ≠ 5 ∧ 0 ≤ (i : Int) + 1 ∧ sl_y[((i : Int) + 1).toNat]? = some (0, 16) := by decide +kernel
theorem y_X2_0 : ∀ i : Nat, i < 83 → sl_y[i]? = some (4, 2) → (2 : Nat) ≠ 5 ∧ 0 ≤ (i : Int) + 1 ∧ sl_y[((i : Int) + 1).toNat]? = some (2, 7) := by decide +kernel
theorem y_X2_1 : ∀ i : Nat, i < 83 → sl_y[i]? = some (4, 2) → (0 : Nat) ≠ 5 ∧ 0 ≤ (i : Int) + 2 ∧ sl_y[((i : Int) + 2).toNat]? = some (0, 6) := by decide +kernel
theorem y_X2_2 : ∀ i : Nat, i < 83 → sl_y[i]? = some (4, 2) → (0 : Nat) ≠ 5 ∧ 0 ≤ (i : Int) + 3 ∧ sl_y[((i : Int) + 3).toNat]? = some (0, 6) := by decide +kernel
theorem y_X2_5 : ∀ i : Nat, i < 83 → sl_y[i]? = some (4, 2) → (0 : Nat) ≠ 5 ∧ 0 ≤ (i : Int) + 4 ∧ sl_y[((i : Int) + 4).toNat]? = some (0, 6) := by decide +kernel
theorem y_X2_6 : ∀ i : Nat, i < 83 → sl_y[i]? = some (4, 2) → (0 : Nat) ≠ 5 ∧ 0 ≤ (i : Int) + 5 ∧ sl_y[((i : Int) + 5).toNat]? = some (0, 6) := by decide +kernel
theorem y_X4_3 : ∀ i : Nat, i < 83 → sl_y[i]? = some (4, 3) → (0 : Nat) ≠ 5 ∧ 0 ≤ (i : Int) + 1 ∧ sl_y[((i : Int) + 1).toNat]? = some (0, 4) := by decide +kernel
theorem y_X5_0 : ∀ i : Nat, i < 83 → sl_y[i]? = some (4, 4) → (0 : Nat) ≠ 5 ∧ 0 ≤ (i : Int) + 1 ∧ sl_y[((i : Int) + 1).toNat]? = some (0, 120) := by decide +kernel
theorem y_X6_0 : ∀ i : Nat, i < 83 → sl_y[i]? = some (4, 5) → (0 : Nat) ≠ 5 ∧ 0 ≤ (i : Int) + 1 ∧ sl_y[((i : Int) + 1).toNat]? = some (0, 8) := by decide +kernel
theorem y_X6_1 : ∀ i : Nat, i < 83 → sl_y[i]? = some (4, 5) → (0 : Nat) ≠ 5 ∧ 0 ≤ (i : Int) + 2 ∧ sl_y[((i : Int) + 2).toNat]? = some (0, 8) := by decide +kernel
theorem y_X6_2 : ∀ i : Nat, i < 83 → sl_y[i]? = some (4, 5) → (0 : Nat) ≠ 5 ∧ 0 ≤ (i : Int) + 3 ∧ sl_y[((i : Int) + 3).toNat]? = some (0, 320) := by decide +kernel
theorem y_X7_4 : ∀ i : Nat, i < 83 → sl_y[i]? = some (4, 6) → (0 : Nat) ≠ 5 ∧ 0 ≤ (i : Int) + 1 ∧ sl_y[((i : Int) + 1).toNat]? = some (0, 6) := by decide +kernel
theorem y_X7_5 : ∀ i : Nat, i < 83 → sl_y[i]? = some (4, 6) → (0 : Nat) ≠ 5 ∧ 0 ≤ (i : Int) + 2 ∧ sl_y[((i : Int) + 2).toNat]? = some (0, 6) := by decide +kernel
theorem y_X7_6 : ∀ i : Nat, i < 83 → sl_y[i]? = some (4, 6) → (0 : Nat) ≠ 5 ∧ 0 ≤ (i : Int) + 3 ∧ sl_y[((i : Int) + 3).toNat]? = some (0, 6) := by decide +kernel
theorem y_X7_7 : ∀ i : Nat, i < 83 → sl_y[i]? = some (4, 6) → (0 : Nat) ≠ 5 ∧ 0 ≤ (i : Int) + 4 ∧ sl_y[((i : Int) + 4).toNat]? = some (0, 4) := by decide +kernel
theorem y_X7_8 : ∀ i : Nat, i < 83 → sl_y[i]? = some (4, 6) → (0 : Nat) ≠ 5 ∧ 0 ≤ (i : Int) + 5 ∧ sl_y[((i : Int) + 5).toNat]? = some (0, 4) := by decide +kernel
theorem y_X7_9 : ∀ i : Nat, i < 83 → sl_y[i]? = some (4, 6) → (0 : Nat) ≠ 5 ∧ 0 ≤ (i : Int) + 6 ∧ sl_y[((i : Int) + 6).toNat]? = some (0, 4) := by decide +kernel
theorem y_X7_10 : ∀ i : Nat, i < 83 → sl_y[i]? = some (4, 6) → (0 : Nat) ≠ 5 ∧ 0 ≤ (i : Int) + 7 ∧ sl_y[((i : Int) + 7).toNat]? = some (0, 4) := by decide +kernel
theorem y_X9_0 : ∀ i : Nat, i < 83 → sl_y[i]? = some (4, 8) → (0 : Nat) ≠ 5 ∧ 0 ≤ (i : Int) + 1 ∧ sl_y[((i : Int) + 1).toNat]? = some (0, 8) := by decide +kernel
theorem y_X9_1 : ∀ i : Nat, i < 83 → sl_y[i]? = some (4, 8) → (0 : Nat) ≠ 5 ∧ 0 ≤ (i : Int) + 2 ∧ sl_y[((i : Int) + 2).toNat]? = some (0, 8) := by decide +kernel
theorem y_X9_2 : ∀ i : Nat, i < 83 → sl_y[i]? = some (4, 8) → (0 : Nat) ≠ 5 ∧ 0 ≤ (i : Int) + 3 ∧ sl_y[((i : Int) + 3).toNat]? = some (0, 320) := by decide +kernel
theorem y_X9_3 : ∀ i : Nat, i < 83 → sl_y[i]? = some (4, 8) → (0 : Nat) ≠ 5 ∧ 0 ≤ (i : Int) + 4 ∧ sl_y[((i : Int) + 4).toNat]? = some (0, 40) := by decide +kernel
theorem y_X9_5 : ∀ i : Nat, i < 83 → sl_y[i]? = some (4, 8) → (0 : Nat) ≠ 5 ∧ 0 ≤ (i : Int) + 5 ∧ sl_y[((i : Int) + 5).toNat]? = some (0, 120) := by decide +kernel
theorem y_X9_13 : ∀ i : Nat, i < 83 → sl_y[i]? = some (4, 8) → (0 : Nat) ≠ 5 ∧ 0 ≤ (i : Int) + 6 ∧ sl_y[((i : Int) + 6).toNat]? = some (0, 38) := by decide +kernel
theorem y_X9_14 : ∀ i : Nat, i < 83 → sl_y[i]? = some (4, 8) → (0 : Nat) ≠ 5 ∧ 0 ≤ (i : Int) + 7 ∧ sl_y[((i : Int) + 7).toNat]? = some (0, 38) := by decide +kernel
theorem y_X9_15 : ∀ i : Nat, i < 83 → sl_y[i]? = some (4, 8) → (0 : Nat) ≠ 5 ∧ 0 ≤ (i : Int) + 8 ∧ sl_y[((i : Int) + 8).toNat]? = some (0, 912) := by decide +kernel
theorem y_X9_17 : ∀ i : Nat, i < 83 → sl_y[i]? = some (4, 8) → (0 : Nat) ≠ 5 ∧ 0 ≤ (i : Int) + 9 ∧ sl_y[((i : Int) + 9).toNat]? = some (0, 76) := by decide +kernel
theorem y_X9_18 : ∀ i : Nat, i < 83 → sl_y[i]? = some (4, 8) → (1 : Nat) ≠ 5 ∧ 0 ≤ (i : Int) + 10 ∧ sl_y[((i : Int) + 10).toNat]? = some (1, 2) := by decide +kernel
theorem y_X9_19 : ∀ i : Nat, i < 83 → sl_y[i]? = some (4, 8) → (0 : Nat) ≠ 5 ∧ 0 ≤ (i : Int) + 11 ∧ sl_y[((i : Int) + 11).toNat]? = some (0, 16) := by decide +kernel
theorem y_X9_24 : ∀ i : Nat, i < 83 → sl_y[i]? = some (4, 8) → (0 : Nat) ≠ 5 ∧ 0 ≤ (i : Int) + 12 ∧ sl_y[((i : Int) + 12).toNat]? = some (0, 4) := by decide +kernel
theorem y_X9_25 : ∀ i : Nat, i < 83 → sl_y[i]? = some (4, 8) → (0 : Nat) ≠ 5 ∧ 0 ≤ (i : Int) + 13 ∧ sl_y[((i : Int) + 13).toNat]? = some (0, 6) := by decide +kernel
theorem y_X9_26 : ∀ i : Nat, i < 83 → sl_y[i]? = some (4, 8) → (0 : Nat) ≠ 5 ∧ 0 ≤ (i : Int) + 14 ∧ sl_y[((i : Int) + 14).toNat]? = some (0, 6) := by decide +kernel
set_option maxRecDepth 100000 in
theorem kX0_kept : sm_m mX0_kept 0 := ⟨(lw_gm 562 rfl rfl), (lw_gm 560 (by decide +kernel) rfl), (lw_gm 561 (by decide +kernel) rfl), (lw_gm 66 (by decide +kernel) rfl), ⟨by decide, by decide⟩, by decide, TX0, 7, rfl⟩
set_option maxRecDepth 100000 in
theorem kX0_clear : sm_m mX0_clear 0 := ⟨(lw_gm 459 rfl rfl), (lw_gm 457 (by decide +kernel) rfl), (lw_gm 458 (by decide +kernel) rfl), (lw_gm 66 (by decide +kernel) rfl), ⟨by decide, by decide⟩, by decide, TX0, 7, rfl⟩
set_option maxRecDepth 100000 in
theorem kX0_keepAhead : sm_m mX0_keepAhead 0 := ⟨(lw_gm 488 rfl rfl), (lw_gm 486 (by decide +kernel) rfl), (lw_gm 487 (by decide +kernel) rfl), (lw_gm 66 (by decide +kernel) rfl), ⟨by decide, by decide⟩, by decide, TX0, 7, rfl⟩
set_option maxRecDepth 100000 in
theorem kX0_undoLatest : sm_m mX0_undoLatest 0 := ⟨(lw_gm 566 rfl rfl), (lw_gm 564 (by decide +kernel) rfl), (lw_gm 565 (by decide +kernel) rfl), (lw_gm 66 (by decide +kernel) rfl), ⟨by decide, by decide⟩, by decide, TX0, 7, rfl⟩
set_option maxRecDepth 100000 in
theorem kX1_answer : sm_m mX1_answer 1 := ⟨(lw_gm 777 rfl rfl), (lw_gm 775 (by decide +kernel) rfl), (lw_gm 776 (by decide +kernel) rfl), (lw_gm 69 (by decide +kernel) rfl), ⟨by decide, by decide⟩, by decide, TX1, 2, rfl⟩
set_option maxRecDepth 100000 in
theorem kX1_traceAt : sm_m mX1_traceAt 1 := ⟨(lw_gm 810 rfl rfl), (lw_gm 808 (by decide +kernel) rfl), (lw_gm 809 (by decide +kernel) rfl), (lw_gm 69 (by decide +kernel) rfl), ⟨by decide, by decide⟩, by decide, TX1, 2, rfl⟩
set_option maxRecDepth 100000 in
theorem kX1_sizeOf : sm_m mX1_sizeOf 1 := ⟨(lw_gm 781 rfl rfl), (lw_gm 780 (by decide +kernel) rfl), (lw_gm 19 (by decide +kernel) rfl), (lw_gm 69 (by decide +kernel) rfl), ⟨by decide, by decide⟩, by decide, TX1, 2, rfl⟩
set_option maxRecDepth 100000 in
theorem kX1_markOf : sm_m mX1_markOf 1 := ⟨(lw_gm 799 rfl rfl), (lw_gm 798 (by decide +kernel) rfl), (lw_gm 22 (by decide +kernel) rfl), (lw_gm 69 (by decide +kernel) rfl), ⟨by decide, by decide⟩, by decide, TX1, 2, rfl⟩
set_option maxRecDepth 100000 in
theorem kX1_nearestBody : sm_ms mX1_nearestBody := ⟨(lw_gm 786 rfl rfl), (lw_gm 785 (by decide +kernel) rfl), (lw_gm 69 (by decide +kernel) rfl), ⟨by decide, by decide⟩, by decide⟩
set_option maxRecDepth 100000 in
theorem kX1_run : sm_m mX1_run 1 := ⟨(lw_gm 791 rfl rfl), (lw_gm 790 (by decide +kernel) rfl), (lw_gm 20 (by decide +kernel) rfl), (lw_gm 69 (by decide +kernel) rfl), ⟨by decide, by decide⟩, by decide, TX1, 2, rfl⟩
set_option maxRecDepth 100000 in
theorem kX1_leaveTrace : sm_m mX1_leaveTrace 1 := ⟨(lw_gm 795 rfl rfl), (lw_gm 794 (by decide +kernel) rfl), (lw_gm 21 (by decide +kernel) rfl), (lw_gm 69 (by decide +kernel) rfl), ⟨by decide, by decide⟩, by decide, TX1, 2, rfl⟩
set_option maxRecDepth 100000 in
theorem kX2_mindOf : sm_m mX2_mindOf 2 := ⟨(lw_gm 495 rfl rfl), (lw_gm 493 (by decide +kernel) rfl), (lw_gm 494 (by decide +kernel) rfl), (lw_gm 67 (by decide +kernel) rfl), ⟨by decide, by decide⟩, by decide, TX2, 8, rfl⟩
set_option maxRecDepth 100000 in
theorem kX2_nodsNow : sm_m mX2_nodsNow 2 := ⟨(lw_gm 591 rfl rfl), (lw_gm 589 (by decide +kernel) rfl), (lw_gm 590 (by decide +kernel) rfl), (lw_gm 67 (by decide +kernel) rfl), ⟨by decide, by decide⟩, by decide, TX2, 8, rfl⟩
set_option maxRecDepth 100000 in
theorem kX2_seekOrder : sm_m mX2_seekOrder 2 := ⟨(lw_gm 609 rfl rfl), (lw_gm 607 (by decide +kernel) rfl), (lw_gm 608 (by decide +kernel) rfl), (lw_gm 67 (by decide +kernel) rfl), ⟨by decide, by decide⟩, by decide, TX2, 8, rfl⟩
set_option maxRecDepth 100000 in
theorem kX2_bestNods : sm_m mX2_bestNods 2 := ⟨(lw_gm 631 rfl rfl), (lw_gm 629 (by decide +kernel) rfl), (lw_gm 630 (by decide +kernel) rfl), (lw_gm 67 (by decide +kernel) rfl), ⟨by decide, by decide⟩, by decide, TX2, 8, rfl⟩
set_option maxRecDepth 100000 in
theorem kX2_bestAt : sm_m mX2_bestAt 2 := ⟨(lw_gm 635 rfl rfl), (lw_gm 633 (by decide +kernel) rfl), (lw_gm 634 (by decide +kernel) rfl), (lw_gm 67 (by decide +kernel) rfl), ⟨by decide, by decide⟩, by decide, TX2, 8, rfl⟩
set_option maxRecDepth 100000 in
theorem kX2_seekOrderFrom : sm_m mX2_seekOrderFrom 2 := ⟨(lw_gm 613 rfl rfl), (lw_gm 612 (by decide +kernel) rfl), (lw_gm 11 (by decide +kernel) rfl), (lw_gm 67 (by decide +kernel) rfl), ⟨by decide, by decide⟩, by decide, TX2, 8, rfl⟩
set_option maxRecDepth 100000 in
theorem kX2_keepBest : sm_m mX2_keepBest 2 := ⟨(lw_gm 618 rfl rfl), (lw_gm 617 (by decide +kernel) rfl), (lw_gm 12 (by decide +kernel) rfl), (lw_gm 67 (by decide +kernel) rfl), ⟨by decide, by decide⟩, by decide, TX2, 8, rfl⟩
set_option maxRecDepth 100000 in
theorem kX2_tryNext : sm_m mX2_tryNext 2 := ⟨(lw_gm 622 rfl rfl), (lw_gm 621 (by decide +kernel) rfl), (lw_gm 13 (by decide +kernel) rfl), (lw_gm 67 (by decide +kernel) rfl), ⟨by decide, by decide⟩, by decide, TX2, 8, rfl⟩
set_option maxRecDepth 100000 in
theorem kX2_fewestAhead : sm_m mX2_fewestAhead 2 := ⟨(lw_gm 644 rfl rfl), (lw_gm 642 (by decide +kernel) rfl), (lw_gm 643 (by decide +kernel) rfl), (lw_gm 67 (by decide +kernel) rfl), ⟨by decide, by decide⟩, by decide, TX2, 8, rfl⟩
set_option maxRecDepth 100000 in
theorem kX2_firstAhead : sm_m mX2_firstAhead 2 := ⟨(lw_gm 652 rfl rfl), (lw_gm 650 (by decide +kernel) rfl), (lw_gm 651 (by decide +kernel) rfl), (lw_gm 67 (by decide +kernel) rfl), ⟨by decide, by decide⟩, by decide, TX2, 8, rfl⟩
set_option maxRecDepth 100000 in
theorem kX2_comesInFrom : sm_m mX2_comesInFrom 2 := ⟨(lw_gm 648 rfl rfl), (lw_gm 647 (by decide +kernel) rfl), (lw_gm 14 (by decide +kernel) rfl), (lw_gm 67 (by decide +kernel) rfl), ⟨by decide, by decide⟩, by decide, TX2, 8, rfl⟩
set_option maxRecDepth 100000 in
theorem kX2_deadLies : sm_m mX2_deadLies 2 := ⟨(lw_gm 661 rfl rfl), (lw_gm 659 (by decide +kernel) rfl), (lw_gm 660 (by decide +kernel) rfl), (lw_gm 67 (by decide +kernel) rfl), ⟨by decide, by decide⟩, by decide, TX2, 8, rfl⟩
set_option maxRecDepth 100000 in
theorem kX2_deadFrom : sm_m mX2_deadFrom 2 := ⟨(lw_gm 665 rfl rfl), (lw_gm 664 (by decide +kernel) rfl), (lw_gm 15 (by decide +kernel) rfl), (lw_gm 67 (by decide +kernel) rfl), ⟨by decide, by decide⟩, by decide, TX2, 8, rfl⟩
set_option maxRecDepth 100000 in
theorem kX2_helpEachOther : sm_m mX2_helpEachOther 2 := ⟨(lw_gm 673 rfl rfl), (lw_gm 671 (by decide +kernel) rfl), (lw_gm 672 (by decide +kernel) rfl), (lw_gm 67 (by decide +kernel) rfl), ⟨by decide, by decide⟩, by decide, TX2, 8, rfl⟩
set_option maxRecDepth 100000 in
theorem kX2_bringsIn : sm_m mX2_bringsIn 2 := ⟨(lw_gm 678 rfl rfl), (lw_gm 677 (by decide +kernel) rfl), (lw_gm 16 (by decide +kernel) rfl), (lw_gm 67 (by decide +kernel) rfl), ⟨by decide, by decide⟩, by decide, TX2, 8, rfl⟩
set_option maxRecDepth 100000 in
theorem kX2_takeTelling : sm_m mX2_takeTelling 2 := ⟨(lw_gm 698 rfl rfl), (lw_gm 696 (by decide +kernel) rfl), (lw_gm 697 (by decide +kernel) rfl), (lw_gm 67 (by decide +kernel) rfl), ⟨by decide, by decide⟩, by decide, TX2, 8, rfl⟩
set_option maxRecDepth 100000 in
theorem kX2_goesSo : sm_m mX2_goesSo 2 := ⟨(lw_gm 707 rfl rfl), (lw_gm 705 (by decide +kernel) rfl), (lw_gm 706 (by decide +kernel) rfl), (lw_gm 67 (by decide +kernel) rfl), ⟨by decide, by decide⟩, by decide, TX2, 8, rfl⟩
set_option maxRecDepth 100000 in
theorem kX2_waysToNod : sm_m mX2_waysToNod 2 := ⟨(lw_gm 728 rfl rfl), (lw_gm 726 (by decide +kernel) rfl), (lw_gm 727 (by decide +kernel) rfl), (lw_gm 67 (by decide +kernel) rfl), ⟨by decide, by decide⟩, by decide, TX2, 8, rfl⟩
set_option maxRecDepth 100000 in
theorem kX2_waysInAll : sm_m mX2_waysInAll 2 := ⟨(lw_gm 736 rfl rfl), (lw_gm 734 (by decide +kernel) rfl), (lw_gm 735 (by decide +kernel) rfl), (lw_gm 67 (by decide +kernel) rfl), ⟨by decide, by decide⟩, by decide, TX2, 8, rfl⟩
set_option maxRecDepth 100000 in
theorem kX2_waysFrom : sm_m mX2_waysFrom 2 := ⟨(lw_gm 732 rfl rfl), (lw_gm 731 (by decide +kernel) rfl), (lw_gm 18 (by decide +kernel) rfl), (lw_gm 67 (by decide +kernel) rfl), ⟨by decide, by decide⟩, by decide, TX2, 8, rfl⟩
set_option maxRecDepth 100000 in
theorem kX3_isKind : sm_ms mX3_isKind := ⟨(lw_gm 760 rfl rfl), (lw_gm 759 (by decide +kernel) rfl), (lw_gm 72 (by decide +kernel) rfl), ⟨by decide, by decide⟩, by decide⟩
set_option maxRecDepth 100000 in
theorem kX3_isOne : sm_ms mX3_isOne := ⟨(lw_gm 763 rfl rfl), (lw_gm 762 (by decide +kernel) rfl), (lw_gm 72 (by decide +kernel) rfl), ⟨by decide, by decide⟩, by decide⟩
set_option maxRecDepth 100000 in
theorem kX3_above : sm_ms mX3_above := ⟨(lw_gm 766 rfl rfl), (lw_gm 765 (by decide +kernel) rfl), (lw_gm 72 (by decide +kernel) rfl), ⟨by decide, by decide⟩, by decide⟩
set_option maxRecDepth 100000 in
theorem kX3_ofLetter : sm_ms mX3_ofLetter := ⟨(lw_gm 434 rfl rfl), (lw_gm 433 (by decide +kernel) rfl), (lw_gm 72 (by decide +kernel) rfl), ⟨by decide, by decide⟩, by decide⟩
set_option maxRecDepth 100000 in
theorem kX4_enter : sm_m mX4_enter 3 := ⟨(lw_gm 499 rfl rfl), (lw_gm 497 (by decide +kernel) rfl), (lw_gm 498 (by decide +kernel) rfl), (lw_gm 68 (by decide +kernel) rfl), ⟨by decide, by decide⟩, by decide, TX4, 4, rfl⟩
set_option maxRecDepth 100000 in
theorem kX4_become : sm_m mX4_become 3 := ⟨(lw_gm 626 rfl rfl), (lw_gm 624 (by decide +kernel) rfl), (lw_gm 625 (by decide +kernel) rfl), (lw_gm 68 (by decide +kernel) rfl), ⟨by decide, by decide⟩, by decide, TX4, 4, rfl⟩
set_option maxRecDepth 100000 in
theorem kX4_needOf : sm_m mX4_needOf 3 := ⟨(lw_gm 517 rfl rfl), (lw_gm 515 (by decide +kernel) rfl), (lw_gm 516 (by decide +kernel) rfl), (lw_gm 68 (by decide +kernel) rfl), ⟨by decide, by decide⟩, by decide, TX4, 4, rfl⟩
set_option maxRecDepth 100000 in
theorem kX4_wouldNod : sm_m mX4_wouldNod 3 := ⟨(lw_gm 513 rfl rfl), (lw_gm 511 (by decide +kernel) rfl), (lw_gm 512 (by decide +kernel) rfl), (lw_gm 68 (by decide +kernel) rfl), ⟨by decide, by decide⟩, by decide, TX4, 4, rfl⟩
set_option maxRecDepth 100000 in
theorem kX4_hear : sm_m mX4_hear 3 := ⟨(lw_gm 509 rfl rfl), (lw_gm 507 (by decide +kernel) rfl), (lw_gm 508 (by decide +kernel) rfl), (lw_gm 68 (by decide +kernel) rfl), ⟨by decide, by decide⟩, by decide, TX4, 4, rfl⟩
set_option maxRecDepth 100000 in
theorem kX4_hearAs : sm_m mX4_hearAs 3 := ⟨(lw_gm 528 rfl rfl), (lw_gm 526 (by decide +kernel) rfl), (lw_gm 527 (by decide +kernel) rfl), (lw_gm 68 (by decide +kernel) rfl), ⟨by decide, by decide⟩, by decide, TX4, 4, rfl⟩
set_option maxRecDepth 100000 in
theorem kX4_dine : sm_m mX4_dine 3 := ⟨(lw_gm 541 rfl rfl), (lw_gm 539 (by decide +kernel) rfl), (lw_gm 540 (by decide +kernel) rfl), (lw_gm 68 (by decide +kernel) rfl), ⟨by decide, by decide⟩, by decide, TX4, 4, rfl⟩
set_option maxRecDepth 100000 in
theorem kX4_undoubtedNeed : sm_m mX4_undoubtedNeed 3 := ⟨(lw_gm 521 rfl rfl), (lw_gm 520 (by decide +kernel) rfl), (lw_gm 10 (by decide +kernel) rfl), (lw_gm 68 (by decide +kernel) rfl), ⟨by decide, by decide⟩, by decide, TX4, 4, rfl⟩
set_option maxRecDepth 100000 in
theorem kX5_isFull : sm_m mX5_isFull 4 := ⟨(lw_gm 383 rfl rfl), (lw_gm 381 (by decide +kernel) rfl), (lw_gm 382 (by decide +kernel) rfl), (lw_gm 64 (by decide +kernel) rfl), ⟨by decide, by decide⟩, by decide, TX5, 4, rfl⟩
set_option maxRecDepth 100000 in
theorem kX5_append : sm_m mX5_append 4 := ⟨(lw_gm 388 rfl rfl), (lw_gm 386 (by decide +kernel) rfl), (lw_gm 387 (by decide +kernel) rfl), (lw_gm 64 (by decide +kernel) rfl), ⟨by decide, by decide⟩, by decide, TX5, 4, rfl⟩
set_option maxRecDepth 100000 in
theorem kX5_length : sm_m mX5_length 4 := ⟨(lw_gm 823 rfl rfl), (lw_gm 821 (by decide +kernel) rfl), (lw_gm 822 (by decide +kernel) rfl), (lw_gm 64 (by decide +kernel) rfl), ⟨by decide, by decide⟩, by decide, TX5, 4, rfl⟩
set_option maxRecDepth 100000 in
theorem kX5_faultPlace : sm_m mX5_faultPlace 4 := ⟨(lw_gm 451 rfl rfl), (lw_gm 449 (by decide +kernel) rfl), (lw_gm 450 (by decide +kernel) rfl), (lw_gm 64 (by decide +kernel) rfl), ⟨by decide, by decide⟩, by decide, TX5, 4, rfl⟩
set_option maxRecDepth 100000 in
theorem kX5_latestFault : sm_m mX5_latestFault 4 := ⟨(lw_gm 467 rfl rfl), (lw_gm 465 (by decide +kernel) rfl), (lw_gm 466 (by decide +kernel) rfl), (lw_gm 64 (by decide +kernel) rfl), ⟨by decide, by decide⟩, by decide, TX5, 4, rfl⟩
set_option maxRecDepth 100000 in
theorem kX5_readInto : sm_m mX5_readInto 4 := ⟨(lw_gm 396 rfl rfl), (lw_gm 394 (by decide +kernel) rfl), (lw_gm 395 (by decide +kernel) rfl), (lw_gm 64 (by decide +kernel) rfl), ⟨by decide, by decide⟩, by decide, TX5, 4, rfl⟩
set_option maxRecDepth 100000 in
theorem kX5_readLaw : sm_m mX5_readLaw 4 := ⟨(lw_gm 400 rfl rfl), (lw_gm 399 (by decide +kernel) rfl), (lw_gm 2 (by decide +kernel) rfl), (lw_gm 64 (by decide +kernel) rfl), ⟨by decide, by decide⟩, by decide, TX5, 4, rfl⟩
set_option maxRecDepth 100000 in
theorem kX5_readLies : sm_m mX5_readLies 4 := ⟨(lw_gm 431 rfl rfl), (lw_gm 430 (by decide +kernel) rfl), (lw_gm 8 (by decide +kernel) rfl), (lw_gm 64 (by decide +kernel) rfl), ⟨by decide, by decide⟩, by decide, TX5, 4, rfl⟩
set_option maxRecDepth 100000 in
theorem kX5_readStrangers : sm_m mX5_readStrangers 4 := ⟨(lw_gm 442 rfl rfl), (lw_gm 441 (by decide +kernel) rfl), (lw_gm 9 (by decide +kernel) rfl), (lw_gm 64 (by decide +kernel) rfl), ⟨by decide, by decide⟩, by decide, TX5, 4, rfl⟩
set_option maxRecDepth 100000 in
theorem kX5_readNumber : sm_m mX5_readNumber 4 := ⟨(lw_gm 420 rfl rfl), (lw_gm 419 (by decide +kernel) rfl), (lw_gm 7 (by decide +kernel) rfl), (lw_gm 64 (by decide +kernel) rfl), ⟨by decide, by decide⟩, by decide, TX5, 4, rfl⟩
set_option maxRecDepth 100000 in
theorem kX5_passed : sm_m mX5_passed 4 := ⟨(lw_gm 404 rfl rfl), (lw_gm 403 (by decide +kernel) rfl), (lw_gm 3 (by decide +kernel) rfl), (lw_gm 64 (by decide +kernel) rfl), ⟨by decide, by decide⟩, by decide, TX5, 4, rfl⟩
set_option maxRecDepth 100000 in
theorem kX5_refuse : sm_m mX5_refuse 4 := ⟨(lw_gm 416 rfl rfl), (lw_gm 415 (by decide +kernel) rfl), (lw_gm 6 (by decide +kernel) rfl), (lw_gm 64 (by decide +kernel) rfl), ⟨by decide, by decide⟩, by decide, TX5, 4, rfl⟩
set_option maxRecDepth 100000 in
theorem kX5_here : sm_m mX5_here 4 := ⟨(lw_gm 408 rfl rfl), (lw_gm 407 (by decide +kernel) rfl), (lw_gm 4 (by decide +kernel) rfl), (lw_gm 64 (by decide +kernel) rfl), ⟨by decide, by decide⟩, by decide, TX5, 4, rfl⟩
set_option maxRecDepth 100000 in
theorem kX5_byteAt : sm_m mX5_byteAt 4 := ⟨(lw_gm 412 rfl rfl), (lw_gm 411 (by decide +kernel) rfl), (lw_gm 5 (by decide +kernel) rfl), (lw_gm 64 (by decide +kernel) rfl), ⟨by decide, by decide⟩, by decide, TX5, 4, rfl⟩
set_option maxRecDepth 100000 in
theorem kX5_isFigure : sm_ms mX5_isFigure := ⟨(lw_gm 423 rfl rfl), (lw_gm 422 (by decide +kernel) rfl), (lw_gm 64 (by decide +kernel) rfl), ⟨by decide, by decide⟩, by decide⟩
set_option maxRecDepth 100000 in
theorem kX6_isRow : sm_ms mX6_isRow := ⟨(lw_gm 316 rfl rfl), (lw_gm 315 (by decide +kernel) rfl), (lw_gm 63 (by decide +kernel) rfl), ⟨by decide, by decide⟩, by decide⟩
set_option maxRecDepth 100000 in
theorem kX6_isLane : sm_ms mX6_isLane := ⟨(lw_gm 319 rfl rfl), (lw_gm 318 (by decide +kernel) rfl), (lw_gm 63 (by decide +kernel) rfl), ⟨by decide, by decide⟩, by decide⟩
set_option maxRecDepth 100000 in
theorem kX6_isMissing : sm_m mX6_isMissing 5 := ⟨(lw_gm 341 rfl rfl), (lw_gm 339 (by decide +kernel) rfl), (lw_gm 340 (by decide +kernel) rfl), (lw_gm 63 (by decide +kernel) rfl), ⟨by decide, by decide⟩, by decide, TX6, 3, rfl⟩
set_option maxRecDepth 100000 in
theorem kX6_laneOf : sm_m mX6_laneOf 5 := ⟨(lw_gm 360 rfl rfl), (lw_gm 358 (by decide +kernel) rfl), (lw_gm 359 (by decide +kernel) rfl), (lw_gm 63 (by decide +kernel) rfl), ⟨by decide, by decide⟩, by decide, TX6, 3, rfl⟩
set_option maxRecDepth 100000 in
theorem kX6_hasPlaces : sm_m mX6_hasPlaces 5 := ⟨(lw_gm 345 rfl rfl), (lw_gm 343 (by decide +kernel) rfl), (lw_gm 344 (by decide +kernel) rfl), (lw_gm 63 (by decide +kernel) rfl), ⟨by decide, by decide⟩, by decide, TX6, 3, rfl⟩
set_option maxRecDepth 100000 in
theorem kX6_make : sm_m mX6_make 5 := ⟨(lw_gm 329 rfl rfl), (lw_gm 327 (by decide +kernel) rfl), (lw_gm 328 (by decide +kernel) rfl), (lw_gm 63 (by decide +kernel) rfl), ⟨by decide, by decide⟩, by decide, TX6, 3, rfl⟩
set_option maxRecDepth 100000 in
theorem kX6_put : sm_m mX6_put 5 := ⟨(lw_gm 349 rfl rfl), (lw_gm 347 (by decide +kernel) rfl), (lw_gm 348 (by decide +kernel) rfl), (lw_gm 63 (by decide +kernel) rfl), ⟨by decide, by decide⟩, by decide, TX6, 3, rfl⟩
set_option maxRecDepth 100000 in
theorem kX6_itemAt : sm_m mX6_itemAt 5 := ⟨(lw_gm 702 rfl rfl), (lw_gm 700 (by decide +kernel) rfl), (lw_gm 701 (by decide +kernel) rfl), (lw_gm 63 (by decide +kernel) rfl), ⟨by decide, by decide⟩, by decide, TX6, 3, rfl⟩
set_option maxRecDepth 100000 in
theorem kX6_move : sm_m mX6_move 5 := ⟨(lw_gm 364 rfl rfl), (lw_gm 362 (by decide +kernel) rfl), (lw_gm 363 (by decide +kernel) rfl), (lw_gm 63 (by decide +kernel) rfl), ⟨by decide, by decide⟩, by decide, TX6, 3, rfl⟩
set_option maxRecDepth 100000 in
theorem kX6_remove : sm_m mX6_remove 5 := ⟨(lw_gm 375 rfl rfl), (lw_gm 373 (by decide +kernel) rfl), (lw_gm 374 (by decide +kernel) rfl), (lw_gm 63 (by decide +kernel) rfl), ⟨by decide, by decide⟩, by decide, TX6, 3, rfl⟩
set_option maxRecDepth 100000 in
theorem kX6_present : sm_m mX6_present 5 := ⟨(lw_gm 819 rfl rfl), (lw_gm 817 (by decide +kernel) rfl), (lw_gm 818 (by decide +kernel) rfl), (lw_gm 63 (by decide +kernel) rfl), ⟨by decide, by decide⟩, by decide, TX6, 3, rfl⟩
set_option maxRecDepth 100000 in
theorem kX6_cutToLane : sm_ms mX6_cutToLane := ⟨(lw_gm 352 rfl rfl), (lw_gm 351 (by decide +kernel) rfl), (lw_gm 63 (by decide +kernel) rfl), ⟨by decide, by decide⟩, by decide⟩
set_option maxRecDepth 100000 in
theorem kX7_stands : sm_m mX7_stands 6 := ⟨(lw_gm 720 rfl rfl), (lw_gm 718 (by decide +kernel) rfl), (lw_gm 719 (by decide +kernel) rfl), (lw_gm 65 (by decide +kernel) rfl), ⟨by decide, by decide⟩, by decide, TX7, 11, rfl⟩
set_option maxRecDepth 100000 in
theorem kX7_hasLie : sm_m mX7_hasLie 6 := ⟨(lw_gm 479 rfl rfl), (lw_gm 477 (by decide +kernel) rfl), (lw_gm 478 (by decide +kernel) rfl), (lw_gm 65 (by decide +kernel) rfl), ⟨by decide, by decide⟩, by decide, TX7, 11, rfl⟩
set_option maxRecDepth 100000 in
theorem kX7_hasStranger : sm_m mX7_hasStranger 6 := ⟨(lw_gm 475 rfl rfl), (lw_gm 473 (by decide +kernel) rfl), (lw_gm 474 (by decide +kernel) rfl), (lw_gm 65 (by decide +kernel) rfl), ⟨by decide, by decide⟩, by decide, TX7, 11, rfl⟩
set_option maxRecDepth 100000 in
theorem kX7_isSetOfLies : sm_m mX7_isSetOfLies 6 := ⟨(lw_gm 605 rfl rfl), (lw_gm 603 (by decide +kernel) rfl), (lw_gm 604 (by decide +kernel) rfl), (lw_gm 65 (by decide +kernel) rfl), ⟨by decide, by decide⟩, by decide, TX7, 11, rfl⟩
set_option maxRecDepth 100000 in
theorem kX7_wasTold : sm_m mX7_wasTold 6 := ⟨(lw_gm 483 rfl rfl), (lw_gm 481 (by decide +kernel) rfl), (lw_gm 482 (by decide +kernel) rfl), (lw_gm 65 (by decide +kernel) rfl), ⟨by decide, by decide⟩, by decide, TX7, 11, rfl⟩
set_option maxRecDepth 100000 in
theorem kX7_untold : sm_m mX7_untold 6 := ⟨(lw_gm 596 rfl rfl), (lw_gm 594 (by decide +kernel) rfl), (lw_gm 595 (by decide +kernel) rfl), (lw_gm 65 (by decide +kernel) rfl), ⟨by decide, by decide⟩, by decide, TX7, 11, rfl⟩
set_option maxRecDepth 100000 in
theorem kX7_strangersWith : sm_m mX7_strangersWith 6 := ⟨(lw_gm 574 rfl rfl), (lw_gm 572 (by decide +kernel) rfl), (lw_gm 573 (by decide +kernel) rfl), (lw_gm 65 (by decide +kernel) rfl), ⟨by decide, by decide⟩, by decide, TX7, 11, rfl⟩
set_option maxRecDepth 100000 in
theorem kX7_begin : sm_m mX7_begin 6 := ⟨(lw_gm 427 rfl rfl), (lw_gm 425 (by decide +kernel) rfl), (lw_gm 426 (by decide +kernel) rfl), (lw_gm 65 (by decide +kernel) rfl), ⟨by decide, by decide⟩, by decide, TX7, 11, rfl⟩
set_option maxRecDepth 100000 in
theorem kX7_addLie : sm_m mX7_addLie 6 := ⟨(lw_gm 438 rfl rfl), (lw_gm 436 (by decide +kernel) rfl), (lw_gm 437 (by decide +kernel) rfl), (lw_gm 65 (by decide +kernel) rfl), ⟨by decide, by decide⟩, by decide, TX7, 11, rfl⟩
set_option maxRecDepth 100000 in
theorem kX7_addStranger : sm_m mX7_addStranger 6 := ⟨(lw_gm 446 rfl rfl), (lw_gm 444 (by decide +kernel) rfl), (lw_gm 445 (by decide +kernel) rfl), (lw_gm 65 (by decide +kernel) rfl), ⟨by decide, by decide⟩, by decide, TX7, 11, rfl⟩
set_option maxRecDepth 100000 in
theorem kX7_become : sm_m mX7_become 6 := ⟨(lw_gm 455 rfl rfl), (lw_gm 453 (by decide +kernel) rfl), (lw_gm 454 (by decide +kernel) rfl), (lw_gm 65 (by decide +kernel) rfl), ⟨by decide, by decide⟩, by decide, TX7, 11, rfl⟩
set_option maxRecDepth 100000 in
theorem kX7_noteTold : sm_m mX7_noteTold 6 := ⟨(lw_gm 533 rfl rfl), (lw_gm 531 (by decide +kernel) rfl), (lw_gm 532 (by decide +kernel) rfl), (lw_gm 65 (by decide +kernel) rfl), ⟨by decide, by decide⟩, by decide, TX7, 11, rfl⟩
set_option maxRecDepth 100000 in
theorem kX7_noteSupper : sm_m mX7_noteSupper 6 := ⟨(lw_gm 545 rfl rfl), (lw_gm 543 (by decide +kernel) rfl), (lw_gm 544 (by decide +kernel) rfl), (lw_gm 65 (by decide +kernel) rfl), ⟨by decide, by decide⟩, by decide, TX7, 11, rfl⟩
set_option maxRecDepth 100000 in
theorem kX7_noteForgotten : sm_m mX7_noteForgotten 6 := ⟨(lw_gm 553 rfl rfl), (lw_gm 551 (by decide +kernel) rfl), (lw_gm 552 (by decide +kernel) rfl), (lw_gm 65 (by decide +kernel) rfl), ⟨by decide, by decide⟩, by decide, TX7, 11, rfl⟩
set_option maxRecDepth 100000 in
theorem kX8_row : sm_m mX8_row 7 := ⟨(lw_gm 313 rfl rfl), (lw_gm 311 (by decide +kernel) rfl), (lw_gm 312 (by decide +kernel) rfl), (lw_gm 62 (by decide +kernel) rfl), ⟨by decide, by decide⟩, by decide, TX8, 9, rfl⟩
set_option maxRecDepth 100000 in
theorem kX8_set : sm_m mX8_set 7 := ⟨(lw_gm 337 rfl rfl), (lw_gm 335 (by decide +kernel) rfl), (lw_gm 336 (by decide +kernel) rfl), (lw_gm 62 (by decide +kernel) rfl), ⟨by decide, by decide⟩, by decide, TX8, 9, rfl⟩
set_option maxRecDepth 100000 in
theorem kX8_copy : sm_m mX8_copy 7 := ⟨(lw_gm 356 rfl rfl), (lw_gm 354 (by decide +kernel) rfl), (lw_gm 355 (by decide +kernel) rfl), (lw_gm 62 (by decide +kernel) rfl), ⟨by decide, by decide⟩, by decide, TX8, 9, rfl⟩
set_option maxRecDepth 100000 in
theorem kX8_drop : sm_m mX8_drop 7 := ⟨(lw_gm 371 rfl rfl), (lw_gm 369 (by decide +kernel) rfl), (lw_gm 370 (by decide +kernel) rfl), (lw_gm 62 (by decide +kernel) rfl), ⟨by decide, by decide⟩, by decide, TX8, 9, rfl⟩
set_option maxRecDepth 100000 in
theorem kX8_feed : sm_m mX8_feed 7 := ⟨(lw_gm 379 rfl rfl), (lw_gm 377 (by decide +kernel) rfl), (lw_gm 378 (by decide +kernel) rfl), (lw_gm 62 (by decide +kernel) rfl), ⟨by decide, by decide⟩, by decide, TX8, 9, rfl⟩
set_option maxRecDepth 100000 in
theorem kX8_town : sm_m mX8_town 7 := ⟨(lw_gm 392 rfl rfl), (lw_gm 390 (by decide +kernel) rfl), (lw_gm 391 (by decide +kernel) rfl), (lw_gm 62 (by decide +kernel) rfl), ⟨by decide, by decide⟩, by decide, TX8, 9, rfl⟩
set_option maxRecDepth 100000 in
theorem kX8_fault : sm_m mX8_fault 7 := ⟨(lw_gm 463 rfl rfl), (lw_gm 461 (by decide +kernel) rfl), (lw_gm 462 (by decide +kernel) rfl), (lw_gm 62 (by decide +kernel) rfl), ⟨by decide, by decide⟩, by decide, TX8, 9, rfl⟩
set_option maxRecDepth 100000 in
theorem kX8_tell : sm_m mX8_tell 7 := ⟨(lw_gm 471 rfl rfl), (lw_gm 469 (by decide +kernel) rfl), (lw_gm 470 (by decide +kernel) rfl), (lw_gm 62 (by decide +kernel) rfl), ⟨by decide, by decide⟩, by decide, TX8, 9, rfl⟩
set_option maxRecDepth 100000 in
theorem kX8_supper : sm_m mX8_supper 7 := ⟨(lw_gm 537 rfl rfl), (lw_gm 535 (by decide +kernel) rfl), (lw_gm 536 (by decide +kernel) rfl), (lw_gm 62 (by decide +kernel) rfl), ⟨by decide, by decide⟩, by decide, TX8, 9, rfl⟩
set_option maxRecDepth 100000 in
theorem kX8_forget : sm_m mX8_forget 7 := ⟨(lw_gm 549 rfl rfl), (lw_gm 547 (by decide +kernel) rfl), (lw_gm 548 (by decide +kernel) rfl), (lw_gm 62 (by decide +kernel) rfl), ⟨by decide, by decide⟩, by decide, TX8, 9, rfl⟩
set_option maxRecDepth 100000 in
theorem kX8_undo : sm_m mX8_undo 7 := ⟨(lw_gm 558 rfl rfl), (lw_gm 556 (by decide +kernel) rfl), (lw_gm 557 (by decide +kernel) rfl), (lw_gm 62 (by decide +kernel) rfl), ⟨by decide, by decide⟩, by decide, TX8, 9, rfl⟩
set_option maxRecDepth 100000 in
theorem kX8_lie : sm_m mX8_lie 7 := ⟨(lw_gm 570 rfl rfl), (lw_gm 568 (by decide +kernel) rfl), (lw_gm 569 (by decide +kernel) rfl), (lw_gm 62 (by decide +kernel) rfl), ⟨by decide, by decide⟩, by decide, TX8, 9, rfl⟩
set_option maxRecDepth 100000 in
theorem kX8_stranger : sm_m mX8_stranger 7 := ⟨(lw_gm 578 rfl rfl), (lw_gm 576 (by decide +kernel) rfl), (lw_gm 577 (by decide +kernel) rfl), (lw_gm 62 (by decide +kernel) rfl), ⟨by decide, by decide⟩, by decide, TX8, 9, rfl⟩
set_option maxRecDepth 100000 in
theorem kX8_need : sm_m mX8_need 7 := ⟨(lw_gm 582 rfl rfl), (lw_gm 580 (by decide +kernel) rfl), (lw_gm 581 (by decide +kernel) rfl), (lw_gm 62 (by decide +kernel) rfl), ⟨by decide, by decide⟩, by decide, TX8, 9, rfl⟩
set_option maxRecDepth 100000 in
theorem kX8_nods : sm_m mX8_nods 7 := ⟨(lw_gm 587 rfl rfl), (lw_gm 585 (by decide +kernel) rfl), (lw_gm 586 (by decide +kernel) rfl), (lw_gm 62 (by decide +kernel) rfl), ⟨by decide, by decide⟩, by decide, TX8, 9, rfl⟩
set_option maxRecDepth 100000 in
theorem kX8_order : sm_m mX8_order 7 := ⟨(lw_gm 601 rfl rfl), (lw_gm 599 (by decide +kernel) rfl), (lw_gm 600 (by decide +kernel) rfl), (lw_gm 62 (by decide +kernel) rfl), ⟨by decide, by decide⟩, by decide, TX8, 9, rfl⟩
set_option maxRecDepth 100000 in
theorem kX8_comesIn : sm_m mX8_comesIn 7 := ⟨(lw_gm 640 rfl rfl), (lw_gm 638 (by decide +kernel) rfl), (lw_gm 639 (by decide +kernel) rfl), (lw_gm 62 (by decide +kernel) rfl), ⟨by decide, by decide⟩, by decide, TX8, 9, rfl⟩
set_option maxRecDepth 100000 in
theorem kX8_dead : sm_m mX8_dead 7 := ⟨(lw_gm 657 rfl rfl), (lw_gm 655 (by decide +kernel) rfl), (lw_gm 656 (by decide +kernel) rfl), (lw_gm 62 (by decide +kernel) rfl), ⟨by decide, by decide⟩, by decide, TX8, 9, rfl⟩
set_option maxRecDepth 100000 in
theorem kX8_help : sm_m mX8_help 7 := ⟨(lw_gm 669 rfl rfl), (lw_gm 667 (by decide +kernel) rfl), (lw_gm 668 (by decide +kernel) rfl), (lw_gm 62 (by decide +kernel) rfl), ⟨by decide, by decide⟩, by decide, TX8, 9, rfl⟩
set_option maxRecDepth 100000 in
theorem kX8_suppers : sm_m mX8_suppers 7 := ⟨(lw_gm 682 rfl rfl), (lw_gm 680 (by decide +kernel) rfl), (lw_gm 681 (by decide +kernel) rfl), (lw_gm 62 (by decide +kernel) rfl), ⟨by decide, by decide⟩, by decide, TX8, 9, rfl⟩
set_option maxRecDepth 100000 in
theorem kX8_doubted : sm_m mX8_doubted 7 := ⟨(lw_gm 687 rfl rfl), (lw_gm 685 (by decide +kernel) rfl), (lw_gm 686 (by decide +kernel) rfl), (lw_gm 62 (by decide +kernel) rfl), ⟨by decide, by decide⟩, by decide, TX8, 9, rfl⟩
set_option maxRecDepth 100000 in
theorem kX8_trusted : sm_m mX8_trusted 7 := ⟨(lw_gm 712 rfl rfl), (lw_gm 710 (by decide +kernel) rfl), (lw_gm 711 (by decide +kernel) rfl), (lw_gm 62 (by decide +kernel) rfl), ⟨by decide, by decide⟩, by decide, TX8, 9, rfl⟩
set_option maxRecDepth 100000 in
theorem kX8_who : sm_m mX8_who 7 := ⟨(lw_gm 716 rfl rfl), (lw_gm 714 (by decide +kernel) rfl), (lw_gm 715 (by decide +kernel) rfl), (lw_gm 62 (by decide +kernel) rfl), ⟨by decide, by decide⟩, by decide, TX8, 9, rfl⟩
set_option maxRecDepth 100000 in
theorem kX8_odds : sm_m mX8_odds 7 := ⟨(lw_gm 724 rfl rfl), (lw_gm 722 (by decide +kernel) rfl), (lw_gm 723 (by decide +kernel) rfl), (lw_gm 62 (by decide +kernel) rfl), ⟨by decide, by decide⟩, by decide, TX8, 9, rfl⟩
set_option maxRecDepth 100000 in
theorem kX8_image : sm_m mX8_image 7 := ⟨(lw_gm 745 rfl rfl), (lw_gm 743 (by decide +kernel) rfl), (lw_gm 744 (by decide +kernel) rfl), (lw_gm 62 (by decide +kernel) rfl), ⟨by decide, by decide⟩, by decide, TX8, 9, rfl⟩
set_option maxRecDepth 100000 in
theorem kX8_restore : sm_m mX8_restore 7 := ⟨(lw_gm 749 rfl rfl), (lw_gm 747 (by decide +kernel) rfl), (lw_gm 748 (by decide +kernel) rfl), (lw_gm 62 (by decide +kernel) rfl), ⟨by decide, by decide⟩, by decide, TX8, 9, rfl⟩
set_option maxRecDepth 100000 in
theorem kX8_kind : sm_m mX8_kind 7 := ⟨(lw_gm 753 rfl rfl), (lw_gm 751 (by decide +kernel) rfl), (lw_gm 752 (by decide +kernel) rfl), (lw_gm 62 (by decide +kernel) rfl), ⟨by decide, by decide⟩, by decide, TX8, 9, rfl⟩
set_option maxRecDepth 100000 in
theorem kX8_as : sm_m mX8_as 7 := ⟨(lw_gm 757 rfl rfl), (lw_gm 755 (by decide +kernel) rfl), (lw_gm 756 (by decide +kernel) rfl), (lw_gm 62 (by decide +kernel) rfl), ⟨by decide, by decide⟩, by decide, TX8, 9, rfl⟩
set_option maxRecDepth 100000 in
theorem kX8_ask : sm_m mX8_ask 7 := ⟨(lw_gm 773 rfl rfl), (lw_gm 771 (by decide +kernel) rfl), (lw_gm 772 (by decide +kernel) rfl), (lw_gm 62 (by decide +kernel) rfl), ⟨by decide, by decide⟩, by decide, TX8, 9, rfl⟩
set_option maxRecDepth 100000 in
theorem kX8_trace : sm_m mX8_trace 7 := ⟨(lw_gm 806 rfl rfl), (lw_gm 804 (by decide +kernel) rfl), (lw_gm 805 (by decide +kernel) rfl), (lw_gm 62 (by decide +kernel) rfl), ⟨by decide, by decide⟩, by decide, TX8, 9, rfl⟩
set_option maxRecDepth 100000 in
theorem kX8_count : sm_m mX8_count 7 := ⟨(lw_gm 815 rfl rfl), (lw_gm 813 (by decide +kernel) rfl), (lw_gm 814 (by decide +kernel) rfl), (lw_gm 62 (by decide +kernel) rfl), ⟨by decide, by decide⟩, by decide, TX8, 9, rfl⟩
set_option maxRecDepth 100000 in
theorem kX8_status : sm_m mX8_status 7 := ⟨(lw_gm 827 rfl rfl), (lw_gm 825 (by decide +kernel) rfl), (lw_gm 826 (by decide +kernel) rfl), (lw_gm 62 (by decide +kernel) rfl), ⟨by decide, by decide⟩, by decide, TX8, 9, rfl⟩
set_option maxRecDepth 100000 in
theorem kX8_found : sm_m mX8_found 7 := ⟨(lw_gm 324 rfl rfl), (lw_gm 323 (by decide +kernel) rfl), (lw_gm 0 (by decide +kernel) rfl), (lw_gm 62 (by decide +kernel) rfl), ⟨by decide, by decide⟩, by decide, TX8, 9, rfl⟩
set_option maxRecDepth 100000 in
theorem kX8_unfound : sm_m mX8_unfound 7 := ⟨(lw_gm 333 rfl rfl), (lw_gm 332 (by decide +kernel) rfl), (lw_gm 1 (by decide +kernel) rfl), (lw_gm 62 (by decide +kernel) rfl), ⟨by decide, by decide⟩, by decide, TX8, 9, rfl⟩
set_option maxRecDepth 100000 in
theorem kX8_isTelling : sm_ms mX8_isTelling := ⟨(lw_gm 690 rfl rfl), (lw_gm 689 (by decide +kernel) rfl), (lw_gm 62 (by decide +kernel) rfl), ⟨by decide, by decide⟩, by decide⟩
set_option maxRecDepth 100000 in
theorem kX8_takeTelling : sm_m mX8_takeTelling 7 := ⟨(lw_gm 694 rfl rfl), (lw_gm 693 (by decide +kernel) rfl), (lw_gm 17 (by decide +kernel) rfl), (lw_gm 62 (by decide +kernel) rfl), ⟨by decide, by decide⟩, by decide, TX8, 9, rfl⟩
set_option maxRecDepth 100000 in
theorem kX8_commonDivisor : sm_ms mX8_commonDivisor := ⟨(lw_gm 739 rfl rfl), (lw_gm 738 (by decide +kernel) rfl), (lw_gm 62 (by decide +kernel) rfl), ⟨by decide, by decide⟩, by decide⟩
set_option maxRecDepth 100000 in
theorem kX9_in : sm_ms mX9_in := ⟨(lw_gm 930 rfl rfl), (lw_gm 929 (by decide +kernel) rfl), (lw_gm 70 (by decide +kernel) rfl), ⟨by decide, by decide⟩, by decide⟩
set_option maxRecDepth 100000 in
theorem kX9_has : sm_ms mX9_has := ⟨(lw_gm 1034 rfl rfl), (lw_gm 1033 (by decide +kernel) rfl), (lw_gm 70 (by decide +kernel) rfl), ⟨by decide, by decide⟩, by decide⟩
set_option maxRecDepth 100000 in
theorem kX9_ones : sm_ms mX9_ones := ⟨(lw_gm 1046 rfl rfl), (lw_gm 1045 (by decide +kernel) rfl), (lw_gm 70 (by decide +kernel) rfl), ⟨by decide, by decide⟩, by decide⟩
set_option maxRecDepth 100000 in
theorem kX9_found : sm_m mX9_found 8 := ⟨(lw_gm 935 rfl rfl), (lw_gm 934 (by decide +kernel) rfl), (lw_gm 23 (by decide +kernel) rfl), (lw_gm 70 (by decide +kernel) rfl), ⟨by decide, by decide⟩, by decide, TX9, 28, rfl⟩
set_option maxRecDepth 100000 in
theorem kX9_well : sm_m mX9_well 8 := ⟨(lw_gm 940 rfl rfl), (lw_gm 939 (by decide +kernel) rfl), (lw_gm 24 (by decide +kernel) rfl), (lw_gm 70 (by decide +kernel) rfl), ⟨by decide, by decide⟩, by decide, TX9, 28, rfl⟩
set_option maxRecDepth 100000 in
theorem kX9_copies : sm_ms mX9_copies := ⟨(lw_gm 1011 rfl rfl), (lw_gm 1010 (by decide +kernel) rfl), (lw_gm 70 (by decide +kernel) rfl), ⟨by decide, by decide⟩, by decide⟩
set_option maxRecDepth 100000 in
theorem kX9_isRow : sm_ms mX9_isRow := ⟨(lw_gm 927 rfl rfl), (lw_gm 926 (by decide +kernel) rfl), (lw_gm 70 (by decide +kernel) rfl), ⟨by decide, by decide⟩, by decide⟩
set_option maxRecDepth 100000 in
theorem kX9_isMissing : sm_m mX9_isMissing 8 := ⟨(lw_gm 948 rfl rfl), (lw_gm 947 (by decide +kernel) rfl), (lw_gm 25 (by decide +kernel) rfl), (lw_gm 70 (by decide +kernel) rfl), ⟨by decide, by decide⟩, by decide, TX9, 28, rfl⟩
set_option maxRecDepth 100000 in
theorem kX9_cut : sm_ms mX9_cut := ⟨(lw_gm 951 rfl rfl), (lw_gm 950 (by decide +kernel) rfl), (lw_gm 70 (by decide +kernel) rfl), ⟨by decide, by decide⟩, by decide⟩
set_option maxRecDepth 100000 in
theorem kX9_row : sm_m mX9_row 8 := ⟨(lw_gm 924 rfl rfl), (lw_gm 922 (by decide +kernel) rfl), (lw_gm 923 (by decide +kernel) rfl), (lw_gm 70 (by decide +kernel) rfl), ⟨by decide, by decide⟩, by decide, TX9, 28, rfl⟩
set_option maxRecDepth 100000 in
theorem kX9_set : sm_m mX9_set 8 := ⟨(lw_gm 944 rfl rfl), (lw_gm 942 (by decide +kernel) rfl), (lw_gm 943 (by decide +kernel) rfl), (lw_gm 70 (by decide +kernel) rfl), ⟨by decide, by decide⟩, by decide, TX9, 28, rfl⟩
set_option maxRecDepth 100000 in
theorem kX9_isPart : sm_m mX9_isPart 8 := ⟨(lw_gm 959 rfl rfl), (lw_gm 958 (by decide +kernel) rfl), (lw_gm 26 (by decide +kernel) rfl), (lw_gm 70 (by decide +kernel) rfl), ⟨by decide, by decide⟩, by decide, TX9, 28, rfl⟩
set_option maxRecDepth 100000 in
theorem kX9_copy : sm_m mX9_copy 8 := ⟨(lw_gm 955 rfl rfl), (lw_gm 953 (by decide +kernel) rfl), (lw_gm 954 (by decide +kernel) rfl), (lw_gm 70 (by decide +kernel) rfl), ⟨by decide, by decide⟩, by decide, TX9, 28, rfl⟩
set_option maxRecDepth 100000 in
theorem kX9_drop : sm_m mX9_drop 8 := ⟨(lw_gm 963 rfl rfl), (lw_gm 961 (by decide +kernel) rfl), (lw_gm 962 (by decide +kernel) rfl), (lw_gm 70 (by decide +kernel) rfl), ⟨by decide, by decide⟩, by decide, TX9, 28, rfl⟩
set_option maxRecDepth 100000 in
theorem kX9_feed : sm_m mX9_feed 8 := ⟨(lw_gm 967 rfl rfl), (lw_gm 965 (by decide +kernel) rfl), (lw_gm 966 (by decide +kernel) rfl), (lw_gm 70 (by decide +kernel) rfl), ⟨by decide, by decide⟩, by decide, TX9, 28, rfl⟩
set_option maxRecDepth 100000 in
theorem kX9_byteAt : sm_m mX9_byteAt 8 := ⟨(lw_gm 980 rfl rfl), (lw_gm 979 (by decide +kernel) rfl), (lw_gm 28 (by decide +kernel) rfl), (lw_gm 70 (by decide +kernel) rfl), ⟨by decide, by decide⟩, by decide, TX9, 28, rfl⟩
set_option maxRecDepth 100000 in
theorem kX9_advances : sm_m mX9_advances 8 := ⟨(lw_gm 976 rfl rfl), (lw_gm 975 (by decide +kernel) rfl), (lw_gm 27 (by decide +kernel) rfl), (lw_gm 70 (by decide +kernel) rfl), ⟨by decide, by decide⟩, by decide, TX9, 28, rfl⟩
set_option maxRecDepth 100000 in
theorem kX9_isWell : sm_m mX9_isWell 8 := ⟨(lw_gm 988 rfl rfl), (lw_gm 987 (by decide +kernel) rfl), (lw_gm 30 (by decide +kernel) rfl), (lw_gm 70 (by decide +kernel) rfl), ⟨by decide, by decide⟩, by decide, TX9, 28, rfl⟩
set_option maxRecDepth 100000 in
theorem kX9_takes : sm_m mX9_takes 8 := ⟨(lw_gm 984 rfl rfl), (lw_gm 983 (by decide +kernel) rfl), (lw_gm 29 (by decide +kernel) rfl), (lw_gm 70 (by decide +kernel) rfl), ⟨by decide, by decide⟩, by decide, TX9, 28, rfl⟩
set_option maxRecDepth 100000 in
theorem kX9_figure : sm_m mX9_figure 8 := ⟨(lw_gm 992 rfl rfl), (lw_gm 991 (by decide +kernel) rfl), (lw_gm 31 (by decide +kernel) rfl), (lw_gm 70 (by decide +kernel) rfl), ⟨by decide, by decide⟩, by decide, TX9, 28, rfl⟩
set_option maxRecDepth 100000 in
theorem kX9_kindOf : sm_ms mX9_kindOf := ⟨(lw_gm 995 rfl rfl), (lw_gm 994 (by decide +kernel) rfl), (lw_gm 70 (by decide +kernel) rfl), ⟨by decide, by decide⟩, by decide⟩
set_option maxRecDepth 100000 in
theorem kX9_next : sm_m mX9_next 8 := ⟨(lw_gm 1003 rfl rfl), (lw_gm 1002 (by decide +kernel) rfl), (lw_gm 33 (by decide +kernel) rfl), (lw_gm 70 (by decide +kernel) rfl), ⟨by decide, by decide⟩, by decide, TX9, 28, rfl⟩
set_option maxRecDepth 100000 in
theorem kX9_readsLie : sm_m mX9_readsLie 8 := ⟨(lw_gm 999 rfl rfl), (lw_gm 998 (by decide +kernel) rfl), (lw_gm 32 (by decide +kernel) rfl), (lw_gm 70 (by decide +kernel) rfl), ⟨by decide, by decide⟩, by decide, TX9, 28, rfl⟩
set_option maxRecDepth 100000 in
theorem kX9_readsStranger : sm_m mX9_readsStranger 8 := ⟨(lw_gm 1007 rfl rfl), (lw_gm 1006 (by decide +kernel) rfl), (lw_gm 34 (by decide +kernel) rfl), (lw_gm 70 (by decide +kernel) rfl), ⟨by decide, by decide⟩, by decide, TX9, 28, rfl⟩
set_option maxRecDepth 100000 in
theorem kX9_town : sm_m mX9_town 8 := ⟨(lw_gm 972 rfl rfl), (lw_gm 970 (by decide +kernel) rfl), (lw_gm 971 (by decide +kernel) rfl), (lw_gm 70 (by decide +kernel) rfl), ⟨by decide, by decide⟩, by decide, TX9, 28, rfl⟩
set_option maxRecDepth 100000 in
theorem kX9_fault : sm_m mX9_fault 8 := ⟨(lw_gm 1015 rfl rfl), (lw_gm 1013 (by decide +kernel) rfl), (lw_gm 1014 (by decide +kernel) rfl), (lw_gm 70 (by decide +kernel) rfl), ⟨by decide, by decide⟩, by decide, TX9, 28, rfl⟩
set_option maxRecDepth 100000 in
theorem kX9_isTown : sm_m mX9_isTown 8 := ⟨(lw_gm 1162 rfl rfl), (lw_gm 1161 (by decide +kernel) rfl), (lw_gm 53 (by decide +kernel) rfl), (lw_gm 70 (by decide +kernel) rfl), ⟨by decide, by decide⟩, by decide, TX9, 28, rfl⟩
set_option maxRecDepth 100000 in
theorem kX9_isLie : sm_m mX9_isLie 8 := ⟨(lw_gm 1027 rfl rfl), (lw_gm 1026 (by decide +kernel) rfl), (lw_gm 36 (by decide +kernel) rfl), (lw_gm 70 (by decide +kernel) rfl), ⟨by decide, by decide⟩, by decide, TX9, 28, rfl⟩
set_option maxRecDepth 100000 in
theorem kX9_isStranger : sm_m mX9_isStranger 8 := ⟨(lw_gm 1023 rfl rfl), (lw_gm 1022 (by decide +kernel) rfl), (lw_gm 35 (by decide +kernel) rfl), (lw_gm 70 (by decide +kernel) rfl), ⟨by decide, by decide⟩, by decide, TX9, 28, rfl⟩
set_option maxRecDepth 100000 in
theorem kX9_tries : sm_m mX9_tries 8 := ⟨(lw_gm 1043 rfl rfl), (lw_gm 1042 (by decide +kernel) rfl), (lw_gm 39 (by decide +kernel) rfl), (lw_gm 70 (by decide +kernel) rfl), ⟨by decide, by decide⟩, by decide, TX9, 28, rfl⟩
set_option maxRecDepth 100000 in
theorem kX9_needs : sm_m mX9_needs 8 := ⟨(lw_gm 1054 rfl rfl), (lw_gm 1053 (by decide +kernel) rfl), (lw_gm 41 (by decide +kernel) rfl), (lw_gm 70 (by decide +kernel) rfl), ⟨by decide, by decide⟩, by decide, TX9, 28, rfl⟩
set_option maxRecDepth 100000 in
theorem kX9_wouldNod : sm_m mX9_wouldNod 8 := ⟨(lw_gm 1050 rfl rfl), (lw_gm 1049 (by decide +kernel) rfl), (lw_gm 40 (by decide +kernel) rfl), (lw_gm 70 (by decide +kernel) rfl), ⟨by decide, by decide⟩, by decide, TX9, 28, rfl⟩
set_option maxRecDepth 100000 in
theorem kX9_hears : sm_m mX9_hears 8 := ⟨(lw_gm 1058 rfl rfl), (lw_gm 1057 (by decide +kernel) rfl), (lw_gm 42 (by decide +kernel) rfl), (lw_gm 70 (by decide +kernel) rfl), ⟨by decide, by decide⟩, by decide, TX9, 28, rfl⟩
set_option maxRecDepth 100000 in
theorem kX9_notes : sm_m mX9_notes 8 := ⟨(lw_gm 1039 rfl rfl), (lw_gm 1038 (by decide +kernel) rfl), (lw_gm 38 (by decide +kernel) rfl), (lw_gm 70 (by decide +kernel) rfl), ⟨by decide, by decide⟩, by decide, TX9, 28, rfl⟩
set_option maxRecDepth 100000 in
theorem kX9_wasTold : sm_m mX9_wasTold 8 := ⟨(lw_gm 1031 rfl rfl), (lw_gm 1030 (by decide +kernel) rfl), (lw_gm 37 (by decide +kernel) rfl), (lw_gm 70 (by decide +kernel) rfl), ⟨by decide, by decide⟩, by decide, TX9, 28, rfl⟩
set_option maxRecDepth 100000 in
theorem kX9_tell : sm_m mX9_tell 8 := ⟨(lw_gm 1019 rfl rfl), (lw_gm 1017 (by decide +kernel) rfl), (lw_gm 1018 (by decide +kernel) rfl), (lw_gm 70 (by decide +kernel) rfl), ⟨by decide, by decide⟩, by decide, TX9, 28, rfl⟩
set_option maxRecDepth 100000 in
theorem kX9_supper : sm_m mX9_supper 8 := ⟨(lw_gm 1062 rfl rfl), (lw_gm 1060 (by decide +kernel) rfl), (lw_gm 1061 (by decide +kernel) rfl), (lw_gm 70 (by decide +kernel) rfl), ⟨by decide, by decide⟩, by decide, TX9, 28, rfl⟩
set_option maxRecDepth 100000 in
theorem kX9_forget : sm_m mX9_forget 8 := ⟨(lw_gm 1066 rfl rfl), (lw_gm 1064 (by decide +kernel) rfl), (lw_gm 1065 (by decide +kernel) rfl), (lw_gm 70 (by decide +kernel) rfl), ⟨by decide, by decide⟩, by decide, TX9, 28, rfl⟩
set_option maxRecDepth 100000 in
theorem kX9_undo : sm_m mX9_undo 8 := ⟨(lw_gm 1070 rfl rfl), (lw_gm 1068 (by decide +kernel) rfl), (lw_gm 1069 (by decide +kernel) rfl), (lw_gm 70 (by decide +kernel) rfl), ⟨by decide, by decide⟩, by decide, TX9, 28, rfl⟩
set_option maxRecDepth 100000 in
theorem kX9_strangersWith : sm_m mX9_strangersWith 8 := ⟨(lw_gm 1078 rfl rfl), (lw_gm 1077 (by decide +kernel) rfl), (lw_gm 43 (by decide +kernel) rfl), (lw_gm 70 (by decide +kernel) rfl), ⟨by decide, by decide⟩, by decide, TX9, 28, rfl⟩
set_option maxRecDepth 100000 in
theorem kX9_noddedAt : sm_m mX9_noddedAt 8 := ⟨(lw_gm 1082 rfl rfl), (lw_gm 1081 (by decide +kernel) rfl), (lw_gm 44 (by decide +kernel) rfl), (lw_gm 70 (by decide +kernel) rfl), ⟨by decide, by decide⟩, by decide, TX9, 28, rfl⟩
set_option maxRecDepth 100000 in
theorem kX9_lie : sm_m mX9_lie 8 := ⟨(lw_gm 1074 rfl rfl), (lw_gm 1072 (by decide +kernel) rfl), (lw_gm 1073 (by decide +kernel) rfl), (lw_gm 70 (by decide +kernel) rfl), ⟨by decide, by decide⟩, by decide, TX9, 28, rfl⟩
set_option maxRecDepth 100000 in
theorem kX9_stranger : sm_m mX9_stranger 8 := ⟨(lw_gm 1086 rfl rfl), (lw_gm 1084 (by decide +kernel) rfl), (lw_gm 1085 (by decide +kernel) rfl), (lw_gm 70 (by decide +kernel) rfl), ⟨by decide, by decide⟩, by decide, TX9, 28, rfl⟩
set_option maxRecDepth 100000 in
theorem kX9_need : sm_m mX9_need 8 := ⟨(lw_gm 1090 rfl rfl), (lw_gm 1088 (by decide +kernel) rfl), (lw_gm 1089 (by decide +kernel) rfl), (lw_gm 70 (by decide +kernel) rfl), ⟨by decide, by decide⟩, by decide, TX9, 28, rfl⟩
set_option maxRecDepth 100000 in
theorem kX9_untold : sm_m mX9_untold 8 := ⟨(lw_gm 1098 rfl rfl), (lw_gm 1097 (by decide +kernel) rfl), (lw_gm 45 (by decide +kernel) rfl), (lw_gm 70 (by decide +kernel) rfl), ⟨by decide, by decide⟩, by decide, TX9, 28, rfl⟩
set_option maxRecDepth 100000 in
theorem kX9_nods : sm_m mX9_nods 8 := ⟨(lw_gm 1094 rfl rfl), (lw_gm 1092 (by decide +kernel) rfl), (lw_gm 1093 (by decide +kernel) rfl), (lw_gm 70 (by decide +kernel) rfl), ⟨by decide, by decide⟩, by decide, TX9, 28, rfl⟩
set_option maxRecDepth 100000 in
theorem kX9_nodsAt : sm_m mX9_nodsAt 8 := ⟨(lw_gm 1110 rfl rfl), (lw_gm 1109 (by decide +kernel) rfl), (lw_gm 47 (by decide +kernel) rfl), (lw_gm 70 (by decide +kernel) rfl), ⟨by decide, by decide⟩, by decide, TX9, 28, rfl⟩
set_option maxRecDepth 100000 in
theorem kX9_goesOn : sm_m mX9_goesOn 8 := ⟨(lw_gm 1114 rfl rfl), (lw_gm 1113 (by decide +kernel) rfl), (lw_gm 48 (by decide +kernel) rfl), (lw_gm 70 (by decide +kernel) rfl), ⟨by decide, by decide⟩, by decide, TX9, 28, rfl⟩
set_option maxRecDepth 100000 in
theorem kX9_fills : sm_m mX9_fills 8 := ⟨(lw_gm 1106 rfl rfl), (lw_gm 1105 (by decide +kernel) rfl), (lw_gm 46 (by decide +kernel) rfl), (lw_gm 70 (by decide +kernel) rfl), ⟨by decide, by decide⟩, by decide, TX9, 28, rfl⟩
set_option maxRecDepth 100000 in
theorem kX9_order : sm_m mX9_order 8 := ⟨(lw_gm 1102 rfl rfl), (lw_gm 1100 (by decide +kernel) rfl), (lw_gm 1101 (by decide +kernel) rfl), (lw_gm 70 (by decide +kernel) rfl), ⟨by decide, by decide⟩, by decide, TX9, 28, rfl⟩
set_option maxRecDepth 100000 in
theorem kX9_aheadOf : sm_m mX9_aheadOf 8 := ⟨(lw_gm 1122 rfl rfl), (lw_gm 1121 (by decide +kernel) rfl), (lw_gm 49 (by decide +kernel) rfl), (lw_gm 70 (by decide +kernel) rfl), ⟨by decide, by decide⟩, by decide, TX9, 28, rfl⟩
set_option maxRecDepth 100000 in
theorem kX9_comesIn : sm_m mX9_comesIn 8 := ⟨(lw_gm 1118 rfl rfl), (lw_gm 1116 (by decide +kernel) rfl), (lw_gm 1117 (by decide +kernel) rfl), (lw_gm 70 (by decide +kernel) rfl), ⟨by decide, by decide⟩, by decide, TX9, 28, rfl⟩
set_option maxRecDepth 100000 in
theorem kX9_dead : sm_m mX9_dead 8 := ⟨(lw_gm 1126 rfl rfl), (lw_gm 1124 (by decide +kernel) rfl), (lw_gm 1125 (by decide +kernel) rfl), (lw_gm 70 (by decide +kernel) rfl), ⟨by decide, by decide⟩, by decide, TX9, 28, rfl⟩
set_option maxRecDepth 100000 in
theorem kX9_helps : sm_m mX9_helps 8 := ⟨(lw_gm 1134 rfl rfl), (lw_gm 1133 (by decide +kernel) rfl), (lw_gm 50 (by decide +kernel) rfl), (lw_gm 70 (by decide +kernel) rfl), ⟨by decide, by decide⟩, by decide, TX9, 28, rfl⟩
set_option maxRecDepth 100000 in
theorem kX9_help : sm_m mX9_help 8 := ⟨(lw_gm 1130 rfl rfl), (lw_gm 1128 (by decide +kernel) rfl), (lw_gm 1129 (by decide +kernel) rfl), (lw_gm 70 (by decide +kernel) rfl), ⟨by decide, by decide⟩, by decide, TX9, 28, rfl⟩
set_option maxRecDepth 100000 in
theorem kX9_suppers : sm_m mX9_suppers 8 := ⟨(lw_gm 1138 rfl rfl), (lw_gm 1136 (by decide +kernel) rfl), (lw_gm 1137 (by decide +kernel) rfl), (lw_gm 70 (by decide +kernel) rfl), ⟨by decide, by decide⟩, by decide, TX9, 28, rfl⟩
set_option maxRecDepth 100000 in
theorem kX9_wrongIn : sm_m mX9_wrongIn 8 := ⟨(lw_gm 1146 rfl rfl), (lw_gm 1145 (by decide +kernel) rfl), (lw_gm 51 (by decide +kernel) rfl), (lw_gm 70 (by decide +kernel) rfl), ⟨by decide, by decide⟩, by decide, TX9, 28, rfl⟩
set_option maxRecDepth 100000 in
theorem kX9_goesSo : sm_m mX9_goesSo 8 := ⟨(lw_gm 1150 rfl rfl), (lw_gm 1149 (by decide +kernel) rfl), (lw_gm 52 (by decide +kernel) rfl), (lw_gm 70 (by decide +kernel) rfl), ⟨by decide, by decide⟩, by decide, TX9, 28, rfl⟩
set_option maxRecDepth 100000 in
theorem kX9_doubted : sm_m mX9_doubted 8 := ⟨(lw_gm 1142 rfl rfl), (lw_gm 1140 (by decide +kernel) rfl), (lw_gm 1141 (by decide +kernel) rfl), (lw_gm 70 (by decide +kernel) rfl), ⟨by decide, by decide⟩, by decide, TX9, 28, rfl⟩
set_option maxRecDepth 100000 in
theorem kX9_trusted : sm_m mX9_trusted 8 := ⟨(lw_gm 1154 rfl rfl), (lw_gm 1152 (by decide +kernel) rfl), (lw_gm 1153 (by decide +kernel) rfl), (lw_gm 70 (by decide +kernel) rfl), ⟨by decide, by decide⟩, by decide, TX9, 28, rfl⟩
set_option maxRecDepth 100000 in
theorem kX9_who : sm_m mX9_who 8 := ⟨(lw_gm 1158 rfl rfl), (lw_gm 1156 (by decide +kernel) rfl), (lw_gm 1157 (by decide +kernel) rfl), (lw_gm 70 (by decide +kernel) rfl), ⟨by decide, by decide⟩, by decide, TX9, 28, rfl⟩
set_option maxRecDepth 100000 in
theorem kX9_goesBy : sm_m mX9_goesBy 8 := ⟨(lw_gm 1171 rfl rfl), (lw_gm 1170 (by decide +kernel) rfl), (lw_gm 54 (by decide +kernel) rfl), (lw_gm 70 (by decide +kernel) rfl), ⟨by decide, by decide⟩, by decide, TX9, 28, rfl⟩
set_option maxRecDepth 100000 in
theorem kX9_odds : sm_m mX9_odds 8 := ⟨(lw_gm 1166 rfl rfl), (lw_gm 1164 (by decide +kernel) rfl), (lw_gm 1165 (by decide +kernel) rfl), (lw_gm 70 (by decide +kernel) rfl), ⟨by decide, by decide⟩, by decide, TX9, 28, rfl⟩
set_option maxRecDepth 100000 in
theorem kX9_image : sm_m mX9_image 8 := ⟨(lw_gm 1175 rfl rfl), (lw_gm 1173 (by decide +kernel) rfl), (lw_gm 1174 (by decide +kernel) rfl), (lw_gm 70 (by decide +kernel) rfl), ⟨by decide, by decide⟩, by decide, TX9, 28, rfl⟩
set_option maxRecDepth 100000 in
theorem kX9_restore : sm_m mX9_restore 8 := ⟨(lw_gm 1179 rfl rfl), (lw_gm 1177 (by decide +kernel) rfl), (lw_gm 1178 (by decide +kernel) rfl), (lw_gm 70 (by decide +kernel) rfl), ⟨by decide, by decide⟩, by decide, TX9, 28, rfl⟩
set_option maxRecDepth 100000 in
theorem kX9_kindIn : sm_m mX9_kindIn 8 := ⟨(lw_gm 1187 rfl rfl), (lw_gm 1186 (by decide +kernel) rfl), (lw_gm 55 (by decide +kernel) rfl), (lw_gm 70 (by decide +kernel) rfl), ⟨by decide, by decide⟩, by decide, TX9, 28, rfl⟩
set_option maxRecDepth 100000 in
theorem kX9_kind : sm_m mX9_kind 8 := ⟨(lw_gm 1183 rfl rfl), (lw_gm 1181 (by decide +kernel) rfl), (lw_gm 1182 (by decide +kernel) rfl), (lw_gm 70 (by decide +kernel) rfl), ⟨by decide, by decide⟩, by decide, TX9, 28, rfl⟩
set_option maxRecDepth 100000 in
theorem kX9_as : sm_m mX9_as 8 := ⟨(lw_gm 1191 rfl rfl), (lw_gm 1189 (by decide +kernel) rfl), (lw_gm 1190 (by decide +kernel) rfl), (lw_gm 70 (by decide +kernel) rfl), ⟨by decide, by decide⟩, by decide, TX9, 28, rfl⟩
set_option maxRecDepth 100000 in
theorem kX9_begins : sm_m mX9_begins 8 := ⟨(lw_gm 1203 rfl rfl), (lw_gm 1202 (by decide +kernel) rfl), (lw_gm 57 (by decide +kernel) rfl), (lw_gm 70 (by decide +kernel) rfl), ⟨by decide, by decide⟩, by decide, TX9, 28, rfl⟩
set_option maxRecDepth 100000 in
theorem kX9_easyMark : sm_m mX9_easyMark 8 := ⟨(lw_gm 1211 rfl rfl), (lw_gm 1210 (by decide +kernel) rfl), (lw_gm 59 (by decide +kernel) rfl), (lw_gm 70 (by decide +kernel) rfl), ⟨by decide, by decide⟩, by decide, TX9, 28, rfl⟩
set_option maxRecDepth 100000 in
theorem kX9_proofSize : sm_m mX9_proofSize 8 := ⟨(lw_gm 1199 rfl rfl), (lw_gm 1198 (by decide +kernel) rfl), (lw_gm 56 (by decide +kernel) rfl), (lw_gm 70 (by decide +kernel) rfl), ⟨by decide, by decide⟩, by decide, TX9, 28, rfl⟩
set_option maxRecDepth 100000 in
theorem kX9_easySize : sm_m mX9_easySize 8 := ⟨(lw_gm 1207 rfl rfl), (lw_gm 1206 (by decide +kernel) rfl), (lw_gm 58 (by decide +kernel) rfl), (lw_gm 70 (by decide +kernel) rfl), ⟨by decide, by decide⟩, by decide, TX9, 28, rfl⟩
set_option maxRecDepth 100000 in
theorem kX9_proofMark : sm_m mX9_proofMark 8 := ⟨(lw_gm 1215 rfl rfl), (lw_gm 1214 (by decide +kernel) rfl), (lw_gm 60 (by decide +kernel) rfl), (lw_gm 70 (by decide +kernel) rfl), ⟨by decide, by decide⟩, by decide, TX9, 28, rfl⟩
set_option maxRecDepth 100000 in
theorem kX9_ask : sm_m mX9_ask 8 := ⟨(lw_gm 1195 rfl rfl), (lw_gm 1193 (by decide +kernel) rfl), (lw_gm 1194 (by decide +kernel) rfl), (lw_gm 70 (by decide +kernel) rfl), ⟨by decide, by decide⟩, by decide, TX9, 28, rfl⟩
set_option maxRecDepth 100000 in
theorem kX9_trace : sm_m mX9_trace 8 := ⟨(lw_gm 1219 rfl rfl), (lw_gm 1217 (by decide +kernel) rfl), (lw_gm 1218 (by decide +kernel) rfl), (lw_gm 70 (by decide +kernel) rfl), ⟨by decide, by decide⟩, by decide, TX9, 28, rfl⟩
set_option maxRecDepth 100000 in
theorem kX9_count : sm_m mX9_count 8 := ⟨(lw_gm 1223 rfl rfl), (lw_gm 1221 (by decide +kernel) rfl), (lw_gm 1222 (by decide +kernel) rfl), (lw_gm 70 (by decide +kernel) rfl), ⟨by decide, by decide⟩, by decide, TX9, 28, rfl⟩
set_option maxRecDepth 100000 in
theorem kX9_status : sm_m mX9_status 8 := ⟨(lw_gm 1227 rfl rfl), (lw_gm 1225 (by decide +kernel) rfl), (lw_gm 1226 (by decide +kernel) rfl), (lw_gm 70 (by decide +kernel) rfl), ⟨by decide, by decide⟩, by decide, TX9, 28, rfl⟩
set_option maxRecDepth 100000 in
theorem kJ6_bitCount_0f7a4 : sm_ms mJ6_bitCount_0f7a4 := ⟨(lw_gm 502 rfl rfl), (lw_gm 501 (by decide +kernel) rfl), (lw_gm 74 (by decide +kernel) rfl), ⟨by decide, by decide⟩, by decide⟩
set_option maxRecDepth 100000 in
theorem kJ9_max_7cf53 : sm_ms mJ9_max_7cf53 := ⟨(lw_gm 524 rfl rfl), (lw_gm 523 (by decide +kernel) rfl), (lw_gm 73 (by decide +kernel) rfl), ⟨by decide, by decide⟩, by decide⟩
set_option maxRecDepth 100000 in
theorem kJ9_min_7cf53 : sm_ms mJ9_min_7cf53 := ⟨(lw_gm 491 rfl rfl), (lw_gm 490 (by decide +kernel) rfl), (lw_gm 73 (by decide +kernel) rfl), ⟨by decide, by decide⟩, by decide⟩
theorem fX0_29 : sf_ok RX0 29 0 6 := ⟨RX0, TX0, 7, rfl, in_X0, by decide, by decide, (lw_gm 199 (by decide +kernel) rfl)⟩
theorem pX0_29 : sf_okp RX0 29 0 6 := ⟨RX0, TX0, 7, tyX0, rfl, in_X0, by decide, by decide, (lw_gm 199 (by decide +kernel) rfl), tyX0_ok, nmX0, rfl, rfl⟩
theorem fX0_9 : sf_ok RX0 9 0 0 := ⟨RX0, TX0, 7, rfl, in_X0, by decide, by decide, (lw_gm 193 (by decide +kernel) rfl)⟩
theorem fX0_25 : sf_ok RX0 25 0 5 := ⟨RX0, TX0, 7, rfl, in_X0, by decide, by decide, (lw_gm 198 (by decide +kernel) rfl)⟩
theorem fX0_13 : sf_ok RX0 13 0 1 := ⟨RX0, TX0, 7, rfl, in_X0, by decide, by decide, (lw_gm 194 (by decide +kernel) rfl)⟩
theorem fX0_32 : sf_ok RX0 32 6 7 := ⟨RX7, TX7, 11, rfl, in_X7, by decide, by decide, (lw_gm 149 (by decide +kernel) rfl)⟩
theorem fX0_16 : sf_ok RX0 16 0 2 := ⟨RX0, TX0, 7, rfl, in_X0, by decide, by decide, (lw_gm 195 (by decide +kernel) rfl)⟩
theorem fX0_35 : sf_ok RX0 35 6 9 := ⟨RX7, TX7, 11, rfl, in_X7, by decide, by decide, (lw_gm 156 (by decide +kernel) rfl)⟩
theorem fX0_19 : sf_ok RX0 19 0 3 := ⟨RX0, TX0, 7, rfl, in_X0, by decide, by decide, (lw_gm 196 (by decide +kernel) rfl)⟩
theorem fX0_36 : sf_ok RX0 36 6 10 := ⟨RX7, TX7, 11, rfl, in_X7, by decide, by decide, (lw_gm 160 (by decide +kernel) rfl)⟩
theorem fX0_22 : sf_ok RX0 22 0 4 := ⟨RX0, TX0, 7, rfl, in_X0, by decide, by decide, (lw_gm 197 (by decide +kernel) rfl)⟩
theorem fX0_37 : sf_ok RX0 37 6 1 := ⟨RX7, TX7, 11, rfl, in_X7, by decide, by decide, (lw_gm 128 (by decide +kernel) rfl)⟩
theorem pX0_25 : sf_okp RX0 25 0 5 := ⟨RX0, TX0, 7, tyX0, rfl, in_X0, by decide, by decide, (lw_gm 198 (by decide +kernel) rfl), tyX0_ok, nmX0, rfl, rfl⟩
theorem vX0_40 : sm_S RX0 40 mJ9_min_7cf53 2 := sm_sk kJ9_min_7cf53 (lw_gm 489 (by decide +kernel) rfl) (by decide +kernel)
theorem pX0_37 : sf_okp RX0 37 6 1 := ⟨RX7, TX7, 11, tyX7, rfl, in_X7, by decide, by decide, (lw_gm 128 (by decide +kernel) rfl), tyX7_ok, nmX7, rfl, rfl⟩
theorem fX1_15 : sf_ok RX1 15 1 1 := ⟨RX1, TX1, 2, rfl, in_X1, by decide, by decide, (lw_gm 276 (by decide +kernel) rfl)⟩
theorem pX1_15 : sf_okp RX1 15 1 1 := ⟨RX1, TX1, 2, tyX1, rfl, in_X1, by decide, by decide, (lw_gm 276 (by decide +kernel) rfl), tyX1_ok, nmX1, rfl, rfl⟩
theorem vX1_19 : sm_V RX1 19 mX1_sizeOf 1 3 := sm_vk kX1_sizeOf (lw_gm 778 (by decide +kernel) rfl) (by decide +kernel)
theorem vX1_23 : sm_V RX1 23 mX1_markOf 1 3 := sm_vk kX1_markOf (lw_gm 796 (by decide +kernel) rfl) (by decide +kernel)
theorem fX1_11 : sf_ok RX1 11 1 0 := ⟨RX1, TX1, 2, rfl, in_X1, by decide, by decide, (lw_gm 275 (by decide +kernel) rfl)⟩
theorem qX1_26 : Cond.constant RX1 26 (Int32.ofInt (-1000000)) ∈ lw_g := (lw_gm 811 (by decide +kernel) rfl)
theorem gX1_27 : Cond.fieldLink RX1 27 (ss_C 1) (ss_N 1) "[I" ∈ lw_g := (lw_gm 782 (by decide +kernel) rfl)
theorem fX1_30 : sf_ok RX1 30 6 4 := ⟨RX7, TX7, 11, rfl, in_X7, by decide, by decide, (lw_gm 137 (by decide +kernel) rfl)⟩
theorem vX1_35 : sm_S RX1 35 mX1_nearestBody 2 := sm_sk kX1_nearestBody (lw_gm 784 (by decide +kernel) rfl) (by decide +kernel)
theorem vX1_39 : sm_V RX1 39 mX1_run 1 4 := sm_vk kX1_run (lw_gm 788 (by decide +kernel) rfl) (by decide +kernel)
theorem gX1_43 : Cond.fieldLink RX1 43 (ss_C 2) (ss_N 2) "[I" ∈ lw_g := (lw_gm 800 (by decide +kernel) rfl)
theorem vX1_48 : sm_S RX1 48 mX3_above 1 := sm_sk kX3_above (lw_gm 787 (by decide +kernel) rfl) (by decide +kernel)
theorem vX1_52 : sm_V RX1 52 mX1_leaveTrace 1 1 := sm_vk kX1_leaveTrace (lw_gm 792 (by decide +kernel) rfl) (by decide +kernel)
theorem fX1_56 : sf_ok RX1 56 6 5 := ⟨RX7, TX7, 11, rfl, in_X7, by decide, by decide, (lw_gm 142 (by decide +kernel) rfl)⟩
theorem fX1_59 : sf_ok RX1 59 6 10 := ⟨RX7, TX7, 11, rfl, in_X7, by decide, by decide, (lw_gm 161 (by decide +kernel) rfl)⟩
theorem vX1_62 : sm_V RX1 62 mX7_strangersWith 6 2 := sm_vk kX7_strangersWith (lw_gm 802 (by decide +kernel) rfl) (by decide +kernel)
theorem fX2_13 : sf_ok RX2 13 2 0 := ⟨RX2, TX2, 8, rfl, in_X2, by decide, by decide, (lw_gm 244 (by decide +kernel) rfl)⟩
theorem vX2_41 : sm_V RX2 41 mX4_enter 3 2 := sm_vk kX4_enter (lw_gm 496 (by decide +kernel) rfl) (by decide +kernel)
theorem vX2_45 : sm_V RX2 45 mX2_mindOf 2 2 := sm_vk kX2_mindOf (lw_gm 592 (by decide +kernel) rfl) (by decide +kernel)
theorem vX2_49 : sm_V RX2 49 mX7_untold 6 1 := sm_vk kX7_untold (lw_gm 593 (by decide +kernel) rfl) (by decide +kernel)
theorem fX2_55 : sf_ok RX2 55 6 2 := ⟨RX7, TX7, 11, rfl, in_X7, by decide, by decide, (lw_gm 132 (by decide +kernel) rfl)⟩
theorem vX2_58 : sm_V RX2 58 mX4_wouldNod 3 2 := sm_vk kX4_wouldNod (lw_gm 597 (by decide +kernel) rfl) (by decide +kernel)
theorem fX2_24 : sf_ok RX2 24 2 3 := ⟨RX2, TX2, 8, rfl, in_X2, by decide, by decide, (lw_gm 247 (by decide +kernel) rfl)⟩
theorem pX2_24 : sf_okp RX2 24 2 3 := ⟨RX2, TX2, 8, tyX2, rfl, in_X2, by decide, by decide, (lw_gm 247 (by decide +kernel) rfl), tyX2_ok, nmX2, rfl, rfl⟩
theorem fX2_28 : sf_ok RX2 28 2 4 := ⟨RX2, TX2, 8, rfl, in_X2, by decide, by decide, (lw_gm 248 (by decide +kernel) rfl)⟩
theorem pX2_28 : sf_okp RX2 28 2 4 := ⟨RX2, TX2, 8, tyX2, rfl, in_X2, by decide, by decide, (lw_gm 248 (by decide +kernel) rfl), tyX2_ok, nmX2, rfl, rfl⟩
theorem vX2_62 : sm_V RX2 62 mX2_seekOrderFrom 2 4 := sm_vk kX2_seekOrderFrom (lw_gm 610 (by decide +kernel) rfl) (by decide +kernel)
theorem fX2_21 : sf_ok RX2 21 2 2 := ⟨RX2, TX2, 8, rfl, in_X2, by decide, by decide, (lw_gm 246 (by decide +kernel) rfl)⟩
theorem qX2_66 : Cond.constant RX2 66 (Int32.ofInt (-1000000)) ∈ lw_g := (lw_gm 636 (by decide +kernel) rfl)
theorem vX2_67 : sm_S RX2 67 mJ6_bitCount_0f7a4 1 := sm_sk kJ6_bitCount_0f7a4 (lw_gm 614 (by decide +kernel) rfl) (by decide +kernel)
theorem vX2_72 : sm_V RX2 72 mX2_keepBest 2 2 := sm_vk kX2_keepBest (lw_gm 615 (by decide +kernel) rfl) (by decide +kernel)
theorem vX2_76 : sm_V RX2 76 mX2_tryNext 2 3 := sm_vk kX2_tryNext (lw_gm 619 (by decide +kernel) rfl) (by decide +kernel)
theorem fX2_17 : sf_ok RX2 17 2 1 := ⟨RX2, TX2, 8, rfl, in_X2, by decide, by decide, (lw_gm 245 (by decide +kernel) rfl)⟩
theorem vX2_80 : sm_V RX2 80 mX4_become 3 1 := sm_vk kX4_become (lw_gm 623 (by decide +kernel) rfl) (by decide +kernel)
theorem vX2_84 : sm_V RX2 84 mX4_hearAs 3 3 := sm_vk kX4_hearAs (lw_gm 627 (by decide +kernel) rfl) (by decide +kernel)
theorem vX2_88 : sm_V RX2 88 mX2_comesInFrom 2 5 := sm_vk kX2_comesInFrom (lw_gm 645 (by decide +kernel) rfl) (by decide +kernel)
theorem vX2_92 : sm_V RX2 92 mX2_deadFrom 2 4 := sm_vk kX2_deadFrom (lw_gm 662 (by decide +kernel) rfl) (by decide +kernel)
theorem vX2_96 : sm_V RX2 96 mX7_wasTold 6 2 := sm_vk kX7_wasTold (lw_gm 674 (by decide +kernel) rfl) (by decide +kernel)
theorem vX2_100 : sm_V RX2 100 mX2_bringsIn 2 3 := sm_vk kX2_bringsIn (lw_gm 675 (by decide +kernel) rfl) (by decide +kernel)
theorem vX2_103 : sm_V RX2 103 mX6_itemAt 5 2 := sm_vk kX6_itemAt (lw_gm 699 (by decide +kernel) rfl) (by decide +kernel)
theorem vX2_109 : sm_V RX2 109 mX7_hasLie 6 1 := sm_vk kX7_hasLie (lw_gm 703 (by decide +kernel) rfl) (by decide +kernel)
theorem fX2_31 : sf_ok RX2 31 2 5 := ⟨RX2, TX2, 8, rfl, in_X2, by decide, by decide, (lw_gm 249 (by decide +kernel) rfl)⟩
theorem fX2_34 : sf_ok RX2 34 2 6 := ⟨RX2, TX2, 8, rfl, in_X2, by decide, by decide, (lw_gm 250 (by decide +kernel) rfl)⟩
theorem fX2_37 : sf_ok RX2 37 2 7 := ⟨RX2, TX2, 8, rfl, in_X2, by decide, by decide, (lw_gm 251 (by decide +kernel) rfl)⟩
theorem pX2_37 : sf_okp RX2 37 2 7 := ⟨RX2, TX2, 8, tyX2, rfl, in_X2, by decide, by decide, (lw_gm 251 (by decide +kernel) rfl), tyX2_ok, nmX2, rfl, rfl⟩
theorem fX2_113 : sf_ok RX2 113 3 0 := ⟨RX4, TX4, 4, rfl, in_X4, by decide, by decide, (lw_gm 230 (by decide +kernel) rfl)⟩
theorem pX2_113 : sf_okp RX2 113 3 0 := ⟨RX4, TX4, 4, tyX4, rfl, in_X4, by decide, by decide, (lw_gm 230 (by decide +kernel) rfl), tyX4_ok, nmX4, rfl, rfl⟩
theorem fX2_116 : sf_ok RX2 116 3 1 := ⟨RX4, TX4, 4, rfl, in_X4, by decide, by decide, (lw_gm 232 (by decide +kernel) rfl)⟩
theorem pX2_116 : sf_okp RX2 116 3 1 := ⟨RX4, TX4, 4, tyX4, rfl, in_X4, by decide, by decide, (lw_gm 232 (by decide +kernel) rfl), tyX4_ok, nmX4, rfl, rfl⟩
theorem vX2_119 : sm_V RX2 119 mX4_hear 3 2 := sm_vk kX4_hear (lw_gm 708 (by decide +kernel) rfl) (by decide +kernel)
theorem vX2_122 : sm_V RX2 122 mX2_waysFrom 2 4 := sm_vk kX2_waysFrom (lw_gm 729 (by decide +kernel) rfl) (by decide +kernel)
theorem vX3_9 : sm_S RX3 9 mX3_above 1 := sm_sk kX3_above (lw_gm 764 (by decide +kernel) rfl) (by decide +kernel)
theorem vX3_13 : sm_S RX3 13 mX3_isKind 1 := sm_sk kX3_isKind (lw_gm 767 (by decide +kernel) rfl) (by decide +kernel)
theorem gX3_17 : Cond.fieldLink RX3 17 (ss_C 0) (ss_N 0) "[I" ∈ lw_g := (lw_gm 768 (by decide +kernel) rfl)
theorem fX4_25 : sf_ok RX4 25 6 7 := ⟨RX7, TX7, 11, rfl, in_X7, by decide, by decide, (lw_gm 148 (by decide +kernel) rfl)⟩
theorem fX4_7 : sf_ok RX4 7 3 0 := ⟨RX4, TX4, 4, rfl, in_X4, by decide, by decide, (lw_gm 228 (by decide +kernel) rfl)⟩
theorem pX4_7 : sf_okp RX4 7 3 0 := ⟨RX4, TX4, 4, tyX4, rfl, in_X4, by decide, by decide, (lw_gm 228 (by decide +kernel) rfl), tyX4_ok, nmX4, rfl, rfl⟩
theorem fX4_28 : sf_ok RX4 28 6 8 := ⟨RX7, TX7, 11, rfl, in_X7, by decide, by decide, (lw_gm 152 (by decide +kernel) rfl)⟩
theorem fX4_13 : sf_ok RX4 13 3 1 := ⟨RX4, TX4, 4, rfl, in_X4, by decide, by decide, (lw_gm 231 (by decide +kernel) rfl)⟩
theorem pX4_13 : sf_okp RX4 13 3 1 := ⟨RX4, TX4, 4, tyX4, rfl, in_X4, by decide, by decide, (lw_gm 231 (by decide +kernel) rfl), tyX4_ok, nmX4, rfl, rfl⟩
theorem fX4_30 : sf_ok RX4 30 6 9 := ⟨RX7, TX7, 11, rfl, in_X7, by decide, by decide, (lw_gm 155 (by decide +kernel) rfl)⟩
theorem vX4_33 : sm_S RX4 33 mJ6_bitCount_0f7a4 1 := sm_sk kJ6_bitCount_0f7a4 (lw_gm 500 (by decide +kernel) rfl) (by decide +kernel)
theorem fX4_16 : sf_ok RX4 16 3 2 := ⟨RX4, TX4, 4, rfl, in_X4, by decide, by decide, (lw_gm 233 (by decide +kernel) rfl)⟩
theorem pX4_16 : sf_okp RX4 16 3 2 := ⟨RX4, TX4, 4, tyX4, rfl, in_X4, by decide, by decide, (lw_gm 233 (by decide +kernel) rfl), tyX4_ok, nmX4, rfl, rfl⟩
theorem fX4_21 : sf_ok RX4 21 3 3 := ⟨RX4, TX4, 4, rfl, in_X4, by decide, by decide, (lw_gm 234 (by decide +kernel) rfl)⟩
theorem fX4_39 : sf_ok RX4 39 6 2 := ⟨RX7, TX7, 11, rfl, in_X7, by decide, by decide, (lw_gm 131 (by decide +kernel) rfl)⟩
theorem fX4_42 : sf_ok RX4 42 6 6 := ⟨RX7, TX7, 11, rfl, in_X7, by decide, by decide, (lw_gm 145 (by decide +kernel) rfl)⟩
theorem fX4_45 : sf_ok RX4 45 6 10 := ⟨RX7, TX7, 11, rfl, in_X7, by decide, by decide, (lw_gm 159 (by decide +kernel) rfl)⟩
theorem fX4_48 : sf_ok RX4 48 6 4 := ⟨RX7, TX7, 11, rfl, in_X7, by decide, by decide, (lw_gm 138 (by decide +kernel) rfl)⟩
theorem fX4_51 : sf_ok RX4 51 6 5 := ⟨RX7, TX7, 11, rfl, in_X7, by decide, by decide, (lw_gm 141 (by decide +kernel) rfl)⟩
theorem vX4_54 : sm_V RX4 54 mX4_undoubtedNeed 3 3 := sm_vk kX4_undoubtedNeed (lw_gm 518 (by decide +kernel) rfl) (by decide +kernel)
theorem vX4_58 : sm_V RX4 58 mX4_needOf 3 2 := sm_vk kX4_needOf (lw_gm 514 (by decide +kernel) rfl) (by decide +kernel)
theorem vX4_62 : sm_V RX4 62 mX4_wouldNod 3 2 := sm_vk kX4_wouldNod (lw_gm 510 (by decide +kernel) rfl) (by decide +kernel)
theorem vX4_66 : sm_V RX4 66 mX4_hearAs 3 3 := sm_vk kX4_hearAs (lw_gm 525 (by decide +kernel) rfl) (by decide +kernel)
theorem vX4_70 : sm_S RX4 70 mJ9_min_7cf53 2 := sm_sk kJ9_min_7cf53 (lw_gm 529 (by decide +kernel) rfl) (by decide +kernel)
theorem vX4_76 : sm_S RX4 76 mJ9_max_7cf53 2 := sm_sk kJ9_max_7cf53 (lw_gm 522 (by decide +kernel) rfl) (by decide +kernel)
theorem fX5_13 : sf_ok RX5 13 4 1 := ⟨RX5, TX5, 4, rfl, in_X5, by decide, by decide, (lw_gm 107 (by decide +kernel) rfl)⟩
theorem fX5_9 : sf_ok RX5 9 4 0 := ⟨RX5, TX5, 4, rfl, in_X5, by decide, by decide, (lw_gm 106 (by decide +kernel) rfl)⟩
theorem pX5_13 : sf_okp RX5 13 4 1 := ⟨RX5, TX5, 4, tyX5, rfl, in_X5, by decide, by decide, (lw_gm 107 (by decide +kernel) rfl), tyX5_ok, nmX5, rfl, rfl⟩
theorem fX5_17 : sf_ok RX5 17 4 2 := ⟨RX5, TX5, 4, rfl, in_X5, by decide, by decide, (lw_gm 108 (by decide +kernel) rfl)⟩
theorem fX5_20 : sf_ok RX5 20 4 3 := ⟨RX5, TX5, 4, rfl, in_X5, by decide, by decide, (lw_gm 109 (by decide +kernel) rfl)⟩
theorem pX5_17 : sf_okp RX5 17 4 2 := ⟨RX5, TX5, 4, tyX5, rfl, in_X5, by decide, by decide, (lw_gm 108 (by decide +kernel) rfl), tyX5_ok, nmX5, rfl, rfl⟩
theorem vX5_23 : sm_V RX5 23 mX5_readLaw 4 1 := sm_vk kX5_readLaw (lw_gm 397 (by decide +kernel) rfl) (by decide +kernel)
theorem vX5_27 : sm_V RX5 27 mX5_readLies 4 1 := sm_vk kX5_readLies (lw_gm 428 (by decide +kernel) rfl) (by decide +kernel)
theorem vX5_30 : sm_V RX5 30 mX5_readStrangers 4 1 := sm_vk kX5_readStrangers (lw_gm 439 (by decide +kernel) rfl) (by decide +kernel)
theorem vX5_33 : sm_V RX5 33 mX5_refuse 4 1 := sm_vk kX5_refuse (lw_gm 413 (by decide +kernel) rfl) (by decide +kernel)
theorem vX5_37 : sm_V RX5 37 mX5_passed 4 1 := sm_vk kX5_passed (lw_gm 401 (by decide +kernel) rfl) (by decide +kernel)
theorem vX5_40 : sm_V RX5 40 mX5_readNumber 4 2 := sm_vk kX5_readNumber (lw_gm 417 (by decide +kernel) rfl) (by decide +kernel)
theorem vX5_44 : sm_V RX5 44 mX7_begin 6 1 := sm_vk kX7_begin (lw_gm 424 (by decide +kernel) rfl) (by decide +kernel)
theorem vX5_50 : sm_V RX5 50 mX5_here 4 0 := sm_vk kX5_here (lw_gm 405 (by decide +kernel) rfl) (by decide +kernel)
theorem vX5_54 : sm_S RX5 54 mX3_ofLetter 1 := sm_sk kX3_ofLetter (lw_gm 432 (by decide +kernel) rfl) (by decide +kernel)
theorem vX5_60 : sm_V RX5 60 mX7_addLie 6 3 := sm_vk kX7_addLie (lw_gm 435 (by decide +kernel) rfl) (by decide +kernel)
theorem vX5_64 : sm_V RX5 64 mX7_addStranger 6 2 := sm_vk kX7_addStranger (lw_gm 443 (by decide +kernel) rfl) (by decide +kernel)
theorem vX5_68 : sm_V RX5 68 mX5_byteAt 4 1 := sm_vk kX5_byteAt (lw_gm 409 (by decide +kernel) rfl) (by decide +kernel)
theorem vX5_71 : sm_S RX5 71 mX5_isFigure 1 := sm_sk kX5_isFigure (lw_gm 421 (by decide +kernel) rfl) (by decide +kernel)
theorem pX5_20 : sf_okp RX5 20 4 3 := ⟨RX5, TX5, 4, tyX5, rfl, in_X5, by decide, by decide, (lw_gm 109 (by decide +kernel) rfl), tyX5_ok, nmX5, rfl, rfl⟩
theorem fX6_9 : sf_ok RX6 9 5 0 := ⟨RX6, TX6, 3, rfl, in_X6, by decide, by decide, (lw_gm 89 (by decide +kernel) rfl)⟩
theorem fX6_13 : sf_ok RX6 13 5 1 := ⟨RX6, TX6, 3, rfl, in_X6, by decide, by decide, (lw_gm 90 (by decide +kernel) rfl)⟩
theorem fX6_16 : sf_ok RX6 16 5 2 := ⟨RX6, TX6, 3, rfl, in_X6, by decide, by decide, (lw_gm 91 (by decide +kernel) rfl)⟩
theorem vX6_19 : sm_S RX6 19 mX6_cutToLane 2 := sm_sk kX6_cutToLane (lw_gm 350 (by decide +kernel) rfl) (by decide +kernel)
theorem fX7_7 : sf_ok RX7 7 6 0 := ⟨RX7, TX7, 11, rfl, in_X7, by decide, by decide, (lw_gm 125 (by decide +kernel) rfl)⟩
theorem fX7_16 : sf_ok RX7 16 6 2 := ⟨RX7, TX7, 11, rfl, in_X7, by decide, by decide, (lw_gm 130 (by decide +kernel) rfl)⟩
theorem fX7_19 : sf_ok RX7 19 6 3 := ⟨RX7, TX7, 11, rfl, in_X7, by decide, by decide, (lw_gm 134 (by decide +kernel) rfl)⟩
theorem fX7_38 : sf_ok RX7 38 6 9 := ⟨RX7, TX7, 11, rfl, in_X7, by decide, by decide, (lw_gm 154 (by decide +kernel) rfl)⟩
theorem pX7_7 : sf_okp RX7 7 6 0 := ⟨RX7, TX7, 11, tyX7, rfl, in_X7, by decide, by decide, (lw_gm 125 (by decide +kernel) rfl), tyX7_ok, nmX7, rfl, rfl⟩
theorem fX7_13 : sf_ok RX7 13 6 1 := ⟨RX7, TX7, 11, rfl, in_X7, by decide, by decide, (lw_gm 127 (by decide +kernel) rfl)⟩
theorem pX7_13 : sf_okp RX7 13 6 1 := ⟨RX7, TX7, 11, tyX7, rfl, in_X7, by decide, by decide, (lw_gm 127 (by decide +kernel) rfl), tyX7_ok, nmX7, rfl, rfl⟩
theorem pX7_16 : sf_okp RX7 16 6 2 := ⟨RX7, TX7, 11, tyX7, rfl, in_X7, by decide, by decide, (lw_gm 130 (by decide +kernel) rfl), tyX7_ok, nmX7, rfl, rfl⟩
theorem pX7_19 : sf_okp RX7 19 6 3 := ⟨RX7, TX7, 11, tyX7, rfl, in_X7, by decide, by decide, (lw_gm 134 (by decide +kernel) rfl), tyX7_ok, nmX7, rfl, rfl⟩
theorem fX7_22 : sf_ok RX7 22 6 4 := ⟨RX7, TX7, 11, rfl, in_X7, by decide, by decide, (lw_gm 136 (by decide +kernel) rfl)⟩
theorem fX7_26 : sf_ok RX7 26 6 5 := ⟨RX7, TX7, 11, rfl, in_X7, by decide, by decide, (lw_gm 140 (by decide +kernel) rfl)⟩
theorem fX7_29 : sf_ok RX7 29 6 6 := ⟨RX7, TX7, 11, rfl, in_X7, by decide, by decide, (lw_gm 144 (by decide +kernel) rfl)⟩
theorem fX7_32 : sf_ok RX7 32 6 7 := ⟨RX7, TX7, 11, rfl, in_X7, by decide, by decide, (lw_gm 147 (by decide +kernel) rfl)⟩
theorem fX7_35 : sf_ok RX7 35 6 8 := ⟨RX7, TX7, 11, rfl, in_X7, by decide, by decide, (lw_gm 151 (by decide +kernel) rfl)⟩
theorem fX7_41 : sf_ok RX7 41 6 10 := ⟨RX7, TX7, 11, rfl, in_X7, by decide, by decide, (lw_gm 158 (by decide +kernel) rfl)⟩
theorem vX8_62 : sm_S RX8 62 mX6_isRow 1 := sm_sk kX6_isRow (lw_gm 314 (by decide +kernel) rfl) (by decide +kernel)
theorem vX8_66 : sm_S RX8 66 mX6_isLane 1 := sm_sk kX6_isLane (lw_gm 317 (by decide +kernel) rfl) (by decide +kernel)
theorem qX8_69 : Cond.constant RX8 69 (Int32.ofInt (-1000001)) ∈ lw_g := (lw_gm 320 (by decide +kernel) rfl)
theorem vX8_70 : sm_V RX8 70 mX8_found 7 1 := sm_vk kX8_found (lw_gm 321 (by decide +kernel) rfl) (by decide +kernel)
theorem fX8_10 : sf_ok RX8 10 7 0 := ⟨RX8, TX8, 9, rfl, in_X8, by decide, by decide, (lw_gm 282 (by decide +kernel) rfl)⟩
theorem vX8_74 : sm_V RX8 74 mX6_make 5 3 := sm_vk kX6_make (lw_gm 326 (by decide +kernel) rfl) (by decide +kernel)
theorem vX8_78 : sm_V RX8 78 mX8_unfound 7 1 := sm_vk kX8_unfound (lw_gm 330 (by decide +kernel) rfl) (by decide +kernel)
theorem vX8_81 : sm_V RX8 81 mX6_isMissing 5 1 := sm_vk kX6_isMissing (lw_gm 338 (by decide +kernel) rfl) (by decide +kernel)
theorem vX8_84 : sm_V RX8 84 mX6_hasPlaces 5 3 := sm_vk kX6_hasPlaces (lw_gm 342 (by decide +kernel) rfl) (by decide +kernel)
theorem vX8_88 : sm_V RX8 88 mX6_put 5 3 := sm_vk kX6_put (lw_gm 346 (by decide +kernel) rfl) (by decide +kernel)
theorem vX8_92 : sm_V RX8 92 mX6_laneOf 5 1 := sm_vk kX6_laneOf (lw_gm 357 (by decide +kernel) rfl) (by decide +kernel)
theorem vX8_95 : sm_V RX8 95 mX6_move 5 5 := sm_vk kX6_move (lw_gm 361 (by decide +kernel) rfl) (by decide +kernel)
theorem vX8_99 : sm_V RX8 99 mX6_remove 5 1 := sm_vk kX6_remove (lw_gm 372 (by decide +kernel) rfl) (by decide +kernel)
theorem fX8_19 : sf_ok RX8 19 7 1 := ⟨RX8, TX8, 9, rfl, in_X8, by decide, by decide, (lw_gm 283 (by decide +kernel) rfl)⟩
theorem vX8_102 : sm_V RX8 102 mX5_isFull 4 0 := sm_vk kX5_isFull (lw_gm 380 (by decide +kernel) rfl) (by decide +kernel)
theorem qX8_106 : Cond.constant RX8 106 (Int32.ofInt (-1000003)) ∈ lw_g := (lw_gm 384 (by decide +kernel) rfl)
theorem vX8_107 : sm_V RX8 107 mX5_append 4 1 := sm_vk kX5_append (lw_gm 385 (by decide +kernel) rfl) (by decide +kernel)
theorem fX8_30 : sf_ok RX8 30 7 3 := ⟨RX8, TX8, 9, rfl, in_X8, by decide, by decide, (lw_gm 285 (by decide +kernel) rfl)⟩
theorem vX8_110 : sm_V RX8 110 mX5_readInto 4 1 := sm_vk kX5_readInto (lw_gm 393 (by decide +kernel) rfl) (by decide +kernel)
theorem qX8_114 : Cond.constant RX8 114 (Int32.ofInt (-1000100)) ∈ lw_g := (lw_gm 447 (by decide +kernel) rfl)
theorem vX8_115 : sm_V RX8 115 mX5_faultPlace 4 0 := sm_vk kX5_faultPlace (lw_gm 448 (by decide +kernel) rfl) (by decide +kernel)
theorem fX8_26 : sf_ok RX8 26 7 2 := ⟨RX8, TX8, 9, rfl, in_X8, by decide, by decide, (lw_gm 284 (by decide +kernel) rfl)⟩
theorem vX8_119 : sm_V RX8 119 mX7_become 6 1 := sm_vk kX7_become (lw_gm 452 (by decide +kernel) rfl) (by decide +kernel)
theorem fX8_40 : sf_ok RX8 40 7 5 := ⟨RX8, TX8, 9, rfl, in_X8, by decide, by decide, (lw_gm 287 (by decide +kernel) rfl)⟩
theorem vX8_123 : sm_V RX8 123 mX0_clear 0 0 := sm_vk kX0_clear (lw_gm 456 (by decide +kernel) rfl) (by decide +kernel)
theorem fX8_126 : sf_ok RX8 126 6 3 := ⟨RX7, TX7, 11, rfl, in_X7, by decide, by decide, (lw_gm 135 (by decide +kernel) rfl)⟩
theorem vX8_129 : sm_V RX8 129 mX5_latestFault 4 0 := sm_vk kX5_latestFault (lw_gm 464 (by decide +kernel) rfl) (by decide +kernel)
theorem vX8_132 : sm_V RX8 132 mX7_hasStranger 6 1 := sm_vk kX7_hasStranger (lw_gm 472 (by decide +kernel) rfl) (by decide +kernel)
theorem vX8_135 : sm_V RX8 135 mX7_hasLie 6 1 := sm_vk kX7_hasLie (lw_gm 476 (by decide +kernel) rfl) (by decide +kernel)
theorem vX8_138 : sm_V RX8 138 mX7_wasTold 6 2 := sm_vk kX7_wasTold (lw_gm 480 (by decide +kernel) rfl) (by decide +kernel)
theorem qX8_142 : Cond.constant RX8 142 (Int32.ofInt (-1000002)) ∈ lw_g := (lw_gm 484 (by decide +kernel) rfl)
theorem vX8_143 : sm_V RX8 143 mX0_keepAhead 0 2 := sm_vk kX0_keepAhead (lw_gm 485 (by decide +kernel) rfl) (by decide +kernel)
theorem fX8_47 : sf_ok RX8 47 7 6 := ⟨RX8, TX8, 9, rfl, in_X8, by decide, by decide, (lw_gm 288 (by decide +kernel) rfl)⟩
theorem vX8_147 : sm_V RX8 147 mX2_mindOf 2 2 := sm_vk kX2_mindOf (lw_gm 492 (by decide +kernel) rfl) (by decide +kernel)
theorem vX8_151 : sm_V RX8 151 mX4_hear 3 2 := sm_vk kX4_hear (lw_gm 506 (by decide +kernel) rfl) (by decide +kernel)
theorem fX8_157 : sf_ok RX8 157 3 0 := ⟨RX4, TX4, 4, rfl, in_X4, by decide, by decide, (lw_gm 229 (by decide +kernel) rfl)⟩
theorem vX8_160 : sm_V RX8 160 mX7_noteTold 6 4 := sm_vk kX7_noteTold (lw_gm 530 (by decide +kernel) rfl) (by decide +kernel)
theorem vX8_164 : sm_V RX8 164 mX4_dine 3 0 := sm_vk kX4_dine (lw_gm 538 (by decide +kernel) rfl) (by decide +kernel)
theorem vX8_167 : sm_V RX8 167 mX7_noteSupper 6 2 := sm_vk kX7_noteSupper (lw_gm 542 (by decide +kernel) rfl) (by decide +kernel)
theorem vX8_171 : sm_V RX8 171 mX7_noteForgotten 6 2 := sm_vk kX7_noteForgotten (lw_gm 550 (by decide +kernel) rfl) (by decide +kernel)
theorem fX8_174 : sf_ok RX8 174 6 9 := ⟨RX7, TX7, 11, rfl, in_X7, by decide, by decide, (lw_gm 157 (by decide +kernel) rfl)⟩
theorem vX8_178 : sm_S RX8 178 mJ6_bitCount_0f7a4 1 := sm_sk kJ6_bitCount_0f7a4 (lw_gm 554 (by decide +kernel) rfl) (by decide +kernel)
theorem vX8_183 : sm_V RX8 183 mX0_kept 0 0 := sm_vk kX0_kept (lw_gm 559 (by decide +kernel) rfl) (by decide +kernel)
theorem vX8_186 : sm_V RX8 186 mX0_undoLatest 0 1 := sm_vk kX0_undoLatest (lw_gm 563 (by decide +kernel) rfl) (by decide +kernel)
theorem fX8_189 : sf_ok RX8 189 6 5 := ⟨RX7, TX7, 11, rfl, in_X7, by decide, by decide, (lw_gm 143 (by decide +kernel) rfl)⟩
theorem fX8_192 : sf_ok RX8 192 6 6 := ⟨RX7, TX7, 11, rfl, in_X7, by decide, by decide, (lw_gm 146 (by decide +kernel) rfl)⟩
theorem vX8_195 : sm_V RX8 195 mX7_strangersWith 6 2 := sm_vk kX7_strangersWith (lw_gm 571 (by decide +kernel) rfl) (by decide +kernel)
theorem fX8_199 : sf_ok RX8 199 6 10 := ⟨RX7, TX7, 11, rfl, in_X7, by decide, by decide, (lw_gm 162 (by decide +kernel) rfl)⟩
theorem fX8_202 : sf_ok RX8 202 6 7 := ⟨RX7, TX7, 11, rfl, in_X7, by decide, by decide, (lw_gm 150 (by decide +kernel) rfl)⟩
theorem fX8_205 : sf_ok RX8 205 6 8 := ⟨RX7, TX7, 11, rfl, in_X7, by decide, by decide, (lw_gm 153 (by decide +kernel) rfl)⟩
theorem vX8_208 : sm_V RX8 208 mX4_needOf 3 2 := sm_vk kX4_needOf (lw_gm 583 (by decide +kernel) rfl) (by decide +kernel)
theorem vX8_212 : sm_V RX8 212 mX2_nodsNow 2 2 := sm_vk kX2_nodsNow (lw_gm 588 (by decide +kernel) rfl) (by decide +kernel)
theorem vX8_215 : sm_V RX8 215 mX7_isSetOfLies 6 1 := sm_vk kX7_isSetOfLies (lw_gm 602 (by decide +kernel) rfl) (by decide +kernel)
theorem vX8_218 : sm_V RX8 218 mX2_seekOrder 2 3 := sm_vk kX2_seekOrder (lw_gm 606 (by decide +kernel) rfl) (by decide +kernel)
theorem vX8_222 : sm_V RX8 222 mX2_bestNods 2 0 := sm_vk kX2_bestNods (lw_gm 628 (by decide +kernel) rfl) (by decide +kernel)
theorem vX8_225 : sm_V RX8 225 mX2_bestAt 2 1 := sm_vk kX2_bestAt (lw_gm 632 (by decide +kernel) rfl) (by decide +kernel)
theorem vX8_228 : sm_V RX8 228 mX2_fewestAhead 2 3 := sm_vk kX2_fewestAhead (lw_gm 641 (by decide +kernel) rfl) (by decide +kernel)
theorem vX8_232 : sm_V RX8 232 mX2_firstAhead 2 0 := sm_vk kX2_firstAhead (lw_gm 649 (by decide +kernel) rfl) (by decide +kernel)
theorem qX8_235 : Cond.constant RX8 235 (Int32.ofInt (-1000000)) ∈ lw_g := (lw_gm 653 (by decide +kernel) rfl)
theorem vX8_236 : sm_V RX8 236 mX2_deadLies 2 2 := sm_vk kX2_deadLies (lw_gm 658 (by decide +kernel) rfl) (by decide +kernel)
theorem fX8_239 : sf_ok RX8 239 6 2 := ⟨RX7, TX7, 11, rfl, in_X7, by decide, by decide, (lw_gm 133 (by decide +kernel) rfl)⟩
theorem vX8_242 : sm_V RX8 242 mX2_helpEachOther 2 4 := sm_vk kX2_helpEachOther (lw_gm 670 (by decide +kernel) rfl) (by decide +kernel)
theorem vX8_246 : sm_V RX8 246 mX4_wouldNod 3 2 := sm_vk kX4_wouldNod (lw_gm 683 (by decide +kernel) rfl) (by decide +kernel)
theorem vX8_249 : sm_S RX8 249 mX8_isTelling 2 := sm_sk kX8_isTelling (lw_gm 688 (by decide +kernel) rfl) (by decide +kernel)
theorem vX8_252 : sm_V RX8 252 mX8_takeTelling 7 3 := sm_vk kX8_takeTelling (lw_gm 691 (by decide +kernel) rfl) (by decide +kernel)
theorem vX8_255 : sm_V RX8 255 mX2_goesSo 2 4 := sm_vk kX2_goesSo (lw_gm 704 (by decide +kernel) rfl) (by decide +kernel)
theorem vX8_258 : sm_V RX8 258 mX7_stands 6 0 := sm_vk kX7_stands (lw_gm 717 (by decide +kernel) rfl) (by decide +kernel)
theorem vX8_261 : sm_V RX8 261 mX2_waysToNod 2 4 := sm_vk kX2_waysToNod (lw_gm 725 (by decide +kernel) rfl) (by decide +kernel)
theorem vX8_265 : sm_V RX8 265 mX2_waysInAll 2 0 := sm_vk kX2_waysInAll (lw_gm 733 (by decide +kernel) rfl) (by decide +kernel)
theorem vX8_268 : sm_S RX8 268 mX8_commonDivisor 2 := sm_sk kX8_commonDivisor (lw_gm 737 (by decide +kernel) rfl) (by decide +kernel)
theorem fX8_33 : sf_ok RX8 33 7 4 := ⟨RX8, TX8, 9, rfl, in_X8, by decide, by decide, (lw_gm 286 (by decide +kernel) rfl)⟩
theorem fX8_272 : sf_ok RX8 272 6 4 := ⟨RX7, TX7, 11, rfl, in_X7, by decide, by decide, (lw_gm 139 (by decide +kernel) rfl)⟩
theorem vX8_275 : sm_S RX8 275 mX3_isKind 1 := sm_sk kX3_isKind (lw_gm 758 (by decide +kernel) rfl) (by decide +kernel)
theorem vX8_280 : sm_S RX8 280 mX3_isOne 2 := sm_sk kX3_isOne (lw_gm 761 (by decide +kernel) rfl) (by decide +kernel)
theorem fX8_54 : sf_ok RX8 54 7 7 := ⟨RX8, TX8, 9, rfl, in_X8, by decide, by decide, (lw_gm 289 (by decide +kernel) rfl)⟩
theorem vX8_283 : sm_V RX8 283 mX1_answer 1 3 := sm_vk kX1_answer (lw_gm 774 (by decide +kernel) rfl) (by decide +kernel)
theorem vX8_286 : sm_V RX8 286 mX1_traceAt 1 1 := sm_vk kX1_traceAt (lw_gm 807 (by decide +kernel) rfl) (by decide +kernel)
theorem vX8_289 : sm_V RX8 289 mX6_present 5 0 := sm_vk kX6_present (lw_gm 816 (by decide +kernel) rfl) (by decide +kernel)
theorem fX8_292 : sf_ok RX8 292 6 0 := ⟨RX7, TX7, 11, rfl, in_X7, by decide, by decide, (lw_gm 126 (by decide +kernel) rfl)⟩
theorem fX8_295 : sf_ok RX8 295 6 1 := ⟨RX7, TX7, 11, rfl, in_X7, by decide, by decide, (lw_gm 129 (by decide +kernel) rfl)⟩
theorem vX8_298 : sm_V RX8 298 mX5_length 4 0 := sm_vk kX5_length (lw_gm 820 (by decide +kernel) rfl) (by decide +kernel)
theorem fX8_58 : sf_ok RX8 58 7 8 := ⟨RX8, TX8, 9, rfl, in_X8, by decide, by decide, (lw_gm 290 (by decide +kernel) rfl)⟩
theorem pX8_58 : sf_okp RX8 58 7 8 := ⟨RX8, TX8, 9, tyX8, rfl, in_X8, by decide, by decide, (lw_gm 290 (by decide +kernel) rfl), tyX8_ok, nmX8, rfl, rfl⟩
theorem qX8_301 : Cond.constant RX8 301 (Int32.ofInt (-1000010)) ∈ lw_g := (lw_gm 325 (by decide +kernel) rfl)
theorem vX8_302 : sm_V RX8 302 mX2_takeTelling 2 5 := sm_vk kX2_takeTelling (lw_gm 695 (by decide +kernel) rfl) (by decide +kernel)
theorem vX8_305 : sm_S RX8 305 mJ9_max_7cf53 2 := sm_sk kJ9_max_7cf53 (lw_gm 740 (by decide +kernel) rfl) (by decide +kernel)
theorem vX8_310 : sm_S RX8 310 mJ9_min_7cf53 2 := sm_sk kJ9_min_7cf53 (lw_gm 741 (by decide +kernel) rfl) (by decide +kernel)
theorem fX9_54 : sf_ok RX9 54 8 4 := ⟨RX9, TX9, 28, rfl, in_X9, by decide, by decide, (lw_gm 839 (by decide +kernel) rfl)⟩
theorem pX9_54 : sf_okp RX9 54 8 4 := ⟨RX9, TX9, 28, tyX9, rfl, in_X9, by decide, by decide, (lw_gm 839 (by decide +kernel) rfl), tyX9_ok, nmX9, rfl, rfl⟩
theorem qX9_58 : Cond.constant RX9 58 (Int32.ofInt (-1000010)) ∈ lw_g := (lw_gm 936 (by decide +kernel) rfl)
theorem vX9_59 : sm_S RX9 59 mX9_in 3 := sm_sk kX9_in (lw_gm 928 (by decide +kernel) rfl) (by decide +kernel)
theorem fX9_7 : sf_ok RX9 7 8 0 := ⟨RX9, TX9, 28, rfl, in_X9, by decide, by decide, (lw_gm 835 (by decide +kernel) rfl)⟩
theorem qX9_53 : Cond.constant RX9 53 (Int32.ofInt (-1000000)) ∈ lw_g := (lw_gm 834 (by decide +kernel) rfl)
theorem vX9_63 : sm_S RX9 63 mX9_isRow 1 := sm_sk kX9_isRow (lw_gm 925 (by decide +kernel) rfl) (by decide +kernel)
theorem qX9_67 : Cond.constant RX9 67 (Int32.ofInt (-1000001)) ∈ lw_g := (lw_gm 931 (by decide +kernel) rfl)
theorem vX9_68 : sm_V RX9 68 mX9_found 8 1 := sm_vk kX9_found (lw_gm 932 (by decide +kernel) rfl) (by decide +kernel)
theorem fX9_13 : sf_ok RX9 13 8 1 := ⟨RX9, TX9, 28, rfl, in_X9, by decide, by decide, (lw_gm 836 (by decide +kernel) rfl)⟩
theorem fX9_16 : sf_ok RX9 16 8 2 := ⟨RX9, TX9, 28, rfl, in_X9, by decide, by decide, (lw_gm 837 (by decide +kernel) rfl)⟩
theorem vX9_72 : sm_V RX9 72 mX9_well 8 1 := sm_vk kX9_well (lw_gm 937 (by decide +kernel) rfl) (by decide +kernel)
theorem vX9_75 : sm_V RX9 75 mX9_isMissing 8 1 := sm_vk kX9_isMissing (lw_gm 945 (by decide +kernel) rfl) (by decide +kernel)
theorem vX9_78 : sm_S RX9 78 mX9_cut 2 := sm_sk kX9_cut (lw_gm 949 (by decide +kernel) rfl) (by decide +kernel)
theorem vX9_82 : sm_V RX9 82 mX9_isPart 8 3 := sm_vk kX9_isPart (lw_gm 956 (by decide +kernel) rfl) (by decide +kernel)
theorem fX9_19 : sf_ok RX9 19 8 3 := ⟨RX9, TX9, 28, rfl, in_X9, by decide, by decide, (lw_gm 838 (by decide +kernel) rfl)⟩
theorem fX9_85 : sf_ok RX9 85 8 6 := ⟨RX9, TX9, 28, rfl, in_X9, by decide, by decide, (lw_gm 841 (by decide +kernel) rfl)⟩
theorem qX9_88 : Cond.constant RX9 88 (Int32.ofInt (-1000003)) ∈ lw_g := (lw_gm 968 (by decide +kernel) rfl)
theorem fX9_22 : sf_ok RX9 22 8 5 := ⟨RX9, TX9, 28, rfl, in_X9, by decide, by decide, (lw_gm 840 (by decide +kernel) rfl)⟩
theorem pX9_85 : sf_okp RX9 85 8 6 := ⟨RX9, TX9, 28, tyX9, rfl, in_X9, by decide, by decide, (lw_gm 841 (by decide +kernel) rfl), tyX9_ok, nmX9, rfl, rfl⟩
theorem fX9_89 : sf_ok RX9 89 8 9 := ⟨RX9, TX9, 28, rfl, in_X9, by decide, by decide, (lw_gm 844 (by decide +kernel) rfl)⟩
theorem fX9_92 : sf_ok RX9 92 8 10 := ⟨RX9, TX9, 28, rfl, in_X9, by decide, by decide, (lw_gm 845 (by decide +kernel) rfl)⟩
theorem pX9_92 : sf_okp RX9 92 8 10 := ⟨RX9, TX9, 28, tyX9, rfl, in_X9, by decide, by decide, (lw_gm 845 (by decide +kernel) rfl), tyX9_ok, nmX9, rfl, rfl⟩
theorem vX9_95 : sm_V RX9 95 mX9_byteAt 8 1 := sm_vk kX9_byteAt (lw_gm 977 (by decide +kernel) rfl) (by decide +kernel)
theorem fX9_98 : sf_ok RX9 98 8 12 := ⟨RX9, TX9, 28, rfl, in_X9, by decide, by decide, (lw_gm 847 (by decide +kernel) rfl)⟩
theorem pX9_98 : sf_okp RX9 98 8 12 := ⟨RX9, TX9, 28, tyX9, rfl, in_X9, by decide, by decide, (lw_gm 847 (by decide +kernel) rfl), tyX9_ok, nmX9, rfl, rfl⟩
theorem pX9_89 : sf_okp RX9 89 8 9 := ⟨RX9, TX9, 28, tyX9, rfl, in_X9, by decide, by decide, (lw_gm 844 (by decide +kernel) rfl), tyX9_ok, nmX9, rfl, rfl⟩
theorem fX9_101 : sf_ok RX9 101 8 11 := ⟨RX9, TX9, 28, rfl, in_X9, by decide, by decide, (lw_gm 846 (by decide +kernel) rfl)⟩
theorem pX9_101 : sf_okp RX9 101 8 11 := ⟨RX9, TX9, 28, tyX9, rfl, in_X9, by decide, by decide, (lw_gm 846 (by decide +kernel) rfl), tyX9_ok, nmX9, rfl, rfl⟩
theorem fX9_104 : sf_ok RX9 104 8 8 := ⟨RX9, TX9, 28, rfl, in_X9, by decide, by decide, (lw_gm 843 (by decide +kernel) rfl)⟩
theorem vX9_107 : sm_V RX9 107 mX9_isWell 8 0 := sm_vk kX9_isWell (lw_gm 985 (by decide +kernel) rfl) (by decide +kernel)
theorem pX9_104 : sf_okp RX9 104 8 8 := ⟨RX9, TX9, 28, tyX9, rfl, in_X9, by decide, by decide, (lw_gm 843 (by decide +kernel) rfl), tyX9_ok, nmX9, rfl, rfl⟩
theorem fX9_111 : sf_ok RX9 111 8 7 := ⟨RX9, TX9, 28, rfl, in_X9, by decide, by decide, (lw_gm 842 (by decide +kernel) rfl)⟩
theorem pX9_111 : sf_okp RX9 111 8 7 := ⟨RX9, TX9, 28, tyX9, rfl, in_X9, by decide, by decide, (lw_gm 842 (by decide +kernel) rfl), tyX9_ok, nmX9, rfl, rfl⟩
theorem vX9_114 : sm_V RX9 114 mX9_advances 8 0 := sm_vk kX9_advances (lw_gm 973 (by decide +kernel) rfl) (by decide +kernel)
theorem vX9_117 : sm_V RX9 117 mX9_takes 8 2 := sm_vk kX9_takes (lw_gm 981 (by decide +kernel) rfl) (by decide +kernel)
theorem vX9_121 : sm_V RX9 121 mX9_figure 8 2 := sm_vk kX9_figure (lw_gm 989 (by decide +kernel) rfl) (by decide +kernel)
theorem vX9_124 : sm_S RX9 124 mX9_kindOf 1 := sm_sk kX9_kindOf (lw_gm 993 (by decide +kernel) rfl) (by decide +kernel)
theorem fX9_28 : sf_ok RX9 28 8 14 := ⟨RX9, TX9, 28, rfl, in_X9, by decide, by decide, (lw_gm 849 (by decide +kernel) rfl)⟩
theorem vX9_127 : sm_V RX9 127 mX9_next 8 2 := sm_vk kX9_next (lw_gm 1000 (by decide +kernel) rfl) (by decide +kernel)
theorem vX9_130 : sm_V RX9 130 mX9_readsLie 8 0 := sm_vk kX9_readsLie (lw_gm 996 (by decide +kernel) rfl) (by decide +kernel)
theorem vX9_133 : sm_V RX9 133 mX9_readsStranger 8 0 := sm_vk kX9_readsStranger (lw_gm 1004 (by decide +kernel) rfl) (by decide +kernel)
theorem qX9_136 : Cond.constant RX9 136 (Int32.ofInt (-1000100)) ∈ lw_g := (lw_gm 1008 (by decide +kernel) rfl)
theorem fX9_25 : sf_ok RX9 25 8 13 := ⟨RX9, TX9, 28, rfl, in_X9, by decide, by decide, (lw_gm 848 (by decide +kernel) rfl)⟩
theorem vX9_137 : sm_S RX9 137 mX9_copies 4 := sm_sk kX9_copies (lw_gm 1009 (by decide +kernel) rfl) (by decide +kernel)
theorem fX9_141 : sf_ok RX9 141 8 16 := ⟨RX9, TX9, 28, rfl, in_X9, by decide, by decide, (lw_gm 851 (by decide +kernel) rfl)⟩
theorem pX9_141 : sf_okp RX9 141 8 16 := ⟨RX9, TX9, 28, tyX9, rfl, in_X9, by decide, by decide, (lw_gm 851 (by decide +kernel) rfl), tyX9_ok, nmX9, rfl, rfl⟩
theorem fX9_144 : sf_ok RX9 144 8 21 := ⟨RX9, TX9, 28, rfl, in_X9, by decide, by decide, (lw_gm 856 (by decide +kernel) rfl)⟩
theorem pX9_144 : sf_okp RX9 144 8 21 := ⟨RX9, TX9, 28, tyX9, rfl, in_X9, by decide, by decide, (lw_gm 856 (by decide +kernel) rfl), tyX9_ok, nmX9, rfl, rfl⟩
theorem fX9_147 : sf_ok RX9 147 8 22 := ⟨RX9, TX9, 28, rfl, in_X9, by decide, by decide, (lw_gm 857 (by decide +kernel) rfl)⟩
theorem pX9_147 : sf_okp RX9 147 8 22 := ⟨RX9, TX9, 28, tyX9, rfl, in_X9, by decide, by decide, (lw_gm 857 (by decide +kernel) rfl), tyX9_ok, nmX9, rfl, rfl⟩
theorem vX9_150 : sm_S RX9 150 mX9_ones 1 := sm_sk kX9_ones (lw_gm 1044 (by decide +kernel) rfl) (by decide +kernel)
theorem fX9_153 : sf_ok RX9 153 8 23 := ⟨RX9, TX9, 28, rfl, in_X9, by decide, by decide, (lw_gm 858 (by decide +kernel) rfl)⟩
theorem pX9_153 : sf_okp RX9 153 8 23 := ⟨RX9, TX9, 28, tyX9, rfl, in_X9, by decide, by decide, (lw_gm 858 (by decide +kernel) rfl), tyX9_ok, nmX9, rfl, rfl⟩
theorem fX9_44 : sf_ok RX9 44 8 24 := ⟨RX9, TX9, 28, rfl, in_X9, by decide, by decide, (lw_gm 859 (by decide +kernel) rfl)⟩
theorem vX9_156 : sm_S RX9 156 mX9_has 2 := sm_sk kX9_has (lw_gm 1032 (by decide +kernel) rfl) (by decide +kernel)
theorem vX9_160 : sm_V RX9 160 mX9_needs 8 1 := sm_vk kX9_needs (lw_gm 1051 (by decide +kernel) rfl) (by decide +kernel)
theorem fX9_31 : sf_ok RX9 31 8 15 := ⟨RX9, TX9, 28, rfl, in_X9, by decide, by decide, (lw_gm 850 (by decide +kernel) rfl)⟩
theorem vX9_163 : sm_V RX9 163 mX9_isStranger 8 1 := sm_vk kX9_isStranger (lw_gm 1020 (by decide +kernel) rfl) (by decide +kernel)
theorem vX9_166 : sm_V RX9 166 mX9_isLie 8 1 := sm_vk kX9_isLie (lw_gm 1024 (by decide +kernel) rfl) (by decide +kernel)
theorem vX9_169 : sm_V RX9 169 mX9_wasTold 8 2 := sm_vk kX9_wasTold (lw_gm 1028 (by decide +kernel) rfl) (by decide +kernel)
theorem qX9_172 : Cond.constant RX9 172 (Int32.ofInt (-1000002)) ∈ lw_g := (lw_gm 1035 (by decide +kernel) rfl)
theorem vX9_173 : sm_V RX9 173 mX9_notes 8 0 := sm_vk kX9_notes (lw_gm 1036 (by decide +kernel) rfl) (by decide +kernel)
theorem vX9_176 : sm_V RX9 176 mX9_tries 8 1 := sm_vk kX9_tries (lw_gm 1040 (by decide +kernel) rfl) (by decide +kernel)
theorem vX9_180 : sm_V RX9 180 mX9_wouldNod 8 1 := sm_vk kX9_wouldNod (lw_gm 1047 (by decide +kernel) rfl) (by decide +kernel)
theorem vX9_183 : sm_V RX9 183 mX9_hears 8 2 := sm_vk kX9_hears (lw_gm 1055 (by decide +kernel) rfl) (by decide +kernel)
theorem vX9_187 : sm_V RX9 187 mX9_strangersWith 8 2 := sm_vk kX9_strangersWith (lw_gm 1075 (by decide +kernel) rfl) (by decide +kernel)
theorem vX9_190 : sm_V RX9 190 mX9_noddedAt 8 1 := sm_vk kX9_noddedAt (lw_gm 1079 (by decide +kernel) rfl) (by decide +kernel)
theorem vX9_193 : sm_V RX9 193 mX9_untold 8 1 := sm_vk kX9_untold (lw_gm 1095 (by decide +kernel) rfl) (by decide +kernel)
theorem fX9_47 : sf_ok RX9 47 8 25 := ⟨RX9, TX9, 28, rfl, in_X9, by decide, by decide, (lw_gm 860 (by decide +kernel) rfl)⟩
theorem vX9_196 : sm_V RX9 196 mX9_fills 8 4 := sm_vk kX9_fills (lw_gm 1103 (by decide +kernel) rfl) (by decide +kernel)
theorem fX9_200 : sf_ok RX9 200 8 27 := ⟨RX9, TX9, 28, rfl, in_X9, by decide, by decide, (lw_gm 862 (by decide +kernel) rfl)⟩
theorem pX9_200 : sf_okp RX9 200 8 27 := ⟨RX9, TX9, 28, tyX9, rfl, in_X9, by decide, by decide, (lw_gm 862 (by decide +kernel) rfl), tyX9_ok, nmX9, rfl, rfl⟩
theorem vX9_203 : sm_V RX9 203 mX9_nodsAt 8 2 := sm_vk kX9_nodsAt (lw_gm 1107 (by decide +kernel) rfl) (by decide +kernel)
theorem fX9_50 : sf_ok RX9 50 8 26 := ⟨RX9, TX9, 28, rfl, in_X9, by decide, by decide, (lw_gm 861 (by decide +kernel) rfl)⟩
theorem vX9_206 : sm_V RX9 206 mX9_goesOn 8 2 := sm_vk kX9_goesOn (lw_gm 1111 (by decide +kernel) rfl) (by decide +kernel)
theorem vX9_209 : sm_V RX9 209 mX9_aheadOf 8 2 := sm_vk kX9_aheadOf (lw_gm 1119 (by decide +kernel) rfl) (by decide +kernel)
theorem vX9_212 : sm_V RX9 212 mX9_helps 8 3 := sm_vk kX9_helps (lw_gm 1131 (by decide +kernel) rfl) (by decide +kernel)
theorem vX9_215 : sm_V RX9 215 mX9_wrongIn 8 3 := sm_vk kX9_wrongIn (lw_gm 1143 (by decide +kernel) rfl) (by decide +kernel)
theorem vX9_219 : sm_V RX9 219 mX9_goesSo 8 2 := sm_vk kX9_goesSo (lw_gm 1147 (by decide +kernel) rfl) (by decide +kernel)
theorem vX9_222 : sm_V RX9 222 mX9_isTown 8 0 := sm_vk kX9_isTown (lw_gm 1159 (by decide +kernel) rfl) (by decide +kernel)
theorem qX9_225 : Cond.constantLong RX9 225 (Int64.ofInt (10)) ∈ lw_g := (lw_gm 1167 (by decide +kernel) rfl)
theorem vX9_227 : sm_V RX9 227 mX9_goesBy 8 5 := sm_vk kX9_goesBy (lw_gm 1168 (by decide +kernel) rfl) (by decide +kernel)
theorem fX9_34 : sf_ok RX9 34 8 17 := ⟨RX9, TX9, 28, rfl, in_X9, by decide, by decide, (lw_gm 852 (by decide +kernel) rfl)⟩
theorem fX9_37 : sf_ok RX9 37 8 18 := ⟨RX9, TX9, 28, rfl, in_X9, by decide, by decide, (lw_gm 853 (by decide +kernel) rfl)⟩
theorem vX9_231 : sm_V RX9 231 mX9_kindIn 8 1 := sm_vk kX9_kindIn (lw_gm 1184 (by decide +kernel) rfl) (by decide +kernel)
theorem fX9_234 : sf_ok RX9 234 8 20 := ⟨RX9, TX9, 28, rfl, in_X9, by decide, by decide, (lw_gm 855 (by decide +kernel) rfl)⟩
theorem fX9_41 : sf_ok RX9 41 8 19 := ⟨RX9, TX9, 28, rfl, in_X9, by decide, by decide, (lw_gm 854 (by decide +kernel) rfl)⟩
theorem pX9_234 : sf_okp RX9 234 8 20 := ⟨RX9, TX9, 28, tyX9, rfl, in_X9, by decide, by decide, (lw_gm 855 (by decide +kernel) rfl), tyX9_ok, nmX9, rfl, rfl⟩
theorem vX9_237 : sm_V RX9 237 mX9_begins 8 1 := sm_vk kX9_begins (lw_gm 1200 (by decide +kernel) rfl) (by decide +kernel)
theorem vX9_240 : sm_V RX9 240 mX9_easyMark 8 1 := sm_vk kX9_easyMark (lw_gm 1208 (by decide +kernel) rfl) (by decide +kernel)
theorem vX9_243 : sm_V RX9 243 mX9_proofSize 8 1 := sm_vk kX9_proofSize (lw_gm 1196 (by decide +kernel) rfl) (by decide +kernel)
theorem vX9_246 : sm_V RX9 246 mX9_easySize 8 1 := sm_vk kX9_easySize (lw_gm 1204 (by decide +kernel) rfl) (by decide +kernel)
theorem vX9_249 : sm_V RX9 249 mX9_proofMark 8 1 := sm_vk kX9_proofMark (lw_gm 1212 (by decide +kernel) rfl) (by decide +kernel)
theorem qJ6_265 : Cond.constant RJ6 265 (Int32.ofInt (1431655765)) ∈ lw_g := (lw_gm 503 (by decide +kernel) rfl)
theorem qJ6_266 : Cond.constant RJ6 266 (Int32.ofInt (858993459)) ∈ lw_g := (lw_gm 504 (by decide +kernel) rfl)
theorem qJ6_267 : Cond.constant RJ6 267 (Int32.ofInt (252645135)) ∈ lw_g := (lw_gm 505 (by decide +kernel) rfl)
theorem vL_13 : sm_V RL 13 mX8_row 7 3 := sm_vk kX8_row (lw_gm 310 (by decide +kernel) rfl) (by decide +kernel)
theorem vL_17 : sm_V RL 17 mX9_row 8 3 := sm_vk kX9_row (lw_gm 921 (by decide +kernel) rfl) (by decide +kernel)
theorem vL_18 : sm_V RL 18 mX8_set 7 3 := sm_vk kX8_set (lw_gm 334 (by decide +kernel) rfl) (by decide +kernel)
theorem vL_21 : sm_V RL 21 mX9_set 8 3 := sm_vk kX9_set (lw_gm 941 (by decide +kernel) rfl) (by decide +kernel)
theorem vL_22 : sm_V RL 22 mX8_copy 7 5 := sm_vk kX8_copy (lw_gm 353 (by decide +kernel) rfl) (by decide +kernel)
theorem vL_26 : sm_V RL 26 mX9_copy 8 5 := sm_vk kX9_copy (lw_gm 952 (by decide +kernel) rfl) (by decide +kernel)
theorem vL_27 : sm_V RL 27 mX8_drop 7 1 := sm_vk kX8_drop (lw_gm 368 (by decide +kernel) rfl) (by decide +kernel)
theorem vL_31 : sm_V RL 31 mX9_drop 8 1 := sm_vk kX9_drop (lw_gm 960 (by decide +kernel) rfl) (by decide +kernel)
theorem vL_32 : sm_V RL 32 mX8_feed 7 1 := sm_vk kX8_feed (lw_gm 376 (by decide +kernel) rfl) (by decide +kernel)
theorem vL_35 : sm_V RL 35 mX9_feed 8 1 := sm_vk kX9_feed (lw_gm 964 (by decide +kernel) rfl) (by decide +kernel)
theorem vL_36 : sm_V RL 36 mX8_town 7 0 := sm_vk kX8_town (lw_gm 389 (by decide +kernel) rfl) (by decide +kernel)
theorem vL_40 : sm_V RL 40 mX9_town 8 0 := sm_vk kX9_town (lw_gm 969 (by decide +kernel) rfl) (by decide +kernel)
theorem vL_41 : sm_V RL 41 mX8_fault 7 0 := sm_vk kX8_fault (lw_gm 460 (by decide +kernel) rfl) (by decide +kernel)
theorem vL_44 : sm_V RL 44 mX9_fault 8 0 := sm_vk kX9_fault (lw_gm 1012 (by decide +kernel) rfl) (by decide +kernel)
theorem vL_45 : sm_V RL 45 mX8_tell 7 2 := sm_vk kX8_tell (lw_gm 468 (by decide +kernel) rfl) (by decide +kernel)
theorem vL_49 : sm_V RL 49 mX9_tell 8 2 := sm_vk kX9_tell (lw_gm 1016 (by decide +kernel) rfl) (by decide +kernel)
theorem vL_50 : sm_V RL 50 mX8_supper 7 1 := sm_vk kX8_supper (lw_gm 534 (by decide +kernel) rfl) (by decide +kernel)
theorem vL_53 : sm_V RL 53 mX9_supper 8 1 := sm_vk kX9_supper (lw_gm 1059 (by decide +kernel) rfl) (by decide +kernel)
theorem vL_54 : sm_V RL 54 mX8_forget 7 2 := sm_vk kX8_forget (lw_gm 546 (by decide +kernel) rfl) (by decide +kernel)
theorem vL_57 : sm_V RL 57 mX9_forget 8 2 := sm_vk kX9_forget (lw_gm 1063 (by decide +kernel) rfl) (by decide +kernel)
theorem vL_58 : sm_V RL 58 mX8_undo 7 0 := sm_vk kX8_undo (lw_gm 555 (by decide +kernel) rfl) (by decide +kernel)
theorem vL_61 : sm_V RL 61 mX9_undo 8 0 := sm_vk kX9_undo (lw_gm 1067 (by decide +kernel) rfl) (by decide +kernel)
theorem vL_62 : sm_V RL 62 mX8_lie 7 2 := sm_vk kX8_lie (lw_gm 567 (by decide +kernel) rfl) (by decide +kernel)
theorem vL_65 : sm_V RL 65 mX9_lie 8 2 := sm_vk kX9_lie (lw_gm 1071 (by decide +kernel) rfl) (by decide +kernel)
theorem vL_66 : sm_V RL 66 mX8_stranger 7 2 := sm_vk kX8_stranger (lw_gm 575 (by decide +kernel) rfl) (by decide +kernel)
theorem vL_69 : sm_V RL 69 mX9_stranger 8 2 := sm_vk kX9_stranger (lw_gm 1083 (by decide +kernel) rfl) (by decide +kernel)
theorem vL_70 : sm_V RL 70 mX8_need 7 2 := sm_vk kX8_need (lw_gm 579 (by decide +kernel) rfl) (by decide +kernel)
theorem vL_73 : sm_V RL 73 mX9_need 8 2 := sm_vk kX9_need (lw_gm 1087 (by decide +kernel) rfl) (by decide +kernel)
theorem vL_74 : sm_V RL 74 mX8_nods 7 1 := sm_vk kX8_nods (lw_gm 584 (by decide +kernel) rfl) (by decide +kernel)
theorem vL_77 : sm_V RL 77 mX9_nods 8 1 := sm_vk kX9_nods (lw_gm 1091 (by decide +kernel) rfl) (by decide +kernel)
theorem vL_78 : sm_V RL 78 mX8_order 7 3 := sm_vk kX8_order (lw_gm 598 (by decide +kernel) rfl) (by decide +kernel)
theorem vL_81 : sm_V RL 81 mX9_order 8 3 := sm_vk kX9_order (lw_gm 1099 (by decide +kernel) rfl) (by decide +kernel)
theorem vL_82 : sm_V RL 82 mX8_comesIn 7 3 := sm_vk kX8_comesIn (lw_gm 637 (by decide +kernel) rfl) (by decide +kernel)
theorem vL_85 : sm_V RL 85 mX9_comesIn 8 3 := sm_vk kX9_comesIn (lw_gm 1115 (by decide +kernel) rfl) (by decide +kernel)
theorem vL_86 : sm_V RL 86 mX8_dead 7 1 := sm_vk kX8_dead (lw_gm 654 (by decide +kernel) rfl) (by decide +kernel)
theorem vL_89 : sm_V RL 89 mX9_dead 8 1 := sm_vk kX9_dead (lw_gm 1123 (by decide +kernel) rfl) (by decide +kernel)
theorem vL_90 : sm_V RL 90 mX8_help 7 2 := sm_vk kX8_help (lw_gm 666 (by decide +kernel) rfl) (by decide +kernel)
theorem vL_93 : sm_V RL 93 mX9_help 8 2 := sm_vk kX9_help (lw_gm 1127 (by decide +kernel) rfl) (by decide +kernel)
theorem vL_94 : sm_V RL 94 mX8_suppers 7 2 := sm_vk kX8_suppers (lw_gm 679 (by decide +kernel) rfl) (by decide +kernel)
theorem vL_97 : sm_V RL 97 mX9_suppers 8 2 := sm_vk kX9_suppers (lw_gm 1135 (by decide +kernel) rfl) (by decide +kernel)
theorem vL_98 : sm_V RL 98 mX8_doubted 7 5 := sm_vk kX8_doubted (lw_gm 684 (by decide +kernel) rfl) (by decide +kernel)
theorem vL_101 : sm_V RL 101 mX9_doubted 8 5 := sm_vk kX9_doubted (lw_gm 1139 (by decide +kernel) rfl) (by decide +kernel)
theorem vL_102 : sm_V RL 102 mX8_trusted 7 4 := sm_vk kX8_trusted (lw_gm 709 (by decide +kernel) rfl) (by decide +kernel)
theorem vL_106 : sm_V RL 106 mX9_trusted 8 4 := sm_vk kX9_trusted (lw_gm 1151 (by decide +kernel) rfl) (by decide +kernel)
theorem vL_107 : sm_V RL 107 mX8_who 7 3 := sm_vk kX8_who (lw_gm 713 (by decide +kernel) rfl) (by decide +kernel)
theorem vL_110 : sm_V RL 110 mX9_who 8 3 := sm_vk kX9_who (lw_gm 1155 (by decide +kernel) rfl) (by decide +kernel)
theorem vL_111 : sm_V RL 111 mX8_odds 7 7 := sm_vk kX8_odds (lw_gm 721 (by decide +kernel) rfl) (by decide +kernel)
theorem vL_115 : sm_V RL 115 mX9_odds 8 7 := sm_vk kX9_odds (lw_gm 1163 (by decide +kernel) rfl) (by decide +kernel)
theorem vL_116 : sm_V RL 116 mX8_image 7 1 := sm_vk kX8_image (lw_gm 742 (by decide +kernel) rfl) (by decide +kernel)
theorem vL_119 : sm_V RL 119 mX9_image 8 1 := sm_vk kX9_image (lw_gm 1172 (by decide +kernel) rfl) (by decide +kernel)
theorem vL_120 : sm_V RL 120 mX8_restore 7 1 := sm_vk kX8_restore (lw_gm 746 (by decide +kernel) rfl) (by decide +kernel)
theorem vL_123 : sm_V RL 123 mX9_restore 8 1 := sm_vk kX9_restore (lw_gm 1176 (by decide +kernel) rfl) (by decide +kernel)
theorem vL_124 : sm_V RL 124 mX8_kind 7 1 := sm_vk kX8_kind (lw_gm 750 (by decide +kernel) rfl) (by decide +kernel)
theorem vL_127 : sm_V RL 127 mX9_kind 8 1 := sm_vk kX9_kind (lw_gm 1180 (by decide +kernel) rfl) (by decide +kernel)
theorem vL_128 : sm_V RL 128 mX8_as 7 2 := sm_vk kX8_as (lw_gm 754 (by decide +kernel) rfl) (by decide +kernel)
theorem vL_131 : sm_V RL 131 mX9_as 8 2 := sm_vk kX9_as (lw_gm 1188 (by decide +kernel) rfl) (by decide +kernel)
theorem vL_132 : sm_V RL 132 mX8_ask 7 2 := sm_vk kX8_ask (lw_gm 770 (by decide +kernel) rfl) (by decide +kernel)
theorem vL_135 : sm_V RL 135 mX9_ask 8 2 := sm_vk kX9_ask (lw_gm 1192 (by decide +kernel) rfl) (by decide +kernel)
theorem vL_136 : sm_V RL 136 mX8_trace 7 1 := sm_vk kX8_trace (lw_gm 803 (by decide +kernel) rfl) (by decide +kernel)
theorem vL_139 : sm_V RL 139 mX9_trace 8 1 := sm_vk kX9_trace (lw_gm 1216 (by decide +kernel) rfl) (by decide +kernel)
theorem vL_140 : sm_V RL 140 mX8_count 7 1 := sm_vk kX8_count (lw_gm 812 (by decide +kernel) rfl) (by decide +kernel)
theorem vL_143 : sm_V RL 143 mX9_count 8 1 := sm_vk kX9_count (lw_gm 1220 (by decide +kernel) rfl) (by decide +kernel)
theorem vL_144 : sm_V RL 144 mX8_status 7 0 := sm_vk kX8_status (lw_gm 824 (by decide +kernel) rfl) (by decide +kernel)
theorem vL_147 : sm_V RL 147 mX9_status 8 0 := sm_vk kX9_status (lw_gm 1224 (by decide +kernel) rfl) (by decide +kernel)
section VA_
variable {g : SG_} {d : Nat} {M : MD_} {pc q : Nat} {ls : List (Option SV_)} {rest : List SV_} {h : SH_} {Post : Option SV_ → SH_ → Prop} {Y : MD_} {idx c : Nat} {k : Int}
theorem vr_iv0 (hd : decode M.2.1 pc = .ok (.invokevirtual idx, 3)) (hq : pc + 3 = q) (hc : sm_V M.1.cls idx Y c 0) (hW : (rest.map sv_c).sum ≤ 8) (hC : Ctr_ g d Y (sv_r 4 c k :: []) h (fun r h' => V_ g (d + 1) M q ls (so_p r rest) h' Post)) : V_ g (d + 1) M pc ls (sv_r 4 c k :: rest) h Post := V_iv (as := []) hd hq hc rfl rfl hW hC
theorem vr_is0 (hd : decode M.2.1 pc = .ok (.invokestatic idx, 3)) (hq : pc + 3 = q) (hc : sm_S M.1.cls idx Y 0) (hW : (rest.map sv_c).sum ≤ 8) (hC : Ctr_ g d Y [] h (fun r h' => V_ g (d + 1) M q ls (so_p r rest) h' Post)) : V_ g (d + 1) M pc ls (rest) h Post := V_is (as := []) hd hq hc rfl rfl hW hC
theorem vr_iv1 {a0 : SV_} (hd : decode M.2.1 pc = .ok (.invokevirtual idx, 3)) (hq : pc + 3 = q) (hc : sm_V M.1.cls idx Y c 1) (hW : (rest.map sv_c).sum ≤ 8) (hC : Ctr_ g d Y (sv_r 4 c k :: [a0]) h (fun r h' => V_ g (d + 1) M q ls (so_p r rest) h' Post)) : V_ g (d + 1) M pc ls (a0 :: sv_r 4 c k :: rest) h Post := V_iv (as := [a0]) hd hq hc rfl rfl hW hC
theorem vr_is1 {a0 : SV_} (hd : decode M.2.1 pc = .ok (.invokestatic idx, 3)) (hq : pc + 3 = q) (hc : sm_S M.1.cls idx Y 1) (hW : (rest.map sv_c).sum ≤ 8) (hC : Ctr_ g d Y [a0] h (fun r h' => V_ g (d + 1) M q ls (so_p r rest) h' Post)) : V_ g (d + 1) M pc ls (a0 :: rest) h Post := V_is (as := [a0]) hd hq hc rfl rfl hW hC
theorem vr_iv2 {a0 a1 : SV_} (hd : decode M.2.1 pc = .ok (.invokevirtual idx, 3)) (hq : pc + 3 = q) (hc : sm_V M.1.cls idx Y c 2) (hW : (rest.map sv_c).sum ≤ 8) (hC : Ctr_ g d Y (sv_r 4 c k :: [a0, a1]) h (fun r h' => V_ g (d + 1) M q ls (so_p r rest) h' Post)) : V_ g (d + 1) M pc ls (a1 :: a0 :: sv_r 4 c k :: rest) h Post := V_iv (as := [a0, a1]) hd hq hc rfl rfl hW hC
theorem vr_is2 {a0 a1 : SV_} (hd : decode M.2.1 pc = .ok (.invokestatic idx, 3)) (hq : pc + 3 = q) (hc : sm_S M.1.cls idx Y 2) (hW : (rest.map sv_c).sum ≤ 8) (hC : Ctr_ g d Y [a0, a1] h (fun r h' => V_ g (d + 1) M q ls (so_p r rest) h' Post)) : V_ g (d + 1) M pc ls (a1 :: a0 :: rest) h Post := V_is (as := [a0, a1]) hd hq hc rfl rfl hW hC
theorem vr_iv3 {a0 a1 a2 : SV_} (hd : decode M.2.1 pc = .ok (.invokevirtual idx, 3)) (hq : pc + 3 = q) (hc : sm_V M.1.cls idx Y c 3) (hW : (rest.map sv_c).sum ≤ 8) (hC : Ctr_ g d Y (sv_r 4 c k :: [a0, a1, a2]) h (fun r h' => V_ g (d + 1) M q ls (so_p r rest) h' Post)) : V_ g (d + 1) M pc ls (a2 :: a1 :: a0 :: sv_r 4 c k :: rest) h Post := V_iv (as := [a0, a1, a2]) hd hq hc rfl rfl hW hC
theorem vr_is3 {a0 a1 a2 : SV_} (hd : decode M.2.1 pc = .ok (.invokestatic idx, 3)) (hq : pc + 3 = q) (hc : sm_S M.1.cls idx Y 3) (hW : (rest.map sv_c).sum ≤ 8) (hC : Ctr_ g d Y [a0, a1, a2] h (fun r h' => V_ g (d + 1) M q ls (so_p r rest) h' Post)) : V_ g (d + 1) M pc ls (a2 :: a1 :: a0 :: rest) h Post := V_is (as := [a0, a1, a2]) hd hq hc rfl rfl hW hC
theorem vr_iv4 {a0 a1 a2 a3 : SV_} (hd : decode M.2.1 pc = .ok (.invokevirtual idx, 3)) (hq : pc + 3 = q) (hc : sm_V M.1.cls idx Y c 4) (hW : (rest.map sv_c).sum ≤ 8) (hC : Ctr_ g d Y (sv_r 4 c k :: [a0, a1, a2, a3]) h (fun r h' => V_ g (d + 1) M q ls (so_p r rest) h' Post)) : V_ g (d + 1) M pc ls (a3 :: a2 :: a1 :: a0 :: sv_r 4 c k :: rest) h Post := V_iv (as := [a0, a1, a2, a3]) hd hq hc rfl rfl hW hC
theorem vr_is4 {a0 a1 a2 a3 : SV_} (hd : decode M.2.1 pc = .ok (.invokestatic idx, 3)) (hq : pc + 3 = q) (hc : sm_S M.1.cls idx Y 4) (hW : (rest.map sv_c).sum ≤ 8) (hC : Ctr_ g d Y [a0, a1, a2, a3] h (fun r h' => V_ g (d + 1) M q ls (so_p r rest) h' Post)) : V_ g (d + 1) M pc ls (a3 :: a2 :: a1 :: a0 :: rest) h Post := V_is (as := [a0, a1, a2, a3]) hd hq hc rfl rfl hW hC
theorem vr_iv5 {a0 a1 a2 a3 a4 : SV_} (hd : decode M.2.1 pc = .ok (.invokevirtual idx, 3)) (hq : pc + 3 = q) (hc : sm_V M.1.cls idx Y c 5) (hW : (rest.map sv_c).sum ≤ 8) (hC : Ctr_ g d Y (sv_r 4 c k :: [a0, a1, a2, a3, a4]) h (fun r h' => V_ g (d + 1) M q ls (so_p r rest) h' Post)) : V_ g (d + 1) M pc ls (a4 :: a3 :: a2 :: a1 :: a0 :: sv_r 4 c k :: rest) h Post := V_iv (as := [a0, a1, a2, a3, a4]) hd hq hc rfl rfl hW hC
theorem vr_is5 {a0 a1 a2 a3 a4 : SV_} (hd : decode M.2.1 pc = .ok (.invokestatic idx, 3)) (hq : pc + 3 = q) (hc : sm_S M.1.cls idx Y 5) (hW : (rest.map sv_c).sum ≤ 8) (hC : Ctr_ g d Y [a0, a1, a2, a3, a4] h (fun r h' => V_ g (d + 1) M q ls (so_p r rest) h' Post)) : V_ g (d + 1) M pc ls (a4 :: a3 :: a2 :: a1 :: a0 :: rest) h Post := V_is (as := [a0, a1, a2, a3, a4]) hd hq hc rfl rfl hW hC
theorem vr_iv6 {a0 a1 a2 a3 a4 a5 : SV_} (hd : decode M.2.1 pc = .ok (.invokevirtual idx, 3)) (hq : pc + 3 = q) (hc : sm_V M.1.cls idx Y c 6) (hW : (rest.map sv_c).sum ≤ 8) (hC : Ctr_ g d Y (sv_r 4 c k :: [a0, a1, a2, a3, a4, a5]) h (fun r h' => V_ g (d + 1) M q ls (so_p r rest) h' Post)) : V_ g (d + 1) M pc ls (a5 :: a4 :: a3 :: a2 :: a1 :: a0 :: sv_r 4 c k :: rest) h Post := V_iv (as := [a0, a1, a2, a3, a4, a5]) hd hq hc rfl rfl hW hC
theorem vr_is6 {a0 a1 a2 a3 a4 a5 : SV_} (hd : decode M.2.1 pc = .ok (.invokestatic idx, 3)) (hq : pc + 3 = q) (hc : sm_S M.1.cls idx Y 6) (hW : (rest.map sv_c).sum ≤ 8) (hC : Ctr_ g d Y [a0, a1, a2, a3, a4, a5] h (fun r h' => V_ g (d + 1) M q ls (so_p r rest) h' Post)) : V_ g (d + 1) M pc ls (a5 :: a4 :: a3 :: a2 :: a1 :: a0 :: rest) h Post := V_is (as := [a0, a1, a2, a3, a4, a5]) hd hq hc rfl rfl hW hC
theorem vr_iv7 {a0 a1 a2 a3 a4 a5 a6 : SV_} (hd : decode M.2.1 pc = .ok (.invokevirtual idx, 3)) (hq : pc + 3 = q) (hc : sm_V M.1.cls idx Y c 7) (hW : (rest.map sv_c).sum ≤ 8) (hC : Ctr_ g d Y (sv_r 4 c k :: [a0, a1, a2, a3, a4, a5, a6]) h (fun r h' => V_ g (d + 1) M q ls (so_p r rest) h' Post)) : V_ g (d + 1) M pc ls (a6 :: a5 :: a4 :: a3 :: a2 :: a1 :: a0 :: sv_r 4 c k :: rest) h Post := V_iv (as := [a0, a1, a2, a3, a4, a5, a6]) hd hq hc rfl rfl hW hC
theorem vr_is7 {a0 a1 a2 a3 a4 a5 a6 : SV_} (hd : decode M.2.1 pc = .ok (.invokestatic idx, 3)) (hq : pc + 3 = q) (hc : sm_S M.1.cls idx Y 7) (hW : (rest.map sv_c).sum ≤ 8) (hC : Ctr_ g d Y [a0, a1, a2, a3, a4, a5, a6] h (fun r h' => V_ g (d + 1) M q ls (so_p r rest) h' Post)) : V_ g (d + 1) M pc ls (a6 :: a5 :: a4 :: a3 :: a2 :: a1 :: a0 :: rest) h Post := V_is (as := [a0, a1, a2, a3, a4, a5, a6]) hd hq hc rfl rfl hW hC
end VA_
