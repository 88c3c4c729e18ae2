/-! printed: the law's methods, decoded: the rest -/
theorem dL_cell_0 : decode cL_cell 0 = .ok (.iload_n 1, 1) := by decide +kernel
theorem dL_cell_1 : decode cL_cell 1 = .ok (.aload_n 0, 1) := by decide +kernel
theorem dL_cell_2 : decode cL_cell 2 = .ok (.arraylength, 1) := by decide +kernel
theorem dL_cell_3 : decode cL_cell 3 = .ok (.if_icmp .ge 9, 3) := by decide +kernel
theorem dL_cell_6 : decode cL_cell 6 = .ok (.aload_n 0, 1) := by decide +kernel
theorem dL_cell_7 : decode cL_cell 7 = .ok (.iload_n 1, 1) := by decide +kernel
theorem dL_cell_8 : decode cL_cell 8 = .ok (.iaload, 1) := by decide +kernel
theorem dL_cell_9 : decode cL_cell 9 = .ok (.goto 4, 3) := by decide +kernel
theorem dL_cell_12 : decode cL_cell 12 = .ok (.iconst 0, 1) := by decide +kernel
theorem dL_cell_13 : decode cL_cell 13 = .ok (.ireturn, 1) := by decide +kernel
theorem dL_of_0 : decode cL_of 0 = .ok (.iload_n 2, 1) := by decide +kernel
theorem dL_of_1 : decode cL_of 1 = .ok (.aload_n 0, 1) := by decide +kernel
theorem dL_of_2 : decode cL_of 2 = .ok (.iload_n 1, 1) := by decide +kernel
theorem dL_of_3 : decode cL_of 3 = .ok (.invokestatic 7, 3) := by decide +kernel
theorem dL_of_6 : decode cL_of 6 = .ok (.iload_n 3, 1) := by decide +kernel
theorem dL_of_7 : decode cL_of 7 = .ok (.invokestatic 13, 3) := by decide +kernel
theorem dL_of_10 : decode cL_of 10 = .ok (.iadd, 1) := by decide +kernel
theorem dL_of_11 : decode cL_of 11 = .ok (.ireturn, 1) := by decide +kernel
theorem dL_setPrice_0 : decode cL_setPrice 0 = .ok (.aload_n 0, 1) := by decide +kernel
theorem dL_setPrice_1 : decode cL_setPrice 1 = .ok (.iload_n 1, 1) := by decide +kernel
theorem dL_setPrice_2 : decode cL_setPrice 2 = .ok (.iload_n 2, 1) := by decide +kernel
theorem dL_setPrice_3 : decode cL_setPrice 3 = .ok (.invokevirtual 19, 3) := by decide +kernel
theorem dL_setPrice_6 : decode cL_setPrice 6 = .ok (.ireturn, 1) := by decide +kernel
theorem dL_setPrice_7 : decode cL_setPrice 7 = .ok (.astore_n 3, 1) := by decide +kernel
theorem dL_setPrice_8 : decode cL_setPrice 8 = .ok (.sipush (-7777), 3) := by decide +kernel
theorem dL_setPrice_11 : decode cL_setPrice 11 = .ok (.ireturn, 1) := by decide +kernel
theorem dL_setPrice_12 : decode cL_setPrice 12 = .ok (.astore_n 3, 1) := by decide +kernel
theorem dL_setPrice_13 : decode cL_setPrice 13 = .ok (.sipush (-7777), 3) := by decide +kernel
theorem dL_setPrice_16 : decode cL_setPrice 16 = .ok (.ireturn, 1) := by decide +kernel
theorem dL_setRate_0 : decode cL_setRate 0 = .ok (.aload_n 0, 1) := by decide +kernel
theorem dL_setRate_1 : decode cL_setRate 1 = .ok (.iload_n 1, 1) := by decide +kernel
theorem dL_setRate_2 : decode cL_setRate 2 = .ok (.invokevirtual 28, 3) := by decide +kernel
theorem dL_setRate_5 : decode cL_setRate 5 = .ok (.ireturn, 1) := by decide +kernel
theorem dL_setRate_6 : decode cL_setRate 6 = .ok (.astore_n 2, 1) := by decide +kernel
theorem dL_setRate_7 : decode cL_setRate 7 = .ok (.sipush (-7777), 3) := by decide +kernel
theorem dL_setRate_10 : decode cL_setRate 10 = .ok (.ireturn, 1) := by decide +kernel
theorem dL_layBed_0 : decode cL_layBed 0 = .ok (.aload_n 0, 1) := by decide +kernel
theorem dL_layBed_1 : decode cL_layBed 1 = .ok (.iload_n 1, 1) := by decide +kernel
theorem dL_layBed_2 : decode cL_layBed 2 = .ok (.iload_n 2, 1) := by decide +kernel
theorem dL_layBed_3 : decode cL_layBed 3 = .ok (.iload_n 3, 1) := by decide +kernel
theorem dL_layBed_4 : decode cL_layBed 4 = .ok (.iload 4, 2) := by decide +kernel
theorem dL_layBed_6 : decode cL_layBed 6 = .ok (.invokevirtual 32, 3) := by decide +kernel
theorem dL_layBed_9 : decode cL_layBed 9 = .ok (.ireturn, 1) := by decide +kernel
theorem dL_layBed_10 : decode cL_layBed 10 = .ok (.astore 5, 2) := by decide +kernel
theorem dL_layBed_12 : decode cL_layBed 12 = .ok (.sipush (-7777), 3) := by decide +kernel
theorem dL_layBed_15 : decode cL_layBed 15 = .ok (.ireturn, 1) := by decide +kernel
theorem dL_layBed_16 : decode cL_layBed 16 = .ok (.astore 5, 2) := by decide +kernel
theorem dL_layBed_18 : decode cL_layBed 18 = .ok (.sipush (-7777), 3) := by decide +kernel
theorem dL_layBed_21 : decode cL_layBed 21 = .ok (.ireturn, 1) := by decide +kernel
theorem dL_layBed_22 : decode cL_layBed 22 = .ok (.astore 5, 2) := by decide +kernel
theorem dL_layBed_24 : decode cL_layBed 24 = .ok (.sipush (-7777), 3) := by decide +kernel
theorem dL_layBed_27 : decode cL_layBed 27 = .ok (.ireturn, 1) := by decide +kernel
theorem dL_setPeacocks_0 : decode cL_setPeacocks 0 = .ok (.aload_n 0, 1) := by decide +kernel
theorem dL_setPeacocks_1 : decode cL_setPeacocks 1 = .ok (.iload_n 1, 1) := by decide +kernel
theorem dL_setPeacocks_2 : decode cL_setPeacocks 2 = .ok (.iload_n 2, 1) := by decide +kernel
theorem dL_setPeacocks_3 : decode cL_setPeacocks 3 = .ok (.invokevirtual 38, 3) := by decide +kernel
theorem dL_setPeacocks_6 : decode cL_setPeacocks 6 = .ok (.ireturn, 1) := by decide +kernel
theorem dL_setPeacocks_7 : decode cL_setPeacocks 7 = .ok (.astore_n 3, 1) := by decide +kernel
theorem dL_setPeacocks_8 : decode cL_setPeacocks 8 = .ok (.sipush (-7777), 3) := by decide +kernel
theorem dL_setPeacocks_11 : decode cL_setPeacocks 11 = .ok (.ireturn, 1) := by decide +kernel
theorem dL_setPause_0 : decode cL_setPause 0 = .ok (.aload_n 0, 1) := by decide +kernel
theorem dL_setPause_1 : decode cL_setPause 1 = .ok (.iload_n 1, 1) := by decide +kernel
theorem dL_setPause_2 : decode cL_setPause 2 = .ok (.invokevirtual 41, 3) := by decide +kernel
theorem dL_setPause_5 : decode cL_setPause 5 = .ok (.ireturn, 1) := by decide +kernel
theorem dL_setPause_6 : decode cL_setPause 6 = .ok (.astore_n 2, 1) := by decide +kernel
theorem dL_setPause_7 : decode cL_setPause 7 = .ok (.sipush (-7777), 3) := by decide +kernel
theorem dL_setPause_10 : decode cL_setPause 10 = .ok (.ireturn, 1) := by decide +kernel
theorem dL_sell_0 : decode cL_sell 0 = .ok (.aload_n 0, 1) := by decide +kernel
theorem dL_sell_1 : decode cL_sell 1 = .ok (.iload_n 1, 1) := by decide +kernel
theorem dL_sell_2 : decode cL_sell 2 = .ok (.iload_n 2, 1) := by decide +kernel
theorem dL_sell_3 : decode cL_sell 3 = .ok (.iload_n 3, 1) := by decide +kernel
theorem dL_sell_4 : decode cL_sell 4 = .ok (.iload 4, 2) := by decide +kernel
theorem dL_sell_6 : decode cL_sell 6 = .ok (.invokevirtual 44, 3) := by decide +kernel
theorem dL_sell_9 : decode cL_sell 9 = .ok (.ireturn, 1) := by decide +kernel
theorem dL_sell_10 : decode cL_sell 10 = .ok (.astore 5, 2) := by decide +kernel
theorem dL_sell_12 : decode cL_sell 12 = .ok (.sipush (-7777), 3) := by decide +kernel
theorem dL_sell_15 : decode cL_sell 15 = .ok (.ireturn, 1) := by decide +kernel
theorem dL_sell_16 : decode cL_sell 16 = .ok (.astore 5, 2) := by decide +kernel
theorem dL_sell_18 : decode cL_sell 18 = .ok (.sipush (-7777), 3) := by decide +kernel
theorem dL_sell_21 : decode cL_sell 21 = .ok (.ireturn, 1) := by decide +kernel
theorem dL_extend_0 : decode cL_extend 0 = .ok (.aload_n 0, 1) := by decide +kernel
theorem dL_extend_1 : decode cL_extend 1 = .ok (.iload_n 1, 1) := by decide +kernel
theorem dL_extend_2 : decode cL_extend 2 = .ok (.iload_n 2, 1) := by decide +kernel
theorem dL_extend_3 : decode cL_extend 3 = .ok (.invokevirtual 47, 3) := by decide +kernel
theorem dL_extend_6 : decode cL_extend 6 = .ok (.ireturn, 1) := by decide +kernel
theorem dL_extend_7 : decode cL_extend 7 = .ok (.astore_n 3, 1) := by decide +kernel
theorem dL_extend_8 : decode cL_extend 8 = .ok (.sipush (-7777), 3) := by decide +kernel
theorem dL_extend_11 : decode cL_extend 11 = .ok (.ireturn, 1) := by decide +kernel
theorem dL_extend_12 : decode cL_extend 12 = .ok (.astore_n 3, 1) := by decide +kernel
theorem dL_extend_13 : decode cL_extend 13 = .ok (.sipush (-7777), 3) := by decide +kernel
theorem dL_extend_16 : decode cL_extend 16 = .ok (.ireturn, 1) := by decide +kernel
theorem dL_extend_17 : decode cL_extend 17 = .ok (.astore_n 3, 1) := by decide +kernel
theorem dL_extend_18 : decode cL_extend 18 = .ok (.sipush (-7777), 3) := by decide +kernel
theorem dL_extend_21 : decode cL_extend 21 = .ok (.ireturn, 1) := by decide +kernel
theorem dL_addScent_0 : decode cL_addScent 0 = .ok (.aload_n 0, 1) := by decide +kernel
theorem dL_addScent_1 : decode cL_addScent 1 = .ok (.iload_n 1, 1) := by decide +kernel
theorem dL_addScent_2 : decode cL_addScent 2 = .ok (.iload_n 2, 1) := by decide +kernel
theorem dL_addScent_3 : decode cL_addScent 3 = .ok (.invokevirtual 50, 3) := by decide +kernel
theorem dL_addScent_6 : decode cL_addScent 6 = .ok (.ireturn, 1) := by decide +kernel
theorem dL_addScent_7 : decode cL_addScent 7 = .ok (.astore_n 3, 1) := by decide +kernel
theorem dL_addScent_8 : decode cL_addScent 8 = .ok (.sipush (-7777), 3) := by decide +kernel
theorem dL_addScent_11 : decode cL_addScent 11 = .ok (.ireturn, 1) := by decide +kernel
theorem dL_addScent_12 : decode cL_addScent 12 = .ok (.astore_n 3, 1) := by decide +kernel
theorem dL_addScent_13 : decode cL_addScent 13 = .ok (.sipush (-7777), 3) := by decide +kernel
theorem dL_addScent_16 : decode cL_addScent 16 = .ok (.ireturn, 1) := by decide +kernel
theorem dL_reportLost_0 : decode cL_reportLost 0 = .ok (.aload_n 0, 1) := by decide +kernel
theorem dL_reportLost_1 : decode cL_reportLost 1 = .ok (.iload_n 1, 1) := by decide +kernel
theorem dL_reportLost_2 : decode cL_reportLost 2 = .ok (.invokevirtual 53, 3) := by decide +kernel
theorem dL_reportLost_5 : decode cL_reportLost 5 = .ok (.ireturn, 1) := by decide +kernel
theorem dL_reportLost_6 : decode cL_reportLost 6 = .ok (.astore_n 2, 1) := by decide +kernel
theorem dL_reportLost_7 : decode cL_reportLost 7 = .ok (.sipush (-7777), 3) := by decide +kernel
theorem dL_reportLost_10 : decode cL_reportLost 10 = .ok (.ireturn, 1) := by decide +kernel
theorem dL_reportLost_11 : decode cL_reportLost 11 = .ok (.astore_n 2, 1) := by decide +kernel
theorem dL_reportLost_12 : decode cL_reportLost 12 = .ok (.sipush (-7777), 3) := by decide +kernel
theorem dL_reportLost_15 : decode cL_reportLost 15 = .ok (.ireturn, 1) := by decide +kernel
theorem dL_replaceCard_0 : decode cL_replaceCard 0 = .ok (.aload_n 0, 1) := by decide +kernel
theorem dL_replaceCard_1 : decode cL_replaceCard 1 = .ok (.iload_n 1, 1) := by decide +kernel
theorem dL_replaceCard_2 : decode cL_replaceCard 2 = .ok (.invokevirtual 56, 3) := by decide +kernel
theorem dL_replaceCard_5 : decode cL_replaceCard 5 = .ok (.ireturn, 1) := by decide +kernel
theorem dL_replaceCard_6 : decode cL_replaceCard 6 = .ok (.astore_n 2, 1) := by decide +kernel
theorem dL_replaceCard_7 : decode cL_replaceCard 7 = .ok (.sipush (-7777), 3) := by decide +kernel
theorem dL_replaceCard_10 : decode cL_replaceCard 10 = .ok (.ireturn, 1) := by decide +kernel
theorem dL_replaceCard_11 : decode cL_replaceCard 11 = .ok (.astore_n 2, 1) := by decide +kernel
theorem dL_replaceCard_12 : decode cL_replaceCard 12 = .ok (.sipush (-7777), 3) := by decide +kernel
theorem dL_replaceCard_15 : decode cL_replaceCard 15 = .ok (.ireturn, 1) := by decide +kernel
theorem dL_refundPass_0 : decode cL_refundPass 0 = .ok (.aload_n 0, 1) := by decide +kernel
theorem dL_refundPass_1 : decode cL_refundPass 1 = .ok (.iload_n 1, 1) := by decide +kernel
theorem dL_refundPass_2 : decode cL_refundPass 2 = .ok (.invokevirtual 59, 3) := by decide +kernel
theorem dL_refundPass_5 : decode cL_refundPass 5 = .ok (.ireturn, 1) := by decide +kernel
theorem dL_refundPass_6 : decode cL_refundPass 6 = .ok (.astore_n 2, 1) := by decide +kernel
theorem dL_refundPass_7 : decode cL_refundPass 7 = .ok (.sipush (-7777), 3) := by decide +kernel
theorem dL_refundPass_10 : decode cL_refundPass 10 = .ok (.ireturn, 1) := by decide +kernel
theorem dL_refundPass_11 : decode cL_refundPass 11 = .ok (.astore_n 2, 1) := by decide +kernel
theorem dL_refundPass_12 : decode cL_refundPass 12 = .ok (.sipush (-7777), 3) := by decide +kernel
theorem dL_refundPass_15 : decode cL_refundPass 15 = .ok (.ireturn, 1) := by decide +kernel
theorem dL_visit_7 : decode cL_visit 7 = .ok (.astore_n 3, 1) := by decide +kernel
theorem dL_visit_8 : decode cL_visit 8 = .ok (.sipush (-7777), 3) := by decide +kernel
theorem dL_visit_11 : decode cL_visit 11 = .ok (.ireturn, 1) := by decide +kernel
theorem dL_pluck_0 : decode cL_pluck 0 = .ok (.aload_n 0, 1) := by decide +kernel
theorem dL_pluck_1 : decode cL_pluck 1 = .ok (.iload_n 1, 1) := by decide +kernel
theorem dL_pluck_2 : decode cL_pluck 2 = .ok (.iload_n 2, 1) := by decide +kernel
theorem dL_pluck_3 : decode cL_pluck 3 = .ok (.invokevirtual 65, 3) := by decide +kernel
theorem dL_pluck_6 : decode cL_pluck 6 = .ok (.ireturn, 1) := by decide +kernel
theorem dL_pluck_7 : decode cL_pluck 7 = .ok (.astore_n 3, 1) := by decide +kernel
theorem dL_pluck_8 : decode cL_pluck 8 = .ok (.sipush (-7777), 3) := by decide +kernel
theorem dL_pluck_11 : decode cL_pluck 11 = .ok (.ireturn, 1) := by decide +kernel
theorem dL_pluck_12 : decode cL_pluck 12 = .ok (.astore_n 3, 1) := by decide +kernel
theorem dL_pluck_13 : decode cL_pluck 13 = .ok (.sipush (-7777), 3) := by decide +kernel
theorem dL_pluck_16 : decode cL_pluck 16 = .ok (.ireturn, 1) := by decide +kernel
theorem dL_pluck_17 : decode cL_pluck 17 = .ok (.astore_n 3, 1) := by decide +kernel
theorem dL_pluck_18 : decode cL_pluck 18 = .ok (.sipush (-7777), 3) := by decide +kernel
theorem dL_pluck_21 : decode cL_pluck 21 = .ok (.ireturn, 1) := by decide +kernel
theorem dL_payFines_0 : decode cL_payFines 0 = .ok (.aload_n 0, 1) := by decide +kernel
theorem dL_payFines_1 : decode cL_payFines 1 = .ok (.iload_n 1, 1) := by decide +kernel
theorem dL_payFines_2 : decode cL_payFines 2 = .ok (.iload_n 2, 1) := by decide +kernel
theorem dL_payFines_3 : decode cL_payFines 3 = .ok (.invokevirtual 68, 3) := by decide +kernel
theorem dL_payFines_6 : decode cL_payFines 6 = .ok (.ireturn, 1) := by decide +kernel
theorem dL_payFines_7 : decode cL_payFines 7 = .ok (.astore_n 3, 1) := by decide +kernel
theorem dL_payFines_8 : decode cL_payFines 8 = .ok (.sipush (-7777), 3) := by decide +kernel
theorem dL_payFines_11 : decode cL_payFines 11 = .ok (.ireturn, 1) := by decide +kernel
theorem dL_payFines_12 : decode cL_payFines 12 = .ok (.astore_n 3, 1) := by decide +kernel
theorem dL_payFines_13 : decode cL_payFines 13 = .ok (.sipush (-7777), 3) := by decide +kernel
theorem dL_payFines_16 : decode cL_payFines 16 = .ok (.ireturn, 1) := by decide +kernel
theorem dL_payFines_17 : decode cL_payFines 17 = .ok (.astore_n 3, 1) := by decide +kernel
theorem dL_payFines_18 : decode cL_payFines 18 = .ok (.sipush (-7777), 3) := by decide +kernel
theorem dL_payFines_21 : decode cL_payFines 21 = .ok (.ireturn, 1) := by decide +kernel
theorem dL_pass_6 : decode cL_pass 6 = .ok (.astore_n 2, 1) := by decide +kernel
theorem dL_pass_7 : decode cL_pass 7 = .ok (.sipush (-7777), 3) := by decide +kernel
theorem dL_pass_10 : decode cL_pass 10 = .ok (.ireturn, 1) := by decide +kernel
theorem dL_pass_11 : decode cL_pass 11 = .ok (.astore_n 2, 1) := by decide +kernel
theorem dL_pass_12 : decode cL_pass 12 = .ok (.sipush (-7777), 3) := by decide +kernel
theorem dL_pass_15 : decode cL_pass 15 = .ok (.ireturn, 1) := by decide +kernel
theorem dL_blooms_6 : decode cL_blooms 6 = .ok (.astore_n 2, 1) := by decide +kernel
theorem dL_blooms_7 : decode cL_blooms 7 = .ok (.sipush (-7777), 3) := by decide +kernel
theorem dL_blooms_10 : decode cL_blooms 10 = .ok (.ireturn, 1) := by decide +kernel
theorem dL_placesLeft_6 : decode cL_placesLeft 6 = .ok (.astore_n 2, 1) := by decide +kernel
theorem dL_placesLeft_7 : decode cL_placesLeft 7 = .ok (.sipush (-7777), 3) := by decide +kernel
theorem dL_placesLeft_10 : decode cL_placesLeft 10 = .ok (.ireturn, 1) := by decide +kernel
theorem dL_visitsTo_6 : decode cL_visitsTo 6 = .ok (.astore_n 2, 1) := by decide +kernel
theorem dL_visitsTo_7 : decode cL_visitsTo 7 = .ok (.sipush (-7777), 3) := by decide +kernel
theorem dL_visitsTo_10 : decode cL_visitsTo 10 = .ok (.ireturn, 1) := by decide +kernel
theorem dL_isInSeason_6 : decode cL_isInSeason 6 = .ok (.astore_n 2, 1) := by decide +kernel
theorem dL_isInSeason_7 : decode cL_isInSeason 7 = .ok (.iconst 0, 1) := by decide +kernel
theorem dL_isInSeason_8 : decode cL_isInSeason 8 = .ok (.ireturn, 1) := by decide +kernel
theorem dL_firstDay_6 : decode cL_firstDay 6 = .ok (.astore_n 2, 1) := by decide +kernel
theorem dL_firstDay_7 : decode cL_firstDay 7 = .ok (.sipush (-7777), 3) := by decide +kernel
theorem dL_firstDay_10 : decode cL_firstDay 10 = .ok (.ireturn, 1) := by decide +kernel
theorem dL_lastDay_6 : decode cL_lastDay 6 = .ok (.astore_n 2, 1) := by decide +kernel
theorem dL_lastDay_7 : decode cL_lastDay 7 = .ok (.sipush (-7777), 3) := by decide +kernel
theorem dL_lastDay_10 : decode cL_lastDay 10 = .ok (.ireturn, 1) := by decide +kernel
theorem dL_priceOf_6 : decode cL_priceOf 6 = .ok (.astore_n 2, 1) := by decide +kernel
theorem dL_priceOf_7 : decode cL_priceOf 7 = .ok (.sipush (-7777), 3) := by decide +kernel
theorem dL_priceOf_10 : decode cL_priceOf 10 = .ok (.ireturn, 1) := by decide +kernel
theorem dL_cardOf_6 : decode cL_cardOf 6 = .ok (.astore_n 2, 1) := by decide +kernel
theorem dL_cardOf_7 : decode cL_cardOf 7 = .ok (.sipush (-7777), 3) := by decide +kernel
theorem dL_cardOf_10 : decode cL_cardOf 10 = .ok (.ireturn, 1) := by decide +kernel
theorem dL_usedDays_6 : decode cL_usedDays 6 = .ok (.astore_n 2, 1) := by decide +kernel
theorem dL_usedDays_7 : decode cL_usedDays 7 = .ok (.sipush (-7777), 3) := by decide +kernel
theorem dL_usedDays_10 : decode cL_usedDays 10 = .ok (.ireturn, 1) := by decide +kernel
theorem dL_visitsWith_6 : decode cL_visitsWith 6 = .ok (.astore_n 2, 1) := by decide +kernel
theorem dL_visitsWith_7 : decode cL_visitsWith 7 = .ok (.sipush (-7777), 3) := by decide +kernel
theorem dL_visitsWith_10 : decode cL_visitsWith 10 = .ok (.ireturn, 1) := by decide +kernel
theorem dL_refundOf_6 : decode cL_refundOf 6 = .ok (.astore_n 2, 1) := by decide +kernel
theorem dL_refundOf_7 : decode cL_refundOf 7 = .ok (.sipush (-7777), 3) := by decide +kernel
theorem dL_refundOf_10 : decode cL_refundOf 10 = .ok (.ireturn, 1) := by decide +kernel
theorem dL_owed_6 : decode cL_owed 6 = .ok (.astore_n 2, 1) := by decide +kernel
theorem dL_owed_7 : decode cL_owed 7 = .ok (.sipush (-7777), 3) := by decide +kernel
theorem dL_owed_10 : decode cL_owed 10 = .ok (.ireturn, 1) := by decide +kernel
theorem dL_ticksUntilReady_6 : decode cL_ticksUntilReady 6 = .ok (.astore_n 2, 1) := by decide +kernel
theorem dL_ticksUntilReady_7 : decode cL_ticksUntilReady 7 = .ok (.sipush (-7777), 3) := by decide +kernel
theorem dL_ticksUntilReady_10 : decode cL_ticksUntilReady 10 = .ok (.ireturn, 1) := by decide +kernel
theorem dL_isReturned_6 : decode cL_isReturned 6 = .ok (.astore_n 2, 1) := by decide +kernel
theorem dL_isReturned_7 : decode cL_isReturned 7 = .ok (.iconst 0, 1) := by decide +kernel
theorem dL_isReturned_8 : decode cL_isReturned 8 = .ok (.ireturn, 1) := by decide +kernel
theorem dL_passOf_6 : decode cL_passOf 6 = .ok (.astore_n 2, 1) := by decide +kernel
theorem dL_passOf_7 : decode cL_passOf 7 = .ok (.sipush (-7777), 3) := by decide +kernel
theorem dL_passOf_10 : decode cL_passOf 10 = .ok (.ireturn, 1) := by decide +kernel
theorem dL_isBlocked_6 : decode cL_isBlocked 6 = .ok (.astore_n 2, 1) := by decide +kernel
theorem dL_isBlocked_7 : decode cL_isBlocked 7 = .ok (.iconst 0, 1) := by decide +kernel
theorem dL_isBlocked_8 : decode cL_isBlocked 8 = .ok (.ireturn, 1) := by decide +kernel
theorem dL_whyRefused_7 : decode cL_whyRefused 7 = .ok (.astore_n 3, 1) := by decide +kernel
theorem dL_whyRefused_8 : decode cL_whyRefused 8 = .ok (.sipush (-7777), 3) := by decide +kernel
theorem dL_whyRefused_11 : decode cL_whyRefused 11 = .ok (.ireturn, 1) := by decide +kernel
theorem dL_began_0 : decode cL_began 0 = .ok (.aload_n 1, 1) := by decide +kernel
theorem dL_began_1 : decode cL_began 1 = .ok (.iconst 0, 1) := by decide +kernel
theorem dL_began_2 : decode cL_began 2 = .ok (.iconst 1, 1) := by decide +kernel
theorem dL_began_3 : decode cL_began 3 = .ok (.iconst 4, 1) := by decide +kernel
theorem dL_began_4 : decode cL_began 4 = .ok (.invokestatic 148, 3) := by decide +kernel
theorem dL_began_7 : decode cL_began 7 = .ok (.istore_n 2, 1) := by decide +kernel
theorem dL_began_8 : decode cL_began 8 = .ok (.new 152, 3) := by decide +kernel
theorem dL_began_11 : decode cL_began 11 = .ok (.dup, 1) := by decide +kernel
theorem dL_began_12 : decode cL_began 12 = .ok (.ldc 154, 2) := by decide +kernel
theorem dL_began_14 : decode cL_began 14 = .ok (.invokespecial 156, 3) := by decide +kernel
theorem dL_began_17 : decode cL_began 17 = .ok (.astore_n 3, 1) := by decide +kernel
theorem dL_began_18 : decode cL_began 18 = .ok (.iconst 0, 1) := by decide +kernel
theorem dL_began_19 : decode cL_began 19 = .ok (.istore 4, 2) := by decide +kernel
theorem dL_began_21 : decode cL_began 21 = .ok (.iload 4, 2) := by decide +kernel
theorem dL_began_23 : decode cL_began 23 = .ok (.iload_n 2, 1) := by decide +kernel
theorem dL_began_24 : decode cL_began 24 = .ok (.if_icmp .ge 30, 3) := by decide +kernel
theorem dL_began_27 : decode cL_began 27 = .ok (.aload_n 3, 1) := by decide +kernel
theorem dL_began_28 : decode cL_began 28 = .ok (.bipush 32, 2) := by decide +kernel
theorem dL_began_30 : decode cL_began 30 = .ok (.invokevirtual 159, 3) := by decide +kernel
theorem dL_began_33 : decode cL_began 33 = .ok (.aload_n 1, 1) := by decide +kernel
theorem dL_began_34 : decode cL_began 34 = .ok (.iconst 1, 1) := by decide +kernel
theorem dL_began_35 : decode cL_began 35 = .ok (.iload 4, 2) := by decide +kernel
theorem dL_began_37 : decode cL_began 37 = .ok (.iadd, 1) := by decide +kernel
theorem dL_began_38 : decode cL_began 38 = .ok (.iconst 1, 1) := by decide +kernel
theorem dL_began_39 : decode cL_began 39 = .ok (.bipush 60, 2) := by decide +kernel
theorem dL_began_41 : decode cL_began 41 = .ok (.invokestatic 148, 3) := by decide +kernel
theorem dL_began_44 : decode cL_began 44 = .ok (.invokevirtual 163, 3) := by decide +kernel
theorem dL_began_47 : decode cL_began 47 = .ok (.pop, 1) := by decide +kernel
theorem dL_began_48 : decode cL_began 48 = .ok (.iinc 4 1, 3) := by decide +kernel
theorem dL_began_51 : decode cL_began 51 = .ok (.goto (-30), 3) := by decide +kernel
theorem dL_began_54 : decode cL_began 54 = .ok (.aload_n 3, 1) := by decide +kernel
theorem dL_began_55 : decode cL_began 55 = .ok (.bipush 59, 2) := by decide +kernel
theorem dL_began_57 : decode cL_began 57 = .ok (.invokevirtual 159, 3) := by decide +kernel
theorem dL_began_60 : decode cL_began 60 = .ok (.pop, 1) := by decide +kernel
theorem dL_began_61 : decode cL_began 61 = .ok (.iconst 0, 1) := by decide +kernel
theorem dL_began_62 : decode cL_began 62 = .ok (.istore 4, 2) := by decide +kernel
theorem dL_began_64 : decode cL_began 64 = .ok (.iload 4, 2) := by decide +kernel
theorem dL_began_66 : decode cL_began 66 = .ok (.iconst 3, 1) := by decide +kernel
theorem dL_began_67 : decode cL_began 67 = .ok (.if_icmp .ge 92, 3) := by decide +kernel
theorem dL_began_70 : decode cL_began 70 = .ok (.aload_n 1, 1) := by decide +kernel
theorem dL_began_71 : decode cL_began 71 = .ok (.iconst 5, 1) := by decide +kernel
theorem dL_began_72 : decode cL_began 72 = .ok (.iload 4, 2) := by decide +kernel
theorem dL_began_74 : decode cL_began 74 = .ok (.iadd, 1) := by decide +kernel
theorem dL_began_75 : decode cL_began 75 = .ok (.invokestatic 7, 3) := by decide +kernel
theorem dL_began_78 : decode cL_began 78 = .ok (.ldc 166, 2) := by decide +kernel
theorem dL_began_80 : decode cL_began 80 = .ok (.iand, 1) := by decide +kernel
theorem dL_began_81 : decode cL_began 81 = .ok (.istore 5, 2) := by decide +kernel
theorem dL_began_83 : decode cL_began 83 = .ok (.aload_n 3, 1) := by decide +kernel
theorem dL_began_84 : decode cL_began 84 = .ok (.ldc 167, 2) := by decide +kernel
theorem dL_began_86 : decode cL_began 86 = .ok (.invokevirtual 169, 3) := by decide +kernel
theorem dL_began_89 : decode cL_began 89 = .ok (.iload 5, 2) := by decide +kernel
theorem dL_began_91 : decode cL_began 91 = .ok (.iload_n 2, 1) := by decide +kernel
theorem dL_began_92 : decode cL_began 92 = .ok (.irem, 1) := by decide +kernel
theorem dL_began_93 : decode cL_began 93 = .ok (.invokevirtual 163, 3) := by decide +kernel
theorem dL_began_96 : decode cL_began 96 = .ok (.bipush 32, 2) := by decide +kernel
theorem dL_began_98 : decode cL_began 98 = .ok (.invokevirtual 159, 3) := by decide +kernel
theorem dL_began_101 : decode cL_began 101 = .ok (.iconst 1, 1) := by decide +kernel
theorem dL_began_102 : decode cL_began 102 = .ok (.iload 5, 2) := by decide +kernel
theorem dL_began_104 : decode cL_began 104 = .ok (.bipush 8, 2) := by decide +kernel
theorem dL_began_106 : decode cL_began 106 = .ok (.idiv, 1) := by decide +kernel
theorem dL_began_107 : decode cL_began 107 = .ok (.iconst 3, 1) := by decide +kernel
theorem dL_began_108 : decode cL_began 108 = .ok (.irem, 1) := by decide +kernel
theorem dL_began_109 : decode cL_began 109 = .ok (.iadd, 1) := by decide +kernel
theorem dL_began_110 : decode cL_began 110 = .ok (.invokevirtual 163, 3) := by decide +kernel
theorem dL_began_113 : decode cL_began 113 = .ok (.bipush 32, 2) := by decide +kernel
theorem dL_began_115 : decode cL_began 115 = .ok (.invokevirtual 159, 3) := by decide +kernel
theorem dL_began_118 : decode cL_began 118 = .ok (.iload 5, 2) := by decide +kernel
theorem dL_began_120 : decode cL_began 120 = .ok (.bipush 32, 2) := by decide +kernel
theorem dL_began_122 : decode cL_began 122 = .ok (.idiv, 1) := by decide +kernel
theorem dL_began_123 : decode cL_began 123 = .ok (.iconst 3, 1) := by decide +kernel
theorem dL_began_124 : decode cL_began 124 = .ok (.irem, 1) := by decide +kernel
theorem dL_began_125 : decode cL_began 125 = .ok (.invokevirtual 163, 3) := by decide +kernel
theorem dL_began_128 : decode cL_began 128 = .ok (.bipush 32, 2) := by decide +kernel
theorem dL_began_130 : decode cL_began 130 = .ok (.invokevirtual 159, 3) := by decide +kernel
theorem dL_began_133 : decode cL_began 133 = .ok (.iconst 2, 1) := by decide +kernel
theorem dL_began_134 : decode cL_began 134 = .ok (.iload 5, 2) := by decide +kernel
theorem dL_began_136 : decode cL_began 136 = .ok (.sipush 128, 3) := by decide +kernel
theorem dL_began_139 : decode cL_began 139 = .ok (.idiv, 1) := by decide +kernel
theorem dL_began_140 : decode cL_began 140 = .ok (.bipush 8, 2) := by decide +kernel
theorem dL_began_142 : decode cL_began 142 = .ok (.irem, 1) := by decide +kernel
theorem dL_began_143 : decode cL_began 143 = .ok (.iadd, 1) := by decide +kernel
theorem dL_began_144 : decode cL_began 144 = .ok (.invokevirtual 163, 3) := by decide +kernel
theorem dL_began_147 : decode cL_began 147 = .ok (.bipush 59, 2) := by decide +kernel
theorem dL_began_149 : decode cL_began 149 = .ok (.invokevirtual 159, 3) := by decide +kernel
theorem dL_began_152 : decode cL_began 152 = .ok (.pop, 1) := by decide +kernel
theorem dL_began_153 : decode cL_began 153 = .ok (.iinc 4 1, 3) := by decide +kernel
theorem dL_began_156 : decode cL_began 156 = .ok (.goto (-92), 3) := by decide +kernel
theorem dL_began_159 : decode cL_began 159 = .ok (.aload_n 3, 1) := by decide +kernel
theorem dL_began_160 : decode cL_began 160 = .ok (.ldc 172, 2) := by decide +kernel
theorem dL_began_162 : decode cL_began 162 = .ok (.invokevirtual 169, 3) := by decide +kernel
theorem dL_began_165 : decode cL_began 165 = .ok (.aload_n 1, 1) := by decide +kernel
theorem dL_began_166 : decode cL_began 166 = .ok (.bipush 8, 2) := by decide +kernel
theorem dL_began_168 : decode cL_began 168 = .ok (.bipush 25, 2) := by decide +kernel
theorem dL_began_170 : decode cL_began 170 = .ok (.bipush 50, 2) := by decide +kernel
theorem dL_began_172 : decode cL_began 172 = .ok (.invokestatic 148, 3) := by decide +kernel
theorem dL_began_175 : decode cL_began 175 = .ok (.invokevirtual 163, 3) := by decide +kernel
theorem dL_began_178 : decode cL_began 178 = .ok (.bipush 59, 2) := by decide +kernel
theorem dL_began_180 : decode cL_began 180 = .ok (.invokevirtual 159, 3) := by decide +kernel
theorem dL_began_183 : decode cL_began 183 = .ok (.pop, 1) := by decide +kernel
theorem dL_began_184 : decode cL_began 184 = .ok (.iconst 0, 1) := by decide +kernel
theorem dL_began_185 : decode cL_began 185 = .ok (.istore 4, 2) := by decide +kernel
theorem dL_began_187 : decode cL_began 187 = .ok (.iload 4, 2) := by decide +kernel
theorem dL_began_189 : decode cL_began 189 = .ok (.aload_n 3, 1) := by decide +kernel
theorem dL_began_190 : decode cL_began 190 = .ok (.invokevirtual 174, 3) := by decide +kernel
theorem dL_began_193 : decode cL_began 193 = .ok (.if_icmp .ge 106, 3) := by decide +kernel
theorem dL_began_196 : decode cL_began 196 = .ok (.iconst 5, 1) := by decide +kernel
theorem dL_began_197 : decode cL_began 197 = .ok (.newarray .int, 2) := by decide +kernel
theorem dL_began_199 : decode cL_began 199 = .ok (.astore 5, 2) := by decide +kernel
theorem dL_began_201 : decode cL_began 201 = .ok (.iconst 0, 1) := by decide +kernel
theorem dL_began_202 : decode cL_began 202 = .ok (.istore 6, 2) := by decide +kernel
theorem dL_began_204 : decode cL_began 204 = .ok (.iload 6, 2) := by decide +kernel
theorem dL_began_206 : decode cL_began 206 = .ok (.bipush 20, 2) := by decide +kernel
theorem dL_began_208 : decode cL_began 208 = .ok (.if_icmp .ge 60, 3) := by decide +kernel
theorem dL_began_211 : decode cL_began 211 = .ok (.iload 4, 2) := by decide +kernel
theorem dL_began_213 : decode cL_began 213 = .ok (.iload 6, 2) := by decide +kernel
theorem dL_began_215 : decode cL_began 215 = .ok (.iadd, 1) := by decide +kernel
theorem dL_began_216 : decode cL_began 216 = .ok (.aload_n 3, 1) := by decide +kernel
theorem dL_began_217 : decode cL_began 217 = .ok (.invokevirtual 174, 3) := by decide +kernel
theorem dL_began_220 : decode cL_began 220 = .ok (.if_icmp .ge 15, 3) := by decide +kernel
theorem dL_began_223 : decode cL_began 223 = .ok (.aload_n 3, 1) := by decide +kernel
theorem dL_began_224 : decode cL_began 224 = .ok (.iload 4, 2) := by decide +kernel
theorem dL_began_226 : decode cL_began 226 = .ok (.iload 6, 2) := by decide +kernel
theorem dL_began_228 : decode cL_began 228 = .ok (.iadd, 1) := by decide +kernel
theorem dL_began_229 : decode cL_began 229 = .ok (.invokevirtual 178, 3) := by decide +kernel
theorem dL_began_232 : decode cL_began 232 = .ok (.goto 5, 3) := by decide +kernel
theorem dL_began_235 : decode cL_began 235 = .ok (.bipush 32, 2) := by decide +kernel
theorem dL_began_237 : decode cL_began 237 = .ok (.istore 7, 2) := by decide +kernel
theorem dL_began_239 : decode cL_began 239 = .ok (.aload 5, 2) := by decide +kernel
theorem dL_began_241 : decode cL_began 241 = .ok (.iload 6, 2) := by decide +kernel
theorem dL_began_243 : decode cL_began 243 = .ok (.iconst 4, 1) := by decide +kernel
theorem dL_began_244 : decode cL_began 244 = .ok (.idiv, 1) := by decide +kernel
theorem dL_began_245 : decode cL_began 245 = .ok (.dup2, 1) := by decide +kernel
theorem dL_began_246 : decode cL_began 246 = .ok (.iaload, 1) := by decide +kernel
theorem dL_began_247 : decode cL_began 247 = .ok (.iload 7, 2) := by decide +kernel
theorem dL_began_249 : decode cL_began 249 = .ok (.bipush 24, 2) := by decide +kernel
theorem dL_began_251 : decode cL_began 251 = .ok (.bipush 8, 2) := by decide +kernel
theorem dL_began_253 : decode cL_began 253 = .ok (.iload 6, 2) := by decide +kernel
theorem dL_began_255 : decode cL_began 255 = .ok (.iconst 4, 1) := by decide +kernel
theorem dL_began_256 : decode cL_began 256 = .ok (.irem, 1) := by decide +kernel
theorem dL_began_257 : decode cL_began 257 = .ok (.imul, 1) := by decide +kernel
theorem dL_began_258 : decode cL_began 258 = .ok (.isub, 1) := by decide +kernel
theorem dL_began_259 : decode cL_began 259 = .ok (.ishl, 1) := by decide +kernel
theorem dL_began_260 : decode cL_began 260 = .ok (.ior, 1) := by decide +kernel
