theorem dL_vehicle_0 : decode mL_vehicle.2.1 0 = .ok (.aload_n 3, 1) := by decide +kernel
theorem dL_vehicle_1 : decode mL_vehicle.2.1 1 = .ok (.iconst 0, 1) := by decide +kernel
theorem dL_vehicle_2 : decode mL_vehicle.2.1 2 = .ok (.aload_n 0, 1) := by decide +kernel
theorem dL_vehicle_3 : decode mL_vehicle.2.1 3 = .ok (.iload_n 1, 1) := by decide +kernel
theorem dL_vehicle_4 : decode mL_vehicle.2.1 4 = .ok (.iload_n 2, 1) := by decide +kernel
theorem dL_vehicle_5 : decode mL_vehicle.2.1 5 = .ok (.invokevirtual 7, 3) := by decide +kernel
theorem dL_vehicle_8 : decode mL_vehicle.2.1 8 = .ok (.i2l, 1) := by decide +kernel
theorem dL_vehicle_9 : decode mL_vehicle.2.1 9 = .ok (.lastore, 1) := by decide +kernel
theorem dL_vehicle_10 : decode mL_vehicle.2.1 10 = .ok (.goto 11, 3) := by decide +kernel
theorem dL_vehicle_13 : decode mL_vehicle.2.1 13 = .ok (.astore 4, 2) := by decide +kernel
theorem dL_vehicle_15 : decode mL_vehicle.2.1 15 = .ok (.iconst 1, 1) := by decide +kernel
theorem dL_vehicle_16 : decode mL_vehicle.2.1 16 = .ok (.ireturn, 1) := by decide +kernel
theorem dL_vehicle_17 : decode mL_vehicle.2.1 17 = .ok (.astore 4, 2) := by decide +kernel
theorem dL_vehicle_19 : decode mL_vehicle.2.1 19 = .ok (.iconst 2, 1) := by decide +kernel
theorem dL_vehicle_20 : decode mL_vehicle.2.1 20 = .ok (.ireturn, 1) := by decide +kernel
theorem dL_vehicle_21 : decode mL_vehicle.2.1 21 = .ok (.iconst 0, 1) := by decide +kernel
theorem dL_vehicle_22 : decode mL_vehicle.2.1 22 = .ok (.ireturn, 1) := by decide +kernel
theorem dL_list_0 : decode mL_list.2.1 0 = .ok (.aload_n 0, 1) := by decide +kernel
theorem dL_list_1 : decode mL_list.2.1 1 = .ok (.iload_n 1, 1) := by decide +kernel
theorem dL_list_2 : decode mL_list.2.1 2 = .ok (.iload_n 2, 1) := by decide +kernel
theorem dL_list_3 : decode mL_list.2.1 3 = .ok (.iload_n 3, 1) := by decide +kernel
theorem dL_list_4 : decode mL_list.2.1 4 = .ok (.iload 4, 2) := by decide +kernel
theorem dL_list_6 : decode mL_list.2.1 6 = .ok (.iload 5, 2) := by decide +kernel
theorem dL_list_8 : decode mL_list.2.1 8 = .ok (.iload 6, 2) := by decide +kernel
theorem dL_list_10 : decode mL_list.2.1 10 = .ok (.invokevirtual 17, 3) := by decide +kernel
theorem dL_list_13 : decode mL_list.2.1 13 = .ok (.goto 11, 3) := by decide +kernel
theorem dL_list_16 : decode mL_list.2.1 16 = .ok (.astore 7, 2) := by decide +kernel
theorem dL_list_18 : decode mL_list.2.1 18 = .ok (.iconst 1, 1) := by decide +kernel
theorem dL_list_19 : decode mL_list.2.1 19 = .ok (.ireturn, 1) := by decide +kernel
theorem dL_list_20 : decode mL_list.2.1 20 = .ok (.astore 7, 2) := by decide +kernel
theorem dL_list_22 : decode mL_list.2.1 22 = .ok (.iconst 2, 1) := by decide +kernel
theorem dL_list_23 : decode mL_list.2.1 23 = .ok (.ireturn, 1) := by decide +kernel
theorem dL_list_24 : decode mL_list.2.1 24 = .ok (.iconst 0, 1) := by decide +kernel
theorem dL_list_25 : decode mL_list.2.1 25 = .ok (.ireturn, 1) := by decide +kernel
theorem dL_unlist_0 : decode mL_unlist.2.1 0 = .ok (.aload_n 0, 1) := by decide +kernel
theorem dL_unlist_1 : decode mL_unlist.2.1 1 = .ok (.iload_n 1, 1) := by decide +kernel
theorem dL_unlist_2 : decode mL_unlist.2.1 2 = .ok (.iload_n 2, 1) := by decide +kernel
theorem dL_unlist_3 : decode mL_unlist.2.1 3 = .ok (.invokevirtual 23, 3) := by decide +kernel
theorem dL_unlist_6 : decode mL_unlist.2.1 6 = .ok (.goto 9, 3) := by decide +kernel
theorem dL_unlist_9 : decode mL_unlist.2.1 9 = .ok (.astore_n 3, 1) := by decide +kernel
theorem dL_unlist_10 : decode mL_unlist.2.1 10 = .ok (.iconst 1, 1) := by decide +kernel
theorem dL_unlist_11 : decode mL_unlist.2.1 11 = .ok (.ireturn, 1) := by decide +kernel
theorem dL_unlist_12 : decode mL_unlist.2.1 12 = .ok (.astore_n 3, 1) := by decide +kernel
theorem dL_unlist_13 : decode mL_unlist.2.1 13 = .ok (.iconst 2, 1) := by decide +kernel
theorem dL_unlist_14 : decode mL_unlist.2.1 14 = .ok (.ireturn, 1) := by decide +kernel
theorem dL_unlist_15 : decode mL_unlist.2.1 15 = .ok (.iconst 0, 1) := by decide +kernel
theorem dL_unlist_16 : decode mL_unlist.2.1 16 = .ok (.ireturn, 1) := by decide +kernel
theorem dL_answer_0 : decode mL_answer.2.1 0 = .ok (.aload 5, 2) := by decide +kernel
theorem dL_answer_2 : decode mL_answer.2.1 2 = .ok (.iconst 0, 1) := by decide +kernel
theorem dL_answer_3 : decode mL_answer.2.1 3 = .ok (.aload_n 0, 1) := by decide +kernel
theorem dL_answer_4 : decode mL_answer.2.1 4 = .ok (.iload_n 1, 1) := by decide +kernel
theorem dL_answer_5 : decode mL_answer.2.1 5 = .ok (.iload_n 2, 1) := by decide +kernel
theorem dL_answer_6 : decode mL_answer.2.1 6 = .ok (.iload_n 3, 1) := by decide +kernel
theorem dL_answer_7 : decode mL_answer.2.1 7 = .ok (.iload 4, 2) := by decide +kernel
theorem dL_answer_9 : decode mL_answer.2.1 9 = .ok (.invokevirtual 29, 3) := by decide +kernel
theorem dL_answer_12 : decode mL_answer.2.1 12 = .ok (.ifCond .eq 7, 3) := by decide +kernel
theorem dL_answer_15 : decode mL_answer.2.1 15 = .ok (.lconst 1, 1) := by decide +kernel
theorem dL_answer_16 : decode mL_answer.2.1 16 = .ok (.goto 4, 3) := by decide +kernel
theorem dL_answer_19 : decode mL_answer.2.1 19 = .ok (.lconst 0, 1) := by decide +kernel
theorem dL_answer_20 : decode mL_answer.2.1 20 = .ok (.lastore, 1) := by decide +kernel
theorem dL_answer_21 : decode mL_answer.2.1 21 = .ok (.goto 15, 3) := by decide +kernel
theorem dL_answer_24 : decode mL_answer.2.1 24 = .ok (.astore 6, 2) := by decide +kernel
theorem dL_answer_26 : decode mL_answer.2.1 26 = .ok (.iconst 1, 1) := by decide +kernel
theorem dL_answer_27 : decode mL_answer.2.1 27 = .ok (.ireturn, 1) := by decide +kernel
theorem dL_answer_28 : decode mL_answer.2.1 28 = .ok (.astore 6, 2) := by decide +kernel
theorem dL_answer_30 : decode mL_answer.2.1 30 = .ok (.iconst 2, 1) := by decide +kernel
theorem dL_answer_31 : decode mL_answer.2.1 31 = .ok (.ireturn, 1) := by decide +kernel
theorem dL_answer_32 : decode mL_answer.2.1 32 = .ok (.astore 6, 2) := by decide +kernel
theorem dL_answer_34 : decode mL_answer.2.1 34 = .ok (.iconst 3, 1) := by decide +kernel
theorem dL_answer_35 : decode mL_answer.2.1 35 = .ok (.ireturn, 1) := by decide +kernel
theorem dL_answer_36 : decode mL_answer.2.1 36 = .ok (.iconst 0, 1) := by decide +kernel
theorem dL_answer_37 : decode mL_answer.2.1 37 = .ok (.ireturn, 1) := by decide +kernel
theorem dL_item_0 : decode mL_item.2.1 0 = .ok (.aload 4, 2) := by decide +kernel
theorem dL_item_2 : decode mL_item.2.1 2 = .ok (.iconst 0, 1) := by decide +kernel
theorem dL_item_3 : decode mL_item.2.1 3 = .ok (.aload_n 0, 1) := by decide +kernel
theorem dL_item_4 : decode mL_item.2.1 4 = .ok (.iload_n 1, 1) := by decide +kernel
theorem dL_item_5 : decode mL_item.2.1 5 = .ok (.iload_n 2, 1) := by decide +kernel
theorem dL_item_6 : decode mL_item.2.1 6 = .ok (.iload_n 3, 1) := by decide +kernel
theorem dL_item_7 : decode mL_item.2.1 7 = .ok (.invokevirtual 33, 3) := by decide +kernel
theorem dL_item_10 : decode mL_item.2.1 10 = .ok (.i2l, 1) := by decide +kernel
theorem dL_item_11 : decode mL_item.2.1 11 = .ok (.lastore, 1) := by decide +kernel
theorem dL_item_12 : decode mL_item.2.1 12 = .ok (.goto 7, 3) := by decide +kernel
theorem dL_item_15 : decode mL_item.2.1 15 = .ok (.astore 5, 2) := by decide +kernel
theorem dL_item_17 : decode mL_item.2.1 17 = .ok (.iconst 1, 1) := by decide +kernel
theorem dL_item_18 : decode mL_item.2.1 18 = .ok (.ireturn, 1) := by decide +kernel
theorem dL_item_19 : decode mL_item.2.1 19 = .ok (.iconst 0, 1) := by decide +kernel
theorem dL_item_20 : decode mL_item.2.1 20 = .ok (.ireturn, 1) := by decide +kernel
theorem dL_use_0 : decode mL_use.2.1 0 = .ok (.aload_n 3, 1) := by decide +kernel
theorem dL_use_1 : decode mL_use.2.1 1 = .ok (.iconst 0, 1) := by decide +kernel
theorem dL_use_2 : decode mL_use.2.1 2 = .ok (.aload_n 0, 1) := by decide +kernel
theorem dL_use_3 : decode mL_use.2.1 3 = .ok (.iload_n 1, 1) := by decide +kernel
theorem dL_use_4 : decode mL_use.2.1 4 = .ok (.iload_n 2, 1) := by decide +kernel
theorem dL_use_5 : decode mL_use.2.1 5 = .ok (.invokevirtual 37, 3) := by decide +kernel
theorem dL_use_8 : decode mL_use.2.1 8 = .ok (.ifCond .eq 7, 3) := by decide +kernel
theorem dL_use_11 : decode mL_use.2.1 11 = .ok (.lconst 1, 1) := by decide +kernel
theorem dL_use_12 : decode mL_use.2.1 12 = .ok (.goto 4, 3) := by decide +kernel
theorem dL_use_15 : decode mL_use.2.1 15 = .ok (.lconst 0, 1) := by decide +kernel
theorem dL_use_16 : decode mL_use.2.1 16 = .ok (.lastore, 1) := by decide +kernel
theorem dL_use_17 : decode mL_use.2.1 17 = .ok (.goto 15, 3) := by decide +kernel
theorem dL_use_20 : decode mL_use.2.1 20 = .ok (.astore 4, 2) := by decide +kernel
theorem dL_use_22 : decode mL_use.2.1 22 = .ok (.iconst 1, 1) := by decide +kernel
theorem dL_use_23 : decode mL_use.2.1 23 = .ok (.ireturn, 1) := by decide +kernel
theorem dL_use_24 : decode mL_use.2.1 24 = .ok (.astore 4, 2) := by decide +kernel
theorem dL_use_26 : decode mL_use.2.1 26 = .ok (.iconst 2, 1) := by decide +kernel
theorem dL_use_27 : decode mL_use.2.1 27 = .ok (.ireturn, 1) := by decide +kernel
theorem dL_use_28 : decode mL_use.2.1 28 = .ok (.astore 4, 2) := by decide +kernel
theorem dL_use_30 : decode mL_use.2.1 30 = .ok (.iconst 3, 1) := by decide +kernel
theorem dL_use_31 : decode mL_use.2.1 31 = .ok (.ireturn, 1) := by decide +kernel
theorem dL_use_32 : decode mL_use.2.1 32 = .ok (.iconst 0, 1) := by decide +kernel
theorem dL_use_33 : decode mL_use.2.1 33 = .ok (.ireturn, 1) := by decide +kernel
theorem dL_runs_0 : decode mL_runs.2.1 0 = .ok (.aload_n 2, 1) := by decide +kernel
theorem dL_runs_1 : decode mL_runs.2.1 1 = .ok (.iconst 0, 1) := by decide +kernel
theorem dL_runs_2 : decode mL_runs.2.1 2 = .ok (.aload_n 0, 1) := by decide +kernel
theorem dL_runs_3 : decode mL_runs.2.1 3 = .ok (.iload_n 1, 1) := by decide +kernel
theorem dL_runs_4 : decode mL_runs.2.1 4 = .ok (.invokevirtual 41, 3) := by decide +kernel
theorem dL_runs_7 : decode mL_runs.2.1 7 = .ok (.ifCond .eq 7, 3) := by decide +kernel
theorem dL_runs_10 : decode mL_runs.2.1 10 = .ok (.lconst 1, 1) := by decide +kernel
theorem dL_runs_11 : decode mL_runs.2.1 11 = .ok (.goto 4, 3) := by decide +kernel
theorem dL_runs_14 : decode mL_runs.2.1 14 = .ok (.lconst 0, 1) := by decide +kernel
theorem dL_runs_15 : decode mL_runs.2.1 15 = .ok (.lastore, 1) := by decide +kernel
theorem dL_runs_16 : decode mL_runs.2.1 16 = .ok (.goto 6, 3) := by decide +kernel
theorem dL_runs_19 : decode mL_runs.2.1 19 = .ok (.astore_n 3, 1) := by decide +kernel
theorem dL_runs_20 : decode mL_runs.2.1 20 = .ok (.iconst 1, 1) := by decide +kernel
theorem dL_runs_21 : decode mL_runs.2.1 21 = .ok (.ireturn, 1) := by decide +kernel
theorem dL_runs_22 : decode mL_runs.2.1 22 = .ok (.iconst 0, 1) := by decide +kernel
theorem dL_runs_23 : decode mL_runs.2.1 23 = .ok (.ireturn, 1) := by decide +kernel
theorem dL_reason_0 : decode mL_reason.2.1 0 = .ok (.aload_n 3, 1) := by decide +kernel
theorem dL_reason_1 : decode mL_reason.2.1 1 = .ok (.iconst 0, 1) := by decide +kernel
theorem dL_reason_2 : decode mL_reason.2.1 2 = .ok (.aload_n 0, 1) := by decide +kernel
theorem dL_reason_3 : decode mL_reason.2.1 3 = .ok (.iload_n 1, 1) := by decide +kernel
theorem dL_reason_4 : decode mL_reason.2.1 4 = .ok (.iload_n 2, 1) := by decide +kernel
theorem dL_reason_5 : decode mL_reason.2.1 5 = .ok (.invokevirtual 45, 3) := by decide +kernel
theorem dL_reason_8 : decode mL_reason.2.1 8 = .ok (.i2l, 1) := by decide +kernel
theorem dL_reason_9 : decode mL_reason.2.1 9 = .ok (.lastore, 1) := by decide +kernel
theorem dL_reason_10 : decode mL_reason.2.1 10 = .ok (.goto 11, 3) := by decide +kernel
theorem dL_reason_13 : decode mL_reason.2.1 13 = .ok (.astore 4, 2) := by decide +kernel
theorem dL_reason_15 : decode mL_reason.2.1 15 = .ok (.iconst 1, 1) := by decide +kernel
theorem dL_reason_16 : decode mL_reason.2.1 16 = .ok (.ireturn, 1) := by decide +kernel
theorem dL_reason_17 : decode mL_reason.2.1 17 = .ok (.astore 4, 2) := by decide +kernel
theorem dL_reason_19 : decode mL_reason.2.1 19 = .ok (.iconst 2, 1) := by decide +kernel
theorem dL_reason_20 : decode mL_reason.2.1 20 = .ok (.ireturn, 1) := by decide +kernel
theorem dL_reason_21 : decode mL_reason.2.1 21 = .ok (.iconst 0, 1) := by decide +kernel
theorem dL_reason_22 : decode mL_reason.2.1 22 = .ok (.ireturn, 1) := by decide +kernel
theorem dL_off_0 : decode mL_off.2.1 0 = .ok (.aload_n 0, 1) := by decide +kernel
theorem dL_off_1 : decode mL_off.2.1 1 = .ok (.iload_n 1, 1) := by decide +kernel
theorem dL_off_2 : decode mL_off.2.1 2 = .ok (.iload_n 2, 1) := by decide +kernel
theorem dL_off_3 : decode mL_off.2.1 3 = .ok (.iload_n 3, 1) := by decide +kernel
theorem dL_off_4 : decode mL_off.2.1 4 = .ok (.iload 4, 2) := by decide +kernel
theorem dL_off_6 : decode mL_off.2.1 6 = .ok (.invokevirtual 49, 3) := by decide +kernel
theorem dL_off_9 : decode mL_off.2.1 9 = .ok (.goto 11, 3) := by decide +kernel
theorem dL_off_12 : decode mL_off.2.1 12 = .ok (.astore 5, 2) := by decide +kernel
theorem dL_off_14 : decode mL_off.2.1 14 = .ok (.iconst 1, 1) := by decide +kernel
theorem dL_off_15 : decode mL_off.2.1 15 = .ok (.ireturn, 1) := by decide +kernel
theorem dL_off_16 : decode mL_off.2.1 16 = .ok (.astore 5, 2) := by decide +kernel
theorem dL_off_18 : decode mL_off.2.1 18 = .ok (.iconst 2, 1) := by decide +kernel
theorem dL_off_19 : decode mL_off.2.1 19 = .ok (.ireturn, 1) := by decide +kernel
theorem dL_off_20 : decode mL_off.2.1 20 = .ok (.iconst 0, 1) := by decide +kernel
theorem dL_off_21 : decode mL_off.2.1 21 = .ok (.ireturn, 1) := by decide +kernel
theorem dL_damage_0 : decode mL_damage.2.1 0 = .ok (.aload_n 3, 1) := by decide +kernel
theorem dL_damage_1 : decode mL_damage.2.1 1 = .ok (.iconst 0, 1) := by decide +kernel
theorem dL_damage_2 : decode mL_damage.2.1 2 = .ok (.aload_n 0, 1) := by decide +kernel
theorem dL_damage_3 : decode mL_damage.2.1 3 = .ok (.iload_n 1, 1) := by decide +kernel
theorem dL_damage_4 : decode mL_damage.2.1 4 = .ok (.iload_n 2, 1) := by decide +kernel
theorem dL_damage_5 : decode mL_damage.2.1 5 = .ok (.invokevirtual 53, 3) := by decide +kernel
theorem dL_damage_8 : decode mL_damage.2.1 8 = .ok (.i2l, 1) := by decide +kernel
theorem dL_damage_9 : decode mL_damage.2.1 9 = .ok (.lastore, 1) := by decide +kernel
theorem dL_damage_10 : decode mL_damage.2.1 10 = .ok (.goto 15, 3) := by decide +kernel
theorem dL_damage_13 : decode mL_damage.2.1 13 = .ok (.astore 4, 2) := by decide +kernel
theorem dL_damage_15 : decode mL_damage.2.1 15 = .ok (.iconst 1, 1) := by decide +kernel
theorem dL_damage_16 : decode mL_damage.2.1 16 = .ok (.ireturn, 1) := by decide +kernel
theorem dL_damage_17 : decode mL_damage.2.1 17 = .ok (.astore 4, 2) := by decide +kernel
theorem dL_damage_19 : decode mL_damage.2.1 19 = .ok (.iconst 2, 1) := by decide +kernel
theorem dL_damage_20 : decode mL_damage.2.1 20 = .ok (.ireturn, 1) := by decide +kernel
theorem dL_damage_21 : decode mL_damage.2.1 21 = .ok (.astore 4, 2) := by decide +kernel
theorem dL_damage_23 : decode mL_damage.2.1 23 = .ok (.iconst 3, 1) := by decide +kernel
theorem dL_damage_24 : decode mL_damage.2.1 24 = .ok (.ireturn, 1) := by decide +kernel
theorem dL_damage_25 : decode mL_damage.2.1 25 = .ok (.iconst 0, 1) := by decide +kernel
theorem dL_damage_26 : decode mL_damage.2.1 26 = .ok (.ireturn, 1) := by decide +kernel
theorem dL_proof_0 : decode mL_proof.2.1 0 = .ok (.aload_n 0, 1) := by decide +kernel
theorem dL_proof_1 : decode mL_proof.2.1 1 = .ok (.iload_n 1, 1) := by decide +kernel
theorem dL_proof_2 : decode mL_proof.2.1 2 = .ok (.iload_n 2, 1) := by decide +kernel
theorem dL_proof_3 : decode mL_proof.2.1 3 = .ok (.invokevirtual 56, 3) := by decide +kernel
theorem dL_proof_6 : decode mL_proof.2.1 6 = .ok (.goto 12, 3) := by decide +kernel
theorem dL_proof_9 : decode mL_proof.2.1 9 = .ok (.astore_n 3, 1) := by decide +kernel
theorem dL_proof_10 : decode mL_proof.2.1 10 = .ok (.iconst 1, 1) := by decide +kernel
theorem dL_proof_11 : decode mL_proof.2.1 11 = .ok (.ireturn, 1) := by decide +kernel
theorem dL_proof_12 : decode mL_proof.2.1 12 = .ok (.astore_n 3, 1) := by decide +kernel
theorem dL_proof_13 : decode mL_proof.2.1 13 = .ok (.iconst 2, 1) := by decide +kernel
theorem dL_proof_14 : decode mL_proof.2.1 14 = .ok (.ireturn, 1) := by decide +kernel
theorem dL_proof_15 : decode mL_proof.2.1 15 = .ok (.astore_n 3, 1) := by decide +kernel
theorem dL_proof_16 : decode mL_proof.2.1 16 = .ok (.iconst 3, 1) := by decide +kernel
theorem dL_proof_17 : decode mL_proof.2.1 17 = .ok (.ireturn, 1) := by decide +kernel
theorem dL_proof_18 : decode mL_proof.2.1 18 = .ok (.iconst 0, 1) := by decide +kernel
theorem dL_proof_19 : decode mL_proof.2.1 19 = .ok (.ireturn, 1) := by decide +kernel
theorem dL_need_0 : decode mL_need.2.1 0 = .ok (.aload_n 0, 1) := by decide +kernel
theorem dL_need_1 : decode mL_need.2.1 1 = .ok (.iload_n 1, 1) := by decide +kernel
theorem dL_need_2 : decode mL_need.2.1 2 = .ok (.iload_n 2, 1) := by decide +kernel
theorem dL_need_3 : decode mL_need.2.1 3 = .ok (.iload_n 3, 1) := by decide +kernel
theorem dL_need_4 : decode mL_need.2.1 4 = .ok (.invokevirtual 59, 3) := by decide +kernel
theorem dL_need_7 : decode mL_need.2.1 7 = .ok (.goto 11, 3) := by decide +kernel
theorem dL_need_10 : decode mL_need.2.1 10 = .ok (.astore 4, 2) := by decide +kernel
theorem dL_need_12 : decode mL_need.2.1 12 = .ok (.iconst 1, 1) := by decide +kernel
theorem dL_need_13 : decode mL_need.2.1 13 = .ok (.ireturn, 1) := by decide +kernel
theorem dL_need_14 : decode mL_need.2.1 14 = .ok (.astore 4, 2) := by decide +kernel
theorem dL_need_16 : decode mL_need.2.1 16 = .ok (.iconst 2, 1) := by decide +kernel
theorem dL_need_17 : decode mL_need.2.1 17 = .ok (.ireturn, 1) := by decide +kernel
theorem dL_need_18 : decode mL_need.2.1 18 = .ok (.iconst 0, 1) := by decide +kernel
theorem dL_need_19 : decode mL_need.2.1 19 = .ok (.ireturn, 1) := by decide +kernel
theorem dL_put_0 : decode mL_put.2.1 0 = .ok (.aload 4, 2) := by decide +kernel
theorem dL_put_2 : decode mL_put.2.1 2 = .ok (.iconst 0, 1) := by decide +kernel
theorem dL_put_3 : decode mL_put.2.1 3 = .ok (.aload_n 0, 1) := by decide +kernel
theorem dL_put_4 : decode mL_put.2.1 4 = .ok (.iload_n 1, 1) := by decide +kernel
theorem dL_put_5 : decode mL_put.2.1 5 = .ok (.iload_n 2, 1) := by decide +kernel
theorem dL_put_6 : decode mL_put.2.1 6 = .ok (.iload_n 3, 1) := by decide +kernel
theorem dL_put_7 : decode mL_put.2.1 7 = .ok (.invokevirtual 63, 3) := by decide +kernel
theorem dL_put_10 : decode mL_put.2.1 10 = .ok (.i2l, 1) := by decide +kernel
theorem dL_put_11 : decode mL_put.2.1 11 = .ok (.lastore, 1) := by decide +kernel
theorem dL_put_12 : decode mL_put.2.1 12 = .ok (.goto 15, 3) := by decide +kernel
theorem dL_put_15 : decode mL_put.2.1 15 = .ok (.astore 5, 2) := by decide +kernel
theorem dL_put_17 : decode mL_put.2.1 17 = .ok (.iconst 1, 1) := by decide +kernel
theorem dL_put_18 : decode mL_put.2.1 18 = .ok (.ireturn, 1) := by decide +kernel
theorem dL_put_19 : decode mL_put.2.1 19 = .ok (.astore 5, 2) := by decide +kernel
theorem dL_put_21 : decode mL_put.2.1 21 = .ok (.iconst 2, 1) := by decide +kernel
theorem dL_put_22 : decode mL_put.2.1 22 = .ok (.ireturn, 1) := by decide +kernel
theorem dL_put_23 : decode mL_put.2.1 23 = .ok (.astore 5, 2) := by decide +kernel
theorem dL_put_25 : decode mL_put.2.1 25 = .ok (.iconst 3, 1) := by decide +kernel
theorem dL_put_26 : decode mL_put.2.1 26 = .ok (.ireturn, 1) := by decide +kernel
theorem dL_put_27 : decode mL_put.2.1 27 = .ok (.iconst 0, 1) := by decide +kernel
theorem dL_put_28 : decode mL_put.2.1 28 = .ok (.ireturn, 1) := by decide +kernel
theorem dL_swap_0 : decode mL_swap.2.1 0 = .ok (.aload 4, 2) := by decide +kernel
theorem dL_swap_2 : decode mL_swap.2.1 2 = .ok (.iconst 0, 1) := by decide +kernel
theorem dL_swap_3 : decode mL_swap.2.1 3 = .ok (.aload_n 0, 1) := by decide +kernel
theorem dL_swap_4 : decode mL_swap.2.1 4 = .ok (.iload_n 1, 1) := by decide +kernel
theorem dL_swap_5 : decode mL_swap.2.1 5 = .ok (.iload_n 2, 1) := by decide +kernel
theorem dL_swap_6 : decode mL_swap.2.1 6 = .ok (.iload_n 3, 1) := by decide +kernel
theorem dL_swap_7 : decode mL_swap.2.1 7 = .ok (.invokevirtual 66, 3) := by decide +kernel
theorem dL_swap_10 : decode mL_swap.2.1 10 = .ok (.i2l, 1) := by decide +kernel
theorem dL_swap_11 : decode mL_swap.2.1 11 = .ok (.lastore, 1) := by decide +kernel
theorem dL_swap_12 : decode mL_swap.2.1 12 = .ok (.goto 11, 3) := by decide +kernel
theorem dL_swap_15 : decode mL_swap.2.1 15 = .ok (.astore 5, 2) := by decide +kernel
theorem dL_swap_17 : decode mL_swap.2.1 17 = .ok (.iconst 1, 1) := by decide +kernel
theorem dL_swap_18 : decode mL_swap.2.1 18 = .ok (.ireturn, 1) := by decide +kernel
theorem dL_swap_19 : decode mL_swap.2.1 19 = .ok (.astore 5, 2) := by decide +kernel
theorem dL_swap_21 : decode mL_swap.2.1 21 = .ok (.iconst 2, 1) := by decide +kernel
theorem dL_swap_22 : decode mL_swap.2.1 22 = .ok (.ireturn, 1) := by decide +kernel
theorem dL_swap_23 : decode mL_swap.2.1 23 = .ok (.iconst 0, 1) := by decide +kernel
theorem dL_swap_24 : decode mL_swap.2.1 24 = .ok (.ireturn, 1) := by decide +kernel
theorem dL_spare_0 : decode mL_spare.2.1 0 = .ok (.aload_n 2, 1) := by decide +kernel
theorem dL_spare_1 : decode mL_spare.2.1 1 = .ok (.iconst 0, 1) := by decide +kernel
theorem dL_spare_2 : decode mL_spare.2.1 2 = .ok (.aload_n 0, 1) := by decide +kernel
theorem dL_spare_3 : decode mL_spare.2.1 3 = .ok (.iload_n 1, 1) := by decide +kernel
theorem dL_spare_4 : decode mL_spare.2.1 4 = .ok (.invokevirtual 69, 3) := by decide +kernel
theorem dL_spare_7 : decode mL_spare.2.1 7 = .ok (.i2l, 1) := by decide +kernel
theorem dL_spare_8 : decode mL_spare.2.1 8 = .ok (.lastore, 1) := by decide +kernel
theorem dL_spare_9 : decode mL_spare.2.1 9 = .ok (.goto 6, 3) := by decide +kernel
theorem dL_spare_12 : decode mL_spare.2.1 12 = .ok (.astore_n 3, 1) := by decide +kernel
theorem dL_spare_13 : decode mL_spare.2.1 13 = .ok (.iconst 1, 1) := by decide +kernel
theorem dL_spare_14 : decode mL_spare.2.1 14 = .ok (.ireturn, 1) := by decide +kernel
theorem dL_spare_15 : decode mL_spare.2.1 15 = .ok (.iconst 0, 1) := by decide +kernel
theorem dL_spare_16 : decode mL_spare.2.1 16 = .ok (.ireturn, 1) := by decide +kernel
theorem dL_fuel_0 : decode mL_fuel.2.1 0 = .ok (.aload_n 3, 1) := by decide +kernel
theorem dL_fuel_1 : decode mL_fuel.2.1 1 = .ok (.iconst 0, 1) := by decide +kernel
theorem dL_fuel_2 : decode mL_fuel.2.1 2 = .ok (.aload_n 0, 1) := by decide +kernel
theorem dL_fuel_3 : decode mL_fuel.2.1 3 = .ok (.iload_n 1, 1) := by decide +kernel
theorem dL_fuel_4 : decode mL_fuel.2.1 4 = .ok (.iload_n 2, 1) := by decide +kernel
theorem dL_fuel_5 : decode mL_fuel.2.1 5 = .ok (.invokevirtual 73, 3) := by decide +kernel
theorem dL_fuel_8 : decode mL_fuel.2.1 8 = .ok (.i2l, 1) := by decide +kernel
theorem dL_fuel_9 : decode mL_fuel.2.1 9 = .ok (.lastore, 1) := by decide +kernel
theorem dL_fuel_10 : decode mL_fuel.2.1 10 = .ok (.goto 15, 3) := by decide +kernel
theorem dL_fuel_13 : decode mL_fuel.2.1 13 = .ok (.astore 4, 2) := by decide +kernel
theorem dL_fuel_15 : decode mL_fuel.2.1 15 = .ok (.iconst 1, 1) := by decide +kernel
theorem dL_fuel_16 : decode mL_fuel.2.1 16 = .ok (.ireturn, 1) := by decide +kernel
theorem dL_fuel_17 : decode mL_fuel.2.1 17 = .ok (.astore 4, 2) := by decide +kernel
theorem dL_fuel_19 : decode mL_fuel.2.1 19 = .ok (.iconst 2, 1) := by decide +kernel
theorem dL_fuel_20 : decode mL_fuel.2.1 20 = .ok (.ireturn, 1) := by decide +kernel
theorem dL_fuel_21 : decode mL_fuel.2.1 21 = .ok (.astore 4, 2) := by decide +kernel
theorem dL_fuel_23 : decode mL_fuel.2.1 23 = .ok (.iconst 3, 1) := by decide +kernel
theorem dL_fuel_24 : decode mL_fuel.2.1 24 = .ok (.ireturn, 1) := by decide +kernel
theorem dL_fuel_25 : decode mL_fuel.2.1 25 = .ok (.iconst 0, 1) := by decide +kernel
theorem dL_fuel_26 : decode mL_fuel.2.1 26 = .ok (.ireturn, 1) := by decide +kernel
theorem dL_using_0 : decode mL_using.2.1 0 = .ok (.aload_n 3, 1) := by decide +kernel
theorem dL_using_1 : decode mL_using.2.1 1 = .ok (.iconst 0, 1) := by decide +kernel
theorem dL_using_2 : decode mL_using.2.1 2 = .ok (.aload_n 0, 1) := by decide +kernel
theorem dL_using_3 : decode mL_using.2.1 3 = .ok (.iload_n 1, 1) := by decide +kernel
theorem dL_using_4 : decode mL_using.2.1 4 = .ok (.iload_n 2, 1) := by decide +kernel
theorem dL_using_5 : decode mL_using.2.1 5 = .ok (.invokevirtual 76, 3) := by decide +kernel
theorem dL_using_8 : decode mL_using.2.1 8 = .ok (.lastore, 1) := by decide +kernel
theorem dL_using_9 : decode mL_using.2.1 9 = .ok (.goto 11, 3) := by decide +kernel
theorem dL_using_12 : decode mL_using.2.1 12 = .ok (.astore 4, 2) := by decide +kernel
theorem dL_using_14 : decode mL_using.2.1 14 = .ok (.iconst 1, 1) := by decide +kernel
theorem dL_using_15 : decode mL_using.2.1 15 = .ok (.ireturn, 1) := by decide +kernel
theorem dL_using_16 : decode mL_using.2.1 16 = .ok (.astore 4, 2) := by decide +kernel
theorem dL_using_18 : decode mL_using.2.1 18 = .ok (.iconst 2, 1) := by decide +kernel
theorem dL_using_19 : decode mL_using.2.1 19 = .ok (.ireturn, 1) := by decide +kernel
theorem dL_using_20 : decode mL_using.2.1 20 = .ok (.iconst 0, 1) := by decide +kernel
theorem dL_using_21 : decode mL_using.2.1 21 = .ok (.ireturn, 1) := by decide +kernel
theorem dL_key_0 : decode mL_key.2.1 0 = .ok (.aload_n 3, 1) := by decide +kernel
theorem dL_key_1 : decode mL_key.2.1 1 = .ok (.iconst 0, 1) := by decide +kernel
theorem dL_key_2 : decode mL_key.2.1 2 = .ok (.aload_n 0, 1) := by decide +kernel
theorem dL_key_3 : decode mL_key.2.1 3 = .ok (.iload_n 1, 1) := by decide +kernel
theorem dL_key_4 : decode mL_key.2.1 4 = .ok (.iload_n 2, 1) := by decide +kernel
theorem dL_key_5 : decode mL_key.2.1 5 = .ok (.invokevirtual 80, 3) := by decide +kernel
theorem dL_key_8 : decode mL_key.2.1 8 = .ok (.i2l, 1) := by decide +kernel
theorem dL_key_9 : decode mL_key.2.1 9 = .ok (.lastore, 1) := by decide +kernel
theorem dL_key_10 : decode mL_key.2.1 10 = .ok (.goto 11, 3) := by decide +kernel
theorem dL_key_13 : decode mL_key.2.1 13 = .ok (.astore 4, 2) := by decide +kernel
theorem dL_key_15 : decode mL_key.2.1 15 = .ok (.iconst 1, 1) := by decide +kernel
theorem dL_key_16 : decode mL_key.2.1 16 = .ok (.ireturn, 1) := by decide +kernel
theorem dL_key_17 : decode mL_key.2.1 17 = .ok (.astore 4, 2) := by decide +kernel
theorem dL_key_19 : decode mL_key.2.1 19 = .ok (.iconst 2, 1) := by decide +kernel
theorem dL_key_20 : decode mL_key.2.1 20 = .ok (.ireturn, 1) := by decide +kernel
theorem dL_key_21 : decode mL_key.2.1 21 = .ok (.iconst 0, 1) := by decide +kernel
theorem dL_key_22 : decode mL_key.2.1 22 = .ok (.ireturn, 1) := by decide +kernel
theorem dL_cost_0 : decode mL_cost.2.1 0 = .ok (.aload_n 3, 1) := by decide +kernel
theorem dL_cost_1 : decode mL_cost.2.1 1 = .ok (.iconst 0, 1) := by decide +kernel
theorem dL_cost_2 : decode mL_cost.2.1 2 = .ok (.aload_n 0, 1) := by decide +kernel
theorem dL_cost_3 : decode mL_cost.2.1 3 = .ok (.iload_n 1, 1) := by decide +kernel
theorem dL_cost_4 : decode mL_cost.2.1 4 = .ok (.iload_n 2, 1) := by decide +kernel
theorem dL_cost_5 : decode mL_cost.2.1 5 = .ok (.invokevirtual 83, 3) := by decide +kernel
theorem dL_cost_8 : decode mL_cost.2.1 8 = .ok (.i2l, 1) := by decide +kernel
theorem dL_cost_9 : decode mL_cost.2.1 9 = .ok (.lastore, 1) := by decide +kernel
theorem dL_cost_10 : decode mL_cost.2.1 10 = .ok (.goto 15, 3) := by decide +kernel
theorem dL_cost_13 : decode mL_cost.2.1 13 = .ok (.astore 4, 2) := by decide +kernel
theorem dL_cost_15 : decode mL_cost.2.1 15 = .ok (.iconst 1, 1) := by decide +kernel
theorem dL_cost_16 : decode mL_cost.2.1 16 = .ok (.ireturn, 1) := by decide +kernel
theorem dL_cost_17 : decode mL_cost.2.1 17 = .ok (.astore 4, 2) := by decide +kernel
theorem dL_cost_19 : decode mL_cost.2.1 19 = .ok (.iconst 2, 1) := by decide +kernel
theorem dL_cost_20 : decode mL_cost.2.1 20 = .ok (.ireturn, 1) := by decide +kernel
theorem dL_cost_21 : decode mL_cost.2.1 21 = .ok (.astore 4, 2) := by decide +kernel
theorem dL_cost_23 : decode mL_cost.2.1 23 = .ok (.iconst 3, 1) := by decide +kernel
theorem dL_cost_24 : decode mL_cost.2.1 24 = .ok (.ireturn, 1) := by decide +kernel
theorem dL_cost_25 : decode mL_cost.2.1 25 = .ok (.iconst 0, 1) := by decide +kernel
theorem dL_cost_26 : decode mL_cost.2.1 26 = .ok (.ireturn, 1) := by decide +kernel
theorem dL_skipped_0 : decode mL_skipped.2.1 0 = .ok (.aload_n 2, 1) := by decide +kernel
theorem dL_skipped_1 : decode mL_skipped.2.1 1 = .ok (.iconst 0, 1) := by decide +kernel
theorem dL_skipped_2 : decode mL_skipped.2.1 2 = .ok (.aload_n 0, 1) := by decide +kernel
theorem dL_skipped_3 : decode mL_skipped.2.1 3 = .ok (.iload_n 1, 1) := by decide +kernel
theorem dL_skipped_4 : decode mL_skipped.2.1 4 = .ok (.invokevirtual 86, 3) := by decide +kernel
theorem dL_skipped_7 : decode mL_skipped.2.1 7 = .ok (.i2l, 1) := by decide +kernel
theorem dL_skipped_8 : decode mL_skipped.2.1 8 = .ok (.lastore, 1) := by decide +kernel
theorem dL_skipped_9 : decode mL_skipped.2.1 9 = .ok (.goto 6, 3) := by decide +kernel
theorem dL_skipped_12 : decode mL_skipped.2.1 12 = .ok (.astore_n 3, 1) := by decide +kernel
theorem dL_skipped_13 : decode mL_skipped.2.1 13 = .ok (.iconst 1, 1) := by decide +kernel
theorem dL_skipped_14 : decode mL_skipped.2.1 14 = .ok (.ireturn, 1) := by decide +kernel
theorem dL_skipped_15 : decode mL_skipped.2.1 15 = .ok (.iconst 0, 1) := by decide +kernel
theorem dL_skipped_16 : decode mL_skipped.2.1 16 = .ok (.ireturn, 1) := by decide +kernel
theorem dL_tick_0 : decode mL_tick.2.1 0 = .ok (.aload_n 2, 1) := by decide +kernel
theorem dL_tick_1 : decode mL_tick.2.1 1 = .ok (.iconst 0, 1) := by decide +kernel
theorem dL_tick_2 : decode mL_tick.2.1 2 = .ok (.aload_n 0, 1) := by decide +kernel
theorem dL_tick_3 : decode mL_tick.2.1 3 = .ok (.iload_n 1, 1) := by decide +kernel
theorem dL_tick_4 : decode mL_tick.2.1 4 = .ok (.invokevirtual 89, 3) := by decide +kernel
theorem dL_tick_7 : decode mL_tick.2.1 7 = .ok (.i2l, 1) := by decide +kernel
theorem dL_tick_8 : decode mL_tick.2.1 8 = .ok (.lastore, 1) := by decide +kernel
theorem dL_tick_9 : decode mL_tick.2.1 9 = .ok (.goto 6, 3) := by decide +kernel
theorem dL_tick_12 : decode mL_tick.2.1 12 = .ok (.astore_n 3, 1) := by decide +kernel
theorem dL_tick_13 : decode mL_tick.2.1 13 = .ok (.iconst 1, 1) := by decide +kernel
theorem dL_tick_14 : decode mL_tick.2.1 14 = .ok (.ireturn, 1) := by decide +kernel
theorem dL_tick_15 : decode mL_tick.2.1 15 = .ok (.iconst 0, 1) := by decide +kernel
theorem dL_tick_16 : decode mL_tick.2.1 16 = .ok (.ireturn, 1) := by decide +kernel
theorem dL_vehicleAt_0 : decode mL_vehicleAt.2.1 0 = .ok (.aload_n 3, 1) := by decide +kernel
theorem dL_vehicleAt_1 : decode mL_vehicleAt.2.1 1 = .ok (.iconst 0, 1) := by decide +kernel
theorem dL_vehicleAt_2 : decode mL_vehicleAt.2.1 2 = .ok (.aload_n 0, 1) := by decide +kernel
theorem dL_vehicleAt_3 : decode mL_vehicleAt.2.1 3 = .ok (.iload_n 1, 1) := by decide +kernel
theorem dL_vehicleAt_4 : decode mL_vehicleAt.2.1 4 = .ok (.iload_n 2, 1) := by decide +kernel
theorem dL_vehicleAt_5 : decode mL_vehicleAt.2.1 5 = .ok (.invokevirtual 92, 3) := by decide +kernel
theorem dL_vehicleAt_8 : decode mL_vehicleAt.2.1 8 = .ok (.i2l, 1) := by decide +kernel
theorem dL_vehicleAt_9 : decode mL_vehicleAt.2.1 9 = .ok (.lastore, 1) := by decide +kernel
theorem dL_vehicleAt_10 : decode mL_vehicleAt.2.1 10 = .ok (.goto 7, 3) := by decide +kernel
theorem dL_vehicleAt_13 : decode mL_vehicleAt.2.1 13 = .ok (.astore 4, 2) := by decide +kernel
theorem dL_vehicleAt_15 : decode mL_vehicleAt.2.1 15 = .ok (.iconst 1, 1) := by decide +kernel
theorem dL_vehicleAt_16 : decode mL_vehicleAt.2.1 16 = .ok (.ireturn, 1) := by decide +kernel
theorem dL_vehicleAt_17 : decode mL_vehicleAt.2.1 17 = .ok (.iconst 0, 1) := by decide +kernel
theorem dL_vehicleAt_18 : decode mL_vehicleAt.2.1 18 = .ok (.ireturn, 1) := by decide +kernel
