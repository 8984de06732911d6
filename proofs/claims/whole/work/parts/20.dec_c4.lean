theorem dc_R_dependsOnStable_0 : decode bc_R_dependsOnStable 0 = .ok (.aload_n 0, 1) := by decide +kernel
theorem dc_R_dependsOnStable_1 : decode bc_R_dependsOnStable 1 = .ok (.iload_n 1, 1) := by decide +kernel
theorem dc_R_dependsOnStable_2 : decode bc_R_dependsOnStable 2 = .ok (.invokevirtual 100, 3) := by decide +kernel
theorem dc_R_dependsOnStable_5 : decode bc_R_dependsOnStable 5 = .ok (.iconst 1, 1) := by decide +kernel
theorem dc_R_dependsOnStable_6 : decode bc_R_dependsOnStable 6 = .ok (.istore_n 2, 1) := by decide +kernel
theorem dc_R_dependsOnStable_7 : decode bc_R_dependsOnStable 7 = .ok (.iconst 0, 1) := by decide +kernel
theorem dc_R_dependsOnStable_8 : decode bc_R_dependsOnStable 8 = .ok (.istore_n 3, 1) := by decide +kernel
theorem dc_R_dependsOnStable_9 : decode bc_R_dependsOnStable 9 = .ok (.iload_n 3, 1) := by decide +kernel
theorem dc_R_dependsOnStable_10 : decode bc_R_dependsOnStable 10 = .ok (.aload_n 0, 1) := by decide +kernel
theorem dc_R_dependsOnStable_11 : decode bc_R_dependsOnStable 11 = .ok (.getfield 83, 3) := by decide +kernel
theorem dc_R_dependsOnStable_14 : decode bc_R_dependsOnStable 14 = .ok (.if_icmp .ge 37, 3) := by decide +kernel
theorem dc_R_dependsOnStable_17 : decode bc_R_dependsOnStable 17 = .ok (.iload_n 2, 1) := by decide +kernel
theorem dc_R_dependsOnStable_18 : decode bc_R_dependsOnStable 18 = .ok (.ifCond .eq 25, 3) := by decide +kernel
theorem dc_R_dependsOnStable_21 : decode bc_R_dependsOnStable 21 = .ok (.aload_n 0, 1) := by decide +kernel
theorem dc_R_dependsOnStable_22 : decode bc_R_dependsOnStable 22 = .ok (.getfield 35, 3) := by decide +kernel
theorem dc_R_dependsOnStable_25 : decode bc_R_dependsOnStable 25 = .ok (.iload_n 3, 1) := by decide +kernel
theorem dc_R_dependsOnStable_26 : decode bc_R_dependsOnStable 26 = .ok (.baload, 1) := by decide +kernel
theorem dc_R_dependsOnStable_27 : decode bc_R_dependsOnStable 27 = .ok (.ifCond .eq 12, 3) := by decide +kernel
theorem dc_R_dependsOnStable_30 : decode bc_R_dependsOnStable 30 = .ok (.aload_n 0, 1) := by decide +kernel
theorem dc_R_dependsOnStable_31 : decode bc_R_dependsOnStable 31 = .ok (.getfield 19, 3) := by decide +kernel
theorem dc_R_dependsOnStable_34 : decode bc_R_dependsOnStable 34 = .ok (.iload_n 3, 1) := by decide +kernel
theorem dc_R_dependsOnStable_35 : decode bc_R_dependsOnStable 35 = .ok (.baload, 1) := by decide +kernel
theorem dc_R_dependsOnStable_36 : decode bc_R_dependsOnStable 36 = .ok (.ifCond .eq 7, 3) := by decide +kernel
theorem dc_R_dependsOnStable_39 : decode bc_R_dependsOnStable 39 = .ok (.iconst 1, 1) := by decide +kernel
theorem dc_R_dependsOnStable_40 : decode bc_R_dependsOnStable 40 = .ok (.goto 4, 3) := by decide +kernel
theorem dc_R_dependsOnStable_43 : decode bc_R_dependsOnStable 43 = .ok (.iconst 0, 1) := by decide +kernel
theorem dc_R_dependsOnStable_44 : decode bc_R_dependsOnStable 44 = .ok (.istore_n 2, 1) := by decide +kernel
theorem dc_R_dependsOnStable_45 : decode bc_R_dependsOnStable 45 = .ok (.iinc 3 1, 3) := by decide +kernel
theorem dc_R_dependsOnStable_48 : decode bc_R_dependsOnStable 48 = .ok (.goto (-39), 3) := by decide +kernel
theorem dc_R_dependsOnStable_51 : decode bc_R_dependsOnStable 51 = .ok (.iload_n 2, 1) := by decide +kernel
theorem dc_R_dependsOnStable_52 : decode bc_R_dependsOnStable 52 = .ok (.ireturn, 1) := by decide +kernel
theorem dc_R_released_0 : decode bc_R_released 0 = .ok (.aload_n 0, 1) := by decide +kernel
theorem dc_R_released_1 : decode bc_R_released 1 = .ok (.iload_n 1, 1) := by decide +kernel
theorem dc_R_released_2 : decode bc_R_released 2 = .ok (.invokevirtual 96, 3) := by decide +kernel
theorem dc_R_released_5 : decode bc_R_released 5 = .ok (.ifCond .eq 31, 3) := by decide +kernel
theorem dc_R_released_8 : decode bc_R_released 8 = .ok (.iload_n 2, 1) := by decide +kernel
theorem dc_R_released_9 : decode bc_R_released 9 = .ok (.ifCond .lt 27, 3) := by decide +kernel
theorem dc_R_released_12 : decode bc_R_released 12 = .ok (.iload_n 2, 1) := by decide +kernel
theorem dc_R_released_13 : decode bc_R_released 13 = .ok (.aload_n 0, 1) := by decide +kernel
theorem dc_R_released_14 : decode bc_R_released 14 = .ok (.getfield 77, 3) := by decide +kernel
theorem dc_R_released_17 : decode bc_R_released 17 = .ok (.iload_n 1, 1) := by decide +kernel
theorem dc_R_released_18 : decode bc_R_released 18 = .ok (.iaload, 1) := by decide +kernel
theorem dc_R_released_19 : decode bc_R_released 19 = .ok (.if_icmp .ge 17, 3) := by decide +kernel
theorem dc_R_released_22 : decode bc_R_released 22 = .ok (.aload_n 0, 1) := by decide +kernel
theorem dc_R_released_23 : decode bc_R_released 23 = .ok (.getfield 74, 3) := by decide +kernel
theorem dc_R_released_26 : decode bc_R_released 26 = .ok (.bipush 40, 2) := by decide +kernel
theorem dc_R_released_28 : decode bc_R_released 28 = .ok (.iload_n 1, 1) := by decide +kernel
theorem dc_R_released_29 : decode bc_R_released 29 = .ok (.imul, 1) := by decide +kernel
theorem dc_R_released_30 : decode bc_R_released 30 = .ok (.iload_n 2, 1) := by decide +kernel
theorem dc_R_released_31 : decode bc_R_released 31 = .ok (.iadd, 1) := by decide +kernel
theorem dc_R_released_32 : decode bc_R_released 32 = .ok (.iaload, 1) := by decide +kernel
theorem dc_R_released_33 : decode bc_R_released 33 = .ok (.goto 4, 3) := by decide +kernel
theorem dc_R_released_36 : decode bc_R_released 36 = .ok (.iconst 0, 1) := by decide +kernel
theorem dc_R_released_37 : decode bc_R_released 37 = .ok (.ireturn, 1) := by decide +kernel
theorem dc_R_outputs_0 : decode bc_R_outputs 0 = .ok (.aload_n 0, 1) := by decide +kernel
theorem dc_R_outputs_1 : decode bc_R_outputs 1 = .ok (.iload_n 1, 1) := by decide +kernel
theorem dc_R_outputs_2 : decode bc_R_outputs 2 = .ok (.invokevirtual 96, 3) := by decide +kernel
theorem dc_R_outputs_5 : decode bc_R_outputs 5 = .ok (.ifCond .eq 12, 3) := by decide +kernel
theorem dc_R_outputs_8 : decode bc_R_outputs 8 = .ok (.aload_n 0, 1) := by decide +kernel
theorem dc_R_outputs_9 : decode bc_R_outputs 9 = .ok (.getfield 77, 3) := by decide +kernel
theorem dc_R_outputs_12 : decode bc_R_outputs 12 = .ok (.iload_n 1, 1) := by decide +kernel
theorem dc_R_outputs_13 : decode bc_R_outputs 13 = .ok (.iaload, 1) := by decide +kernel
theorem dc_R_outputs_14 : decode bc_R_outputs 14 = .ok (.goto 4, 3) := by decide +kernel
theorem dc_R_outputs_17 : decode bc_R_outputs 17 = .ok (.iconst (-1), 1) := by decide +kernel
theorem dc_R_outputs_18 : decode bc_R_outputs 18 = .ok (.ireturn, 1) := by decide +kernel
theorem dc_R_state_0 : decode bc_R_state 0 = .ok (.aload_n 0, 1) := by decide +kernel
theorem dc_R_state_1 : decode bc_R_state 1 = .ok (.iload_n 1, 1) := by decide +kernel
theorem dc_R_state_2 : decode bc_R_state 2 = .ok (.invokevirtual 126, 3) := by decide +kernel
theorem dc_R_state_5 : decode bc_R_state 5 = .ok (.ifCond .eq 11, 3) := by decide +kernel
theorem dc_R_state_8 : decode bc_R_state 8 = .ok (.aload_n 0, 1) := by decide +kernel
theorem dc_R_state_9 : decode bc_R_state 9 = .ok (.iload_n 1, 1) := by decide +kernel
theorem dc_R_state_10 : decode bc_R_state 10 = .ok (.invokevirtual 119, 3) := by decide +kernel
theorem dc_R_state_13 : decode bc_R_state 13 = .ok (.goto 4, 3) := by decide +kernel
theorem dc_R_state_16 : decode bc_R_state 16 = .ok (.iconst 0, 1) := by decide +kernel
theorem dc_R_state_17 : decode bc_R_state 17 = .ok (.ireturn, 1) := by decide +kernel
theorem dc_R_length_0 : decode bc_R_length 0 = .ok (.aload_n 0, 1) := by decide +kernel
theorem dc_R_length_1 : decode bc_R_length 1 = .ok (.iload_n 1, 1) := by decide +kernel
theorem dc_R_length_2 : decode bc_R_length 2 = .ok (.invokevirtual 126, 3) := by decide +kernel
theorem dc_R_length_5 : decode bc_R_length 5 = .ok (.ifCond .eq 12, 3) := by decide +kernel
theorem dc_R_length_8 : decode bc_R_length 8 = .ok (.aload_n 0, 1) := by decide +kernel
theorem dc_R_length_9 : decode bc_R_length 9 = .ok (.getfield 59, 3) := by decide +kernel
theorem dc_R_length_12 : decode bc_R_length 12 = .ok (.iload_n 1, 1) := by decide +kernel
theorem dc_R_length_13 : decode bc_R_length 13 = .ok (.iaload, 1) := by decide +kernel
theorem dc_R_length_14 : decode bc_R_length 14 = .ok (.goto 4, 3) := by decide +kernel
theorem dc_R_length_17 : decode bc_R_length 17 = .ok (.iconst (-1), 1) := by decide +kernel
theorem dc_R_length_18 : decode bc_R_length 18 = .ok (.ireturn, 1) := by decide +kernel
theorem dc_R_known_0 : decode bc_R_known 0 = .ok (.aload_n 0, 1) := by decide +kernel
theorem dc_R_known_1 : decode bc_R_known 1 = .ok (.iload_n 1, 1) := by decide +kernel
theorem dc_R_known_2 : decode bc_R_known 2 = .ok (.invokevirtual 96, 3) := by decide +kernel
theorem dc_R_known_5 : decode bc_R_known 5 = .ok (.ifCond .eq 12, 3) := by decide +kernel
theorem dc_R_known_8 : decode bc_R_known 8 = .ok (.aload_n 0, 1) := by decide +kernel
theorem dc_R_known_9 : decode bc_R_known 9 = .ok (.getfield 62, 3) := by decide +kernel
theorem dc_R_known_12 : decode bc_R_known 12 = .ok (.iload_n 1, 1) := by decide +kernel
theorem dc_R_known_13 : decode bc_R_known 13 = .ok (.iaload, 1) := by decide +kernel
theorem dc_R_known_14 : decode bc_R_known 14 = .ok (.goto 4, 3) := by decide +kernel
theorem dc_R_known_17 : decode bc_R_known 17 = .ok (.iconst (-1), 1) := by decide +kernel
theorem dc_R_known_18 : decode bc_R_known 18 = .ok (.ireturn, 1) := by decide +kernel
theorem dc_R_status_0 : decode bc_R_status 0 = .ok (.aload_n 0, 1) := by decide +kernel
theorem dc_R_status_1 : decode bc_R_status 1 = .ok (.iload_n 1, 1) := by decide +kernel
theorem dc_R_status_2 : decode bc_R_status 2 = .ok (.invokevirtual 108, 3) := by decide +kernel
theorem dc_R_status_5 : decode bc_R_status 5 = .ok (.ifCond .eq 12, 3) := by decide +kernel
theorem dc_R_status_8 : decode bc_R_status 8 = .ok (.aload_n 0, 1) := by decide +kernel
theorem dc_R_status_9 : decode bc_R_status 9 = .ok (.getfield 44, 3) := by decide +kernel
theorem dc_R_status_12 : decode bc_R_status 12 = .ok (.iload_n 1, 1) := by decide +kernel
theorem dc_R_status_13 : decode bc_R_status 13 = .ok (.iaload, 1) := by decide +kernel
theorem dc_R_status_14 : decode bc_R_status 14 = .ok (.goto 4, 3) := by decide +kernel
theorem dc_R_status_17 : decode bc_R_status 17 = .ok (.iconst (-1), 1) := by decide +kernel
theorem dc_R_status_18 : decode bc_R_status 18 = .ok (.ireturn, 1) := by decide +kernel
theorem dc_R_orphans_0 : decode bc_R_orphans 0 = .ok (.iconst 0, 1) := by decide +kernel
theorem dc_R_orphans_1 : decode bc_R_orphans 1 = .ok (.istore_n 1, 1) := by decide +kernel
theorem dc_R_orphans_2 : decode bc_R_orphans 2 = .ok (.iconst 0, 1) := by decide +kernel
theorem dc_R_orphans_3 : decode bc_R_orphans 3 = .ok (.istore_n 2, 1) := by decide +kernel
theorem dc_R_orphans_4 : decode bc_R_orphans 4 = .ok (.iload_n 2, 1) := by decide +kernel
theorem dc_R_orphans_5 : decode bc_R_orphans 5 = .ok (.iconst 3, 1) := by decide +kernel
theorem dc_R_orphans_6 : decode bc_R_orphans 6 = .ok (.if_icmp .ge 62, 3) := by decide +kernel
theorem dc_R_orphans_9 : decode bc_R_orphans 9 = .ok (.iconst 0, 1) := by decide +kernel
theorem dc_R_orphans_10 : decode bc_R_orphans 10 = .ok (.istore_n 3, 1) := by decide +kernel
theorem dc_R_orphans_11 : decode bc_R_orphans 11 = .ok (.iload_n 3, 1) := by decide +kernel
theorem dc_R_orphans_12 : decode bc_R_orphans 12 = .ok (.aload_n 0, 1) := by decide +kernel
theorem dc_R_orphans_13 : decode bc_R_orphans 13 = .ok (.getfield 59, 3) := by decide +kernel
theorem dc_R_orphans_16 : decode bc_R_orphans 16 = .ok (.iload_n 2, 1) := by decide +kernel
theorem dc_R_orphans_17 : decode bc_R_orphans 17 = .ok (.iaload, 1) := by decide +kernel
theorem dc_R_orphans_18 : decode bc_R_orphans 18 = .ok (.if_icmp .ge 44, 3) := by decide +kernel
theorem dc_R_orphans_21 : decode bc_R_orphans 21 = .ok (.aload_n 0, 1) := by decide +kernel
theorem dc_R_orphans_22 : decode bc_R_orphans 22 = .ok (.getfield 53, 3) := by decide +kernel
theorem dc_R_orphans_25 : decode bc_R_orphans 25 = .ok (.iload_n 2, 1) := by decide +kernel
theorem dc_R_orphans_26 : decode bc_R_orphans 26 = .ok (.baload, 1) := by decide +kernel
theorem dc_R_orphans_27 : decode bc_R_orphans 27 = .ok (.ifCond .ne 27, 3) := by decide +kernel
theorem dc_R_orphans_30 : decode bc_R_orphans 30 = .ok (.aload_n 0, 1) := by decide +kernel
theorem dc_R_orphans_31 : decode bc_R_orphans 31 = .ok (.aload_n 0, 1) := by decide +kernel
theorem dc_R_orphans_32 : decode bc_R_orphans 32 = .ok (.getfield 56, 3) := by decide +kernel
theorem dc_R_orphans_35 : decode bc_R_orphans 35 = .ok (.bipush 40, 2) := by decide +kernel
theorem dc_R_orphans_37 : decode bc_R_orphans 37 = .ok (.iload_n 2, 1) := by decide +kernel
theorem dc_R_orphans_38 : decode bc_R_orphans 38 = .ok (.imul, 1) := by decide +kernel
theorem dc_R_orphans_39 : decode bc_R_orphans 39 = .ok (.iload_n 3, 1) := by decide +kernel
theorem dc_R_orphans_40 : decode bc_R_orphans 40 = .ok (.iadd, 1) := by decide +kernel
theorem dc_R_orphans_41 : decode bc_R_orphans 41 = .ok (.iaload, 1) := by decide +kernel
theorem dc_R_orphans_42 : decode bc_R_orphans 42 = .ok (.invokevirtual 145, 3) := by decide +kernel
theorem dc_R_orphans_45 : decode bc_R_orphans 45 = .ok (.ifCond .eq 9, 3) := by decide +kernel
theorem dc_R_orphans_48 : decode bc_R_orphans 48 = .ok (.iload_n 1, 1) := by decide +kernel
theorem dc_R_orphans_49 : decode bc_R_orphans 49 = .ok (.iconst 1, 1) := by decide +kernel
theorem dc_R_orphans_50 : decode bc_R_orphans 50 = .ok (.iadd, 1) := by decide +kernel
theorem dc_R_orphans_51 : decode bc_R_orphans 51 = .ok (.goto 4, 3) := by decide +kernel
theorem dc_R_orphans_54 : decode bc_R_orphans 54 = .ok (.iload_n 1, 1) := by decide +kernel
theorem dc_R_orphans_55 : decode bc_R_orphans 55 = .ok (.istore_n 1, 1) := by decide +kernel
theorem dc_R_orphans_56 : decode bc_R_orphans 56 = .ok (.iinc 3 1, 3) := by decide +kernel
theorem dc_R_orphans_59 : decode bc_R_orphans 59 = .ok (.goto (-48), 3) := by decide +kernel
theorem dc_R_orphans_62 : decode bc_R_orphans 62 = .ok (.iinc 2 1, 3) := by decide +kernel
theorem dc_R_orphans_65 : decode bc_R_orphans 65 = .ok (.goto (-61), 3) := by decide +kernel
theorem dc_R_orphans_68 : decode bc_R_orphans 68 = .ok (.iload_n 1, 1) := by decide +kernel
theorem dc_R_orphans_69 : decode bc_R_orphans 69 = .ok (.ireturn, 1) := by decide +kernel
theorem dc_R_dependsOnLost_0 : decode bc_R_dependsOnLost 0 = .ok (.aload_n 0, 1) := by decide +kernel
theorem dc_R_dependsOnLost_1 : decode bc_R_dependsOnLost 1 = .ok (.iload_n 1, 1) := by decide +kernel
theorem dc_R_dependsOnLost_2 : decode bc_R_dependsOnLost 2 = .ok (.invokevirtual 100, 3) := by decide +kernel
theorem dc_R_dependsOnLost_5 : decode bc_R_dependsOnLost 5 = .ok (.iconst 0, 1) := by decide +kernel
theorem dc_R_dependsOnLost_6 : decode bc_R_dependsOnLost 6 = .ok (.istore_n 2, 1) := by decide +kernel
theorem dc_R_dependsOnLost_7 : decode bc_R_dependsOnLost 7 = .ok (.iconst 0, 1) := by decide +kernel
theorem dc_R_dependsOnLost_8 : decode bc_R_dependsOnLost 8 = .ok (.istore_n 3, 1) := by decide +kernel
theorem dc_R_dependsOnLost_9 : decode bc_R_dependsOnLost 9 = .ok (.iload_n 3, 1) := by decide +kernel
theorem dc_R_dependsOnLost_10 : decode bc_R_dependsOnLost 10 = .ok (.aload_n 0, 1) := by decide +kernel
theorem dc_R_dependsOnLost_11 : decode bc_R_dependsOnLost 11 = .ok (.getfield 83, 3) := by decide +kernel
theorem dc_R_dependsOnLost_14 : decode bc_R_dependsOnLost 14 = .ok (.if_icmp .ge 37, 3) := by decide +kernel
theorem dc_R_dependsOnLost_17 : decode bc_R_dependsOnLost 17 = .ok (.iload_n 2, 1) := by decide +kernel
theorem dc_R_dependsOnLost_18 : decode bc_R_dependsOnLost 18 = .ok (.ifCond .ne 21, 3) := by decide +kernel
theorem dc_R_dependsOnLost_21 : decode bc_R_dependsOnLost 21 = .ok (.aload_n 0, 1) := by decide +kernel
theorem dc_R_dependsOnLost_22 : decode bc_R_dependsOnLost 22 = .ok (.getfield 35, 3) := by decide +kernel
theorem dc_R_dependsOnLost_25 : decode bc_R_dependsOnLost 25 = .ok (.iload_n 3, 1) := by decide +kernel
theorem dc_R_dependsOnLost_26 : decode bc_R_dependsOnLost 26 = .ok (.baload, 1) := by decide +kernel
theorem dc_R_dependsOnLost_27 : decode bc_R_dependsOnLost 27 = .ok (.ifCond .eq 16, 3) := by decide +kernel
theorem dc_R_dependsOnLost_30 : decode bc_R_dependsOnLost 30 = .ok (.aload_n 0, 1) := by decide +kernel
theorem dc_R_dependsOnLost_31 : decode bc_R_dependsOnLost 31 = .ok (.getfield 23, 3) := by decide +kernel
theorem dc_R_dependsOnLost_34 : decode bc_R_dependsOnLost 34 = .ok (.iload_n 3, 1) := by decide +kernel
theorem dc_R_dependsOnLost_35 : decode bc_R_dependsOnLost 35 = .ok (.baload, 1) := by decide +kernel
theorem dc_R_dependsOnLost_36 : decode bc_R_dependsOnLost 36 = .ok (.ifCond .eq 7, 3) := by decide +kernel
theorem dc_R_dependsOnLost_39 : decode bc_R_dependsOnLost 39 = .ok (.iconst 1, 1) := by decide +kernel
theorem dc_R_dependsOnLost_40 : decode bc_R_dependsOnLost 40 = .ok (.goto 4, 3) := by decide +kernel
theorem dc_R_dependsOnLost_43 : decode bc_R_dependsOnLost 43 = .ok (.iconst 0, 1) := by decide +kernel
theorem dc_R_dependsOnLost_44 : decode bc_R_dependsOnLost 44 = .ok (.istore_n 2, 1) := by decide +kernel
theorem dc_R_dependsOnLost_45 : decode bc_R_dependsOnLost 45 = .ok (.iinc 3 1, 3) := by decide +kernel
theorem dc_R_dependsOnLost_48 : decode bc_R_dependsOnLost 48 = .ok (.goto (-39), 3) := by decide +kernel
theorem dc_R_dependsOnLost_51 : decode bc_R_dependsOnLost 51 = .ok (.iload_n 2, 1) := by decide +kernel
theorem dc_R_dependsOnLost_52 : decode bc_R_dependsOnLost 52 = .ok (.ireturn, 1) := by decide +kernel
theorem dc_R_replayed_0 : decode bc_R_replayed 0 = .ok (.aload_n 0, 1) := by decide +kernel
theorem dc_R_replayed_1 : decode bc_R_replayed 1 = .ok (.iload_n 1, 1) := by decide +kernel
theorem dc_R_replayed_2 : decode bc_R_replayed 2 = .ok (.invokevirtual 96, 3) := by decide +kernel
theorem dc_R_replayed_5 : decode bc_R_replayed 5 = .ok (.ifCond .eq 12, 3) := by decide +kernel
theorem dc_R_replayed_8 : decode bc_R_replayed 8 = .ok (.aload_n 0, 1) := by decide +kernel
theorem dc_R_replayed_9 : decode bc_R_replayed 9 = .ok (.getfield 71, 3) := by decide +kernel
theorem dc_R_replayed_12 : decode bc_R_replayed 12 = .ok (.iload_n 1, 1) := by decide +kernel
theorem dc_R_replayed_13 : decode bc_R_replayed 13 = .ok (.iaload, 1) := by decide +kernel
theorem dc_R_replayed_14 : decode bc_R_replayed 14 = .ok (.goto 4, 3) := by decide +kernel
theorem dc_R_replayed_17 : decode bc_R_replayed 17 = .ok (.iconst (-1), 1) := by decide +kernel
theorem dc_R_replayed_18 : decode bc_R_replayed 18 = .ok (.ireturn, 1) := by decide +kernel
