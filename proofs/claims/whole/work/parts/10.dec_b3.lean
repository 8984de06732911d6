theorem dc_O_status_0 : decode bc_O_status 0 = .ok (.aload_n 0, 1) := by decide +kernel
theorem dc_O_status_1 : decode bc_O_status 1 = .ok (.getfield 26, 3) := by decide +kernel
theorem dc_O_status_4 : decode bc_O_status 4 = .ok (.iload_n 1, 1) := by decide +kernel
theorem dc_O_status_5 : decode bc_O_status 5 = .ok (.invokevirtual 147, 3) := by decide +kernel
theorem dc_O_status_8 : decode bc_O_status 8 = .ok (.ifCond .eq 15, 3) := by decide +kernel
theorem dc_O_status_11 : decode bc_O_status 11 = .ok (.aload_n 0, 1) := by decide +kernel
theorem dc_O_status_12 : decode bc_O_status 12 = .ok (.getfield 26, 3) := by decide +kernel
theorem dc_O_status_15 : decode bc_O_status 15 = .ok (.getfield 74, 3) := by decide +kernel
theorem dc_O_status_18 : decode bc_O_status 18 = .ok (.iload_n 1, 1) := by decide +kernel
theorem dc_O_status_19 : decode bc_O_status 19 = .ok (.iaload, 1) := by decide +kernel
theorem dc_O_status_20 : decode bc_O_status 20 = .ok (.goto 4, 3) := by decide +kernel
theorem dc_O_status_23 : decode bc_O_status 23 = .ok (.iconst (-1), 1) := by decide +kernel
theorem dc_O_status_24 : decode bc_O_status 24 = .ok (.ireturn, 1) := by decide +kernel
theorem dc_O_orphans_0 : decode bc_O_orphans 0 = .ok (.iconst 0, 1) := by decide +kernel
theorem dc_O_orphans_1 : decode bc_O_orphans 1 = .ok (.istore_n 1, 1) := by decide +kernel
theorem dc_O_orphans_2 : decode bc_O_orphans 2 = .ok (.iconst 0, 1) := by decide +kernel
theorem dc_O_orphans_3 : decode bc_O_orphans 3 = .ok (.istore_n 2, 1) := by decide +kernel
theorem dc_O_orphans_4 : decode bc_O_orphans 4 = .ok (.iload_n 2, 1) := by decide +kernel
theorem dc_O_orphans_5 : decode bc_O_orphans 5 = .ok (.iconst 3, 1) := by decide +kernel
theorem dc_O_orphans_6 : decode bc_O_orphans 6 = .ok (.if_icmp .ge 34, 3) := by decide +kernel
theorem dc_O_orphans_9 : decode bc_O_orphans 9 = .ok (.aload_n 0, 1) := by decide +kernel
theorem dc_O_orphans_10 : decode bc_O_orphans 10 = .ok (.getfield 11, 3) := by decide +kernel
theorem dc_O_orphans_13 : decode bc_O_orphans 13 = .ok (.iload_n 2, 1) := by decide +kernel
theorem dc_O_orphans_14 : decode bc_O_orphans 14 = .ok (.aaload, 1) := by decide +kernel
theorem dc_O_orphans_15 : decode bc_O_orphans 15 = .ok (.getfield 60, 3) := by decide +kernel
theorem dc_O_orphans_18 : decode bc_O_orphans 18 = .ok (.ifCond .ne 16, 3) := by decide +kernel
theorem dc_O_orphans_21 : decode bc_O_orphans 21 = .ok (.iload_n 1, 1) := by decide +kernel
theorem dc_O_orphans_22 : decode bc_O_orphans 22 = .ok (.aload_n 0, 1) := by decide +kernel
theorem dc_O_orphans_23 : decode bc_O_orphans 23 = .ok (.aload_n 0, 1) := by decide +kernel
theorem dc_O_orphans_24 : decode bc_O_orphans 24 = .ok (.getfield 11, 3) := by decide +kernel
theorem dc_O_orphans_27 : decode bc_O_orphans 27 = .ok (.iload_n 2, 1) := by decide +kernel
theorem dc_O_orphans_28 : decode bc_O_orphans 28 = .ok (.aaload, 1) := by decide +kernel
theorem dc_O_orphans_29 : decode bc_O_orphans 29 = .ok (.invokevirtual 150, 3) := by decide +kernel
theorem dc_O_orphans_32 : decode bc_O_orphans 32 = .ok (.iadd, 1) := by decide +kernel
theorem dc_O_orphans_33 : decode bc_O_orphans 33 = .ok (.istore_n 1, 1) := by decide +kernel
theorem dc_O_orphans_34 : decode bc_O_orphans 34 = .ok (.iinc 2 1, 3) := by decide +kernel
theorem dc_O_orphans_37 : decode bc_O_orphans 37 = .ok (.goto (-33), 3) := by decide +kernel
theorem dc_O_orphans_40 : decode bc_O_orphans 40 = .ok (.iload_n 1, 1) := by decide +kernel
theorem dc_O_orphans_41 : decode bc_O_orphans 41 = .ok (.ireturn, 1) := by decide +kernel
theorem dc_O_orphansOn_0 : decode bc_O_orphansOn 0 = .ok (.aload_n 1, 1) := by decide +kernel
theorem dc_O_orphansOn_1 : decode bc_O_orphansOn 1 = .ok (.getfield 102, 3) := by decide +kernel
theorem dc_O_orphansOn_4 : decode bc_O_orphansOn 4 = .ok (.aload_n 0, 1) := by decide +kernel
theorem dc_O_orphansOn_5 : decode bc_O_orphansOn 5 = .ok (.aload_n 1, 1) := by decide +kernel
theorem dc_O_orphansOn_6 : decode bc_O_orphansOn 6 = .ok (.aload_n 0, 1) := by decide +kernel
theorem dc_O_orphansOn_7 : decode bc_O_orphansOn 7 = .ok (.getfield 19, 3) := by decide +kernel
theorem dc_O_orphansOn_10 : decode bc_O_orphansOn 10 = .ok (.getfield 197, 3) := by decide +kernel
theorem dc_O_orphansOn_13 : decode bc_O_orphansOn 13 = .ok (.invokevirtual 203, 3) := by decide +kernel
theorem dc_O_orphansOn_16 : decode bc_O_orphansOn 16 = .ok (.isub, 1) := by decide +kernel
theorem dc_O_orphansOn_17 : decode bc_O_orphansOn 17 = .ok (.ireturn, 1) := by decide +kernel
theorem dc_O_replayed_0 : decode bc_O_replayed 0 = .ok (.iload_n 1, 1) := by decide +kernel
theorem dc_O_replayed_1 : decode bc_O_replayed 1 = .ok (.invokestatic 39, 3) := by decide +kernel
theorem dc_O_replayed_4 : decode bc_O_replayed 4 = .ok (.ifCond .eq 15, 3) := by decide +kernel
theorem dc_O_replayed_7 : decode bc_O_replayed 7 = .ok (.aload_n 0, 1) := by decide +kernel
theorem dc_O_replayed_8 : decode bc_O_replayed 8 = .ok (.getfield 11, 3) := by decide +kernel
theorem dc_O_replayed_11 : decode bc_O_replayed 11 = .ok (.iload_n 1, 1) := by decide +kernel
theorem dc_O_replayed_12 : decode bc_O_replayed 12 = .ok (.aaload, 1) := by decide +kernel
theorem dc_O_replayed_13 : decode bc_O_replayed 13 = .ok (.getfield 153, 3) := by decide +kernel
theorem dc_O_replayed_16 : decode bc_O_replayed 16 = .ok (.goto 4, 3) := by decide +kernel
theorem dc_O_replayed_19 : decode bc_O_replayed 19 = .ok (.iconst (-1), 1) := by decide +kernel
theorem dc_O_replayed_20 : decode bc_O_replayed 20 = .ok (.ireturn, 1) := by decide +kernel
