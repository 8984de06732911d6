theorem dc_O_init_0 : decode bc_O_init 0 = .ok (.aload_n 0, 1) := by decide +kernel
theorem dc_O_init_1 : decode bc_O_init 1 = .ok (.invokespecial 3, 3) := by decide +kernel
theorem dc_O_init_4 : decode bc_O_init 4 = .ok (.aload_n 0, 1) := by decide +kernel
theorem dc_O_init_5 : decode bc_O_init 5 = .ok (.iconst 3, 1) := by decide +kernel
theorem dc_O_init_6 : decode bc_O_init 6 = .ok (.anewarray 9, 3) := by decide +kernel
theorem dc_O_init_9 : decode bc_O_init 9 = .ok (.putfield 11, 3) := by decide +kernel
theorem dc_O_init_12 : decode bc_O_init 12 = .ok (.iconst 0, 1) := by decide +kernel
theorem dc_O_init_13 : decode bc_O_init 13 = .ok (.istore_n 1, 1) := by decide +kernel
theorem dc_O_init_14 : decode bc_O_init 14 = .ok (.iload_n 1, 1) := by decide +kernel
theorem dc_O_init_15 : decode bc_O_init 15 = .ok (.iconst 3, 1) := by decide +kernel
theorem dc_O_init_16 : decode bc_O_init 16 = .ok (.if_icmp .ge 22, 3) := by decide +kernel
theorem dc_O_init_19 : decode bc_O_init 19 = .ok (.aload_n 0, 1) := by decide +kernel
theorem dc_O_init_20 : decode bc_O_init 20 = .ok (.getfield 11, 3) := by decide +kernel
theorem dc_O_init_23 : decode bc_O_init 23 = .ok (.iload_n 1, 1) := by decide +kernel
theorem dc_O_init_24 : decode bc_O_init 24 = .ok (.new 9, 3) := by decide +kernel
theorem dc_O_init_27 : decode bc_O_init 27 = .ok (.dup, 1) := by decide +kernel
theorem dc_O_init_28 : decode bc_O_init 28 = .ok (.invokespecial 15, 3) := by decide +kernel
theorem dc_O_init_31 : decode bc_O_init 31 = .ok (.aastore, 1) := by decide +kernel
theorem dc_O_init_32 : decode bc_O_init 32 = .ok (.iinc 1 1, 3) := by decide +kernel
theorem dc_O_init_35 : decode bc_O_init 35 = .ok (.goto (-21), 3) := by decide +kernel
theorem dc_O_init_38 : decode bc_O_init 38 = .ok (.aload_n 0, 1) := by decide +kernel
theorem dc_O_init_39 : decode bc_O_init 39 = .ok (.new 16, 3) := by decide +kernel
theorem dc_O_init_42 : decode bc_O_init 42 = .ok (.dup, 1) := by decide +kernel
theorem dc_O_init_43 : decode bc_O_init 43 = .ok (.invokespecial 18, 3) := by decide +kernel
theorem dc_O_init_46 : decode bc_O_init 46 = .ok (.putfield 19, 3) := by decide +kernel
theorem dc_O_init_49 : decode bc_O_init 49 = .ok (.aload_n 0, 1) := by decide +kernel
theorem dc_O_init_50 : decode bc_O_init 50 = .ok (.new 23, 3) := by decide +kernel
theorem dc_O_init_53 : decode bc_O_init 53 = .ok (.dup, 1) := by decide +kernel
theorem dc_O_init_54 : decode bc_O_init 54 = .ok (.invokespecial 25, 3) := by decide +kernel
theorem dc_O_init_57 : decode bc_O_init 57 = .ok (.putfield 26, 3) := by decide +kernel
theorem dc_O_init_60 : decode bc_O_init 60 = .ok (.return_, 1) := by decide +kernel
theorem dc_O_renew_0 : decode bc_O_renew 0 = .ok (.iconst 0, 1) := by decide +kernel
theorem dc_O_renew_1 : decode bc_O_renew 1 = .ok (.istore_n 1, 1) := by decide +kernel
theorem dc_O_renew_2 : decode bc_O_renew 2 = .ok (.iload_n 1, 1) := by decide +kernel
theorem dc_O_renew_3 : decode bc_O_renew 3 = .ok (.iconst 3, 1) := by decide +kernel
theorem dc_O_renew_4 : decode bc_O_renew 4 = .ok (.if_icmp .ge 18, 3) := by decide +kernel
theorem dc_O_renew_7 : decode bc_O_renew 7 = .ok (.aload_n 0, 1) := by decide +kernel
theorem dc_O_renew_8 : decode bc_O_renew 8 = .ok (.getfield 11, 3) := by decide +kernel
theorem dc_O_renew_11 : decode bc_O_renew 11 = .ok (.iload_n 1, 1) := by decide +kernel
theorem dc_O_renew_12 : decode bc_O_renew 12 = .ok (.aaload, 1) := by decide +kernel
theorem dc_O_renew_13 : decode bc_O_renew 13 = .ok (.invokevirtual 30, 3) := by decide +kernel
theorem dc_O_renew_16 : decode bc_O_renew 16 = .ok (.iinc 1 1, 3) := by decide +kernel
theorem dc_O_renew_19 : decode bc_O_renew 19 = .ok (.goto (-17), 3) := by decide +kernel
theorem dc_O_renew_22 : decode bc_O_renew 22 = .ok (.aload_n 0, 1) := by decide +kernel
theorem dc_O_renew_23 : decode bc_O_renew 23 = .ok (.getfield 19, 3) := by decide +kernel
theorem dc_O_renew_26 : decode bc_O_renew 26 = .ok (.invokevirtual 33, 3) := by decide +kernel
theorem dc_O_renew_29 : decode bc_O_renew 29 = .ok (.aload_n 0, 1) := by decide +kernel
theorem dc_O_renew_30 : decode bc_O_renew 30 = .ok (.getfield 26, 3) := by decide +kernel
theorem dc_O_renew_33 : decode bc_O_renew 33 = .ok (.invokevirtual 34, 3) := by decide +kernel
theorem dc_O_renew_36 : decode bc_O_renew 36 = .ok (.aload_n 0, 1) := by decide +kernel
theorem dc_O_renew_37 : decode bc_O_renew 37 = .ok (.iconst 0, 1) := by decide +kernel
theorem dc_O_renew_38 : decode bc_O_renew 38 = .ok (.putfield 35, 3) := by decide +kernel
theorem dc_O_renew_41 : decode bc_O_renew 41 = .ok (.return_, 1) := by decide +kernel
theorem dc_O_input_0 : decode bc_O_input 0 = .ok (.iload_n 1, 1) := by decide +kernel
theorem dc_O_input_1 : decode bc_O_input 1 = .ok (.invokestatic 39, 3) := by decide +kernel
theorem dc_O_input_4 : decode bc_O_input 4 = .ok (.ifCond .eq 15, 3) := by decide +kernel
theorem dc_O_input_7 : decode bc_O_input 7 = .ok (.aload_n 0, 1) := by decide +kernel
theorem dc_O_input_8 : decode bc_O_input 8 = .ok (.getfield 26, 3) := by decide +kernel
theorem dc_O_input_11 : decode bc_O_input 11 = .ok (.getfield 43, 3) := by decide +kernel
theorem dc_O_input_14 : decode bc_O_input 14 = .ok (.bipush 24, 2) := by decide +kernel
theorem dc_O_input_16 : decode bc_O_input 16 = .ok (.if_icmp .lt 5, 3) := by decide +kernel
theorem dc_O_input_19 : decode bc_O_input 19 = .ok (.iconst (-1), 1) := by decide +kernel
theorem dc_O_input_20 : decode bc_O_input 20 = .ok (.ireturn, 1) := by decide +kernel
theorem dc_O_input_21 : decode bc_O_input 21 = .ok (.aload_n 0, 1) := by decide +kernel
theorem dc_O_input_22 : decode bc_O_input 22 = .ok (.getfield 26, 3) := by decide +kernel
theorem dc_O_input_25 : decode bc_O_input 25 = .ok (.dup, 1) := by decide +kernel
theorem dc_O_input_26 : decode bc_O_input 26 = .ok (.getfield 43, 3) := by decide +kernel
theorem dc_O_input_29 : decode bc_O_input 29 = .ok (.iconst 1, 1) := by decide +kernel
theorem dc_O_input_30 : decode bc_O_input 30 = .ok (.iadd, 1) := by decide +kernel
theorem dc_O_input_31 : decode bc_O_input 31 = .ok (.putfield 43, 3) := by decide +kernel
theorem dc_O_input_34 : decode bc_O_input 34 = .ok (.aload_n 0, 1) := by decide +kernel
theorem dc_O_input_35 : decode bc_O_input 35 = .ok (.getfield 26, 3) := by decide +kernel
theorem dc_O_input_38 : decode bc_O_input 38 = .ok (.iload_n 2, 1) := by decide +kernel
theorem dc_O_input_39 : decode bc_O_input 39 = .ok (.iload_n 1, 1) := by decide +kernel
theorem dc_O_input_40 : decode bc_O_input 40 = .ok (.iconst (-1), 1) := by decide +kernel
theorem dc_O_input_41 : decode bc_O_input 41 = .ok (.iconst 0, 1) := by decide +kernel
theorem dc_O_input_42 : decode bc_O_input 42 = .ok (.invokevirtual 46, 3) := by decide +kernel
theorem dc_O_input_45 : decode bc_O_input 45 = .ok (.ireturn, 1) := by decide +kernel
theorem dc_O_isProcess_0 : decode bc_O_isProcess 0 = .ok (.iload_n 0, 1) := by decide +kernel
theorem dc_O_isProcess_1 : decode bc_O_isProcess 1 = .ok (.ifCond .lt 12, 3) := by decide +kernel
theorem dc_O_isProcess_4 : decode bc_O_isProcess 4 = .ok (.iload_n 0, 1) := by decide +kernel
theorem dc_O_isProcess_5 : decode bc_O_isProcess 5 = .ok (.iconst 3, 1) := by decide +kernel
theorem dc_O_isProcess_6 : decode bc_O_isProcess 6 = .ok (.if_icmp .ge 7, 3) := by decide +kernel
theorem dc_O_isProcess_9 : decode bc_O_isProcess 9 = .ok (.iconst 1, 1) := by decide +kernel
theorem dc_O_isProcess_10 : decode bc_O_isProcess 10 = .ok (.goto 4, 3) := by decide +kernel
theorem dc_O_isProcess_13 : decode bc_O_isProcess 13 = .ok (.iconst 0, 1) := by decide +kernel
theorem dc_O_isProcess_14 : decode bc_O_isProcess 14 = .ok (.ireturn, 1) := by decide +kernel
theorem dc_O_deliver_0 : decode bc_O_deliver 0 = .ok (.aload_n 0, 1) := by decide +kernel
theorem dc_O_deliver_1 : decode bc_O_deliver 1 = .ok (.getfield 26, 3) := by decide +kernel
theorem dc_O_deliver_4 : decode bc_O_deliver 4 = .ok (.iload_n 1, 1) := by decide +kernel
theorem dc_O_deliver_5 : decode bc_O_deliver 5 = .ok (.invokevirtual 50, 3) := by decide +kernel
theorem dc_O_deliver_8 : decode bc_O_deliver 8 = .ok (.ifCond .eq 15, 3) := by decide +kernel
theorem dc_O_deliver_11 : decode bc_O_deliver 11 = .ok (.aload_n 0, 1) := by decide +kernel
theorem dc_O_deliver_12 : decode bc_O_deliver 12 = .ok (.getfield 19, 3) := by decide +kernel
theorem dc_O_deliver_15 : decode bc_O_deliver 15 = .ok (.getfield 53, 3) := by decide +kernel
theorem dc_O_deliver_18 : decode bc_O_deliver 18 = .ok (.bipush 40, 2) := by decide +kernel
theorem dc_O_deliver_20 : decode bc_O_deliver 20 = .ok (.if_icmp .lt 5, 3) := by decide +kernel
theorem dc_O_deliver_23 : decode bc_O_deliver 23 = .ok (.iconst (-1), 1) := by decide +kernel
theorem dc_O_deliver_24 : decode bc_O_deliver 24 = .ok (.ireturn, 1) := by decide +kernel
theorem dc_O_deliver_25 : decode bc_O_deliver 25 = .ok (.aload_n 0, 1) := by decide +kernel
theorem dc_O_deliver_26 : decode bc_O_deliver 26 = .ok (.getfield 26, 3) := by decide +kernel
theorem dc_O_deliver_29 : decode bc_O_deliver 29 = .ok (.getfield 56, 3) := by decide +kernel
theorem dc_O_deliver_32 : decode bc_O_deliver 32 = .ok (.iload_n 1, 1) := by decide +kernel
theorem dc_O_deliver_33 : decode bc_O_deliver 33 = .ok (.iaload, 1) := by decide +kernel
theorem dc_O_deliver_34 : decode bc_O_deliver 34 = .ok (.istore_n 2, 1) := by decide +kernel
theorem dc_O_deliver_35 : decode bc_O_deliver 35 = .ok (.aload_n 0, 1) := by decide +kernel
theorem dc_O_deliver_36 : decode bc_O_deliver 36 = .ok (.getfield 11, 3) := by decide +kernel
theorem dc_O_deliver_39 : decode bc_O_deliver 39 = .ok (.iload_n 2, 1) := by decide +kernel
theorem dc_O_deliver_40 : decode bc_O_deliver 40 = .ok (.aaload, 1) := by decide +kernel
theorem dc_O_deliver_41 : decode bc_O_deliver 41 = .ok (.astore_n 3, 1) := by decide +kernel
theorem dc_O_deliver_42 : decode bc_O_deliver 42 = .ok (.aload_n 3, 1) := by decide +kernel
theorem dc_O_deliver_43 : decode bc_O_deliver 43 = .ok (.getfield 60, 3) := by decide +kernel
theorem dc_O_deliver_46 : decode bc_O_deliver 46 = .ok (.ifCond .eq 5, 3) := by decide +kernel
theorem dc_O_deliver_49 : decode bc_O_deliver 49 = .ok (.iconst (-1), 1) := by decide +kernel
theorem dc_O_deliver_50 : decode bc_O_deliver 50 = .ok (.ireturn, 1) := by decide +kernel
theorem dc_O_deliver_51 : decode bc_O_deliver 51 = .ok (.aload_n 0, 1) := by decide +kernel
theorem dc_O_deliver_52 : decode bc_O_deliver 52 = .ok (.getfield 26, 3) := by decide +kernel
theorem dc_O_deliver_55 : decode bc_O_deliver 55 = .ok (.getfield 64, 3) := by decide +kernel
theorem dc_O_deliver_58 : decode bc_O_deliver 58 = .ok (.iload_n 1, 1) := by decide +kernel
theorem dc_O_deliver_59 : decode bc_O_deliver 59 = .ok (.iaload, 1) := by decide +kernel
theorem dc_O_deliver_60 : decode bc_O_deliver 60 = .ok (.aload_n 3, 1) := by decide +kernel
theorem dc_O_deliver_61 : decode bc_O_deliver 61 = .ok (.getfield 67, 3) := by decide +kernel
theorem dc_O_deliver_64 : decode bc_O_deliver 64 = .ok (.if_icmp .le 6, 3) := by decide +kernel
theorem dc_O_deliver_67 : decode bc_O_deliver 67 = .ok (.bipush (-2), 2) := by decide +kernel
theorem dc_O_deliver_69 : decode bc_O_deliver 69 = .ok (.ireturn, 1) := by decide +kernel
theorem dc_O_deliver_70 : decode bc_O_deliver 70 = .ok (.aload_n 0, 1) := by decide +kernel
theorem dc_O_deliver_71 : decode bc_O_deliver 71 = .ok (.aload_n 3, 1) := by decide +kernel
theorem dc_O_deliver_72 : decode bc_O_deliver 72 = .ok (.iload_n 1, 1) := by decide +kernel
theorem dc_O_deliver_73 : decode bc_O_deliver 73 = .ok (.invokevirtual 70, 3) := by decide +kernel
theorem dc_O_deliver_76 : decode bc_O_deliver 76 = .ok (.ifCond .eq 16, 3) := by decide +kernel
theorem dc_O_deliver_79 : decode bc_O_deliver 79 = .ok (.aload_n 0, 1) := by decide +kernel
theorem dc_O_deliver_80 : decode bc_O_deliver 80 = .ok (.getfield 26, 3) := by decide +kernel
theorem dc_O_deliver_83 : decode bc_O_deliver 83 = .ok (.getfield 74, 3) := by decide +kernel
theorem dc_O_deliver_86 : decode bc_O_deliver 86 = .ok (.iload_n 1, 1) := by decide +kernel
theorem dc_O_deliver_87 : decode bc_O_deliver 87 = .ok (.iconst 3, 1) := by decide +kernel
theorem dc_O_deliver_88 : decode bc_O_deliver 88 = .ok (.iastore, 1) := by decide +kernel
theorem dc_O_deliver_89 : decode bc_O_deliver 89 = .ok (.bipush (-3), 2) := by decide +kernel
theorem dc_O_deliver_91 : decode bc_O_deliver 91 = .ok (.ireturn, 1) := by decide +kernel
theorem dc_O_deliver_92 : decode bc_O_deliver 92 = .ok (.aload_n 0, 1) := by decide +kernel
theorem dc_O_deliver_93 : decode bc_O_deliver 93 = .ok (.iload_n 2, 1) := by decide +kernel
theorem dc_O_deliver_94 : decode bc_O_deliver 94 = .ok (.iload_n 1, 1) := by decide +kernel
theorem dc_O_deliver_95 : decode bc_O_deliver 95 = .ok (.invokevirtual 77, 3) := by decide +kernel
theorem dc_O_deliver_98 : decode bc_O_deliver 98 = .ok (.ireturn, 1) := by decide +kernel
theorem dc_O_isKnownOrphan_0 : decode bc_O_isKnownOrphan 0 = .ok (.aload_n 0, 1) := by decide +kernel
theorem dc_O_isKnownOrphan_1 : decode bc_O_isKnownOrphan 1 = .ok (.iload_n 2, 1) := by decide +kernel
theorem dc_O_isKnownOrphan_2 : decode bc_O_isKnownOrphan 2 = .ok (.invokevirtual 160, 3) := by decide +kernel
theorem dc_O_isKnownOrphan_5 : decode bc_O_isKnownOrphan 5 = .ok (.aload_n 1, 1) := by decide +kernel
theorem dc_O_isKnownOrphan_6 : decode bc_O_isKnownOrphan 6 = .ok (.getfield 164, 3) := by decide +kernel
theorem dc_O_isKnownOrphan_9 : decode bc_O_isKnownOrphan 9 = .ok (.land, 1) := by decide +kernel
theorem dc_O_isKnownOrphan_10 : decode bc_O_isKnownOrphan 10 = .ok (.lconst 0, 1) := by decide +kernel
theorem dc_O_isKnownOrphan_11 : decode bc_O_isKnownOrphan 11 = .ok (.lcmp, 1) := by decide +kernel
theorem dc_O_isKnownOrphan_12 : decode bc_O_isKnownOrphan 12 = .ok (.ifCond .eq 7, 3) := by decide +kernel
theorem dc_O_isKnownOrphan_15 : decode bc_O_isKnownOrphan 15 = .ok (.iconst 1, 1) := by decide +kernel
theorem dc_O_isKnownOrphan_16 : decode bc_O_isKnownOrphan 16 = .ok (.goto 4, 3) := by decide +kernel
theorem dc_O_isKnownOrphan_19 : decode bc_O_isKnownOrphan 19 = .ok (.iconst 0, 1) := by decide +kernel
theorem dc_O_isKnownOrphan_20 : decode bc_O_isKnownOrphan 20 = .ok (.ireturn, 1) := by decide +kernel
theorem dc_O_dependsAtSource_0 : decode bc_O_dependsAtSource 0 = .ok (.aload_n 0, 1) := by decide +kernel
theorem dc_O_dependsAtSource_1 : decode bc_O_dependsAtSource 1 = .ok (.getfield 26, 3) := by decide +kernel
theorem dc_O_dependsAtSource_4 : decode bc_O_dependsAtSource 4 = .ok (.getfield 81, 3) := by decide +kernel
theorem dc_O_dependsAtSource_7 : decode bc_O_dependsAtSource 7 = .ok (.iload_n 1, 1) := by decide +kernel
theorem dc_O_dependsAtSource_8 : decode bc_O_dependsAtSource 8 = .ok (.iaload, 1) := by decide +kernel
theorem dc_O_dependsAtSource_9 : decode bc_O_dependsAtSource 9 = .ok (.istore_n 2, 1) := by decide +kernel
theorem dc_O_dependsAtSource_10 : decode bc_O_dependsAtSource 10 = .ok (.iload_n 2, 1) := by decide +kernel
theorem dc_O_dependsAtSource_11 : decode bc_O_dependsAtSource 11 = .ok (.iconst (-1), 1) := by decide +kernel
theorem dc_O_dependsAtSource_12 : decode bc_O_dependsAtSource 12 = .ok (.if_icmp .ne 7, 3) := by decide +kernel
theorem dc_O_dependsAtSource_15 : decode bc_O_dependsAtSource 15 = .ok (.lconst 0, 1) := by decide +kernel
theorem dc_O_dependsAtSource_16 : decode bc_O_dependsAtSource 16 = .ok (.goto 12, 3) := by decide +kernel
theorem dc_O_dependsAtSource_19 : decode bc_O_dependsAtSource 19 = .ok (.aload_n 0, 1) := by decide +kernel
theorem dc_O_dependsAtSource_20 : decode bc_O_dependsAtSource 20 = .ok (.getfield 19, 3) := by decide +kernel
theorem dc_O_dependsAtSource_23 : decode bc_O_dependsAtSource 23 = .ok (.getfield 156, 3) := by decide +kernel
theorem dc_O_dependsAtSource_26 : decode bc_O_dependsAtSource 26 = .ok (.iload_n 2, 1) := by decide +kernel
theorem dc_O_dependsAtSource_27 : decode bc_O_dependsAtSource 27 = .ok (.laload, 1) := by decide +kernel
theorem dc_O_dependsAtSource_28 : decode bc_O_dependsAtSource 28 = .ok (.lreturn, 1) := by decide +kernel
theorem dc_O_receive_0 : decode bc_O_receive 0 = .ok (.aload_n 0, 1) := by decide +kernel
theorem dc_O_receive_1 : decode bc_O_receive 1 = .ok (.getfield 11, 3) := by decide +kernel
theorem dc_O_receive_4 : decode bc_O_receive 4 = .ok (.iload_n 1, 1) := by decide +kernel
theorem dc_O_receive_5 : decode bc_O_receive 5 = .ok (.aaload, 1) := by decide +kernel
theorem dc_O_receive_6 : decode bc_O_receive 6 = .ok (.astore_n 3, 1) := by decide +kernel
theorem dc_O_receive_7 : decode bc_O_receive 7 = .ok (.bipush 31, 2) := by decide +kernel
theorem dc_O_receive_9 : decode bc_O_receive 9 = .ok (.aload_n 0, 1) := by decide +kernel
theorem dc_O_receive_10 : decode bc_O_receive 10 = .ok (.aload_n 3, 1) := by decide +kernel
theorem dc_O_receive_11 : decode bc_O_receive 11 = .ok (.invokevirtual 144, 3) := by decide +kernel
theorem dc_O_receive_14 : decode bc_O_receive 14 = .ok (.imul, 1) := by decide +kernel
theorem dc_O_receive_15 : decode bc_O_receive 15 = .ok (.aload_n 0, 1) := by decide +kernel
theorem dc_O_receive_16 : decode bc_O_receive 16 = .ok (.getfield 26, 3) := by decide +kernel
theorem dc_O_receive_19 : decode bc_O_receive 19 = .ok (.getfield 167, 3) := by decide +kernel
theorem dc_O_receive_22 : decode bc_O_receive 22 = .ok (.iload_n 2, 1) := by decide +kernel
theorem dc_O_receive_23 : decode bc_O_receive 23 = .ok (.iaload, 1) := by decide +kernel
theorem dc_O_receive_24 : decode bc_O_receive 24 = .ok (.iadd, 1) := by decide +kernel
theorem dc_O_receive_25 : decode bc_O_receive 25 = .ok (.istore 4, 2) := by decide +kernel
theorem dc_O_receive_27 : decode bc_O_receive 27 = .ok (.aload_n 0, 1) := by decide +kernel
theorem dc_O_receive_28 : decode bc_O_receive 28 = .ok (.getfield 19, 3) := by decide +kernel
theorem dc_O_receive_31 : decode bc_O_receive 31 = .ok (.iload 4, 2) := by decide +kernel
theorem dc_O_receive_33 : decode bc_O_receive 33 = .ok (.iload_n 2, 1) := by decide +kernel
theorem dc_O_receive_34 : decode bc_O_receive 34 = .ok (.aload_n 0, 1) := by decide +kernel
theorem dc_O_receive_35 : decode bc_O_receive 35 = .ok (.aload_n 3, 1) := by decide +kernel
theorem dc_O_receive_36 : decode bc_O_receive 36 = .ok (.invokevirtual 170, 3) := by decide +kernel
theorem dc_O_receive_39 : decode bc_O_receive 39 = .ok (.aload_n 0, 1) := by decide +kernel
theorem dc_O_receive_40 : decode bc_O_receive 40 = .ok (.iload_n 2, 1) := by decide +kernel
theorem dc_O_receive_41 : decode bc_O_receive 41 = .ok (.invokevirtual 160, 3) := by decide +kernel
theorem dc_O_receive_44 : decode bc_O_receive 44 = .ok (.lor, 1) := by decide +kernel
theorem dc_O_receive_45 : decode bc_O_receive 45 = .ok (.invokevirtual 174, 3) := by decide +kernel
theorem dc_O_receive_48 : decode bc_O_receive 48 = .ok (.istore 5, 2) := by decide +kernel
theorem dc_O_receive_50 : decode bc_O_receive 50 = .ok (.aload_n 3, 1) := by decide +kernel
theorem dc_O_receive_51 : decode bc_O_receive 51 = .ok (.iload 5, 2) := by decide +kernel
theorem dc_O_receive_53 : decode bc_O_receive 53 = .ok (.invokevirtual 177, 3) := by decide +kernel
theorem dc_O_receive_56 : decode bc_O_receive 56 = .ok (.aload_n 0, 1) := by decide +kernel
theorem dc_O_receive_57 : decode bc_O_receive 57 = .ok (.getfield 26, 3) := by decide +kernel
theorem dc_O_receive_60 : decode bc_O_receive 60 = .ok (.getfield 74, 3) := by decide +kernel
theorem dc_O_receive_63 : decode bc_O_receive 63 = .ok (.iload_n 2, 1) := by decide +kernel
theorem dc_O_receive_64 : decode bc_O_receive 64 = .ok (.iconst 1, 1) := by decide +kernel
theorem dc_O_receive_65 : decode bc_O_receive 65 = .ok (.iastore, 1) := by decide +kernel
theorem dc_O_receive_66 : decode bc_O_receive 66 = .ok (.aload_n 0, 1) := by decide +kernel
theorem dc_O_receive_67 : decode bc_O_receive 67 = .ok (.iload_n 1, 1) := by decide +kernel
theorem dc_O_receive_68 : decode bc_O_receive 68 = .ok (.iload 5, 2) := by decide +kernel
theorem dc_O_receive_70 : decode bc_O_receive 70 = .ok (.invokevirtual 180, 3) := by decide +kernel
theorem dc_O_receive_73 : decode bc_O_receive 73 = .ok (.aload_n 0, 1) := by decide +kernel
theorem dc_O_receive_74 : decode bc_O_receive 74 = .ok (.getfield 26, 3) := by decide +kernel
theorem dc_O_receive_77 : decode bc_O_receive 77 = .ok (.getfield 81, 3) := by decide +kernel
theorem dc_O_receive_80 : decode bc_O_receive 80 = .ok (.iload_n 2, 1) := by decide +kernel
theorem dc_O_receive_81 : decode bc_O_receive 81 = .ok (.iaload, 1) := by decide +kernel
theorem dc_O_receive_82 : decode bc_O_receive 82 = .ok (.iconst (-1), 1) := by decide +kernel
theorem dc_O_receive_83 : decode bc_O_receive 83 = .ok (.if_icmp .ne 9, 3) := by decide +kernel
theorem dc_O_receive_86 : decode bc_O_receive 86 = .ok (.aload_n 0, 1) := by decide +kernel
theorem dc_O_receive_87 : decode bc_O_receive 87 = .ok (.aload_n 3, 1) := by decide +kernel
theorem dc_O_receive_88 : decode bc_O_receive 88 = .ok (.invokevirtual 95, 3) := by decide +kernel
theorem dc_O_receive_91 : decode bc_O_receive 91 = .ok (.pop, 1) := by decide +kernel
theorem dc_O_receive_92 : decode bc_O_receive 92 = .ok (.iload 5, 2) := by decide +kernel
theorem dc_O_receive_94 : decode bc_O_receive 94 = .ok (.ireturn, 1) := by decide +kernel
theorem dc_O_stateAtEnd_0 : decode bc_O_stateAtEnd 0 = .ok (.aload_n 1, 1) := by decide +kernel
theorem dc_O_stateAtEnd_1 : decode bc_O_stateAtEnd 1 = .ok (.getfield 102, 3) := by decide +kernel
theorem dc_O_stateAtEnd_4 : decode bc_O_stateAtEnd 4 = .ok (.iconst 1, 1) := by decide +kernel
theorem dc_O_stateAtEnd_5 : decode bc_O_stateAtEnd 5 = .ok (.isub, 1) := by decide +kernel
theorem dc_O_stateAtEnd_6 : decode bc_O_stateAtEnd 6 = .ok (.istore_n 2, 1) := by decide +kernel
theorem dc_O_stateAtEnd_7 : decode bc_O_stateAtEnd 7 = .ok (.iload_n 2, 1) := by decide +kernel
theorem dc_O_stateAtEnd_8 : decode bc_O_stateAtEnd 8 = .ok (.ifCond .ge 7, 3) := by decide +kernel
theorem dc_O_stateAtEnd_11 : decode bc_O_stateAtEnd 11 = .ok (.iconst 0, 1) := by decide +kernel
theorem dc_O_stateAtEnd_12 : decode bc_O_stateAtEnd 12 = .ok (.goto 17, 3) := by decide +kernel
theorem dc_O_stateAtEnd_15 : decode bc_O_stateAtEnd 15 = .ok (.aload_n 0, 1) := by decide +kernel
theorem dc_O_stateAtEnd_16 : decode bc_O_stateAtEnd 16 = .ok (.getfield 19, 3) := by decide +kernel
theorem dc_O_stateAtEnd_19 : decode bc_O_stateAtEnd 19 = .ok (.getfield 134, 3) := by decide +kernel
theorem dc_O_stateAtEnd_22 : decode bc_O_stateAtEnd 22 = .ok (.aload_n 1, 1) := by decide +kernel
theorem dc_O_stateAtEnd_23 : decode bc_O_stateAtEnd 23 = .ok (.getfield 125, 3) := by decide +kernel
theorem dc_O_stateAtEnd_26 : decode bc_O_stateAtEnd 26 = .ok (.iload_n 2, 1) := by decide +kernel
theorem dc_O_stateAtEnd_27 : decode bc_O_stateAtEnd 27 = .ok (.iaload, 1) := by decide +kernel
theorem dc_O_stateAtEnd_28 : decode bc_O_stateAtEnd 28 = .ok (.iaload, 1) := by decide +kernel
theorem dc_O_stateAtEnd_29 : decode bc_O_stateAtEnd 29 = .ok (.ireturn, 1) := by decide +kernel
theorem dc_O_dependsAtEnd_0 : decode bc_O_dependsAtEnd 0 = .ok (.aload_n 1, 1) := by decide +kernel
theorem dc_O_dependsAtEnd_1 : decode bc_O_dependsAtEnd 1 = .ok (.getfield 102, 3) := by decide +kernel
theorem dc_O_dependsAtEnd_4 : decode bc_O_dependsAtEnd 4 = .ok (.iconst 1, 1) := by decide +kernel
theorem dc_O_dependsAtEnd_5 : decode bc_O_dependsAtEnd 5 = .ok (.isub, 1) := by decide +kernel
theorem dc_O_dependsAtEnd_6 : decode bc_O_dependsAtEnd 6 = .ok (.istore_n 2, 1) := by decide +kernel
theorem dc_O_dependsAtEnd_7 : decode bc_O_dependsAtEnd 7 = .ok (.iload_n 2, 1) := by decide +kernel
theorem dc_O_dependsAtEnd_8 : decode bc_O_dependsAtEnd 8 = .ok (.ifCond .ge 7, 3) := by decide +kernel
theorem dc_O_dependsAtEnd_11 : decode bc_O_dependsAtEnd 11 = .ok (.lconst 0, 1) := by decide +kernel
theorem dc_O_dependsAtEnd_12 : decode bc_O_dependsAtEnd 12 = .ok (.goto 17, 3) := by decide +kernel
theorem dc_O_dependsAtEnd_15 : decode bc_O_dependsAtEnd 15 = .ok (.aload_n 0, 1) := by decide +kernel
theorem dc_O_dependsAtEnd_16 : decode bc_O_dependsAtEnd 16 = .ok (.getfield 19, 3) := by decide +kernel
theorem dc_O_dependsAtEnd_19 : decode bc_O_dependsAtEnd 19 = .ok (.getfield 156, 3) := by decide +kernel
theorem dc_O_dependsAtEnd_22 : decode bc_O_dependsAtEnd 22 = .ok (.aload_n 1, 1) := by decide +kernel
theorem dc_O_dependsAtEnd_23 : decode bc_O_dependsAtEnd 23 = .ok (.getfield 125, 3) := by decide +kernel
theorem dc_O_dependsAtEnd_26 : decode bc_O_dependsAtEnd 26 = .ok (.iload_n 2, 1) := by decide +kernel
theorem dc_O_dependsAtEnd_27 : decode bc_O_dependsAtEnd 27 = .ok (.iaload, 1) := by decide +kernel
theorem dc_O_dependsAtEnd_28 : decode bc_O_dependsAtEnd 28 = .ok (.laload, 1) := by decide +kernel
theorem dc_O_dependsAtEnd_29 : decode bc_O_dependsAtEnd 29 = .ok (.lreturn, 1) := by decide +kernel
theorem dc_O_sendFrom_0 : decode bc_O_sendFrom 0 = .ok (.aload_n 0, 1) := by decide +kernel
theorem dc_O_sendFrom_1 : decode bc_O_sendFrom 1 = .ok (.getfield 19, 3) := by decide +kernel
theorem dc_O_sendFrom_4 : decode bc_O_sendFrom 4 = .ok (.getfield 134, 3) := by decide +kernel
theorem dc_O_sendFrom_7 : decode bc_O_sendFrom 7 = .ok (.iload_n 2, 1) := by decide +kernel
theorem dc_O_sendFrom_8 : decode bc_O_sendFrom 8 = .ok (.iaload, 1) := by decide +kernel
theorem dc_O_sendFrom_9 : decode bc_O_sendFrom 9 = .ok (.istore_n 3, 1) := by decide +kernel
theorem dc_O_sendFrom_10 : decode bc_O_sendFrom 10 = .ok (.aload_n 0, 1) := by decide +kernel
theorem dc_O_sendFrom_11 : decode bc_O_sendFrom 11 = .ok (.getfield 11, 3) := by decide +kernel
theorem dc_O_sendFrom_14 : decode bc_O_sendFrom 14 = .ok (.iload_n 1, 1) := by decide +kernel
theorem dc_O_sendFrom_15 : decode bc_O_sendFrom 15 = .ok (.aaload, 1) := by decide +kernel
theorem dc_O_sendFrom_16 : decode bc_O_sendFrom 16 = .ok (.getfield 67, 3) := by decide +kernel
theorem dc_O_sendFrom_19 : decode bc_O_sendFrom 19 = .ok (.istore 4, 2) := by decide +kernel
theorem dc_O_sendFrom_21 : decode bc_O_sendFrom 21 = .ok (.iload_n 3, 1) := by decide +kernel
theorem dc_O_sendFrom_22 : decode bc_O_sendFrom 22 = .ok (.iconst 1, 1) := by decide +kernel
theorem dc_O_sendFrom_23 : decode bc_O_sendFrom 23 = .ok (.iand, 1) := by decide +kernel
theorem dc_O_sendFrom_24 : decode bc_O_sendFrom 24 = .ok (.ifCond .eq 22, 3) := by decide +kernel
theorem dc_O_sendFrom_27 : decode bc_O_sendFrom 27 = .ok (.aload_n 0, 1) := by decide +kernel
theorem dc_O_sendFrom_28 : decode bc_O_sendFrom 28 = .ok (.getfield 26, 3) := by decide +kernel
theorem dc_O_sendFrom_31 : decode bc_O_sendFrom 31 = .ok (.iload_n 3, 1) := by decide +kernel
theorem dc_O_sendFrom_32 : decode bc_O_sendFrom 32 = .ok (.iconst 1, 1) := by decide +kernel
theorem dc_O_sendFrom_33 : decode bc_O_sendFrom 33 = .ok (.ishr, 1) := by decide +kernel
theorem dc_O_sendFrom_34 : decode bc_O_sendFrom 34 = .ok (.iload_n 1, 1) := by decide +kernel
theorem dc_O_sendFrom_35 : decode bc_O_sendFrom 35 = .ok (.iconst 1, 1) := by decide +kernel
theorem dc_O_sendFrom_36 : decode bc_O_sendFrom 36 = .ok (.iadd, 1) := by decide +kernel
theorem dc_O_sendFrom_37 : decode bc_O_sendFrom 37 = .ok (.iconst 3, 1) := by decide +kernel
theorem dc_O_sendFrom_38 : decode bc_O_sendFrom 38 = .ok (.irem, 1) := by decide +kernel
theorem dc_O_sendFrom_39 : decode bc_O_sendFrom 39 = .ok (.iload_n 2, 1) := by decide +kernel
theorem dc_O_sendFrom_40 : decode bc_O_sendFrom 40 = .ok (.iload 4, 2) := by decide +kernel
theorem dc_O_sendFrom_42 : decode bc_O_sendFrom 42 = .ok (.invokevirtual 46, 3) := by decide +kernel
theorem dc_O_sendFrom_45 : decode bc_O_sendFrom 45 = .ok (.pop, 1) := by decide +kernel
theorem dc_O_sendFrom_46 : decode bc_O_sendFrom 46 = .ok (.iload_n 3, 1) := by decide +kernel
theorem dc_O_sendFrom_47 : decode bc_O_sendFrom 47 = .ok (.iconst 2, 1) := by decide +kernel
theorem dc_O_sendFrom_48 : decode bc_O_sendFrom 48 = .ok (.iand, 1) := by decide +kernel
theorem dc_O_sendFrom_49 : decode bc_O_sendFrom 49 = .ok (.ifCond .eq 22, 3) := by decide +kernel
theorem dc_O_sendFrom_52 : decode bc_O_sendFrom 52 = .ok (.aload_n 0, 1) := by decide +kernel
theorem dc_O_sendFrom_53 : decode bc_O_sendFrom 53 = .ok (.getfield 26, 3) := by decide +kernel
theorem dc_O_sendFrom_56 : decode bc_O_sendFrom 56 = .ok (.iload_n 3, 1) := by decide +kernel
theorem dc_O_sendFrom_57 : decode bc_O_sendFrom 57 = .ok (.iconst 2, 1) := by decide +kernel
theorem dc_O_sendFrom_58 : decode bc_O_sendFrom 58 = .ok (.ishr, 1) := by decide +kernel
theorem dc_O_sendFrom_59 : decode bc_O_sendFrom 59 = .ok (.iload_n 1, 1) := by decide +kernel
theorem dc_O_sendFrom_60 : decode bc_O_sendFrom 60 = .ok (.iconst 2, 1) := by decide +kernel
theorem dc_O_sendFrom_61 : decode bc_O_sendFrom 61 = .ok (.iadd, 1) := by decide +kernel
theorem dc_O_sendFrom_62 : decode bc_O_sendFrom 62 = .ok (.iconst 3, 1) := by decide +kernel
theorem dc_O_sendFrom_63 : decode bc_O_sendFrom 63 = .ok (.irem, 1) := by decide +kernel
theorem dc_O_sendFrom_64 : decode bc_O_sendFrom 64 = .ok (.iload_n 2, 1) := by decide +kernel
theorem dc_O_sendFrom_65 : decode bc_O_sendFrom 65 = .ok (.iload 4, 2) := by decide +kernel
theorem dc_O_sendFrom_67 : decode bc_O_sendFrom 67 = .ok (.invokevirtual 46, 3) := by decide +kernel
theorem dc_O_sendFrom_70 : decode bc_O_sendFrom 70 = .ok (.pop, 1) := by decide +kernel
theorem dc_O_sendFrom_71 : decode bc_O_sendFrom 71 = .ok (.return_, 1) := by decide +kernel
theorem dc_O_makeStable_0 : decode bc_O_makeStable 0 = .ok (.aload_n 1, 1) := by decide +kernel
theorem dc_O_makeStable_1 : decode bc_O_makeStable 1 = .ok (.invokevirtual 87, 3) := by decide +kernel
theorem dc_O_makeStable_4 : decode bc_O_makeStable 4 = .ok (.aload_n 0, 1) := by decide +kernel
theorem dc_O_makeStable_5 : decode bc_O_makeStable 5 = .ok (.getfield 19, 3) := by decide +kernel
theorem dc_O_makeStable_8 : decode bc_O_makeStable 8 = .ok (.getfield 184, 3) := by decide +kernel
theorem dc_O_makeStable_11 : decode bc_O_makeStable 11 = .ok (.ldc2_w 187, 3) := by decide +kernel
theorem dc_O_makeStable_14 : decode bc_O_makeStable 14 = .ok (.lxor, 1) := by decide +kernel
theorem dc_O_makeStable_15 : decode bc_O_makeStable 15 = .ok (.land, 1) := by decide +kernel
theorem dc_O_makeStable_16 : decode bc_O_makeStable 16 = .ok (.lstore_n 2, 1) := by decide +kernel
theorem dc_O_makeStable_17 : decode bc_O_makeStable 17 = .ok (.aload_n 0, 1) := by decide +kernel
theorem dc_O_makeStable_18 : decode bc_O_makeStable 18 = .ok (.getfield 19, 3) := by decide +kernel
theorem dc_O_makeStable_21 : decode bc_O_makeStable 21 = .ok (.dup, 1) := by decide +kernel
theorem dc_O_makeStable_22 : decode bc_O_makeStable 22 = .ok (.getfield 184, 3) := by decide +kernel
theorem dc_O_makeStable_25 : decode bc_O_makeStable 25 = .ok (.lload_n 2, 1) := by decide +kernel
theorem dc_O_makeStable_26 : decode bc_O_makeStable 26 = .ok (.lor, 1) := by decide +kernel
theorem dc_O_makeStable_27 : decode bc_O_makeStable 27 = .ok (.putfield 184, 3) := by decide +kernel
theorem dc_O_makeStable_30 : decode bc_O_makeStable 30 = .ok (.lload_n 2, 1) := by decide +kernel
theorem dc_O_makeStable_31 : decode bc_O_makeStable 31 = .ok (.invokestatic 189, 3) := by decide +kernel
theorem dc_O_makeStable_34 : decode bc_O_makeStable 34 = .ok (.ireturn, 1) := by decide +kernel
theorem dc_B_bitCount_0 : decode bc_B_bitCount 0 = .ok (.lload_n 0, 1) := by decide +kernel
theorem dc_B_bitCount_1 : decode bc_B_bitCount 1 = .ok (.lload_n 0, 1) := by decide +kernel
theorem dc_B_bitCount_2 : decode bc_B_bitCount 2 = .ok (.iconst 1, 1) := by decide +kernel
theorem dc_B_bitCount_3 : decode bc_B_bitCount 3 = .ok (.lushr, 1) := by decide +kernel
theorem dc_B_bitCount_4 : decode bc_B_bitCount 4 = .ok (.ldc2_w 314, 3) := by decide +kernel
theorem dc_B_bitCount_7 : decode bc_B_bitCount 7 = .ok (.land, 1) := by decide +kernel
theorem dc_B_bitCount_8 : decode bc_B_bitCount 8 = .ok (.lsub, 1) := by decide +kernel
theorem dc_B_bitCount_9 : decode bc_B_bitCount 9 = .ok (.lstore_n 0, 1) := by decide +kernel
theorem dc_B_bitCount_10 : decode bc_B_bitCount 10 = .ok (.lload_n 0, 1) := by decide +kernel
theorem dc_B_bitCount_11 : decode bc_B_bitCount 11 = .ok (.ldc2_w 316, 3) := by decide +kernel
theorem dc_B_bitCount_14 : decode bc_B_bitCount 14 = .ok (.land, 1) := by decide +kernel
theorem dc_B_bitCount_15 : decode bc_B_bitCount 15 = .ok (.lload_n 0, 1) := by decide +kernel
theorem dc_B_bitCount_16 : decode bc_B_bitCount 16 = .ok (.iconst 2, 1) := by decide +kernel
theorem dc_B_bitCount_17 : decode bc_B_bitCount 17 = .ok (.lushr, 1) := by decide +kernel
theorem dc_B_bitCount_18 : decode bc_B_bitCount 18 = .ok (.ldc2_w 316, 3) := by decide +kernel
theorem dc_B_bitCount_21 : decode bc_B_bitCount 21 = .ok (.land, 1) := by decide +kernel
theorem dc_B_bitCount_22 : decode bc_B_bitCount 22 = .ok (.ladd, 1) := by decide +kernel
theorem dc_B_bitCount_23 : decode bc_B_bitCount 23 = .ok (.lstore_n 0, 1) := by decide +kernel
theorem dc_B_bitCount_24 : decode bc_B_bitCount 24 = .ok (.lload_n 0, 1) := by decide +kernel
theorem dc_B_bitCount_25 : decode bc_B_bitCount 25 = .ok (.lload_n 0, 1) := by decide +kernel
theorem dc_B_bitCount_26 : decode bc_B_bitCount 26 = .ok (.iconst 4, 1) := by decide +kernel
theorem dc_B_bitCount_27 : decode bc_B_bitCount 27 = .ok (.lushr, 1) := by decide +kernel
theorem dc_B_bitCount_28 : decode bc_B_bitCount 28 = .ok (.ladd, 1) := by decide +kernel
theorem dc_B_bitCount_29 : decode bc_B_bitCount 29 = .ok (.ldc2_w 318, 3) := by decide +kernel
theorem dc_B_bitCount_32 : decode bc_B_bitCount 32 = .ok (.land, 1) := by decide +kernel
theorem dc_B_bitCount_33 : decode bc_B_bitCount 33 = .ok (.lstore_n 0, 1) := by decide +kernel
theorem dc_B_bitCount_34 : decode bc_B_bitCount 34 = .ok (.lload_n 0, 1) := by decide +kernel
theorem dc_B_bitCount_35 : decode bc_B_bitCount 35 = .ok (.lload_n 0, 1) := by decide +kernel
theorem dc_B_bitCount_36 : decode bc_B_bitCount 36 = .ok (.bipush 8, 2) := by decide +kernel
theorem dc_B_bitCount_38 : decode bc_B_bitCount 38 = .ok (.lushr, 1) := by decide +kernel
theorem dc_B_bitCount_39 : decode bc_B_bitCount 39 = .ok (.ladd, 1) := by decide +kernel
theorem dc_B_bitCount_40 : decode bc_B_bitCount 40 = .ok (.lstore_n 0, 1) := by decide +kernel
theorem dc_B_bitCount_41 : decode bc_B_bitCount 41 = .ok (.lload_n 0, 1) := by decide +kernel
theorem dc_B_bitCount_42 : decode bc_B_bitCount 42 = .ok (.lload_n 0, 1) := by decide +kernel
theorem dc_B_bitCount_43 : decode bc_B_bitCount 43 = .ok (.bipush 16, 2) := by decide +kernel
theorem dc_B_bitCount_45 : decode bc_B_bitCount 45 = .ok (.lushr, 1) := by decide +kernel
theorem dc_B_bitCount_46 : decode bc_B_bitCount 46 = .ok (.ladd, 1) := by decide +kernel
theorem dc_B_bitCount_47 : decode bc_B_bitCount 47 = .ok (.lstore_n 0, 1) := by decide +kernel
theorem dc_B_bitCount_48 : decode bc_B_bitCount 48 = .ok (.lload_n 0, 1) := by decide +kernel
theorem dc_B_bitCount_49 : decode bc_B_bitCount 49 = .ok (.lload_n 0, 1) := by decide +kernel
theorem dc_B_bitCount_50 : decode bc_B_bitCount 50 = .ok (.bipush 32, 2) := by decide +kernel
theorem dc_B_bitCount_52 : decode bc_B_bitCount 52 = .ok (.lushr, 1) := by decide +kernel
theorem dc_B_bitCount_53 : decode bc_B_bitCount 53 = .ok (.ladd, 1) := by decide +kernel
theorem dc_B_bitCount_54 : decode bc_B_bitCount 54 = .ok (.lstore_n 0, 1) := by decide +kernel
theorem dc_B_bitCount_55 : decode bc_B_bitCount 55 = .ok (.lload_n 0, 1) := by decide +kernel
theorem dc_B_bitCount_56 : decode bc_B_bitCount 56 = .ok (.l2i, 1) := by decide +kernel
theorem dc_B_bitCount_57 : decode bc_B_bitCount 57 = .ok (.bipush 127, 2) := by decide +kernel
theorem dc_B_bitCount_59 : decode bc_B_bitCount 59 = .ok (.iand, 1) := by decide +kernel
theorem dc_B_bitCount_60 : decode bc_B_bitCount 60 = .ok (.ireturn, 1) := by decide +kernel
theorem dc_O_lose_0 : decode bc_O_lose 0 = .ok (.aload_n 0, 1) := by decide +kernel
theorem dc_O_lose_1 : decode bc_O_lose 1 = .ok (.getfield 26, 3) := by decide +kernel
theorem dc_O_lose_4 : decode bc_O_lose 4 = .ok (.iload_n 1, 1) := by decide +kernel
theorem dc_O_lose_5 : decode bc_O_lose 5 = .ok (.invokevirtual 50, 3) := by decide +kernel
theorem dc_O_lose_8 : decode bc_O_lose 8 = .ok (.ifCond .eq 16, 3) := by decide +kernel
theorem dc_O_lose_11 : decode bc_O_lose 11 = .ok (.aload_n 0, 1) := by decide +kernel
theorem dc_O_lose_12 : decode bc_O_lose 12 = .ok (.getfield 26, 3) := by decide +kernel
theorem dc_O_lose_15 : decode bc_O_lose 15 = .ok (.getfield 81, 3) := by decide +kernel
theorem dc_O_lose_18 : decode bc_O_lose 18 = .ok (.iload_n 1, 1) := by decide +kernel
theorem dc_O_lose_19 : decode bc_O_lose 19 = .ok (.iaload, 1) := by decide +kernel
theorem dc_O_lose_20 : decode bc_O_lose 20 = .ok (.iconst (-1), 1) := by decide +kernel
theorem dc_O_lose_21 : decode bc_O_lose 21 = .ok (.if_icmp .ne 5, 3) := by decide +kernel
theorem dc_O_lose_24 : decode bc_O_lose 24 = .ok (.iconst 0, 1) := by decide +kernel
theorem dc_O_lose_25 : decode bc_O_lose 25 = .ok (.ireturn, 1) := by decide +kernel
theorem dc_O_lose_26 : decode bc_O_lose 26 = .ok (.aload_n 0, 1) := by decide +kernel
theorem dc_O_lose_27 : decode bc_O_lose 27 = .ok (.getfield 26, 3) := by decide +kernel
theorem dc_O_lose_30 : decode bc_O_lose 30 = .ok (.getfield 74, 3) := by decide +kernel
theorem dc_O_lose_33 : decode bc_O_lose 33 = .ok (.iload_n 1, 1) := by decide +kernel
theorem dc_O_lose_34 : decode bc_O_lose 34 = .ok (.iconst 2, 1) := by decide +kernel
theorem dc_O_lose_35 : decode bc_O_lose 35 = .ok (.iastore, 1) := by decide +kernel
theorem dc_O_lose_36 : decode bc_O_lose 36 = .ok (.iconst 1, 1) := by decide +kernel
theorem dc_O_lose_37 : decode bc_O_lose 37 = .ok (.ireturn, 1) := by decide +kernel
theorem dc_O_resend_0 : decode bc_O_resend 0 = .ok (.aload_n 0, 1) := by decide +kernel
theorem dc_O_resend_1 : decode bc_O_resend 1 = .ok (.iload_n 1, 1) := by decide +kernel
theorem dc_O_resend_2 : decode bc_O_resend 2 = .ok (.invokevirtual 84, 3) := by decide +kernel
theorem dc_O_resend_5 : decode bc_O_resend 5 = .ok (.ifCond .ne 5, 3) := by decide +kernel
theorem dc_O_resend_8 : decode bc_O_resend 8 = .ok (.iconst (-1), 1) := by decide +kernel
theorem dc_O_resend_9 : decode bc_O_resend 9 = .ok (.ireturn, 1) := by decide +kernel
theorem dc_O_resend_10 : decode bc_O_resend 10 = .ok (.aload_n 0, 1) := by decide +kernel
theorem dc_O_resend_11 : decode bc_O_resend 11 = .ok (.getfield 26, 3) := by decide +kernel
theorem dc_O_resend_14 : decode bc_O_resend 14 = .ok (.aload_n 0, 1) := by decide +kernel
theorem dc_O_resend_15 : decode bc_O_resend 15 = .ok (.getfield 11, 3) := by decide +kernel
theorem dc_O_resend_18 : decode bc_O_resend 18 = .ok (.iload_n 1, 1) := by decide +kernel
theorem dc_O_resend_19 : decode bc_O_resend 19 = .ok (.aaload, 1) := by decide +kernel
theorem dc_O_resend_20 : decode bc_O_resend 20 = .ok (.invokevirtual 87, 3) := by decide +kernel
theorem dc_O_resend_23 : decode bc_O_resend 23 = .ok (.invokevirtual 91, 3) := by decide +kernel
theorem dc_O_resend_26 : decode bc_O_resend 26 = .ok (.ireturn, 1) := by decide +kernel
