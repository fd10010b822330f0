theorem dX0_init_0 : decode cX0_init 0 = .ok (.aload_n 0, 1) := by decide +kernel
theorem dX0_init_1 : decode cX0_init 1 = .ok (.invokespecial 1, 3) := by decide +kernel
theorem dX0_init_4 : decode cX0_init 4 = .ok (.aload_n 0, 1) := by decide +kernel
theorem dX0_init_5 : decode cX0_init 5 = .ok (.iload_n 1, 1) := by decide +kernel
theorem dX0_init_6 : decode cX0_init 6 = .ok (.putfield 7, 3) := by decide +kernel
theorem dX0_init_9 : decode cX0_init 9 = .ok (.aload_n 0, 1) := by decide +kernel
theorem dX0_init_10 : decode cX0_init 10 = .ok (.iload_n 2, 1) := by decide +kernel
theorem dX0_init_11 : decode cX0_init 11 = .ok (.putfield 13, 3) := by decide +kernel
theorem dX0_init_14 : decode cX0_init 14 = .ok (.aload_n 0, 1) := by decide +kernel
theorem dX0_init_15 : decode cX0_init 15 = .ok (.iload_n 3, 1) := by decide +kernel
theorem dX0_init_16 : decode cX0_init 16 = .ok (.putfield 16, 3) := by decide +kernel
theorem dX0_init_19 : decode cX0_init 19 = .ok (.aload_n 0, 1) := by decide +kernel
theorem dX0_init_20 : decode cX0_init 20 = .ok (.iload 4, 2) := by decide +kernel
theorem dX0_init_22 : decode cX0_init 22 = .ok (.putfield 19, 3) := by decide +kernel
theorem dX0_init_25 : decode cX0_init 25 = .ok (.aload_n 0, 1) := by decide +kernel
theorem dX0_init_26 : decode cX0_init 26 = .ok (.iload 5, 2) := by decide +kernel
theorem dX0_init_28 : decode cX0_init 28 = .ok (.putfield 22, 3) := by decide +kernel
theorem dX0_init_31 : decode cX0_init 31 = .ok (.return_, 1) := by decide +kernel
theorem dX1_init_0 : decode cX1_init 0 = .ok (.aload_n 0, 1) := by decide +kernel
theorem dX1_init_1 : decode cX1_init 1 = .ok (.invokespecial 3, 3) := by decide +kernel
theorem dX1_init_4 : decode cX1_init 4 = .ok (.aload_n 0, 1) := by decide +kernel
theorem dX1_init_5 : decode cX1_init 5 = .ok (.bipush 8, 2) := by decide +kernel
theorem dX1_init_7 : decode cX1_init 7 = .ok (.anewarray 9, 3) := by decide +kernel
theorem dX1_init_10 : decode cX1_init 10 = .ok (.putfield 11, 3) := by decide +kernel
theorem dX1_init_13 : decode cX1_init 13 = .ok (.aload_n 0, 1) := by decide +kernel
theorem dX1_init_14 : decode cX1_init 14 = .ok (.new 9, 3) := by decide +kernel
theorem dX1_init_17 : decode cX1_init 17 = .ok (.dup, 1) := by decide +kernel
theorem dX1_init_18 : decode cX1_init 18 = .ok (.invokespecial 17, 3) := by decide +kernel
theorem dX1_init_21 : decode cX1_init 21 = .ok (.putfield 18, 3) := by decide +kernel
theorem dX1_init_24 : decode cX1_init 24 = .ok (.aload_n 0, 1) := by decide +kernel
theorem dX1_init_25 : decode cX1_init 25 = .ok (.new 22, 3) := by decide +kernel
theorem dX1_init_28 : decode cX1_init 28 = .ok (.dup, 1) := by decide +kernel
theorem dX1_init_29 : decode cX1_init 29 = .ok (.invokespecial 24, 3) := by decide +kernel
theorem dX1_init_32 : decode cX1_init 32 = .ok (.putfield 25, 3) := by decide +kernel
theorem dX1_init_35 : decode cX1_init 35 = .ok (.aload_n 0, 1) := by decide +kernel
theorem dX1_init_36 : decode cX1_init 36 = .ok (.iconst 0, 1) := by decide +kernel
theorem dX1_init_37 : decode cX1_init 37 = .ok (.putfield 29, 3) := by decide +kernel
theorem dX1_init_40 : decode cX1_init 40 = .ok (.aload_n 0, 1) := by decide +kernel
theorem dX1_init_41 : decode cX1_init 41 = .ok (.iconst 0, 1) := by decide +kernel
theorem dX1_init_42 : decode cX1_init 42 = .ok (.putfield 33, 3) := by decide +kernel
theorem dX1_init_45 : decode cX1_init 45 = .ok (.aload_n 0, 1) := by decide +kernel
theorem dX1_init_46 : decode cX1_init 46 = .ok (.iconst 1, 1) := by decide +kernel
theorem dX1_init_47 : decode cX1_init 47 = .ok (.putfield 36, 3) := by decide +kernel
theorem dX1_init_50 : decode cX1_init 50 = .ok (.iconst 0, 1) := by decide +kernel
theorem dX1_init_51 : decode cX1_init 51 = .ok (.istore_n 1, 1) := by decide +kernel
theorem dX1_init_52 : decode cX1_init 52 = .ok (.iload_n 1, 1) := by decide +kernel
theorem dX1_init_53 : decode cX1_init 53 = .ok (.bipush 8, 2) := by decide +kernel
theorem dX1_init_55 : decode cX1_init 55 = .ok (.if_icmp .ge 22, 3) := by decide +kernel
theorem dX1_init_58 : decode cX1_init 58 = .ok (.aload_n 0, 1) := by decide +kernel
theorem dX1_init_59 : decode cX1_init 59 = .ok (.getfield 11, 3) := by decide +kernel
theorem dX1_init_62 : decode cX1_init 62 = .ok (.iload_n 1, 1) := by decide +kernel
theorem dX1_init_63 : decode cX1_init 63 = .ok (.new 9, 3) := by decide +kernel
theorem dX1_init_66 : decode cX1_init 66 = .ok (.dup, 1) := by decide +kernel
theorem dX1_init_67 : decode cX1_init 67 = .ok (.invokespecial 17, 3) := by decide +kernel
theorem dX1_init_70 : decode cX1_init 70 = .ok (.aastore, 1) := by decide +kernel
theorem dX1_init_71 : decode cX1_init 71 = .ok (.iinc 1 1, 3) := by decide +kernel
theorem dX1_init_74 : decode cX1_init 74 = .ok (.goto (-22), 3) := by decide +kernel
theorem dX1_init_77 : decode cX1_init 77 = .ok (.return_, 1) := by decide +kernel
theorem dX1_jointAt_0 : decode cX1_jointAt 0 = .ok (.iload_n 1, 1) := by decide +kernel
theorem dX1_jointAt_1 : decode cX1_jointAt 1 = .ok (.ifCond .lt 29, 3) := by decide +kernel
theorem dX1_jointAt_4 : decode cX1_jointAt 4 = .ok (.iload_n 1, 1) := by decide +kernel
theorem dX1_jointAt_5 : decode cX1_jointAt 5 = .ok (.aload_n 0, 1) := by decide +kernel
theorem dX1_jointAt_6 : decode cX1_jointAt 6 = .ok (.getfield 29, 3) := by decide +kernel
theorem dX1_jointAt_9 : decode cX1_jointAt 9 = .ok (.if_icmp .ge 21, 3) := by decide +kernel
theorem dX1_jointAt_12 : decode cX1_jointAt 12 = .ok (.iload_n 1, 1) := by decide +kernel
theorem dX1_jointAt_13 : decode cX1_jointAt 13 = .ok (.aload_n 0, 1) := by decide +kernel
theorem dX1_jointAt_14 : decode cX1_jointAt 14 = .ok (.getfield 11, 3) := by decide +kernel
theorem dX1_jointAt_17 : decode cX1_jointAt 17 = .ok (.arraylength, 1) := by decide +kernel
theorem dX1_jointAt_18 : decode cX1_jointAt 18 = .ok (.if_icmp .ge 12, 3) := by decide +kernel
theorem dX1_jointAt_21 : decode cX1_jointAt 21 = .ok (.aload_n 0, 1) := by decide +kernel
theorem dX1_jointAt_22 : decode cX1_jointAt 22 = .ok (.getfield 11, 3) := by decide +kernel
theorem dX1_jointAt_25 : decode cX1_jointAt 25 = .ok (.iload_n 1, 1) := by decide +kernel
theorem dX1_jointAt_26 : decode cX1_jointAt 26 = .ok (.aaload, 1) := by decide +kernel
theorem dX1_jointAt_27 : decode cX1_jointAt 27 = .ok (.goto 4, 3) := by decide +kernel
theorem dX1_jointAt_30 : decode cX1_jointAt 30 = .ok (.aconst_null, 1) := by decide +kernel
theorem dX1_jointAt_31 : decode cX1_jointAt 31 = .ok (.areturn, 1) := by decide +kernel
theorem dX1_placeCount_0 : decode cX1_placeCount 0 = .ok (.iconst 0, 1) := by decide +kernel
theorem dX1_placeCount_1 : decode cX1_placeCount 1 = .ok (.aload_n 0, 1) := by decide +kernel
theorem dX1_placeCount_2 : decode cX1_placeCount 2 = .ok (.getfield 29, 3) := by decide +kernel
theorem dX1_placeCount_5 : decode cX1_placeCount 5 = .ok (.iconst 1, 1) := by decide +kernel
theorem dX1_placeCount_6 : decode cX1_placeCount 6 = .ok (.isub, 1) := by decide +kernel
theorem dX1_placeCount_7 : decode cX1_placeCount 7 = .ok (.invokestatic 39, 3) := by decide +kernel
theorem dX1_placeCount_10 : decode cX1_placeCount 10 = .ok (.ireturn, 1) := by decide +kernel
theorem dX1_hasPlace_0 : decode cX1_hasPlace 0 = .ok (.iload_n 1, 1) := by decide +kernel
theorem dX1_hasPlace_1 : decode cX1_hasPlace 1 = .ok (.ifCond .lt 15, 3) := by decide +kernel
theorem dX1_hasPlace_4 : decode cX1_hasPlace 4 = .ok (.iload_n 1, 1) := by decide +kernel
theorem dX1_hasPlace_5 : decode cX1_hasPlace 5 = .ok (.aload_n 0, 1) := by decide +kernel
theorem dX1_hasPlace_6 : decode cX1_hasPlace 6 = .ok (.invokevirtual 45, 3) := by decide +kernel
theorem dX1_hasPlace_9 : decode cX1_hasPlace 9 = .ok (.if_icmp .ge 7, 3) := by decide +kernel
theorem dX1_hasPlace_12 : decode cX1_hasPlace 12 = .ok (.iconst 1, 1) := by decide +kernel
theorem dX1_hasPlace_13 : decode cX1_hasPlace 13 = .ok (.goto 4, 3) := by decide +kernel
theorem dX1_hasPlace_16 : decode cX1_hasPlace 16 = .ok (.iconst 0, 1) := by decide +kernel
theorem dX1_hasPlace_17 : decode cX1_hasPlace 17 = .ok (.ireturn, 1) := by decide +kernel
theorem dX1_propose_0 : decode cX1_propose 0 = .ok (.aload_n 0, 1) := by decide +kernel
theorem dX1_propose_1 : decode cX1_propose 1 = .ok (.getfield 18, 3) := by decide +kernel
theorem dX1_propose_4 : decode cX1_propose 4 = .ok (.iload_n 1, 1) := by decide +kernel
theorem dX1_propose_5 : decode cX1_propose 5 = .ok (.iload_n 2, 1) := by decide +kernel
theorem dX1_propose_6 : decode cX1_propose 6 = .ok (.iload_n 3, 1) := by decide +kernel
theorem dX1_propose_7 : decode cX1_propose 7 = .ok (.iload 4, 2) := by decide +kernel
theorem dX1_propose_9 : decode cX1_propose 9 = .ok (.invokevirtual 49, 3) := by decide +kernel
theorem dX1_propose_12 : decode cX1_propose 12 = .ok (.return_, 1) := by decide +kernel
theorem dX1_allowsProposal_0 : decode cX1_allowsProposal 0 = .ok (.aload_n 0, 1) := by decide +kernel
theorem dX1_allowsProposal_1 : decode cX1_allowsProposal 1 = .ok (.getfield 18, 3) := by decide +kernel
theorem dX1_allowsProposal_4 : decode cX1_allowsProposal 4 = .ok (.invokevirtual 53, 3) := by decide +kernel
theorem dX1_allowsProposal_7 : decode cX1_allowsProposal 7 = .ok (.ifCond .eq 43, 3) := by decide +kernel
theorem dX1_allowsProposal_10 : decode cX1_allowsProposal 10 = .ok (.aload_n 0, 1) := by decide +kernel
theorem dX1_allowsProposal_11 : decode cX1_allowsProposal 11 = .ok (.aload_n 0, 1) := by decide +kernel
theorem dX1_allowsProposal_12 : decode cX1_allowsProposal 12 = .ok (.iload_n 1, 1) := by decide +kernel
theorem dX1_allowsProposal_13 : decode cX1_allowsProposal 13 = .ok (.iconst 1, 1) := by decide +kernel
theorem dX1_allowsProposal_14 : decode cX1_allowsProposal 14 = .ok (.isub, 1) := by decide +kernel
theorem dX1_allowsProposal_15 : decode cX1_allowsProposal 15 = .ok (.invokevirtual 57, 3) := by decide +kernel
theorem dX1_allowsProposal_18 : decode cX1_allowsProposal 18 = .ok (.aload_n 0, 1) := by decide +kernel
theorem dX1_allowsProposal_19 : decode cX1_allowsProposal 19 = .ok (.getfield 18, 3) := by decide +kernel
theorem dX1_allowsProposal_22 : decode cX1_allowsProposal 22 = .ok (.invokevirtual 61, 3) := by decide +kernel
theorem dX1_allowsProposal_25 : decode cX1_allowsProposal 25 = .ok (.ifCond .eq 25, 3) := by decide +kernel
theorem dX1_allowsProposal_28 : decode cX1_allowsProposal 28 = .ok (.aload_n 0, 1) := by decide +kernel
theorem dX1_allowsProposal_29 : decode cX1_allowsProposal 29 = .ok (.aload_n 0, 1) := by decide +kernel
theorem dX1_allowsProposal_30 : decode cX1_allowsProposal 30 = .ok (.getfield 18, 3) := by decide +kernel
theorem dX1_allowsProposal_33 : decode cX1_allowsProposal 33 = .ok (.aload_n 0, 1) := by decide +kernel
theorem dX1_allowsProposal_34 : decode cX1_allowsProposal 34 = .ok (.iload_n 1, 1) := by decide +kernel
theorem dX1_allowsProposal_35 : decode cX1_allowsProposal 35 = .ok (.iconst 1, 1) := by decide +kernel
theorem dX1_allowsProposal_36 : decode cX1_allowsProposal 36 = .ok (.iadd, 1) := by decide +kernel
theorem dX1_allowsProposal_37 : decode cX1_allowsProposal 37 = .ok (.invokevirtual 57, 3) := by decide +kernel
theorem dX1_allowsProposal_40 : decode cX1_allowsProposal 40 = .ok (.invokevirtual 61, 3) := by decide +kernel
theorem dX1_allowsProposal_43 : decode cX1_allowsProposal 43 = .ok (.ifCond .eq 7, 3) := by decide +kernel
theorem dX1_allowsProposal_46 : decode cX1_allowsProposal 46 = .ok (.iconst 1, 1) := by decide +kernel
theorem dX1_allowsProposal_47 : decode cX1_allowsProposal 47 = .ok (.goto 4, 3) := by decide +kernel
theorem dX1_allowsProposal_50 : decode cX1_allowsProposal 50 = .ok (.iconst 0, 1) := by decide +kernel
theorem dX1_allowsProposal_51 : decode cX1_allowsProposal 51 = .ok (.ireturn, 1) := by decide +kernel
theorem dX1_wouldTurnLeft_0 : decode cX1_wouldTurnLeft 0 = .ok (.aload_n 1, 1) := by decide +kernel
theorem dX1_wouldTurnLeft_1 : decode cX1_wouldTurnLeft 1 = .ok (.ifnull 7, 3) := by decide +kernel
theorem dX1_wouldTurnLeft_4 : decode cX1_wouldTurnLeft 4 = .ok (.aload_n 2, 1) := by decide +kernel
theorem dX1_wouldTurnLeft_5 : decode cX1_wouldTurnLeft 5 = .ok (.ifnonnull 5, 3) := by decide +kernel
theorem dX1_wouldTurnLeft_8 : decode cX1_wouldTurnLeft 8 = .ok (.iconst 1, 1) := by decide +kernel
theorem dX1_wouldTurnLeft_9 : decode cX1_wouldTurnLeft 9 = .ok (.ireturn, 1) := by decide +kernel
theorem dX1_wouldTurnLeft_10 : decode cX1_wouldTurnLeft 10 = .ok (.aload_n 0, 1) := by decide +kernel
theorem dX1_wouldTurnLeft_11 : decode cX1_wouldTurnLeft 11 = .ok (.getfield 25, 3) := by decide +kernel
theorem dX1_wouldTurnLeft_14 : decode cX1_wouldTurnLeft 14 = .ok (.aload_n 1, 1) := by decide +kernel
theorem dX1_wouldTurnLeft_15 : decode cX1_wouldTurnLeft 15 = .ok (.aload_n 2, 1) := by decide +kernel
theorem dX1_wouldTurnLeft_16 : decode cX1_wouldTurnLeft 16 = .ok (.invokevirtual 65, 3) := by decide +kernel
theorem dX1_wouldTurnLeft_19 : decode cX1_wouldTurnLeft 19 = .ok (.aload_n 0, 1) := by decide +kernel
theorem dX1_wouldTurnLeft_20 : decode cX1_wouldTurnLeft 20 = .ok (.getfield 25, 3) := by decide +kernel
theorem dX1_wouldTurnLeft_23 : decode cX1_wouldTurnLeft 23 = .ok (.invokevirtual 69, 3) := by decide +kernel
theorem dX1_wouldTurnLeft_26 : decode cX1_wouldTurnLeft 26 = .ok (.ireturn, 1) := by decide +kernel
theorem dX1_acceptNewJoint_0 : decode cX1_acceptNewJoint 0 = .ok (.aload_n 0, 1) := by decide +kernel
theorem dX1_acceptNewJoint_1 : decode cX1_acceptNewJoint 1 = .ok (.getfield 29, 3) := by decide +kernel
theorem dX1_acceptNewJoint_4 : decode cX1_acceptNewJoint 4 = .ok (.aload_n 0, 1) := by decide +kernel
theorem dX1_acceptNewJoint_5 : decode cX1_acceptNewJoint 5 = .ok (.getfield 11, 3) := by decide +kernel
theorem dX1_acceptNewJoint_8 : decode cX1_acceptNewJoint 8 = .ok (.arraylength, 1) := by decide +kernel
theorem dX1_acceptNewJoint_9 : decode cX1_acceptNewJoint 9 = .ok (.if_icmp .ge 23, 3) := by decide +kernel
theorem dX1_acceptNewJoint_12 : decode cX1_acceptNewJoint 12 = .ok (.aload_n 0, 1) := by decide +kernel
theorem dX1_acceptNewJoint_13 : decode cX1_acceptNewJoint 13 = .ok (.dup, 1) := by decide +kernel
theorem dX1_acceptNewJoint_14 : decode cX1_acceptNewJoint 14 = .ok (.getfield 29, 3) := by decide +kernel
theorem dX1_acceptNewJoint_17 : decode cX1_acceptNewJoint 17 = .ok (.iconst 1, 1) := by decide +kernel
theorem dX1_acceptNewJoint_18 : decode cX1_acceptNewJoint 18 = .ok (.iadd, 1) := by decide +kernel
theorem dX1_acceptNewJoint_19 : decode cX1_acceptNewJoint 19 = .ok (.putfield 29, 3) := by decide +kernel
theorem dX1_acceptNewJoint_22 : decode cX1_acceptNewJoint 22 = .ok (.aload_n 0, 1) := by decide +kernel
theorem dX1_acceptNewJoint_23 : decode cX1_acceptNewJoint 23 = .ok (.aload_n 0, 1) := by decide +kernel
theorem dX1_acceptNewJoint_24 : decode cX1_acceptNewJoint 24 = .ok (.getfield 29, 3) := by decide +kernel
theorem dX1_acceptNewJoint_27 : decode cX1_acceptNewJoint 27 = .ok (.iconst 1, 1) := by decide +kernel
theorem dX1_acceptNewJoint_28 : decode cX1_acceptNewJoint 28 = .ok (.isub, 1) := by decide +kernel
theorem dX1_acceptNewJoint_29 : decode cX1_acceptNewJoint 29 = .ok (.invokevirtual 72, 3) := by decide +kernel
theorem dX1_acceptNewJoint_32 : decode cX1_acceptNewJoint 32 = .ok (.return_, 1) := by decide +kernel
theorem dX1_acceptMovedJoint_0 : decode cX1_acceptMovedJoint 0 = .ok (.aload_n 0, 1) := by decide +kernel
theorem dX1_acceptMovedJoint_1 : decode cX1_acceptMovedJoint 1 = .ok (.iload_n 1, 1) := by decide +kernel
theorem dX1_acceptMovedJoint_2 : decode cX1_acceptMovedJoint 2 = .ok (.invokevirtual 57, 3) := by decide +kernel
theorem dX1_acceptMovedJoint_5 : decode cX1_acceptMovedJoint 5 = .ok (.astore_n 2, 1) := by decide +kernel
theorem dX1_acceptMovedJoint_6 : decode cX1_acceptMovedJoint 6 = .ok (.aload_n 2, 1) := by decide +kernel
theorem dX1_acceptMovedJoint_7 : decode cX1_acceptMovedJoint 7 = .ok (.ifnull 45, 3) := by decide +kernel
theorem dX1_acceptMovedJoint_10 : decode cX1_acceptMovedJoint 10 = .ok (.aload_n 2, 1) := by decide +kernel
theorem dX1_acceptMovedJoint_11 : decode cX1_acceptMovedJoint 11 = .ok (.aload_n 0, 1) := by decide +kernel
theorem dX1_acceptMovedJoint_12 : decode cX1_acceptMovedJoint 12 = .ok (.getfield 18, 3) := by decide +kernel
theorem dX1_acceptMovedJoint_15 : decode cX1_acceptMovedJoint 15 = .ok (.getfield 76, 3) := by decide +kernel
theorem dX1_acceptMovedJoint_18 : decode cX1_acceptMovedJoint 18 = .ok (.aload_n 0, 1) := by decide +kernel
theorem dX1_acceptMovedJoint_19 : decode cX1_acceptMovedJoint 19 = .ok (.getfield 18, 3) := by decide +kernel
theorem dX1_acceptMovedJoint_22 : decode cX1_acceptMovedJoint 22 = .ok (.getfield 79, 3) := by decide +kernel
theorem dX1_acceptMovedJoint_25 : decode cX1_acceptMovedJoint 25 = .ok (.aload_n 0, 1) := by decide +kernel
theorem dX1_acceptMovedJoint_26 : decode cX1_acceptMovedJoint 26 = .ok (.getfield 18, 3) := by decide +kernel
theorem dX1_acceptMovedJoint_29 : decode cX1_acceptMovedJoint 29 = .ok (.getfield 82, 3) := by decide +kernel
theorem dX1_acceptMovedJoint_32 : decode cX1_acceptMovedJoint 32 = .ok (.aload_n 0, 1) := by decide +kernel
theorem dX1_acceptMovedJoint_33 : decode cX1_acceptMovedJoint 33 = .ok (.getfield 18, 3) := by decide +kernel
theorem dX1_acceptMovedJoint_36 : decode cX1_acceptMovedJoint 36 = .ok (.getfield 85, 3) := by decide +kernel
theorem dX1_acceptMovedJoint_39 : decode cX1_acceptMovedJoint 39 = .ok (.invokevirtual 49, 3) := by decide +kernel
theorem dX1_acceptMovedJoint_42 : decode cX1_acceptMovedJoint 42 = .ok (.aload_n 0, 1) := by decide +kernel
theorem dX1_acceptMovedJoint_43 : decode cX1_acceptMovedJoint 43 = .ok (.dup, 1) := by decide +kernel
theorem dX1_acceptMovedJoint_44 : decode cX1_acceptMovedJoint 44 = .ok (.getfield 33, 3) := by decide +kernel
theorem dX1_acceptMovedJoint_47 : decode cX1_acceptMovedJoint 47 = .ok (.iconst 1, 1) := by decide +kernel
theorem dX1_acceptMovedJoint_48 : decode cX1_acceptMovedJoint 48 = .ok (.iadd, 1) := by decide +kernel
theorem dX1_acceptMovedJoint_49 : decode cX1_acceptMovedJoint 49 = .ok (.putfield 33, 3) := by decide +kernel
theorem dX1_acceptMovedJoint_52 : decode cX1_acceptMovedJoint 52 = .ok (.return_, 1) := by decide +kernel
theorem dX1_quadOf_0 : decode cX1_quadOf 0 = .ok (.aload_n 0, 1) := by decide +kernel
theorem dX1_quadOf_1 : decode cX1_quadOf 1 = .ok (.iload_n 1, 1) := by decide +kernel
theorem dX1_quadOf_2 : decode cX1_quadOf 2 = .ok (.invokevirtual 57, 3) := by decide +kernel
theorem dX1_quadOf_5 : decode cX1_quadOf 5 = .ok (.astore_n 2, 1) := by decide +kernel
theorem dX1_quadOf_6 : decode cX1_quadOf 6 = .ok (.aload_n 2, 1) := by decide +kernel
theorem dX1_quadOf_7 : decode cX1_quadOf 7 = .ok (.ifnonnull 7, 3) := by decide +kernel
theorem dX1_quadOf_10 : decode cX1_quadOf 10 = .ok (.aconst_null, 1) := by decide +kernel
theorem dX1_quadOf_11 : decode cX1_quadOf 11 = .ok (.goto 10, 3) := by decide +kernel
theorem dX1_quadOf_14 : decode cX1_quadOf 14 = .ok (.aload_n 0, 1) := by decide +kernel
theorem dX1_quadOf_15 : decode cX1_quadOf 15 = .ok (.iload_n 1, 1) := by decide +kernel
theorem dX1_quadOf_16 : decode cX1_quadOf 16 = .ok (.iconst 1, 1) := by decide +kernel
theorem dX1_quadOf_17 : decode cX1_quadOf 17 = .ok (.iadd, 1) := by decide +kernel
theorem dX1_quadOf_18 : decode cX1_quadOf 18 = .ok (.invokevirtual 57, 3) := by decide +kernel
theorem dX1_quadOf_21 : decode cX1_quadOf 21 = .ok (.astore_n 3, 1) := by decide +kernel
theorem dX1_quadOf_22 : decode cX1_quadOf 22 = .ok (.aload_n 2, 1) := by decide +kernel
theorem dX1_quadOf_23 : decode cX1_quadOf 23 = .ok (.ifnull 7, 3) := by decide +kernel
theorem dX1_quadOf_26 : decode cX1_quadOf 26 = .ok (.aload_n 3, 1) := by decide +kernel
theorem dX1_quadOf_27 : decode cX1_quadOf 27 = .ok (.ifnonnull 5, 3) := by decide +kernel
theorem dX1_quadOf_30 : decode cX1_quadOf 30 = .ok (.aconst_null, 1) := by decide +kernel
theorem dX1_quadOf_31 : decode cX1_quadOf 31 = .ok (.areturn, 1) := by decide +kernel
theorem dX1_quadOf_32 : decode cX1_quadOf 32 = .ok (.aload_n 0, 1) := by decide +kernel
theorem dX1_quadOf_33 : decode cX1_quadOf 33 = .ok (.getfield 25, 3) := by decide +kernel
theorem dX1_quadOf_36 : decode cX1_quadOf 36 = .ok (.aload_n 2, 1) := by decide +kernel
theorem dX1_quadOf_37 : decode cX1_quadOf 37 = .ok (.aload_n 3, 1) := by decide +kernel
theorem dX1_quadOf_38 : decode cX1_quadOf 38 = .ok (.invokevirtual 65, 3) := by decide +kernel
theorem dX1_quadOf_41 : decode cX1_quadOf 41 = .ok (.aload_n 0, 1) := by decide +kernel
theorem dX1_quadOf_42 : decode cX1_quadOf 42 = .ok (.getfield 25, 3) := by decide +kernel
theorem dX1_quadOf_45 : decode cX1_quadOf 45 = .ok (.areturn, 1) := by decide +kernel
theorem dX1_areaOfAll_0 : decode cX1_areaOfAll 0 = .ok (.iconst 0, 1) := by decide +kernel
theorem dX1_areaOfAll_1 : decode cX1_areaOfAll 1 = .ok (.istore_n 1, 1) := by decide +kernel
theorem dX1_areaOfAll_2 : decode cX1_areaOfAll 2 = .ok (.iconst 0, 1) := by decide +kernel
theorem dX1_areaOfAll_3 : decode cX1_areaOfAll 3 = .ok (.istore_n 2, 1) := by decide +kernel
theorem dX1_areaOfAll_4 : decode cX1_areaOfAll 4 = .ok (.iload_n 2, 1) := by decide +kernel
theorem dX1_areaOfAll_5 : decode cX1_areaOfAll 5 = .ok (.aload_n 0, 1) := by decide +kernel
theorem dX1_areaOfAll_6 : decode cX1_areaOfAll 6 = .ok (.invokevirtual 45, 3) := by decide +kernel
theorem dX1_areaOfAll_9 : decode cX1_areaOfAll 9 = .ok (.if_icmp .ge 17, 3) := by decide +kernel
theorem dX1_areaOfAll_12 : decode cX1_areaOfAll 12 = .ok (.iload_n 1, 1) := by decide +kernel
theorem dX1_areaOfAll_13 : decode cX1_areaOfAll 13 = .ok (.aload_n 0, 1) := by decide +kernel
theorem dX1_areaOfAll_14 : decode cX1_areaOfAll 14 = .ok (.iload_n 2, 1) := by decide +kernel
theorem dX1_areaOfAll_15 : decode cX1_areaOfAll 15 = .ok (.invokevirtual 98, 3) := by decide +kernel
theorem dX1_areaOfAll_18 : decode cX1_areaOfAll 18 = .ok (.iadd, 1) := by decide +kernel
theorem dX1_areaOfAll_19 : decode cX1_areaOfAll 19 = .ok (.istore_n 1, 1) := by decide +kernel
theorem dX1_areaOfAll_20 : decode cX1_areaOfAll 20 = .ok (.iinc 2 1, 3) := by decide +kernel
theorem dX1_areaOfAll_23 : decode cX1_areaOfAll 23 = .ok (.goto (-19), 3) := by decide +kernel
theorem dX1_areaOfAll_26 : decode cX1_areaOfAll 26 = .ok (.iload_n 1, 1) := by decide +kernel
theorem dX1_areaOfAll_27 : decode cX1_areaOfAll 27 = .ok (.ireturn, 1) := by decide +kernel
theorem dX1_weightOfAll_0 : decode cX1_weightOfAll 0 = .ok (.iconst 0, 1) := by decide +kernel
theorem dX1_weightOfAll_1 : decode cX1_weightOfAll 1 = .ok (.istore_n 1, 1) := by decide +kernel
theorem dX1_weightOfAll_2 : decode cX1_weightOfAll 2 = .ok (.iconst 0, 1) := by decide +kernel
theorem dX1_weightOfAll_3 : decode cX1_weightOfAll 3 = .ok (.istore_n 2, 1) := by decide +kernel
theorem dX1_weightOfAll_4 : decode cX1_weightOfAll 4 = .ok (.iload_n 2, 1) := by decide +kernel
theorem dX1_weightOfAll_5 : decode cX1_weightOfAll 5 = .ok (.aload_n 0, 1) := by decide +kernel
theorem dX1_weightOfAll_6 : decode cX1_weightOfAll 6 = .ok (.invokevirtual 45, 3) := by decide +kernel
theorem dX1_weightOfAll_9 : decode cX1_weightOfAll 9 = .ok (.if_icmp .ge 17, 3) := by decide +kernel
theorem dX1_weightOfAll_12 : decode cX1_weightOfAll 12 = .ok (.iload_n 1, 1) := by decide +kernel
theorem dX1_weightOfAll_13 : decode cX1_weightOfAll 13 = .ok (.aload_n 0, 1) := by decide +kernel
theorem dX1_weightOfAll_14 : decode cX1_weightOfAll 14 = .ok (.iload_n 2, 1) := by decide +kernel
theorem dX1_weightOfAll_15 : decode cX1_weightOfAll 15 = .ok (.invokevirtual 102, 3) := by decide +kernel
theorem dX1_weightOfAll_18 : decode cX1_weightOfAll 18 = .ok (.iadd, 1) := by decide +kernel
theorem dX1_weightOfAll_19 : decode cX1_weightOfAll 19 = .ok (.istore_n 1, 1) := by decide +kernel
theorem dX1_weightOfAll_20 : decode cX1_weightOfAll 20 = .ok (.iinc 2 1, 3) := by decide +kernel
theorem dX1_weightOfAll_23 : decode cX1_weightOfAll 23 = .ok (.goto (-19), 3) := by decide +kernel
theorem dX1_weightOfAll_26 : decode cX1_weightOfAll 26 = .ok (.iload_n 1, 1) := by decide +kernel
theorem dX1_weightOfAll_27 : decode cX1_weightOfAll 27 = .ok (.ireturn, 1) := by decide +kernel
theorem dX1_areaGoneRound_0 : decode cX1_areaGoneRound 0 = .ok (.iconst 0, 1) := by decide +kernel
theorem dX1_areaGoneRound_1 : decode cX1_areaGoneRound 1 = .ok (.istore_n 1, 1) := by decide +kernel
theorem dX1_areaGoneRound_2 : decode cX1_areaGoneRound 2 = .ok (.iconst 0, 1) := by decide +kernel
theorem dX1_areaGoneRound_3 : decode cX1_areaGoneRound 3 = .ok (.istore_n 2, 1) := by decide +kernel
theorem dX1_areaGoneRound_4 : decode cX1_areaGoneRound 4 = .ok (.iload_n 2, 1) := by decide +kernel
theorem dX1_areaGoneRound_5 : decode cX1_areaGoneRound 5 = .ok (.aload_n 0, 1) := by decide +kernel
theorem dX1_areaGoneRound_6 : decode cX1_areaGoneRound 6 = .ok (.getfield 29, 3) := by decide +kernel
theorem dX1_areaGoneRound_9 : decode cX1_areaGoneRound 9 = .ok (.if_icmp .ge 81, 3) := by decide +kernel
theorem dX1_areaGoneRound_12 : decode cX1_areaGoneRound 12 = .ok (.aload_n 0, 1) := by decide +kernel
theorem dX1_areaGoneRound_13 : decode cX1_areaGoneRound 13 = .ok (.iload_n 2, 1) := by decide +kernel
theorem dX1_areaGoneRound_14 : decode cX1_areaGoneRound 14 = .ok (.invokevirtual 57, 3) := by decide +kernel
theorem dX1_areaGoneRound_17 : decode cX1_areaGoneRound 17 = .ok (.astore_n 3, 1) := by decide +kernel
theorem dX1_areaGoneRound_18 : decode cX1_areaGoneRound 18 = .ok (.aload_n 0, 1) := by decide +kernel
theorem dX1_areaGoneRound_19 : decode cX1_areaGoneRound 19 = .ok (.iload_n 2, 1) := by decide +kernel
theorem dX1_areaGoneRound_20 : decode cX1_areaGoneRound 20 = .ok (.iconst 1, 1) := by decide +kernel
theorem dX1_areaGoneRound_21 : decode cX1_areaGoneRound 21 = .ok (.iadd, 1) := by decide +kernel
theorem dX1_areaGoneRound_22 : decode cX1_areaGoneRound 22 = .ok (.invokevirtual 57, 3) := by decide +kernel
theorem dX1_areaGoneRound_25 : decode cX1_areaGoneRound 25 = .ok (.astore 4, 2) := by decide +kernel
theorem dX1_areaGoneRound_27 : decode cX1_areaGoneRound 27 = .ok (.aload_n 3, 1) := by decide +kernel
theorem dX1_areaGoneRound_28 : decode cX1_areaGoneRound 28 = .ok (.ifnull 56, 3) := by decide +kernel
theorem dX1_areaGoneRound_31 : decode cX1_areaGoneRound 31 = .ok (.aload 4, 2) := by decide +kernel
theorem dX1_areaGoneRound_33 : decode cX1_areaGoneRound 33 = .ok (.ifnull 51, 3) := by decide +kernel
theorem dX1_areaGoneRound_36 : decode cX1_areaGoneRound 36 = .ok (.iload_n 1, 1) := by decide +kernel
theorem dX1_areaGoneRound_37 : decode cX1_areaGoneRound 37 = .ok (.aload_n 3, 1) := by decide +kernel
theorem dX1_areaGoneRound_38 : decode cX1_areaGoneRound 38 = .ok (.getfield 76, 3) := by decide +kernel
theorem dX1_areaGoneRound_41 : decode cX1_areaGoneRound 41 = .ok (.aload_n 3, 1) := by decide +kernel
theorem dX1_areaGoneRound_42 : decode cX1_areaGoneRound 42 = .ok (.getfield 79, 3) := by decide +kernel
theorem dX1_areaGoneRound_45 : decode cX1_areaGoneRound 45 = .ok (.aload 4, 2) := by decide +kernel
theorem dX1_areaGoneRound_47 : decode cX1_areaGoneRound 47 = .ok (.getfield 76, 3) := by decide +kernel
theorem dX1_areaGoneRound_50 : decode cX1_areaGoneRound 50 = .ok (.aload 4, 2) := by decide +kernel
theorem dX1_areaGoneRound_52 : decode cX1_areaGoneRound 52 = .ok (.getfield 79, 3) := by decide +kernel
theorem dX1_areaGoneRound_55 : decode cX1_areaGoneRound 55 = .ok (.invokestatic 105, 3) := by decide +kernel
theorem dX1_areaGoneRound_58 : decode cX1_areaGoneRound 58 = .ok (.iadd, 1) := by decide +kernel
theorem dX1_areaGoneRound_59 : decode cX1_areaGoneRound 59 = .ok (.istore_n 1, 1) := by decide +kernel
theorem dX1_areaGoneRound_60 : decode cX1_areaGoneRound 60 = .ok (.iload_n 1, 1) := by decide +kernel
theorem dX1_areaGoneRound_61 : decode cX1_areaGoneRound 61 = .ok (.aload 4, 2) := by decide +kernel
theorem dX1_areaGoneRound_63 : decode cX1_areaGoneRound 63 = .ok (.getfield 82, 3) := by decide +kernel
theorem dX1_areaGoneRound_66 : decode cX1_areaGoneRound 66 = .ok (.aload 4, 2) := by decide +kernel
theorem dX1_areaGoneRound_68 : decode cX1_areaGoneRound 68 = .ok (.getfield 85, 3) := by decide +kernel
theorem dX1_areaGoneRound_71 : decode cX1_areaGoneRound 71 = .ok (.aload_n 3, 1) := by decide +kernel
theorem dX1_areaGoneRound_72 : decode cX1_areaGoneRound 72 = .ok (.getfield 82, 3) := by decide +kernel
theorem dX1_areaGoneRound_75 : decode cX1_areaGoneRound 75 = .ok (.aload_n 3, 1) := by decide +kernel
theorem dX1_areaGoneRound_76 : decode cX1_areaGoneRound 76 = .ok (.getfield 85, 3) := by decide +kernel
theorem dX1_areaGoneRound_79 : decode cX1_areaGoneRound 79 = .ok (.invokestatic 105, 3) := by decide +kernel
theorem dX1_areaGoneRound_82 : decode cX1_areaGoneRound 82 = .ok (.iadd, 1) := by decide +kernel
theorem dX1_areaGoneRound_83 : decode cX1_areaGoneRound 83 = .ok (.istore_n 1, 1) := by decide +kernel
theorem dX1_areaGoneRound_84 : decode cX1_areaGoneRound 84 = .ok (.iinc 2 1, 3) := by decide +kernel
theorem dX1_areaGoneRound_87 : decode cX1_areaGoneRound 87 = .ok (.goto (-83), 3) := by decide +kernel
theorem dX1_areaGoneRound_90 : decode cX1_areaGoneRound 90 = .ok (.aload_n 0, 1) := by decide +kernel
theorem dX1_areaGoneRound_91 : decode cX1_areaGoneRound 91 = .ok (.iconst 0, 1) := by decide +kernel
theorem dX1_areaGoneRound_92 : decode cX1_areaGoneRound 92 = .ok (.invokevirtual 57, 3) := by decide +kernel
theorem dX1_areaGoneRound_95 : decode cX1_areaGoneRound 95 = .ok (.astore_n 2, 1) := by decide +kernel
theorem dX1_areaGoneRound_96 : decode cX1_areaGoneRound 96 = .ok (.aload_n 0, 1) := by decide +kernel
theorem dX1_areaGoneRound_97 : decode cX1_areaGoneRound 97 = .ok (.aload_n 0, 1) := by decide +kernel
theorem dX1_areaGoneRound_98 : decode cX1_areaGoneRound 98 = .ok (.getfield 29, 3) := by decide +kernel
theorem dX1_areaGoneRound_101 : decode cX1_areaGoneRound 101 = .ok (.iconst 1, 1) := by decide +kernel
theorem dX1_areaGoneRound_102 : decode cX1_areaGoneRound 102 = .ok (.isub, 1) := by decide +kernel
theorem dX1_areaGoneRound_103 : decode cX1_areaGoneRound 103 = .ok (.invokevirtual 57, 3) := by decide +kernel
theorem dX1_areaGoneRound_106 : decode cX1_areaGoneRound 106 = .ok (.astore_n 3, 1) := by decide +kernel
theorem dX1_areaGoneRound_107 : decode cX1_areaGoneRound 107 = .ok (.aload_n 2, 1) := by decide +kernel
theorem dX1_areaGoneRound_108 : decode cX1_areaGoneRound 108 = .ok (.ifnull 51, 3) := by decide +kernel
theorem dX1_areaGoneRound_111 : decode cX1_areaGoneRound 111 = .ok (.aload_n 3, 1) := by decide +kernel
theorem dX1_areaGoneRound_112 : decode cX1_areaGoneRound 112 = .ok (.ifnull 47, 3) := by decide +kernel
theorem dX1_areaGoneRound_115 : decode cX1_areaGoneRound 115 = .ok (.iload_n 1, 1) := by decide +kernel
theorem dX1_areaGoneRound_116 : decode cX1_areaGoneRound 116 = .ok (.aload_n 3, 1) := by decide +kernel
theorem dX1_areaGoneRound_117 : decode cX1_areaGoneRound 117 = .ok (.getfield 76, 3) := by decide +kernel
theorem dX1_areaGoneRound_120 : decode cX1_areaGoneRound 120 = .ok (.aload_n 3, 1) := by decide +kernel
theorem dX1_areaGoneRound_121 : decode cX1_areaGoneRound 121 = .ok (.getfield 79, 3) := by decide +kernel
theorem dX1_areaGoneRound_124 : decode cX1_areaGoneRound 124 = .ok (.aload_n 3, 1) := by decide +kernel
theorem dX1_areaGoneRound_125 : decode cX1_areaGoneRound 125 = .ok (.getfield 82, 3) := by decide +kernel
theorem dX1_areaGoneRound_128 : decode cX1_areaGoneRound 128 = .ok (.aload_n 3, 1) := by decide +kernel
theorem dX1_areaGoneRound_129 : decode cX1_areaGoneRound 129 = .ok (.getfield 85, 3) := by decide +kernel
theorem dX1_areaGoneRound_132 : decode cX1_areaGoneRound 132 = .ok (.invokestatic 105, 3) := by decide +kernel
theorem dX1_areaGoneRound_135 : decode cX1_areaGoneRound 135 = .ok (.iadd, 1) := by decide +kernel
theorem dX1_areaGoneRound_136 : decode cX1_areaGoneRound 136 = .ok (.istore_n 1, 1) := by decide +kernel
theorem dX1_areaGoneRound_137 : decode cX1_areaGoneRound 137 = .ok (.iload_n 1, 1) := by decide +kernel
theorem dX1_areaGoneRound_138 : decode cX1_areaGoneRound 138 = .ok (.aload_n 2, 1) := by decide +kernel
theorem dX1_areaGoneRound_139 : decode cX1_areaGoneRound 139 = .ok (.getfield 82, 3) := by decide +kernel
theorem dX1_areaGoneRound_142 : decode cX1_areaGoneRound 142 = .ok (.aload_n 2, 1) := by decide +kernel
theorem dX1_areaGoneRound_143 : decode cX1_areaGoneRound 143 = .ok (.getfield 85, 3) := by decide +kernel
theorem dX1_areaGoneRound_146 : decode cX1_areaGoneRound 146 = .ok (.aload_n 2, 1) := by decide +kernel
theorem dX1_areaGoneRound_147 : decode cX1_areaGoneRound 147 = .ok (.getfield 76, 3) := by decide +kernel
theorem dX1_areaGoneRound_150 : decode cX1_areaGoneRound 150 = .ok (.aload_n 2, 1) := by decide +kernel
theorem dX1_areaGoneRound_151 : decode cX1_areaGoneRound 151 = .ok (.getfield 79, 3) := by decide +kernel
theorem dX1_areaGoneRound_154 : decode cX1_areaGoneRound 154 = .ok (.invokestatic 105, 3) := by decide +kernel
theorem dX1_areaGoneRound_157 : decode cX1_areaGoneRound 157 = .ok (.iadd, 1) := by decide +kernel
theorem dX1_areaGoneRound_158 : decode cX1_areaGoneRound 158 = .ok (.istore_n 1, 1) := by decide +kernel
theorem dX1_areaGoneRound_159 : decode cX1_areaGoneRound 159 = .ok (.iload_n 1, 1) := by decide +kernel
theorem dX1_areaGoneRound_160 : decode cX1_areaGoneRound 160 = .ok (.ireturn, 1) := by decide +kernel
theorem dX2_init_0 : decode cX2_init 0 = .ok (.aload_n 0, 1) := by decide +kernel
theorem dX2_init_1 : decode cX2_init 1 = .ok (.invokespecial 1, 3) := by decide +kernel
theorem dX2_init_4 : decode cX2_init 4 = .ok (.aload_n 0, 1) := by decide +kernel
theorem dX2_init_5 : decode cX2_init 5 = .ok (.iconst 0, 1) := by decide +kernel
theorem dX2_init_6 : decode cX2_init 6 = .ok (.putfield 7, 3) := by decide +kernel
theorem dX2_init_9 : decode cX2_init 9 = .ok (.aload_n 0, 1) := by decide +kernel
theorem dX2_init_10 : decode cX2_init 10 = .ok (.iconst 0, 1) := by decide +kernel
theorem dX2_init_11 : decode cX2_init 11 = .ok (.putfield 13, 3) := by decide +kernel
theorem dX2_init_14 : decode cX2_init 14 = .ok (.aload_n 0, 1) := by decide +kernel
theorem dX2_init_15 : decode cX2_init 15 = .ok (.iconst 0, 1) := by decide +kernel
theorem dX2_init_16 : decode cX2_init 16 = .ok (.putfield 16, 3) := by decide +kernel
theorem dX2_init_19 : decode cX2_init 19 = .ok (.aload_n 0, 1) := by decide +kernel
theorem dX2_init_20 : decode cX2_init 20 = .ok (.iconst 0, 1) := by decide +kernel
theorem dX2_init_21 : decode cX2_init 21 = .ok (.putfield 19, 3) := by decide +kernel
theorem dX2_init_24 : decode cX2_init 24 = .ok (.return_, 1) := by decide +kernel
theorem dX2_moveTo_0 : decode cX2_moveTo 0 = .ok (.aload_n 0, 1) := by decide +kernel
theorem dX2_moveTo_1 : decode cX2_moveTo 1 = .ok (.iload_n 1, 1) := by decide +kernel
theorem dX2_moveTo_2 : decode cX2_moveTo 2 = .ok (.putfield 7, 3) := by decide +kernel
theorem dX2_moveTo_5 : decode cX2_moveTo 5 = .ok (.aload_n 0, 1) := by decide +kernel
theorem dX2_moveTo_6 : decode cX2_moveTo 6 = .ok (.iload_n 2, 1) := by decide +kernel
theorem dX2_moveTo_7 : decode cX2_moveTo 7 = .ok (.putfield 13, 3) := by decide +kernel
theorem dX2_moveTo_10 : decode cX2_moveTo 10 = .ok (.aload_n 0, 1) := by decide +kernel
theorem dX2_moveTo_11 : decode cX2_moveTo 11 = .ok (.iload_n 3, 1) := by decide +kernel
theorem dX2_moveTo_12 : decode cX2_moveTo 12 = .ok (.putfield 16, 3) := by decide +kernel
theorem dX2_moveTo_15 : decode cX2_moveTo 15 = .ok (.aload_n 0, 1) := by decide +kernel
theorem dX2_moveTo_16 : decode cX2_moveTo 16 = .ok (.iload 4, 2) := by decide +kernel
theorem dX2_moveTo_18 : decode cX2_moveTo 18 = .ok (.putfield 19, 3) := by decide +kernel
theorem dX2_moveTo_21 : decode cX2_moveTo 21 = .ok (.return_, 1) := by decide +kernel
theorem dX2_hasLength_0 : decode cX2_hasLength 0 = .ok (.aload_n 0, 1) := by decide +kernel
theorem dX2_hasLength_1 : decode cX2_hasLength 1 = .ok (.getfield 7, 3) := by decide +kernel
theorem dX2_hasLength_4 : decode cX2_hasLength 4 = .ok (.aload_n 0, 1) := by decide +kernel
theorem dX2_hasLength_5 : decode cX2_hasLength 5 = .ok (.getfield 16, 3) := by decide +kernel
theorem dX2_hasLength_8 : decode cX2_hasLength 8 = .ok (.if_icmp .ne 14, 3) := by decide +kernel
theorem dX2_hasLength_11 : decode cX2_hasLength 11 = .ok (.aload_n 0, 1) := by decide +kernel
theorem dX2_hasLength_12 : decode cX2_hasLength 12 = .ok (.getfield 13, 3) := by decide +kernel
theorem dX2_hasLength_15 : decode cX2_hasLength 15 = .ok (.aload_n 0, 1) := by decide +kernel
theorem dX2_hasLength_16 : decode cX2_hasLength 16 = .ok (.getfield 19, 3) := by decide +kernel
theorem dX2_hasLength_19 : decode cX2_hasLength 19 = .ok (.if_icmp .eq 7, 3) := by decide +kernel
theorem dX2_hasLength_22 : decode cX2_hasLength 22 = .ok (.iconst 1, 1) := by decide +kernel
theorem dX2_hasLength_23 : decode cX2_hasLength 23 = .ok (.goto 4, 3) := by decide +kernel
theorem dX2_hasLength_26 : decode cX2_hasLength 26 = .ok (.iconst 0, 1) := by decide +kernel
theorem dX2_hasLength_27 : decode cX2_hasLength 27 = .ok (.ireturn, 1) := by decide +kernel
theorem dX3_init_0 : decode cX3_init 0 = .ok (.aload_n 0, 1) := by decide +kernel
theorem dX3_init_1 : decode cX3_init 1 = .ok (.invokespecial 1, 3) := by decide +kernel
theorem dX3_init_4 : decode cX3_init 4 = .ok (.aload_n 0, 1) := by decide +kernel
theorem dX3_init_5 : decode cX3_init 5 = .ok (.iconst 0, 1) := by decide +kernel
theorem dX3_init_6 : decode cX3_init 6 = .ok (.putfield 7, 3) := by decide +kernel
theorem dX3_init_9 : decode cX3_init 9 = .ok (.aload_n 0, 1) := by decide +kernel
theorem dX3_init_10 : decode cX3_init 10 = .ok (.iconst 0, 1) := by decide +kernel
theorem dX3_init_11 : decode cX3_init 11 = .ok (.putfield 13, 3) := by decide +kernel
theorem dX3_init_14 : decode cX3_init 14 = .ok (.aload_n 0, 1) := by decide +kernel
theorem dX3_init_15 : decode cX3_init 15 = .ok (.iload_n 1, 1) := by decide +kernel
theorem dX3_init_16 : decode cX3_init 16 = .ok (.putfield 16, 3) := by decide +kernel
theorem dX3_init_19 : decode cX3_init 19 = .ok (.aload_n 0, 1) := by decide +kernel
theorem dX3_init_20 : decode cX3_init 20 = .ok (.iload_n 2, 1) := by decide +kernel
theorem dX3_init_21 : decode cX3_init 21 = .ok (.putfield 20, 3) := by decide +kernel
theorem dX3_init_24 : decode cX3_init 24 = .ok (.aload_n 0, 1) := by decide +kernel
theorem dX3_init_25 : decode cX3_init 25 = .ok (.iload_n 3, 1) := by decide +kernel
theorem dX3_init_26 : decode cX3_init 26 = .ok (.putfield 23, 3) := by decide +kernel
theorem dX3_init_29 : decode cX3_init 29 = .ok (.return_, 1) := by decide +kernel
theorem dX4_init_0 : decode cX4_init 0 = .ok (.aload_n 0, 1) := by decide +kernel
theorem dX4_init_1 : decode cX4_init 1 = .ok (.invokespecial 1, 3) := by decide +kernel
theorem dX4_init_4 : decode cX4_init 4 = .ok (.aload_n 0, 1) := by decide +kernel
theorem dX4_init_5 : decode cX4_init 5 = .ok (.iconst 4, 1) := by decide +kernel
theorem dX4_init_6 : decode cX4_init 6 = .ok (.newarray .int, 2) := by decide +kernel
theorem dX4_init_8 : decode cX4_init 8 = .ok (.putfield 9, 3) := by decide +kernel
theorem dX4_init_11 : decode cX4_init 11 = .ok (.aload_n 0, 1) := by decide +kernel
theorem dX4_init_12 : decode cX4_init 12 = .ok (.iconst 4, 1) := by decide +kernel
theorem dX4_init_13 : decode cX4_init 13 = .ok (.newarray .int, 2) := by decide +kernel
theorem dX4_init_15 : decode cX4_init 15 = .ok (.putfield 13, 3) := by decide +kernel
theorem dX4_init_18 : decode cX4_init 18 = .ok (.return_, 1) := by decide +kernel
theorem dX6_init_0 : decode cX6_init 0 = .ok (.aload_n 0, 1) := by decide +kernel
theorem dX6_init_1 : decode cX6_init 1 = .ok (.invokespecial 3, 3) := by decide +kernel
theorem dX6_init_4 : decode cX6_init 4 = .ok (.aload_n 0, 1) := by decide +kernel
theorem dX6_init_5 : decode cX6_init 5 = .ok (.bipush 80, 2) := by decide +kernel
theorem dX6_init_7 : decode cX6_init 7 = .ok (.newarray .long, 2) := by decide +kernel
theorem dX6_init_9 : decode cX6_init 9 = .ok (.putfield 11, 3) := by decide +kernel
theorem dX6_init_12 : decode cX6_init 12 = .ok (.aload_n 0, 1) := by decide +kernel
theorem dX6_init_13 : decode cX6_init 13 = .ok (.bipush 80, 2) := by decide +kernel
theorem dX6_init_15 : decode cX6_init 15 = .ok (.newarray .long, 2) := by decide +kernel
theorem dX6_init_17 : decode cX6_init 17 = .ok (.putfield 15, 3) := by decide +kernel
theorem dX6_init_20 : decode cX6_init 20 = .ok (.aload_n 0, 1) := by decide +kernel
theorem dX6_init_21 : decode cX6_init 21 = .ok (.bipush 80, 2) := by decide +kernel
theorem dX6_init_23 : decode cX6_init 23 = .ok (.newarray .long, 2) := by decide +kernel
theorem dX6_init_25 : decode cX6_init 25 = .ok (.putfield 18, 3) := by decide +kernel
theorem dX6_init_28 : decode cX6_init 28 = .ok (.aload_n 0, 1) := by decide +kernel
theorem dX6_init_29 : decode cX6_init 29 = .ok (.iconst 0, 1) := by decide +kernel
theorem dX6_init_30 : decode cX6_init 30 = .ok (.putfield 21, 3) := by decide +kernel
theorem dX6_init_33 : decode cX6_init 33 = .ok (.aload_n 0, 1) := by decide +kernel
theorem dX6_init_34 : decode cX6_init 34 = .ok (.bipush 8, 2) := by decide +kernel
theorem dX6_init_36 : decode cX6_init 36 = .ok (.newarray .long, 2) := by decide +kernel
theorem dX6_init_38 : decode cX6_init 38 = .ok (.putfield 25, 3) := by decide +kernel
theorem dX6_init_41 : decode cX6_init 41 = .ok (.aload_n 0, 1) := by decide +kernel
theorem dX6_init_42 : decode cX6_init 42 = .ok (.bipush 8, 2) := by decide +kernel
theorem dX6_init_44 : decode cX6_init 44 = .ok (.newarray .long, 2) := by decide +kernel
theorem dX6_init_46 : decode cX6_init 46 = .ok (.putfield 28, 3) := by decide +kernel
theorem dX6_init_49 : decode cX6_init 49 = .ok (.aload_n 0, 1) := by decide +kernel
theorem dX6_init_50 : decode cX6_init 50 = .ok (.lconst 0, 1) := by decide +kernel
theorem dX6_init_51 : decode cX6_init 51 = .ok (.putfield 31, 3) := by decide +kernel
theorem dX6_init_54 : decode cX6_init 54 = .ok (.aload_n 0, 1) := by decide +kernel
theorem dX6_init_55 : decode cX6_init 55 = .ok (.lconst 1, 1) := by decide +kernel
theorem dX6_init_56 : decode cX6_init 56 = .ok (.putfield 35, 3) := by decide +kernel
theorem dX6_init_59 : decode cX6_init 59 = .ok (.aload_n 0, 1) := by decide +kernel
theorem dX6_init_60 : decode cX6_init 60 = .ok (.lconst 0, 1) := by decide +kernel
theorem dX6_init_61 : decode cX6_init 61 = .ok (.putfield 38, 3) := by decide +kernel
theorem dX6_init_64 : decode cX6_init 64 = .ok (.aload_n 0, 1) := by decide +kernel
theorem dX6_init_65 : decode cX6_init 65 = .ok (.lconst 0, 1) := by decide +kernel
theorem dX6_init_66 : decode cX6_init 66 = .ok (.putfield 41, 3) := by decide +kernel
theorem dX6_init_69 : decode cX6_init 69 = .ok (.aload_n 0, 1) := by decide +kernel
theorem dX6_init_70 : decode cX6_init 70 = .ok (.iconst 1, 1) := by decide +kernel
theorem dX6_init_71 : decode cX6_init 71 = .ok (.putfield 44, 3) := by decide +kernel
theorem dX6_init_74 : decode cX6_init 74 = .ok (.return_, 1) := by decide +kernel
theorem dX7_init_0 : decode cX7_init 0 = .ok (.aload_n 0, 1) := by decide +kernel
theorem dX7_init_1 : decode cX7_init 1 = .ok (.invokespecial 1, 3) := by decide +kernel
theorem dX7_init_4 : decode cX7_init 4 = .ok (.aload_n 0, 1) := by decide +kernel
theorem dX7_init_5 : decode cX7_init 5 = .ok (.new 7, 3) := by decide +kernel
theorem dX7_init_8 : decode cX7_init 8 = .ok (.dup, 1) := by decide +kernel
theorem dX7_init_9 : decode cX7_init 9 = .ok (.invokespecial 9, 3) := by decide +kernel
theorem dX7_init_12 : decode cX7_init 12 = .ok (.putfield 10, 3) := by decide +kernel
theorem dX7_init_15 : decode cX7_init 15 = .ok (.aload_n 0, 1) := by decide +kernel
theorem dX7_init_16 : decode cX7_init 16 = .ok (.new 16, 3) := by decide +kernel
theorem dX7_init_19 : decode cX7_init 19 = .ok (.dup, 1) := by decide +kernel
theorem dX7_init_20 : decode cX7_init 20 = .ok (.invokespecial 18, 3) := by decide +kernel
theorem dX7_init_23 : decode cX7_init 23 = .ok (.putfield 19, 3) := by decide +kernel
theorem dX7_init_26 : decode cX7_init 26 = .ok (.aload_n 0, 1) := by decide +kernel
theorem dX7_init_27 : decode cX7_init 27 = .ok (.bipush 6, 2) := by decide +kernel
theorem dX7_init_29 : decode cX7_init 29 = .ok (.anewarray 23, 3) := by decide +kernel
theorem dX7_init_32 : decode cX7_init 32 = .ok (.putfield 25, 3) := by decide +kernel
theorem dX7_init_35 : decode cX7_init 35 = .ok (.aload_n 0, 1) := by decide +kernel
theorem dX7_init_36 : decode cX7_init 36 = .ok (.iconst 4, 1) := by decide +kernel
theorem dX7_init_37 : decode cX7_init 37 = .ok (.anewarray 29, 3) := by decide +kernel
theorem dX7_init_40 : decode cX7_init 40 = .ok (.putfield 31, 3) := by decide +kernel
theorem dX7_init_43 : decode cX7_init 43 = .ok (.aload_n 0, 1) := by decide +kernel
theorem dX7_init_44 : decode cX7_init 44 = .ok (.bipush 40, 2) := by decide +kernel
theorem dX7_init_46 : decode cX7_init 46 = .ok (.anewarray 35, 3) := by decide +kernel
theorem dX7_init_49 : decode cX7_init 49 = .ok (.putfield 37, 3) := by decide +kernel
theorem dX7_init_52 : decode cX7_init 52 = .ok (.aload_n 0, 1) := by decide +kernel
theorem dX7_init_53 : decode cX7_init 53 = .ok (.bipush 8, 2) := by decide +kernel
theorem dX7_init_55 : decode cX7_init 55 = .ok (.newarray .int, 2) := by decide +kernel
theorem dX7_init_57 : decode cX7_init 57 = .ok (.putfield 41, 3) := by decide +kernel
theorem dX7_init_60 : decode cX7_init 60 = .ok (.aload_n 0, 1) := by decide +kernel
theorem dX7_init_61 : decode cX7_init 61 = .ok (.bipush 8, 2) := by decide +kernel
theorem dX7_init_63 : decode cX7_init 63 = .ok (.newarray .int, 2) := by decide +kernel
theorem dX7_init_65 : decode cX7_init 65 = .ok (.putfield 45, 3) := by decide +kernel
theorem dX7_init_68 : decode cX7_init 68 = .ok (.aload_n 0, 1) := by decide +kernel
theorem dX7_init_69 : decode cX7_init 69 = .ok (.bipush 8, 2) := by decide +kernel
theorem dX7_init_71 : decode cX7_init 71 = .ok (.newarray .int, 2) := by decide +kernel
theorem dX7_init_73 : decode cX7_init 73 = .ok (.putfield 48, 3) := by decide +kernel
theorem dX7_init_76 : decode cX7_init 76 = .ok (.aload_n 0, 1) := by decide +kernel
theorem dX7_init_77 : decode cX7_init 77 = .ok (.iconst 0, 1) := by decide +kernel
theorem dX7_init_78 : decode cX7_init 78 = .ok (.putfield 51, 3) := by decide +kernel
theorem dX7_init_81 : decode cX7_init 81 = .ok (.aload_n 0, 1) := by decide +kernel
theorem dX7_init_82 : decode cX7_init 82 = .ok (.iconst 0, 1) := by decide +kernel
theorem dX7_init_83 : decode cX7_init 83 = .ok (.putfield 55, 3) := by decide +kernel
theorem dX7_init_86 : decode cX7_init 86 = .ok (.aload_n 0, 1) := by decide +kernel
theorem dX7_init_87 : decode cX7_init 87 = .ok (.iconst 0, 1) := by decide +kernel
theorem dX7_init_88 : decode cX7_init 88 = .ok (.putfield 58, 3) := by decide +kernel
theorem dX7_init_91 : decode cX7_init 91 = .ok (.aload_n 0, 1) := by decide +kernel
theorem dX7_init_92 : decode cX7_init 92 = .ok (.iconst 0, 1) := by decide +kernel
theorem dX7_init_93 : decode cX7_init 93 = .ok (.putfield 61, 3) := by decide +kernel
theorem dX7_init_96 : decode cX7_init 96 = .ok (.aload_n 0, 1) := by decide +kernel
theorem dX7_init_97 : decode cX7_init 97 = .ok (.iconst 0, 1) := by decide +kernel
theorem dX7_init_98 : decode cX7_init 98 = .ok (.putfield 64, 3) := by decide +kernel
theorem dX7_init_101 : decode cX7_init 101 = .ok (.aload_n 0, 1) := by decide +kernel
theorem dX7_init_102 : decode cX7_init 102 = .ok (.iconst 0, 1) := by decide +kernel
theorem dX7_init_103 : decode cX7_init 103 = .ok (.putfield 68, 3) := by decide +kernel
theorem dX7_init_106 : decode cX7_init 106 = .ok (.aload_n 0, 1) := by decide +kernel
theorem dX7_init_107 : decode cX7_init 107 = .ok (.iconst 0, 1) := by decide +kernel
theorem dX7_init_108 : decode cX7_init 108 = .ok (.putfield 71, 3) := by decide +kernel
theorem dX7_init_111 : decode cX7_init 111 = .ok (.aload_n 0, 1) := by decide +kernel
theorem dX7_init_112 : decode cX7_init 112 = .ok (.lconst 0, 1) := by decide +kernel
theorem dX7_init_113 : decode cX7_init 113 = .ok (.putfield 74, 3) := by decide +kernel
theorem dX7_init_116 : decode cX7_init 116 = .ok (.iconst 0, 1) := by decide +kernel
theorem dX7_init_117 : decode cX7_init 117 = .ok (.istore_n 1, 1) := by decide +kernel
theorem dX7_init_118 : decode cX7_init 118 = .ok (.iload_n 1, 1) := by decide +kernel
theorem dX7_init_119 : decode cX7_init 119 = .ok (.aload_n 0, 1) := by decide +kernel
theorem dX7_init_120 : decode cX7_init 120 = .ok (.getfield 41, 3) := by decide +kernel
theorem dX7_init_123 : decode cX7_init 123 = .ok (.arraylength, 1) := by decide +kernel
theorem dX7_init_124 : decode cX7_init 124 = .ok (.if_icmp .ge 16, 3) := by decide +kernel
theorem dX7_init_127 : decode cX7_init 127 = .ok (.aload_n 0, 1) := by decide +kernel
theorem dX7_init_128 : decode cX7_init 128 = .ok (.getfield 41, 3) := by decide +kernel
theorem dX7_init_131 : decode cX7_init 131 = .ok (.iload_n 1, 1) := by decide +kernel
theorem dX7_init_132 : decode cX7_init 132 = .ok (.iconst (-1), 1) := by decide +kernel
theorem dX7_init_133 : decode cX7_init 133 = .ok (.iastore, 1) := by decide +kernel
theorem dX7_init_134 : decode cX7_init 134 = .ok (.iinc 1 1, 3) := by decide +kernel
theorem dX7_init_137 : decode cX7_init 137 = .ok (.goto (-19), 3) := by decide +kernel
theorem dX7_init_140 : decode cX7_init 140 = .ok (.return_, 1) := by decide +kernel
theorem dX7_drawJoint_0 : decode cX7_drawJoint 0 = .ok (.aload_n 0, 1) := by decide +kernel
theorem dX7_drawJoint_1 : decode cX7_drawJoint 1 = .ok (.getfield 10, 3) := by decide +kernel
theorem dX7_drawJoint_4 : decode cX7_drawJoint 4 = .ok (.getfield 78, 3) := by decide +kernel
theorem dX7_drawJoint_7 : decode cX7_drawJoint 7 = .ok (.istore 5, 2) := by decide +kernel
theorem dX7_drawJoint_9 : decode cX7_drawJoint 9 = .ok (.iload_n 1, 1) := by decide +kernel
theorem dX7_drawJoint_10 : decode cX7_drawJoint 10 = .ok (.iload_n 2, 1) := by decide +kernel
theorem dX7_drawJoint_11 : decode cX7_drawJoint 11 = .ok (.invokestatic 81, 3) := by decide +kernel
theorem dX7_drawJoint_14 : decode cX7_drawJoint 14 = .ok (.ifCond .eq 12, 3) := by decide +kernel
theorem dX7_drawJoint_17 : decode cX7_drawJoint 17 = .ok (.iload_n 3, 1) := by decide +kernel
theorem dX7_drawJoint_18 : decode cX7_drawJoint 18 = .ok (.iload 4, 2) := by decide +kernel
theorem dX7_drawJoint_20 : decode cX7_drawJoint 20 = .ok (.invokestatic 81, 3) := by decide +kernel
theorem dX7_drawJoint_23 : decode cX7_drawJoint 23 = .ok (.ifCond .ne 13, 3) := by decide +kernel
theorem dX7_drawJoint_26 : decode cX7_drawJoint 26 = .ok (.new 85, 3) := by decide +kernel
theorem dX7_drawJoint_29 : decode cX7_drawJoint 29 = .ok (.dup, 1) := by decide +kernel
theorem dX7_drawJoint_30 : decode cX7_drawJoint 30 = .ok (.ldc 87, 2) := by decide +kernel
theorem dX7_drawJoint_32 : decode cX7_drawJoint 32 = .ok (.invokespecial 89, 3) := by decide +kernel
theorem dX7_drawJoint_35 : decode cX7_drawJoint 35 = .ok (.athrow, 1) := by decide +kernel
theorem dX7_drawJoint_36 : decode cX7_drawJoint 36 = .ok (.aload_n 0, 1) := by decide +kernel
theorem dX7_drawJoint_37 : decode cX7_drawJoint 37 = .ok (.getfield 10, 3) := by decide +kernel
theorem dX7_drawJoint_40 : decode cX7_drawJoint 40 = .ok (.iload_n 1, 1) := by decide +kernel
theorem dX7_drawJoint_41 : decode cX7_drawJoint 41 = .ok (.iload_n 2, 1) := by decide +kernel
theorem dX7_drawJoint_42 : decode cX7_drawJoint 42 = .ok (.iload_n 3, 1) := by decide +kernel
theorem dX7_drawJoint_43 : decode cX7_drawJoint 43 = .ok (.iload 4, 2) := by decide +kernel
theorem dX7_drawJoint_45 : decode cX7_drawJoint 45 = .ok (.invokevirtual 92, 3) := by decide +kernel
theorem dX7_drawJoint_48 : decode cX7_drawJoint 48 = .ok (.aload_n 0, 1) := by decide +kernel
theorem dX7_drawJoint_49 : decode cX7_drawJoint 49 = .ok (.getfield 10, 3) := by decide +kernel
theorem dX7_drawJoint_52 : decode cX7_drawJoint 52 = .ok (.iload 5, 2) := by decide +kernel
theorem dX7_drawJoint_54 : decode cX7_drawJoint 54 = .ok (.invokevirtual 96, 3) := by decide +kernel
theorem dX7_drawJoint_57 : decode cX7_drawJoint 57 = .ok (.ifCond .ne 13, 3) := by decide +kernel
theorem dX7_drawJoint_60 : decode cX7_drawJoint 60 = .ok (.new 85, 3) := by decide +kernel
theorem dX7_drawJoint_63 : decode cX7_drawJoint 63 = .ok (.dup, 1) := by decide +kernel
theorem dX7_drawJoint_64 : decode cX7_drawJoint 64 = .ok (.ldc 100, 2) := by decide +kernel
theorem dX7_drawJoint_66 : decode cX7_drawJoint 66 = .ok (.invokespecial 89, 3) := by decide +kernel
theorem dX7_drawJoint_69 : decode cX7_drawJoint 69 = .ok (.athrow, 1) := by decide +kernel
theorem dX7_drawJoint_70 : decode cX7_drawJoint 70 = .ok (.aload_n 0, 1) := by decide +kernel
theorem dX7_drawJoint_71 : decode cX7_drawJoint 71 = .ok (.invokevirtual 102, 3) := by decide +kernel
theorem dX7_drawJoint_74 : decode cX7_drawJoint 74 = .ok (.ifCond .le 13, 3) := by decide +kernel
theorem dX7_drawJoint_77 : decode cX7_drawJoint 77 = .ok (.new 106, 3) := by decide +kernel
theorem dX7_drawJoint_80 : decode cX7_drawJoint 80 = .ok (.dup, 1) := by decide +kernel
theorem dX7_drawJoint_81 : decode cX7_drawJoint 81 = .ok (.ldc 108, 2) := by decide +kernel
theorem dX7_drawJoint_83 : decode cX7_drawJoint 83 = .ok (.invokespecial 110, 3) := by decide +kernel
theorem dX7_drawJoint_86 : decode cX7_drawJoint 86 = .ok (.athrow, 1) := by decide +kernel
theorem dX7_drawJoint_87 : decode cX7_drawJoint 87 = .ok (.iload 5, 2) := by decide +kernel
theorem dX7_drawJoint_89 : decode cX7_drawJoint 89 = .ok (.bipush 8, 2) := by decide +kernel
theorem dX7_drawJoint_91 : decode cX7_drawJoint 91 = .ok (.if_icmp .lt 13, 3) := by decide +kernel
theorem dX7_drawJoint_94 : decode cX7_drawJoint 94 = .ok (.new 111, 3) := by decide +kernel
theorem dX7_drawJoint_97 : decode cX7_drawJoint 97 = .ok (.dup, 1) := by decide +kernel
theorem dX7_drawJoint_98 : decode cX7_drawJoint 98 = .ok (.ldc 113, 2) := by decide +kernel
theorem dX7_drawJoint_100 : decode cX7_drawJoint 100 = .ok (.invokespecial 115, 3) := by decide +kernel
theorem dX7_drawJoint_103 : decode cX7_drawJoint 103 = .ok (.athrow, 1) := by decide +kernel
theorem dX7_drawJoint_104 : decode cX7_drawJoint 104 = .ok (.aload_n 0, 1) := by decide +kernel
theorem dX7_drawJoint_105 : decode cX7_drawJoint 105 = .ok (.getfield 10, 3) := by decide +kernel
theorem dX7_drawJoint_108 : decode cX7_drawJoint 108 = .ok (.invokevirtual 116, 3) := by decide +kernel
theorem dX7_drawJoint_111 : decode cX7_drawJoint 111 = .ok (.iload 5, 2) := by decide +kernel
theorem dX7_drawJoint_113 : decode cX7_drawJoint 113 = .ok (.ireturn, 1) := by decide +kernel
theorem dX7_moveJoint_0 : decode cX7_moveJoint 0 = .ok (.aload_n 0, 1) := by decide +kernel
theorem dX7_moveJoint_1 : decode cX7_moveJoint 1 = .ok (.getfield 10, 3) := by decide +kernel
theorem dX7_moveJoint_4 : decode cX7_moveJoint 4 = .ok (.iload_n 1, 1) := by decide +kernel
theorem dX7_moveJoint_5 : decode cX7_moveJoint 5 = .ok (.invokevirtual 119, 3) := by decide +kernel
theorem dX7_moveJoint_8 : decode cX7_moveJoint 8 = .ok (.ifnonnull 13, 3) := by decide +kernel
theorem dX7_moveJoint_11 : decode cX7_moveJoint 11 = .ok (.new 123, 3) := by decide +kernel
theorem dX7_moveJoint_14 : decode cX7_moveJoint 14 = .ok (.dup, 1) := by decide +kernel
theorem dX7_moveJoint_15 : decode cX7_moveJoint 15 = .ok (.ldc 125, 2) := by decide +kernel
theorem dX7_moveJoint_17 : decode cX7_moveJoint 17 = .ok (.invokespecial 127, 3) := by decide +kernel
theorem dX7_moveJoint_20 : decode cX7_moveJoint 20 = .ok (.athrow, 1) := by decide +kernel
theorem dX7_moveJoint_21 : decode cX7_moveJoint 21 = .ok (.iload_n 2, 1) := by decide +kernel
theorem dX7_moveJoint_22 : decode cX7_moveJoint 22 = .ok (.iload_n 3, 1) := by decide +kernel
theorem dX7_moveJoint_23 : decode cX7_moveJoint 23 = .ok (.invokestatic 81, 3) := by decide +kernel
theorem dX7_moveJoint_26 : decode cX7_moveJoint 26 = .ok (.ifCond .eq 13, 3) := by decide +kernel
theorem dX7_moveJoint_29 : decode cX7_moveJoint 29 = .ok (.iload 4, 2) := by decide +kernel
theorem dX7_moveJoint_31 : decode cX7_moveJoint 31 = .ok (.iload 5, 2) := by decide +kernel
theorem dX7_moveJoint_33 : decode cX7_moveJoint 33 = .ok (.invokestatic 81, 3) := by decide +kernel
theorem dX7_moveJoint_36 : decode cX7_moveJoint 36 = .ok (.ifCond .ne 13, 3) := by decide +kernel
theorem dX7_moveJoint_39 : decode cX7_moveJoint 39 = .ok (.new 85, 3) := by decide +kernel
theorem dX7_moveJoint_42 : decode cX7_moveJoint 42 = .ok (.dup, 1) := by decide +kernel
theorem dX7_moveJoint_43 : decode cX7_moveJoint 43 = .ok (.ldc 87, 2) := by decide +kernel
theorem dX7_moveJoint_45 : decode cX7_moveJoint 45 = .ok (.invokespecial 89, 3) := by decide +kernel
theorem dX7_moveJoint_48 : decode cX7_moveJoint 48 = .ok (.athrow, 1) := by decide +kernel
theorem dX7_moveJoint_49 : decode cX7_moveJoint 49 = .ok (.aload_n 0, 1) := by decide +kernel
theorem dX7_moveJoint_50 : decode cX7_moveJoint 50 = .ok (.getfield 10, 3) := by decide +kernel
theorem dX7_moveJoint_53 : decode cX7_moveJoint 53 = .ok (.iload_n 2, 1) := by decide +kernel
theorem dX7_moveJoint_54 : decode cX7_moveJoint 54 = .ok (.iload_n 3, 1) := by decide +kernel
theorem dX7_moveJoint_55 : decode cX7_moveJoint 55 = .ok (.iload 4, 2) := by decide +kernel
theorem dX7_moveJoint_57 : decode cX7_moveJoint 57 = .ok (.iload 5, 2) := by decide +kernel
theorem dX7_moveJoint_59 : decode cX7_moveJoint 59 = .ok (.invokevirtual 92, 3) := by decide +kernel
theorem dX7_moveJoint_62 : decode cX7_moveJoint 62 = .ok (.aload_n 0, 1) := by decide +kernel
theorem dX7_moveJoint_63 : decode cX7_moveJoint 63 = .ok (.getfield 10, 3) := by decide +kernel
theorem dX7_moveJoint_66 : decode cX7_moveJoint 66 = .ok (.iload_n 1, 1) := by decide +kernel
theorem dX7_moveJoint_67 : decode cX7_moveJoint 67 = .ok (.invokevirtual 96, 3) := by decide +kernel
theorem dX7_moveJoint_70 : decode cX7_moveJoint 70 = .ok (.ifCond .ne 13, 3) := by decide +kernel
theorem dX7_moveJoint_73 : decode cX7_moveJoint 73 = .ok (.new 85, 3) := by decide +kernel
theorem dX7_moveJoint_76 : decode cX7_moveJoint 76 = .ok (.dup, 1) := by decide +kernel
theorem dX7_moveJoint_77 : decode cX7_moveJoint 77 = .ok (.ldc 100, 2) := by decide +kernel
theorem dX7_moveJoint_79 : decode cX7_moveJoint 79 = .ok (.invokespecial 89, 3) := by decide +kernel
theorem dX7_moveJoint_82 : decode cX7_moveJoint 82 = .ok (.athrow, 1) := by decide +kernel
theorem dX7_moveJoint_83 : decode cX7_moveJoint 83 = .ok (.aload_n 0, 1) := by decide +kernel
theorem dX7_moveJoint_84 : decode cX7_moveJoint 84 = .ok (.iload_n 1, 1) := by decide +kernel
theorem dX7_moveJoint_85 : decode cX7_moveJoint 85 = .ok (.iconst 1, 1) := by decide +kernel
theorem dX7_moveJoint_86 : decode cX7_moveJoint 86 = .ok (.isub, 1) := by decide +kernel
theorem dX7_moveJoint_87 : decode cX7_moveJoint 87 = .ok (.invokevirtual 128, 3) := by decide +kernel
theorem dX7_moveJoint_90 : decode cX7_moveJoint 90 = .ok (.ifCond .ne 11, 3) := by decide +kernel
theorem dX7_moveJoint_93 : decode cX7_moveJoint 93 = .ok (.aload_n 0, 1) := by decide +kernel
theorem dX7_moveJoint_94 : decode cX7_moveJoint 94 = .ok (.iload_n 1, 1) := by decide +kernel
theorem dX7_moveJoint_95 : decode cX7_moveJoint 95 = .ok (.invokevirtual 128, 3) := by decide +kernel
theorem dX7_moveJoint_98 : decode cX7_moveJoint 98 = .ok (.ifCond .eq 13, 3) := by decide +kernel
theorem dX7_moveJoint_101 : decode cX7_moveJoint 101 = .ok (.new 106, 3) := by decide +kernel
theorem dX7_moveJoint_104 : decode cX7_moveJoint 104 = .ok (.dup, 1) := by decide +kernel
theorem dX7_moveJoint_105 : decode cX7_moveJoint 105 = .ok (.ldc 131, 2) := by decide +kernel
theorem dX7_moveJoint_107 : decode cX7_moveJoint 107 = .ok (.invokespecial 110, 3) := by decide +kernel
theorem dX7_moveJoint_110 : decode cX7_moveJoint 110 = .ok (.athrow, 1) := by decide +kernel
theorem dX7_moveJoint_111 : decode cX7_moveJoint 111 = .ok (.aload_n 0, 1) := by decide +kernel
theorem dX7_moveJoint_112 : decode cX7_moveJoint 112 = .ok (.getfield 10, 3) := by decide +kernel
theorem dX7_moveJoint_115 : decode cX7_moveJoint 115 = .ok (.iload_n 1, 1) := by decide +kernel
theorem dX7_moveJoint_116 : decode cX7_moveJoint 116 = .ok (.invokevirtual 133, 3) := by decide +kernel
theorem dX7_moveJoint_119 : decode cX7_moveJoint 119 = .ok (.aload_n 0, 1) := by decide +kernel
theorem dX7_moveJoint_120 : decode cX7_moveJoint 120 = .ok (.getfield 10, 3) := by decide +kernel
theorem dX7_moveJoint_123 : decode cX7_moveJoint 123 = .ok (.getfield 137, 3) := by decide +kernel
theorem dX7_moveJoint_126 : decode cX7_moveJoint 126 = .ok (.ireturn, 1) := by decide +kernel
theorem dX7_setDensity_0 : decode cX7_setDensity 0 = .ok (.iload_n 1, 1) := by decide +kernel
theorem dX7_setDensity_1 : decode cX7_setDensity 1 = .ok (.iconst 1, 1) := by decide +kernel
theorem dX7_setDensity_2 : decode cX7_setDensity 2 = .ok (.if_icmp .lt 8, 3) := by decide +kernel
theorem dX7_setDensity_5 : decode cX7_setDensity 5 = .ok (.iload_n 1, 1) := by decide +kernel
theorem dX7_setDensity_6 : decode cX7_setDensity 6 = .ok (.iconst 3, 1) := by decide +kernel
theorem dX7_setDensity_7 : decode cX7_setDensity 7 = .ok (.if_icmp .le 13, 3) := by decide +kernel
theorem dX7_setDensity_10 : decode cX7_setDensity 10 = .ok (.new 85, 3) := by decide +kernel
theorem dX7_setDensity_13 : decode cX7_setDensity 13 = .ok (.dup, 1) := by decide +kernel
theorem dX7_setDensity_14 : decode cX7_setDensity 14 = .ok (.ldc 140, 2) := by decide +kernel
theorem dX7_setDensity_16 : decode cX7_setDensity 16 = .ok (.invokespecial 89, 3) := by decide +kernel
theorem dX7_setDensity_19 : decode cX7_setDensity 19 = .ok (.athrow, 1) := by decide +kernel
theorem dX7_setDensity_20 : decode cX7_setDensity 20 = .ok (.aload_n 0, 1) := by decide +kernel
theorem dX7_setDensity_21 : decode cX7_setDensity 21 = .ok (.invokevirtual 102, 3) := by decide +kernel
theorem dX7_setDensity_24 : decode cX7_setDensity 24 = .ok (.ifCond .le 13, 3) := by decide +kernel
theorem dX7_setDensity_27 : decode cX7_setDensity 27 = .ok (.new 106, 3) := by decide +kernel
theorem dX7_setDensity_30 : decode cX7_setDensity 30 = .ok (.dup, 1) := by decide +kernel
theorem dX7_setDensity_31 : decode cX7_setDensity 31 = .ok (.ldc 108, 2) := by decide +kernel
theorem dX7_setDensity_33 : decode cX7_setDensity 33 = .ok (.invokespecial 110, 3) := by decide +kernel
theorem dX7_setDensity_36 : decode cX7_setDensity 36 = .ok (.athrow, 1) := by decide +kernel
theorem dX7_setDensity_37 : decode cX7_setDensity 37 = .ok (.aload_n 0, 1) := by decide +kernel
theorem dX7_setDensity_38 : decode cX7_setDensity 38 = .ok (.getfield 10, 3) := by decide +kernel
theorem dX7_setDensity_41 : decode cX7_setDensity 41 = .ok (.getfield 142, 3) := by decide +kernel
theorem dX7_setDensity_44 : decode cX7_setDensity 44 = .ok (.istore_n 2, 1) := by decide +kernel
theorem dX7_setDensity_45 : decode cX7_setDensity 45 = .ok (.aload_n 0, 1) := by decide +kernel
theorem dX7_setDensity_46 : decode cX7_setDensity 46 = .ok (.getfield 10, 3) := by decide +kernel
theorem dX7_setDensity_49 : decode cX7_setDensity 49 = .ok (.iload_n 1, 1) := by decide +kernel
theorem dX7_setDensity_50 : decode cX7_setDensity 50 = .ok (.putfield 142, 3) := by decide +kernel
theorem dX7_setDensity_53 : decode cX7_setDensity 53 = .ok (.iload_n 2, 1) := by decide +kernel
theorem dX7_setDensity_54 : decode cX7_setDensity 54 = .ok (.ireturn, 1) := by decide +kernel
theorem dX7_places_0 : decode cX7_places 0 = .ok (.aload_n 0, 1) := by decide +kernel
theorem dX7_places_1 : decode cX7_places 1 = .ok (.getfield 10, 3) := by decide +kernel
theorem dX7_places_4 : decode cX7_places 4 = .ok (.invokevirtual 145, 3) := by decide +kernel
theorem dX7_places_7 : decode cX7_places 7 = .ok (.ireturn, 1) := by decide +kernel
theorem dX7_area_0 : decode cX7_area 0 = .ok (.aload_n 0, 1) := by decide +kernel
theorem dX7_area_1 : decode cX7_area 1 = .ok (.getfield 10, 3) := by decide +kernel
theorem dX7_area_4 : decode cX7_area 4 = .ok (.iload_n 1, 1) := by decide +kernel
theorem dX7_area_5 : decode cX7_area 5 = .ok (.invokevirtual 148, 3) := by decide +kernel
theorem dX7_area_8 : decode cX7_area 8 = .ok (.ifCond .ne 13, 3) := by decide +kernel
theorem dX7_area_11 : decode cX7_area 11 = .ok (.new 123, 3) := by decide +kernel
theorem dX7_area_14 : decode cX7_area 14 = .ok (.dup, 1) := by decide +kernel
theorem dX7_area_15 : decode cX7_area 15 = .ok (.ldc 151, 2) := by decide +kernel
theorem dX7_area_17 : decode cX7_area 17 = .ok (.invokespecial 127, 3) := by decide +kernel
theorem dX7_area_20 : decode cX7_area 20 = .ok (.athrow, 1) := by decide +kernel
theorem dX7_area_21 : decode cX7_area 21 = .ok (.aload_n 0, 1) := by decide +kernel
theorem dX7_area_22 : decode cX7_area 22 = .ok (.getfield 10, 3) := by decide +kernel
theorem dX7_area_25 : decode cX7_area 25 = .ok (.iload_n 1, 1) := by decide +kernel
theorem dX7_area_26 : decode cX7_area 26 = .ok (.invokevirtual 153, 3) := by decide +kernel
theorem dX7_area_29 : decode cX7_area 29 = .ok (.ireturn, 1) := by decide +kernel
theorem dX7_weight_0 : decode cX7_weight 0 = .ok (.aload_n 0, 1) := by decide +kernel
theorem dX7_weight_1 : decode cX7_weight 1 = .ok (.getfield 10, 3) := by decide +kernel
theorem dX7_weight_4 : decode cX7_weight 4 = .ok (.iload_n 1, 1) := by decide +kernel
theorem dX7_weight_5 : decode cX7_weight 5 = .ok (.invokevirtual 148, 3) := by decide +kernel
theorem dX7_weight_8 : decode cX7_weight 8 = .ok (.ifCond .ne 13, 3) := by decide +kernel
theorem dX7_weight_11 : decode cX7_weight 11 = .ok (.new 123, 3) := by decide +kernel
theorem dX7_weight_14 : decode cX7_weight 14 = .ok (.dup, 1) := by decide +kernel
theorem dX7_weight_15 : decode cX7_weight 15 = .ok (.ldc 151, 2) := by decide +kernel
theorem dX7_weight_17 : decode cX7_weight 17 = .ok (.invokespecial 127, 3) := by decide +kernel
theorem dX7_weight_20 : decode cX7_weight 20 = .ok (.athrow, 1) := by decide +kernel
theorem dX7_weight_21 : decode cX7_weight 21 = .ok (.aload_n 0, 1) := by decide +kernel
theorem dX7_weight_22 : decode cX7_weight 22 = .ok (.getfield 10, 3) := by decide +kernel
theorem dX7_weight_25 : decode cX7_weight 25 = .ok (.iload_n 1, 1) := by decide +kernel
theorem dX7_weight_26 : decode cX7_weight 26 = .ok (.invokevirtual 157, 3) := by decide +kernel
theorem dX7_weight_29 : decode cX7_weight 29 = .ok (.ireturn, 1) := by decide +kernel
theorem dX7_isOnPaper_0 : decode cX7_isOnPaper 0 = .ok (.iload_n 0, 1) := by decide +kernel
theorem dX7_isOnPaper_1 : decode cX7_isOnPaper 1 = .ok (.ifCond .lt 23, 3) := by decide +kernel
theorem dX7_isOnPaper_4 : decode cX7_isOnPaper 4 = .ok (.iload_n 0, 1) := by decide +kernel
theorem dX7_isOnPaper_5 : decode cX7_isOnPaper 5 = .ok (.bipush 20, 2) := by decide +kernel
theorem dX7_isOnPaper_7 : decode cX7_isOnPaper 7 = .ok (.if_icmp .gt 17, 3) := by decide +kernel
theorem dX7_isOnPaper_10 : decode cX7_isOnPaper 10 = .ok (.iload_n 1, 1) := by decide +kernel
theorem dX7_isOnPaper_11 : decode cX7_isOnPaper 11 = .ok (.ifCond .lt 13, 3) := by decide +kernel
theorem dX7_isOnPaper_14 : decode cX7_isOnPaper 14 = .ok (.iload_n 1, 1) := by decide +kernel
theorem dX7_isOnPaper_15 : decode cX7_isOnPaper 15 = .ok (.bipush 20, 2) := by decide +kernel
theorem dX7_isOnPaper_17 : decode cX7_isOnPaper 17 = .ok (.if_icmp .gt 7, 3) := by decide +kernel
theorem dX7_isOnPaper_20 : decode cX7_isOnPaper 20 = .ok (.iconst 1, 1) := by decide +kernel
theorem dX7_isOnPaper_21 : decode cX7_isOnPaper 21 = .ok (.goto 4, 3) := by decide +kernel
theorem dX7_isOnPaper_24 : decode cX7_isOnPaper 24 = .ok (.iconst 0, 1) := by decide +kernel
theorem dX7_isOnPaper_25 : decode cX7_isOnPaper 25 = .ok (.ireturn, 1) := by decide +kernel
theorem dX7_isSafe_0 : decode cX7_isSafe 0 = .ok (.iload_n 1, 1) := by decide +kernel
theorem dX7_isSafe_1 : decode cX7_isSafe 1 = .ok (.invokestatic 160, 3) := by decide +kernel
theorem dX7_isSafe_4 : decode cX7_isSafe 4 = .ok (.ifCond .ne 13, 3) := by decide +kernel
theorem dX7_isSafe_7 : decode cX7_isSafe 7 = .ok (.new 85, 3) := by decide +kernel
theorem dX7_isSafe_10 : decode cX7_isSafe 10 = .ok (.dup, 1) := by decide +kernel
theorem dX7_isSafe_11 : decode cX7_isSafe 11 = .ok (.ldc 163, 2) := by decide +kernel
theorem dX7_isSafe_13 : decode cX7_isSafe 13 = .ok (.invokespecial 89, 3) := by decide +kernel
theorem dX7_isSafe_16 : decode cX7_isSafe 16 = .ok (.athrow, 1) := by decide +kernel
theorem dX7_isSafe_17 : decode cX7_isSafe 17 = .ok (.aload_n 0, 1) := by decide +kernel
theorem dX7_isSafe_18 : decode cX7_isSafe 18 = .ok (.getfield 10, 3) := by decide +kernel
theorem dX7_isSafe_21 : decode cX7_isSafe 21 = .ok (.invokevirtual 145, 3) := by decide +kernel
theorem dX7_isSafe_24 : decode cX7_isSafe 24 = .ok (.iconst 2, 1) := by decide +kernel
theorem dX7_isSafe_25 : decode cX7_isSafe 25 = .ok (.if_icmp .ge 13, 3) := by decide +kernel
theorem dX7_isSafe_28 : decode cX7_isSafe 28 = .ok (.new 165, 3) := by decide +kernel
theorem dX7_isSafe_31 : decode cX7_isSafe 31 = .ok (.dup, 1) := by decide +kernel
theorem dX7_isSafe_32 : decode cX7_isSafe 32 = .ok (.ldc 167, 2) := by decide +kernel
theorem dX7_isSafe_34 : decode cX7_isSafe 34 = .ok (.invokespecial 169, 3) := by decide +kernel
theorem dX7_isSafe_37 : decode cX7_isSafe 37 = .ok (.athrow, 1) := by decide +kernel
theorem dX7_isSafe_38 : decode cX7_isSafe 38 = .ok (.aload_n 0, 1) := by decide +kernel
theorem dX7_isSafe_39 : decode cX7_isSafe 39 = .ok (.getfield 19, 3) := by decide +kernel
theorem dX7_isSafe_42 : decode cX7_isSafe 42 = .ok (.aload_n 0, 1) := by decide +kernel
theorem dX7_isSafe_43 : decode cX7_isSafe 43 = .ok (.getfield 10, 3) := by decide +kernel
theorem dX7_isSafe_46 : decode cX7_isSafe 46 = .ok (.aload_n 0, 1) := by decide +kernel
theorem dX7_isSafe_47 : decode cX7_isSafe 47 = .ok (.getfield 45, 3) := by decide +kernel
theorem dX7_isSafe_50 : decode cX7_isSafe 50 = .ok (.iload_n 1, 1) := by decide +kernel
theorem dX7_isSafe_51 : decode cX7_isSafe 51 = .ok (.invokevirtual 170, 3) := by decide +kernel
theorem dX7_isSafe_54 : decode cX7_isSafe 54 = .ok (.ireturn, 1) := by decide +kernel
theorem dX7_thrust_0 : decode cX7_thrust 0 = .ok (.iload_n 1, 1) := by decide +kernel
theorem dX7_thrust_1 : decode cX7_thrust 1 = .ok (.invokestatic 160, 3) := by decide +kernel
theorem dX7_thrust_4 : decode cX7_thrust 4 = .ok (.ifCond .ne 13, 3) := by decide +kernel
theorem dX7_thrust_7 : decode cX7_thrust 7 = .ok (.new 85, 3) := by decide +kernel
theorem dX7_thrust_10 : decode cX7_thrust 10 = .ok (.dup, 1) := by decide +kernel
theorem dX7_thrust_11 : decode cX7_thrust 11 = .ok (.ldc 163, 2) := by decide +kernel
theorem dX7_thrust_13 : decode cX7_thrust 13 = .ok (.invokespecial 89, 3) := by decide +kernel
theorem dX7_thrust_16 : decode cX7_thrust 16 = .ok (.athrow, 1) := by decide +kernel
theorem dX7_thrust_17 : decode cX7_thrust 17 = .ok (.aload_n 0, 1) := by decide +kernel
theorem dX7_thrust_18 : decode cX7_thrust 18 = .ok (.getfield 10, 3) := by decide +kernel
theorem dX7_thrust_21 : decode cX7_thrust 21 = .ok (.invokevirtual 145, 3) := by decide +kernel
theorem dX7_thrust_24 : decode cX7_thrust 24 = .ok (.iconst 2, 1) := by decide +kernel
theorem dX7_thrust_25 : decode cX7_thrust 25 = .ok (.if_icmp .ge 13, 3) := by decide +kernel
theorem dX7_thrust_28 : decode cX7_thrust 28 = .ok (.new 165, 3) := by decide +kernel
theorem dX7_thrust_31 : decode cX7_thrust 31 = .ok (.dup, 1) := by decide +kernel
theorem dX7_thrust_32 : decode cX7_thrust 32 = .ok (.ldc 167, 2) := by decide +kernel
theorem dX7_thrust_34 : decode cX7_thrust 34 = .ok (.invokespecial 169, 3) := by decide +kernel
theorem dX7_thrust_37 : decode cX7_thrust 37 = .ok (.athrow, 1) := by decide +kernel
theorem dX7_thrust_38 : decode cX7_thrust 38 = .ok (.aload_n 0, 1) := by decide +kernel
theorem dX7_thrust_39 : decode cX7_thrust 39 = .ok (.getfield 19, 3) := by decide +kernel
theorem dX7_thrust_42 : decode cX7_thrust 42 = .ok (.aload_n 0, 1) := by decide +kernel
theorem dX7_thrust_43 : decode cX7_thrust 43 = .ok (.getfield 10, 3) := by decide +kernel
theorem dX7_thrust_46 : decode cX7_thrust 46 = .ok (.aload_n 0, 1) := by decide +kernel
theorem dX7_thrust_47 : decode cX7_thrust 47 = .ok (.getfield 45, 3) := by decide +kernel
theorem dX7_thrust_50 : decode cX7_thrust 50 = .ok (.iload_n 1, 1) := by decide +kernel
theorem dX7_thrust_51 : decode cX7_thrust 51 = .ok (.invokevirtual 170, 3) := by decide +kernel
theorem dX7_thrust_54 : decode cX7_thrust 54 = .ok (.ifCond .ne 13, 3) := by decide +kernel
theorem dX7_thrust_57 : decode cX7_thrust 57 = .ok (.new 165, 3) := by decide +kernel
theorem dX7_thrust_60 : decode cX7_thrust 60 = .ok (.dup, 1) := by decide +kernel
theorem dX7_thrust_61 : decode cX7_thrust 61 = .ok (.ldc 174, 2) := by decide +kernel
theorem dX7_thrust_63 : decode cX7_thrust 63 = .ok (.invokespecial 169, 3) := by decide +kernel
theorem dX7_thrust_66 : decode cX7_thrust 66 = .ok (.athrow, 1) := by decide +kernel
theorem dX7_thrust_67 : decode cX7_thrust 67 = .ok (.aload_n 0, 1) := by decide +kernel
theorem dX7_thrust_68 : decode cX7_thrust 68 = .ok (.getfield 19, 3) := by decide +kernel
theorem dX7_thrust_71 : decode cX7_thrust 71 = .ok (.invokevirtual 176, 3) := by decide +kernel
theorem dX7_thrust_74 : decode cX7_thrust 74 = .ok (.lreturn, 1) := by decide +kernel
theorem dX7_bears_0 : decode cX7_bears 0 = .ok (.aload_n 0, 1) := by decide +kernel
theorem dX7_bears_1 : decode cX7_bears 1 = .ok (.getfield 10, 3) := by decide +kernel
theorem dX7_bears_4 : decode cX7_bears 4 = .ok (.iload_n 1, 1) := by decide +kernel
theorem dX7_bears_5 : decode cX7_bears 5 = .ok (.invokevirtual 148, 3) := by decide +kernel
theorem dX7_bears_8 : decode cX7_bears 8 = .ok (.ifCond .ne 13, 3) := by decide +kernel
theorem dX7_bears_11 : decode cX7_bears 11 = .ok (.new 123, 3) := by decide +kernel
theorem dX7_bears_14 : decode cX7_bears 14 = .ok (.dup, 1) := by decide +kernel
theorem dX7_bears_15 : decode cX7_bears 15 = .ok (.ldc 151, 2) := by decide +kernel
theorem dX7_bears_17 : decode cX7_bears 17 = .ok (.invokespecial 127, 3) := by decide +kernel
theorem dX7_bears_20 : decode cX7_bears 20 = .ok (.athrow, 1) := by decide +kernel
theorem dX7_bears_21 : decode cX7_bears 21 = .ok (.iload_n 2, 1) := by decide +kernel
theorem dX7_bears_22 : decode cX7_bears 22 = .ok (.invokestatic 160, 3) := by decide +kernel
theorem dX7_bears_25 : decode cX7_bears 25 = .ok (.ifCond .ne 13, 3) := by decide +kernel
theorem dX7_bears_28 : decode cX7_bears 28 = .ok (.new 85, 3) := by decide +kernel
theorem dX7_bears_31 : decode cX7_bears 31 = .ok (.dup, 1) := by decide +kernel
theorem dX7_bears_32 : decode cX7_bears 32 = .ok (.ldc 163, 2) := by decide +kernel
theorem dX7_bears_34 : decode cX7_bears 34 = .ok (.invokespecial 89, 3) := by decide +kernel
theorem dX7_bears_37 : decode cX7_bears 37 = .ok (.athrow, 1) := by decide +kernel
theorem dX7_bears_38 : decode cX7_bears 38 = .ok (.aload_n 0, 1) := by decide +kernel
theorem dX7_bears_39 : decode cX7_bears 39 = .ok (.getfield 10, 3) := by decide +kernel
theorem dX7_bears_42 : decode cX7_bears 42 = .ok (.invokevirtual 145, 3) := by decide +kernel
theorem dX7_bears_45 : decode cX7_bears 45 = .ok (.iconst 2, 1) := by decide +kernel
theorem dX7_bears_46 : decode cX7_bears 46 = .ok (.if_icmp .ge 13, 3) := by decide +kernel
theorem dX7_bears_49 : decode cX7_bears 49 = .ok (.new 165, 3) := by decide +kernel
theorem dX7_bears_52 : decode cX7_bears 52 = .ok (.dup, 1) := by decide +kernel
theorem dX7_bears_53 : decode cX7_bears 53 = .ok (.ldc 167, 2) := by decide +kernel
theorem dX7_bears_55 : decode cX7_bears 55 = .ok (.invokespecial 169, 3) := by decide +kernel
theorem dX7_bears_58 : decode cX7_bears 58 = .ok (.athrow, 1) := by decide +kernel
theorem dX7_bears_59 : decode cX7_bears 59 = .ok (.aload_n 0, 1) := by decide +kernel
theorem dX7_bears_60 : decode cX7_bears 60 = .ok (.iload_n 1, 1) := by decide +kernel
theorem dX7_bears_61 : decode cX7_bears 61 = .ok (.iconst 0, 1) := by decide +kernel
theorem dX7_bears_62 : decode cX7_bears 62 = .ok (.iload_n 2, 1) := by decide +kernel
theorem dX7_bears_63 : decode cX7_bears 63 = .ok (.invokevirtual 180, 3) := by decide +kernel
theorem dX7_bears_66 : decode cX7_bears 66 = .ok (.ifCond .ne 13, 3) := by decide +kernel
theorem dX7_bears_69 : decode cX7_bears 69 = .ok (.new 165, 3) := by decide +kernel
theorem dX7_bears_72 : decode cX7_bears 72 = .ok (.dup, 1) := by decide +kernel
theorem dX7_bears_73 : decode cX7_bears 73 = .ok (.ldc 184, 2) := by decide +kernel
theorem dX7_bears_75 : decode cX7_bears 75 = .ok (.invokespecial 169, 3) := by decide +kernel
theorem dX7_bears_78 : decode cX7_bears 78 = .ok (.athrow, 1) := by decide +kernel
theorem dX7_bears_79 : decode cX7_bears 79 = .ok (.iconst 0, 1) := by decide +kernel
theorem dX7_bears_80 : decode cX7_bears 80 = .ok (.istore_n 3, 1) := by decide +kernel
theorem dX7_bears_81 : decode cX7_bears 81 = .ok (.sipush 16384, 3) := by decide +kernel
theorem dX7_bears_84 : decode cX7_bears 84 = .ok (.istore 4, 2) := by decide +kernel
theorem dX7_bears_86 : decode cX7_bears 86 = .ok (.iload 4, 2) := by decide +kernel
theorem dX7_bears_88 : decode cX7_bears 88 = .ok (.ifCond .le 40, 3) := by decide +kernel
theorem dX7_bears_91 : decode cX7_bears 91 = .ok (.iload_n 3, 1) := by decide +kernel
theorem dX7_bears_92 : decode cX7_bears 92 = .ok (.iload 4, 2) := by decide +kernel
theorem dX7_bears_94 : decode cX7_bears 94 = .ok (.iadd, 1) := by decide +kernel
theorem dX7_bears_95 : decode cX7_bears 95 = .ok (.sipush 20000, 3) := by decide +kernel
theorem dX7_bears_98 : decode cX7_bears 98 = .ok (.if_icmp .gt 21, 3) := by decide +kernel
theorem dX7_bears_101 : decode cX7_bears 101 = .ok (.aload_n 0, 1) := by decide +kernel
theorem dX7_bears_102 : decode cX7_bears 102 = .ok (.iload_n 1, 1) := by decide +kernel
theorem dX7_bears_103 : decode cX7_bears 103 = .ok (.iload_n 3, 1) := by decide +kernel
theorem dX7_bears_104 : decode cX7_bears 104 = .ok (.iload 4, 2) := by decide +kernel
theorem dX7_bears_106 : decode cX7_bears 106 = .ok (.iadd, 1) := by decide +kernel
theorem dX7_bears_107 : decode cX7_bears 107 = .ok (.iload_n 2, 1) := by decide +kernel
theorem dX7_bears_108 : decode cX7_bears 108 = .ok (.invokevirtual 180, 3) := by decide +kernel
theorem dX7_bears_111 : decode cX7_bears 111 = .ok (.ifCond .eq 8, 3) := by decide +kernel
theorem dX7_bears_114 : decode cX7_bears 114 = .ok (.iload_n 3, 1) := by decide +kernel
theorem dX7_bears_115 : decode cX7_bears 115 = .ok (.iload 4, 2) := by decide +kernel
theorem dX7_bears_117 : decode cX7_bears 117 = .ok (.iadd, 1) := by decide +kernel
theorem dX7_bears_118 : decode cX7_bears 118 = .ok (.istore_n 3, 1) := by decide +kernel
theorem dX7_bears_119 : decode cX7_bears 119 = .ok (.iload 4, 2) := by decide +kernel
theorem dX7_bears_121 : decode cX7_bears 121 = .ok (.iconst 2, 1) := by decide +kernel
theorem dX7_bears_122 : decode cX7_bears 122 = .ok (.idiv, 1) := by decide +kernel
theorem dX7_bears_123 : decode cX7_bears 123 = .ok (.istore 4, 2) := by decide +kernel
theorem dX7_bears_125 : decode cX7_bears 125 = .ok (.goto (-39), 3) := by decide +kernel
theorem dX7_bears_128 : decode cX7_bears 128 = .ok (.iload_n 3, 1) := by decide +kernel
theorem dX7_bears_129 : decode cX7_bears 129 = .ok (.ireturn, 1) := by decide +kernel
theorem dX7_grip_0 : decode cX7_grip 0 = .ok (.aload_n 0, 1) := by decide +kernel
theorem dX7_grip_1 : decode cX7_grip 1 = .ok (.invokevirtual 186, 3) := by decide +kernel
theorem dX7_grip_4 : decode cX7_grip 4 = .ok (.ifCond .ne 5, 3) := by decide +kernel
theorem dX7_grip_7 : decode cX7_grip 7 = .ok (.iconst 3, 1) := by decide +kernel
theorem dX7_grip_8 : decode cX7_grip 8 = .ok (.ireturn, 1) := by decide +kernel
theorem dX7_grip_9 : decode cX7_grip 9 = .ok (.aload_n 0, 1) := by decide +kernel
theorem dX7_grip_10 : decode cX7_grip 10 = .ok (.getfield 68, 3) := by decide +kernel
theorem dX7_grip_13 : decode cX7_grip 13 = .ok (.invokestatic 190, 3) := by decide +kernel
theorem dX7_grip_16 : decode cX7_grip 16 = .ok (.aload_n 0, 1) := by decide +kernel
theorem dX7_grip_17 : decode cX7_grip 17 = .ok (.getfield 71, 3) := by decide +kernel
theorem dX7_grip_20 : decode cX7_grip 20 = .ok (.invokestatic 190, 3) := by decide +kernel
theorem dX7_grip_23 : decode cX7_grip 23 = .ok (.isub, 1) := by decide +kernel
theorem dX7_grip_24 : decode cX7_grip 24 = .ok (.istore_n 1, 1) := by decide +kernel
theorem dX7_grip_25 : decode cX7_grip 25 = .ok (.bipush 8, 2) := by decide +kernel
theorem dX7_grip_27 : decode cX7_grip 27 = .ok (.iconst 3, 1) := by decide +kernel
theorem dX7_grip_28 : decode cX7_grip 28 = .ok (.iload_n 1, 1) := by decide +kernel
theorem dX7_grip_29 : decode cX7_grip 29 = .ok (.iconst 5, 1) := by decide +kernel
theorem dX7_grip_30 : decode cX7_grip 30 = .ok (.idiv, 1) := by decide +kernel
theorem dX7_grip_31 : decode cX7_grip 31 = .ok (.iadd, 1) := by decide +kernel
theorem dX7_grip_32 : decode cX7_grip 32 = .ok (.invokestatic 193, 3) := by decide +kernel
theorem dX7_grip_35 : decode cX7_grip 35 = .ok (.ireturn, 1) := by decide +kernel
theorem dX7_isGrip_0 : decode cX7_isGrip 0 = .ok (.iload_n 0, 1) := by decide +kernel
theorem dX7_isGrip_1 : decode cX7_isGrip 1 = .ok (.ifCond .lt 13, 3) := by decide +kernel
theorem dX7_isGrip_4 : decode cX7_isGrip 4 = .ok (.iload_n 0, 1) := by decide +kernel
theorem dX7_isGrip_5 : decode cX7_isGrip 5 = .ok (.bipush 10, 2) := by decide +kernel
theorem dX7_isGrip_7 : decode cX7_isGrip 7 = .ok (.if_icmp .gt 7, 3) := by decide +kernel
theorem dX7_isGrip_10 : decode cX7_isGrip 10 = .ok (.iconst 1, 1) := by decide +kernel
theorem dX7_isGrip_11 : decode cX7_isGrip 11 = .ok (.goto 4, 3) := by decide +kernel
theorem dX7_isGrip_14 : decode cX7_isGrip 14 = .ok (.iconst 0, 1) := by decide +kernel
theorem dX7_isGrip_15 : decode cX7_isGrip 15 = .ok (.ireturn, 1) := by decide +kernel
theorem dX7_addBlocks_0 : decode cX7_addBlocks 0 = .ok (.iload_n 1, 1) := by decide +kernel
theorem dX7_addBlocks_1 : decode cX7_addBlocks 1 = .ok (.iconst 1, 1) := by decide +kernel
theorem dX7_addBlocks_2 : decode cX7_addBlocks 2 = .ok (.bipush 20, 2) := by decide +kernel
theorem dX7_addBlocks_4 : decode cX7_addBlocks 4 = .ok (.invokestatic 205, 3) := by decide +kernel
theorem dX7_addBlocks_7 : decode cX7_addBlocks 7 = .ok (.ifCond .eq 35, 3) := by decide +kernel
theorem dX7_addBlocks_10 : decode cX7_addBlocks 10 = .ok (.iload_n 2, 1) := by decide +kernel
theorem dX7_addBlocks_11 : decode cX7_addBlocks 11 = .ok (.iconst 1, 1) := by decide +kernel
theorem dX7_addBlocks_12 : decode cX7_addBlocks 12 = .ok (.bipush 20, 2) := by decide +kernel
theorem dX7_addBlocks_14 : decode cX7_addBlocks 14 = .ok (.invokestatic 205, 3) := by decide +kernel
theorem dX7_addBlocks_17 : decode cX7_addBlocks 17 = .ok (.ifCond .eq 25, 3) := by decide +kernel
theorem dX7_addBlocks_20 : decode cX7_addBlocks 20 = .ok (.iload_n 3, 1) := by decide +kernel
theorem dX7_addBlocks_21 : decode cX7_addBlocks 21 = .ok (.iconst 1, 1) := by decide +kernel
theorem dX7_addBlocks_22 : decode cX7_addBlocks 22 = .ok (.bipush 99, 2) := by decide +kernel
theorem dX7_addBlocks_24 : decode cX7_addBlocks 24 = .ok (.invokestatic 205, 3) := by decide +kernel
theorem dX7_addBlocks_27 : decode cX7_addBlocks 27 = .ok (.ifCond .eq 15, 3) := by decide +kernel
theorem dX7_addBlocks_30 : decode cX7_addBlocks 30 = .ok (.iload 4, 2) := by decide +kernel
theorem dX7_addBlocks_32 : decode cX7_addBlocks 32 = .ok (.iconst 0, 1) := by decide +kernel
theorem dX7_addBlocks_33 : decode cX7_addBlocks 33 = .ok (.sipush 999, 3) := by decide +kernel
theorem dX7_addBlocks_36 : decode cX7_addBlocks 36 = .ok (.invokestatic 205, 3) := by decide +kernel
theorem dX7_addBlocks_39 : decode cX7_addBlocks 39 = .ok (.ifCond .ne 13, 3) := by decide +kernel
theorem dX7_addBlocks_42 : decode cX7_addBlocks 42 = .ok (.new 85, 3) := by decide +kernel
theorem dX7_addBlocks_45 : decode cX7_addBlocks 45 = .ok (.dup, 1) := by decide +kernel
theorem dX7_addBlocks_46 : decode cX7_addBlocks 46 = .ok (.ldc 87, 2) := by decide +kernel
theorem dX7_addBlocks_48 : decode cX7_addBlocks 48 = .ok (.invokespecial 89, 3) := by decide +kernel
theorem dX7_addBlocks_51 : decode cX7_addBlocks 51 = .ok (.athrow, 1) := by decide +kernel
theorem dX7_addBlocks_52 : decode cX7_addBlocks 52 = .ok (.aload_n 0, 1) := by decide +kernel
theorem dX7_addBlocks_53 : decode cX7_addBlocks 53 = .ok (.getfield 51, 3) := by decide +kernel
theorem dX7_addBlocks_56 : decode cX7_addBlocks 56 = .ok (.aload_n 0, 1) := by decide +kernel
theorem dX7_addBlocks_57 : decode cX7_addBlocks 57 = .ok (.getfield 25, 3) := by decide +kernel
theorem dX7_addBlocks_60 : decode cX7_addBlocks 60 = .ok (.arraylength, 1) := by decide +kernel
theorem dX7_addBlocks_61 : decode cX7_addBlocks 61 = .ok (.if_icmp .lt 13, 3) := by decide +kernel
theorem dX7_addBlocks_64 : decode cX7_addBlocks 64 = .ok (.new 111, 3) := by decide +kernel
theorem dX7_addBlocks_67 : decode cX7_addBlocks 67 = .ok (.dup, 1) := by decide +kernel
theorem dX7_addBlocks_68 : decode cX7_addBlocks 68 = .ok (.ldc 208, 2) := by decide +kernel
theorem dX7_addBlocks_70 : decode cX7_addBlocks 70 = .ok (.invokespecial 115, 3) := by decide +kernel
theorem dX7_addBlocks_73 : decode cX7_addBlocks 73 = .ok (.athrow, 1) := by decide +kernel
theorem dX7_addBlocks_74 : decode cX7_addBlocks 74 = .ok (.aload_n 0, 1) := by decide +kernel
theorem dX7_addBlocks_75 : decode cX7_addBlocks 75 = .ok (.getfield 25, 3) := by decide +kernel
theorem dX7_addBlocks_78 : decode cX7_addBlocks 78 = .ok (.aload_n 0, 1) := by decide +kernel
theorem dX7_addBlocks_79 : decode cX7_addBlocks 79 = .ok (.getfield 51, 3) := by decide +kernel
theorem dX7_addBlocks_82 : decode cX7_addBlocks 82 = .ok (.new 23, 3) := by decide +kernel
theorem dX7_addBlocks_85 : decode cX7_addBlocks 85 = .ok (.dup, 1) := by decide +kernel
theorem dX7_addBlocks_86 : decode cX7_addBlocks 86 = .ok (.iload_n 1, 1) := by decide +kernel
theorem dX7_addBlocks_87 : decode cX7_addBlocks 87 = .ok (.iload_n 2, 1) := by decide +kernel
theorem dX7_addBlocks_88 : decode cX7_addBlocks 88 = .ok (.iload_n 3, 1) := by decide +kernel
theorem dX7_addBlocks_89 : decode cX7_addBlocks 89 = .ok (.iload 4, 2) := by decide +kernel
theorem dX7_addBlocks_91 : decode cX7_addBlocks 91 = .ok (.iload 5, 2) := by decide +kernel
theorem dX7_addBlocks_93 : decode cX7_addBlocks 93 = .ok (.invokespecial 210, 3) := by decide +kernel
theorem dX7_addBlocks_96 : decode cX7_addBlocks 96 = .ok (.aastore, 1) := by decide +kernel
theorem dX7_addBlocks_97 : decode cX7_addBlocks 97 = .ok (.aload_n 0, 1) := by decide +kernel
theorem dX7_addBlocks_98 : decode cX7_addBlocks 98 = .ok (.dup, 1) := by decide +kernel
theorem dX7_addBlocks_99 : decode cX7_addBlocks 99 = .ok (.getfield 51, 3) := by decide +kernel
theorem dX7_addBlocks_102 : decode cX7_addBlocks 102 = .ok (.dup_x1, 1) := by decide +kernel
theorem dX7_addBlocks_103 : decode cX7_addBlocks 103 = .ok (.iconst 1, 1) := by decide +kernel
theorem dX7_addBlocks_104 : decode cX7_addBlocks 104 = .ok (.iadd, 1) := by decide +kernel
theorem dX7_addBlocks_105 : decode cX7_addBlocks 105 = .ok (.putfield 51, 3) := by decide +kernel
theorem dX7_addBlocks_108 : decode cX7_addBlocks 108 = .ok (.ireturn, 1) := by decide +kernel
theorem dX7_blocks_0 : decode cX7_blocks 0 = .ok (.aload_n 0, 1) := by decide +kernel
theorem dX7_blocks_1 : decode cX7_blocks 1 = .ok (.iload_n 1, 1) := by decide +kernel
theorem dX7_blocks_2 : decode cX7_blocks 2 = .ok (.invokevirtual 213, 3) := by decide +kernel
theorem dX7_blocks_5 : decode cX7_blocks 5 = .ok (.astore_n 2, 1) := by decide +kernel
theorem dX7_blocks_6 : decode cX7_blocks 6 = .ok (.aload_n 2, 1) := by decide +kernel
theorem dX7_blocks_7 : decode cX7_blocks 7 = .ok (.ifnonnull 13, 3) := by decide +kernel
theorem dX7_blocks_10 : decode cX7_blocks 10 = .ok (.new 123, 3) := by decide +kernel
theorem dX7_blocks_13 : decode cX7_blocks 13 = .ok (.dup, 1) := by decide +kernel
theorem dX7_blocks_14 : decode cX7_blocks 14 = .ok (.ldc 217, 2) := by decide +kernel
theorem dX7_blocks_16 : decode cX7_blocks 16 = .ok (.invokespecial 127, 3) := by decide +kernel
theorem dX7_blocks_19 : decode cX7_blocks 19 = .ok (.athrow, 1) := by decide +kernel
theorem dX7_blocks_20 : decode cX7_blocks 20 = .ok (.aload_n 2, 1) := by decide +kernel
theorem dX7_blocks_21 : decode cX7_blocks 21 = .ok (.getfield 219, 3) := by decide +kernel
theorem dX7_blocks_24 : decode cX7_blocks 24 = .ok (.ireturn, 1) := by decide +kernel
theorem dX7_bestBlock_0 : decode cX7_bestBlock 0 = .ok (.aload_n 0, 1) := by decide +kernel
theorem dX7_bestBlock_1 : decode cX7_bestBlock 1 = .ok (.getfield 10, 3) := by decide +kernel
theorem dX7_bestBlock_4 : decode cX7_bestBlock 4 = .ok (.iload_n 1, 1) := by decide +kernel
theorem dX7_bestBlock_5 : decode cX7_bestBlock 5 = .ok (.invokevirtual 222, 3) := by decide +kernel
theorem dX7_bestBlock_8 : decode cX7_bestBlock 8 = .ok (.astore_n 2, 1) := by decide +kernel
theorem dX7_bestBlock_9 : decode cX7_bestBlock 9 = .ok (.aload_n 2, 1) := by decide +kernel
theorem dX7_bestBlock_10 : decode cX7_bestBlock 10 = .ok (.ifnonnull 13, 3) := by decide +kernel
theorem dX7_bestBlock_13 : decode cX7_bestBlock 13 = .ok (.new 123, 3) := by decide +kernel
theorem dX7_bestBlock_16 : decode cX7_bestBlock 16 = .ok (.dup, 1) := by decide +kernel
theorem dX7_bestBlock_17 : decode cX7_bestBlock 17 = .ok (.ldc 151, 2) := by decide +kernel
theorem dX7_bestBlock_19 : decode cX7_bestBlock 19 = .ok (.invokespecial 127, 3) := by decide +kernel
theorem dX7_bestBlock_22 : decode cX7_bestBlock 22 = .ok (.athrow, 1) := by decide +kernel
theorem dX7_bestBlock_23 : decode cX7_bestBlock 23 = .ok (.iconst (-1), 1) := by decide +kernel
theorem dX7_bestBlock_24 : decode cX7_bestBlock 24 = .ok (.istore_n 3, 1) := by decide +kernel
theorem dX7_bestBlock_25 : decode cX7_bestBlock 25 = .ok (.iconst 0, 1) := by decide +kernel
theorem dX7_bestBlock_26 : decode cX7_bestBlock 26 = .ok (.istore 4, 2) := by decide +kernel
theorem dX7_bestBlock_28 : decode cX7_bestBlock 28 = .ok (.iconst 0, 1) := by decide +kernel
theorem dX7_bestBlock_29 : decode cX7_bestBlock 29 = .ok (.istore 5, 2) := by decide +kernel
theorem dX7_bestBlock_31 : decode cX7_bestBlock 31 = .ok (.iload 5, 2) := by decide +kernel
theorem dX7_bestBlock_33 : decode cX7_bestBlock 33 = .ok (.aload_n 0, 1) := by decide +kernel
theorem dX7_bestBlock_34 : decode cX7_bestBlock 34 = .ok (.getfield 51, 3) := by decide +kernel
theorem dX7_bestBlock_37 : decode cX7_bestBlock 37 = .ok (.if_icmp .ge 56, 3) := by decide +kernel
theorem dX7_bestBlock_40 : decode cX7_bestBlock 40 = .ok (.aload_n 0, 1) := by decide +kernel
theorem dX7_bestBlock_41 : decode cX7_bestBlock 41 = .ok (.iload 5, 2) := by decide +kernel
theorem dX7_bestBlock_43 : decode cX7_bestBlock 43 = .ok (.invokevirtual 213, 3) := by decide +kernel
theorem dX7_bestBlock_46 : decode cX7_bestBlock 46 = .ok (.astore 6, 2) := by decide +kernel
theorem dX7_bestBlock_48 : decode cX7_bestBlock 48 = .ok (.aload 6, 2) := by decide +kernel
theorem dX7_bestBlock_50 : decode cX7_bestBlock 50 = .ok (.ifnull 37, 3) := by decide +kernel
theorem dX7_bestBlock_53 : decode cX7_bestBlock 53 = .ok (.aload 6, 2) := by decide +kernel
theorem dX7_bestBlock_55 : decode cX7_bestBlock 55 = .ok (.aload_n 2, 1) := by decide +kernel
theorem dX7_bestBlock_56 : decode cX7_bestBlock 56 = .ok (.invokevirtual 226, 3) := by decide +kernel
theorem dX7_bestBlock_59 : decode cX7_bestBlock 59 = .ok (.ifCond .eq 28, 3) := by decide +kernel
theorem dX7_bestBlock_62 : decode cX7_bestBlock 62 = .ok (.iload_n 3, 1) := by decide +kernel
theorem dX7_bestBlock_63 : decode cX7_bestBlock 63 = .ok (.iconst (-1), 1) := by decide +kernel
theorem dX7_bestBlock_64 : decode cX7_bestBlock 64 = .ok (.if_icmp .eq 13, 3) := by decide +kernel
theorem dX7_bestBlock_67 : decode cX7_bestBlock 67 = .ok (.aload 6, 2) := by decide +kernel
theorem dX7_bestBlock_69 : decode cX7_bestBlock 69 = .ok (.invokevirtual 230, 3) := by decide +kernel
theorem dX7_bestBlock_72 : decode cX7_bestBlock 72 = .ok (.iload 4, 2) := by decide +kernel
theorem dX7_bestBlock_74 : decode cX7_bestBlock 74 = .ok (.if_icmp .ge 13, 3) := by decide +kernel
theorem dX7_bestBlock_77 : decode cX7_bestBlock 77 = .ok (.iload 5, 2) := by decide +kernel
theorem dX7_bestBlock_79 : decode cX7_bestBlock 79 = .ok (.istore_n 3, 1) := by decide +kernel
theorem dX7_bestBlock_80 : decode cX7_bestBlock 80 = .ok (.aload 6, 2) := by decide +kernel
theorem dX7_bestBlock_82 : decode cX7_bestBlock 82 = .ok (.invokevirtual 230, 3) := by decide +kernel
theorem dX7_bestBlock_85 : decode cX7_bestBlock 85 = .ok (.istore 4, 2) := by decide +kernel
theorem dX7_bestBlock_87 : decode cX7_bestBlock 87 = .ok (.iinc 5 1, 3) := by decide +kernel
theorem dX7_bestBlock_90 : decode cX7_bestBlock 90 = .ok (.goto (-59), 3) := by decide +kernel
theorem dX7_bestBlock_93 : decode cX7_bestBlock 93 = .ok (.iload_n 3, 1) := by decide +kernel
theorem dX7_bestBlock_94 : decode cX7_bestBlock 94 = .ok (.iconst (-1), 1) := by decide +kernel
theorem dX7_bestBlock_95 : decode cX7_bestBlock 95 = .ok (.if_icmp .ne 13, 3) := by decide +kernel
theorem dX7_bestBlock_98 : decode cX7_bestBlock 98 = .ok (.new 165, 3) := by decide +kernel
theorem dX7_bestBlock_101 : decode cX7_bestBlock 101 = .ok (.dup, 1) := by decide +kernel
theorem dX7_bestBlock_102 : decode cX7_bestBlock 102 = .ok (.ldc 233, 2) := by decide +kernel
theorem dX7_bestBlock_104 : decode cX7_bestBlock 104 = .ok (.invokespecial 169, 3) := by decide +kernel
theorem dX7_bestBlock_107 : decode cX7_bestBlock 107 = .ok (.athrow, 1) := by decide +kernel
theorem dX7_bestBlock_108 : decode cX7_bestBlock 108 = .ok (.iload_n 3, 1) := by decide +kernel
theorem dX7_bestBlock_109 : decode cX7_bestBlock 109 = .ok (.ireturn, 1) := by decide +kernel
theorem dX7_addMason_0 : decode cX7_addMason 0 = .ok (.iload_n 1, 1) := by decide +kernel
theorem dX7_addMason_1 : decode cX7_addMason 1 = .ok (.iconst 1, 1) := by decide +kernel
theorem dX7_addMason_2 : decode cX7_addMason 2 = .ok (.bipush 99, 2) := by decide +kernel
theorem dX7_addMason_4 : decode cX7_addMason 4 = .ok (.invokestatic 205, 3) := by decide +kernel
theorem dX7_addMason_7 : decode cX7_addMason 7 = .ok (.ifCond .eq 13, 3) := by decide +kernel
theorem dX7_addMason_10 : decode cX7_addMason 10 = .ok (.iload_n 2, 1) := by decide +kernel
theorem dX7_addMason_11 : decode cX7_addMason 11 = .ok (.iconst 0, 1) := by decide +kernel
theorem dX7_addMason_12 : decode cX7_addMason 12 = .ok (.bipush 9, 2) := by decide +kernel
theorem dX7_addMason_14 : decode cX7_addMason 14 = .ok (.invokestatic 205, 3) := by decide +kernel
theorem dX7_addMason_17 : decode cX7_addMason 17 = .ok (.ifCond .ne 13, 3) := by decide +kernel
theorem dX7_addMason_20 : decode cX7_addMason 20 = .ok (.new 85, 3) := by decide +kernel
theorem dX7_addMason_23 : decode cX7_addMason 23 = .ok (.dup, 1) := by decide +kernel
theorem dX7_addMason_24 : decode cX7_addMason 24 = .ok (.ldc 87, 2) := by decide +kernel
theorem dX7_addMason_26 : decode cX7_addMason 26 = .ok (.invokespecial 89, 3) := by decide +kernel
theorem dX7_addMason_29 : decode cX7_addMason 29 = .ok (.athrow, 1) := by decide +kernel
theorem dX7_addMason_30 : decode cX7_addMason 30 = .ok (.aload_n 0, 1) := by decide +kernel
theorem dX7_addMason_31 : decode cX7_addMason 31 = .ok (.getfield 55, 3) := by decide +kernel
theorem dX7_addMason_34 : decode cX7_addMason 34 = .ok (.aload_n 0, 1) := by decide +kernel
theorem dX7_addMason_35 : decode cX7_addMason 35 = .ok (.getfield 31, 3) := by decide +kernel
theorem dX7_addMason_38 : decode cX7_addMason 38 = .ok (.arraylength, 1) := by decide +kernel
theorem dX7_addMason_39 : decode cX7_addMason 39 = .ok (.if_icmp .lt 13, 3) := by decide +kernel
theorem dX7_addMason_42 : decode cX7_addMason 42 = .ok (.new 111, 3) := by decide +kernel
theorem dX7_addMason_45 : decode cX7_addMason 45 = .ok (.dup, 1) := by decide +kernel
theorem dX7_addMason_46 : decode cX7_addMason 46 = .ok (.ldc 235, 2) := by decide +kernel
theorem dX7_addMason_48 : decode cX7_addMason 48 = .ok (.invokespecial 115, 3) := by decide +kernel
theorem dX7_addMason_51 : decode cX7_addMason 51 = .ok (.athrow, 1) := by decide +kernel
theorem dX7_addMason_52 : decode cX7_addMason 52 = .ok (.aload_n 0, 1) := by decide +kernel
theorem dX7_addMason_53 : decode cX7_addMason 53 = .ok (.getfield 31, 3) := by decide +kernel
theorem dX7_addMason_56 : decode cX7_addMason 56 = .ok (.aload_n 0, 1) := by decide +kernel
theorem dX7_addMason_57 : decode cX7_addMason 57 = .ok (.getfield 55, 3) := by decide +kernel
theorem dX7_addMason_60 : decode cX7_addMason 60 = .ok (.new 29, 3) := by decide +kernel
theorem dX7_addMason_63 : decode cX7_addMason 63 = .ok (.dup, 1) := by decide +kernel
theorem dX7_addMason_64 : decode cX7_addMason 64 = .ok (.bipush 65, 2) := by decide +kernel
theorem dX7_addMason_66 : decode cX7_addMason 66 = .ok (.aload_n 0, 1) := by decide +kernel
theorem dX7_addMason_67 : decode cX7_addMason 67 = .ok (.getfield 55, 3) := by decide +kernel
theorem dX7_addMason_70 : decode cX7_addMason 70 = .ok (.iadd, 1) := by decide +kernel
theorem dX7_addMason_71 : decode cX7_addMason 71 = .ok (.i2c, 1) := by decide +kernel
theorem dX7_addMason_72 : decode cX7_addMason 72 = .ok (.iload_n 1, 1) := by decide +kernel
theorem dX7_addMason_73 : decode cX7_addMason 73 = .ok (.iload_n 2, 1) := by decide +kernel
theorem dX7_addMason_74 : decode cX7_addMason 74 = .ok (.invokespecial 237, 3) := by decide +kernel
theorem dX7_addMason_77 : decode cX7_addMason 77 = .ok (.aastore, 1) := by decide +kernel
theorem dX7_addMason_78 : decode cX7_addMason 78 = .ok (.aload_n 0, 1) := by decide +kernel
theorem dX7_addMason_79 : decode cX7_addMason 79 = .ok (.dup, 1) := by decide +kernel
theorem dX7_addMason_80 : decode cX7_addMason 80 = .ok (.getfield 55, 3) := by decide +kernel
theorem dX7_addMason_83 : decode cX7_addMason 83 = .ok (.dup_x1, 1) := by decide +kernel
theorem dX7_addMason_84 : decode cX7_addMason 84 = .ok (.iconst 1, 1) := by decide +kernel
theorem dX7_addMason_85 : decode cX7_addMason 85 = .ok (.iadd, 1) := by decide +kernel
theorem dX7_addMason_86 : decode cX7_addMason 86 = .ok (.putfield 55, 3) := by decide +kernel
theorem dX7_addMason_89 : decode cX7_addMason 89 = .ok (.ireturn, 1) := by decide +kernel
theorem dX7_cut_0 : decode cX7_cut 0 = .ok (.aload_n 0, 1) := by decide +kernel
theorem dX7_cut_1 : decode cX7_cut 1 = .ok (.getfield 10, 3) := by decide +kernel
theorem dX7_cut_4 : decode cX7_cut 4 = .ok (.iload_n 1, 1) := by decide +kernel
theorem dX7_cut_5 : decode cX7_cut 5 = .ok (.invokevirtual 222, 3) := by decide +kernel
theorem dX7_cut_8 : decode cX7_cut 8 = .ok (.astore 4, 2) := by decide +kernel
theorem dX7_cut_10 : decode cX7_cut 10 = .ok (.aload_n 0, 1) := by decide +kernel
theorem dX7_cut_11 : decode cX7_cut 11 = .ok (.iload_n 2, 1) := by decide +kernel
theorem dX7_cut_12 : decode cX7_cut 12 = .ok (.invokevirtual 213, 3) := by decide +kernel
theorem dX7_cut_15 : decode cX7_cut 15 = .ok (.astore 5, 2) := by decide +kernel
theorem dX7_cut_17 : decode cX7_cut 17 = .ok (.aload_n 0, 1) := by decide +kernel
theorem dX7_cut_18 : decode cX7_cut 18 = .ok (.iload_n 3, 1) := by decide +kernel
theorem dX7_cut_19 : decode cX7_cut 19 = .ok (.invokevirtual 240, 3) := by decide +kernel
theorem dX7_cut_22 : decode cX7_cut 22 = .ok (.astore 6, 2) := by decide +kernel
theorem dX7_cut_24 : decode cX7_cut 24 = .ok (.aload 4, 2) := by decide +kernel
theorem dX7_cut_26 : decode cX7_cut 26 = .ok (.ifnull 13, 3) := by decide +kernel
theorem dX7_cut_29 : decode cX7_cut 29 = .ok (.aload 5, 2) := by decide +kernel
theorem dX7_cut_31 : decode cX7_cut 31 = .ok (.ifnull 8, 3) := by decide +kernel
theorem dX7_cut_34 : decode cX7_cut 34 = .ok (.aload 6, 2) := by decide +kernel
theorem dX7_cut_36 : decode cX7_cut 36 = .ok (.ifnonnull 13, 3) := by decide +kernel
theorem dX7_cut_39 : decode cX7_cut 39 = .ok (.new 123, 3) := by decide +kernel
theorem dX7_cut_42 : decode cX7_cut 42 = .ok (.dup, 1) := by decide +kernel
theorem dX7_cut_43 : decode cX7_cut 43 = .ok (.ldc 244, 2) := by decide +kernel
theorem dX7_cut_45 : decode cX7_cut 45 = .ok (.invokespecial 127, 3) := by decide +kernel
theorem dX7_cut_48 : decode cX7_cut 48 = .ok (.athrow, 1) := by decide +kernel
theorem dX7_cut_49 : decode cX7_cut 49 = .ok (.aload 5, 2) := by decide +kernel
theorem dX7_cut_51 : decode cX7_cut 51 = .ok (.aload 4, 2) := by decide +kernel
theorem dX7_cut_53 : decode cX7_cut 53 = .ok (.invokevirtual 226, 3) := by decide +kernel
theorem dX7_cut_56 : decode cX7_cut 56 = .ok (.ifCond .ne 13, 3) := by decide +kernel
theorem dX7_cut_59 : decode cX7_cut 59 = .ok (.new 106, 3) := by decide +kernel
theorem dX7_cut_62 : decode cX7_cut 62 = .ok (.dup, 1) := by decide +kernel
theorem dX7_cut_63 : decode cX7_cut 63 = .ok (.ldc 246, 2) := by decide +kernel
theorem dX7_cut_65 : decode cX7_cut 65 = .ok (.invokespecial 110, 3) := by decide +kernel
theorem dX7_cut_68 : decode cX7_cut 68 = .ok (.athrow, 1) := by decide +kernel
theorem dX7_cut_69 : decode cX7_cut 69 = .ok (.aload_n 0, 1) := by decide +kernel
theorem dX7_cut_70 : decode cX7_cut 70 = .ok (.getfield 58, 3) := by decide +kernel
theorem dX7_cut_73 : decode cX7_cut 73 = .ok (.aload_n 0, 1) := by decide +kernel
theorem dX7_cut_74 : decode cX7_cut 74 = .ok (.getfield 37, 3) := by decide +kernel
theorem dX7_cut_77 : decode cX7_cut 77 = .ok (.arraylength, 1) := by decide +kernel
theorem dX7_cut_78 : decode cX7_cut 78 = .ok (.if_icmp .lt 13, 3) := by decide +kernel
theorem dX7_cut_81 : decode cX7_cut 81 = .ok (.new 111, 3) := by decide +kernel
theorem dX7_cut_84 : decode cX7_cut 84 = .ok (.dup, 1) := by decide +kernel
theorem dX7_cut_85 : decode cX7_cut 85 = .ok (.ldc 248, 2) := by decide +kernel
theorem dX7_cut_87 : decode cX7_cut 87 = .ok (.invokespecial 115, 3) := by decide +kernel
theorem dX7_cut_90 : decode cX7_cut 90 = .ok (.athrow, 1) := by decide +kernel
theorem dX7_cut_91 : decode cX7_cut 91 = .ok (.aload 4, 2) := by decide +kernel
theorem dX7_cut_93 : decode cX7_cut 93 = .ok (.invokevirtual 250, 3) := by decide +kernel
theorem dX7_cut_96 : decode cX7_cut 96 = .ok (.istore 7, 2) := by decide +kernel
theorem dX7_cut_98 : decode cX7_cut 98 = .ok (.aload 6, 2) := by decide +kernel
theorem dX7_cut_100 : decode cX7_cut 100 = .ok (.iload_n 1, 1) := by decide +kernel
theorem dX7_cut_101 : decode cX7_cut 101 = .ok (.aload_n 0, 1) := by decide +kernel
theorem dX7_cut_102 : decode cX7_cut 102 = .ok (.getfield 10, 3) := by decide +kernel
theorem dX7_cut_105 : decode cX7_cut 105 = .ok (.getfield 137, 3) := by decide +kernel
theorem dX7_cut_108 : decode cX7_cut 108 = .ok (.invokevirtual 253, 3) := by decide +kernel
theorem dX7_cut_111 : decode cX7_cut 111 = .ok (.astore 8, 2) := by decide +kernel
theorem dX7_cut_113 : decode cX7_cut 113 = .ok (.aload_n 0, 1) := by decide +kernel
theorem dX7_cut_114 : decode cX7_cut 114 = .ok (.getfield 37, 3) := by decide +kernel
theorem dX7_cut_117 : decode cX7_cut 117 = .ok (.aload_n 0, 1) := by decide +kernel
theorem dX7_cut_118 : decode cX7_cut 118 = .ok (.getfield 58, 3) := by decide +kernel
theorem dX7_cut_121 : decode cX7_cut 121 = .ok (.new 35, 3) := by decide +kernel
theorem dX7_cut_124 : decode cX7_cut 124 = .ok (.dup, 1) := by decide +kernel
theorem dX7_cut_125 : decode cX7_cut 125 = .ok (.aload 4, 2) := by decide +kernel
theorem dX7_cut_127 : decode cX7_cut 127 = .ok (.aload 5, 2) := by decide +kernel
theorem dX7_cut_129 : decode cX7_cut 129 = .ok (.invokevirtual 230, 3) := by decide +kernel
theorem dX7_cut_132 : decode cX7_cut 132 = .ok (.aload 6, 2) := by decide +kernel
theorem dX7_cut_134 : decode cX7_cut 134 = .ok (.iload 7, 2) := by decide +kernel
theorem dX7_cut_136 : decode cX7_cut 136 = .ok (.aload_n 0, 1) := by decide +kernel
theorem dX7_cut_137 : decode cX7_cut 137 = .ok (.getfield 68, 3) := by decide +kernel
theorem dX7_cut_140 : decode cX7_cut 140 = .ok (.invokevirtual 257, 3) := by decide +kernel
theorem dX7_cut_143 : decode cX7_cut 143 = .ok (.aload 8, 2) := by decide +kernel
theorem dX7_cut_145 : decode cX7_cut 145 = .ok (.invokespecial 260, 3) := by decide +kernel
theorem dX7_cut_148 : decode cX7_cut 148 = .ok (.aastore, 1) := by decide +kernel
theorem dX7_cut_149 : decode cX7_cut 149 = .ok (.aload 5, 2) := by decide +kernel
theorem dX7_cut_151 : decode cX7_cut 151 = .ok (.dup, 1) := by decide +kernel
theorem dX7_cut_152 : decode cX7_cut 152 = .ok (.getfield 219, 3) := by decide +kernel
theorem dX7_cut_155 : decode cX7_cut 155 = .ok (.iconst 1, 1) := by decide +kernel
theorem dX7_cut_156 : decode cX7_cut 156 = .ok (.isub, 1) := by decide +kernel
theorem dX7_cut_157 : decode cX7_cut 157 = .ok (.putfield 219, 3) := by decide +kernel
theorem dX7_cut_160 : decode cX7_cut 160 = .ok (.aload_n 0, 1) := by decide +kernel
theorem dX7_cut_161 : decode cX7_cut 161 = .ok (.dup, 1) := by decide +kernel
theorem dX7_cut_162 : decode cX7_cut 162 = .ok (.getfield 74, 3) := by decide +kernel
theorem dX7_cut_165 : decode cX7_cut 165 = .ok (.aload 5, 2) := by decide +kernel
theorem dX7_cut_167 : decode cX7_cut 167 = .ok (.getfield 263, 3) := by decide +kernel
theorem dX7_cut_170 : decode cX7_cut 170 = .ok (.i2l, 1) := by decide +kernel
theorem dX7_cut_171 : decode cX7_cut 171 = .ok (.aload 6, 2) := by decide +kernel
theorem dX7_cut_173 : decode cX7_cut 173 = .ok (.getfield 266, 3) := by decide +kernel
theorem dX7_cut_176 : decode cX7_cut 176 = .ok (.i2l, 1) := by decide +kernel
theorem dX7_cut_177 : decode cX7_cut 177 = .ok (.iload 7, 2) := by decide +kernel
theorem dX7_cut_179 : decode cX7_cut 179 = .ok (.i2l, 1) := by decide +kernel
theorem dX7_cut_180 : decode cX7_cut 180 = .ok (.lmul, 1) := by decide +kernel
theorem dX7_cut_181 : decode cX7_cut 181 = .ok (.ladd, 1) := by decide +kernel
theorem dX7_cut_182 : decode cX7_cut 182 = .ok (.ladd, 1) := by decide +kernel
theorem dX7_cut_183 : decode cX7_cut 183 = .ok (.putfield 74, 3) := by decide +kernel
theorem dX7_cut_186 : decode cX7_cut 186 = .ok (.aload_n 0, 1) := by decide +kernel
theorem dX7_cut_187 : decode cX7_cut 187 = .ok (.dup, 1) := by decide +kernel
theorem dX7_cut_188 : decode cX7_cut 188 = .ok (.getfield 58, 3) := by decide +kernel
theorem dX7_cut_191 : decode cX7_cut 191 = .ok (.dup_x1, 1) := by decide +kernel
theorem dX7_cut_192 : decode cX7_cut 192 = .ok (.iconst 1, 1) := by decide +kernel
theorem dX7_cut_193 : decode cX7_cut 193 = .ok (.iadd, 1) := by decide +kernel
theorem dX7_cut_194 : decode cX7_cut 194 = .ok (.putfield 58, 3) := by decide +kernel
theorem dX7_cut_197 : decode cX7_cut 197 = .ok (.ireturn, 1) := by decide +kernel
theorem dX7_isBetween_0 : decode cX7_isBetween 0 = .ok (.iload_n 0, 1) := by decide +kernel
theorem dX7_isBetween_1 : decode cX7_isBetween 1 = .ok (.iload_n 1, 1) := by decide +kernel
theorem dX7_isBetween_2 : decode cX7_isBetween 2 = .ok (.if_icmp .lt 12, 3) := by decide +kernel
theorem dX7_isBetween_5 : decode cX7_isBetween 5 = .ok (.iload_n 0, 1) := by decide +kernel
theorem dX7_isBetween_6 : decode cX7_isBetween 6 = .ok (.iload_n 2, 1) := by decide +kernel
theorem dX7_isBetween_7 : decode cX7_isBetween 7 = .ok (.if_icmp .gt 7, 3) := by decide +kernel
theorem dX7_isBetween_10 : decode cX7_isBetween 10 = .ok (.iconst 1, 1) := by decide +kernel
theorem dX7_isBetween_11 : decode cX7_isBetween 11 = .ok (.goto 4, 3) := by decide +kernel
theorem dX7_isBetween_14 : decode cX7_isBetween 14 = .ok (.iconst 0, 1) := by decide +kernel
theorem dX7_isBetween_15 : decode cX7_isBetween 15 = .ok (.ireturn, 1) := by decide +kernel
theorem dX7_kindAt_0 : decode cX7_kindAt 0 = .ok (.iload_n 1, 1) := by decide +kernel
theorem dX7_kindAt_1 : decode cX7_kindAt 1 = .ok (.ifCond .lt 29, 3) := by decide +kernel
theorem dX7_kindAt_4 : decode cX7_kindAt 4 = .ok (.iload_n 1, 1) := by decide +kernel
theorem dX7_kindAt_5 : decode cX7_kindAt 5 = .ok (.aload_n 0, 1) := by decide +kernel
theorem dX7_kindAt_6 : decode cX7_kindAt 6 = .ok (.getfield 51, 3) := by decide +kernel
theorem dX7_kindAt_9 : decode cX7_kindAt 9 = .ok (.if_icmp .ge 21, 3) := by decide +kernel
theorem dX7_kindAt_12 : decode cX7_kindAt 12 = .ok (.iload_n 1, 1) := by decide +kernel
theorem dX7_kindAt_13 : decode cX7_kindAt 13 = .ok (.aload_n 0, 1) := by decide +kernel
theorem dX7_kindAt_14 : decode cX7_kindAt 14 = .ok (.getfield 25, 3) := by decide +kernel
theorem dX7_kindAt_17 : decode cX7_kindAt 17 = .ok (.arraylength, 1) := by decide +kernel
theorem dX7_kindAt_18 : decode cX7_kindAt 18 = .ok (.if_icmp .ge 12, 3) := by decide +kernel
theorem dX7_kindAt_21 : decode cX7_kindAt 21 = .ok (.aload_n 0, 1) := by decide +kernel
theorem dX7_kindAt_22 : decode cX7_kindAt 22 = .ok (.getfield 25, 3) := by decide +kernel
theorem dX7_kindAt_25 : decode cX7_kindAt 25 = .ok (.iload_n 1, 1) := by decide +kernel
theorem dX7_kindAt_26 : decode cX7_kindAt 26 = .ok (.aaload, 1) := by decide +kernel
theorem dX7_kindAt_27 : decode cX7_kindAt 27 = .ok (.goto 4, 3) := by decide +kernel
theorem dX7_kindAt_30 : decode cX7_kindAt 30 = .ok (.aconst_null, 1) := by decide +kernel
theorem dX7_kindAt_31 : decode cX7_kindAt 31 = .ok (.areturn, 1) := by decide +kernel
theorem dX7_masonAt_0 : decode cX7_masonAt 0 = .ok (.iload_n 1, 1) := by decide +kernel
theorem dX7_masonAt_1 : decode cX7_masonAt 1 = .ok (.ifCond .lt 29, 3) := by decide +kernel
theorem dX7_masonAt_4 : decode cX7_masonAt 4 = .ok (.iload_n 1, 1) := by decide +kernel
theorem dX7_masonAt_5 : decode cX7_masonAt 5 = .ok (.aload_n 0, 1) := by decide +kernel
theorem dX7_masonAt_6 : decode cX7_masonAt 6 = .ok (.getfield 55, 3) := by decide +kernel
theorem dX7_masonAt_9 : decode cX7_masonAt 9 = .ok (.if_icmp .ge 21, 3) := by decide +kernel
theorem dX7_masonAt_12 : decode cX7_masonAt 12 = .ok (.iload_n 1, 1) := by decide +kernel
theorem dX7_masonAt_13 : decode cX7_masonAt 13 = .ok (.aload_n 0, 1) := by decide +kernel
theorem dX7_masonAt_14 : decode cX7_masonAt 14 = .ok (.getfield 31, 3) := by decide +kernel
theorem dX7_masonAt_17 : decode cX7_masonAt 17 = .ok (.arraylength, 1) := by decide +kernel
theorem dX7_masonAt_18 : decode cX7_masonAt 18 = .ok (.if_icmp .ge 12, 3) := by decide +kernel
theorem dX7_masonAt_21 : decode cX7_masonAt 21 = .ok (.aload_n 0, 1) := by decide +kernel
theorem dX7_masonAt_22 : decode cX7_masonAt 22 = .ok (.getfield 31, 3) := by decide +kernel
theorem dX7_masonAt_25 : decode cX7_masonAt 25 = .ok (.iload_n 1, 1) := by decide +kernel
theorem dX7_masonAt_26 : decode cX7_masonAt 26 = .ok (.aaload, 1) := by decide +kernel
theorem dX7_masonAt_27 : decode cX7_masonAt 27 = .ok (.goto 4, 3) := by decide +kernel
theorem dX7_masonAt_30 : decode cX7_masonAt 30 = .ok (.aconst_null, 1) := by decide +kernel
theorem dX7_masonAt_31 : decode cX7_masonAt 31 = .ok (.areturn, 1) := by decide +kernel
theorem dX7_readyOn_0 : decode cX7_readyOn 0 = .ok (.aload_n 0, 1) := by decide +kernel
theorem dX7_readyOn_1 : decode cX7_readyOn 1 = .ok (.iload_n 1, 1) := by decide +kernel
theorem dX7_readyOn_2 : decode cX7_readyOn 2 = .ok (.invokevirtual 269, 3) := by decide +kernel
theorem dX7_readyOn_5 : decode cX7_readyOn 5 = .ok (.astore_n 2, 1) := by decide +kernel
theorem dX7_readyOn_6 : decode cX7_readyOn 6 = .ok (.aload_n 2, 1) := by decide +kernel
theorem dX7_readyOn_7 : decode cX7_readyOn 7 = .ok (.ifnonnull 14, 3) := by decide +kernel
theorem dX7_readyOn_10 : decode cX7_readyOn 10 = .ok (.new 123, 3) := by decide +kernel
theorem dX7_readyOn_13 : decode cX7_readyOn 13 = .ok (.dup, 1) := by decide +kernel
theorem dX7_readyOn_14 : decode cX7_readyOn 14 = .ok (.ldc_w 273, 3) := by decide +kernel
theorem dX7_readyOn_17 : decode cX7_readyOn 17 = .ok (.invokespecial 127, 3) := by decide +kernel
theorem dX7_readyOn_20 : decode cX7_readyOn 20 = .ok (.athrow, 1) := by decide +kernel
theorem dX7_readyOn_21 : decode cX7_readyOn 21 = .ok (.aload_n 2, 1) := by decide +kernel
theorem dX7_readyOn_22 : decode cX7_readyOn 22 = .ok (.getfield 275, 3) := by decide +kernel
theorem dX7_readyOn_25 : decode cX7_readyOn 25 = .ok (.ireturn, 1) := by decide +kernel
theorem dX7_stateOf_0 : decode cX7_stateOf 0 = .ok (.aload_n 0, 1) := by decide +kernel
theorem dX7_stateOf_1 : decode cX7_stateOf 1 = .ok (.iload_n 1, 1) := by decide +kernel
theorem dX7_stateOf_2 : decode cX7_stateOf 2 = .ok (.invokevirtual 269, 3) := by decide +kernel
theorem dX7_stateOf_5 : decode cX7_stateOf 5 = .ok (.astore_n 2, 1) := by decide +kernel
theorem dX7_stateOf_6 : decode cX7_stateOf 6 = .ok (.aload_n 2, 1) := by decide +kernel
theorem dX7_stateOf_7 : decode cX7_stateOf 7 = .ok (.ifnonnull 14, 3) := by decide +kernel
theorem dX7_stateOf_10 : decode cX7_stateOf 10 = .ok (.new 123, 3) := by decide +kernel
theorem dX7_stateOf_13 : decode cX7_stateOf 13 = .ok (.dup, 1) := by decide +kernel
theorem dX7_stateOf_14 : decode cX7_stateOf 14 = .ok (.ldc_w 273, 3) := by decide +kernel
theorem dX7_stateOf_17 : decode cX7_stateOf 17 = .ok (.invokespecial 127, 3) := by decide +kernel
theorem dX7_stateOf_20 : decode cX7_stateOf 20 = .ok (.athrow, 1) := by decide +kernel
theorem dX7_stateOf_21 : decode cX7_stateOf 21 = .ok (.aload_n 2, 1) := by decide +kernel
theorem dX7_stateOf_22 : decode cX7_stateOf 22 = .ok (.aload_n 0, 1) := by decide +kernel
theorem dX7_stateOf_23 : decode cX7_stateOf 23 = .ok (.getfield 68, 3) := by decide +kernel
theorem dX7_stateOf_26 : decode cX7_stateOf 26 = .ok (.invokevirtual 278, 3) := by decide +kernel
theorem dX7_stateOf_29 : decode cX7_stateOf 29 = .ok (.ireturn, 1) := by decide +kernel
theorem dX7_mark_0 : decode cX7_mark 0 = .ok (.aload_n 0, 1) := by decide +kernel
theorem dX7_mark_1 : decode cX7_mark 1 = .ok (.iload_n 1, 1) := by decide +kernel
theorem dX7_mark_2 : decode cX7_mark 2 = .ok (.invokevirtual 269, 3) := by decide +kernel
theorem dX7_mark_5 : decode cX7_mark 5 = .ok (.astore_n 2, 1) := by decide +kernel
theorem dX7_mark_6 : decode cX7_mark 6 = .ok (.aload_n 2, 1) := by decide +kernel
theorem dX7_mark_7 : decode cX7_mark 7 = .ok (.ifnonnull 14, 3) := by decide +kernel
theorem dX7_mark_10 : decode cX7_mark 10 = .ok (.new 123, 3) := by decide +kernel
theorem dX7_mark_13 : decode cX7_mark 13 = .ok (.dup, 1) := by decide +kernel
theorem dX7_mark_14 : decode cX7_mark 14 = .ok (.ldc_w 273, 3) := by decide +kernel
theorem dX7_mark_17 : decode cX7_mark 17 = .ok (.invokespecial 127, 3) := by decide +kernel
theorem dX7_mark_20 : decode cX7_mark 20 = .ok (.athrow, 1) := by decide +kernel
theorem dX7_mark_21 : decode cX7_mark 21 = .ok (.aload_n 2, 1) := by decide +kernel
theorem dX7_mark_22 : decode cX7_mark 22 = .ok (.getfield 282, 3) := by decide +kernel
theorem dX7_mark_25 : decode cX7_mark 25 = .ok (.invokevirtual 286, 3) := by decide +kernel
theorem dX7_mark_28 : decode cX7_mark 28 = .ok (.ireturn, 1) := by decide +kernel
theorem dX7_markAt_0 : decode cX7_markAt 0 = .ok (.aload_n 0, 1) := by decide +kernel
theorem dX7_markAt_1 : decode cX7_markAt 1 = .ok (.iload_n 1, 1) := by decide +kernel
theorem dX7_markAt_2 : decode cX7_markAt 2 = .ok (.invokevirtual 269, 3) := by decide +kernel
theorem dX7_markAt_5 : decode cX7_markAt 5 = .ok (.astore_n 3, 1) := by decide +kernel
theorem dX7_markAt_6 : decode cX7_markAt 6 = .ok (.aload_n 3, 1) := by decide +kernel
theorem dX7_markAt_7 : decode cX7_markAt 7 = .ok (.ifnonnull 14, 3) := by decide +kernel
theorem dX7_markAt_10 : decode cX7_markAt 10 = .ok (.new 123, 3) := by decide +kernel
theorem dX7_markAt_13 : decode cX7_markAt 13 = .ok (.dup, 1) := by decide +kernel
theorem dX7_markAt_14 : decode cX7_markAt 14 = .ok (.ldc_w 273, 3) := by decide +kernel
theorem dX7_markAt_17 : decode cX7_markAt 17 = .ok (.invokespecial 127, 3) := by decide +kernel
theorem dX7_markAt_20 : decode cX7_markAt 20 = .ok (.athrow, 1) := by decide +kernel
theorem dX7_markAt_21 : decode cX7_markAt 21 = .ok (.iload_n 2, 1) := by decide +kernel
theorem dX7_markAt_22 : decode cX7_markAt 22 = .ok (.ifCond .lt 14, 3) := by decide +kernel
theorem dX7_markAt_25 : decode cX7_markAt 25 = .ok (.iload_n 2, 1) := by decide +kernel
theorem dX7_markAt_26 : decode cX7_markAt 26 = .ok (.aload_n 3, 1) := by decide +kernel
theorem dX7_markAt_27 : decode cX7_markAt 27 = .ok (.getfield 282, 3) := by decide +kernel
theorem dX7_markAt_30 : decode cX7_markAt 30 = .ok (.invokevirtual 286, 3) := by decide +kernel
theorem dX7_markAt_33 : decode cX7_markAt 33 = .ok (.if_icmp .lt 14, 3) := by decide +kernel
theorem dX7_markAt_36 : decode cX7_markAt 36 = .ok (.new 123, 3) := by decide +kernel
theorem dX7_markAt_39 : decode cX7_markAt 39 = .ok (.dup, 1) := by decide +kernel
theorem dX7_markAt_40 : decode cX7_markAt 40 = .ok (.ldc_w 291, 3) := by decide +kernel
theorem dX7_markAt_43 : decode cX7_markAt 43 = .ok (.invokespecial 127, 3) := by decide +kernel
theorem dX7_markAt_46 : decode cX7_markAt 46 = .ok (.athrow, 1) := by decide +kernel
theorem dX7_markAt_47 : decode cX7_markAt 47 = .ok (.aload_n 3, 1) := by decide +kernel
theorem dX7_markAt_48 : decode cX7_markAt 48 = .ok (.getfield 282, 3) := by decide +kernel
theorem dX7_markAt_51 : decode cX7_markAt 51 = .ok (.iload_n 2, 1) := by decide +kernel
theorem dX7_markAt_52 : decode cX7_markAt 52 = .ok (.invokevirtual 293, 3) := by decide +kernel
theorem dX7_markAt_55 : decode cX7_markAt 55 = .ok (.ireturn, 1) := by decide +kernel
theorem dX7_fits_0 : decode cX7_fits 0 = .ok (.aload_n 0, 1) := by decide +kernel
theorem dX7_fits_1 : decode cX7_fits 1 = .ok (.iload_n 1, 1) := by decide +kernel
theorem dX7_fits_2 : decode cX7_fits 2 = .ok (.invokevirtual 269, 3) := by decide +kernel
theorem dX7_fits_5 : decode cX7_fits 5 = .ok (.astore_n 3, 1) := by decide +kernel
theorem dX7_fits_6 : decode cX7_fits 6 = .ok (.aload_n 0, 1) := by decide +kernel
theorem dX7_fits_7 : decode cX7_fits 7 = .ok (.getfield 10, 3) := by decide +kernel
theorem dX7_fits_10 : decode cX7_fits 10 = .ok (.iload_n 2, 1) := by decide +kernel
theorem dX7_fits_11 : decode cX7_fits 11 = .ok (.invokevirtual 222, 3) := by decide +kernel
theorem dX7_fits_14 : decode cX7_fits 14 = .ok (.astore 4, 2) := by decide +kernel
theorem dX7_fits_16 : decode cX7_fits 16 = .ok (.aload_n 3, 1) := by decide +kernel
theorem dX7_fits_17 : decode cX7_fits 17 = .ok (.ifnull 8, 3) := by decide +kernel
theorem dX7_fits_20 : decode cX7_fits 20 = .ok (.aload 4, 2) := by decide +kernel
theorem dX7_fits_22 : decode cX7_fits 22 = .ok (.ifnonnull 14, 3) := by decide +kernel
theorem dX7_fits_25 : decode cX7_fits 25 = .ok (.new 123, 3) := by decide +kernel
theorem dX7_fits_28 : decode cX7_fits 28 = .ok (.dup, 1) := by decide +kernel
theorem dX7_fits_29 : decode cX7_fits 29 = .ok (.ldc_w 296, 3) := by decide +kernel
theorem dX7_fits_32 : decode cX7_fits 32 = .ok (.invokespecial 127, 3) := by decide +kernel
theorem dX7_fits_35 : decode cX7_fits 35 = .ok (.athrow, 1) := by decide +kernel
theorem dX7_fits_36 : decode cX7_fits 36 = .ok (.aload_n 3, 1) := by decide +kernel
theorem dX7_fits_37 : decode cX7_fits 37 = .ok (.getfield 298, 3) := by decide +kernel
theorem dX7_fits_40 : decode cX7_fits 40 = .ok (.aload 4, 2) := by decide +kernel
theorem dX7_fits_42 : decode cX7_fits 42 = .ok (.invokevirtual 302, 3) := by decide +kernel
theorem dX7_fits_45 : decode cX7_fits 45 = .ok (.ireturn, 1) := by decide +kernel
theorem dX7_setCentre_0 : decode cX7_setCentre 0 = .ok (.iload_n 1, 1) := by decide +kernel
theorem dX7_setCentre_1 : decode cX7_setCentre 1 = .ok (.iconst 1, 1) := by decide +kernel
theorem dX7_setCentre_2 : decode cX7_setCentre 2 = .ok (.ldc_w 305, 3) := by decide +kernel
theorem dX7_setCentre_5 : decode cX7_setCentre 5 = .ok (.invokestatic 205, 3) := by decide +kernel
theorem dX7_setCentre_8 : decode cX7_setCentre 8 = .ok (.ifCond .ne 14, 3) := by decide +kernel
theorem dX7_setCentre_11 : decode cX7_setCentre 11 = .ok (.new 85, 3) := by decide +kernel
theorem dX7_setCentre_14 : decode cX7_setCentre 14 = .ok (.dup, 1) := by decide +kernel
theorem dX7_setCentre_15 : decode cX7_setCentre 15 = .ok (.ldc_w 306, 3) := by decide +kernel
theorem dX7_setCentre_18 : decode cX7_setCentre 18 = .ok (.invokespecial 89, 3) := by decide +kernel
theorem dX7_setCentre_21 : decode cX7_setCentre 21 = .ok (.athrow, 1) := by decide +kernel
theorem dX7_setCentre_22 : decode cX7_setCentre 22 = .ok (.aload_n 0, 1) := by decide +kernel
theorem dX7_setCentre_23 : decode cX7_setCentre 23 = .ok (.getfield 61, 3) := by decide +kernel
theorem dX7_setCentre_26 : decode cX7_setCentre 26 = .ok (.ifCond .ne 10, 3) := by decide +kernel
theorem dX7_setCentre_29 : decode cX7_setCentre 29 = .ok (.aload_n 0, 1) := by decide +kernel
theorem dX7_setCentre_30 : decode cX7_setCentre 30 = .ok (.getfield 64, 3) := by decide +kernel
theorem dX7_setCentre_33 : decode cX7_setCentre 33 = .ok (.ifCond .eq 14, 3) := by decide +kernel
theorem dX7_setCentre_36 : decode cX7_setCentre 36 = .ok (.new 106, 3) := by decide +kernel
theorem dX7_setCentre_39 : decode cX7_setCentre 39 = .ok (.dup, 1) := by decide +kernel
theorem dX7_setCentre_40 : decode cX7_setCentre 40 = .ok (.ldc_w 308, 3) := by decide +kernel
theorem dX7_setCentre_43 : decode cX7_setCentre 43 = .ok (.invokespecial 110, 3) := by decide +kernel
theorem dX7_setCentre_46 : decode cX7_setCentre 46 = .ok (.athrow, 1) := by decide +kernel
theorem dX7_setCentre_47 : decode cX7_setCentre 47 = .ok (.aload_n 0, 1) := by decide +kernel
theorem dX7_setCentre_48 : decode cX7_setCentre 48 = .ok (.iload_n 1, 1) := by decide +kernel
theorem dX7_setCentre_49 : decode cX7_setCentre 49 = .ok (.putfield 61, 3) := by decide +kernel
theorem dX7_setCentre_52 : decode cX7_setCentre 52 = .ok (.aload_n 0, 1) := by decide +kernel
theorem dX7_setCentre_53 : decode cX7_setCentre 53 = .ok (.getfield 10, 3) := by decide +kernel
theorem dX7_setCentre_56 : decode cX7_setCentre 56 = .ok (.invokevirtual 310, 3) := by decide +kernel
theorem dX7_setCentre_59 : decode cX7_setCentre 59 = .ok (.ireturn, 1) := by decide +kernel
theorem dX7_set_0 : decode cX7_set 0 = .ok (.aload_n 0, 1) := by decide +kernel
theorem dX7_set_1 : decode cX7_set 1 = .ok (.iload_n 1, 1) := by decide +kernel
theorem dX7_set_2 : decode cX7_set 2 = .ok (.invokevirtual 269, 3) := by decide +kernel
theorem dX7_set_5 : decode cX7_set 5 = .ok (.astore_n 3, 1) := by decide +kernel
theorem dX7_set_6 : decode cX7_set 6 = .ok (.aload_n 0, 1) := by decide +kernel
theorem dX7_set_7 : decode cX7_set 7 = .ok (.getfield 10, 3) := by decide +kernel
theorem dX7_set_10 : decode cX7_set 10 = .ok (.iload_n 2, 1) := by decide +kernel
theorem dX7_set_11 : decode cX7_set 11 = .ok (.invokevirtual 222, 3) := by decide +kernel
theorem dX7_set_14 : decode cX7_set 14 = .ok (.astore 4, 2) := by decide +kernel
theorem dX7_set_16 : decode cX7_set 16 = .ok (.aload_n 3, 1) := by decide +kernel
theorem dX7_set_17 : decode cX7_set 17 = .ok (.ifnull 8, 3) := by decide +kernel
theorem dX7_set_20 : decode cX7_set 20 = .ok (.aload 4, 2) := by decide +kernel
theorem dX7_set_22 : decode cX7_set 22 = .ok (.ifnonnull 14, 3) := by decide +kernel
theorem dX7_set_25 : decode cX7_set 25 = .ok (.new 123, 3) := by decide +kernel
theorem dX7_set_28 : decode cX7_set 28 = .ok (.dup, 1) := by decide +kernel
theorem dX7_set_29 : decode cX7_set 29 = .ok (.ldc_w 296, 3) := by decide +kernel
theorem dX7_set_32 : decode cX7_set 32 = .ok (.invokespecial 127, 3) := by decide +kernel
theorem dX7_set_35 : decode cX7_set 35 = .ok (.athrow, 1) := by decide +kernel
theorem dX7_set_36 : decode cX7_set 36 = .ok (.aload_n 3, 1) := by decide +kernel
theorem dX7_set_37 : decode cX7_set 37 = .ok (.getfield 298, 3) := by decide +kernel
theorem dX7_set_40 : decode cX7_set 40 = .ok (.aload 4, 2) := by decide +kernel
theorem dX7_set_42 : decode cX7_set 42 = .ok (.invokevirtual 302, 3) := by decide +kernel
theorem dX7_set_45 : decode cX7_set 45 = .ok (.ifCond .ne 14, 3) := by decide +kernel
theorem dX7_set_48 : decode cX7_set 48 = .ok (.new 85, 3) := by decide +kernel
theorem dX7_set_51 : decode cX7_set 51 = .ok (.dup, 1) := by decide +kernel
theorem dX7_set_52 : decode cX7_set 52 = .ok (.ldc_w 313, 3) := by decide +kernel
theorem dX7_set_55 : decode cX7_set 55 = .ok (.invokespecial 89, 3) := by decide +kernel
theorem dX7_set_58 : decode cX7_set 58 = .ok (.athrow, 1) := by decide +kernel
theorem dX7_set_59 : decode cX7_set 59 = .ok (.aload_n 3, 1) := by decide +kernel
theorem dX7_set_60 : decode cX7_set 60 = .ok (.aload_n 0, 1) := by decide +kernel
theorem dX7_set_61 : decode cX7_set 61 = .ok (.getfield 68, 3) := by decide +kernel
theorem dX7_set_64 : decode cX7_set 64 = .ok (.invokevirtual 278, 3) := by decide +kernel
theorem dX7_set_67 : decode cX7_set 67 = .ok (.bipush 121, 2) := by decide +kernel
theorem dX7_set_69 : decode cX7_set 69 = .ok (.if_icmp .ne 19, 3) := by decide +kernel
theorem dX7_set_72 : decode cX7_set 72 = .ok (.aload_n 0, 1) := by decide +kernel
theorem dX7_set_73 : decode cX7_set 73 = .ok (.iload_n 2, 1) := by decide +kernel
theorem dX7_set_74 : decode cX7_set 74 = .ok (.invokevirtual 315, 3) := by decide +kernel
theorem dX7_set_77 : decode cX7_set 77 = .ok (.ifCond .eq 11, 3) := by decide +kernel
theorem dX7_set_80 : decode cX7_set 80 = .ok (.aload_n 0, 1) := by decide +kernel
theorem dX7_set_81 : decode cX7_set 81 = .ok (.iload_n 2, 1) := by decide +kernel
theorem dX7_set_82 : decode cX7_set 82 = .ok (.invokevirtual 318, 3) := by decide +kernel
theorem dX7_set_85 : decode cX7_set 85 = .ok (.ifCond .ne 14, 3) := by decide +kernel
theorem dX7_set_88 : decode cX7_set 88 = .ok (.new 106, 3) := by decide +kernel
theorem dX7_set_91 : decode cX7_set 91 = .ok (.dup, 1) := by decide +kernel
theorem dX7_set_92 : decode cX7_set 92 = .ok (.ldc_w 321, 3) := by decide +kernel
theorem dX7_set_95 : decode cX7_set 95 = .ok (.invokespecial 110, 3) := by decide +kernel
theorem dX7_set_98 : decode cX7_set 98 = .ok (.athrow, 1) := by decide +kernel
theorem dX7_set_99 : decode cX7_set 99 = .ok (.iload_n 2, 1) := by decide +kernel
theorem dX7_set_100 : decode cX7_set 100 = .ok (.ifCond .lt 19, 3) := by decide +kernel
theorem dX7_set_103 : decode cX7_set 103 = .ok (.iload_n 2, 1) := by decide +kernel
theorem dX7_set_104 : decode cX7_set 104 = .ok (.aload_n 0, 1) := by decide +kernel
theorem dX7_set_105 : decode cX7_set 105 = .ok (.getfield 41, 3) := by decide +kernel
theorem dX7_set_108 : decode cX7_set 108 = .ok (.arraylength, 1) := by decide +kernel
theorem dX7_set_109 : decode cX7_set 109 = .ok (.if_icmp .ge 10, 3) := by decide +kernel
theorem dX7_set_112 : decode cX7_set 112 = .ok (.aload_n 0, 1) := by decide +kernel
theorem dX7_set_113 : decode cX7_set 113 = .ok (.getfield 41, 3) := by decide +kernel
theorem dX7_set_116 : decode cX7_set 116 = .ok (.iload_n 2, 1) := by decide +kernel
theorem dX7_set_117 : decode cX7_set 117 = .ok (.iload_n 1, 1) := by decide +kernel
theorem dX7_set_118 : decode cX7_set 118 = .ok (.iastore, 1) := by decide +kernel
theorem dX7_set_119 : decode cX7_set 119 = .ok (.aload_n 3, 1) := by decide +kernel
theorem dX7_set_120 : decode cX7_set 120 = .ok (.bipush 115, 2) := by decide +kernel
theorem dX7_set_122 : decode cX7_set 122 = .ok (.putfield 323, 3) := by decide +kernel
theorem dX7_set_125 : decode cX7_set 125 = .ok (.aload_n 0, 1) := by decide +kernel
theorem dX7_set_126 : decode cX7_set 126 = .ok (.aload_n 0, 1) := by decide +kernel
theorem dX7_set_127 : decode cX7_set 127 = .ok (.getfield 68, 3) := by decide +kernel
theorem dX7_set_130 : decode cX7_set 130 = .ok (.putfield 71, 3) := by decide +kernel
theorem dX7_set_133 : decode cX7_set 133 = .ok (.aload_n 0, 1) := by decide +kernel
theorem dX7_set_134 : decode cX7_set 134 = .ok (.invokevirtual 102, 3) := by decide +kernel
theorem dX7_set_137 : decode cX7_set 137 = .ok (.ireturn, 1) := by decide +kernel
theorem dX7_stoneIn_0 : decode cX7_stoneIn 0 = .ok (.aload_n 0, 1) := by decide +kernel
theorem dX7_stoneIn_1 : decode cX7_stoneIn 1 = .ok (.getfield 10, 3) := by decide +kernel
theorem dX7_stoneIn_4 : decode cX7_stoneIn 4 = .ok (.iload_n 1, 1) := by decide +kernel
theorem dX7_stoneIn_5 : decode cX7_stoneIn 5 = .ok (.invokevirtual 148, 3) := by decide +kernel
theorem dX7_stoneIn_8 : decode cX7_stoneIn 8 = .ok (.ifCond .ne 13, 3) := by decide +kernel
theorem dX7_stoneIn_11 : decode cX7_stoneIn 11 = .ok (.new 123, 3) := by decide +kernel
theorem dX7_stoneIn_14 : decode cX7_stoneIn 14 = .ok (.dup, 1) := by decide +kernel
theorem dX7_stoneIn_15 : decode cX7_stoneIn 15 = .ok (.ldc 151, 2) := by decide +kernel
theorem dX7_stoneIn_17 : decode cX7_stoneIn 17 = .ok (.invokespecial 127, 3) := by decide +kernel
theorem dX7_stoneIn_20 : decode cX7_stoneIn 20 = .ok (.athrow, 1) := by decide +kernel
theorem dX7_stoneIn_21 : decode cX7_stoneIn 21 = .ok (.aload_n 0, 1) := by decide +kernel
theorem dX7_stoneIn_22 : decode cX7_stoneIn 22 = .ok (.iload_n 1, 1) := by decide +kernel
theorem dX7_stoneIn_23 : decode cX7_stoneIn 23 = .ok (.invokevirtual 327, 3) := by decide +kernel
theorem dX7_stoneIn_26 : decode cX7_stoneIn 26 = .ok (.istore_n 2, 1) := by decide +kernel
theorem dX7_stoneIn_27 : decode cX7_stoneIn 27 = .ok (.iload_n 2, 1) := by decide +kernel
theorem dX7_stoneIn_28 : decode cX7_stoneIn 28 = .ok (.iconst (-1), 1) := by decide +kernel
theorem dX7_stoneIn_29 : decode cX7_stoneIn 29 = .ok (.if_icmp .ne 14, 3) := by decide +kernel
theorem dX7_stoneIn_32 : decode cX7_stoneIn 32 = .ok (.new 165, 3) := by decide +kernel
theorem dX7_stoneIn_35 : decode cX7_stoneIn 35 = .ok (.dup, 1) := by decide +kernel
theorem dX7_stoneIn_36 : decode cX7_stoneIn 36 = .ok (.ldc_w 330, 3) := by decide +kernel
theorem dX7_stoneIn_39 : decode cX7_stoneIn 39 = .ok (.invokespecial 169, 3) := by decide +kernel
theorem dX7_stoneIn_42 : decode cX7_stoneIn 42 = .ok (.athrow, 1) := by decide +kernel
theorem dX7_stoneIn_43 : decode cX7_stoneIn 43 = .ok (.iload_n 2, 1) := by decide +kernel
theorem dX7_stoneIn_44 : decode cX7_stoneIn 44 = .ok (.ireturn, 1) := by decide +kernel
theorem dX7_strike_0 : decode cX7_strike 0 = .ok (.aload_n 0, 1) := by decide +kernel
theorem dX7_strike_1 : decode cX7_strike 1 = .ok (.getfield 61, 3) := by decide +kernel
theorem dX7_strike_4 : decode cX7_strike 4 = .ok (.ifCond .eq 21, 3) := by decide +kernel
theorem dX7_strike_7 : decode cX7_strike 7 = .ok (.aload_n 0, 1) := by decide +kernel
theorem dX7_strike_8 : decode cX7_strike 8 = .ok (.invokevirtual 186, 3) := by decide +kernel
theorem dX7_strike_11 : decode cX7_strike 11 = .ok (.ifCond .eq 14, 3) := by decide +kernel
theorem dX7_strike_14 : decode cX7_strike 14 = .ok (.aload_n 0, 1) := by decide +kernel
theorem dX7_strike_15 : decode cX7_strike 15 = .ok (.getfield 10, 3) := by decide +kernel
theorem dX7_strike_18 : decode cX7_strike 18 = .ok (.invokevirtual 145, 3) := by decide +kernel
theorem dX7_strike_21 : decode cX7_strike 21 = .ok (.iconst 2, 1) := by decide +kernel
theorem dX7_strike_22 : decode cX7_strike 22 = .ok (.if_icmp .ge 14, 3) := by decide +kernel
theorem dX7_strike_25 : decode cX7_strike 25 = .ok (.new 106, 3) := by decide +kernel
theorem dX7_strike_28 : decode cX7_strike 28 = .ok (.dup, 1) := by decide +kernel
theorem dX7_strike_29 : decode cX7_strike 29 = .ok (.ldc_w 332, 3) := by decide +kernel
theorem dX7_strike_32 : decode cX7_strike 32 = .ok (.invokespecial 110, 3) := by decide +kernel
theorem dX7_strike_35 : decode cX7_strike 35 = .ok (.athrow, 1) := by decide +kernel
theorem dX7_strike_36 : decode cX7_strike 36 = .ok (.aload_n 0, 1) := by decide +kernel
theorem dX7_strike_37 : decode cX7_strike 37 = .ok (.invokevirtual 334, 3) := by decide +kernel
theorem dX7_strike_40 : decode cX7_strike 40 = .ok (.ifCond .ne 14, 3) := by decide +kernel
theorem dX7_strike_43 : decode cX7_strike 43 = .ok (.new 111, 3) := by decide +kernel
theorem dX7_strike_46 : decode cX7_strike 46 = .ok (.dup, 1) := by decide +kernel
theorem dX7_strike_47 : decode cX7_strike 47 = .ok (.ldc_w 337, 3) := by decide +kernel
theorem dX7_strike_50 : decode cX7_strike 50 = .ok (.invokespecial 115, 3) := by decide +kernel
theorem dX7_strike_53 : decode cX7_strike 53 = .ok (.athrow, 1) := by decide +kernel
theorem dX7_strike_54 : decode cX7_strike 54 = .ok (.aload_n 0, 1) := by decide +kernel
theorem dX7_strike_55 : decode cX7_strike 55 = .ok (.getfield 19, 3) := by decide +kernel
theorem dX7_strike_58 : decode cX7_strike 58 = .ok (.invokevirtual 176, 3) := by decide +kernel
theorem dX7_strike_61 : decode cX7_strike 61 = .ok (.lstore_n 1, 1) := by decide +kernel
theorem dX7_strike_62 : decode cX7_strike 62 = .ok (.aload_n 0, 1) := by decide +kernel
theorem dX7_strike_63 : decode cX7_strike 63 = .ok (.iconst 0, 1) := by decide +kernel
theorem dX7_strike_64 : decode cX7_strike 64 = .ok (.putfield 61, 3) := by decide +kernel
theorem dX7_strike_67 : decode cX7_strike 67 = .ok (.aload_n 0, 1) := by decide +kernel
theorem dX7_strike_68 : decode cX7_strike 68 = .ok (.iconst 1, 1) := by decide +kernel
theorem dX7_strike_69 : decode cX7_strike 69 = .ok (.putfield 64, 3) := by decide +kernel
theorem dX7_strike_72 : decode cX7_strike 72 = .ok (.lload_n 1, 1) := by decide +kernel
theorem dX7_strike_73 : decode cX7_strike 73 = .ok (.lreturn, 1) := by decide +kernel
theorem dX7_load_0 : decode cX7_load 0 = .ok (.aload_n 0, 1) := by decide +kernel
theorem dX7_load_1 : decode cX7_load 1 = .ok (.getfield 10, 3) := by decide +kernel
theorem dX7_load_4 : decode cX7_load 4 = .ok (.iload_n 1, 1) := by decide +kernel
theorem dX7_load_5 : decode cX7_load 5 = .ok (.invokevirtual 148, 3) := by decide +kernel
theorem dX7_load_8 : decode cX7_load 8 = .ok (.ifCond .ne 13, 3) := by decide +kernel
theorem dX7_load_11 : decode cX7_load 11 = .ok (.new 123, 3) := by decide +kernel
theorem dX7_load_14 : decode cX7_load 14 = .ok (.dup, 1) := by decide +kernel
theorem dX7_load_15 : decode cX7_load 15 = .ok (.ldc 151, 2) := by decide +kernel
theorem dX7_load_17 : decode cX7_load 17 = .ok (.invokespecial 127, 3) := by decide +kernel
theorem dX7_load_20 : decode cX7_load 20 = .ok (.athrow, 1) := by decide +kernel
theorem dX7_load_21 : decode cX7_load 21 = .ok (.iload_n 2, 1) := by decide +kernel
theorem dX7_load_22 : decode cX7_load 22 = .ok (.iconst 0, 1) := by decide +kernel
theorem dX7_load_23 : decode cX7_load 23 = .ok (.sipush 20000, 3) := by decide +kernel
theorem dX7_load_26 : decode cX7_load 26 = .ok (.invokestatic 205, 3) := by decide +kernel
theorem dX7_load_29 : decode cX7_load 29 = .ok (.ifCond .ne 14, 3) := by decide +kernel
theorem dX7_load_32 : decode cX7_load 32 = .ok (.new 85, 3) := by decide +kernel
theorem dX7_load_35 : decode cX7_load 35 = .ok (.dup, 1) := by decide +kernel
theorem dX7_load_36 : decode cX7_load 36 = .ok (.ldc_w 339, 3) := by decide +kernel
theorem dX7_load_39 : decode cX7_load 39 = .ok (.invokespecial 89, 3) := by decide +kernel
theorem dX7_load_42 : decode cX7_load 42 = .ok (.athrow, 1) := by decide +kernel
theorem dX7_load_43 : decode cX7_load 43 = .ok (.aload_n 0, 1) := by decide +kernel
theorem dX7_load_44 : decode cX7_load 44 = .ok (.getfield 64, 3) := by decide +kernel
theorem dX7_load_47 : decode cX7_load 47 = .ok (.ifCond .ne 14, 3) := by decide +kernel
theorem dX7_load_50 : decode cX7_load 50 = .ok (.new 106, 3) := by decide +kernel
theorem dX7_load_53 : decode cX7_load 53 = .ok (.dup, 1) := by decide +kernel
theorem dX7_load_54 : decode cX7_load 54 = .ok (.ldc_w 341, 3) := by decide +kernel
theorem dX7_load_57 : decode cX7_load 57 = .ok (.invokespecial 110, 3) := by decide +kernel
theorem dX7_load_60 : decode cX7_load 60 = .ok (.athrow, 1) := by decide +kernel
theorem dX7_load_61 : decode cX7_load 61 = .ok (.iload_n 1, 1) := by decide +kernel
theorem dX7_load_62 : decode cX7_load 62 = .ok (.ifCond .lt 19, 3) := by decide +kernel
theorem dX7_load_65 : decode cX7_load 65 = .ok (.iload_n 1, 1) := by decide +kernel
theorem dX7_load_66 : decode cX7_load 66 = .ok (.aload_n 0, 1) := by decide +kernel
theorem dX7_load_67 : decode cX7_load 67 = .ok (.getfield 45, 3) := by decide +kernel
theorem dX7_load_70 : decode cX7_load 70 = .ok (.arraylength, 1) := by decide +kernel
theorem dX7_load_71 : decode cX7_load 71 = .ok (.if_icmp .ge 10, 3) := by decide +kernel
theorem dX7_load_74 : decode cX7_load 74 = .ok (.aload_n 0, 1) := by decide +kernel
theorem dX7_load_75 : decode cX7_load 75 = .ok (.getfield 45, 3) := by decide +kernel
theorem dX7_load_78 : decode cX7_load 78 = .ok (.iload_n 1, 1) := by decide +kernel
theorem dX7_load_79 : decode cX7_load 79 = .ok (.iload_n 2, 1) := by decide +kernel
theorem dX7_load_80 : decode cX7_load 80 = .ok (.iastore, 1) := by decide +kernel
theorem dX7_load_81 : decode cX7_load 81 = .ok (.aload_n 0, 1) := by decide +kernel
theorem dX7_load_82 : decode cX7_load 82 = .ok (.invokevirtual 334, 3) := by decide +kernel
theorem dX7_load_85 : decode cX7_load 85 = .ok (.ifCond .ne 7, 3) := by decide +kernel
theorem dX7_load_88 : decode cX7_load 88 = .ok (.aload_n 0, 1) := by decide +kernel
theorem dX7_load_89 : decode cX7_load 89 = .ok (.invokevirtual 343, 3) := by decide +kernel
theorem dX7_load_92 : decode cX7_load 92 = .ok (.aload_n 0, 1) := by decide +kernel
theorem dX7_load_93 : decode cX7_load 93 = .ok (.getfield 64, 3) := by decide +kernel
theorem dX7_load_96 : decode cX7_load 96 = .ok (.ireturn, 1) := by decide +kernel
theorem dX7_stands_0 : decode cX7_stands 0 = .ok (.aload_n 0, 1) := by decide +kernel
theorem dX7_stands_1 : decode cX7_stands 1 = .ok (.getfield 64, 3) := by decide +kernel
theorem dX7_stands_4 : decode cX7_stands 4 = .ok (.ireturn, 1) := by decide +kernel
theorem dX7_pass_0 : decode cX7_pass 0 = .ok (.iload_n 1, 1) := by decide +kernel
theorem dX7_pass_1 : decode cX7_pass 1 = .ok (.iconst 1, 1) := by decide +kernel
theorem dX7_pass_2 : decode cX7_pass 2 = .ok (.bipush 99, 2) := by decide +kernel
theorem dX7_pass_4 : decode cX7_pass 4 = .ok (.invokestatic 205, 3) := by decide +kernel
theorem dX7_pass_7 : decode cX7_pass 7 = .ok (.ifCond .ne 14, 3) := by decide +kernel
theorem dX7_pass_10 : decode cX7_pass 10 = .ok (.new 85, 3) := by decide +kernel
theorem dX7_pass_13 : decode cX7_pass 13 = .ok (.dup, 1) := by decide +kernel
theorem dX7_pass_14 : decode cX7_pass 14 = .ok (.ldc_w 346, 3) := by decide +kernel
theorem dX7_pass_17 : decode cX7_pass 17 = .ok (.invokespecial 89, 3) := by decide +kernel
theorem dX7_pass_20 : decode cX7_pass 20 = .ok (.athrow, 1) := by decide +kernel
theorem dX7_pass_21 : decode cX7_pass 21 = .ok (.aload_n 0, 1) := by decide +kernel
theorem dX7_pass_22 : decode cX7_pass 22 = .ok (.dup, 1) := by decide +kernel
theorem dX7_pass_23 : decode cX7_pass 23 = .ok (.getfield 68, 3) := by decide +kernel
theorem dX7_pass_26 : decode cX7_pass 26 = .ok (.iload_n 1, 1) := by decide +kernel
theorem dX7_pass_27 : decode cX7_pass 27 = .ok (.iadd, 1) := by decide +kernel
theorem dX7_pass_28 : decode cX7_pass 28 = .ok (.putfield 68, 3) := by decide +kernel
theorem dX7_pass_31 : decode cX7_pass 31 = .ok (.aload_n 0, 1) := by decide +kernel
theorem dX7_pass_32 : decode cX7_pass 32 = .ok (.getfield 68, 3) := by decide +kernel
theorem dX7_pass_35 : decode cX7_pass 35 = .ok (.ireturn, 1) := by decide +kernel
theorem dX7_stoneAt_0 : decode cX7_stoneAt 0 = .ok (.iload_n 1, 1) := by decide +kernel
theorem dX7_stoneAt_1 : decode cX7_stoneAt 1 = .ok (.ifCond .lt 29, 3) := by decide +kernel
theorem dX7_stoneAt_4 : decode cX7_stoneAt 4 = .ok (.iload_n 1, 1) := by decide +kernel
theorem dX7_stoneAt_5 : decode cX7_stoneAt 5 = .ok (.aload_n 0, 1) := by decide +kernel
theorem dX7_stoneAt_6 : decode cX7_stoneAt 6 = .ok (.getfield 58, 3) := by decide +kernel
theorem dX7_stoneAt_9 : decode cX7_stoneAt 9 = .ok (.if_icmp .ge 21, 3) := by decide +kernel
theorem dX7_stoneAt_12 : decode cX7_stoneAt 12 = .ok (.iload_n 1, 1) := by decide +kernel
theorem dX7_stoneAt_13 : decode cX7_stoneAt 13 = .ok (.aload_n 0, 1) := by decide +kernel
theorem dX7_stoneAt_14 : decode cX7_stoneAt 14 = .ok (.getfield 37, 3) := by decide +kernel
theorem dX7_stoneAt_17 : decode cX7_stoneAt 17 = .ok (.arraylength, 1) := by decide +kernel
theorem dX7_stoneAt_18 : decode cX7_stoneAt 18 = .ok (.if_icmp .ge 12, 3) := by decide +kernel
theorem dX7_stoneAt_21 : decode cX7_stoneAt 21 = .ok (.aload_n 0, 1) := by decide +kernel
theorem dX7_stoneAt_22 : decode cX7_stoneAt 22 = .ok (.getfield 37, 3) := by decide +kernel
theorem dX7_stoneAt_25 : decode cX7_stoneAt 25 = .ok (.iload_n 1, 1) := by decide +kernel
theorem dX7_stoneAt_26 : decode cX7_stoneAt 26 = .ok (.aaload, 1) := by decide +kernel
theorem dX7_stoneAt_27 : decode cX7_stoneAt 27 = .ok (.goto 4, 3) := by decide +kernel
theorem dX7_stoneAt_30 : decode cX7_stoneAt 30 = .ok (.aconst_null, 1) := by decide +kernel
theorem dX7_stoneAt_31 : decode cX7_stoneAt 31 = .ok (.areturn, 1) := by decide +kernel
theorem dX7_filledPlaces_0 : decode cX7_filledPlaces 0 = .ok (.iconst 0, 1) := by decide +kernel
theorem dX7_filledPlaces_1 : decode cX7_filledPlaces 1 = .ok (.istore_n 1, 1) := by decide +kernel
theorem dX7_filledPlaces_2 : decode cX7_filledPlaces 2 = .ok (.iconst 0, 1) := by decide +kernel
theorem dX7_filledPlaces_3 : decode cX7_filledPlaces 3 = .ok (.istore_n 2, 1) := by decide +kernel
theorem dX7_filledPlaces_4 : decode cX7_filledPlaces 4 = .ok (.iload_n 2, 1) := by decide +kernel
theorem dX7_filledPlaces_5 : decode cX7_filledPlaces 5 = .ok (.aload_n 0, 1) := by decide +kernel
theorem dX7_filledPlaces_6 : decode cX7_filledPlaces 6 = .ok (.getfield 41, 3) := by decide +kernel
theorem dX7_filledPlaces_9 : decode cX7_filledPlaces 9 = .ok (.arraylength, 1) := by decide +kernel
theorem dX7_filledPlaces_10 : decode cX7_filledPlaces 10 = .ok (.if_icmp .ge 22, 3) := by decide +kernel
theorem dX7_filledPlaces_13 : decode cX7_filledPlaces 13 = .ok (.aload_n 0, 1) := by decide +kernel
theorem dX7_filledPlaces_14 : decode cX7_filledPlaces 14 = .ok (.getfield 41, 3) := by decide +kernel
theorem dX7_filledPlaces_17 : decode cX7_filledPlaces 17 = .ok (.iload_n 2, 1) := by decide +kernel
theorem dX7_filledPlaces_18 : decode cX7_filledPlaces 18 = .ok (.iaload, 1) := by decide +kernel
theorem dX7_filledPlaces_19 : decode cX7_filledPlaces 19 = .ok (.iconst (-1), 1) := by decide +kernel
theorem dX7_filledPlaces_20 : decode cX7_filledPlaces 20 = .ok (.if_icmp .eq 6, 3) := by decide +kernel
theorem dX7_filledPlaces_23 : decode cX7_filledPlaces 23 = .ok (.iinc 1 1, 3) := by decide +kernel
theorem dX7_filledPlaces_26 : decode cX7_filledPlaces 26 = .ok (.iinc 2 1, 3) := by decide +kernel
theorem dX7_filledPlaces_29 : decode cX7_filledPlaces 29 = .ok (.goto (-25), 3) := by decide +kernel
theorem dX7_filledPlaces_32 : decode cX7_filledPlaces 32 = .ok (.iload_n 1, 1) := by decide +kernel
theorem dX7_filledPlaces_33 : decode cX7_filledPlaces 33 = .ok (.ireturn, 1) := by decide +kernel
theorem dX7_isWholeArchFilled_0 : decode cX7_isWholeArchFilled 0 = .ok (.aload_n 0, 1) := by decide +kernel
theorem dX7_isWholeArchFilled_1 : decode cX7_isWholeArchFilled 1 = .ok (.getfield 10, 3) := by decide +kernel
theorem dX7_isWholeArchFilled_4 : decode cX7_isWholeArchFilled 4 = .ok (.invokevirtual 145, 3) := by decide +kernel
theorem dX7_isWholeArchFilled_7 : decode cX7_isWholeArchFilled 7 = .ok (.ifCond .le 21, 3) := by decide +kernel
theorem dX7_isWholeArchFilled_10 : decode cX7_isWholeArchFilled 10 = .ok (.aload_n 0, 1) := by decide +kernel
theorem dX7_isWholeArchFilled_11 : decode cX7_isWholeArchFilled 11 = .ok (.invokevirtual 102, 3) := by decide +kernel
theorem dX7_isWholeArchFilled_14 : decode cX7_isWholeArchFilled 14 = .ok (.aload_n 0, 1) := by decide +kernel
theorem dX7_isWholeArchFilled_15 : decode cX7_isWholeArchFilled 15 = .ok (.getfield 10, 3) := by decide +kernel
theorem dX7_isWholeArchFilled_18 : decode cX7_isWholeArchFilled 18 = .ok (.invokevirtual 145, 3) := by decide +kernel
theorem dX7_isWholeArchFilled_21 : decode cX7_isWholeArchFilled 21 = .ok (.if_icmp .ne 7, 3) := by decide +kernel
theorem dX7_isWholeArchFilled_24 : decode cX7_isWholeArchFilled 24 = .ok (.iconst 1, 1) := by decide +kernel
theorem dX7_isWholeArchFilled_25 : decode cX7_isWholeArchFilled 25 = .ok (.goto 4, 3) := by decide +kernel
theorem dX7_isWholeArchFilled_28 : decode cX7_isWholeArchFilled 28 = .ok (.iconst 0, 1) := by decide +kernel
theorem dX7_isWholeArchFilled_29 : decode cX7_isWholeArchFilled 29 = .ok (.ireturn, 1) := by decide +kernel
theorem dX7_spent_0 : decode cX7_spent 0 = .ok (.aload_n 0, 1) := by decide +kernel
theorem dX7_spent_1 : decode cX7_spent 1 = .ok (.getfield 74, 3) := by decide +kernel
theorem dX7_spent_4 : decode cX7_spent 4 = .ok (.lreturn, 1) := by decide +kernel
theorem dX7_waste_0 : decode cX7_waste 0 = .ok (.aload_n 0, 1) := by decide +kernel
theorem dX7_waste_1 : decode cX7_waste 1 = .ok (.invokevirtual 351, 3) := by decide +kernel
theorem dX7_waste_4 : decode cX7_waste 4 = .ok (.aload_n 0, 1) := by decide +kernel
theorem dX7_waste_5 : decode cX7_waste 5 = .ok (.invokevirtual 354, 3) := by decide +kernel
theorem dX7_waste_8 : decode cX7_waste 8 = .ok (.isub, 1) := by decide +kernel
theorem dX7_waste_9 : decode cX7_waste 9 = .ok (.ireturn, 1) := by decide +kernel
theorem dX7_usedShare_0 : decode cX7_usedShare 0 = .ok (.aload_n 0, 1) := by decide +kernel
theorem dX7_usedShare_1 : decode cX7_usedShare 1 = .ok (.invokevirtual 351, 3) := by decide +kernel
theorem dX7_usedShare_4 : decode cX7_usedShare 4 = .ok (.istore_n 1, 1) := by decide +kernel
theorem dX7_usedShare_5 : decode cX7_usedShare 5 = .ok (.iload_n 1, 1) := by decide +kernel
theorem dX7_usedShare_6 : decode cX7_usedShare 6 = .ok (.ifCond .gt 14, 3) := by decide +kernel
theorem dX7_usedShare_9 : decode cX7_usedShare 9 = .ok (.new 357, 3) := by decide +kernel
theorem dX7_usedShare_12 : decode cX7_usedShare 12 = .ok (.dup, 1) := by decide +kernel
theorem dX7_usedShare_13 : decode cX7_usedShare 13 = .ok (.ldc_w 359, 3) := by decide +kernel
theorem dX7_usedShare_16 : decode cX7_usedShare 16 = .ok (.invokespecial 361, 3) := by decide +kernel
theorem dX7_usedShare_19 : decode cX7_usedShare 19 = .ok (.athrow, 1) := by decide +kernel
theorem dX7_usedShare_20 : decode cX7_usedShare 20 = .ok (.aload_n 0, 1) := by decide +kernel
theorem dX7_usedShare_21 : decode cX7_usedShare 21 = .ok (.invokevirtual 354, 3) := by decide +kernel
theorem dX7_usedShare_24 : decode cX7_usedShare 24 = .ok (.i2f, 1) := by decide +kernel
theorem dX7_usedShare_25 : decode cX7_usedShare 25 = .ok (.iload_n 1, 1) := by decide +kernel
theorem dX7_usedShare_26 : decode cX7_usedShare 26 = .ok (.i2f, 1) := by decide +kernel
theorem dX7_usedShare_27 : decode cX7_usedShare 27 = .ok (.fdiv, 1) := by decide +kernel
theorem dX7_usedShare_28 : decode cX7_usedShare 28 = .ok (.freturn, 1) := by decide +kernel
theorem dX7_meanArea_0 : decode cX7_meanArea 0 = .ok (.aload_n 0, 1) := by decide +kernel
theorem dX7_meanArea_1 : decode cX7_meanArea 1 = .ok (.getfield 10, 3) := by decide +kernel
theorem dX7_meanArea_4 : decode cX7_meanArea 4 = .ok (.invokevirtual 145, 3) := by decide +kernel
theorem dX7_meanArea_7 : decode cX7_meanArea 7 = .ok (.istore_n 1, 1) := by decide +kernel
theorem dX7_meanArea_8 : decode cX7_meanArea 8 = .ok (.iload_n 1, 1) := by decide +kernel
theorem dX7_meanArea_9 : decode cX7_meanArea 9 = .ok (.ifCond .gt 14, 3) := by decide +kernel
theorem dX7_meanArea_12 : decode cX7_meanArea 12 = .ok (.new 357, 3) := by decide +kernel
theorem dX7_meanArea_15 : decode cX7_meanArea 15 = .ok (.dup, 1) := by decide +kernel
theorem dX7_meanArea_16 : decode cX7_meanArea 16 = .ok (.ldc_w 362, 3) := by decide +kernel
theorem dX7_meanArea_19 : decode cX7_meanArea 19 = .ok (.invokespecial 361, 3) := by decide +kernel
theorem dX7_meanArea_22 : decode cX7_meanArea 22 = .ok (.athrow, 1) := by decide +kernel
theorem dX7_meanArea_23 : decode cX7_meanArea 23 = .ok (.aload_n 0, 1) := by decide +kernel
theorem dX7_meanArea_24 : decode cX7_meanArea 24 = .ok (.getfield 10, 3) := by decide +kernel
theorem dX7_meanArea_27 : decode cX7_meanArea 27 = .ok (.invokevirtual 364, 3) := by decide +kernel
theorem dX7_meanArea_30 : decode cX7_meanArea 30 = .ok (.i2d, 1) := by decide +kernel
theorem dX7_meanArea_31 : decode cX7_meanArea 31 = .ok (.iload_n 1, 1) := by decide +kernel
theorem dX7_meanArea_32 : decode cX7_meanArea 32 = .ok (.i2d, 1) := by decide +kernel
theorem dX7_meanArea_33 : decode cX7_meanArea 33 = .ok (.ddiv, 1) := by decide +kernel
theorem dX7_meanArea_34 : decode cX7_meanArea 34 = .ok (.dreturn, 1) := by decide +kernel
theorem dX7_isSound_0 : decode cX7_isSound 0 = .ok (.aload_n 0, 1) := by decide +kernel
theorem dX7_isSound_1 : decode cX7_isSound 1 = .ok (.getfield 10, 3) := by decide +kernel
theorem dX7_isSound_4 : decode cX7_isSound 4 = .ok (.invokevirtual 364, 3) := by decide +kernel
theorem dX7_isSound_7 : decode cX7_isSound 7 = .ok (.aload_n 0, 1) := by decide +kernel
theorem dX7_isSound_8 : decode cX7_isSound 8 = .ok (.getfield 10, 3) := by decide +kernel
theorem dX7_isSound_11 : decode cX7_isSound 11 = .ok (.invokevirtual 367, 3) := by decide +kernel
theorem dX7_isSound_14 : decode cX7_isSound 14 = .ok (.if_icmp .ne 28, 3) := by decide +kernel
theorem dX7_isSound_17 : decode cX7_isSound 17 = .ok (.aload_n 0, 1) := by decide +kernel
theorem dX7_isSound_18 : decode cX7_isSound 18 = .ok (.invokevirtual 370, 3) := by decide +kernel
theorem dX7_isSound_21 : decode cX7_isSound 21 = .ok (.ifCond .eq 21, 3) := by decide +kernel
theorem dX7_isSound_24 : decode cX7_isSound 24 = .ok (.aload_n 0, 1) := by decide +kernel
theorem dX7_isSound_25 : decode cX7_isSound 25 = .ok (.getfield 64, 3) := by decide +kernel
theorem dX7_isSound_28 : decode cX7_isSound 28 = .ok (.ifCond .eq 10, 3) := by decide +kernel
theorem dX7_isSound_31 : decode cX7_isSound 31 = .ok (.aload_n 0, 1) := by decide +kernel
theorem dX7_isSound_32 : decode cX7_isSound 32 = .ok (.invokevirtual 334, 3) := by decide +kernel
theorem dX7_isSound_35 : decode cX7_isSound 35 = .ok (.ifCond .eq 7, 3) := by decide +kernel
theorem dX7_isSound_38 : decode cX7_isSound 38 = .ok (.iconst 1, 1) := by decide +kernel
theorem dX7_isSound_39 : decode cX7_isSound 39 = .ok (.goto 4, 3) := by decide +kernel
theorem dX7_isSound_42 : decode cX7_isSound 42 = .ok (.iconst 0, 1) := by decide +kernel
theorem dX7_isSound_43 : decode cX7_isSound 43 = .ok (.ireturn, 1) := by decide +kernel
theorem dX7_areaOfUsedBlocks_0 : decode cX7_areaOfUsedBlocks 0 = .ok (.iconst 0, 1) := by decide +kernel
theorem dX7_areaOfUsedBlocks_1 : decode cX7_areaOfUsedBlocks 1 = .ok (.istore_n 1, 1) := by decide +kernel
theorem dX7_areaOfUsedBlocks_2 : decode cX7_areaOfUsedBlocks 2 = .ok (.iconst 0, 1) := by decide +kernel
theorem dX7_areaOfUsedBlocks_3 : decode cX7_areaOfUsedBlocks 3 = .ok (.istore_n 2, 1) := by decide +kernel
theorem dX7_areaOfUsedBlocks_4 : decode cX7_areaOfUsedBlocks 4 = .ok (.iload_n 2, 1) := by decide +kernel
theorem dX7_areaOfUsedBlocks_5 : decode cX7_areaOfUsedBlocks 5 = .ok (.aload_n 0, 1) := by decide +kernel
theorem dX7_areaOfUsedBlocks_6 : decode cX7_areaOfUsedBlocks 6 = .ok (.getfield 58, 3) := by decide +kernel
theorem dX7_areaOfUsedBlocks_9 : decode cX7_areaOfUsedBlocks 9 = .ok (.if_icmp .ge 26, 3) := by decide +kernel
theorem dX7_areaOfUsedBlocks_12 : decode cX7_areaOfUsedBlocks 12 = .ok (.aload_n 0, 1) := by decide +kernel
theorem dX7_areaOfUsedBlocks_13 : decode cX7_areaOfUsedBlocks 13 = .ok (.iload_n 2, 1) := by decide +kernel
theorem dX7_areaOfUsedBlocks_14 : decode cX7_areaOfUsedBlocks 14 = .ok (.invokevirtual 269, 3) := by decide +kernel
theorem dX7_areaOfUsedBlocks_17 : decode cX7_areaOfUsedBlocks 17 = .ok (.astore_n 3, 1) := by decide +kernel
theorem dX7_areaOfUsedBlocks_18 : decode cX7_areaOfUsedBlocks 18 = .ok (.aload_n 3, 1) := by decide +kernel
theorem dX7_areaOfUsedBlocks_19 : decode cX7_areaOfUsedBlocks 19 = .ok (.ifnull 10, 3) := by decide +kernel
theorem dX7_areaOfUsedBlocks_22 : decode cX7_areaOfUsedBlocks 22 = .ok (.iload_n 1, 1) := by decide +kernel
theorem dX7_areaOfUsedBlocks_23 : decode cX7_areaOfUsedBlocks 23 = .ok (.aload_n 3, 1) := by decide +kernel
theorem dX7_areaOfUsedBlocks_24 : decode cX7_areaOfUsedBlocks 24 = .ok (.getfield 373, 3) := by decide +kernel
theorem dX7_areaOfUsedBlocks_27 : decode cX7_areaOfUsedBlocks 27 = .ok (.iadd, 1) := by decide +kernel
theorem dX7_areaOfUsedBlocks_28 : decode cX7_areaOfUsedBlocks 28 = .ok (.istore_n 1, 1) := by decide +kernel
theorem dX7_areaOfUsedBlocks_29 : decode cX7_areaOfUsedBlocks 29 = .ok (.iinc 2 1, 3) := by decide +kernel
theorem dX7_areaOfUsedBlocks_32 : decode cX7_areaOfUsedBlocks 32 = .ok (.goto (-28), 3) := by decide +kernel
theorem dX7_areaOfUsedBlocks_35 : decode cX7_areaOfUsedBlocks 35 = .ok (.iload_n 1, 1) := by decide +kernel
theorem dX7_areaOfUsedBlocks_36 : decode cX7_areaOfUsedBlocks 36 = .ok (.ireturn, 1) := by decide +kernel
theorem dX7_areaOfStones_0 : decode cX7_areaOfStones 0 = .ok (.iconst 0, 1) := by decide +kernel
theorem dX7_areaOfStones_1 : decode cX7_areaOfStones 1 = .ok (.istore_n 1, 1) := by decide +kernel
theorem dX7_areaOfStones_2 : decode cX7_areaOfStones 2 = .ok (.iconst 0, 1) := by decide +kernel
theorem dX7_areaOfStones_3 : decode cX7_areaOfStones 3 = .ok (.istore_n 2, 1) := by decide +kernel
theorem dX7_areaOfStones_4 : decode cX7_areaOfStones 4 = .ok (.iload_n 2, 1) := by decide +kernel
theorem dX7_areaOfStones_5 : decode cX7_areaOfStones 5 = .ok (.aload_n 0, 1) := by decide +kernel
theorem dX7_areaOfStones_6 : decode cX7_areaOfStones 6 = .ok (.getfield 58, 3) := by decide +kernel
theorem dX7_areaOfStones_9 : decode cX7_areaOfStones 9 = .ok (.if_icmp .ge 29, 3) := by decide +kernel
theorem dX7_areaOfStones_12 : decode cX7_areaOfStones 12 = .ok (.aload_n 0, 1) := by decide +kernel
theorem dX7_areaOfStones_13 : decode cX7_areaOfStones 13 = .ok (.iload_n 2, 1) := by decide +kernel
theorem dX7_areaOfStones_14 : decode cX7_areaOfStones 14 = .ok (.invokevirtual 269, 3) := by decide +kernel
theorem dX7_areaOfStones_17 : decode cX7_areaOfStones 17 = .ok (.astore_n 3, 1) := by decide +kernel
theorem dX7_areaOfStones_18 : decode cX7_areaOfStones 18 = .ok (.aload_n 3, 1) := by decide +kernel
theorem dX7_areaOfStones_19 : decode cX7_areaOfStones 19 = .ok (.ifnull 13, 3) := by decide +kernel
theorem dX7_areaOfStones_22 : decode cX7_areaOfStones 22 = .ok (.iload_n 1, 1) := by decide +kernel
theorem dX7_areaOfStones_23 : decode cX7_areaOfStones 23 = .ok (.aload_n 3, 1) := by decide +kernel
theorem dX7_areaOfStones_24 : decode cX7_areaOfStones 24 = .ok (.getfield 298, 3) := by decide +kernel
theorem dX7_areaOfStones_27 : decode cX7_areaOfStones 27 = .ok (.invokevirtual 250, 3) := by decide +kernel
theorem dX7_areaOfStones_30 : decode cX7_areaOfStones 30 = .ok (.iadd, 1) := by decide +kernel
theorem dX7_areaOfStones_31 : decode cX7_areaOfStones 31 = .ok (.istore_n 1, 1) := by decide +kernel
theorem dX7_areaOfStones_32 : decode cX7_areaOfStones 32 = .ok (.iinc 2 1, 3) := by decide +kernel
theorem dX7_areaOfStones_35 : decode cX7_areaOfStones 35 = .ok (.goto (-31), 3) := by decide +kernel
theorem dX7_areaOfStones_38 : decode cX7_areaOfStones 38 = .ok (.iload_n 1, 1) := by decide +kernel
theorem dX7_areaOfStones_39 : decode cX7_areaOfStones 39 = .ok (.ireturn, 1) := by decide +kernel
theorem dX7_areSetStonesFitting_0 : decode cX7_areSetStonesFitting 0 = .ok (.iconst 0, 1) := by decide +kernel
theorem dX7_areSetStonesFitting_1 : decode cX7_areSetStonesFitting 1 = .ok (.istore_n 1, 1) := by decide +kernel
theorem dX7_areSetStonesFitting_2 : decode cX7_areSetStonesFitting 2 = .ok (.iload_n 1, 1) := by decide +kernel
theorem dX7_areSetStonesFitting_3 : decode cX7_areSetStonesFitting 3 = .ok (.aload_n 0, 1) := by decide +kernel
theorem dX7_areSetStonesFitting_4 : decode cX7_areSetStonesFitting 4 = .ok (.getfield 10, 3) := by decide +kernel
theorem dX7_areSetStonesFitting_7 : decode cX7_areSetStonesFitting 7 = .ok (.invokevirtual 145, 3) := by decide +kernel
theorem dX7_areSetStonesFitting_10 : decode cX7_areSetStonesFitting 10 = .ok (.if_icmp .ge 49, 3) := by decide +kernel
theorem dX7_areSetStonesFitting_13 : decode cX7_areSetStonesFitting 13 = .ok (.aload_n 0, 1) := by decide +kernel
theorem dX7_areSetStonesFitting_14 : decode cX7_areSetStonesFitting 14 = .ok (.aload_n 0, 1) := by decide +kernel
theorem dX7_areSetStonesFitting_15 : decode cX7_areSetStonesFitting 15 = .ok (.iload_n 1, 1) := by decide +kernel
theorem dX7_areSetStonesFitting_16 : decode cX7_areSetStonesFitting 16 = .ok (.invokevirtual 327, 3) := by decide +kernel
theorem dX7_areSetStonesFitting_19 : decode cX7_areSetStonesFitting 19 = .ok (.invokevirtual 269, 3) := by decide +kernel
theorem dX7_areSetStonesFitting_22 : decode cX7_areSetStonesFitting 22 = .ok (.astore_n 2, 1) := by decide +kernel
theorem dX7_areSetStonesFitting_23 : decode cX7_areSetStonesFitting 23 = .ok (.aload_n 0, 1) := by decide +kernel
theorem dX7_areSetStonesFitting_24 : decode cX7_areSetStonesFitting 24 = .ok (.getfield 10, 3) := by decide +kernel
theorem dX7_areSetStonesFitting_27 : decode cX7_areSetStonesFitting 27 = .ok (.iload_n 1, 1) := by decide +kernel
theorem dX7_areSetStonesFitting_28 : decode cX7_areSetStonesFitting 28 = .ok (.invokevirtual 222, 3) := by decide +kernel
theorem dX7_areSetStonesFitting_31 : decode cX7_areSetStonesFitting 31 = .ok (.astore_n 3, 1) := by decide +kernel
theorem dX7_areSetStonesFitting_32 : decode cX7_areSetStonesFitting 32 = .ok (.aload_n 2, 1) := by decide +kernel
theorem dX7_areSetStonesFitting_33 : decode cX7_areSetStonesFitting 33 = .ok (.ifnull 20, 3) := by decide +kernel
theorem dX7_areSetStonesFitting_36 : decode cX7_areSetStonesFitting 36 = .ok (.aload_n 3, 1) := by decide +kernel
theorem dX7_areSetStonesFitting_37 : decode cX7_areSetStonesFitting 37 = .ok (.ifnull 16, 3) := by decide +kernel
theorem dX7_areSetStonesFitting_40 : decode cX7_areSetStonesFitting 40 = .ok (.aload_n 2, 1) := by decide +kernel
theorem dX7_areSetStonesFitting_41 : decode cX7_areSetStonesFitting 41 = .ok (.getfield 298, 3) := by decide +kernel
theorem dX7_areSetStonesFitting_44 : decode cX7_areSetStonesFitting 44 = .ok (.aload_n 3, 1) := by decide +kernel
theorem dX7_areSetStonesFitting_45 : decode cX7_areSetStonesFitting 45 = .ok (.invokevirtual 302, 3) := by decide +kernel
theorem dX7_areSetStonesFitting_48 : decode cX7_areSetStonesFitting 48 = .ok (.ifCond .ne 5, 3) := by decide +kernel
theorem dX7_areSetStonesFitting_51 : decode cX7_areSetStonesFitting 51 = .ok (.iconst 0, 1) := by decide +kernel
theorem dX7_areSetStonesFitting_52 : decode cX7_areSetStonesFitting 52 = .ok (.ireturn, 1) := by decide +kernel
theorem dX7_areSetStonesFitting_53 : decode cX7_areSetStonesFitting 53 = .ok (.iinc 1 1, 3) := by decide +kernel
theorem dX7_areSetStonesFitting_56 : decode cX7_areSetStonesFitting 56 = .ok (.goto (-54), 3) := by decide +kernel
theorem dX7_areSetStonesFitting_59 : decode cX7_areSetStonesFitting 59 = .ok (.iconst 1, 1) := by decide +kernel
theorem dX7_areSetStonesFitting_60 : decode cX7_areSetStonesFitting 60 = .ok (.ireturn, 1) := by decide +kernel
theorem dX8_init_0 : decode cX8_init 0 = .ok (.aload_n 0, 1) := by decide +kernel
theorem dX8_init_1 : decode cX8_init 1 = .ok (.invokespecial 1, 3) := by decide +kernel
theorem dX8_init_4 : decode cX8_init 4 = .ok (.aload_n 0, 1) := by decide +kernel
theorem dX8_init_5 : decode cX8_init 5 = .ok (.iload_n 1, 1) := by decide +kernel
theorem dX8_init_6 : decode cX8_init 6 = .ok (.putfield 7, 3) := by decide +kernel
theorem dX8_init_9 : decode cX8_init 9 = .ok (.aload_n 0, 1) := by decide +kernel
theorem dX8_init_10 : decode cX8_init 10 = .ok (.iload_n 2, 1) := by decide +kernel
theorem dX8_init_11 : decode cX8_init 11 = .ok (.putfield 13, 3) := by decide +kernel
theorem dX8_init_14 : decode cX8_init 14 = .ok (.aload_n 0, 1) := by decide +kernel
theorem dX8_init_15 : decode cX8_init 15 = .ok (.iload_n 3, 1) := by decide +kernel
theorem dX8_init_16 : decode cX8_init 16 = .ok (.putfield 16, 3) := by decide +kernel
theorem dX8_init_19 : decode cX8_init 19 = .ok (.aload_n 0, 1) := by decide +kernel
theorem dX8_init_20 : decode cX8_init 20 = .ok (.iload 4, 2) := by decide +kernel
theorem dX8_init_22 : decode cX8_init 22 = .ok (.putfield 19, 3) := by decide +kernel
theorem dX8_init_25 : decode cX8_init 25 = .ok (.aload_n 0, 1) := by decide +kernel
theorem dX8_init_26 : decode cX8_init 26 = .ok (.iload 5, 2) := by decide +kernel
theorem dX8_init_28 : decode cX8_init 28 = .ok (.putfield 22, 3) := by decide +kernel
theorem dX8_init_31 : decode cX8_init 31 = .ok (.return_, 1) := by decide +kernel
theorem dX9_init_0 : decode cX9_init 0 = .ok (.aload_n 0, 1) := by decide +kernel
theorem dX9_init_1 : decode cX9_init 1 = .ok (.invokespecial 1, 3) := by decide +kernel
theorem dX9_init_4 : decode cX9_init 4 = .ok (.aload_n 0, 1) := by decide +kernel
theorem dX9_init_5 : decode cX9_init 5 = .ok (.iconst 0, 1) := by decide +kernel
theorem dX9_init_6 : decode cX9_init 6 = .ok (.putfield 7, 3) := by decide +kernel
theorem dX9_init_9 : decode cX9_init 9 = .ok (.aload_n 0, 1) := by decide +kernel
theorem dX9_init_10 : decode cX9_init 10 = .ok (.iconst 0, 1) := by decide +kernel
theorem dX9_init_11 : decode cX9_init 11 = .ok (.putfield 13, 3) := by decide +kernel
theorem dX9_init_14 : decode cX9_init 14 = .ok (.aload_n 0, 1) := by decide +kernel
theorem dX9_init_15 : decode cX9_init 15 = .ok (.iload_n 1, 1) := by decide +kernel
theorem dX9_init_16 : decode cX9_init 16 = .ok (.putfield 16, 3) := by decide +kernel
theorem dX9_init_19 : decode cX9_init 19 = .ok (.aload_n 0, 1) := by decide +kernel
theorem dX9_init_20 : decode cX9_init 20 = .ok (.iload_n 2, 1) := by decide +kernel
theorem dX9_init_21 : decode cX9_init 21 = .ok (.putfield 19, 3) := by decide +kernel
theorem dX9_init_24 : decode cX9_init 24 = .ok (.return_, 1) := by decide +kernel
theorem dX11_init_0 : decode cX11_init 0 = .ok (.aload_n 0, 1) := by decide +kernel
theorem dX11_init_1 : decode cX11_init 1 = .ok (.invokespecial 1, 3) := by decide +kernel
theorem dX11_init_4 : decode cX11_init 4 = .ok (.aload_n 0, 1) := by decide +kernel
theorem dX11_init_5 : decode cX11_init 5 = .ok (.new 7, 3) := by decide +kernel
theorem dX11_init_8 : decode cX11_init 8 = .ok (.dup, 1) := by decide +kernel
theorem dX11_init_9 : decode cX11_init 9 = .ok (.invokespecial 9, 3) := by decide +kernel
theorem dX11_init_12 : decode cX11_init 12 = .ok (.putfield 10, 3) := by decide +kernel
theorem dX11_init_15 : decode cX11_init 15 = .ok (.aload_n 0, 1) := by decide +kernel
theorem dX11_init_16 : decode cX11_init 16 = .ok (.new 7, 3) := by decide +kernel
theorem dX11_init_19 : decode cX11_init 19 = .ok (.dup, 1) := by decide +kernel
theorem dX11_init_20 : decode cX11_init 20 = .ok (.invokespecial 9, 3) := by decide +kernel
theorem dX11_init_23 : decode cX11_init 23 = .ok (.putfield 16, 3) := by decide +kernel
theorem dX11_init_26 : decode cX11_init 26 = .ok (.aload_n 0, 1) := by decide +kernel
theorem dX11_init_27 : decode cX11_init 27 = .ok (.new 7, 3) := by decide +kernel
theorem dX11_init_30 : decode cX11_init 30 = .ok (.dup, 1) := by decide +kernel
theorem dX11_init_31 : decode cX11_init 31 = .ok (.invokespecial 9, 3) := by decide +kernel
theorem dX11_init_34 : decode cX11_init 34 = .ok (.putfield 19, 3) := by decide +kernel
theorem dX11_init_37 : decode cX11_init 37 = .ok (.aload_n 0, 1) := by decide +kernel
theorem dX11_init_38 : decode cX11_init 38 = .ok (.new 7, 3) := by decide +kernel
theorem dX11_init_41 : decode cX11_init 41 = .ok (.dup, 1) := by decide +kernel
theorem dX11_init_42 : decode cX11_init 42 = .ok (.invokespecial 9, 3) := by decide +kernel
theorem dX11_init_45 : decode cX11_init 45 = .ok (.putfield 22, 3) := by decide +kernel
theorem dX11_init_48 : decode cX11_init 48 = .ok (.aload_n 0, 1) := by decide +kernel
theorem dX11_init_49 : decode cX11_init 49 = .ok (.bipush 7, 2) := by decide +kernel
theorem dX11_init_51 : decode cX11_init 51 = .ok (.newarray .int, 2) := by decide +kernel
theorem dX11_init_53 : decode cX11_init 53 = .ok (.dup, 1) := by decide +kernel
theorem dX11_init_54 : decode cX11_init 54 = .ok (.iconst 0, 1) := by decide +kernel
theorem dX11_init_55 : decode cX11_init 55 = .ok (.iconst (-1), 1) := by decide +kernel
theorem dX11_init_56 : decode cX11_init 56 = .ok (.iastore, 1) := by decide +kernel
theorem dX11_init_57 : decode cX11_init 57 = .ok (.dup, 1) := by decide +kernel
theorem dX11_init_58 : decode cX11_init 58 = .ok (.iconst 1, 1) := by decide +kernel
theorem dX11_init_59 : decode cX11_init 59 = .ok (.iconst (-1), 1) := by decide +kernel
theorem dX11_init_60 : decode cX11_init 60 = .ok (.iastore, 1) := by decide +kernel
theorem dX11_init_61 : decode cX11_init 61 = .ok (.dup, 1) := by decide +kernel
theorem dX11_init_62 : decode cX11_init 62 = .ok (.iconst 2, 1) := by decide +kernel
theorem dX11_init_63 : decode cX11_init 63 = .ok (.iconst (-1), 1) := by decide +kernel
theorem dX11_init_64 : decode cX11_init 64 = .ok (.iastore, 1) := by decide +kernel
theorem dX11_init_65 : decode cX11_init 65 = .ok (.dup, 1) := by decide +kernel
theorem dX11_init_66 : decode cX11_init 66 = .ok (.iconst 3, 1) := by decide +kernel
theorem dX11_init_67 : decode cX11_init 67 = .ok (.iconst (-1), 1) := by decide +kernel
theorem dX11_init_68 : decode cX11_init 68 = .ok (.iastore, 1) := by decide +kernel
theorem dX11_init_69 : decode cX11_init 69 = .ok (.dup, 1) := by decide +kernel
theorem dX11_init_70 : decode cX11_init 70 = .ok (.iconst 4, 1) := by decide +kernel
theorem dX11_init_71 : decode cX11_init 71 = .ok (.iconst (-1), 1) := by decide +kernel
theorem dX11_init_72 : decode cX11_init 72 = .ok (.iastore, 1) := by decide +kernel
theorem dX11_init_73 : decode cX11_init 73 = .ok (.dup, 1) := by decide +kernel
theorem dX11_init_74 : decode cX11_init 74 = .ok (.iconst 5, 1) := by decide +kernel
theorem dX11_init_75 : decode cX11_init 75 = .ok (.iconst (-1), 1) := by decide +kernel
theorem dX11_init_76 : decode cX11_init 76 = .ok (.iastore, 1) := by decide +kernel
theorem dX11_init_77 : decode cX11_init 77 = .ok (.dup, 1) := by decide +kernel
theorem dX11_init_78 : decode cX11_init 78 = .ok (.bipush 6, 2) := by decide +kernel
theorem dX11_init_80 : decode cX11_init 80 = .ok (.iconst (-1), 1) := by decide +kernel
theorem dX11_init_81 : decode cX11_init 81 = .ok (.iastore, 1) := by decide +kernel
theorem dX11_init_82 : decode cX11_init 82 = .ok (.putfield 25, 3) := by decide +kernel
theorem dX11_init_85 : decode cX11_init 85 = .ok (.aload_n 0, 1) := by decide +kernel
theorem dX11_init_86 : decode cX11_init 86 = .ok (.bipush 7, 2) := by decide +kernel
theorem dX11_init_88 : decode cX11_init 88 = .ok (.newarray .int, 2) := by decide +kernel
theorem dX11_init_90 : decode cX11_init 90 = .ok (.putfield 29, 3) := by decide +kernel
theorem dX11_init_93 : decode cX11_init 93 = .ok (.aload_n 0, 1) := by decide +kernel
theorem dX11_init_94 : decode cX11_init 94 = .ok (.iconst 1, 1) := by decide +kernel
theorem dX11_init_95 : decode cX11_init 95 = .ok (.putfield 32, 3) := by decide +kernel
theorem dX11_init_98 : decode cX11_init 98 = .ok (.aload_n 0, 1) := by decide +kernel
theorem dX11_init_99 : decode cX11_init 99 = .ok (.iconst (-1), 1) := by decide +kernel
theorem dX11_init_100 : decode cX11_init 100 = .ok (.putfield 36, 3) := by decide +kernel
theorem dX11_init_103 : decode cX11_init 103 = .ok (.return_, 1) := by decide +kernel
theorem dX11_thrown_0 : decode cX11_thrown 0 = .ok (.aload_n 0, 1) := by decide +kernel
theorem dX11_thrown_1 : decode cX11_thrown 1 = .ok (.getfield 39, 3) := by decide +kernel
theorem dX11_thrown_4 : decode cX11_thrown 4 = .ok (.ireturn, 1) := by decide +kernel
theorem dX11_refuse_0 : decode cX11_refuse 0 = .ok (.aload_n 0, 1) := by decide +kernel
theorem dX11_refuse_1 : decode cX11_refuse 1 = .ok (.iload_n 1, 1) := by decide +kernel
theorem dX11_refuse_2 : decode cX11_refuse 2 = .ok (.putfield 39, 3) := by decide +kernel
theorem dX11_refuse_5 : decode cX11_refuse 5 = .ok (.iconst 0, 1) := by decide +kernel
theorem dX11_refuse_6 : decode cX11_refuse 6 = .ok (.ireturn, 1) := by decide +kernel
theorem dX11_isIn_0 : decode cX11_isIn 0 = .ok (.lload_n 0, 1) := by decide +kernel
theorem dX11_isIn_1 : decode cX11_isIn 1 = .ok (.lload_n 2, 1) := by decide +kernel
theorem dX11_isIn_2 : decode cX11_isIn 2 = .ok (.lcmp, 1) := by decide +kernel
theorem dX11_isIn_3 : decode cX11_isIn 3 = .ok (.ifCond .lt 14, 3) := by decide +kernel
theorem dX11_isIn_6 : decode cX11_isIn 6 = .ok (.lload_n 0, 1) := by decide +kernel
theorem dX11_isIn_7 : decode cX11_isIn 7 = .ok (.lload 4, 2) := by decide +kernel
theorem dX11_isIn_9 : decode cX11_isIn 9 = .ok (.lcmp, 1) := by decide +kernel
theorem dX11_isIn_10 : decode cX11_isIn 10 = .ok (.ifCond .gt 7, 3) := by decide +kernel
theorem dX11_isIn_13 : decode cX11_isIn 13 = .ok (.iconst 1, 1) := by decide +kernel
theorem dX11_isIn_14 : decode cX11_isIn 14 = .ok (.goto 4, 3) := by decide +kernel
theorem dX11_isIn_17 : decode cX11_isIn 17 = .ok (.iconst 0, 1) := by decide +kernel
theorem dX11_isIn_18 : decode cX11_isIn 18 = .ok (.ireturn, 1) := by decide +kernel
theorem dX11_no_0 : decode cX11_no 0 = .ok (.aload_n 0, 1) := by decide +kernel
theorem dX11_no_1 : decode cX11_no 1 = .ok (.iload_n 1, 1) := by decide +kernel
theorem dX11_no_2 : decode cX11_no 2 = .ok (.ifCond .eq 7, 3) := by decide +kernel
theorem dX11_no_5 : decode cX11_no 5 = .ok (.iconst 0, 1) := by decide +kernel
theorem dX11_no_6 : decode cX11_no 6 = .ok (.goto 4, 3) := by decide +kernel
theorem dX11_no_9 : decode cX11_no 9 = .ok (.iload_n 2, 1) := by decide +kernel
theorem dX11_no_10 : decode cX11_no 10 = .ok (.putfield 39, 3) := by decide +kernel
theorem dX11_no_13 : decode cX11_no 13 = .ok (.iload_n 1, 1) := by decide +kernel
theorem dX11_no_14 : decode cX11_no 14 = .ok (.ifCond .ne 7, 3) := by decide +kernel
theorem dX11_no_17 : decode cX11_no 17 = .ok (.iconst 1, 1) := by decide +kernel
theorem dX11_no_18 : decode cX11_no 18 = .ok (.goto 4, 3) := by decide +kernel
theorem dX11_no_21 : decode cX11_no 21 = .ok (.iconst 0, 1) := by decide +kernel
theorem dX11_no_22 : decode cX11_no 22 = .ok (.ireturn, 1) := by decide +kernel
theorem dX11_many_0 : decode cX11_many 0 = .ok (.iconst 0, 1) := by decide +kernel
theorem dX11_many_1 : decode cX11_many 1 = .ok (.aload_n 0, 1) := by decide +kernel
theorem dX11_many_2 : decode cX11_many 2 = .ok (.getfield 10, 3) := by decide +kernel
theorem dX11_many_5 : decode cX11_many 5 = .ok (.invokeinterface 42 1, 5) := by decide +kernel
theorem dX11_many_10 : decode cX11_many 10 = .ok (.iconst 1, 1) := by decide +kernel
theorem dX11_many_11 : decode cX11_many 11 = .ok (.isub, 1) := by decide +kernel
theorem dX11_many_12 : decode cX11_many 12 = .ok (.invokestatic 48, 3) := by decide +kernel
theorem dX11_many_15 : decode cX11_many 15 = .ok (.ireturn, 1) := by decide +kernel
theorem dX11_isPlace_0 : decode cX11_isPlace 0 = .ok (.iload_n 1, 1) := by decide +kernel
theorem dX11_isPlace_1 : decode cX11_isPlace 1 = .ok (.i2l, 1) := by decide +kernel
theorem dX11_isPlace_2 : decode cX11_isPlace 2 = .ok (.lconst 0, 1) := by decide +kernel
theorem dX11_isPlace_3 : decode cX11_isPlace 3 = .ok (.aload_n 0, 1) := by decide +kernel
theorem dX11_isPlace_4 : decode cX11_isPlace 4 = .ok (.invokevirtual 54, 3) := by decide +kernel
theorem dX11_isPlace_7 : decode cX11_isPlace 7 = .ok (.iconst 1, 1) := by decide +kernel
theorem dX11_isPlace_8 : decode cX11_isPlace 8 = .ok (.isub, 1) := by decide +kernel
theorem dX11_isPlace_9 : decode cX11_isPlace 9 = .ok (.i2l, 1) := by decide +kernel
theorem dX11_isPlace_10 : decode cX11_isPlace 10 = .ok (.invokestatic 57, 3) := by decide +kernel
theorem dX11_isPlace_13 : decode cX11_isPlace 13 = .ok (.ireturn, 1) := by decide +kernel
theorem dX11_noPlace_0 : decode cX11_noPlace 0 = .ok (.aload_n 0, 1) := by decide +kernel
theorem dX11_noPlace_1 : decode cX11_noPlace 1 = .ok (.aload_n 0, 1) := by decide +kernel
theorem dX11_noPlace_2 : decode cX11_noPlace 2 = .ok (.iload_n 1, 1) := by decide +kernel
theorem dX11_noPlace_3 : decode cX11_noPlace 3 = .ok (.invokevirtual 61, 3) := by decide +kernel
theorem dX11_noPlace_6 : decode cX11_noPlace 6 = .ok (.iconst 1, 1) := by decide +kernel
theorem dX11_noPlace_7 : decode cX11_noPlace 7 = .ok (.invokevirtual 65, 3) := by decide +kernel
theorem dX11_noPlace_10 : decode cX11_noPlace 10 = .ok (.ireturn, 1) := by decide +kernel
theorem dX11_isJoint_0 : decode cX11_isJoint 0 = .ok (.aload_n 0, 1) := by decide +kernel
theorem dX11_isJoint_1 : decode cX11_isJoint 1 = .ok (.iconst 0, 1) := by decide +kernel
theorem dX11_isJoint_2 : decode cX11_isJoint 2 = .ok (.iaload, 1) := by decide +kernel
theorem dX11_isJoint_3 : decode cX11_isJoint 3 = .ok (.aload_n 0, 1) := by decide +kernel
theorem dX11_isJoint_4 : decode cX11_isJoint 4 = .ok (.iconst 2, 1) := by decide +kernel
theorem dX11_isJoint_5 : decode cX11_isJoint 5 = .ok (.iaload, 1) := by decide +kernel
theorem dX11_isJoint_6 : decode cX11_isJoint 6 = .ok (.if_icmp .ne 12, 3) := by decide +kernel
theorem dX11_isJoint_9 : decode cX11_isJoint 9 = .ok (.aload_n 0, 1) := by decide +kernel
theorem dX11_isJoint_10 : decode cX11_isJoint 10 = .ok (.iconst 1, 1) := by decide +kernel
theorem dX11_isJoint_11 : decode cX11_isJoint 11 = .ok (.iaload, 1) := by decide +kernel
theorem dX11_isJoint_12 : decode cX11_isJoint 12 = .ok (.aload_n 0, 1) := by decide +kernel
theorem dX11_isJoint_13 : decode cX11_isJoint 13 = .ok (.iconst 3, 1) := by decide +kernel
theorem dX11_isJoint_14 : decode cX11_isJoint 14 = .ok (.iaload, 1) := by decide +kernel
theorem dX11_isJoint_15 : decode cX11_isJoint 15 = .ok (.if_icmp .eq 7, 3) := by decide +kernel
theorem dX11_isJoint_18 : decode cX11_isJoint 18 = .ok (.iconst 1, 1) := by decide +kernel
theorem dX11_isJoint_19 : decode cX11_isJoint 19 = .ok (.goto 4, 3) := by decide +kernel
theorem dX11_isJoint_22 : decode cX11_isJoint 22 = .ok (.iconst 0, 1) := by decide +kernel
theorem dX11_isJoint_23 : decode cX11_isJoint 23 = .ok (.istore_n 1, 1) := by decide +kernel
theorem dX11_isJoint_24 : decode cX11_isJoint 24 = .ok (.aload_n 0, 1) := by decide +kernel
theorem dX11_isJoint_25 : decode cX11_isJoint 25 = .ok (.astore_n 2, 1) := by decide +kernel
theorem dX11_isJoint_26 : decode cX11_isJoint 26 = .ok (.aload_n 2, 1) := by decide +kernel
theorem dX11_isJoint_27 : decode cX11_isJoint 27 = .ok (.arraylength, 1) := by decide +kernel
theorem dX11_isJoint_28 : decode cX11_isJoint 28 = .ok (.istore_n 3, 1) := by decide +kernel
theorem dX11_isJoint_29 : decode cX11_isJoint 29 = .ok (.iconst 0, 1) := by decide +kernel
theorem dX11_isJoint_30 : decode cX11_isJoint 30 = .ok (.istore 4, 2) := by decide +kernel
theorem dX11_isJoint_32 : decode cX11_isJoint 32 = .ok (.iload 4, 2) := by decide +kernel
theorem dX11_isJoint_34 : decode cX11_isJoint 34 = .ok (.iload_n 3, 1) := by decide +kernel
theorem dX11_isJoint_35 : decode cX11_isJoint 35 = .ok (.if_icmp .ge 28, 3) := by decide +kernel
theorem dX11_isJoint_38 : decode cX11_isJoint 38 = .ok (.aload_n 2, 1) := by decide +kernel
theorem dX11_isJoint_39 : decode cX11_isJoint 39 = .ok (.iload 4, 2) := by decide +kernel
theorem dX11_isJoint_41 : decode cX11_isJoint 41 = .ok (.iaload, 1) := by decide +kernel
theorem dX11_isJoint_42 : decode cX11_isJoint 42 = .ok (.istore 5, 2) := by decide +kernel
theorem dX11_isJoint_44 : decode cX11_isJoint 44 = .ok (.iload_n 1, 1) := by decide +kernel
theorem dX11_isJoint_45 : decode cX11_isJoint 45 = .ok (.iload 5, 2) := by decide +kernel
theorem dX11_isJoint_47 : decode cX11_isJoint 47 = .ok (.i2l, 1) := by decide +kernel
theorem dX11_isJoint_48 : decode cX11_isJoint 48 = .ok (.lconst 0, 1) := by decide +kernel
theorem dX11_isJoint_49 : decode cX11_isJoint 49 = .ok (.ldc2_w 73, 3) := by decide +kernel
theorem dX11_isJoint_52 : decode cX11_isJoint 52 = .ok (.invokestatic 57, 3) := by decide +kernel
theorem dX11_isJoint_55 : decode cX11_isJoint 55 = .ok (.iand, 1) := by decide +kernel
theorem dX11_isJoint_56 : decode cX11_isJoint 56 = .ok (.istore_n 1, 1) := by decide +kernel
theorem dX11_isJoint_57 : decode cX11_isJoint 57 = .ok (.iinc 4 1, 3) := by decide +kernel
theorem dX11_isJoint_60 : decode cX11_isJoint 60 = .ok (.goto (-28), 3) := by decide +kernel
theorem dX11_isJoint_63 : decode cX11_isJoint 63 = .ok (.iload_n 1, 1) := by decide +kernel
theorem dX11_isJoint_64 : decode cX11_isJoint 64 = .ok (.ireturn, 1) := by decide +kernel
theorem dX11_standing_0 : decode cX11_standing 0 = .ok (.iconst 0, 1) := by decide +kernel
theorem dX11_standing_1 : decode cX11_standing 1 = .ok (.istore_n 1, 1) := by decide +kernel
theorem dX11_standing_2 : decode cX11_standing 2 = .ok (.aload_n 0, 1) := by decide +kernel
theorem dX11_standing_3 : decode cX11_standing 3 = .ok (.getfield 25, 3) := by decide +kernel
theorem dX11_standing_6 : decode cX11_standing 6 = .ok (.astore_n 2, 1) := by decide +kernel
theorem dX11_standing_7 : decode cX11_standing 7 = .ok (.aload_n 2, 1) := by decide +kernel
theorem dX11_standing_8 : decode cX11_standing 8 = .ok (.arraylength, 1) := by decide +kernel
theorem dX11_standing_9 : decode cX11_standing 9 = .ok (.istore_n 3, 1) := by decide +kernel
theorem dX11_standing_10 : decode cX11_standing 10 = .ok (.iconst 0, 1) := by decide +kernel
theorem dX11_standing_11 : decode cX11_standing 11 = .ok (.istore 4, 2) := by decide +kernel
theorem dX11_standing_13 : decode cX11_standing 13 = .ok (.iload 4, 2) := by decide +kernel
theorem dX11_standing_15 : decode cX11_standing 15 = .ok (.iload_n 3, 1) := by decide +kernel
theorem dX11_standing_16 : decode cX11_standing 16 = .ok (.if_icmp .ge 29, 3) := by decide +kernel
theorem dX11_standing_19 : decode cX11_standing 19 = .ok (.aload_n 2, 1) := by decide +kernel
theorem dX11_standing_20 : decode cX11_standing 20 = .ok (.iload 4, 2) := by decide +kernel
theorem dX11_standing_22 : decode cX11_standing 22 = .ok (.iaload, 1) := by decide +kernel
theorem dX11_standing_23 : decode cX11_standing 23 = .ok (.istore 5, 2) := by decide +kernel
theorem dX11_standing_25 : decode cX11_standing 25 = .ok (.iload_n 1, 1) := by decide +kernel
theorem dX11_standing_26 : decode cX11_standing 26 = .ok (.iload 5, 2) := by decide +kernel
theorem dX11_standing_28 : decode cX11_standing 28 = .ok (.iconst (-1), 1) := by decide +kernel
theorem dX11_standing_29 : decode cX11_standing 29 = .ok (.if_icmp .ne 7, 3) := by decide +kernel
theorem dX11_standing_32 : decode cX11_standing 32 = .ok (.iconst 0, 1) := by decide +kernel
theorem dX11_standing_33 : decode cX11_standing 33 = .ok (.goto 4, 3) := by decide +kernel
theorem dX11_standing_36 : decode cX11_standing 36 = .ok (.iconst 1, 1) := by decide +kernel
theorem dX11_standing_37 : decode cX11_standing 37 = .ok (.iadd, 1) := by decide +kernel
theorem dX11_standing_38 : decode cX11_standing 38 = .ok (.istore_n 1, 1) := by decide +kernel
theorem dX11_standing_39 : decode cX11_standing 39 = .ok (.iinc 4 1, 3) := by decide +kernel
theorem dX11_standing_42 : decode cX11_standing 42 = .ok (.goto (-29), 3) := by decide +kernel
theorem dX11_standing_45 : decode cX11_standing 45 = .ok (.iload_n 1, 1) := by decide +kernel
theorem dX11_standing_46 : decode cX11_standing 46 = .ok (.ireturn, 1) := by decide +kernel
theorem dX11_drawJoint_0 : decode cX11_drawJoint 0 = .ok (.iconst 4, 1) := by decide +kernel
theorem dX11_drawJoint_1 : decode cX11_drawJoint 1 = .ok (.newarray .int, 2) := by decide +kernel
theorem dX11_drawJoint_3 : decode cX11_drawJoint 3 = .ok (.dup, 1) := by decide +kernel
theorem dX11_drawJoint_4 : decode cX11_drawJoint 4 = .ok (.iconst 0, 1) := by decide +kernel
theorem dX11_drawJoint_5 : decode cX11_drawJoint 5 = .ok (.iload_n 1, 1) := by decide +kernel
theorem dX11_drawJoint_6 : decode cX11_drawJoint 6 = .ok (.iastore, 1) := by decide +kernel
theorem dX11_drawJoint_7 : decode cX11_drawJoint 7 = .ok (.dup, 1) := by decide +kernel
theorem dX11_drawJoint_8 : decode cX11_drawJoint 8 = .ok (.iconst 1, 1) := by decide +kernel
theorem dX11_drawJoint_9 : decode cX11_drawJoint 9 = .ok (.iload_n 2, 1) := by decide +kernel
theorem dX11_drawJoint_10 : decode cX11_drawJoint 10 = .ok (.iastore, 1) := by decide +kernel
theorem dX11_drawJoint_11 : decode cX11_drawJoint 11 = .ok (.dup, 1) := by decide +kernel
theorem dX11_drawJoint_12 : decode cX11_drawJoint 12 = .ok (.iconst 2, 1) := by decide +kernel
theorem dX11_drawJoint_13 : decode cX11_drawJoint 13 = .ok (.iload_n 3, 1) := by decide +kernel
theorem dX11_drawJoint_14 : decode cX11_drawJoint 14 = .ok (.iastore, 1) := by decide +kernel
theorem dX11_drawJoint_15 : decode cX11_drawJoint 15 = .ok (.dup, 1) := by decide +kernel
theorem dX11_drawJoint_16 : decode cX11_drawJoint 16 = .ok (.iconst 3, 1) := by decide +kernel
theorem dX11_drawJoint_17 : decode cX11_drawJoint 17 = .ok (.iload 4, 2) := by decide +kernel
theorem dX11_drawJoint_19 : decode cX11_drawJoint 19 = .ok (.iastore, 1) := by decide +kernel
theorem dX11_drawJoint_20 : decode cX11_drawJoint 20 = .ok (.astore 5, 2) := by decide +kernel
theorem dX11_drawJoint_22 : decode cX11_drawJoint 22 = .ok (.aload 5, 2) := by decide +kernel
theorem dX11_drawJoint_24 : decode cX11_drawJoint 24 = .ok (.invokestatic 75, 3) := by decide +kernel
theorem dX11_drawJoint_27 : decode cX11_drawJoint 27 = .ok (.ifCond .eq 50, 3) := by decide +kernel
theorem dX11_drawJoint_30 : decode cX11_drawJoint 30 = .ok (.aload_n 0, 1) := by decide +kernel
theorem dX11_drawJoint_31 : decode cX11_drawJoint 31 = .ok (.getfield 10, 3) := by decide +kernel
theorem dX11_drawJoint_34 : decode cX11_drawJoint 34 = .ok (.invokeinterface 79 1, 5) := by decide +kernel
theorem dX11_drawJoint_39 : decode cX11_drawJoint 39 = .ok (.ifCond .ne 34, 3) := by decide +kernel
theorem dX11_drawJoint_42 : decode cX11_drawJoint 42 = .ok (.aload_n 0, 1) := by decide +kernel
theorem dX11_drawJoint_43 : decode cX11_drawJoint 43 = .ok (.getfield 10, 3) := by decide +kernel
theorem dX11_drawJoint_46 : decode cX11_drawJoint 46 = .ok (.aload_n 0, 1) := by decide +kernel
theorem dX11_drawJoint_47 : decode cX11_drawJoint 47 = .ok (.getfield 10, 3) := by decide +kernel
theorem dX11_drawJoint_50 : decode cX11_drawJoint 50 = .ok (.invokeinterface 42 1, 5) := by decide +kernel
theorem dX11_drawJoint_55 : decode cX11_drawJoint 55 = .ok (.iconst 1, 1) := by decide +kernel
theorem dX11_drawJoint_56 : decode cX11_drawJoint 56 = .ok (.isub, 1) := by decide +kernel
theorem dX11_drawJoint_57 : decode cX11_drawJoint 57 = .ok (.invokeinterface 83 2, 5) := by decide +kernel
theorem dX11_drawJoint_62 : decode cX11_drawJoint 62 = .ok (.checkcast 87, 3) := by decide +kernel
theorem dX11_drawJoint_65 : decode cX11_drawJoint 65 = .ok (.aload 5, 2) := by decide +kernel
theorem dX11_drawJoint_67 : decode cX11_drawJoint 67 = .ok (.invokestatic 88, 3) := by decide +kernel
theorem dX11_drawJoint_70 : decode cX11_drawJoint 70 = .ok (.ifCond .eq 7, 3) := by decide +kernel
theorem dX11_drawJoint_73 : decode cX11_drawJoint 73 = .ok (.iconst 1, 1) := by decide +kernel
theorem dX11_drawJoint_74 : decode cX11_drawJoint 74 = .ok (.goto 4, 3) := by decide +kernel
theorem dX11_drawJoint_77 : decode cX11_drawJoint 77 = .ok (.iconst 0, 1) := by decide +kernel
theorem dX11_drawJoint_78 : decode cX11_drawJoint 78 = .ok (.istore 6, 2) := by decide +kernel
theorem dX11_drawJoint_80 : decode cX11_drawJoint 80 = .ok (.aload_n 0, 1) := by decide +kernel
theorem dX11_drawJoint_81 : decode cX11_drawJoint 81 = .ok (.iload 6, 2) := by decide +kernel
theorem dX11_drawJoint_83 : decode cX11_drawJoint 83 = .ok (.iconst 1, 1) := by decide +kernel
theorem dX11_drawJoint_84 : decode cX11_drawJoint 84 = .ok (.invokevirtual 65, 3) := by decide +kernel
theorem dX11_drawJoint_87 : decode cX11_drawJoint 87 = .ok (.ifCond .ne 50, 3) := by decide +kernel
theorem dX11_drawJoint_90 : decode cX11_drawJoint 90 = .ok (.aload_n 0, 1) := by decide +kernel
theorem dX11_drawJoint_91 : decode cX11_drawJoint 91 = .ok (.aload_n 0, 1) := by decide +kernel
theorem dX11_drawJoint_92 : decode cX11_drawJoint 92 = .ok (.invokevirtual 92, 3) := by decide +kernel
theorem dX11_drawJoint_95 : decode cX11_drawJoint 95 = .ok (.ifCond .ne 7, 3) := by decide +kernel
theorem dX11_drawJoint_98 : decode cX11_drawJoint 98 = .ok (.iconst 1, 1) := by decide +kernel
theorem dX11_drawJoint_99 : decode cX11_drawJoint 99 = .ok (.goto 4, 3) := by decide +kernel
theorem dX11_drawJoint_102 : decode cX11_drawJoint 102 = .ok (.iconst 0, 1) := by decide +kernel
theorem dX11_drawJoint_103 : decode cX11_drawJoint 103 = .ok (.iconst 2, 1) := by decide +kernel
theorem dX11_drawJoint_104 : decode cX11_drawJoint 104 = .ok (.invokevirtual 65, 3) := by decide +kernel
theorem dX11_drawJoint_107 : decode cX11_drawJoint 107 = .ok (.ifCond .ne 30, 3) := by decide +kernel
theorem dX11_drawJoint_110 : decode cX11_drawJoint 110 = .ok (.aload_n 0, 1) := by decide +kernel
theorem dX11_drawJoint_111 : decode cX11_drawJoint 111 = .ok (.aload_n 0, 1) := by decide +kernel
theorem dX11_drawJoint_112 : decode cX11_drawJoint 112 = .ok (.getfield 10, 3) := by decide +kernel
theorem dX11_drawJoint_115 : decode cX11_drawJoint 115 = .ok (.invokeinterface 42 1, 5) := by decide +kernel
theorem dX11_drawJoint_120 : decode cX11_drawJoint 120 = .ok (.bipush 8, 2) := by decide +kernel
theorem dX11_drawJoint_122 : decode cX11_drawJoint 122 = .ok (.if_icmp .ge 7, 3) := by decide +kernel
theorem dX11_drawJoint_125 : decode cX11_drawJoint 125 = .ok (.iconst 1, 1) := by decide +kernel
theorem dX11_drawJoint_126 : decode cX11_drawJoint 126 = .ok (.goto 4, 3) := by decide +kernel
theorem dX11_drawJoint_129 : decode cX11_drawJoint 129 = .ok (.iconst 0, 1) := by decide +kernel
theorem dX11_drawJoint_130 : decode cX11_drawJoint 130 = .ok (.iconst 3, 1) := by decide +kernel
theorem dX11_drawJoint_131 : decode cX11_drawJoint 131 = .ok (.invokevirtual 65, 3) := by decide +kernel
theorem dX11_drawJoint_134 : decode cX11_drawJoint 134 = .ok (.ifCond .eq 5, 3) := by decide +kernel
theorem dX11_drawJoint_137 : decode cX11_drawJoint 137 = .ok (.iconst 0, 1) := by decide +kernel
theorem dX11_drawJoint_138 : decode cX11_drawJoint 138 = .ok (.ireturn, 1) := by decide +kernel
theorem dX11_drawJoint_139 : decode cX11_drawJoint 139 = .ok (.aload_n 0, 1) := by decide +kernel
theorem dX11_drawJoint_140 : decode cX11_drawJoint 140 = .ok (.getfield 10, 3) := by decide +kernel
theorem dX11_drawJoint_143 : decode cX11_drawJoint 143 = .ok (.aload 5, 2) := by decide +kernel
theorem dX11_drawJoint_145 : decode cX11_drawJoint 145 = .ok (.invokeinterface 95 2, 5) := by decide +kernel
theorem dX11_drawJoint_150 : decode cX11_drawJoint 150 = .ok (.pop, 1) := by decide +kernel
theorem dX11_drawJoint_151 : decode cX11_drawJoint 151 = .ok (.aload_n 0, 1) := by decide +kernel
theorem dX11_drawJoint_152 : decode cX11_drawJoint 152 = .ok (.dup, 1) := by decide +kernel
theorem dX11_drawJoint_153 : decode cX11_drawJoint 153 = .ok (.getfield 99, 3) := by decide +kernel
theorem dX11_drawJoint_156 : decode cX11_drawJoint 156 = .ok (.iconst 1, 1) := by decide +kernel
theorem dX11_drawJoint_157 : decode cX11_drawJoint 157 = .ok (.iadd, 1) := by decide +kernel
theorem dX11_drawJoint_158 : decode cX11_drawJoint 158 = .ok (.putfield 99, 3) := by decide +kernel
theorem dX11_drawJoint_161 : decode cX11_drawJoint 161 = .ok (.aload_n 0, 1) := by decide +kernel
theorem dX11_drawJoint_162 : decode cX11_drawJoint 162 = .ok (.getfield 10, 3) := by decide +kernel
theorem dX11_drawJoint_165 : decode cX11_drawJoint 165 = .ok (.invokeinterface 42 1, 5) := by decide +kernel
theorem dX11_drawJoint_170 : decode cX11_drawJoint 170 = .ok (.iconst 1, 1) := by decide +kernel
theorem dX11_drawJoint_171 : decode cX11_drawJoint 171 = .ok (.isub, 1) := by decide +kernel
theorem dX11_drawJoint_172 : decode cX11_drawJoint 172 = .ok (.ireturn, 1) := by decide +kernel
theorem dX11_moveJoint_0 : decode cX11_moveJoint 0 = .ok (.aload_n 0, 1) := by decide +kernel
theorem dX11_moveJoint_1 : decode cX11_moveJoint 1 = .ok (.iload_n 1, 1) := by decide +kernel
theorem dX11_moveJoint_2 : decode cX11_moveJoint 2 = .ok (.i2l, 1) := by decide +kernel
theorem dX11_moveJoint_3 : decode cX11_moveJoint 3 = .ok (.lconst 0, 1) := by decide +kernel
theorem dX11_moveJoint_4 : decode cX11_moveJoint 4 = .ok (.aload_n 0, 1) := by decide +kernel
theorem dX11_moveJoint_5 : decode cX11_moveJoint 5 = .ok (.getfield 10, 3) := by decide +kernel
theorem dX11_moveJoint_8 : decode cX11_moveJoint 8 = .ok (.invokeinterface 42 1, 5) := by decide +kernel
theorem dX11_moveJoint_13 : decode cX11_moveJoint 13 = .ok (.iconst 1, 1) := by decide +kernel
theorem dX11_moveJoint_14 : decode cX11_moveJoint 14 = .ok (.isub, 1) := by decide +kernel
theorem dX11_moveJoint_15 : decode cX11_moveJoint 15 = .ok (.i2l, 1) := by decide +kernel
theorem dX11_moveJoint_16 : decode cX11_moveJoint 16 = .ok (.invokestatic 57, 3) := by decide +kernel
theorem dX11_moveJoint_19 : decode cX11_moveJoint 19 = .ok (.iconst 1, 1) := by decide +kernel
theorem dX11_moveJoint_20 : decode cX11_moveJoint 20 = .ok (.invokevirtual 65, 3) := by decide +kernel
theorem dX11_moveJoint_23 : decode cX11_moveJoint 23 = .ok (.ifCond .eq 5, 3) := by decide +kernel
theorem dX11_moveJoint_26 : decode cX11_moveJoint 26 = .ok (.iconst 0, 1) := by decide +kernel
theorem dX11_moveJoint_27 : decode cX11_moveJoint 27 = .ok (.ireturn, 1) := by decide +kernel
theorem dX11_moveJoint_28 : decode cX11_moveJoint 28 = .ok (.iconst 4, 1) := by decide +kernel
theorem dX11_moveJoint_29 : decode cX11_moveJoint 29 = .ok (.newarray .int, 2) := by decide +kernel
theorem dX11_moveJoint_31 : decode cX11_moveJoint 31 = .ok (.dup, 1) := by decide +kernel
theorem dX11_moveJoint_32 : decode cX11_moveJoint 32 = .ok (.iconst 0, 1) := by decide +kernel
theorem dX11_moveJoint_33 : decode cX11_moveJoint 33 = .ok (.iload_n 2, 1) := by decide +kernel
theorem dX11_moveJoint_34 : decode cX11_moveJoint 34 = .ok (.iastore, 1) := by decide +kernel
theorem dX11_moveJoint_35 : decode cX11_moveJoint 35 = .ok (.dup, 1) := by decide +kernel
theorem dX11_moveJoint_36 : decode cX11_moveJoint 36 = .ok (.iconst 1, 1) := by decide +kernel
theorem dX11_moveJoint_37 : decode cX11_moveJoint 37 = .ok (.iload_n 3, 1) := by decide +kernel
theorem dX11_moveJoint_38 : decode cX11_moveJoint 38 = .ok (.iastore, 1) := by decide +kernel
theorem dX11_moveJoint_39 : decode cX11_moveJoint 39 = .ok (.dup, 1) := by decide +kernel
theorem dX11_moveJoint_40 : decode cX11_moveJoint 40 = .ok (.iconst 2, 1) := by decide +kernel
theorem dX11_moveJoint_41 : decode cX11_moveJoint 41 = .ok (.iload 4, 2) := by decide +kernel
theorem dX11_moveJoint_43 : decode cX11_moveJoint 43 = .ok (.iastore, 1) := by decide +kernel
theorem dX11_moveJoint_44 : decode cX11_moveJoint 44 = .ok (.dup, 1) := by decide +kernel
theorem dX11_moveJoint_45 : decode cX11_moveJoint 45 = .ok (.iconst 3, 1) := by decide +kernel
theorem dX11_moveJoint_46 : decode cX11_moveJoint 46 = .ok (.iload 5, 2) := by decide +kernel
theorem dX11_moveJoint_48 : decode cX11_moveJoint 48 = .ok (.iastore, 1) := by decide +kernel
theorem dX11_moveJoint_49 : decode cX11_moveJoint 49 = .ok (.astore 6, 2) := by decide +kernel
theorem dX11_moveJoint_51 : decode cX11_moveJoint 51 = .ok (.aload 6, 2) := by decide +kernel
theorem dX11_moveJoint_53 : decode cX11_moveJoint 53 = .ok (.invokestatic 75, 3) := by decide +kernel
theorem dX11_moveJoint_56 : decode cX11_moveJoint 56 = .ok (.istore 7, 2) := by decide +kernel
theorem dX11_moveJoint_58 : decode cX11_moveJoint 58 = .ok (.iload 7, 2) := by decide +kernel
theorem dX11_moveJoint_60 : decode cX11_moveJoint 60 = .ok (.ifCond .eq 29, 3) := by decide +kernel
theorem dX11_moveJoint_63 : decode cX11_moveJoint 63 = .ok (.iload_n 1, 1) := by decide +kernel
theorem dX11_moveJoint_64 : decode cX11_moveJoint 64 = .ok (.ifCond .le 25, 3) := by decide +kernel
theorem dX11_moveJoint_67 : decode cX11_moveJoint 67 = .ok (.aload_n 0, 1) := by decide +kernel
theorem dX11_moveJoint_68 : decode cX11_moveJoint 68 = .ok (.getfield 10, 3) := by decide +kernel
theorem dX11_moveJoint_71 : decode cX11_moveJoint 71 = .ok (.iload_n 1, 1) := by decide +kernel
theorem dX11_moveJoint_72 : decode cX11_moveJoint 72 = .ok (.iconst 1, 1) := by decide +kernel
theorem dX11_moveJoint_73 : decode cX11_moveJoint 73 = .ok (.isub, 1) := by decide +kernel
theorem dX11_moveJoint_74 : decode cX11_moveJoint 74 = .ok (.invokeinterface 83 2, 5) := by decide +kernel
theorem dX11_moveJoint_79 : decode cX11_moveJoint 79 = .ok (.checkcast 87, 3) := by decide +kernel
theorem dX11_moveJoint_82 : decode cX11_moveJoint 82 = .ok (.aload 6, 2) := by decide +kernel
theorem dX11_moveJoint_84 : decode cX11_moveJoint 84 = .ok (.invokestatic 88, 3) := by decide +kernel
theorem dX11_moveJoint_87 : decode cX11_moveJoint 87 = .ok (.istore 7, 2) := by decide +kernel
theorem dX11_moveJoint_89 : decode cX11_moveJoint 89 = .ok (.iload 7, 2) := by decide +kernel
theorem dX11_moveJoint_91 : decode cX11_moveJoint 91 = .ok (.ifCond .eq 40, 3) := by decide +kernel
theorem dX11_moveJoint_94 : decode cX11_moveJoint 94 = .ok (.iload_n 1, 1) := by decide +kernel
theorem dX11_moveJoint_95 : decode cX11_moveJoint 95 = .ok (.iconst 1, 1) := by decide +kernel
theorem dX11_moveJoint_96 : decode cX11_moveJoint 96 = .ok (.iadd, 1) := by decide +kernel
theorem dX11_moveJoint_97 : decode cX11_moveJoint 97 = .ok (.aload_n 0, 1) := by decide +kernel
theorem dX11_moveJoint_98 : decode cX11_moveJoint 98 = .ok (.getfield 10, 3) := by decide +kernel
theorem dX11_moveJoint_101 : decode cX11_moveJoint 101 = .ok (.invokeinterface 42 1, 5) := by decide +kernel
theorem dX11_moveJoint_106 : decode cX11_moveJoint 106 = .ok (.if_icmp .ge 25, 3) := by decide +kernel
theorem dX11_moveJoint_109 : decode cX11_moveJoint 109 = .ok (.aload 6, 2) := by decide +kernel
theorem dX11_moveJoint_111 : decode cX11_moveJoint 111 = .ok (.aload_n 0, 1) := by decide +kernel
theorem dX11_moveJoint_112 : decode cX11_moveJoint 112 = .ok (.getfield 10, 3) := by decide +kernel
theorem dX11_moveJoint_115 : decode cX11_moveJoint 115 = .ok (.iload_n 1, 1) := by decide +kernel
theorem dX11_moveJoint_116 : decode cX11_moveJoint 116 = .ok (.iconst 1, 1) := by decide +kernel
theorem dX11_moveJoint_117 : decode cX11_moveJoint 117 = .ok (.iadd, 1) := by decide +kernel
theorem dX11_moveJoint_118 : decode cX11_moveJoint 118 = .ok (.invokeinterface 83 2, 5) := by decide +kernel
theorem dX11_moveJoint_123 : decode cX11_moveJoint 123 = .ok (.checkcast 87, 3) := by decide +kernel
theorem dX11_moveJoint_126 : decode cX11_moveJoint 126 = .ok (.invokestatic 88, 3) := by decide +kernel
theorem dX11_moveJoint_129 : decode cX11_moveJoint 129 = .ok (.istore 7, 2) := by decide +kernel
theorem dX11_moveJoint_131 : decode cX11_moveJoint 131 = .ok (.iload_n 1, 1) := by decide +kernel
theorem dX11_moveJoint_132 : decode cX11_moveJoint 132 = .ok (.ifCond .eq 15, 3) := by decide +kernel
theorem dX11_moveJoint_135 : decode cX11_moveJoint 135 = .ok (.aload_n 0, 1) := by decide +kernel
theorem dX11_moveJoint_136 : decode cX11_moveJoint 136 = .ok (.getfield 25, 3) := by decide +kernel
theorem dX11_moveJoint_139 : decode cX11_moveJoint 139 = .ok (.iload_n 1, 1) := by decide +kernel
theorem dX11_moveJoint_140 : decode cX11_moveJoint 140 = .ok (.iconst 1, 1) := by decide +kernel
theorem dX11_moveJoint_141 : decode cX11_moveJoint 141 = .ok (.isub, 1) := by decide +kernel
theorem dX11_moveJoint_142 : decode cX11_moveJoint 142 = .ok (.iaload, 1) := by decide +kernel
theorem dX11_moveJoint_143 : decode cX11_moveJoint 143 = .ok (.iconst (-1), 1) := by decide +kernel
theorem dX11_moveJoint_144 : decode cX11_moveJoint 144 = .ok (.if_icmp .ne 32, 3) := by decide +kernel
theorem dX11_moveJoint_147 : decode cX11_moveJoint 147 = .ok (.iload_n 1, 1) := by decide +kernel
theorem dX11_moveJoint_148 : decode cX11_moveJoint 148 = .ok (.iconst 1, 1) := by decide +kernel
theorem dX11_moveJoint_149 : decode cX11_moveJoint 149 = .ok (.iadd, 1) := by decide +kernel
theorem dX11_moveJoint_150 : decode cX11_moveJoint 150 = .ok (.aload_n 0, 1) := by decide +kernel
theorem dX11_moveJoint_151 : decode cX11_moveJoint 151 = .ok (.getfield 10, 3) := by decide +kernel
theorem dX11_moveJoint_154 : decode cX11_moveJoint 154 = .ok (.invokeinterface 42 1, 5) := by decide +kernel
theorem dX11_moveJoint_159 : decode cX11_moveJoint 159 = .ok (.if_icmp .ge 13, 3) := by decide +kernel
theorem dX11_moveJoint_162 : decode cX11_moveJoint 162 = .ok (.aload_n 0, 1) := by decide +kernel
theorem dX11_moveJoint_163 : decode cX11_moveJoint 163 = .ok (.getfield 25, 3) := by decide +kernel
theorem dX11_moveJoint_166 : decode cX11_moveJoint 166 = .ok (.iload_n 1, 1) := by decide +kernel
theorem dX11_moveJoint_167 : decode cX11_moveJoint 167 = .ok (.iaload, 1) := by decide +kernel
theorem dX11_moveJoint_168 : decode cX11_moveJoint 168 = .ok (.iconst (-1), 1) := by decide +kernel
theorem dX11_moveJoint_169 : decode cX11_moveJoint 169 = .ok (.if_icmp .ne 7, 3) := by decide +kernel
theorem dX11_moveJoint_172 : decode cX11_moveJoint 172 = .ok (.iconst 1, 1) := by decide +kernel
theorem dX11_moveJoint_173 : decode cX11_moveJoint 173 = .ok (.goto 4, 3) := by decide +kernel
theorem dX11_moveJoint_176 : decode cX11_moveJoint 176 = .ok (.iconst 0, 1) := by decide +kernel
theorem dX11_moveJoint_177 : decode cX11_moveJoint 177 = .ok (.istore 8, 2) := by decide +kernel
theorem dX11_moveJoint_179 : decode cX11_moveJoint 179 = .ok (.aload_n 0, 1) := by decide +kernel
theorem dX11_moveJoint_180 : decode cX11_moveJoint 180 = .ok (.iload 7, 2) := by decide +kernel
theorem dX11_moveJoint_182 : decode cX11_moveJoint 182 = .ok (.iconst 2, 1) := by decide +kernel
theorem dX11_moveJoint_183 : decode cX11_moveJoint 183 = .ok (.invokevirtual 65, 3) := by decide +kernel
theorem dX11_moveJoint_186 : decode cX11_moveJoint 186 = .ok (.ifCond .ne 13, 3) := by decide +kernel
theorem dX11_moveJoint_189 : decode cX11_moveJoint 189 = .ok (.aload_n 0, 1) := by decide +kernel
theorem dX11_moveJoint_190 : decode cX11_moveJoint 190 = .ok (.iload 8, 2) := by decide +kernel
theorem dX11_moveJoint_192 : decode cX11_moveJoint 192 = .ok (.iconst 3, 1) := by decide +kernel
theorem dX11_moveJoint_193 : decode cX11_moveJoint 193 = .ok (.invokevirtual 65, 3) := by decide +kernel
theorem dX11_moveJoint_196 : decode cX11_moveJoint 196 = .ok (.ifCond .eq 5, 3) := by decide +kernel
theorem dX11_moveJoint_199 : decode cX11_moveJoint 199 = .ok (.iconst 0, 1) := by decide +kernel
theorem dX11_moveJoint_200 : decode cX11_moveJoint 200 = .ok (.ireturn, 1) := by decide +kernel
theorem dX11_moveJoint_201 : decode cX11_moveJoint 201 = .ok (.aload_n 0, 1) := by decide +kernel
theorem dX11_moveJoint_202 : decode cX11_moveJoint 202 = .ok (.getfield 10, 3) := by decide +kernel
theorem dX11_moveJoint_205 : decode cX11_moveJoint 205 = .ok (.iload_n 1, 1) := by decide +kernel
theorem dX11_moveJoint_206 : decode cX11_moveJoint 206 = .ok (.aload 6, 2) := by decide +kernel
theorem dX11_moveJoint_208 : decode cX11_moveJoint 208 = .ok (.invokeinterface 102 3, 5) := by decide +kernel
theorem dX11_moveJoint_213 : decode cX11_moveJoint 213 = .ok (.pop, 1) := by decide +kernel
theorem dX11_moveJoint_214 : decode cX11_moveJoint 214 = .ok (.aload_n 0, 1) := by decide +kernel
theorem dX11_moveJoint_215 : decode cX11_moveJoint 215 = .ok (.dup, 1) := by decide +kernel
theorem dX11_moveJoint_216 : decode cX11_moveJoint 216 = .ok (.getfield 99, 3) := by decide +kernel
theorem dX11_moveJoint_219 : decode cX11_moveJoint 219 = .ok (.iconst 1, 1) := by decide +kernel
theorem dX11_moveJoint_220 : decode cX11_moveJoint 220 = .ok (.iadd, 1) := by decide +kernel
theorem dX11_moveJoint_221 : decode cX11_moveJoint 221 = .ok (.dup_x1, 1) := by decide +kernel
theorem dX11_moveJoint_222 : decode cX11_moveJoint 222 = .ok (.putfield 99, 3) := by decide +kernel
theorem dX11_moveJoint_225 : decode cX11_moveJoint 225 = .ok (.ireturn, 1) := by decide +kernel
theorem dX11_setDensity_0 : decode cX11_setDensity 0 = .ok (.aload_n 0, 1) := by decide +kernel
theorem dX11_setDensity_1 : decode cX11_setDensity 1 = .ok (.iload_n 1, 1) := by decide +kernel
theorem dX11_setDensity_2 : decode cX11_setDensity 2 = .ok (.i2l, 1) := by decide +kernel
theorem dX11_setDensity_3 : decode cX11_setDensity 3 = .ok (.lconst 1, 1) := by decide +kernel
theorem dX11_setDensity_4 : decode cX11_setDensity 4 = .ok (.ldc2_w 106, 3) := by decide +kernel
theorem dX11_setDensity_7 : decode cX11_setDensity 7 = .ok (.invokestatic 57, 3) := by decide +kernel
theorem dX11_setDensity_10 : decode cX11_setDensity 10 = .ok (.iconst 1, 1) := by decide +kernel
theorem dX11_setDensity_11 : decode cX11_setDensity 11 = .ok (.invokevirtual 65, 3) := by decide +kernel
theorem dX11_setDensity_14 : decode cX11_setDensity 14 = .ok (.ifCond .ne 23, 3) := by decide +kernel
theorem dX11_setDensity_17 : decode cX11_setDensity 17 = .ok (.aload_n 0, 1) := by decide +kernel
theorem dX11_setDensity_18 : decode cX11_setDensity 18 = .ok (.aload_n 0, 1) := by decide +kernel
theorem dX11_setDensity_19 : decode cX11_setDensity 19 = .ok (.invokevirtual 92, 3) := by decide +kernel
theorem dX11_setDensity_22 : decode cX11_setDensity 22 = .ok (.ifCond .ne 7, 3) := by decide +kernel
theorem dX11_setDensity_25 : decode cX11_setDensity 25 = .ok (.iconst 1, 1) := by decide +kernel
theorem dX11_setDensity_26 : decode cX11_setDensity 26 = .ok (.goto 4, 3) := by decide +kernel
theorem dX11_setDensity_29 : decode cX11_setDensity 29 = .ok (.iconst 0, 1) := by decide +kernel
theorem dX11_setDensity_30 : decode cX11_setDensity 30 = .ok (.iconst 2, 1) := by decide +kernel
theorem dX11_setDensity_31 : decode cX11_setDensity 31 = .ok (.invokevirtual 65, 3) := by decide +kernel
theorem dX11_setDensity_34 : decode cX11_setDensity 34 = .ok (.ifCond .eq 5, 3) := by decide +kernel
theorem dX11_setDensity_37 : decode cX11_setDensity 37 = .ok (.iconst 0, 1) := by decide +kernel
theorem dX11_setDensity_38 : decode cX11_setDensity 38 = .ok (.ireturn, 1) := by decide +kernel
theorem dX11_setDensity_39 : decode cX11_setDensity 39 = .ok (.aload_n 0, 1) := by decide +kernel
theorem dX11_setDensity_40 : decode cX11_setDensity 40 = .ok (.getfield 32, 3) := by decide +kernel
theorem dX11_setDensity_43 : decode cX11_setDensity 43 = .ok (.istore_n 2, 1) := by decide +kernel
theorem dX11_setDensity_44 : decode cX11_setDensity 44 = .ok (.aload_n 0, 1) := by decide +kernel
theorem dX11_setDensity_45 : decode cX11_setDensity 45 = .ok (.iload_n 1, 1) := by decide +kernel
theorem dX11_setDensity_46 : decode cX11_setDensity 46 = .ok (.putfield 32, 3) := by decide +kernel
theorem dX11_setDensity_49 : decode cX11_setDensity 49 = .ok (.iload_n 2, 1) := by decide +kernel
theorem dX11_setDensity_50 : decode cX11_setDensity 50 = .ok (.ireturn, 1) := by decide +kernel
theorem dX11_places_0 : decode cX11_places 0 = .ok (.aload_n 0, 1) := by decide +kernel
theorem dX11_places_1 : decode cX11_places 1 = .ok (.invokevirtual 54, 3) := by decide +kernel
theorem dX11_places_4 : decode cX11_places 4 = .ok (.ireturn, 1) := by decide +kernel
theorem dX11_area_0 : decode cX11_area 0 = .ok (.aload_n 0, 1) := by decide +kernel
theorem dX11_area_1 : decode cX11_area 1 = .ok (.iload_n 1, 1) := by decide +kernel
theorem dX11_area_2 : decode cX11_area 2 = .ok (.invokevirtual 116, 3) := by decide +kernel
theorem dX11_area_5 : decode cX11_area 5 = .ok (.ifCond .eq 7, 3) := by decide +kernel
theorem dX11_area_8 : decode cX11_area 8 = .ok (.iconst 0, 1) := by decide +kernel
theorem dX11_area_9 : decode cX11_area 9 = .ok (.goto 8, 3) := by decide +kernel
theorem dX11_area_12 : decode cX11_area 12 = .ok (.aload_n 0, 1) := by decide +kernel
theorem dX11_area_13 : decode cX11_area 13 = .ok (.iload_n 1, 1) := by decide +kernel
theorem dX11_area_14 : decode cX11_area 14 = .ok (.invokevirtual 112, 3) := by decide +kernel
theorem dX11_area_17 : decode cX11_area 17 = .ok (.ireturn, 1) := by decide +kernel
theorem dX11_weight_0 : decode cX11_weight 0 = .ok (.aload_n 0, 1) := by decide +kernel
theorem dX11_weight_1 : decode cX11_weight 1 = .ok (.iload_n 1, 1) := by decide +kernel
theorem dX11_weight_2 : decode cX11_weight 2 = .ok (.invokevirtual 116, 3) := by decide +kernel
theorem dX11_weight_5 : decode cX11_weight 5 = .ok (.ifCond .eq 7, 3) := by decide +kernel
theorem dX11_weight_8 : decode cX11_weight 8 = .ok (.iconst 0, 1) := by decide +kernel
theorem dX11_weight_9 : decode cX11_weight 9 = .ok (.goto 8, 3) := by decide +kernel
theorem dX11_weight_12 : decode cX11_weight 12 = .ok (.aload_n 0, 1) := by decide +kernel
theorem dX11_weight_13 : decode cX11_weight 13 = .ok (.iload_n 1, 1) := by decide +kernel
theorem dX11_weight_14 : decode cX11_weight 14 = .ok (.invokevirtual 119, 3) := by decide +kernel
theorem dX11_weight_17 : decode cX11_weight 17 = .ok (.ireturn, 1) := by decide +kernel
theorem dX11_isGrip_0 : decode cX11_isGrip 0 = .ok (.iload_n 1, 1) := by decide +kernel
theorem dX11_isGrip_1 : decode cX11_isGrip 1 = .ok (.i2l, 1) := by decide +kernel
theorem dX11_isGrip_2 : decode cX11_isGrip 2 = .ok (.lconst 0, 1) := by decide +kernel
theorem dX11_isGrip_3 : decode cX11_isGrip 3 = .ok (.ldc2_w 122, 3) := by decide +kernel
theorem dX11_isGrip_6 : decode cX11_isGrip 6 = .ok (.invokestatic 57, 3) := by decide +kernel
theorem dX11_isGrip_9 : decode cX11_isGrip 9 = .ok (.ireturn, 1) := by decide +kernel
theorem dX11_isSafe_0 : decode cX11_isSafe 0 = .ok (.aload_n 0, 1) := by decide +kernel
theorem dX11_isSafe_1 : decode cX11_isSafe 1 = .ok (.aload_n 0, 1) := by decide +kernel
theorem dX11_isSafe_2 : decode cX11_isSafe 2 = .ok (.iload_n 1, 1) := by decide +kernel
theorem dX11_isSafe_3 : decode cX11_isSafe 3 = .ok (.invokevirtual 161, 3) := by decide +kernel
theorem dX11_isSafe_6 : decode cX11_isSafe 6 = .ok (.iconst 1, 1) := by decide +kernel
theorem dX11_isSafe_7 : decode cX11_isSafe 7 = .ok (.invokevirtual 65, 3) := by decide +kernel
theorem dX11_isSafe_10 : decode cX11_isSafe 10 = .ok (.ifCond .ne 36, 3) := by decide +kernel
theorem dX11_isSafe_13 : decode cX11_isSafe 13 = .ok (.aload_n 0, 1) := by decide +kernel
theorem dX11_isSafe_14 : decode cX11_isSafe 14 = .ok (.aload_n 0, 1) := by decide +kernel
theorem dX11_isSafe_15 : decode cX11_isSafe 15 = .ok (.invokevirtual 54, 3) := by decide +kernel
theorem dX11_isSafe_18 : decode cX11_isSafe 18 = .ok (.iconst 2, 1) := by decide +kernel
theorem dX11_isSafe_19 : decode cX11_isSafe 19 = .ok (.if_icmp .lt 7, 3) := by decide +kernel
theorem dX11_isSafe_22 : decode cX11_isSafe 22 = .ok (.iconst 1, 1) := by decide +kernel
theorem dX11_isSafe_23 : decode cX11_isSafe 23 = .ok (.goto 4, 3) := by decide +kernel
theorem dX11_isSafe_26 : decode cX11_isSafe 26 = .ok (.iconst 0, 1) := by decide +kernel
theorem dX11_isSafe_27 : decode cX11_isSafe 27 = .ok (.iconst 2, 1) := by decide +kernel
theorem dX11_isSafe_28 : decode cX11_isSafe 28 = .ok (.invokevirtual 65, 3) := by decide +kernel
theorem dX11_isSafe_31 : decode cX11_isSafe 31 = .ok (.ifCond .ne 15, 3) := by decide +kernel
theorem dX11_isSafe_34 : decode cX11_isSafe 34 = .ok (.aload_n 0, 1) := by decide +kernel
theorem dX11_isSafe_35 : decode cX11_isSafe 35 = .ok (.iload_n 1, 1) := by decide +kernel
theorem dX11_isSafe_36 : decode cX11_isSafe 36 = .ok (.invokevirtual 164, 3) := by decide +kernel
theorem dX11_isSafe_39 : decode cX11_isSafe 39 = .ok (.ifnull 7, 3) := by decide +kernel
theorem dX11_isSafe_42 : decode cX11_isSafe 42 = .ok (.iconst 1, 1) := by decide +kernel
theorem dX11_isSafe_43 : decode cX11_isSafe 43 = .ok (.goto 4, 3) := by decide +kernel
theorem dX11_isSafe_46 : decode cX11_isSafe 46 = .ok (.iconst 0, 1) := by decide +kernel
theorem dX11_isSafe_47 : decode cX11_isSafe 47 = .ok (.ireturn, 1) := by decide +kernel
theorem dX11_thrust_0 : decode cX11_thrust 0 = .ok (.aload_n 0, 1) := by decide +kernel
theorem dX11_thrust_1 : decode cX11_thrust 1 = .ok (.aload_n 0, 1) := by decide +kernel
theorem dX11_thrust_2 : decode cX11_thrust 2 = .ok (.iload_n 1, 1) := by decide +kernel
theorem dX11_thrust_3 : decode cX11_thrust 3 = .ok (.invokevirtual 161, 3) := by decide +kernel
theorem dX11_thrust_6 : decode cX11_thrust 6 = .ok (.iconst 1, 1) := by decide +kernel
theorem dX11_thrust_7 : decode cX11_thrust 7 = .ok (.invokevirtual 65, 3) := by decide +kernel
theorem dX11_thrust_10 : decode cX11_thrust 10 = .ok (.ifCond .ne 24, 3) := by decide +kernel
theorem dX11_thrust_13 : decode cX11_thrust 13 = .ok (.aload_n 0, 1) := by decide +kernel
theorem dX11_thrust_14 : decode cX11_thrust 14 = .ok (.aload_n 0, 1) := by decide +kernel
theorem dX11_thrust_15 : decode cX11_thrust 15 = .ok (.invokevirtual 54, 3) := by decide +kernel
theorem dX11_thrust_18 : decode cX11_thrust 18 = .ok (.iconst 2, 1) := by decide +kernel
theorem dX11_thrust_19 : decode cX11_thrust 19 = .ok (.if_icmp .lt 7, 3) := by decide +kernel
theorem dX11_thrust_22 : decode cX11_thrust 22 = .ok (.iconst 1, 1) := by decide +kernel
theorem dX11_thrust_23 : decode cX11_thrust 23 = .ok (.goto 4, 3) := by decide +kernel
theorem dX11_thrust_26 : decode cX11_thrust 26 = .ok (.iconst 0, 1) := by decide +kernel
theorem dX11_thrust_27 : decode cX11_thrust 27 = .ok (.iconst 2, 1) := by decide +kernel
theorem dX11_thrust_28 : decode cX11_thrust 28 = .ok (.invokevirtual 65, 3) := by decide +kernel
theorem dX11_thrust_31 : decode cX11_thrust 31 = .ok (.ifCond .eq 5, 3) := by decide +kernel
theorem dX11_thrust_34 : decode cX11_thrust 34 = .ok (.lconst 0, 1) := by decide +kernel
theorem dX11_thrust_35 : decode cX11_thrust 35 = .ok (.lreturn, 1) := by decide +kernel
theorem dX11_thrust_36 : decode cX11_thrust 36 = .ok (.aload_n 0, 1) := by decide +kernel
theorem dX11_thrust_37 : decode cX11_thrust 37 = .ok (.iload_n 1, 1) := by decide +kernel
theorem dX11_thrust_38 : decode cX11_thrust 38 = .ok (.invokevirtual 164, 3) := by decide +kernel
theorem dX11_thrust_41 : decode cX11_thrust 41 = .ok (.astore_n 2, 1) := by decide +kernel
theorem dX11_thrust_42 : decode cX11_thrust 42 = .ok (.aload_n 0, 1) := by decide +kernel
theorem dX11_thrust_43 : decode cX11_thrust 43 = .ok (.aload_n 2, 1) := by decide +kernel
theorem dX11_thrust_44 : decode cX11_thrust 44 = .ok (.ifnull 7, 3) := by decide +kernel
theorem dX11_thrust_47 : decode cX11_thrust 47 = .ok (.iconst 1, 1) := by decide +kernel
theorem dX11_thrust_48 : decode cX11_thrust 48 = .ok (.goto 4, 3) := by decide +kernel
theorem dX11_thrust_51 : decode cX11_thrust 51 = .ok (.iconst 0, 1) := by decide +kernel
theorem dX11_thrust_52 : decode cX11_thrust 52 = .ok (.iconst 2, 1) := by decide +kernel
theorem dX11_thrust_53 : decode cX11_thrust 53 = .ok (.invokevirtual 65, 3) := by decide +kernel
theorem dX11_thrust_56 : decode cX11_thrust 56 = .ok (.ifCond .eq 7, 3) := by decide +kernel
theorem dX11_thrust_59 : decode cX11_thrust 59 = .ok (.lconst 0, 1) := by decide +kernel
theorem dX11_thrust_60 : decode cX11_thrust 60 = .ok (.goto 7, 3) := by decide +kernel
theorem dX11_thrust_63 : decode cX11_thrust 63 = .ok (.aload_n 2, 1) := by decide +kernel
theorem dX11_thrust_64 : decode cX11_thrust 64 = .ok (.invokestatic 172, 3) := by decide +kernel
theorem dX11_thrust_67 : decode cX11_thrust 67 = .ok (.lreturn, 1) := by decide +kernel
theorem dX11_bears_0 : decode cX11_bears 0 = .ok (.aload_n 0, 1) := by decide +kernel
theorem dX11_bears_1 : decode cX11_bears 1 = .ok (.iload_n 1, 1) := by decide +kernel
theorem dX11_bears_2 : decode cX11_bears 2 = .ok (.invokevirtual 116, 3) := by decide +kernel
theorem dX11_bears_5 : decode cX11_bears 5 = .ok (.ifCond .ne 47, 3) := by decide +kernel
theorem dX11_bears_8 : decode cX11_bears 8 = .ok (.aload_n 0, 1) := by decide +kernel
theorem dX11_bears_9 : decode cX11_bears 9 = .ok (.aload_n 0, 1) := by decide +kernel
theorem dX11_bears_10 : decode cX11_bears 10 = .ok (.iload_n 2, 1) := by decide +kernel
theorem dX11_bears_11 : decode cX11_bears 11 = .ok (.invokevirtual 161, 3) := by decide +kernel
theorem dX11_bears_14 : decode cX11_bears 14 = .ok (.iconst 2, 1) := by decide +kernel
theorem dX11_bears_15 : decode cX11_bears 15 = .ok (.invokevirtual 65, 3) := by decide +kernel
theorem dX11_bears_18 : decode cX11_bears 18 = .ok (.ifCond .ne 34, 3) := by decide +kernel
theorem dX11_bears_21 : decode cX11_bears 21 = .ok (.aload_n 0, 1) := by decide +kernel
theorem dX11_bears_22 : decode cX11_bears 22 = .ok (.aload_n 0, 1) := by decide +kernel
theorem dX11_bears_23 : decode cX11_bears 23 = .ok (.invokevirtual 54, 3) := by decide +kernel
theorem dX11_bears_26 : decode cX11_bears 26 = .ok (.iconst 2, 1) := by decide +kernel
theorem dX11_bears_27 : decode cX11_bears 27 = .ok (.if_icmp .lt 17, 3) := by decide +kernel
theorem dX11_bears_30 : decode cX11_bears 30 = .ok (.aload_n 0, 1) := by decide +kernel
theorem dX11_bears_31 : decode cX11_bears 31 = .ok (.iload_n 1, 1) := by decide +kernel
theorem dX11_bears_32 : decode cX11_bears 32 = .ok (.iconst 0, 1) := by decide +kernel
theorem dX11_bears_33 : decode cX11_bears 33 = .ok (.iload_n 2, 1) := by decide +kernel
theorem dX11_bears_34 : decode cX11_bears 34 = .ok (.invokevirtual 176, 3) := by decide +kernel
theorem dX11_bears_37 : decode cX11_bears 37 = .ok (.ifCond .eq 7, 3) := by decide +kernel
theorem dX11_bears_40 : decode cX11_bears 40 = .ok (.iconst 1, 1) := by decide +kernel
theorem dX11_bears_41 : decode cX11_bears 41 = .ok (.goto 4, 3) := by decide +kernel
theorem dX11_bears_44 : decode cX11_bears 44 = .ok (.iconst 0, 1) := by decide +kernel
theorem dX11_bears_45 : decode cX11_bears 45 = .ok (.iconst 3, 1) := by decide +kernel
theorem dX11_bears_46 : decode cX11_bears 46 = .ok (.invokevirtual 65, 3) := by decide +kernel
theorem dX11_bears_49 : decode cX11_bears 49 = .ok (.ifCond .eq 5, 3) := by decide +kernel
theorem dX11_bears_52 : decode cX11_bears 52 = .ok (.iconst 0, 1) := by decide +kernel
theorem dX11_bears_53 : decode cX11_bears 53 = .ok (.ireturn, 1) := by decide +kernel
theorem dX11_bears_54 : decode cX11_bears 54 = .ok (.iconst 0, 1) := by decide +kernel
theorem dX11_bears_55 : decode cX11_bears 55 = .ok (.istore_n 3, 1) := by decide +kernel
theorem dX11_bears_56 : decode cX11_bears 56 = .ok (.sipush 20000, 3) := by decide +kernel
theorem dX11_bears_59 : decode cX11_bears 59 = .ok (.istore 4, 2) := by decide +kernel
theorem dX11_bears_61 : decode cX11_bears 61 = .ok (.iload_n 3, 1) := by decide +kernel
theorem dX11_bears_62 : decode cX11_bears 62 = .ok (.iload 4, 2) := by decide +kernel
theorem dX11_bears_64 : decode cX11_bears 64 = .ok (.if_icmp .ge 39, 3) := by decide +kernel
theorem dX11_bears_67 : decode cX11_bears 67 = .ok (.iload_n 3, 1) := by decide +kernel
theorem dX11_bears_68 : decode cX11_bears 68 = .ok (.iload 4, 2) := by decide +kernel
theorem dX11_bears_70 : decode cX11_bears 70 = .ok (.iadd, 1) := by decide +kernel
theorem dX11_bears_71 : decode cX11_bears 71 = .ok (.iconst 1, 1) := by decide +kernel
theorem dX11_bears_72 : decode cX11_bears 72 = .ok (.iadd, 1) := by decide +kernel
theorem dX11_bears_73 : decode cX11_bears 73 = .ok (.iconst 2, 1) := by decide +kernel
theorem dX11_bears_74 : decode cX11_bears 74 = .ok (.idiv, 1) := by decide +kernel
theorem dX11_bears_75 : decode cX11_bears 75 = .ok (.istore 5, 2) := by decide +kernel
theorem dX11_bears_77 : decode cX11_bears 77 = .ok (.aload_n 0, 1) := by decide +kernel
theorem dX11_bears_78 : decode cX11_bears 78 = .ok (.iload_n 1, 1) := by decide +kernel
theorem dX11_bears_79 : decode cX11_bears 79 = .ok (.iload 5, 2) := by decide +kernel
theorem dX11_bears_81 : decode cX11_bears 81 = .ok (.iload_n 2, 1) := by decide +kernel
theorem dX11_bears_82 : decode cX11_bears 82 = .ok (.invokevirtual 176, 3) := by decide +kernel
theorem dX11_bears_85 : decode cX11_bears 85 = .ok (.ifCond .eq 9, 3) := by decide +kernel
theorem dX11_bears_88 : decode cX11_bears 88 = .ok (.iload 5, 2) := by decide +kernel
theorem dX11_bears_90 : decode cX11_bears 90 = .ok (.istore_n 3, 1) := by decide +kernel
theorem dX11_bears_91 : decode cX11_bears 91 = .ok (.goto 9, 3) := by decide +kernel
theorem dX11_bears_94 : decode cX11_bears 94 = .ok (.iload 5, 2) := by decide +kernel
theorem dX11_bears_96 : decode cX11_bears 96 = .ok (.iconst 1, 1) := by decide +kernel
theorem dX11_bears_97 : decode cX11_bears 97 = .ok (.isub, 1) := by decide +kernel
theorem dX11_bears_98 : decode cX11_bears 98 = .ok (.istore 4, 2) := by decide +kernel
theorem dX11_bears_100 : decode cX11_bears 100 = .ok (.goto (-39), 3) := by decide +kernel
theorem dX11_bears_103 : decode cX11_bears 103 = .ok (.iload_n 3, 1) := by decide +kernel
theorem dX11_bears_104 : decode cX11_bears 104 = .ok (.ireturn, 1) := by decide +kernel
theorem dX11_gripOf_0 : decode cX11_gripOf 0 = .ok (.aload_n 0, 1) := by decide +kernel
theorem dX11_gripOf_1 : decode cX11_gripOf 1 = .ok (.invokevirtual 54, 3) := by decide +kernel
theorem dX11_gripOf_4 : decode cX11_gripOf 4 = .ok (.ifCond .eq 14, 3) := by decide +kernel
theorem dX11_gripOf_7 : decode cX11_gripOf 7 = .ok (.aload_n 0, 1) := by decide +kernel
theorem dX11_gripOf_8 : decode cX11_gripOf 8 = .ok (.invokevirtual 92, 3) := by decide +kernel
theorem dX11_gripOf_11 : decode cX11_gripOf 11 = .ok (.aload_n 0, 1) := by decide +kernel
theorem dX11_gripOf_12 : decode cX11_gripOf 12 = .ok (.invokevirtual 54, 3) := by decide +kernel
theorem dX11_gripOf_15 : decode cX11_gripOf 15 = .ok (.if_icmp .ge 5, 3) := by decide +kernel
theorem dX11_gripOf_18 : decode cX11_gripOf 18 = .ok (.iconst 3, 1) := by decide +kernel
theorem dX11_gripOf_19 : decode cX11_gripOf 19 = .ok (.ireturn, 1) := by decide +kernel
theorem dX11_gripOf_20 : decode cX11_gripOf 20 = .ok (.iconst 0, 1) := by decide +kernel
theorem dX11_gripOf_21 : decode cX11_gripOf 21 = .ok (.istore_n 1, 1) := by decide +kernel
theorem dX11_gripOf_22 : decode cX11_gripOf 22 = .ok (.aload_n 0, 1) := by decide +kernel
theorem dX11_gripOf_23 : decode cX11_gripOf 23 = .ok (.getfield 180, 3) := by decide +kernel
theorem dX11_gripOf_26 : decode cX11_gripOf 26 = .ok (.istore_n 2, 1) := by decide +kernel
theorem dX11_gripOf_27 : decode cX11_gripOf 27 = .ok (.iload_n 2, 1) := by decide +kernel
theorem dX11_gripOf_28 : decode cX11_gripOf 28 = .ok (.aload_n 0, 1) := by decide +kernel
theorem dX11_gripOf_29 : decode cX11_gripOf 29 = .ok (.getfield 182, 3) := by decide +kernel
theorem dX11_gripOf_32 : decode cX11_gripOf 32 = .ok (.if_icmp .ge 24, 3) := by decide +kernel
theorem dX11_gripOf_35 : decode cX11_gripOf 35 = .ok (.iload_n 1, 1) := by decide +kernel
theorem dX11_gripOf_36 : decode cX11_gripOf 36 = .ok (.iload_n 2, 1) := by decide +kernel
theorem dX11_gripOf_37 : decode cX11_gripOf 37 = .ok (.invokestatic 185, 3) := by decide +kernel
theorem dX11_gripOf_40 : decode cX11_gripOf 40 = .ok (.ifCond .eq 7, 3) := by decide +kernel
theorem dX11_gripOf_43 : decode cX11_gripOf 43 = .ok (.iconst 0, 1) := by decide +kernel
theorem dX11_gripOf_44 : decode cX11_gripOf 44 = .ok (.goto 4, 3) := by decide +kernel
theorem dX11_gripOf_47 : decode cX11_gripOf 47 = .ok (.iconst 1, 1) := by decide +kernel
theorem dX11_gripOf_48 : decode cX11_gripOf 48 = .ok (.iadd, 1) := by decide +kernel
theorem dX11_gripOf_49 : decode cX11_gripOf 49 = .ok (.istore_n 1, 1) := by decide +kernel
theorem dX11_gripOf_50 : decode cX11_gripOf 50 = .ok (.iinc 2 1, 3) := by decide +kernel
theorem dX11_gripOf_53 : decode cX11_gripOf 53 = .ok (.goto (-26), 3) := by decide +kernel
theorem dX11_gripOf_56 : decode cX11_gripOf 56 = .ok (.bipush 8, 2) := by decide +kernel
theorem dX11_gripOf_58 : decode cX11_gripOf 58 = .ok (.iconst 3, 1) := by decide +kernel
theorem dX11_gripOf_59 : decode cX11_gripOf 59 = .ok (.iload_n 1, 1) := by decide +kernel
theorem dX11_gripOf_60 : decode cX11_gripOf 60 = .ok (.iconst 5, 1) := by decide +kernel
theorem dX11_gripOf_61 : decode cX11_gripOf 61 = .ok (.idiv, 1) := by decide +kernel
theorem dX11_gripOf_62 : decode cX11_gripOf 62 = .ok (.iadd, 1) := by decide +kernel
theorem dX11_gripOf_63 : decode cX11_gripOf 63 = .ok (.invokestatic 188, 3) := by decide +kernel
theorem dX11_gripOf_66 : decode cX11_gripOf 66 = .ok (.ireturn, 1) := by decide +kernel
theorem dX11_grip_0 : decode cX11_grip 0 = .ok (.aload_n 0, 1) := by decide +kernel
theorem dX11_grip_1 : decode cX11_grip 1 = .ok (.invokevirtual 191, 3) := by decide +kernel
theorem dX11_grip_4 : decode cX11_grip 4 = .ok (.ireturn, 1) := by decide +kernel
theorem dX11_addBlocks_0 : decode cX11_addBlocks 0 = .ok (.iload_n 1, 1) := by decide +kernel
theorem dX11_addBlocks_1 : decode cX11_addBlocks 1 = .ok (.i2l, 1) := by decide +kernel
theorem dX11_addBlocks_2 : decode cX11_addBlocks 2 = .ok (.lconst 1, 1) := by decide +kernel
theorem dX11_addBlocks_3 : decode cX11_addBlocks 3 = .ok (.ldc2_w 73, 3) := by decide +kernel
theorem dX11_addBlocks_6 : decode cX11_addBlocks 6 = .ok (.invokestatic 57, 3) := by decide +kernel
theorem dX11_addBlocks_9 : decode cX11_addBlocks 9 = .ok (.ifCond .eq 44, 3) := by decide +kernel
theorem dX11_addBlocks_12 : decode cX11_addBlocks 12 = .ok (.iload_n 2, 1) := by decide +kernel
theorem dX11_addBlocks_13 : decode cX11_addBlocks 13 = .ok (.i2l, 1) := by decide +kernel
theorem dX11_addBlocks_14 : decode cX11_addBlocks 14 = .ok (.lconst 1, 1) := by decide +kernel
theorem dX11_addBlocks_15 : decode cX11_addBlocks 15 = .ok (.ldc2_w 73, 3) := by decide +kernel
theorem dX11_addBlocks_18 : decode cX11_addBlocks 18 = .ok (.invokestatic 57, 3) := by decide +kernel
theorem dX11_addBlocks_21 : decode cX11_addBlocks 21 = .ok (.ifCond .eq 32, 3) := by decide +kernel
theorem dX11_addBlocks_24 : decode cX11_addBlocks 24 = .ok (.iload_n 3, 1) := by decide +kernel
theorem dX11_addBlocks_25 : decode cX11_addBlocks 25 = .ok (.i2l, 1) := by decide +kernel
theorem dX11_addBlocks_26 : decode cX11_addBlocks 26 = .ok (.lconst 1, 1) := by decide +kernel
theorem dX11_addBlocks_27 : decode cX11_addBlocks 27 = .ok (.ldc2_w 194, 3) := by decide +kernel
theorem dX11_addBlocks_30 : decode cX11_addBlocks 30 = .ok (.invokestatic 57, 3) := by decide +kernel
theorem dX11_addBlocks_33 : decode cX11_addBlocks 33 = .ok (.ifCond .eq 20, 3) := by decide +kernel
theorem dX11_addBlocks_36 : decode cX11_addBlocks 36 = .ok (.iload 4, 2) := by decide +kernel
theorem dX11_addBlocks_38 : decode cX11_addBlocks 38 = .ok (.i2l, 1) := by decide +kernel
theorem dX11_addBlocks_39 : decode cX11_addBlocks 39 = .ok (.lconst 0, 1) := by decide +kernel
theorem dX11_addBlocks_40 : decode cX11_addBlocks 40 = .ok (.ldc2_w 196, 3) := by decide +kernel
theorem dX11_addBlocks_43 : decode cX11_addBlocks 43 = .ok (.invokestatic 57, 3) := by decide +kernel
theorem dX11_addBlocks_46 : decode cX11_addBlocks 46 = .ok (.ifCond .eq 7, 3) := by decide +kernel
theorem dX11_addBlocks_49 : decode cX11_addBlocks 49 = .ok (.iconst 1, 1) := by decide +kernel
theorem dX11_addBlocks_50 : decode cX11_addBlocks 50 = .ok (.goto 4, 3) := by decide +kernel
theorem dX11_addBlocks_53 : decode cX11_addBlocks 53 = .ok (.iconst 0, 1) := by decide +kernel
theorem dX11_addBlocks_54 : decode cX11_addBlocks 54 = .ok (.istore 6, 2) := by decide +kernel
theorem dX11_addBlocks_56 : decode cX11_addBlocks 56 = .ok (.aload_n 0, 1) := by decide +kernel
theorem dX11_addBlocks_57 : decode cX11_addBlocks 57 = .ok (.iload 6, 2) := by decide +kernel
theorem dX11_addBlocks_59 : decode cX11_addBlocks 59 = .ok (.iconst 1, 1) := by decide +kernel
theorem dX11_addBlocks_60 : decode cX11_addBlocks 60 = .ok (.invokevirtual 65, 3) := by decide +kernel
theorem dX11_addBlocks_63 : decode cX11_addBlocks 63 = .ok (.ifCond .ne 30, 3) := by decide +kernel
theorem dX11_addBlocks_66 : decode cX11_addBlocks 66 = .ok (.aload_n 0, 1) := by decide +kernel
theorem dX11_addBlocks_67 : decode cX11_addBlocks 67 = .ok (.aload_n 0, 1) := by decide +kernel
theorem dX11_addBlocks_68 : decode cX11_addBlocks 68 = .ok (.getfield 16, 3) := by decide +kernel
theorem dX11_addBlocks_71 : decode cX11_addBlocks 71 = .ok (.invokeinterface 42 1, 5) := by decide +kernel
theorem dX11_addBlocks_76 : decode cX11_addBlocks 76 = .ok (.bipush 6, 2) := by decide +kernel
theorem dX11_addBlocks_78 : decode cX11_addBlocks 78 = .ok (.if_icmp .ge 7, 3) := by decide +kernel
theorem dX11_addBlocks_81 : decode cX11_addBlocks 81 = .ok (.iconst 1, 1) := by decide +kernel
theorem dX11_addBlocks_82 : decode cX11_addBlocks 82 = .ok (.goto 4, 3) := by decide +kernel
theorem dX11_addBlocks_85 : decode cX11_addBlocks 85 = .ok (.iconst 0, 1) := by decide +kernel
theorem dX11_addBlocks_86 : decode cX11_addBlocks 86 = .ok (.iconst 2, 1) := by decide +kernel
theorem dX11_addBlocks_87 : decode cX11_addBlocks 87 = .ok (.invokevirtual 65, 3) := by decide +kernel
theorem dX11_addBlocks_90 : decode cX11_addBlocks 90 = .ok (.ifCond .eq 5, 3) := by decide +kernel
theorem dX11_addBlocks_93 : decode cX11_addBlocks 93 = .ok (.iconst 0, 1) := by decide +kernel
theorem dX11_addBlocks_94 : decode cX11_addBlocks 94 = .ok (.ireturn, 1) := by decide +kernel
theorem dX11_addBlocks_95 : decode cX11_addBlocks 95 = .ok (.aload_n 0, 1) := by decide +kernel
theorem dX11_addBlocks_96 : decode cX11_addBlocks 96 = .ok (.getfield 16, 3) := by decide +kernel
theorem dX11_addBlocks_99 : decode cX11_addBlocks 99 = .ok (.new 198, 3) := by decide +kernel
theorem dX11_addBlocks_102 : decode cX11_addBlocks 102 = .ok (.dup, 1) := by decide +kernel
theorem dX11_addBlocks_103 : decode cX11_addBlocks 103 = .ok (.iload_n 1, 1) := by decide +kernel
theorem dX11_addBlocks_104 : decode cX11_addBlocks 104 = .ok (.iload_n 2, 1) := by decide +kernel
theorem dX11_addBlocks_105 : decode cX11_addBlocks 105 = .ok (.iload_n 3, 1) := by decide +kernel
theorem dX11_addBlocks_106 : decode cX11_addBlocks 106 = .ok (.iload 4, 2) := by decide +kernel
theorem dX11_addBlocks_108 : decode cX11_addBlocks 108 = .ok (.iload 5, 2) := by decide +kernel
theorem dX11_addBlocks_110 : decode cX11_addBlocks 110 = .ok (.invokespecial 200, 3) := by decide +kernel
theorem dX11_addBlocks_113 : decode cX11_addBlocks 113 = .ok (.invokeinterface 95 2, 5) := by decide +kernel
theorem dX11_addBlocks_118 : decode cX11_addBlocks 118 = .ok (.pop, 1) := by decide +kernel
theorem dX11_addBlocks_119 : decode cX11_addBlocks 119 = .ok (.aload_n 0, 1) := by decide +kernel
theorem dX11_addBlocks_120 : decode cX11_addBlocks 120 = .ok (.getfield 16, 3) := by decide +kernel
theorem dX11_addBlocks_123 : decode cX11_addBlocks 123 = .ok (.invokeinterface 42 1, 5) := by decide +kernel
theorem dX11_addBlocks_128 : decode cX11_addBlocks 128 = .ok (.iconst 1, 1) := by decide +kernel
theorem dX11_addBlocks_129 : decode cX11_addBlocks 129 = .ok (.isub, 1) := by decide +kernel
theorem dX11_addBlocks_130 : decode cX11_addBlocks 130 = .ok (.ireturn, 1) := by decide +kernel
theorem dX11_blocks_0 : decode cX11_blocks 0 = .ok (.aload_n 0, 1) := by decide +kernel
theorem dX11_blocks_1 : decode cX11_blocks 1 = .ok (.iload_n 1, 1) := by decide +kernel
theorem dX11_blocks_2 : decode cX11_blocks 2 = .ok (.i2l, 1) := by decide +kernel
theorem dX11_blocks_3 : decode cX11_blocks 3 = .ok (.lconst 0, 1) := by decide +kernel
theorem dX11_blocks_4 : decode cX11_blocks 4 = .ok (.aload_n 0, 1) := by decide +kernel
theorem dX11_blocks_5 : decode cX11_blocks 5 = .ok (.getfield 16, 3) := by decide +kernel
theorem dX11_blocks_8 : decode cX11_blocks 8 = .ok (.invokeinterface 42 1, 5) := by decide +kernel
theorem dX11_blocks_13 : decode cX11_blocks 13 = .ok (.iconst 1, 1) := by decide +kernel
theorem dX11_blocks_14 : decode cX11_blocks 14 = .ok (.isub, 1) := by decide +kernel
theorem dX11_blocks_15 : decode cX11_blocks 15 = .ok (.i2l, 1) := by decide +kernel
theorem dX11_blocks_16 : decode cX11_blocks 16 = .ok (.invokestatic 57, 3) := by decide +kernel
theorem dX11_blocks_19 : decode cX11_blocks 19 = .ok (.iconst 1, 1) := by decide +kernel
theorem dX11_blocks_20 : decode cX11_blocks 20 = .ok (.invokevirtual 65, 3) := by decide +kernel
theorem dX11_blocks_23 : decode cX11_blocks 23 = .ok (.ifCond .eq 7, 3) := by decide +kernel
theorem dX11_blocks_26 : decode cX11_blocks 26 = .ok (.iconst 0, 1) := by decide +kernel
theorem dX11_blocks_27 : decode cX11_blocks 27 = .ok (.goto 19, 3) := by decide +kernel
theorem dX11_blocks_30 : decode cX11_blocks 30 = .ok (.aload_n 0, 1) := by decide +kernel
theorem dX11_blocks_31 : decode cX11_blocks 31 = .ok (.getfield 16, 3) := by decide +kernel
theorem dX11_blocks_34 : decode cX11_blocks 34 = .ok (.iload_n 1, 1) := by decide +kernel
theorem dX11_blocks_35 : decode cX11_blocks 35 = .ok (.invokeinterface 83 2, 5) := by decide +kernel
theorem dX11_blocks_40 : decode cX11_blocks 40 = .ok (.checkcast 198, 3) := by decide +kernel
theorem dX11_blocks_43 : decode cX11_blocks 43 = .ok (.getfield 203, 3) := by decide +kernel
theorem dX11_blocks_46 : decode cX11_blocks 46 = .ok (.ireturn, 1) := by decide +kernel
theorem dX11_bestBlock_0 : decode cX11_bestBlock 0 = .ok (.aload_n 0, 1) := by decide +kernel
theorem dX11_bestBlock_1 : decode cX11_bestBlock 1 = .ok (.iload_n 1, 1) := by decide +kernel
theorem dX11_bestBlock_2 : decode cX11_bestBlock 2 = .ok (.invokevirtual 116, 3) := by decide +kernel
theorem dX11_bestBlock_5 : decode cX11_bestBlock 5 = .ok (.ifCond .eq 5, 3) := by decide +kernel
theorem dX11_bestBlock_8 : decode cX11_bestBlock 8 = .ok (.iconst 0, 1) := by decide +kernel
theorem dX11_bestBlock_9 : decode cX11_bestBlock 9 = .ok (.ireturn, 1) := by decide +kernel
theorem dX11_bestBlock_10 : decode cX11_bestBlock 10 = .ok (.iconst (-1), 1) := by decide +kernel
theorem dX11_bestBlock_11 : decode cX11_bestBlock 11 = .ok (.istore_n 2, 1) := by decide +kernel
theorem dX11_bestBlock_12 : decode cX11_bestBlock 12 = .ok (.iconst 0, 1) := by decide +kernel
theorem dX11_bestBlock_13 : decode cX11_bestBlock 13 = .ok (.istore_n 3, 1) := by decide +kernel
theorem dX11_bestBlock_14 : decode cX11_bestBlock 14 = .ok (.iload_n 3, 1) := by decide +kernel
theorem dX11_bestBlock_15 : decode cX11_bestBlock 15 = .ok (.aload_n 0, 1) := by decide +kernel
theorem dX11_bestBlock_16 : decode cX11_bestBlock 16 = .ok (.getfield 16, 3) := by decide +kernel
theorem dX11_bestBlock_19 : decode cX11_bestBlock 19 = .ok (.invokeinterface 42 1, 5) := by decide +kernel
theorem dX11_bestBlock_24 : decode cX11_bestBlock 24 = .ok (.if_icmp .ge 100, 3) := by decide +kernel
theorem dX11_bestBlock_27 : decode cX11_bestBlock 27 = .ok (.aload_n 0, 1) := by decide +kernel
theorem dX11_bestBlock_28 : decode cX11_bestBlock 28 = .ok (.getfield 16, 3) := by decide +kernel
theorem dX11_bestBlock_31 : decode cX11_bestBlock 31 = .ok (.iload_n 3, 1) := by decide +kernel
theorem dX11_bestBlock_32 : decode cX11_bestBlock 32 = .ok (.invokeinterface 83 2, 5) := by decide +kernel
theorem dX11_bestBlock_37 : decode cX11_bestBlock 37 = .ok (.checkcast 198, 3) := by decide +kernel
theorem dX11_bestBlock_40 : decode cX11_bestBlock 40 = .ok (.astore 4, 2) := by decide +kernel
theorem dX11_bestBlock_42 : decode cX11_bestBlock 42 = .ok (.iload_n 2, 1) := by decide +kernel
theorem dX11_bestBlock_43 : decode cX11_bestBlock 43 = .ok (.iconst (-1), 1) := by decide +kernel
theorem dX11_bestBlock_44 : decode cX11_bestBlock 44 = .ok (.if_icmp .eq 50, 3) := by decide +kernel
theorem dX11_bestBlock_47 : decode cX11_bestBlock 47 = .ok (.aload 4, 2) := by decide +kernel
theorem dX11_bestBlock_49 : decode cX11_bestBlock 49 = .ok (.getfield 206, 3) := by decide +kernel
theorem dX11_bestBlock_52 : decode cX11_bestBlock 52 = .ok (.aload 4, 2) := by decide +kernel
theorem dX11_bestBlock_54 : decode cX11_bestBlock 54 = .ok (.getfield 209, 3) := by decide +kernel
theorem dX11_bestBlock_57 : decode cX11_bestBlock 57 = .ok (.imul, 1) := by decide +kernel
theorem dX11_bestBlock_58 : decode cX11_bestBlock 58 = .ok (.aload_n 0, 1) := by decide +kernel
theorem dX11_bestBlock_59 : decode cX11_bestBlock 59 = .ok (.getfield 16, 3) := by decide +kernel
theorem dX11_bestBlock_62 : decode cX11_bestBlock 62 = .ok (.iload_n 2, 1) := by decide +kernel
theorem dX11_bestBlock_63 : decode cX11_bestBlock 63 = .ok (.invokeinterface 83 2, 5) := by decide +kernel
theorem dX11_bestBlock_68 : decode cX11_bestBlock 68 = .ok (.checkcast 198, 3) := by decide +kernel
theorem dX11_bestBlock_71 : decode cX11_bestBlock 71 = .ok (.getfield 206, 3) := by decide +kernel
theorem dX11_bestBlock_74 : decode cX11_bestBlock 74 = .ok (.aload_n 0, 1) := by decide +kernel
theorem dX11_bestBlock_75 : decode cX11_bestBlock 75 = .ok (.getfield 16, 3) := by decide +kernel
theorem dX11_bestBlock_78 : decode cX11_bestBlock 78 = .ok (.iload_n 2, 1) := by decide +kernel
theorem dX11_bestBlock_79 : decode cX11_bestBlock 79 = .ok (.invokeinterface 83 2, 5) := by decide +kernel
theorem dX11_bestBlock_84 : decode cX11_bestBlock 84 = .ok (.checkcast 198, 3) := by decide +kernel
theorem dX11_bestBlock_87 : decode cX11_bestBlock 87 = .ok (.getfield 209, 3) := by decide +kernel
theorem dX11_bestBlock_90 : decode cX11_bestBlock 90 = .ok (.imul, 1) := by decide +kernel
theorem dX11_bestBlock_91 : decode cX11_bestBlock 91 = .ok (.if_icmp .ge 7, 3) := by decide +kernel
theorem dX11_bestBlock_94 : decode cX11_bestBlock 94 = .ok (.iconst 1, 1) := by decide +kernel
theorem dX11_bestBlock_95 : decode cX11_bestBlock 95 = .ok (.goto 4, 3) := by decide +kernel
theorem dX11_bestBlock_98 : decode cX11_bestBlock 98 = .ok (.iconst 0, 1) := by decide +kernel
theorem dX11_bestBlock_99 : decode cX11_bestBlock 99 = .ok (.istore 5, 2) := by decide +kernel
theorem dX11_bestBlock_101 : decode cX11_bestBlock 101 = .ok (.iload 5, 2) := by decide +kernel
theorem dX11_bestBlock_103 : decode cX11_bestBlock 103 = .ok (.ifCond .eq 15, 3) := by decide +kernel
theorem dX11_bestBlock_106 : decode cX11_bestBlock 106 = .ok (.aload_n 0, 1) := by decide +kernel
theorem dX11_bestBlock_107 : decode cX11_bestBlock 107 = .ok (.iload_n 1, 1) := by decide +kernel
theorem dX11_bestBlock_108 : decode cX11_bestBlock 108 = .ok (.aload 4, 2) := by decide +kernel
theorem dX11_bestBlock_110 : decode cX11_bestBlock 110 = .ok (.invokevirtual 216, 3) := by decide +kernel
theorem dX11_bestBlock_113 : decode cX11_bestBlock 113 = .ok (.ifCond .eq 5, 3) := by decide +kernel
theorem dX11_bestBlock_116 : decode cX11_bestBlock 116 = .ok (.iload_n 3, 1) := by decide +kernel
theorem dX11_bestBlock_117 : decode cX11_bestBlock 117 = .ok (.istore_n 2, 1) := by decide +kernel
theorem dX11_bestBlock_118 : decode cX11_bestBlock 118 = .ok (.iinc 3 1, 3) := by decide +kernel
theorem dX11_bestBlock_121 : decode cX11_bestBlock 121 = .ok (.goto (-107), 3) := by decide +kernel
theorem dX11_bestBlock_124 : decode cX11_bestBlock 124 = .ok (.aload_n 0, 1) := by decide +kernel
theorem dX11_bestBlock_125 : decode cX11_bestBlock 125 = .ok (.iload_n 2, 1) := by decide +kernel
theorem dX11_bestBlock_126 : decode cX11_bestBlock 126 = .ok (.iconst (-1), 1) := by decide +kernel
theorem dX11_bestBlock_127 : decode cX11_bestBlock 127 = .ok (.if_icmp .eq 7, 3) := by decide +kernel
theorem dX11_bestBlock_130 : decode cX11_bestBlock 130 = .ok (.iconst 1, 1) := by decide +kernel
theorem dX11_bestBlock_131 : decode cX11_bestBlock 131 = .ok (.goto 4, 3) := by decide +kernel
theorem dX11_bestBlock_134 : decode cX11_bestBlock 134 = .ok (.iconst 0, 1) := by decide +kernel
theorem dX11_bestBlock_135 : decode cX11_bestBlock 135 = .ok (.iconst 2, 1) := by decide +kernel
theorem dX11_bestBlock_136 : decode cX11_bestBlock 136 = .ok (.invokevirtual 65, 3) := by decide +kernel
theorem dX11_bestBlock_139 : decode cX11_bestBlock 139 = .ok (.ifCond .eq 7, 3) := by decide +kernel
theorem dX11_bestBlock_142 : decode cX11_bestBlock 142 = .ok (.iconst 0, 1) := by decide +kernel
theorem dX11_bestBlock_143 : decode cX11_bestBlock 143 = .ok (.goto 4, 3) := by decide +kernel
theorem dX11_bestBlock_146 : decode cX11_bestBlock 146 = .ok (.iload_n 2, 1) := by decide +kernel
theorem dX11_bestBlock_147 : decode cX11_bestBlock 147 = .ok (.ireturn, 1) := by decide +kernel
theorem dX11_addMason_0 : decode cX11_addMason 0 = .ok (.aload_n 0, 1) := by decide +kernel
theorem dX11_addMason_1 : decode cX11_addMason 1 = .ok (.iload_n 1, 1) := by decide +kernel
theorem dX11_addMason_2 : decode cX11_addMason 2 = .ok (.i2l, 1) := by decide +kernel
theorem dX11_addMason_3 : decode cX11_addMason 3 = .ok (.lconst 1, 1) := by decide +kernel
theorem dX11_addMason_4 : decode cX11_addMason 4 = .ok (.ldc2_w 194, 3) := by decide +kernel
theorem dX11_addMason_7 : decode cX11_addMason 7 = .ok (.invokestatic 57, 3) := by decide +kernel
theorem dX11_addMason_10 : decode cX11_addMason 10 = .ok (.ifCond .eq 19, 3) := by decide +kernel
theorem dX11_addMason_13 : decode cX11_addMason 13 = .ok (.iload_n 2, 1) := by decide +kernel
theorem dX11_addMason_14 : decode cX11_addMason 14 = .ok (.i2l, 1) := by decide +kernel
theorem dX11_addMason_15 : decode cX11_addMason 15 = .ok (.lconst 0, 1) := by decide +kernel
theorem dX11_addMason_16 : decode cX11_addMason 16 = .ok (.ldc2_w 220, 3) := by decide +kernel
theorem dX11_addMason_19 : decode cX11_addMason 19 = .ok (.invokestatic 57, 3) := by decide +kernel
theorem dX11_addMason_22 : decode cX11_addMason 22 = .ok (.ifCond .eq 7, 3) := by decide +kernel
theorem dX11_addMason_25 : decode cX11_addMason 25 = .ok (.iconst 1, 1) := by decide +kernel
theorem dX11_addMason_26 : decode cX11_addMason 26 = .ok (.goto 4, 3) := by decide +kernel
theorem dX11_addMason_29 : decode cX11_addMason 29 = .ok (.iconst 0, 1) := by decide +kernel
theorem dX11_addMason_30 : decode cX11_addMason 30 = .ok (.iconst 1, 1) := by decide +kernel
theorem dX11_addMason_31 : decode cX11_addMason 31 = .ok (.invokevirtual 65, 3) := by decide +kernel
theorem dX11_addMason_34 : decode cX11_addMason 34 = .ok (.ifCond .ne 29, 3) := by decide +kernel
theorem dX11_addMason_37 : decode cX11_addMason 37 = .ok (.aload_n 0, 1) := by decide +kernel
theorem dX11_addMason_38 : decode cX11_addMason 38 = .ok (.aload_n 0, 1) := by decide +kernel
theorem dX11_addMason_39 : decode cX11_addMason 39 = .ok (.getfield 19, 3) := by decide +kernel
theorem dX11_addMason_42 : decode cX11_addMason 42 = .ok (.invokeinterface 42 1, 5) := by decide +kernel
theorem dX11_addMason_47 : decode cX11_addMason 47 = .ok (.iconst 4, 1) := by decide +kernel
theorem dX11_addMason_48 : decode cX11_addMason 48 = .ok (.if_icmp .ge 7, 3) := by decide +kernel
theorem dX11_addMason_51 : decode cX11_addMason 51 = .ok (.iconst 1, 1) := by decide +kernel
theorem dX11_addMason_52 : decode cX11_addMason 52 = .ok (.goto 4, 3) := by decide +kernel
theorem dX11_addMason_55 : decode cX11_addMason 55 = .ok (.iconst 0, 1) := by decide +kernel
theorem dX11_addMason_56 : decode cX11_addMason 56 = .ok (.iconst 2, 1) := by decide +kernel
theorem dX11_addMason_57 : decode cX11_addMason 57 = .ok (.invokevirtual 65, 3) := by decide +kernel
theorem dX11_addMason_60 : decode cX11_addMason 60 = .ok (.ifCond .eq 5, 3) := by decide +kernel
theorem dX11_addMason_63 : decode cX11_addMason 63 = .ok (.iconst 0, 1) := by decide +kernel
theorem dX11_addMason_64 : decode cX11_addMason 64 = .ok (.ireturn, 1) := by decide +kernel
theorem dX11_addMason_65 : decode cX11_addMason 65 = .ok (.aload_n 0, 1) := by decide +kernel
theorem dX11_addMason_66 : decode cX11_addMason 66 = .ok (.getfield 19, 3) := by decide +kernel
theorem dX11_addMason_69 : decode cX11_addMason 69 = .ok (.new 222, 3) := by decide +kernel
theorem dX11_addMason_72 : decode cX11_addMason 72 = .ok (.dup, 1) := by decide +kernel
theorem dX11_addMason_73 : decode cX11_addMason 73 = .ok (.iload_n 1, 1) := by decide +kernel
theorem dX11_addMason_74 : decode cX11_addMason 74 = .ok (.iload_n 2, 1) := by decide +kernel
theorem dX11_addMason_75 : decode cX11_addMason 75 = .ok (.invokespecial 224, 3) := by decide +kernel
theorem dX11_addMason_78 : decode cX11_addMason 78 = .ok (.invokeinterface 95 2, 5) := by decide +kernel
theorem dX11_addMason_83 : decode cX11_addMason 83 = .ok (.pop, 1) := by decide +kernel
theorem dX11_addMason_84 : decode cX11_addMason 84 = .ok (.aload_n 0, 1) := by decide +kernel
theorem dX11_addMason_85 : decode cX11_addMason 85 = .ok (.getfield 19, 3) := by decide +kernel
theorem dX11_addMason_88 : decode cX11_addMason 88 = .ok (.invokeinterface 42 1, 5) := by decide +kernel
theorem dX11_addMason_93 : decode cX11_addMason 93 = .ok (.iconst 1, 1) := by decide +kernel
theorem dX11_addMason_94 : decode cX11_addMason 94 = .ok (.isub, 1) := by decide +kernel
theorem dX11_addMason_95 : decode cX11_addMason 95 = .ok (.ireturn, 1) := by decide +kernel
theorem dX11_cut_0 : decode cX11_cut 0 = .ok (.aload_n 0, 1) := by decide +kernel
theorem dX11_cut_1 : decode cX11_cut 1 = .ok (.aload_n 0, 1) := by decide +kernel
theorem dX11_cut_2 : decode cX11_cut 2 = .ok (.iload_n 1, 1) := by decide +kernel
theorem dX11_cut_3 : decode cX11_cut 3 = .ok (.invokevirtual 61, 3) := by decide +kernel
theorem dX11_cut_6 : decode cX11_cut 6 = .ok (.ifCond .eq 49, 3) := by decide +kernel
theorem dX11_cut_9 : decode cX11_cut 9 = .ok (.iload_n 2, 1) := by decide +kernel
theorem dX11_cut_10 : decode cX11_cut 10 = .ok (.i2l, 1) := by decide +kernel
theorem dX11_cut_11 : decode cX11_cut 11 = .ok (.lconst 0, 1) := by decide +kernel
theorem dX11_cut_12 : decode cX11_cut 12 = .ok (.aload_n 0, 1) := by decide +kernel
theorem dX11_cut_13 : decode cX11_cut 13 = .ok (.getfield 16, 3) := by decide +kernel
theorem dX11_cut_16 : decode cX11_cut 16 = .ok (.invokeinterface 42 1, 5) := by decide +kernel
theorem dX11_cut_21 : decode cX11_cut 21 = .ok (.iconst 1, 1) := by decide +kernel
theorem dX11_cut_22 : decode cX11_cut 22 = .ok (.isub, 1) := by decide +kernel
theorem dX11_cut_23 : decode cX11_cut 23 = .ok (.i2l, 1) := by decide +kernel
theorem dX11_cut_24 : decode cX11_cut 24 = .ok (.invokestatic 57, 3) := by decide +kernel
theorem dX11_cut_27 : decode cX11_cut 27 = .ok (.ifCond .eq 28, 3) := by decide +kernel
theorem dX11_cut_30 : decode cX11_cut 30 = .ok (.iload_n 3, 1) := by decide +kernel
theorem dX11_cut_31 : decode cX11_cut 31 = .ok (.i2l, 1) := by decide +kernel
theorem dX11_cut_32 : decode cX11_cut 32 = .ok (.lconst 0, 1) := by decide +kernel
theorem dX11_cut_33 : decode cX11_cut 33 = .ok (.aload_n 0, 1) := by decide +kernel
theorem dX11_cut_34 : decode cX11_cut 34 = .ok (.getfield 19, 3) := by decide +kernel
theorem dX11_cut_37 : decode cX11_cut 37 = .ok (.invokeinterface 42 1, 5) := by decide +kernel
theorem dX11_cut_42 : decode cX11_cut 42 = .ok (.iconst 1, 1) := by decide +kernel
theorem dX11_cut_43 : decode cX11_cut 43 = .ok (.isub, 1) := by decide +kernel
theorem dX11_cut_44 : decode cX11_cut 44 = .ok (.i2l, 1) := by decide +kernel
theorem dX11_cut_45 : decode cX11_cut 45 = .ok (.invokestatic 57, 3) := by decide +kernel
theorem dX11_cut_48 : decode cX11_cut 48 = .ok (.ifCond .eq 7, 3) := by decide +kernel
theorem dX11_cut_51 : decode cX11_cut 51 = .ok (.iconst 1, 1) := by decide +kernel
theorem dX11_cut_52 : decode cX11_cut 52 = .ok (.goto 4, 3) := by decide +kernel
theorem dX11_cut_55 : decode cX11_cut 55 = .ok (.iconst 0, 1) := by decide +kernel
theorem dX11_cut_56 : decode cX11_cut 56 = .ok (.iconst 1, 1) := by decide +kernel
theorem dX11_cut_57 : decode cX11_cut 57 = .ok (.invokevirtual 65, 3) := by decide +kernel
theorem dX11_cut_60 : decode cX11_cut 60 = .ok (.ifCond .eq 5, 3) := by decide +kernel
theorem dX11_cut_63 : decode cX11_cut 63 = .ok (.iconst 0, 1) := by decide +kernel
theorem dX11_cut_64 : decode cX11_cut 64 = .ok (.ireturn, 1) := by decide +kernel
theorem dX11_cut_65 : decode cX11_cut 65 = .ok (.aload_n 0, 1) := by decide +kernel
theorem dX11_cut_66 : decode cX11_cut 66 = .ok (.getfield 16, 3) := by decide +kernel
theorem dX11_cut_69 : decode cX11_cut 69 = .ok (.iload_n 2, 1) := by decide +kernel
theorem dX11_cut_70 : decode cX11_cut 70 = .ok (.invokeinterface 83 2, 5) := by decide +kernel
theorem dX11_cut_75 : decode cX11_cut 75 = .ok (.checkcast 198, 3) := by decide +kernel
theorem dX11_cut_78 : decode cX11_cut 78 = .ok (.astore 4, 2) := by decide +kernel
theorem dX11_cut_80 : decode cX11_cut 80 = .ok (.aload_n 0, 1) := by decide +kernel
theorem dX11_cut_81 : decode cX11_cut 81 = .ok (.getfield 19, 3) := by decide +kernel
theorem dX11_cut_84 : decode cX11_cut 84 = .ok (.iload_n 3, 1) := by decide +kernel
theorem dX11_cut_85 : decode cX11_cut 85 = .ok (.invokeinterface 83 2, 5) := by decide +kernel
theorem dX11_cut_90 : decode cX11_cut 90 = .ok (.checkcast 222, 3) := by decide +kernel
theorem dX11_cut_93 : decode cX11_cut 93 = .ok (.astore 5, 2) := by decide +kernel
theorem dX11_cut_95 : decode cX11_cut 95 = .ok (.aload_n 0, 1) := by decide +kernel
theorem dX11_cut_96 : decode cX11_cut 96 = .ok (.aload_n 0, 1) := by decide +kernel
theorem dX11_cut_97 : decode cX11_cut 97 = .ok (.iload_n 1, 1) := by decide +kernel
theorem dX11_cut_98 : decode cX11_cut 98 = .ok (.aload 4, 2) := by decide +kernel
theorem dX11_cut_100 : decode cX11_cut 100 = .ok (.invokevirtual 216, 3) := by decide +kernel
theorem dX11_cut_103 : decode cX11_cut 103 = .ok (.iconst 2, 1) := by decide +kernel
theorem dX11_cut_104 : decode cX11_cut 104 = .ok (.invokevirtual 65, 3) := by decide +kernel
theorem dX11_cut_107 : decode cX11_cut 107 = .ok (.ifCond .ne 30, 3) := by decide +kernel
theorem dX11_cut_110 : decode cX11_cut 110 = .ok (.aload_n 0, 1) := by decide +kernel
theorem dX11_cut_111 : decode cX11_cut 111 = .ok (.aload_n 0, 1) := by decide +kernel
theorem dX11_cut_112 : decode cX11_cut 112 = .ok (.getfield 22, 3) := by decide +kernel
theorem dX11_cut_115 : decode cX11_cut 115 = .ok (.invokeinterface 42 1, 5) := by decide +kernel
theorem dX11_cut_120 : decode cX11_cut 120 = .ok (.bipush 40, 2) := by decide +kernel
theorem dX11_cut_122 : decode cX11_cut 122 = .ok (.if_icmp .ge 7, 3) := by decide +kernel
theorem dX11_cut_125 : decode cX11_cut 125 = .ok (.iconst 1, 1) := by decide +kernel
theorem dX11_cut_126 : decode cX11_cut 126 = .ok (.goto 4, 3) := by decide +kernel
theorem dX11_cut_129 : decode cX11_cut 129 = .ok (.iconst 0, 1) := by decide +kernel
theorem dX11_cut_130 : decode cX11_cut 130 = .ok (.iconst 3, 1) := by decide +kernel
theorem dX11_cut_131 : decode cX11_cut 131 = .ok (.invokevirtual 65, 3) := by decide +kernel
theorem dX11_cut_134 : decode cX11_cut 134 = .ok (.ifCond .eq 5, 3) := by decide +kernel
theorem dX11_cut_137 : decode cX11_cut 137 = .ok (.iconst 0, 1) := by decide +kernel
theorem dX11_cut_138 : decode cX11_cut 138 = .ok (.ireturn, 1) := by decide +kernel
theorem dX11_cut_139 : decode cX11_cut 139 = .ok (.aload_n 0, 1) := by decide +kernel
theorem dX11_cut_140 : decode cX11_cut 140 = .ok (.iload_n 1, 1) := by decide +kernel
theorem dX11_cut_141 : decode cX11_cut 141 = .ok (.invokevirtual 112, 3) := by decide +kernel
theorem dX11_cut_144 : decode cX11_cut 144 = .ok (.istore 6, 2) := by decide +kernel
theorem dX11_cut_146 : decode cX11_cut 146 = .ok (.iload 6, 2) := by decide +kernel
theorem dX11_cut_148 : decode cX11_cut 148 = .ok (.aload 5, 2) := by decide +kernel
theorem dX11_cut_150 : decode cX11_cut 150 = .ok (.getfield 227, 3) := by decide +kernel
theorem dX11_cut_153 : decode cX11_cut 153 = .ok (.iadd, 1) := by decide +kernel
theorem dX11_cut_154 : decode cX11_cut 154 = .ok (.iconst 1, 1) := by decide +kernel
theorem dX11_cut_155 : decode cX11_cut 155 = .ok (.isub, 1) := by decide +kernel
theorem dX11_cut_156 : decode cX11_cut 156 = .ok (.aload 5, 2) := by decide +kernel
theorem dX11_cut_158 : decode cX11_cut 158 = .ok (.getfield 227, 3) := by decide +kernel
theorem dX11_cut_161 : decode cX11_cut 161 = .ok (.idiv, 1) := by decide +kernel
theorem dX11_cut_162 : decode cX11_cut 162 = .ok (.istore 7, 2) := by decide +kernel
theorem dX11_cut_164 : decode cX11_cut 164 = .ok (.aload_n 0, 1) := by decide +kernel
theorem dX11_cut_165 : decode cX11_cut 165 = .ok (.getfield 182, 3) := by decide +kernel
theorem dX11_cut_168 : decode cX11_cut 168 = .ok (.aload 5, 2) := by decide +kernel
theorem dX11_cut_170 : decode cX11_cut 170 = .ok (.getfield 230, 3) := by decide +kernel
theorem dX11_cut_173 : decode cX11_cut 173 = .ok (.invokestatic 48, 3) := by decide +kernel
theorem dX11_cut_176 : decode cX11_cut 176 = .ok (.istore 8, 2) := by decide +kernel
theorem dX11_cut_178 : decode cX11_cut 178 = .ok (.iload 7, 2) := by decide +kernel
theorem dX11_cut_180 : decode cX11_cut 180 = .ok (.ifCond .le 27, 3) := by decide +kernel
theorem dX11_cut_183 : decode cX11_cut 183 = .ok (.iload 7, 2) := by decide +kernel
theorem dX11_cut_185 : decode cX11_cut 185 = .ok (.iload 8, 2) := by decide +kernel
theorem dX11_cut_187 : decode cX11_cut 187 = .ok (.invokestatic 185, 3) := by decide +kernel
theorem dX11_cut_190 : decode cX11_cut 190 = .ok (.ifCond .eq 7, 3) := by decide +kernel
theorem dX11_cut_193 : decode cX11_cut 193 = .ok (.iconst 0, 1) := by decide +kernel
theorem dX11_cut_194 : decode cX11_cut 194 = .ok (.goto 4, 3) := by decide +kernel
theorem dX11_cut_197 : decode cX11_cut 197 = .ok (.iconst 1, 1) := by decide +kernel
theorem dX11_cut_198 : decode cX11_cut 198 = .ok (.isub, 1) := by decide +kernel
theorem dX11_cut_199 : decode cX11_cut 199 = .ok (.istore 7, 2) := by decide +kernel
theorem dX11_cut_201 : decode cX11_cut 201 = .ok (.iinc 8 1, 3) := by decide +kernel
theorem dX11_cut_204 : decode cX11_cut 204 = .ok (.goto (-26), 3) := by decide +kernel
theorem dX11_cut_207 : decode cX11_cut 207 = .ok (.aload_n 0, 1) := by decide +kernel
theorem dX11_cut_208 : decode cX11_cut 208 = .ok (.getfield 22, 3) := by decide +kernel
theorem dX11_cut_211 : decode cX11_cut 211 = .ok (.new 233, 3) := by decide +kernel
theorem dX11_cut_214 : decode cX11_cut 214 = .ok (.dup, 1) := by decide +kernel
theorem dX11_cut_215 : decode cX11_cut 215 = .ok (.aload_n 0, 1) := by decide +kernel
theorem dX11_cut_216 : decode cX11_cut 216 = .ok (.iload_n 1, 1) := by decide +kernel
theorem dX11_cut_217 : decode cX11_cut 217 = .ok (.invokevirtual 108, 3) := by decide +kernel
theorem dX11_cut_220 : decode cX11_cut 220 = .ok (.invokestatic 235, 3) := by decide +kernel
theorem dX11_cut_223 : decode cX11_cut 223 = .ok (.iload 8, 2) := by decide +kernel
theorem dX11_cut_225 : decode cX11_cut 225 = .ok (.new 239, 3) := by decide +kernel
theorem dX11_cut_228 : decode cX11_cut 228 = .ok (.dup, 1) := by decide +kernel
theorem dX11_cut_229 : decode cX11_cut 229 = .ok (.invokespecial 241, 3) := by decide +kernel
theorem dX11_cut_232 : decode cX11_cut 232 = .ok (.ldc 242, 2) := by decide +kernel
theorem dX11_cut_234 : decode cX11_cut 234 = .ok (.invokevirtual 244, 3) := by decide +kernel
theorem dX11_cut_237 : decode cX11_cut 237 = .ok (.bipush 65, 2) := by decide +kernel
theorem dX11_cut_239 : decode cX11_cut 239 = .ok (.iload_n 3, 1) := by decide +kernel
theorem dX11_cut_240 : decode cX11_cut 240 = .ok (.iadd, 1) := by decide +kernel
theorem dX11_cut_241 : decode cX11_cut 241 = .ok (.i2c, 1) := by decide +kernel
theorem dX11_cut_242 : decode cX11_cut 242 = .ok (.invokevirtual 248, 3) := by decide +kernel
theorem dX11_cut_245 : decode cX11_cut 245 = .ok (.iload_n 1, 1) := by decide +kernel
theorem dX11_cut_246 : decode cX11_cut 246 = .ok (.invokevirtual 251, 3) := by decide +kernel
theorem dX11_cut_249 : decode cX11_cut 249 = .ok (.ldc 254, 2) := by decide +kernel
theorem dX11_cut_251 : decode cX11_cut 251 = .ok (.invokevirtual 244, 3) := by decide +kernel
theorem dX11_cut_254 : decode cX11_cut 254 = .ok (.aload_n 0, 1) := by decide +kernel
theorem dX11_cut_255 : decode cX11_cut 255 = .ok (.getfield 99, 3) := by decide +kernel
theorem dX11_cut_258 : decode cX11_cut 258 = .ok (.invokevirtual 251, 3) := by decide +kernel
theorem dX11_cut_261 : decode cX11_cut 261 = .ok (.ldc_w 256, 3) := by decide +kernel
theorem dX11_cut_264 : decode cX11_cut 264 = .ok (.invokevirtual 244, 3) := by decide +kernel
theorem dX11_cut_267 : decode cX11_cut 267 = .ok (.aload 5, 2) := by decide +kernel
theorem dX11_cut_269 : decode cX11_cut 269 = .ok (.getfield 258, 3) := by decide +kernel
theorem dX11_cut_272 : decode cX11_cut 272 = .ok (.invokevirtual 251, 3) := by decide +kernel
theorem dX11_cut_275 : decode cX11_cut 275 = .ok (.invokevirtual 261, 3) := by decide +kernel
theorem dX11_cut_278 : decode cX11_cut 278 = .ok (.invokespecial 265, 3) := by decide +kernel
theorem dX11_cut_281 : decode cX11_cut 281 = .ok (.invokeinterface 95 2, 5) := by decide +kernel
theorem dX11_cut_286 : decode cX11_cut 286 = .ok (.pop, 1) := by decide +kernel
theorem dX11_cut_287 : decode cX11_cut 287 = .ok (.aload 4, 2) := by decide +kernel
theorem dX11_cut_289 : decode cX11_cut 289 = .ok (.dup, 1) := by decide +kernel
theorem dX11_cut_290 : decode cX11_cut 290 = .ok (.getfield 203, 3) := by decide +kernel
theorem dX11_cut_293 : decode cX11_cut 293 = .ok (.iconst 1, 1) := by decide +kernel
theorem dX11_cut_294 : decode cX11_cut 294 = .ok (.isub, 1) := by decide +kernel
theorem dX11_cut_295 : decode cX11_cut 295 = .ok (.putfield 203, 3) := by decide +kernel
theorem dX11_cut_298 : decode cX11_cut 298 = .ok (.aload 5, 2) := by decide +kernel
theorem dX11_cut_300 : decode cX11_cut 300 = .ok (.dup, 1) := by decide +kernel
theorem dX11_cut_301 : decode cX11_cut 301 = .ok (.getfield 258, 3) := by decide +kernel
theorem dX11_cut_304 : decode cX11_cut 304 = .ok (.iconst 1, 1) := by decide +kernel
theorem dX11_cut_305 : decode cX11_cut 305 = .ok (.iadd, 1) := by decide +kernel
theorem dX11_cut_306 : decode cX11_cut 306 = .ok (.putfield 258, 3) := by decide +kernel
theorem dX11_cut_309 : decode cX11_cut 309 = .ok (.aload 5, 2) := by decide +kernel
theorem dX11_cut_311 : decode cX11_cut 311 = .ok (.iload 8, 2) := by decide +kernel
theorem dX11_cut_313 : decode cX11_cut 313 = .ok (.putfield 230, 3) := by decide +kernel
theorem dX11_cut_316 : decode cX11_cut 316 = .ok (.aload_n 0, 1) := by decide +kernel
theorem dX11_cut_317 : decode cX11_cut 317 = .ok (.dup, 1) := by decide +kernel
theorem dX11_cut_318 : decode cX11_cut 318 = .ok (.getfield 268, 3) := by decide +kernel
theorem dX11_cut_321 : decode cX11_cut 321 = .ok (.aload 4, 2) := by decide +kernel
theorem dX11_cut_323 : decode cX11_cut 323 = .ok (.getfield 272, 3) := by decide +kernel
theorem dX11_cut_326 : decode cX11_cut 326 = .ok (.i2l, 1) := by decide +kernel
theorem dX11_cut_327 : decode cX11_cut 327 = .ok (.aload 5, 2) := by decide +kernel
theorem dX11_cut_329 : decode cX11_cut 329 = .ok (.getfield 275, 3) := by decide +kernel
theorem dX11_cut_332 : decode cX11_cut 332 = .ok (.i2l, 1) := by decide +kernel
theorem dX11_cut_333 : decode cX11_cut 333 = .ok (.iload 6, 2) := by decide +kernel
theorem dX11_cut_335 : decode cX11_cut 335 = .ok (.i2l, 1) := by decide +kernel
theorem dX11_cut_336 : decode cX11_cut 336 = .ok (.lmul, 1) := by decide +kernel
theorem dX11_cut_337 : decode cX11_cut 337 = .ok (.ladd, 1) := by decide +kernel
theorem dX11_cut_338 : decode cX11_cut 338 = .ok (.ladd, 1) := by decide +kernel
theorem dX11_cut_339 : decode cX11_cut 339 = .ok (.putfield 268, 3) := by decide +kernel
theorem dX11_cut_342 : decode cX11_cut 342 = .ok (.aload_n 0, 1) := by decide +kernel
theorem dX11_cut_343 : decode cX11_cut 343 = .ok (.dup, 1) := by decide +kernel
theorem dX11_cut_344 : decode cX11_cut 344 = .ok (.getfield 278, 3) := by decide +kernel
theorem dX11_cut_347 : decode cX11_cut 347 = .ok (.iload 6, 2) := by decide +kernel
theorem dX11_cut_349 : decode cX11_cut 349 = .ok (.iadd, 1) := by decide +kernel
theorem dX11_cut_350 : decode cX11_cut 350 = .ok (.putfield 278, 3) := by decide +kernel
theorem dX11_cut_353 : decode cX11_cut 353 = .ok (.aload_n 0, 1) := by decide +kernel
theorem dX11_cut_354 : decode cX11_cut 354 = .ok (.dup, 1) := by decide +kernel
theorem dX11_cut_355 : decode cX11_cut 355 = .ok (.getfield 281, 3) := by decide +kernel
theorem dX11_cut_358 : decode cX11_cut 358 = .ok (.iconst 2, 1) := by decide +kernel
theorem dX11_cut_359 : decode cX11_cut 359 = .ok (.aload 4, 2) := by decide +kernel
theorem dX11_cut_361 : decode cX11_cut 361 = .ok (.getfield 206, 3) := by decide +kernel
theorem dX11_cut_364 : decode cX11_cut 364 = .ok (.imul, 1) := by decide +kernel
theorem dX11_cut_365 : decode cX11_cut 365 = .ok (.aload 4, 2) := by decide +kernel
theorem dX11_cut_367 : decode cX11_cut 367 = .ok (.getfield 209, 3) := by decide +kernel
theorem dX11_cut_370 : decode cX11_cut 370 = .ok (.imul, 1) := by decide +kernel
theorem dX11_cut_371 : decode cX11_cut 371 = .ok (.iadd, 1) := by decide +kernel
theorem dX11_cut_372 : decode cX11_cut 372 = .ok (.putfield 281, 3) := by decide +kernel
theorem dX11_cut_375 : decode cX11_cut 375 = .ok (.aload_n 0, 1) := by decide +kernel
theorem dX11_cut_376 : decode cX11_cut 376 = .ok (.dup, 1) := by decide +kernel
theorem dX11_cut_377 : decode cX11_cut 377 = .ok (.getfield 284, 3) := by decide +kernel
theorem dX11_cut_380 : decode cX11_cut 380 = .ok (.iconst 2, 1) := by decide +kernel
theorem dX11_cut_381 : decode cX11_cut 381 = .ok (.aload 4, 2) := by decide +kernel
theorem dX11_cut_383 : decode cX11_cut 383 = .ok (.getfield 206, 3) := by decide +kernel
theorem dX11_cut_386 : decode cX11_cut 386 = .ok (.imul, 1) := by decide +kernel
theorem dX11_cut_387 : decode cX11_cut 387 = .ok (.aload 4, 2) := by decide +kernel
theorem dX11_cut_389 : decode cX11_cut 389 = .ok (.getfield 209, 3) := by decide +kernel
theorem dX11_cut_392 : decode cX11_cut 392 = .ok (.imul, 1) := by decide +kernel
theorem dX11_cut_393 : decode cX11_cut 393 = .ok (.iload 6, 2) := by decide +kernel
theorem dX11_cut_395 : decode cX11_cut 395 = .ok (.isub, 1) := by decide +kernel
theorem dX11_cut_396 : decode cX11_cut 396 = .ok (.iadd, 1) := by decide +kernel
theorem dX11_cut_397 : decode cX11_cut 397 = .ok (.putfield 284, 3) := by decide +kernel
theorem dX11_cut_400 : decode cX11_cut 400 = .ok (.aload_n 0, 1) := by decide +kernel
theorem dX11_cut_401 : decode cX11_cut 401 = .ok (.getfield 22, 3) := by decide +kernel
theorem dX11_cut_404 : decode cX11_cut 404 = .ok (.invokeinterface 42 1, 5) := by decide +kernel
theorem dX11_cut_409 : decode cX11_cut 409 = .ok (.iconst 1, 1) := by decide +kernel
theorem dX11_cut_410 : decode cX11_cut 410 = .ok (.isub, 1) := by decide +kernel
theorem dX11_cut_411 : decode cX11_cut 411 = .ok (.ireturn, 1) := by decide +kernel
theorem dX11_isStone_0 : decode cX11_isStone 0 = .ok (.iload_n 1, 1) := by decide +kernel
theorem dX11_isStone_1 : decode cX11_isStone 1 = .ok (.i2l, 1) := by decide +kernel
theorem dX11_isStone_2 : decode cX11_isStone 2 = .ok (.lconst 0, 1) := by decide +kernel
theorem dX11_isStone_3 : decode cX11_isStone 3 = .ok (.aload_n 0, 1) := by decide +kernel
theorem dX11_isStone_4 : decode cX11_isStone 4 = .ok (.getfield 22, 3) := by decide +kernel
theorem dX11_isStone_7 : decode cX11_isStone 7 = .ok (.invokeinterface 42 1, 5) := by decide +kernel
theorem dX11_isStone_12 : decode cX11_isStone 12 = .ok (.iconst 1, 1) := by decide +kernel
theorem dX11_isStone_13 : decode cX11_isStone 13 = .ok (.isub, 1) := by decide +kernel
theorem dX11_isStone_14 : decode cX11_isStone 14 = .ok (.i2l, 1) := by decide +kernel
theorem dX11_isStone_15 : decode cX11_isStone 15 = .ok (.invokestatic 57, 3) := by decide +kernel
theorem dX11_isStone_18 : decode cX11_isStone 18 = .ok (.ireturn, 1) := by decide +kernel
theorem dX11_noStone_0 : decode cX11_noStone 0 = .ok (.aload_n 0, 1) := by decide +kernel
theorem dX11_noStone_1 : decode cX11_noStone 1 = .ok (.aload_n 0, 1) := by decide +kernel
theorem dX11_noStone_2 : decode cX11_noStone 2 = .ok (.iload_n 1, 1) := by decide +kernel
theorem dX11_noStone_3 : decode cX11_noStone 3 = .ok (.invokevirtual 287, 3) := by decide +kernel
theorem dX11_noStone_6 : decode cX11_noStone 6 = .ok (.iconst 1, 1) := by decide +kernel
theorem dX11_noStone_7 : decode cX11_noStone 7 = .ok (.invokevirtual 65, 3) := by decide +kernel
theorem dX11_noStone_10 : decode cX11_noStone 10 = .ok (.ireturn, 1) := by decide +kernel
theorem dX11_readyOn_0 : decode cX11_readyOn 0 = .ok (.aload_n 0, 1) := by decide +kernel
theorem dX11_readyOn_1 : decode cX11_readyOn 1 = .ok (.iload_n 1, 1) := by decide +kernel
theorem dX11_readyOn_2 : decode cX11_readyOn 2 = .ok (.invokevirtual 290, 3) := by decide +kernel
theorem dX11_readyOn_5 : decode cX11_readyOn 5 = .ok (.ifCond .eq 7, 3) := by decide +kernel
theorem dX11_readyOn_8 : decode cX11_readyOn 8 = .ok (.iconst 0, 1) := by decide +kernel
theorem dX11_readyOn_9 : decode cX11_readyOn 9 = .ok (.goto 19, 3) := by decide +kernel
theorem dX11_readyOn_12 : decode cX11_readyOn 12 = .ok (.aload_n 0, 1) := by decide +kernel
theorem dX11_readyOn_13 : decode cX11_readyOn 13 = .ok (.getfield 22, 3) := by decide +kernel
theorem dX11_readyOn_16 : decode cX11_readyOn 16 = .ok (.iload_n 1, 1) := by decide +kernel
theorem dX11_readyOn_17 : decode cX11_readyOn 17 = .ok (.invokeinterface 83 2, 5) := by decide +kernel
theorem dX11_readyOn_22 : decode cX11_readyOn 22 = .ok (.checkcast 233, 3) := by decide +kernel
theorem dX11_readyOn_25 : decode cX11_readyOn 25 = .ok (.getfield 293, 3) := by decide +kernel
theorem dX11_readyOn_28 : decode cX11_readyOn 28 = .ok (.ireturn, 1) := by decide +kernel
theorem dX11_stateOf_0 : decode cX11_stateOf 0 = .ok (.aload_n 0, 1) := by decide +kernel
theorem dX11_stateOf_1 : decode cX11_stateOf 1 = .ok (.iload_n 1, 1) := by decide +kernel
theorem dX11_stateOf_2 : decode cX11_stateOf 2 = .ok (.invokevirtual 290, 3) := by decide +kernel
theorem dX11_stateOf_5 : decode cX11_stateOf 5 = .ok (.ifCond .eq 8, 3) := by decide +kernel
theorem dX11_stateOf_8 : decode cX11_stateOf 8 = .ok (.bipush 99, 2) := by decide +kernel
theorem dX11_stateOf_10 : decode cX11_stateOf 10 = .ok (.goto 8, 3) := by decide +kernel
theorem dX11_stateOf_13 : decode cX11_stateOf 13 = .ok (.aload_n 0, 1) := by decide +kernel
theorem dX11_stateOf_14 : decode cX11_stateOf 14 = .ok (.iload_n 1, 1) := by decide +kernel
theorem dX11_stateOf_15 : decode cX11_stateOf 15 = .ok (.invokevirtual 300, 3) := by decide +kernel
theorem dX11_stateOf_18 : decode cX11_stateOf 18 = .ok (.ireturn, 1) := by decide +kernel
theorem dX11_mark_0 : decode cX11_mark 0 = .ok (.aload_n 0, 1) := by decide +kernel
theorem dX11_mark_1 : decode cX11_mark 1 = .ok (.iload_n 1, 1) := by decide +kernel
theorem dX11_mark_2 : decode cX11_mark 2 = .ok (.invokevirtual 290, 3) := by decide +kernel
theorem dX11_mark_5 : decode cX11_mark 5 = .ok (.ifCond .eq 7, 3) := by decide +kernel
theorem dX11_mark_8 : decode cX11_mark 8 = .ok (.iconst 0, 1) := by decide +kernel
theorem dX11_mark_9 : decode cX11_mark 9 = .ok (.goto 22, 3) := by decide +kernel
theorem dX11_mark_12 : decode cX11_mark 12 = .ok (.aload_n 0, 1) := by decide +kernel
theorem dX11_mark_13 : decode cX11_mark 13 = .ok (.getfield 22, 3) := by decide +kernel
theorem dX11_mark_16 : decode cX11_mark 16 = .ok (.iload_n 1, 1) := by decide +kernel
theorem dX11_mark_17 : decode cX11_mark 17 = .ok (.invokeinterface 83 2, 5) := by decide +kernel
theorem dX11_mark_22 : decode cX11_mark 22 = .ok (.checkcast 233, 3) := by decide +kernel
theorem dX11_mark_25 : decode cX11_mark 25 = .ok (.getfield 304, 3) := by decide +kernel
theorem dX11_mark_28 : decode cX11_mark 28 = .ok (.invokevirtual 308, 3) := by decide +kernel
theorem dX11_mark_31 : decode cX11_mark 31 = .ok (.ireturn, 1) := by decide +kernel
theorem dX11_markAt_0 : decode cX11_markAt 0 = .ok (.aload_n 0, 1) := by decide +kernel
theorem dX11_markAt_1 : decode cX11_markAt 1 = .ok (.aload_n 0, 1) := by decide +kernel
theorem dX11_markAt_2 : decode cX11_markAt 2 = .ok (.iload_n 1, 1) := by decide +kernel
theorem dX11_markAt_3 : decode cX11_markAt 3 = .ok (.invokevirtual 287, 3) := by decide +kernel
theorem dX11_markAt_6 : decode cX11_markAt 6 = .ok (.ifCond .eq 38, 3) := by decide +kernel
theorem dX11_markAt_9 : decode cX11_markAt 9 = .ok (.iload_n 2, 1) := by decide +kernel
theorem dX11_markAt_10 : decode cX11_markAt 10 = .ok (.i2l, 1) := by decide +kernel
theorem dX11_markAt_11 : decode cX11_markAt 11 = .ok (.lconst 0, 1) := by decide +kernel
theorem dX11_markAt_12 : decode cX11_markAt 12 = .ok (.aload_n 0, 1) := by decide +kernel
theorem dX11_markAt_13 : decode cX11_markAt 13 = .ok (.getfield 22, 3) := by decide +kernel
theorem dX11_markAt_16 : decode cX11_markAt 16 = .ok (.iload_n 1, 1) := by decide +kernel
theorem dX11_markAt_17 : decode cX11_markAt 17 = .ok (.invokeinterface 83 2, 5) := by decide +kernel
theorem dX11_markAt_22 : decode cX11_markAt 22 = .ok (.checkcast 233, 3) := by decide +kernel
theorem dX11_markAt_25 : decode cX11_markAt 25 = .ok (.getfield 304, 3) := by decide +kernel
theorem dX11_markAt_28 : decode cX11_markAt 28 = .ok (.invokevirtual 308, 3) := by decide +kernel
theorem dX11_markAt_31 : decode cX11_markAt 31 = .ok (.iconst 1, 1) := by decide +kernel
theorem dX11_markAt_32 : decode cX11_markAt 32 = .ok (.isub, 1) := by decide +kernel
theorem dX11_markAt_33 : decode cX11_markAt 33 = .ok (.i2l, 1) := by decide +kernel
theorem dX11_markAt_34 : decode cX11_markAt 34 = .ok (.invokestatic 57, 3) := by decide +kernel
theorem dX11_markAt_37 : decode cX11_markAt 37 = .ok (.ifCond .eq 7, 3) := by decide +kernel
theorem dX11_markAt_40 : decode cX11_markAt 40 = .ok (.iconst 1, 1) := by decide +kernel
theorem dX11_markAt_41 : decode cX11_markAt 41 = .ok (.goto 4, 3) := by decide +kernel
theorem dX11_markAt_44 : decode cX11_markAt 44 = .ok (.iconst 0, 1) := by decide +kernel
theorem dX11_markAt_45 : decode cX11_markAt 45 = .ok (.iconst 1, 1) := by decide +kernel
theorem dX11_markAt_46 : decode cX11_markAt 46 = .ok (.invokevirtual 65, 3) := by decide +kernel
theorem dX11_markAt_49 : decode cX11_markAt 49 = .ok (.ifCond .eq 8, 3) := by decide +kernel
theorem dX11_markAt_52 : decode cX11_markAt 52 = .ok (.bipush 65, 2) := by decide +kernel
theorem dX11_markAt_54 : decode cX11_markAt 54 = .ok (.goto 23, 3) := by decide +kernel
theorem dX11_markAt_57 : decode cX11_markAt 57 = .ok (.aload_n 0, 1) := by decide +kernel
theorem dX11_markAt_58 : decode cX11_markAt 58 = .ok (.getfield 22, 3) := by decide +kernel
theorem dX11_markAt_61 : decode cX11_markAt 61 = .ok (.iload_n 1, 1) := by decide +kernel
theorem dX11_markAt_62 : decode cX11_markAt 62 = .ok (.invokeinterface 83 2, 5) := by decide +kernel
theorem dX11_markAt_67 : decode cX11_markAt 67 = .ok (.checkcast 233, 3) := by decide +kernel
theorem dX11_markAt_70 : decode cX11_markAt 70 = .ok (.getfield 304, 3) := by decide +kernel
theorem dX11_markAt_73 : decode cX11_markAt 73 = .ok (.iload_n 2, 1) := by decide +kernel
theorem dX11_markAt_74 : decode cX11_markAt 74 = .ok (.invokevirtual 313, 3) := by decide +kernel
theorem dX11_markAt_77 : decode cX11_markAt 77 = .ok (.ireturn, 1) := by decide +kernel
theorem dX11_fits_0 : decode cX11_fits 0 = .ok (.aload_n 0, 1) := by decide +kernel
theorem dX11_fits_1 : decode cX11_fits 1 = .ok (.aload_n 0, 1) := by decide +kernel
theorem dX11_fits_2 : decode cX11_fits 2 = .ok (.iload_n 1, 1) := by decide +kernel
theorem dX11_fits_3 : decode cX11_fits 3 = .ok (.invokevirtual 287, 3) := by decide +kernel
theorem dX11_fits_6 : decode cX11_fits 6 = .ok (.ifCond .eq 15, 3) := by decide +kernel
theorem dX11_fits_9 : decode cX11_fits 9 = .ok (.aload_n 0, 1) := by decide +kernel
theorem dX11_fits_10 : decode cX11_fits 10 = .ok (.iload_n 2, 1) := by decide +kernel
theorem dX11_fits_11 : decode cX11_fits 11 = .ok (.invokevirtual 61, 3) := by decide +kernel
theorem dX11_fits_14 : decode cX11_fits 14 = .ok (.ifCond .eq 7, 3) := by decide +kernel
theorem dX11_fits_17 : decode cX11_fits 17 = .ok (.iconst 1, 1) := by decide +kernel
theorem dX11_fits_18 : decode cX11_fits 18 = .ok (.goto 4, 3) := by decide +kernel
theorem dX11_fits_21 : decode cX11_fits 21 = .ok (.iconst 0, 1) := by decide +kernel
theorem dX11_fits_22 : decode cX11_fits 22 = .ok (.iconst 1, 1) := by decide +kernel
theorem dX11_fits_23 : decode cX11_fits 23 = .ok (.invokevirtual 65, 3) := by decide +kernel
theorem dX11_fits_26 : decode cX11_fits 26 = .ok (.ifCond .ne 16, 3) := by decide +kernel
theorem dX11_fits_29 : decode cX11_fits 29 = .ok (.aload_n 0, 1) := by decide +kernel
theorem dX11_fits_30 : decode cX11_fits 30 = .ok (.iload_n 1, 1) := by decide +kernel
theorem dX11_fits_31 : decode cX11_fits 31 = .ok (.iload_n 2, 1) := by decide +kernel
theorem dX11_fits_32 : decode cX11_fits 32 = .ok (.invokevirtual 319, 3) := by decide +kernel
theorem dX11_fits_35 : decode cX11_fits 35 = .ok (.ifCond .eq 7, 3) := by decide +kernel
theorem dX11_fits_38 : decode cX11_fits 38 = .ok (.iconst 1, 1) := by decide +kernel
theorem dX11_fits_39 : decode cX11_fits 39 = .ok (.goto 4, 3) := by decide +kernel
theorem dX11_fits_42 : decode cX11_fits 42 = .ok (.iconst 0, 1) := by decide +kernel
theorem dX11_fits_43 : decode cX11_fits 43 = .ok (.ireturn, 1) := by decide +kernel
theorem dX11_setCentre_0 : decode cX11_setCentre 0 = .ok (.aload_n 0, 1) := by decide +kernel
theorem dX11_setCentre_1 : decode cX11_setCentre 1 = .ok (.iload_n 1, 1) := by decide +kernel
theorem dX11_setCentre_2 : decode cX11_setCentre 2 = .ok (.i2l, 1) := by decide +kernel
theorem dX11_setCentre_3 : decode cX11_setCentre 3 = .ok (.lconst 1, 1) := by decide +kernel
theorem dX11_setCentre_4 : decode cX11_setCentre 4 = .ok (.ldc2_w 323, 3) := by decide +kernel
theorem dX11_setCentre_7 : decode cX11_setCentre 7 = .ok (.invokestatic 57, 3) := by decide +kernel
theorem dX11_setCentre_10 : decode cX11_setCentre 10 = .ok (.iconst 1, 1) := by decide +kernel
theorem dX11_setCentre_11 : decode cX11_setCentre 11 = .ok (.invokevirtual 65, 3) := by decide +kernel
theorem dX11_setCentre_14 : decode cX11_setCentre 14 = .ok (.ifCond .ne 31, 3) := by decide +kernel
theorem dX11_setCentre_17 : decode cX11_setCentre 17 = .ok (.aload_n 0, 1) := by decide +kernel
theorem dX11_setCentre_18 : decode cX11_setCentre 18 = .ok (.aload_n 0, 1) := by decide +kernel
theorem dX11_setCentre_19 : decode cX11_setCentre 19 = .ok (.getfield 36, 3) := by decide +kernel
theorem dX11_setCentre_22 : decode cX11_setCentre 22 = .ok (.iconst (-1), 1) := by decide +kernel
theorem dX11_setCentre_23 : decode cX11_setCentre 23 = .ok (.if_icmp .ne 14, 3) := by decide +kernel
theorem dX11_setCentre_26 : decode cX11_setCentre 26 = .ok (.aload_n 0, 1) := by decide +kernel
theorem dX11_setCentre_27 : decode cX11_setCentre 27 = .ok (.getfield 325, 3) := by decide +kernel
theorem dX11_setCentre_30 : decode cX11_setCentre 30 = .ok (.ifCond .ne 7, 3) := by decide +kernel
theorem dX11_setCentre_33 : decode cX11_setCentre 33 = .ok (.iconst 1, 1) := by decide +kernel
theorem dX11_setCentre_34 : decode cX11_setCentre 34 = .ok (.goto 4, 3) := by decide +kernel
theorem dX11_setCentre_37 : decode cX11_setCentre 37 = .ok (.iconst 0, 1) := by decide +kernel
theorem dX11_setCentre_38 : decode cX11_setCentre 38 = .ok (.iconst 2, 1) := by decide +kernel
theorem dX11_setCentre_39 : decode cX11_setCentre 39 = .ok (.invokevirtual 65, 3) := by decide +kernel
theorem dX11_setCentre_42 : decode cX11_setCentre 42 = .ok (.ifCond .eq 5, 3) := by decide +kernel
theorem dX11_setCentre_45 : decode cX11_setCentre 45 = .ok (.iconst 0, 1) := by decide +kernel
theorem dX11_setCentre_46 : decode cX11_setCentre 46 = .ok (.ireturn, 1) := by decide +kernel
theorem dX11_setCentre_47 : decode cX11_setCentre 47 = .ok (.aload_n 0, 1) := by decide +kernel
theorem dX11_setCentre_48 : decode cX11_setCentre 48 = .ok (.iload_n 1, 1) := by decide +kernel
theorem dX11_setCentre_49 : decode cX11_setCentre 49 = .ok (.putfield 36, 3) := by decide +kernel
theorem dX11_setCentre_52 : decode cX11_setCentre 52 = .ok (.iconst 0, 1) := by decide +kernel
theorem dX11_setCentre_53 : decode cX11_setCentre 53 = .ok (.istore_n 2, 1) := by decide +kernel
theorem dX11_setCentre_54 : decode cX11_setCentre 54 = .ok (.iconst 0, 1) := by decide +kernel
theorem dX11_setCentre_55 : decode cX11_setCentre 55 = .ok (.istore_n 3, 1) := by decide +kernel
theorem dX11_setCentre_56 : decode cX11_setCentre 56 = .ok (.iload_n 3, 1) := by decide +kernel
theorem dX11_setCentre_57 : decode cX11_setCentre 57 = .ok (.aload_n 0, 1) := by decide +kernel
theorem dX11_setCentre_58 : decode cX11_setCentre 58 = .ok (.invokevirtual 54, 3) := by decide +kernel
theorem dX11_setCentre_61 : decode cX11_setCentre 61 = .ok (.if_icmp .ge 17, 3) := by decide +kernel
theorem dX11_setCentre_64 : decode cX11_setCentre 64 = .ok (.iload_n 2, 1) := by decide +kernel
theorem dX11_setCentre_65 : decode cX11_setCentre 65 = .ok (.aload_n 0, 1) := by decide +kernel
theorem dX11_setCentre_66 : decode cX11_setCentre 66 = .ok (.iload_n 3, 1) := by decide +kernel
theorem dX11_setCentre_67 : decode cX11_setCentre 67 = .ok (.invokevirtual 119, 3) := by decide +kernel
theorem dX11_setCentre_70 : decode cX11_setCentre 70 = .ok (.iadd, 1) := by decide +kernel
theorem dX11_setCentre_71 : decode cX11_setCentre 71 = .ok (.istore_n 2, 1) := by decide +kernel
theorem dX11_setCentre_72 : decode cX11_setCentre 72 = .ok (.iinc 3 1, 3) := by decide +kernel
theorem dX11_setCentre_75 : decode cX11_setCentre 75 = .ok (.goto (-19), 3) := by decide +kernel
theorem dX11_setCentre_78 : decode cX11_setCentre 78 = .ok (.iload_n 2, 1) := by decide +kernel
theorem dX11_setCentre_79 : decode cX11_setCentre 79 = .ok (.ireturn, 1) := by decide +kernel
theorem dX11_set_0 : decode cX11_set 0 = .ok (.aload_n 0, 1) := by decide +kernel
theorem dX11_set_1 : decode cX11_set 1 = .ok (.aload_n 0, 1) := by decide +kernel
theorem dX11_set_2 : decode cX11_set 2 = .ok (.iload_n 1, 1) := by decide +kernel
theorem dX11_set_3 : decode cX11_set 3 = .ok (.invokevirtual 287, 3) := by decide +kernel
theorem dX11_set_6 : decode cX11_set 6 = .ok (.ifCond .eq 15, 3) := by decide +kernel
theorem dX11_set_9 : decode cX11_set 9 = .ok (.aload_n 0, 1) := by decide +kernel
theorem dX11_set_10 : decode cX11_set 10 = .ok (.iload_n 2, 1) := by decide +kernel
theorem dX11_set_11 : decode cX11_set 11 = .ok (.invokevirtual 61, 3) := by decide +kernel
theorem dX11_set_14 : decode cX11_set 14 = .ok (.ifCond .eq 7, 3) := by decide +kernel
theorem dX11_set_17 : decode cX11_set 17 = .ok (.iconst 1, 1) := by decide +kernel
theorem dX11_set_18 : decode cX11_set 18 = .ok (.goto 4, 3) := by decide +kernel
theorem dX11_set_21 : decode cX11_set 21 = .ok (.iconst 0, 1) := by decide +kernel
theorem dX11_set_22 : decode cX11_set 22 = .ok (.iconst 1, 1) := by decide +kernel
theorem dX11_set_23 : decode cX11_set 23 = .ok (.invokevirtual 65, 3) := by decide +kernel
theorem dX11_set_26 : decode cX11_set 26 = .ok (.ifCond .ne 17, 3) := by decide +kernel
theorem dX11_set_29 : decode cX11_set 29 = .ok (.aload_n 0, 1) := by decide +kernel
theorem dX11_set_30 : decode cX11_set 30 = .ok (.aload_n 0, 1) := by decide +kernel
theorem dX11_set_31 : decode cX11_set 31 = .ok (.iload_n 1, 1) := by decide +kernel
theorem dX11_set_32 : decode cX11_set 32 = .ok (.iload_n 2, 1) := by decide +kernel
theorem dX11_set_33 : decode cX11_set 33 = .ok (.invokevirtual 319, 3) := by decide +kernel
theorem dX11_set_36 : decode cX11_set 36 = .ok (.iconst 2, 1) := by decide +kernel
theorem dX11_set_37 : decode cX11_set 37 = .ok (.invokevirtual 65, 3) := by decide +kernel
theorem dX11_set_40 : decode cX11_set 40 = .ok (.ifCond .eq 5, 3) := by decide +kernel
theorem dX11_set_43 : decode cX11_set 43 = .ok (.iconst 0, 1) := by decide +kernel
theorem dX11_set_44 : decode cX11_set 44 = .ok (.ireturn, 1) := by decide +kernel
theorem dX11_set_45 : decode cX11_set 45 = .ok (.iload_n 2, 1) := by decide +kernel
theorem dX11_set_46 : decode cX11_set 46 = .ok (.ifCond .eq 37, 3) := by decide +kernel
theorem dX11_set_49 : decode cX11_set 49 = .ok (.iload_n 2, 1) := by decide +kernel
theorem dX11_set_50 : decode cX11_set 50 = .ok (.aload_n 0, 1) := by decide +kernel
theorem dX11_set_51 : decode cX11_set 51 = .ok (.invokevirtual 54, 3) := by decide +kernel
theorem dX11_set_54 : decode cX11_set 54 = .ok (.iconst 1, 1) := by decide +kernel
theorem dX11_set_55 : decode cX11_set 55 = .ok (.isub, 1) := by decide +kernel
theorem dX11_set_56 : decode cX11_set 56 = .ok (.if_icmp .eq 27, 3) := by decide +kernel
theorem dX11_set_59 : decode cX11_set 59 = .ok (.aload_n 0, 1) := by decide +kernel
theorem dX11_set_60 : decode cX11_set 60 = .ok (.getfield 25, 3) := by decide +kernel
theorem dX11_set_63 : decode cX11_set 63 = .ok (.iload_n 2, 1) := by decide +kernel
theorem dX11_set_64 : decode cX11_set 64 = .ok (.iconst 1, 1) := by decide +kernel
theorem dX11_set_65 : decode cX11_set 65 = .ok (.isub, 1) := by decide +kernel
theorem dX11_set_66 : decode cX11_set 66 = .ok (.iaload, 1) := by decide +kernel
theorem dX11_set_67 : decode cX11_set 67 = .ok (.iconst (-1), 1) := by decide +kernel
theorem dX11_set_68 : decode cX11_set 68 = .ok (.if_icmp .ne 15, 3) := by decide +kernel
theorem dX11_set_71 : decode cX11_set 71 = .ok (.aload_n 0, 1) := by decide +kernel
theorem dX11_set_72 : decode cX11_set 72 = .ok (.getfield 25, 3) := by decide +kernel
theorem dX11_set_75 : decode cX11_set 75 = .ok (.iload_n 2, 1) := by decide +kernel
theorem dX11_set_76 : decode cX11_set 76 = .ok (.iconst 1, 1) := by decide +kernel
theorem dX11_set_77 : decode cX11_set 77 = .ok (.iadd, 1) := by decide +kernel
theorem dX11_set_78 : decode cX11_set 78 = .ok (.iaload, 1) := by decide +kernel
theorem dX11_set_79 : decode cX11_set 79 = .ok (.iconst (-1), 1) := by decide +kernel
theorem dX11_set_80 : decode cX11_set 80 = .ok (.if_icmp .eq 7, 3) := by decide +kernel
theorem dX11_set_83 : decode cX11_set 83 = .ok (.iconst 1, 1) := by decide +kernel
theorem dX11_set_84 : decode cX11_set 84 = .ok (.goto 4, 3) := by decide +kernel
theorem dX11_set_87 : decode cX11_set 87 = .ok (.iconst 0, 1) := by decide +kernel
theorem dX11_set_88 : decode cX11_set 88 = .ok (.istore_n 3, 1) := by decide +kernel
theorem dX11_set_89 : decode cX11_set 89 = .ok (.aload_n 0, 1) := by decide +kernel
theorem dX11_set_90 : decode cX11_set 90 = .ok (.iload_n 2, 1) := by decide +kernel
theorem dX11_set_91 : decode cX11_set 91 = .ok (.invokevirtual 119, 3) := by decide +kernel
theorem dX11_set_94 : decode cX11_set 94 = .ok (.istore 4, 2) := by decide +kernel
theorem dX11_set_96 : decode cX11_set 96 = .ok (.iconst 0, 1) := by decide +kernel
theorem dX11_set_97 : decode cX11_set 97 = .ok (.istore 5, 2) := by decide +kernel
theorem dX11_set_99 : decode cX11_set 99 = .ok (.iload 5, 2) := by decide +kernel
theorem dX11_set_101 : decode cX11_set 101 = .ok (.aload_n 0, 1) := by decide +kernel
theorem dX11_set_102 : decode cX11_set 102 = .ok (.invokevirtual 54, 3) := by decide +kernel
theorem dX11_set_105 : decode cX11_set 105 = .ok (.if_icmp .ge 35, 3) := by decide +kernel
theorem dX11_set_108 : decode cX11_set 108 = .ok (.iload 4, 2) := by decide +kernel
theorem dX11_set_110 : decode cX11_set 110 = .ok (.aload_n 0, 1) := by decide +kernel
theorem dX11_set_111 : decode cX11_set 111 = .ok (.getfield 25, 3) := by decide +kernel
theorem dX11_set_114 : decode cX11_set 114 = .ok (.iload 5, 2) := by decide +kernel
theorem dX11_set_116 : decode cX11_set 116 = .ok (.iaload, 1) := by decide +kernel
theorem dX11_set_117 : decode cX11_set 117 = .ok (.iconst (-1), 1) := by decide +kernel
theorem dX11_set_118 : decode cX11_set 118 = .ok (.if_icmp .ne 7, 3) := by decide +kernel
theorem dX11_set_121 : decode cX11_set 121 = .ok (.iconst 0, 1) := by decide +kernel
theorem dX11_set_122 : decode cX11_set 122 = .ok (.goto 9, 3) := by decide +kernel
theorem dX11_set_125 : decode cX11_set 125 = .ok (.aload_n 0, 1) := by decide +kernel
theorem dX11_set_126 : decode cX11_set 126 = .ok (.iload 5, 2) := by decide +kernel
theorem dX11_set_128 : decode cX11_set 128 = .ok (.invokevirtual 119, 3) := by decide +kernel
theorem dX11_set_131 : decode cX11_set 131 = .ok (.iadd, 1) := by decide +kernel
theorem dX11_set_132 : decode cX11_set 132 = .ok (.istore 4, 2) := by decide +kernel
theorem dX11_set_134 : decode cX11_set 134 = .ok (.iinc 5 1, 3) := by decide +kernel
theorem dX11_set_137 : decode cX11_set 137 = .ok (.goto (-38), 3) := by decide +kernel
theorem dX11_set_140 : decode cX11_set 140 = .ok (.aload_n 0, 1) := by decide +kernel
theorem dX11_set_141 : decode cX11_set 141 = .ok (.aload_n 0, 1) := by decide +kernel
theorem dX11_set_142 : decode cX11_set 142 = .ok (.iload_n 1, 1) := by decide +kernel
theorem dX11_set_143 : decode cX11_set 143 = .ok (.invokevirtual 300, 3) := by decide +kernel
theorem dX11_set_146 : decode cX11_set 146 = .ok (.bipush 121, 2) := by decide +kernel
theorem dX11_set_148 : decode cX11_set 148 = .ok (.if_icmp .ne 38, 3) := by decide +kernel
theorem dX11_set_151 : decode cX11_set 151 = .ok (.aload_n 0, 1) := by decide +kernel
theorem dX11_set_152 : decode cX11_set 152 = .ok (.getfield 25, 3) := by decide +kernel
theorem dX11_set_155 : decode cX11_set 155 = .ok (.iload_n 2, 1) := by decide +kernel
theorem dX11_set_156 : decode cX11_set 156 = .ok (.iaload, 1) := by decide +kernel
theorem dX11_set_157 : decode cX11_set 157 = .ok (.iconst (-1), 1) := by decide +kernel
theorem dX11_set_158 : decode cX11_set 158 = .ok (.if_icmp .ne 28, 3) := by decide +kernel
theorem dX11_set_161 : decode cX11_set 161 = .ok (.iload_n 3, 1) := by decide +kernel
theorem dX11_set_162 : decode cX11_set 162 = .ok (.ifCond .eq 24, 3) := by decide +kernel
theorem dX11_set_165 : decode cX11_set 165 = .ok (.aload_n 0, 1) := by decide +kernel
theorem dX11_set_166 : decode cX11_set 166 = .ok (.getfield 36, 3) := by decide +kernel
theorem dX11_set_169 : decode cX11_set 169 = .ok (.iconst (-1), 1) := by decide +kernel
theorem dX11_set_170 : decode cX11_set 170 = .ok (.if_icmp .eq 16, 3) := by decide +kernel
theorem dX11_set_173 : decode cX11_set 173 = .ok (.iload 4, 2) := by decide +kernel
theorem dX11_set_175 : decode cX11_set 175 = .ok (.aload_n 0, 1) := by decide +kernel
theorem dX11_set_176 : decode cX11_set 176 = .ok (.getfield 36, 3) := by decide +kernel
theorem dX11_set_179 : decode cX11_set 179 = .ok (.if_icmp .gt 7, 3) := by decide +kernel
theorem dX11_set_182 : decode cX11_set 182 = .ok (.iconst 1, 1) := by decide +kernel
theorem dX11_set_183 : decode cX11_set 183 = .ok (.goto 4, 3) := by decide +kernel
theorem dX11_set_186 : decode cX11_set 186 = .ok (.iconst 0, 1) := by decide +kernel
theorem dX11_set_187 : decode cX11_set 187 = .ok (.iconst 3, 1) := by decide +kernel
theorem dX11_set_188 : decode cX11_set 188 = .ok (.invokevirtual 65, 3) := by decide +kernel
theorem dX11_set_191 : decode cX11_set 191 = .ok (.ifCond .eq 5, 3) := by decide +kernel
theorem dX11_set_194 : decode cX11_set 194 = .ok (.iconst 0, 1) := by decide +kernel
theorem dX11_set_195 : decode cX11_set 195 = .ok (.ireturn, 1) := by decide +kernel
theorem dX11_set_196 : decode cX11_set 196 = .ok (.aload_n 0, 1) := by decide +kernel
theorem dX11_set_197 : decode cX11_set 197 = .ok (.getfield 25, 3) := by decide +kernel
theorem dX11_set_200 : decode cX11_set 200 = .ok (.iload_n 2, 1) := by decide +kernel
theorem dX11_set_201 : decode cX11_set 201 = .ok (.iload_n 1, 1) := by decide +kernel
theorem dX11_set_202 : decode cX11_set 202 = .ok (.iastore, 1) := by decide +kernel
theorem dX11_set_203 : decode cX11_set 203 = .ok (.aload_n 0, 1) := by decide +kernel
theorem dX11_set_204 : decode cX11_set 204 = .ok (.getfield 22, 3) := by decide +kernel
theorem dX11_set_207 : decode cX11_set 207 = .ok (.iload_n 1, 1) := by decide +kernel
theorem dX11_set_208 : decode cX11_set 208 = .ok (.invokeinterface 83 2, 5) := by decide +kernel
theorem dX11_set_213 : decode cX11_set 213 = .ok (.checkcast 233, 3) := by decide +kernel
theorem dX11_set_216 : decode cX11_set 216 = .ok (.bipush 115, 2) := by decide +kernel
theorem dX11_set_218 : decode cX11_set 218 = .ok (.putfield 296, 3) := by decide +kernel
theorem dX11_set_221 : decode cX11_set 221 = .ok (.aload_n 0, 1) := by decide +kernel
theorem dX11_set_222 : decode cX11_set 222 = .ok (.aload_n 0, 1) := by decide +kernel
theorem dX11_set_223 : decode cX11_set 223 = .ok (.getfield 182, 3) := by decide +kernel
theorem dX11_set_226 : decode cX11_set 226 = .ok (.putfield 180, 3) := by decide +kernel
theorem dX11_set_229 : decode cX11_set 229 = .ok (.aload_n 0, 1) := by decide +kernel
theorem dX11_set_230 : decode cX11_set 230 = .ok (.invokevirtual 92, 3) := by decide +kernel
theorem dX11_set_233 : decode cX11_set 233 = .ok (.ireturn, 1) := by decide +kernel
theorem dX11_stoneIn_0 : decode cX11_stoneIn 0 = .ok (.aload_n 0, 1) := by decide +kernel
theorem dX11_stoneIn_1 : decode cX11_stoneIn 1 = .ok (.iload_n 1, 1) := by decide +kernel
theorem dX11_stoneIn_2 : decode cX11_stoneIn 2 = .ok (.invokevirtual 116, 3) := by decide +kernel
theorem dX11_stoneIn_5 : decode cX11_stoneIn 5 = .ok (.ifCond .ne 26, 3) := by decide +kernel
theorem dX11_stoneIn_8 : decode cX11_stoneIn 8 = .ok (.aload_n 0, 1) := by decide +kernel
theorem dX11_stoneIn_9 : decode cX11_stoneIn 9 = .ok (.aload_n 0, 1) := by decide +kernel
theorem dX11_stoneIn_10 : decode cX11_stoneIn 10 = .ok (.getfield 25, 3) := by decide +kernel
theorem dX11_stoneIn_13 : decode cX11_stoneIn 13 = .ok (.iload_n 1, 1) := by decide +kernel
theorem dX11_stoneIn_14 : decode cX11_stoneIn 14 = .ok (.iaload, 1) := by decide +kernel
theorem dX11_stoneIn_15 : decode cX11_stoneIn 15 = .ok (.iconst (-1), 1) := by decide +kernel
theorem dX11_stoneIn_16 : decode cX11_stoneIn 16 = .ok (.if_icmp .eq 7, 3) := by decide +kernel
theorem dX11_stoneIn_19 : decode cX11_stoneIn 19 = .ok (.iconst 1, 1) := by decide +kernel
theorem dX11_stoneIn_20 : decode cX11_stoneIn 20 = .ok (.goto 4, 3) := by decide +kernel
theorem dX11_stoneIn_23 : decode cX11_stoneIn 23 = .ok (.iconst 0, 1) := by decide +kernel
theorem dX11_stoneIn_24 : decode cX11_stoneIn 24 = .ok (.iconst 2, 1) := by decide +kernel
theorem dX11_stoneIn_25 : decode cX11_stoneIn 25 = .ok (.invokevirtual 65, 3) := by decide +kernel
theorem dX11_stoneIn_28 : decode cX11_stoneIn 28 = .ok (.ifCond .eq 7, 3) := by decide +kernel
theorem dX11_stoneIn_31 : decode cX11_stoneIn 31 = .ok (.iconst 0, 1) := by decide +kernel
theorem dX11_stoneIn_32 : decode cX11_stoneIn 32 = .ok (.goto 9, 3) := by decide +kernel
theorem dX11_stoneIn_35 : decode cX11_stoneIn 35 = .ok (.aload_n 0, 1) := by decide +kernel
theorem dX11_stoneIn_36 : decode cX11_stoneIn 36 = .ok (.getfield 25, 3) := by decide +kernel
theorem dX11_stoneIn_39 : decode cX11_stoneIn 39 = .ok (.iload_n 1, 1) := by decide +kernel
theorem dX11_stoneIn_40 : decode cX11_stoneIn 40 = .ok (.iaload, 1) := by decide +kernel
theorem dX11_stoneIn_41 : decode cX11_stoneIn 41 = .ok (.ireturn, 1) := by decide +kernel
theorem dX11_strike_0 : decode cX11_strike 0 = .ok (.aload_n 0, 1) := by decide +kernel
theorem dX11_strike_1 : decode cX11_strike 1 = .ok (.aload_n 0, 1) := by decide +kernel
theorem dX11_strike_2 : decode cX11_strike 2 = .ok (.getfield 36, 3) := by decide +kernel
theorem dX11_strike_5 : decode cX11_strike 5 = .ok (.iconst (-1), 1) := by decide +kernel
theorem dX11_strike_6 : decode cX11_strike 6 = .ok (.if_icmp .eq 26, 3) := by decide +kernel
theorem dX11_strike_9 : decode cX11_strike 9 = .ok (.aload_n 0, 1) := by decide +kernel
theorem dX11_strike_10 : decode cX11_strike 10 = .ok (.invokevirtual 54, 3) := by decide +kernel
theorem dX11_strike_13 : decode cX11_strike 13 = .ok (.iconst 2, 1) := by decide +kernel
theorem dX11_strike_14 : decode cX11_strike 14 = .ok (.if_icmp .lt 18, 3) := by decide +kernel
theorem dX11_strike_17 : decode cX11_strike 17 = .ok (.aload_n 0, 1) := by decide +kernel
theorem dX11_strike_18 : decode cX11_strike 18 = .ok (.invokevirtual 92, 3) := by decide +kernel
theorem dX11_strike_21 : decode cX11_strike 21 = .ok (.aload_n 0, 1) := by decide +kernel
theorem dX11_strike_22 : decode cX11_strike 22 = .ok (.invokevirtual 54, 3) := by decide +kernel
theorem dX11_strike_25 : decode cX11_strike 25 = .ok (.if_icmp .ne 7, 3) := by decide +kernel
theorem dX11_strike_28 : decode cX11_strike 28 = .ok (.iconst 1, 1) := by decide +kernel
theorem dX11_strike_29 : decode cX11_strike 29 = .ok (.goto 4, 3) := by decide +kernel
theorem dX11_strike_32 : decode cX11_strike 32 = .ok (.iconst 0, 1) := by decide +kernel
theorem dX11_strike_33 : decode cX11_strike 33 = .ok (.iconst 1, 1) := by decide +kernel
theorem dX11_strike_34 : decode cX11_strike 34 = .ok (.invokevirtual 65, 3) := by decide +kernel
theorem dX11_strike_37 : decode cX11_strike 37 = .ok (.ifCond .eq 5, 3) := by decide +kernel
theorem dX11_strike_40 : decode cX11_strike 40 = .ok (.lconst 0, 1) := by decide +kernel
theorem dX11_strike_41 : decode cX11_strike 41 = .ok (.lreturn, 1) := by decide +kernel
theorem dX11_strike_42 : decode cX11_strike 42 = .ok (.aload_n 0, 1) := by decide +kernel
theorem dX11_strike_43 : decode cX11_strike 43 = .ok (.aload_n 0, 1) := by decide +kernel
theorem dX11_strike_44 : decode cX11_strike 44 = .ok (.invokevirtual 191, 3) := by decide +kernel
theorem dX11_strike_47 : decode cX11_strike 47 = .ok (.invokevirtual 164, 3) := by decide +kernel
theorem dX11_strike_50 : decode cX11_strike 50 = .ok (.astore_n 1, 1) := by decide +kernel
theorem dX11_strike_51 : decode cX11_strike 51 = .ok (.aload_n 0, 1) := by decide +kernel
theorem dX11_strike_52 : decode cX11_strike 52 = .ok (.aload_n 1, 1) := by decide +kernel
theorem dX11_strike_53 : decode cX11_strike 53 = .ok (.ifnull 7, 3) := by decide +kernel
theorem dX11_strike_56 : decode cX11_strike 56 = .ok (.iconst 1, 1) := by decide +kernel
theorem dX11_strike_57 : decode cX11_strike 57 = .ok (.goto 4, 3) := by decide +kernel
theorem dX11_strike_60 : decode cX11_strike 60 = .ok (.iconst 0, 1) := by decide +kernel
theorem dX11_strike_61 : decode cX11_strike 61 = .ok (.iconst 2, 1) := by decide +kernel
theorem dX11_strike_62 : decode cX11_strike 62 = .ok (.invokevirtual 65, 3) := by decide +kernel
theorem dX11_strike_65 : decode cX11_strike 65 = .ok (.ifCond .eq 5, 3) := by decide +kernel
theorem dX11_strike_68 : decode cX11_strike 68 = .ok (.lconst 0, 1) := by decide +kernel
theorem dX11_strike_69 : decode cX11_strike 69 = .ok (.lreturn, 1) := by decide +kernel
theorem dX11_strike_70 : decode cX11_strike 70 = .ok (.aload_n 0, 1) := by decide +kernel
theorem dX11_strike_71 : decode cX11_strike 71 = .ok (.iconst (-1), 1) := by decide +kernel
theorem dX11_strike_72 : decode cX11_strike 72 = .ok (.putfield 36, 3) := by decide +kernel
theorem dX11_strike_75 : decode cX11_strike 75 = .ok (.aload_n 0, 1) := by decide +kernel
theorem dX11_strike_76 : decode cX11_strike 76 = .ok (.iconst 1, 1) := by decide +kernel
theorem dX11_strike_77 : decode cX11_strike 77 = .ok (.putfield 325, 3) := by decide +kernel
theorem dX11_strike_80 : decode cX11_strike 80 = .ok (.aload_n 1, 1) := by decide +kernel
theorem dX11_strike_81 : decode cX11_strike 81 = .ok (.invokestatic 172, 3) := by decide +kernel
theorem dX11_strike_84 : decode cX11_strike 84 = .ok (.lreturn, 1) := by decide +kernel
theorem dX11_load_0 : decode cX11_load 0 = .ok (.aload_n 0, 1) := by decide +kernel
theorem dX11_load_1 : decode cX11_load 1 = .ok (.iload_n 1, 1) := by decide +kernel
theorem dX11_load_2 : decode cX11_load 2 = .ok (.invokevirtual 116, 3) := by decide +kernel
theorem dX11_load_5 : decode cX11_load 5 = .ok (.ifCond .ne 32, 3) := by decide +kernel
theorem dX11_load_8 : decode cX11_load 8 = .ok (.aload_n 0, 1) := by decide +kernel
theorem dX11_load_9 : decode cX11_load 9 = .ok (.iload_n 2, 1) := by decide +kernel
theorem dX11_load_10 : decode cX11_load 10 = .ok (.i2l, 1) := by decide +kernel
theorem dX11_load_11 : decode cX11_load 11 = .ok (.lconst 0, 1) := by decide +kernel
theorem dX11_load_12 : decode cX11_load 12 = .ok (.ldc2_w 328, 3) := by decide +kernel
theorem dX11_load_15 : decode cX11_load 15 = .ok (.invokestatic 57, 3) := by decide +kernel
theorem dX11_load_18 : decode cX11_load 18 = .ok (.iconst 2, 1) := by decide +kernel
theorem dX11_load_19 : decode cX11_load 19 = .ok (.invokevirtual 65, 3) := by decide +kernel
theorem dX11_load_22 : decode cX11_load 22 = .ok (.ifCond .ne 15, 3) := by decide +kernel
theorem dX11_load_25 : decode cX11_load 25 = .ok (.aload_n 0, 1) := by decide +kernel
theorem dX11_load_26 : decode cX11_load 26 = .ok (.aload_n 0, 1) := by decide +kernel
theorem dX11_load_27 : decode cX11_load 27 = .ok (.getfield 325, 3) := by decide +kernel
theorem dX11_load_30 : decode cX11_load 30 = .ok (.iconst 3, 1) := by decide +kernel
theorem dX11_load_31 : decode cX11_load 31 = .ok (.invokevirtual 65, 3) := by decide +kernel
theorem dX11_load_34 : decode cX11_load 34 = .ok (.ifCond .eq 5, 3) := by decide +kernel
theorem dX11_load_37 : decode cX11_load 37 = .ok (.iconst 0, 1) := by decide +kernel
theorem dX11_load_38 : decode cX11_load 38 = .ok (.ireturn, 1) := by decide +kernel
theorem dX11_load_39 : decode cX11_load 39 = .ok (.aload_n 0, 1) := by decide +kernel
theorem dX11_load_40 : decode cX11_load 40 = .ok (.getfield 29, 3) := by decide +kernel
theorem dX11_load_43 : decode cX11_load 43 = .ok (.iload_n 1, 1) := by decide +kernel
theorem dX11_load_44 : decode cX11_load 44 = .ok (.iload_n 2, 1) := by decide +kernel
theorem dX11_load_45 : decode cX11_load 45 = .ok (.iastore, 1) := by decide +kernel
theorem dX11_load_46 : decode cX11_load 46 = .ok (.aload_n 0, 1) := by decide +kernel
theorem dX11_load_47 : decode cX11_load 47 = .ok (.aload_n 0, 1) := by decide +kernel
theorem dX11_load_48 : decode cX11_load 48 = .ok (.invokevirtual 191, 3) := by decide +kernel
theorem dX11_load_51 : decode cX11_load 51 = .ok (.invokevirtual 164, 3) := by decide +kernel
theorem dX11_load_54 : decode cX11_load 54 = .ok (.ifnull 5, 3) := by decide +kernel
theorem dX11_load_57 : decode cX11_load 57 = .ok (.iconst 1, 1) := by decide +kernel
theorem dX11_load_58 : decode cX11_load 58 = .ok (.ireturn, 1) := by decide +kernel
theorem dX11_load_59 : decode cX11_load 59 = .ok (.aload_n 0, 1) := by decide +kernel
theorem dX11_load_60 : decode cX11_load 60 = .ok (.iconst 0, 1) := by decide +kernel
theorem dX11_load_61 : decode cX11_load 61 = .ok (.putfield 325, 3) := by decide +kernel
theorem dX11_load_64 : decode cX11_load 64 = .ok (.iconst 0, 1) := by decide +kernel
theorem dX11_load_65 : decode cX11_load 65 = .ok (.istore_n 3, 1) := by decide +kernel
theorem dX11_load_66 : decode cX11_load 66 = .ok (.iload_n 3, 1) := by decide +kernel
theorem dX11_load_67 : decode cX11_load 67 = .ok (.bipush 7, 2) := by decide +kernel
theorem dX11_load_69 : decode cX11_load 69 = .ok (.if_icmp .ge 56, 3) := by decide +kernel
theorem dX11_load_72 : decode cX11_load 72 = .ok (.aload_n 0, 1) := by decide +kernel
theorem dX11_load_73 : decode cX11_load 73 = .ok (.getfield 25, 3) := by decide +kernel
theorem dX11_load_76 : decode cX11_load 76 = .ok (.iload_n 3, 1) := by decide +kernel
theorem dX11_load_77 : decode cX11_load 77 = .ok (.iaload, 1) := by decide +kernel
theorem dX11_load_78 : decode cX11_load 78 = .ok (.iconst (-1), 1) := by decide +kernel
theorem dX11_load_79 : decode cX11_load 79 = .ok (.if_icmp .eq 26, 3) := by decide +kernel
theorem dX11_load_82 : decode cX11_load 82 = .ok (.aload_n 0, 1) := by decide +kernel
theorem dX11_load_83 : decode cX11_load 83 = .ok (.getfield 22, 3) := by decide +kernel
theorem dX11_load_86 : decode cX11_load 86 = .ok (.aload_n 0, 1) := by decide +kernel
theorem dX11_load_87 : decode cX11_load 87 = .ok (.getfield 25, 3) := by decide +kernel
theorem dX11_load_90 : decode cX11_load 90 = .ok (.iload_n 3, 1) := by decide +kernel
theorem dX11_load_91 : decode cX11_load 91 = .ok (.iaload, 1) := by decide +kernel
theorem dX11_load_92 : decode cX11_load 92 = .ok (.invokeinterface 83 2, 5) := by decide +kernel
theorem dX11_load_97 : decode cX11_load 97 = .ok (.checkcast 233, 3) := by decide +kernel
theorem dX11_load_100 : decode cX11_load 100 = .ok (.bipush 98, 2) := by decide +kernel
theorem dX11_load_102 : decode cX11_load 102 = .ok (.putfield 296, 3) := by decide +kernel
theorem dX11_load_105 : decode cX11_load 105 = .ok (.aload_n 0, 1) := by decide +kernel
theorem dX11_load_106 : decode cX11_load 106 = .ok (.getfield 25, 3) := by decide +kernel
theorem dX11_load_109 : decode cX11_load 109 = .ok (.iload_n 3, 1) := by decide +kernel
theorem dX11_load_110 : decode cX11_load 110 = .ok (.iconst (-1), 1) := by decide +kernel
theorem dX11_load_111 : decode cX11_load 111 = .ok (.iastore, 1) := by decide +kernel
theorem dX11_load_112 : decode cX11_load 112 = .ok (.aload_n 0, 1) := by decide +kernel
theorem dX11_load_113 : decode cX11_load 113 = .ok (.getfield 29, 3) := by decide +kernel
theorem dX11_load_116 : decode cX11_load 116 = .ok (.iload_n 3, 1) := by decide +kernel
theorem dX11_load_117 : decode cX11_load 117 = .ok (.iconst 0, 1) := by decide +kernel
theorem dX11_load_118 : decode cX11_load 118 = .ok (.iastore, 1) := by decide +kernel
theorem dX11_load_119 : decode cX11_load 119 = .ok (.iinc 3 1, 3) := by decide +kernel
theorem dX11_load_122 : decode cX11_load 122 = .ok (.goto (-56), 3) := by decide +kernel
theorem dX11_load_125 : decode cX11_load 125 = .ok (.iconst 0, 1) := by decide +kernel
theorem dX11_load_126 : decode cX11_load 126 = .ok (.ireturn, 1) := by decide +kernel
theorem dX11_stands_0 : decode cX11_stands 0 = .ok (.aload_n 0, 1) := by decide +kernel
theorem dX11_stands_1 : decode cX11_stands 1 = .ok (.getfield 325, 3) := by decide +kernel
theorem dX11_stands_4 : decode cX11_stands 4 = .ok (.ireturn, 1) := by decide +kernel
theorem dX11_pass_0 : decode cX11_pass 0 = .ok (.iload_n 1, 1) := by decide +kernel
theorem dX11_pass_1 : decode cX11_pass 1 = .ok (.i2l, 1) := by decide +kernel
theorem dX11_pass_2 : decode cX11_pass 2 = .ok (.lconst 1, 1) := by decide +kernel
theorem dX11_pass_3 : decode cX11_pass 3 = .ok (.ldc2_w 194, 3) := by decide +kernel
theorem dX11_pass_6 : decode cX11_pass 6 = .ok (.invokestatic 57, 3) := by decide +kernel
theorem dX11_pass_9 : decode cX11_pass 9 = .ok (.ifCond .ne 9, 3) := by decide +kernel
theorem dX11_pass_12 : decode cX11_pass 12 = .ok (.aload_n 0, 1) := by decide +kernel
theorem dX11_pass_13 : decode cX11_pass 13 = .ok (.iconst 1, 1) := by decide +kernel
theorem dX11_pass_14 : decode cX11_pass 14 = .ok (.invokevirtual 330, 3) := by decide +kernel
theorem dX11_pass_17 : decode cX11_pass 17 = .ok (.ireturn, 1) := by decide +kernel
theorem dX11_pass_18 : decode cX11_pass 18 = .ok (.aload_n 0, 1) := by decide +kernel
theorem dX11_pass_19 : decode cX11_pass 19 = .ok (.iconst 0, 1) := by decide +kernel
theorem dX11_pass_20 : decode cX11_pass 20 = .ok (.putfield 39, 3) := by decide +kernel
theorem dX11_pass_23 : decode cX11_pass 23 = .ok (.aload_n 0, 1) := by decide +kernel
theorem dX11_pass_24 : decode cX11_pass 24 = .ok (.dup, 1) := by decide +kernel
theorem dX11_pass_25 : decode cX11_pass 25 = .ok (.getfield 182, 3) := by decide +kernel
theorem dX11_pass_28 : decode cX11_pass 28 = .ok (.iload_n 1, 1) := by decide +kernel
theorem dX11_pass_29 : decode cX11_pass 29 = .ok (.iadd, 1) := by decide +kernel
theorem dX11_pass_30 : decode cX11_pass 30 = .ok (.putfield 182, 3) := by decide +kernel
theorem dX11_pass_33 : decode cX11_pass 33 = .ok (.aload_n 0, 1) := by decide +kernel
theorem dX11_pass_34 : decode cX11_pass 34 = .ok (.getfield 182, 3) := by decide +kernel
theorem dX11_pass_37 : decode cX11_pass 37 = .ok (.ireturn, 1) := by decide +kernel
theorem dX11_spent_0 : decode cX11_spent 0 = .ok (.aload_n 0, 1) := by decide +kernel
theorem dX11_spent_1 : decode cX11_spent 1 = .ok (.getfield 268, 3) := by decide +kernel
theorem dX11_spent_4 : decode cX11_spent 4 = .ok (.lreturn, 1) := by decide +kernel
theorem dX11_waste_0 : decode cX11_waste 0 = .ok (.aload_n 0, 1) := by decide +kernel
theorem dX11_waste_1 : decode cX11_waste 1 = .ok (.getfield 284, 3) := by decide +kernel
theorem dX11_waste_4 : decode cX11_waste 4 = .ok (.ireturn, 1) := by decide +kernel
theorem dX11_usedShare_0 : decode cX11_usedShare 0 = .ok (.aload_n 0, 1) := by decide +kernel
theorem dX11_usedShare_1 : decode cX11_usedShare 1 = .ok (.aload_n 0, 1) := by decide +kernel
theorem dX11_usedShare_2 : decode cX11_usedShare 2 = .ok (.getfield 281, 3) := by decide +kernel
theorem dX11_usedShare_5 : decode cX11_usedShare 5 = .ok (.ifCond .le 7, 3) := by decide +kernel
theorem dX11_usedShare_8 : decode cX11_usedShare 8 = .ok (.iconst 1, 1) := by decide +kernel
theorem dX11_usedShare_9 : decode cX11_usedShare 9 = .ok (.goto 4, 3) := by decide +kernel
theorem dX11_usedShare_12 : decode cX11_usedShare 12 = .ok (.iconst 0, 1) := by decide +kernel
theorem dX11_usedShare_13 : decode cX11_usedShare 13 = .ok (.iconst 1, 1) := by decide +kernel
theorem dX11_usedShare_14 : decode cX11_usedShare 14 = .ok (.invokevirtual 65, 3) := by decide +kernel
theorem dX11_usedShare_17 : decode cX11_usedShare 17 = .ok (.ifCond .eq 7, 3) := by decide +kernel
theorem dX11_usedShare_20 : decode cX11_usedShare 20 = .ok (.fconst 0, 1) := by decide +kernel
theorem dX11_usedShare_21 : decode cX11_usedShare 21 = .ok (.goto 14, 3) := by decide +kernel
theorem dX11_usedShare_24 : decode cX11_usedShare 24 = .ok (.aload_n 0, 1) := by decide +kernel
theorem dX11_usedShare_25 : decode cX11_usedShare 25 = .ok (.getfield 278, 3) := by decide +kernel
theorem dX11_usedShare_28 : decode cX11_usedShare 28 = .ok (.i2f, 1) := by decide +kernel
theorem dX11_usedShare_29 : decode cX11_usedShare 29 = .ok (.aload_n 0, 1) := by decide +kernel
theorem dX11_usedShare_30 : decode cX11_usedShare 30 = .ok (.getfield 281, 3) := by decide +kernel
theorem dX11_usedShare_33 : decode cX11_usedShare 33 = .ok (.i2f, 1) := by decide +kernel
theorem dX11_usedShare_34 : decode cX11_usedShare 34 = .ok (.fdiv, 1) := by decide +kernel
theorem dX11_usedShare_35 : decode cX11_usedShare 35 = .ok (.freturn, 1) := by decide +kernel
theorem dX11_meanArea_0 : decode cX11_meanArea 0 = .ok (.aload_n 0, 1) := by decide +kernel
theorem dX11_meanArea_1 : decode cX11_meanArea 1 = .ok (.aload_n 0, 1) := by decide +kernel
theorem dX11_meanArea_2 : decode cX11_meanArea 2 = .ok (.invokevirtual 54, 3) := by decide +kernel
theorem dX11_meanArea_5 : decode cX11_meanArea 5 = .ok (.ifCond .le 7, 3) := by decide +kernel
theorem dX11_meanArea_8 : decode cX11_meanArea 8 = .ok (.iconst 1, 1) := by decide +kernel
theorem dX11_meanArea_9 : decode cX11_meanArea 9 = .ok (.goto 4, 3) := by decide +kernel
theorem dX11_meanArea_12 : decode cX11_meanArea 12 = .ok (.iconst 0, 1) := by decide +kernel
theorem dX11_meanArea_13 : decode cX11_meanArea 13 = .ok (.iconst 1, 1) := by decide +kernel
theorem dX11_meanArea_14 : decode cX11_meanArea 14 = .ok (.invokevirtual 65, 3) := by decide +kernel
theorem dX11_meanArea_17 : decode cX11_meanArea 17 = .ok (.ifCond .eq 5, 3) := by decide +kernel
theorem dX11_meanArea_20 : decode cX11_meanArea 20 = .ok (.dconst 0, 1) := by decide +kernel
theorem dX11_meanArea_21 : decode cX11_meanArea 21 = .ok (.dreturn, 1) := by decide +kernel
theorem dX11_meanArea_22 : decode cX11_meanArea 22 = .ok (.iconst 0, 1) := by decide +kernel
theorem dX11_meanArea_23 : decode cX11_meanArea 23 = .ok (.istore_n 1, 1) := by decide +kernel
theorem dX11_meanArea_24 : decode cX11_meanArea 24 = .ok (.iconst 0, 1) := by decide +kernel
theorem dX11_meanArea_25 : decode cX11_meanArea 25 = .ok (.istore_n 2, 1) := by decide +kernel
theorem dX11_meanArea_26 : decode cX11_meanArea 26 = .ok (.iload_n 2, 1) := by decide +kernel
theorem dX11_meanArea_27 : decode cX11_meanArea 27 = .ok (.aload_n 0, 1) := by decide +kernel
theorem dX11_meanArea_28 : decode cX11_meanArea 28 = .ok (.invokevirtual 54, 3) := by decide +kernel
theorem dX11_meanArea_31 : decode cX11_meanArea 31 = .ok (.if_icmp .ge 17, 3) := by decide +kernel
theorem dX11_meanArea_34 : decode cX11_meanArea 34 = .ok (.iload_n 1, 1) := by decide +kernel
theorem dX11_meanArea_35 : decode cX11_meanArea 35 = .ok (.aload_n 0, 1) := by decide +kernel
theorem dX11_meanArea_36 : decode cX11_meanArea 36 = .ok (.iload_n 2, 1) := by decide +kernel
theorem dX11_meanArea_37 : decode cX11_meanArea 37 = .ok (.invokevirtual 112, 3) := by decide +kernel
theorem dX11_meanArea_40 : decode cX11_meanArea 40 = .ok (.iadd, 1) := by decide +kernel
theorem dX11_meanArea_41 : decode cX11_meanArea 41 = .ok (.istore_n 1, 1) := by decide +kernel
theorem dX11_meanArea_42 : decode cX11_meanArea 42 = .ok (.iinc 2 1, 3) := by decide +kernel
theorem dX11_meanArea_45 : decode cX11_meanArea 45 = .ok (.goto (-19), 3) := by decide +kernel
theorem dX11_meanArea_48 : decode cX11_meanArea 48 = .ok (.iload_n 1, 1) := by decide +kernel
theorem dX11_meanArea_49 : decode cX11_meanArea 49 = .ok (.i2d, 1) := by decide +kernel
theorem dX11_meanArea_50 : decode cX11_meanArea 50 = .ok (.aload_n 0, 1) := by decide +kernel
theorem dX11_meanArea_51 : decode cX11_meanArea 51 = .ok (.invokevirtual 54, 3) := by decide +kernel
theorem dX11_meanArea_54 : decode cX11_meanArea 54 = .ok (.i2d, 1) := by decide +kernel
theorem dX11_meanArea_55 : decode cX11_meanArea 55 = .ok (.ddiv, 1) := by decide +kernel
theorem dX11_meanArea_56 : decode cX11_meanArea 56 = .ok (.dreturn, 1) := by decide +kernel
theorem dX11_isSound_0 : decode cX11_isSound 0 = .ok (.iconst 1, 1) := by decide +kernel
theorem dX11_isSound_1 : decode cX11_isSound 1 = .ok (.ireturn, 1) := by decide +kernel
theorem dJxa1e45_init_da8c8_0 : decode cJxa1e45_init_da8c8 0 = .ok (.aload_n 0, 1) := by decide +kernel
theorem dJxa1e45_init_da8c8_1 : decode cJxa1e45_init_da8c8 1 = .ok (.invokespecial 1, 3) := by decide +kernel
theorem dJxa1e45_init_da8c8_4 : decode cJxa1e45_init_da8c8 4 = .ok (.return_, 1) := by decide +kernel
theorem dJxc12de_init_da8c8_0 : decode cJxc12de_init_da8c8 0 = .ok (.aload_n 0, 1) := by decide +kernel
theorem dJxc12de_init_da8c8_1 : decode cJxc12de_init_da8c8 1 = .ok (.invokespecial 1, 3) := by decide +kernel
theorem dJxc12de_init_da8c8_4 : decode cJxc12de_init_da8c8 4 = .ok (.aload_n 0, 1) := by decide +kernel
theorem dJxc12de_init_da8c8_5 : decode cJxc12de_init_da8c8 5 = .ok (.iconst 0, 1) := by decide +kernel
theorem dJxc12de_init_da8c8_6 : decode cJxc12de_init_da8c8 6 = .ok (.putfield 7, 3) := by decide +kernel
theorem dJxc12de_init_da8c8_9 : decode cJxc12de_init_da8c8 9 = .ok (.return_, 1) := by decide +kernel
theorem dJx4a65c_init_da8c8_0 : decode cJx4a65c_init_da8c8 0 = .ok (.aload_n 0, 1) := by decide +kernel
theorem dJx4a65c_init_da8c8_1 : decode cJx4a65c_init_da8c8 1 = .ok (.invokespecial 1, 3) := by decide +kernel
theorem dJx4a65c_init_da8c8_4 : decode cJx4a65c_init_da8c8 4 = .ok (.aload_n 0, 1) := by decide +kernel
theorem dJx4a65c_init_da8c8_5 : decode cJx4a65c_init_da8c8 5 = .ok (.getstatic 39, 3) := by decide +kernel
theorem dJx4a65c_init_da8c8_8 : decode cJx4a65c_init_da8c8 8 = .ok (.putfield 9, 3) := by decide +kernel
theorem dJx4a65c_init_da8c8_11 : decode cJx4a65c_init_da8c8 11 = .ok (.return_, 1) := by decide +kernel
theorem dJx4a65c_grow_92f84_0 : decode cJx4a65c_grow_92f84 0 = .ok (.aload_n 0, 1) := by decide +kernel
theorem dJx4a65c_grow_92f84_1 : decode cJx4a65c_grow_92f84 1 = .ok (.getfield 9, 3) := by decide +kernel
theorem dJx4a65c_grow_92f84_4 : decode cJx4a65c_grow_92f84 4 = .ok (.arraylength, 1) := by decide +kernel
theorem dJx4a65c_grow_92f84_5 : decode cJx4a65c_grow_92f84 5 = .ok (.istore_n 2, 1) := by decide +kernel
theorem dJx4a65c_grow_92f84_6 : decode cJx4a65c_grow_92f84 6 = .ok (.iload_n 2, 1) := by decide +kernel
theorem dJx4a65c_grow_92f84_7 : decode cJx4a65c_grow_92f84 7 = .ok (.ifCond .gt 13, 3) := by decide +kernel
theorem dJx4a65c_grow_92f84_10 : decode cJx4a65c_grow_92f84 10 = .ok (.aload_n 0, 1) := by decide +kernel
theorem dJx4a65c_grow_92f84_11 : decode cJx4a65c_grow_92f84 11 = .ok (.getfield 9, 3) := by decide +kernel
theorem dJx4a65c_grow_92f84_14 : decode cJx4a65c_grow_92f84 14 = .ok (.getstatic 39, 3) := by decide +kernel
theorem dJx4a65c_grow_92f84_17 : decode cJx4a65c_grow_92f84 17 = .ok (.if_acmp .eq 28, 3) := by decide +kernel
theorem dJx4a65c_grow_92f84_20 : decode cJx4a65c_grow_92f84 20 = .ok (.iload_n 2, 1) := by decide +kernel
theorem dJx4a65c_grow_92f84_21 : decode cJx4a65c_grow_92f84 21 = .ok (.iload_n 1, 1) := by decide +kernel
theorem dJx4a65c_grow_92f84_22 : decode cJx4a65c_grow_92f84 22 = .ok (.iload_n 2, 1) := by decide +kernel
theorem dJx4a65c_grow_92f84_23 : decode cJx4a65c_grow_92f84 23 = .ok (.isub, 1) := by decide +kernel
theorem dJx4a65c_grow_92f84_24 : decode cJx4a65c_grow_92f84 24 = .ok (.iload_n 2, 1) := by decide +kernel
theorem dJx4a65c_grow_92f84_25 : decode cJx4a65c_grow_92f84 25 = .ok (.iconst 1, 1) := by decide +kernel
theorem dJx4a65c_grow_92f84_26 : decode cJx4a65c_grow_92f84 26 = .ok (.ishr, 1) := by decide +kernel
theorem dJx4a65c_grow_92f84_27 : decode cJx4a65c_grow_92f84 27 = .ok (.invokestatic 73, 3) := by decide +kernel
theorem dJx4a65c_grow_92f84_30 : decode cJx4a65c_grow_92f84 30 = .ok (.istore_n 3, 1) := by decide +kernel
theorem dJx4a65c_grow_92f84_31 : decode cJx4a65c_grow_92f84 31 = .ok (.aload_n 0, 1) := by decide +kernel
theorem dJx4a65c_grow_92f84_32 : decode cJx4a65c_grow_92f84 32 = .ok (.aload_n 0, 1) := by decide +kernel
theorem dJx4a65c_grow_92f84_33 : decode cJx4a65c_grow_92f84 33 = .ok (.getfield 9, 3) := by decide +kernel
theorem dJx4a65c_grow_92f84_36 : decode cJx4a65c_grow_92f84 36 = .ok (.iload_n 3, 1) := by decide +kernel
theorem dJx4a65c_grow_92f84_37 : decode cJx4a65c_grow_92f84 37 = .ok (.invokestatic 66, 3) := by decide +kernel
theorem dJx4a65c_grow_92f84_40 : decode cJx4a65c_grow_92f84 40 = .ok (.dup_x1, 1) := by decide +kernel
theorem dJx4a65c_grow_92f84_41 : decode cJx4a65c_grow_92f84 41 = .ok (.putfield 9, 3) := by decide +kernel
theorem dJx4a65c_grow_92f84_44 : decode cJx4a65c_grow_92f84 44 = .ok (.areturn, 1) := by decide +kernel
theorem dJx4a65c_grow_92f84_45 : decode cJx4a65c_grow_92f84 45 = .ok (.aload_n 0, 1) := by decide +kernel
theorem dJx4a65c_grow_92f84_46 : decode cJx4a65c_grow_92f84 46 = .ok (.bipush 10, 2) := by decide +kernel
theorem dJx4a65c_grow_92f84_48 : decode cJx4a65c_grow_92f84 48 = .ok (.iload_n 1, 1) := by decide +kernel
theorem dJx4a65c_grow_92f84_49 : decode cJx4a65c_grow_92f84 49 = .ok (.invokestatic 79, 3) := by decide +kernel
theorem dJx4a65c_grow_92f84_52 : decode cJx4a65c_grow_92f84 52 = .ok (.anewarray 7, 3) := by decide +kernel
theorem dJx4a65c_grow_92f84_55 : decode cJx4a65c_grow_92f84 55 = .ok (.dup_x1, 1) := by decide +kernel
theorem dJx4a65c_grow_92f84_56 : decode cJx4a65c_grow_92f84 56 = .ok (.putfield 9, 3) := by decide +kernel
theorem dJx4a65c_grow_92f84_59 : decode cJx4a65c_grow_92f84 59 = .ok (.areturn, 1) := by decide +kernel
theorem dJx4a65c_grow_d5877_0 : decode cJx4a65c_grow_d5877 0 = .ok (.aload_n 0, 1) := by decide +kernel
theorem dJx4a65c_grow_d5877_1 : decode cJx4a65c_grow_d5877 1 = .ok (.aload_n 0, 1) := by decide +kernel
theorem dJx4a65c_grow_d5877_2 : decode cJx4a65c_grow_d5877 2 = .ok (.getfield 48, 3) := by decide +kernel
theorem dJx4a65c_grow_d5877_5 : decode cJx4a65c_grow_d5877 5 = .ok (.iconst 1, 1) := by decide +kernel
theorem dJx4a65c_grow_d5877_6 : decode cJx4a65c_grow_d5877 6 = .ok (.iadd, 1) := by decide +kernel
theorem dJx4a65c_grow_d5877_7 : decode cJx4a65c_grow_d5877 7 = .ok (.invokevirtual 69, 3) := by decide +kernel
theorem dJx4a65c_grow_d5877_10 : decode cJx4a65c_grow_d5877 10 = .ok (.areturn, 1) := by decide +kernel
theorem dJx4a65c_size_8abf5_0 : decode cJx4a65c_size_8abf5 0 = .ok (.aload_n 0, 1) := by decide +kernel
theorem dJx4a65c_size_8abf5_1 : decode cJx4a65c_size_8abf5 1 = .ok (.getfield 48, 3) := by decide +kernel
theorem dJx4a65c_size_8abf5_4 : decode cJx4a65c_size_8abf5 4 = .ok (.ireturn, 1) := by decide +kernel
theorem dJx4a65c_isEmpty_aae02_0 : decode cJx4a65c_isEmpty_aae02 0 = .ok (.aload_n 0, 1) := by decide +kernel
theorem dJx4a65c_isEmpty_aae02_1 : decode cJx4a65c_isEmpty_aae02 1 = .ok (.getfield 48, 3) := by decide +kernel
theorem dJx4a65c_isEmpty_aae02_4 : decode cJx4a65c_isEmpty_aae02 4 = .ok (.ifCond .ne 7, 3) := by decide +kernel
theorem dJx4a65c_isEmpty_aae02_7 : decode cJx4a65c_isEmpty_aae02 7 = .ok (.iconst 1, 1) := by decide +kernel
theorem dJx4a65c_isEmpty_aae02_8 : decode cJx4a65c_isEmpty_aae02 8 = .ok (.goto 4, 3) := by decide +kernel
theorem dJx4a65c_isEmpty_aae02_11 : decode cJx4a65c_isEmpty_aae02 11 = .ok (.iconst 0, 1) := by decide +kernel
theorem dJx4a65c_isEmpty_aae02_12 : decode cJx4a65c_isEmpty_aae02 12 = .ok (.ireturn, 1) := by decide +kernel
theorem dJx4a65c_add_72be8_0 : decode cJx4a65c_add_72be8 0 = .ok (.iload_n 3, 1) := by decide +kernel
theorem dJx4a65c_add_72be8_1 : decode cJx4a65c_add_72be8 1 = .ok (.aload_n 2, 1) := by decide +kernel
theorem dJx4a65c_add_72be8_2 : decode cJx4a65c_add_72be8 2 = .ok (.arraylength, 1) := by decide +kernel
theorem dJx4a65c_add_72be8_3 : decode cJx4a65c_add_72be8 3 = .ok (.if_icmp .ne 8, 3) := by decide +kernel
theorem dJx4a65c_add_72be8_6 : decode cJx4a65c_add_72be8 6 = .ok (.aload_n 0, 1) := by decide +kernel
theorem dJx4a65c_add_72be8_7 : decode cJx4a65c_add_72be8 7 = .ok (.invokevirtual 129, 3) := by decide +kernel
theorem dJx4a65c_add_72be8_10 : decode cJx4a65c_add_72be8 10 = .ok (.astore_n 2, 1) := by decide +kernel
theorem dJx4a65c_add_72be8_11 : decode cJx4a65c_add_72be8 11 = .ok (.aload_n 2, 1) := by decide +kernel
theorem dJx4a65c_add_72be8_12 : decode cJx4a65c_add_72be8 12 = .ok (.iload_n 3, 1) := by decide +kernel
theorem dJx4a65c_add_72be8_13 : decode cJx4a65c_add_72be8 13 = .ok (.aload_n 1, 1) := by decide +kernel
theorem dJx4a65c_add_72be8_14 : decode cJx4a65c_add_72be8 14 = .ok (.aastore, 1) := by decide +kernel
theorem dJx4a65c_add_72be8_15 : decode cJx4a65c_add_72be8 15 = .ok (.aload_n 0, 1) := by decide +kernel
theorem dJx4a65c_add_72be8_16 : decode cJx4a65c_add_72be8 16 = .ok (.iload_n 3, 1) := by decide +kernel
theorem dJx4a65c_add_72be8_17 : decode cJx4a65c_add_72be8 17 = .ok (.iconst 1, 1) := by decide +kernel
theorem dJx4a65c_add_72be8_18 : decode cJx4a65c_add_72be8 18 = .ok (.iadd, 1) := by decide +kernel
theorem dJx4a65c_add_72be8_19 : decode cJx4a65c_add_72be8 19 = .ok (.putfield 48, 3) := by decide +kernel
theorem dJx4a65c_add_72be8_22 : decode cJx4a65c_add_72be8 22 = .ok (.return_, 1) := by decide +kernel
theorem dJx4a65c_add_9ea2d_0 : decode cJx4a65c_add_9ea2d 0 = .ok (.aload_n 0, 1) := by decide +kernel
theorem dJx4a65c_add_9ea2d_1 : decode cJx4a65c_add_9ea2d 1 = .ok (.dup, 1) := by decide +kernel
theorem dJx4a65c_add_9ea2d_2 : decode cJx4a65c_add_9ea2d 2 = .ok (.getfield 63, 3) := by decide +kernel
theorem dJx4a65c_add_9ea2d_5 : decode cJx4a65c_add_9ea2d 5 = .ok (.iconst 1, 1) := by decide +kernel
theorem dJx4a65c_add_9ea2d_6 : decode cJx4a65c_add_9ea2d 6 = .ok (.iadd, 1) := by decide +kernel
theorem dJx4a65c_add_9ea2d_7 : decode cJx4a65c_add_9ea2d 7 = .ok (.putfield 63, 3) := by decide +kernel
theorem dJx4a65c_add_9ea2d_10 : decode cJx4a65c_add_9ea2d 10 = .ok (.aload_n 0, 1) := by decide +kernel
theorem dJx4a65c_add_9ea2d_11 : decode cJx4a65c_add_9ea2d 11 = .ok (.aload_n 1, 1) := by decide +kernel
theorem dJx4a65c_add_9ea2d_12 : decode cJx4a65c_add_9ea2d 12 = .ok (.aload_n 0, 1) := by decide +kernel
theorem dJx4a65c_add_9ea2d_13 : decode cJx4a65c_add_9ea2d 13 = .ok (.getfield 9, 3) := by decide +kernel
theorem dJx4a65c_add_9ea2d_16 : decode cJx4a65c_add_9ea2d 16 = .ok (.aload_n 0, 1) := by decide +kernel
theorem dJx4a65c_add_9ea2d_17 : decode cJx4a65c_add_9ea2d 17 = .ok (.getfield 48, 3) := by decide +kernel
theorem dJx4a65c_add_9ea2d_20 : decode cJx4a65c_add_9ea2d 20 = .ok (.invokevirtual 131, 3) := by decide +kernel
theorem dJx4a65c_add_9ea2d_23 : decode cJx4a65c_add_9ea2d 23 = .ok (.iconst 1, 1) := by decide +kernel
theorem dJx4a65c_add_9ea2d_24 : decode cJx4a65c_add_9ea2d 24 = .ok (.ireturn, 1) := by decide +kernel
theorem dL_drawJoint_0 : decode cL_drawJoint 0 = .ok (.aload 5, 2) := by decide +kernel
theorem dL_drawJoint_2 : decode cL_drawJoint 2 = .ok (.iconst 0, 1) := by decide +kernel
theorem dL_drawJoint_3 : decode cL_drawJoint 3 = .ok (.aload_n 0, 1) := by decide +kernel
theorem dL_drawJoint_4 : decode cL_drawJoint 4 = .ok (.iload_n 1, 1) := by decide +kernel
theorem dL_drawJoint_5 : decode cL_drawJoint 5 = .ok (.iload_n 2, 1) := by decide +kernel
theorem dL_drawJoint_6 : decode cL_drawJoint 6 = .ok (.iload_n 3, 1) := by decide +kernel
theorem dL_drawJoint_7 : decode cL_drawJoint 7 = .ok (.iload 4, 2) := by decide +kernel
theorem dL_drawJoint_9 : decode cL_drawJoint 9 = .ok (.invokevirtual 7, 3) := by decide +kernel
theorem dL_drawJoint_12 : decode cL_drawJoint 12 = .ok (.i2l, 1) := by decide +kernel
theorem dL_drawJoint_13 : decode cL_drawJoint 13 = .ok (.lastore, 1) := by decide +kernel
theorem dL_drawJoint_14 : decode cL_drawJoint 14 = .ok (.goto 15, 3) := by decide +kernel
theorem dL_drawJoint_17 : decode cL_drawJoint 17 = .ok (.astore 6, 2) := by decide +kernel
theorem dL_drawJoint_19 : decode cL_drawJoint 19 = .ok (.iconst 1, 1) := by decide +kernel
theorem dL_drawJoint_20 : decode cL_drawJoint 20 = .ok (.ireturn, 1) := by decide +kernel
theorem dL_drawJoint_21 : decode cL_drawJoint 21 = .ok (.astore 6, 2) := by decide +kernel
theorem dL_drawJoint_23 : decode cL_drawJoint 23 = .ok (.iconst 2, 1) := by decide +kernel
theorem dL_drawJoint_24 : decode cL_drawJoint 24 = .ok (.ireturn, 1) := by decide +kernel
theorem dL_drawJoint_25 : decode cL_drawJoint 25 = .ok (.astore 6, 2) := by decide +kernel
theorem dL_drawJoint_27 : decode cL_drawJoint 27 = .ok (.iconst 3, 1) := by decide +kernel
theorem dL_drawJoint_28 : decode cL_drawJoint 28 = .ok (.ireturn, 1) := by decide +kernel
theorem dL_drawJoint_29 : decode cL_drawJoint 29 = .ok (.iconst 0, 1) := by decide +kernel
theorem dL_drawJoint_30 : decode cL_drawJoint 30 = .ok (.ireturn, 1) := by decide +kernel
theorem dL_moveJoint_0 : decode cL_moveJoint 0 = .ok (.aload 6, 2) := by decide +kernel
theorem dL_moveJoint_2 : decode cL_moveJoint 2 = .ok (.iconst 0, 1) := by decide +kernel
theorem dL_moveJoint_3 : decode cL_moveJoint 3 = .ok (.aload_n 0, 1) := by decide +kernel
theorem dL_moveJoint_4 : decode cL_moveJoint 4 = .ok (.iload_n 1, 1) := by decide +kernel
theorem dL_moveJoint_5 : decode cL_moveJoint 5 = .ok (.iload_n 2, 1) := by decide +kernel
theorem dL_moveJoint_6 : decode cL_moveJoint 6 = .ok (.iload_n 3, 1) := by decide +kernel
theorem dL_moveJoint_7 : decode cL_moveJoint 7 = .ok (.iload 4, 2) := by decide +kernel
theorem dL_moveJoint_9 : decode cL_moveJoint 9 = .ok (.iload 5, 2) := by decide +kernel
theorem dL_moveJoint_11 : decode cL_moveJoint 11 = .ok (.invokevirtual 19, 3) := by decide +kernel
theorem dL_moveJoint_14 : decode cL_moveJoint 14 = .ok (.i2l, 1) := by decide +kernel
theorem dL_moveJoint_15 : decode cL_moveJoint 15 = .ok (.lastore, 1) := by decide +kernel
theorem dL_moveJoint_16 : decode cL_moveJoint 16 = .ok (.goto 15, 3) := by decide +kernel
theorem dL_moveJoint_19 : decode cL_moveJoint 19 = .ok (.astore 7, 2) := by decide +kernel
theorem dL_moveJoint_21 : decode cL_moveJoint 21 = .ok (.iconst 1, 1) := by decide +kernel
theorem dL_moveJoint_22 : decode cL_moveJoint 22 = .ok (.ireturn, 1) := by decide +kernel
theorem dL_moveJoint_23 : decode cL_moveJoint 23 = .ok (.astore 7, 2) := by decide +kernel
theorem dL_moveJoint_25 : decode cL_moveJoint 25 = .ok (.iconst 2, 1) := by decide +kernel
theorem dL_moveJoint_26 : decode cL_moveJoint 26 = .ok (.ireturn, 1) := by decide +kernel
theorem dL_moveJoint_27 : decode cL_moveJoint 27 = .ok (.astore 7, 2) := by decide +kernel
theorem dL_moveJoint_29 : decode cL_moveJoint 29 = .ok (.iconst 3, 1) := by decide +kernel
theorem dL_moveJoint_30 : decode cL_moveJoint 30 = .ok (.ireturn, 1) := by decide +kernel
theorem dL_moveJoint_31 : decode cL_moveJoint 31 = .ok (.iconst 0, 1) := by decide +kernel
theorem dL_moveJoint_32 : decode cL_moveJoint 32 = .ok (.ireturn, 1) := by decide +kernel
theorem dL_setDensity_0 : decode cL_setDensity 0 = .ok (.aload_n 2, 1) := by decide +kernel
theorem dL_setDensity_1 : decode cL_setDensity 1 = .ok (.iconst 0, 1) := by decide +kernel
theorem dL_setDensity_2 : decode cL_setDensity 2 = .ok (.aload_n 0, 1) := by decide +kernel
theorem dL_setDensity_3 : decode cL_setDensity 3 = .ok (.iload_n 1, 1) := by decide +kernel
theorem dL_setDensity_4 : decode cL_setDensity 4 = .ok (.invokevirtual 25, 3) := by decide +kernel
theorem dL_setDensity_7 : decode cL_setDensity 7 = .ok (.i2l, 1) := by decide +kernel
theorem dL_setDensity_8 : decode cL_setDensity 8 = .ok (.lastore, 1) := by decide +kernel
theorem dL_setDensity_9 : decode cL_setDensity 9 = .ok (.goto 9, 3) := by decide +kernel
theorem dL_setDensity_12 : decode cL_setDensity 12 = .ok (.astore_n 3, 1) := by decide +kernel
theorem dL_setDensity_13 : decode cL_setDensity 13 = .ok (.iconst 1, 1) := by decide +kernel
theorem dL_setDensity_14 : decode cL_setDensity 14 = .ok (.ireturn, 1) := by decide +kernel
theorem dL_setDensity_15 : decode cL_setDensity 15 = .ok (.astore_n 3, 1) := by decide +kernel
theorem dL_setDensity_16 : decode cL_setDensity 16 = .ok (.iconst 2, 1) := by decide +kernel
theorem dL_setDensity_17 : decode cL_setDensity 17 = .ok (.ireturn, 1) := by decide +kernel
theorem dL_setDensity_18 : decode cL_setDensity 18 = .ok (.iconst 0, 1) := by decide +kernel
theorem dL_setDensity_19 : decode cL_setDensity 19 = .ok (.ireturn, 1) := by decide +kernel
theorem dL_area_0 : decode cL_area 0 = .ok (.aload_n 2, 1) := by decide +kernel
theorem dL_area_1 : decode cL_area 1 = .ok (.iconst 0, 1) := by decide +kernel
theorem dL_area_2 : decode cL_area 2 = .ok (.aload_n 0, 1) := by decide +kernel
theorem dL_area_3 : decode cL_area 3 = .ok (.iload_n 1, 1) := by decide +kernel
theorem dL_area_4 : decode cL_area 4 = .ok (.invokevirtual 29, 3) := by decide +kernel
theorem dL_area_7 : decode cL_area 7 = .ok (.i2l, 1) := by decide +kernel
theorem dL_area_8 : decode cL_area 8 = .ok (.lastore, 1) := by decide +kernel
theorem dL_area_9 : decode cL_area 9 = .ok (.goto 6, 3) := by decide +kernel
theorem dL_area_12 : decode cL_area 12 = .ok (.astore_n 3, 1) := by decide +kernel
theorem dL_area_13 : decode cL_area 13 = .ok (.iconst 1, 1) := by decide +kernel
theorem dL_area_14 : decode cL_area 14 = .ok (.ireturn, 1) := by decide +kernel
theorem dL_area_15 : decode cL_area 15 = .ok (.iconst 0, 1) := by decide +kernel
theorem dL_area_16 : decode cL_area 16 = .ok (.ireturn, 1) := by decide +kernel
theorem dL_weight_0 : decode cL_weight 0 = .ok (.aload_n 2, 1) := by decide +kernel
theorem dL_weight_1 : decode cL_weight 1 = .ok (.iconst 0, 1) := by decide +kernel
theorem dL_weight_2 : decode cL_weight 2 = .ok (.aload_n 0, 1) := by decide +kernel
theorem dL_weight_3 : decode cL_weight 3 = .ok (.iload_n 1, 1) := by decide +kernel
theorem dL_weight_4 : decode cL_weight 4 = .ok (.invokevirtual 32, 3) := by decide +kernel
theorem dL_weight_7 : decode cL_weight 7 = .ok (.i2l, 1) := by decide +kernel
theorem dL_weight_8 : decode cL_weight 8 = .ok (.lastore, 1) := by decide +kernel
theorem dL_weight_9 : decode cL_weight 9 = .ok (.goto 6, 3) := by decide +kernel
theorem dL_weight_12 : decode cL_weight 12 = .ok (.astore_n 3, 1) := by decide +kernel
theorem dL_weight_13 : decode cL_weight 13 = .ok (.iconst 1, 1) := by decide +kernel
theorem dL_weight_14 : decode cL_weight 14 = .ok (.ireturn, 1) := by decide +kernel
theorem dL_weight_15 : decode cL_weight 15 = .ok (.iconst 0, 1) := by decide +kernel
theorem dL_weight_16 : decode cL_weight 16 = .ok (.ireturn, 1) := by decide +kernel
theorem dL_isSafe_0 : decode cL_isSafe 0 = .ok (.aload_n 2, 1) := by decide +kernel
theorem dL_isSafe_1 : decode cL_isSafe 1 = .ok (.iconst 0, 1) := by decide +kernel
theorem dL_isSafe_2 : decode cL_isSafe 2 = .ok (.aload_n 0, 1) := by decide +kernel
theorem dL_isSafe_3 : decode cL_isSafe 3 = .ok (.iload_n 1, 1) := by decide +kernel
theorem dL_isSafe_4 : decode cL_isSafe 4 = .ok (.invokevirtual 35, 3) := by decide +kernel
theorem dL_isSafe_7 : decode cL_isSafe 7 = .ok (.ifCond .eq 7, 3) := by decide +kernel
theorem dL_isSafe_10 : decode cL_isSafe 10 = .ok (.lconst 1, 1) := by decide +kernel
theorem dL_isSafe_11 : decode cL_isSafe 11 = .ok (.goto 4, 3) := by decide +kernel
theorem dL_isSafe_14 : decode cL_isSafe 14 = .ok (.lconst 0, 1) := by decide +kernel
theorem dL_isSafe_15 : decode cL_isSafe 15 = .ok (.lastore, 1) := by decide +kernel
theorem dL_isSafe_16 : decode cL_isSafe 16 = .ok (.goto 9, 3) := by decide +kernel
theorem dL_isSafe_19 : decode cL_isSafe 19 = .ok (.astore_n 3, 1) := by decide +kernel
theorem dL_isSafe_20 : decode cL_isSafe 20 = .ok (.iconst 1, 1) := by decide +kernel
theorem dL_isSafe_21 : decode cL_isSafe 21 = .ok (.ireturn, 1) := by decide +kernel
theorem dL_isSafe_22 : decode cL_isSafe 22 = .ok (.astore_n 3, 1) := by decide +kernel
theorem dL_isSafe_23 : decode cL_isSafe 23 = .ok (.iconst 2, 1) := by decide +kernel
theorem dL_isSafe_24 : decode cL_isSafe 24 = .ok (.ireturn, 1) := by decide +kernel
theorem dL_isSafe_25 : decode cL_isSafe 25 = .ok (.iconst 0, 1) := by decide +kernel
theorem dL_isSafe_26 : decode cL_isSafe 26 = .ok (.ireturn, 1) := by decide +kernel
theorem dL_thrust_0 : decode cL_thrust 0 = .ok (.aload_n 2, 1) := by decide +kernel
theorem dL_thrust_1 : decode cL_thrust 1 = .ok (.iconst 0, 1) := by decide +kernel
theorem dL_thrust_2 : decode cL_thrust 2 = .ok (.aload_n 0, 1) := by decide +kernel
theorem dL_thrust_3 : decode cL_thrust 3 = .ok (.iload_n 1, 1) := by decide +kernel
theorem dL_thrust_4 : decode cL_thrust 4 = .ok (.invokevirtual 41, 3) := by decide +kernel
theorem dL_thrust_7 : decode cL_thrust 7 = .ok (.lastore, 1) := by decide +kernel
theorem dL_thrust_8 : decode cL_thrust 8 = .ok (.goto 9, 3) := by decide +kernel
theorem dL_thrust_11 : decode cL_thrust 11 = .ok (.astore_n 3, 1) := by decide +kernel
theorem dL_thrust_12 : decode cL_thrust 12 = .ok (.iconst 1, 1) := by decide +kernel
theorem dL_thrust_13 : decode cL_thrust 13 = .ok (.ireturn, 1) := by decide +kernel
theorem dL_thrust_14 : decode cL_thrust 14 = .ok (.astore_n 3, 1) := by decide +kernel
theorem dL_thrust_15 : decode cL_thrust 15 = .ok (.iconst 2, 1) := by decide +kernel
theorem dL_thrust_16 : decode cL_thrust 16 = .ok (.ireturn, 1) := by decide +kernel
theorem dL_thrust_17 : decode cL_thrust 17 = .ok (.iconst 0, 1) := by decide +kernel
theorem dL_thrust_18 : decode cL_thrust 18 = .ok (.ireturn, 1) := by decide +kernel
theorem dL_bears_0 : decode cL_bears 0 = .ok (.aload_n 3, 1) := by decide +kernel
theorem dL_bears_1 : decode cL_bears 1 = .ok (.iconst 0, 1) := by decide +kernel
theorem dL_bears_2 : decode cL_bears 2 = .ok (.aload_n 0, 1) := by decide +kernel
theorem dL_bears_3 : decode cL_bears 3 = .ok (.iload_n 1, 1) := by decide +kernel
theorem dL_bears_4 : decode cL_bears 4 = .ok (.iload_n 2, 1) := by decide +kernel
theorem dL_bears_5 : decode cL_bears 5 = .ok (.invokevirtual 45, 3) := by decide +kernel
theorem dL_bears_8 : decode cL_bears 8 = .ok (.i2l, 1) := by decide +kernel
theorem dL_bears_9 : decode cL_bears 9 = .ok (.lastore, 1) := by decide +kernel
theorem dL_bears_10 : decode cL_bears 10 = .ok (.goto 15, 3) := by decide +kernel
theorem dL_bears_13 : decode cL_bears 13 = .ok (.astore 4, 2) := by decide +kernel
theorem dL_bears_15 : decode cL_bears 15 = .ok (.iconst 1, 1) := by decide +kernel
theorem dL_bears_16 : decode cL_bears 16 = .ok (.ireturn, 1) := by decide +kernel
theorem dL_bears_17 : decode cL_bears 17 = .ok (.astore 4, 2) := by decide +kernel
theorem dL_bears_19 : decode cL_bears 19 = .ok (.iconst 2, 1) := by decide +kernel
theorem dL_bears_20 : decode cL_bears 20 = .ok (.ireturn, 1) := by decide +kernel
theorem dL_bears_21 : decode cL_bears 21 = .ok (.astore 4, 2) := by decide +kernel
theorem dL_bears_23 : decode cL_bears 23 = .ok (.iconst 3, 1) := by decide +kernel
theorem dL_bears_24 : decode cL_bears 24 = .ok (.ireturn, 1) := by decide +kernel
theorem dL_bears_25 : decode cL_bears 25 = .ok (.iconst 0, 1) := by decide +kernel
theorem dL_bears_26 : decode cL_bears 26 = .ok (.ireturn, 1) := by decide +kernel
theorem dL_addBlocks_0 : decode cL_addBlocks 0 = .ok (.aload 6, 2) := by decide +kernel
theorem dL_addBlocks_2 : decode cL_addBlocks 2 = .ok (.iconst 0, 1) := by decide +kernel
theorem dL_addBlocks_3 : decode cL_addBlocks 3 = .ok (.aload_n 0, 1) := by decide +kernel
theorem dL_addBlocks_4 : decode cL_addBlocks 4 = .ok (.iload_n 1, 1) := by decide +kernel
theorem dL_addBlocks_5 : decode cL_addBlocks 5 = .ok (.iload_n 2, 1) := by decide +kernel
theorem dL_addBlocks_6 : decode cL_addBlocks 6 = .ok (.iload_n 3, 1) := by decide +kernel
theorem dL_addBlocks_7 : decode cL_addBlocks 7 = .ok (.iload 4, 2) := by decide +kernel
theorem dL_addBlocks_9 : decode cL_addBlocks 9 = .ok (.iload 5, 2) := by decide +kernel
theorem dL_addBlocks_11 : decode cL_addBlocks 11 = .ok (.invokevirtual 49, 3) := by decide +kernel
theorem dL_addBlocks_14 : decode cL_addBlocks 14 = .ok (.i2l, 1) := by decide +kernel
theorem dL_addBlocks_15 : decode cL_addBlocks 15 = .ok (.lastore, 1) := by decide +kernel
theorem dL_addBlocks_16 : decode cL_addBlocks 16 = .ok (.goto 11, 3) := by decide +kernel
theorem dL_addBlocks_19 : decode cL_addBlocks 19 = .ok (.astore 7, 2) := by decide +kernel
theorem dL_addBlocks_21 : decode cL_addBlocks 21 = .ok (.iconst 1, 1) := by decide +kernel
theorem dL_addBlocks_22 : decode cL_addBlocks 22 = .ok (.ireturn, 1) := by decide +kernel
theorem dL_addBlocks_23 : decode cL_addBlocks 23 = .ok (.astore 7, 2) := by decide +kernel
theorem dL_addBlocks_25 : decode cL_addBlocks 25 = .ok (.iconst 2, 1) := by decide +kernel
theorem dL_addBlocks_26 : decode cL_addBlocks 26 = .ok (.ireturn, 1) := by decide +kernel
theorem dL_addBlocks_27 : decode cL_addBlocks 27 = .ok (.iconst 0, 1) := by decide +kernel
theorem dL_addBlocks_28 : decode cL_addBlocks 28 = .ok (.ireturn, 1) := by decide +kernel
theorem dL_blocks_0 : decode cL_blocks 0 = .ok (.aload_n 2, 1) := by decide +kernel
theorem dL_blocks_1 : decode cL_blocks 1 = .ok (.iconst 0, 1) := by decide +kernel
theorem dL_blocks_2 : decode cL_blocks 2 = .ok (.aload_n 0, 1) := by decide +kernel
theorem dL_blocks_3 : decode cL_blocks 3 = .ok (.iload_n 1, 1) := by decide +kernel
theorem dL_blocks_4 : decode cL_blocks 4 = .ok (.invokevirtual 53, 3) := by decide +kernel
theorem dL_blocks_7 : decode cL_blocks 7 = .ok (.i2l, 1) := by decide +kernel
theorem dL_blocks_8 : decode cL_blocks 8 = .ok (.lastore, 1) := by decide +kernel
theorem dL_blocks_9 : decode cL_blocks 9 = .ok (.goto 6, 3) := by decide +kernel
theorem dL_blocks_12 : decode cL_blocks 12 = .ok (.astore_n 3, 1) := by decide +kernel
theorem dL_blocks_13 : decode cL_blocks 13 = .ok (.iconst 1, 1) := by decide +kernel
theorem dL_blocks_14 : decode cL_blocks 14 = .ok (.ireturn, 1) := by decide +kernel
theorem dL_blocks_15 : decode cL_blocks 15 = .ok (.iconst 0, 1) := by decide +kernel
theorem dL_blocks_16 : decode cL_blocks 16 = .ok (.ireturn, 1) := by decide +kernel
theorem dL_bestBlock_0 : decode cL_bestBlock 0 = .ok (.aload_n 2, 1) := by decide +kernel
theorem dL_bestBlock_1 : decode cL_bestBlock 1 = .ok (.iconst 0, 1) := by decide +kernel
theorem dL_bestBlock_2 : decode cL_bestBlock 2 = .ok (.aload_n 0, 1) := by decide +kernel
theorem dL_bestBlock_3 : decode cL_bestBlock 3 = .ok (.iload_n 1, 1) := by decide +kernel
theorem dL_bestBlock_4 : decode cL_bestBlock 4 = .ok (.invokevirtual 56, 3) := by decide +kernel
theorem dL_bestBlock_7 : decode cL_bestBlock 7 = .ok (.i2l, 1) := by decide +kernel
theorem dL_bestBlock_8 : decode cL_bestBlock 8 = .ok (.lastore, 1) := by decide +kernel
theorem dL_bestBlock_9 : decode cL_bestBlock 9 = .ok (.goto 9, 3) := by decide +kernel
theorem dL_bestBlock_12 : decode cL_bestBlock 12 = .ok (.astore_n 3, 1) := by decide +kernel
theorem dL_bestBlock_13 : decode cL_bestBlock 13 = .ok (.iconst 1, 1) := by decide +kernel
theorem dL_bestBlock_14 : decode cL_bestBlock 14 = .ok (.ireturn, 1) := by decide +kernel
theorem dL_bestBlock_15 : decode cL_bestBlock 15 = .ok (.astore_n 3, 1) := by decide +kernel
theorem dL_bestBlock_16 : decode cL_bestBlock 16 = .ok (.iconst 2, 1) := by decide +kernel
theorem dL_bestBlock_17 : decode cL_bestBlock 17 = .ok (.ireturn, 1) := by decide +kernel
theorem dL_bestBlock_18 : decode cL_bestBlock 18 = .ok (.iconst 0, 1) := by decide +kernel
theorem dL_bestBlock_19 : decode cL_bestBlock 19 = .ok (.ireturn, 1) := by decide +kernel
theorem dL_addMason_0 : decode cL_addMason 0 = .ok (.aload_n 3, 1) := by decide +kernel
theorem dL_addMason_1 : decode cL_addMason 1 = .ok (.iconst 0, 1) := by decide +kernel
theorem dL_addMason_2 : decode cL_addMason 2 = .ok (.aload_n 0, 1) := by decide +kernel
theorem dL_addMason_3 : decode cL_addMason 3 = .ok (.iload_n 1, 1) := by decide +kernel
theorem dL_addMason_4 : decode cL_addMason 4 = .ok (.iload_n 2, 1) := by decide +kernel
theorem dL_addMason_5 : decode cL_addMason 5 = .ok (.invokevirtual 59, 3) := by decide +kernel
theorem dL_addMason_8 : decode cL_addMason 8 = .ok (.i2l, 1) := by decide +kernel
theorem dL_addMason_9 : decode cL_addMason 9 = .ok (.lastore, 1) := by decide +kernel
theorem dL_addMason_10 : decode cL_addMason 10 = .ok (.goto 11, 3) := by decide +kernel
theorem dL_addMason_13 : decode cL_addMason 13 = .ok (.astore 4, 2) := by decide +kernel
theorem dL_addMason_15 : decode cL_addMason 15 = .ok (.iconst 1, 1) := by decide +kernel
theorem dL_addMason_16 : decode cL_addMason 16 = .ok (.ireturn, 1) := by decide +kernel
theorem dL_addMason_17 : decode cL_addMason 17 = .ok (.astore 4, 2) := by decide +kernel
theorem dL_addMason_19 : decode cL_addMason 19 = .ok (.iconst 2, 1) := by decide +kernel
theorem dL_addMason_20 : decode cL_addMason 20 = .ok (.ireturn, 1) := by decide +kernel
theorem dL_addMason_21 : decode cL_addMason 21 = .ok (.iconst 0, 1) := by decide +kernel
theorem dL_addMason_22 : decode cL_addMason 22 = .ok (.ireturn, 1) := by decide +kernel
theorem dL_cut_0 : decode cL_cut 0 = .ok (.aload 4, 2) := by decide +kernel
theorem dL_cut_2 : decode cL_cut 2 = .ok (.iconst 0, 1) := by decide +kernel
theorem dL_cut_3 : decode cL_cut 3 = .ok (.aload_n 0, 1) := by decide +kernel
theorem dL_cut_4 : decode cL_cut 4 = .ok (.iload_n 1, 1) := by decide +kernel
theorem dL_cut_5 : decode cL_cut 5 = .ok (.iload_n 2, 1) := by decide +kernel
theorem dL_cut_6 : decode cL_cut 6 = .ok (.iload_n 3, 1) := by decide +kernel
theorem dL_cut_7 : decode cL_cut 7 = .ok (.invokevirtual 62, 3) := by decide +kernel
theorem dL_cut_10 : decode cL_cut 10 = .ok (.i2l, 1) := by decide +kernel
theorem dL_cut_11 : decode cL_cut 11 = .ok (.lastore, 1) := by decide +kernel
theorem dL_cut_12 : decode cL_cut 12 = .ok (.goto 15, 3) := by decide +kernel
theorem dL_cut_15 : decode cL_cut 15 = .ok (.astore 5, 2) := by decide +kernel
theorem dL_cut_17 : decode cL_cut 17 = .ok (.iconst 1, 1) := by decide +kernel
theorem dL_cut_18 : decode cL_cut 18 = .ok (.ireturn, 1) := by decide +kernel
theorem dL_cut_19 : decode cL_cut 19 = .ok (.astore 5, 2) := by decide +kernel
theorem dL_cut_21 : decode cL_cut 21 = .ok (.iconst 2, 1) := by decide +kernel
theorem dL_cut_22 : decode cL_cut 22 = .ok (.ireturn, 1) := by decide +kernel
theorem dL_cut_23 : decode cL_cut 23 = .ok (.astore 5, 2) := by decide +kernel
theorem dL_cut_25 : decode cL_cut 25 = .ok (.iconst 3, 1) := by decide +kernel
theorem dL_cut_26 : decode cL_cut 26 = .ok (.ireturn, 1) := by decide +kernel
theorem dL_cut_27 : decode cL_cut 27 = .ok (.iconst 0, 1) := by decide +kernel
theorem dL_cut_28 : decode cL_cut 28 = .ok (.ireturn, 1) := by decide +kernel
theorem dL_readyOn_0 : decode cL_readyOn 0 = .ok (.aload_n 2, 1) := by decide +kernel
theorem dL_readyOn_1 : decode cL_readyOn 1 = .ok (.iconst 0, 1) := by decide +kernel
theorem dL_readyOn_2 : decode cL_readyOn 2 = .ok (.aload_n 0, 1) := by decide +kernel
theorem dL_readyOn_3 : decode cL_readyOn 3 = .ok (.iload_n 1, 1) := by decide +kernel
theorem dL_readyOn_4 : decode cL_readyOn 4 = .ok (.invokevirtual 66, 3) := by decide +kernel
theorem dL_readyOn_7 : decode cL_readyOn 7 = .ok (.i2l, 1) := by decide +kernel
theorem dL_readyOn_8 : decode cL_readyOn 8 = .ok (.lastore, 1) := by decide +kernel
theorem dL_readyOn_9 : decode cL_readyOn 9 = .ok (.goto 6, 3) := by decide +kernel
theorem dL_readyOn_12 : decode cL_readyOn 12 = .ok (.astore_n 3, 1) := by decide +kernel
theorem dL_readyOn_13 : decode cL_readyOn 13 = .ok (.iconst 1, 1) := by decide +kernel
theorem dL_readyOn_14 : decode cL_readyOn 14 = .ok (.ireturn, 1) := by decide +kernel
theorem dL_readyOn_15 : decode cL_readyOn 15 = .ok (.iconst 0, 1) := by decide +kernel
theorem dL_readyOn_16 : decode cL_readyOn 16 = .ok (.ireturn, 1) := by decide +kernel
theorem dL_stateOf_0 : decode cL_stateOf 0 = .ok (.aload_n 2, 1) := by decide +kernel
theorem dL_stateOf_1 : decode cL_stateOf 1 = .ok (.iconst 0, 1) := by decide +kernel
theorem dL_stateOf_2 : decode cL_stateOf 2 = .ok (.aload_n 0, 1) := by decide +kernel
theorem dL_stateOf_3 : decode cL_stateOf 3 = .ok (.iload_n 1, 1) := by decide +kernel
theorem dL_stateOf_4 : decode cL_stateOf 4 = .ok (.invokevirtual 69, 3) := by decide +kernel
theorem dL_stateOf_7 : decode cL_stateOf 7 = .ok (.i2l, 1) := by decide +kernel
theorem dL_stateOf_8 : decode cL_stateOf 8 = .ok (.lastore, 1) := by decide +kernel
theorem dL_stateOf_9 : decode cL_stateOf 9 = .ok (.goto 6, 3) := by decide +kernel
theorem dL_stateOf_12 : decode cL_stateOf 12 = .ok (.astore_n 3, 1) := by decide +kernel
theorem dL_stateOf_13 : decode cL_stateOf 13 = .ok (.iconst 1, 1) := by decide +kernel
theorem dL_stateOf_14 : decode cL_stateOf 14 = .ok (.ireturn, 1) := by decide +kernel
theorem dL_stateOf_15 : decode cL_stateOf 15 = .ok (.iconst 0, 1) := by decide +kernel
theorem dL_stateOf_16 : decode cL_stateOf 16 = .ok (.ireturn, 1) := by decide +kernel
theorem dL_mark_0 : decode cL_mark 0 = .ok (.aload_n 2, 1) := by decide +kernel
theorem dL_mark_1 : decode cL_mark 1 = .ok (.iconst 0, 1) := by decide +kernel
theorem dL_mark_2 : decode cL_mark 2 = .ok (.aload_n 0, 1) := by decide +kernel
theorem dL_mark_3 : decode cL_mark 3 = .ok (.iload_n 1, 1) := by decide +kernel
theorem dL_mark_4 : decode cL_mark 4 = .ok (.invokevirtual 73, 3) := by decide +kernel
theorem dL_mark_7 : decode cL_mark 7 = .ok (.i2l, 1) := by decide +kernel
theorem dL_mark_8 : decode cL_mark 8 = .ok (.lastore, 1) := by decide +kernel
theorem dL_mark_9 : decode cL_mark 9 = .ok (.goto 6, 3) := by decide +kernel
theorem dL_mark_12 : decode cL_mark 12 = .ok (.astore_n 3, 1) := by decide +kernel
theorem dL_mark_13 : decode cL_mark 13 = .ok (.iconst 1, 1) := by decide +kernel
theorem dL_mark_14 : decode cL_mark 14 = .ok (.ireturn, 1) := by decide +kernel
theorem dL_mark_15 : decode cL_mark 15 = .ok (.iconst 0, 1) := by decide +kernel
theorem dL_mark_16 : decode cL_mark 16 = .ok (.ireturn, 1) := by decide +kernel
theorem dL_markAt_0 : decode cL_markAt 0 = .ok (.aload_n 3, 1) := by decide +kernel
theorem dL_markAt_1 : decode cL_markAt 1 = .ok (.iconst 0, 1) := by decide +kernel
theorem dL_markAt_2 : decode cL_markAt 2 = .ok (.aload_n 0, 1) := by decide +kernel
theorem dL_markAt_3 : decode cL_markAt 3 = .ok (.iload_n 1, 1) := by decide +kernel
theorem dL_markAt_4 : decode cL_markAt 4 = .ok (.iload_n 2, 1) := by decide +kernel
theorem dL_markAt_5 : decode cL_markAt 5 = .ok (.invokevirtual 76, 3) := by decide +kernel
theorem dL_markAt_8 : decode cL_markAt 8 = .ok (.i2l, 1) := by decide +kernel
theorem dL_markAt_9 : decode cL_markAt 9 = .ok (.lastore, 1) := by decide +kernel
theorem dL_markAt_10 : decode cL_markAt 10 = .ok (.goto 7, 3) := by decide +kernel
theorem dL_markAt_13 : decode cL_markAt 13 = .ok (.astore 4, 2) := by decide +kernel
theorem dL_markAt_15 : decode cL_markAt 15 = .ok (.iconst 1, 1) := by decide +kernel
theorem dL_markAt_16 : decode cL_markAt 16 = .ok (.ireturn, 1) := by decide +kernel
theorem dL_markAt_17 : decode cL_markAt 17 = .ok (.iconst 0, 1) := by decide +kernel
theorem dL_markAt_18 : decode cL_markAt 18 = .ok (.ireturn, 1) := by decide +kernel
theorem dL_fits_0 : decode cL_fits 0 = .ok (.aload_n 3, 1) := by decide +kernel
theorem dL_fits_1 : decode cL_fits 1 = .ok (.iconst 0, 1) := by decide +kernel
theorem dL_fits_2 : decode cL_fits 2 = .ok (.aload_n 0, 1) := by decide +kernel
theorem dL_fits_3 : decode cL_fits 3 = .ok (.iload_n 1, 1) := by decide +kernel
theorem dL_fits_4 : decode cL_fits 4 = .ok (.iload_n 2, 1) := by decide +kernel
theorem dL_fits_5 : decode cL_fits 5 = .ok (.invokevirtual 80, 3) := by decide +kernel
theorem dL_fits_8 : decode cL_fits 8 = .ok (.ifCond .eq 7, 3) := by decide +kernel
theorem dL_fits_11 : decode cL_fits 11 = .ok (.lconst 1, 1) := by decide +kernel
theorem dL_fits_12 : decode cL_fits 12 = .ok (.goto 4, 3) := by decide +kernel
theorem dL_fits_15 : decode cL_fits 15 = .ok (.lconst 0, 1) := by decide +kernel
theorem dL_fits_16 : decode cL_fits 16 = .ok (.lastore, 1) := by decide +kernel
theorem dL_fits_17 : decode cL_fits 17 = .ok (.goto 7, 3) := by decide +kernel
theorem dL_fits_20 : decode cL_fits 20 = .ok (.astore 4, 2) := by decide +kernel
theorem dL_fits_22 : decode cL_fits 22 = .ok (.iconst 1, 1) := by decide +kernel
theorem dL_fits_23 : decode cL_fits 23 = .ok (.ireturn, 1) := by decide +kernel
theorem dL_fits_24 : decode cL_fits 24 = .ok (.iconst 0, 1) := by decide +kernel
theorem dL_fits_25 : decode cL_fits 25 = .ok (.ireturn, 1) := by decide +kernel
theorem dL_setCentre_0 : decode cL_setCentre 0 = .ok (.aload_n 2, 1) := by decide +kernel
theorem dL_setCentre_1 : decode cL_setCentre 1 = .ok (.iconst 0, 1) := by decide +kernel
theorem dL_setCentre_2 : decode cL_setCentre 2 = .ok (.aload_n 0, 1) := by decide +kernel
theorem dL_setCentre_3 : decode cL_setCentre 3 = .ok (.iload_n 1, 1) := by decide +kernel
theorem dL_setCentre_4 : decode cL_setCentre 4 = .ok (.invokevirtual 84, 3) := by decide +kernel
theorem dL_setCentre_7 : decode cL_setCentre 7 = .ok (.i2l, 1) := by decide +kernel
theorem dL_setCentre_8 : decode cL_setCentre 8 = .ok (.lastore, 1) := by decide +kernel
theorem dL_setCentre_9 : decode cL_setCentre 9 = .ok (.goto 9, 3) := by decide +kernel
theorem dL_setCentre_12 : decode cL_setCentre 12 = .ok (.astore_n 3, 1) := by decide +kernel
theorem dL_setCentre_13 : decode cL_setCentre 13 = .ok (.iconst 1, 1) := by decide +kernel
theorem dL_setCentre_14 : decode cL_setCentre 14 = .ok (.ireturn, 1) := by decide +kernel
theorem dL_setCentre_15 : decode cL_setCentre 15 = .ok (.astore_n 3, 1) := by decide +kernel
theorem dL_setCentre_16 : decode cL_setCentre 16 = .ok (.iconst 2, 1) := by decide +kernel
theorem dL_setCentre_17 : decode cL_setCentre 17 = .ok (.ireturn, 1) := by decide +kernel
theorem dL_setCentre_18 : decode cL_setCentre 18 = .ok (.iconst 0, 1) := by decide +kernel
theorem dL_setCentre_19 : decode cL_setCentre 19 = .ok (.ireturn, 1) := by decide +kernel
theorem dL_set_0 : decode cL_set 0 = .ok (.aload_n 3, 1) := by decide +kernel
theorem dL_set_1 : decode cL_set 1 = .ok (.iconst 0, 1) := by decide +kernel
theorem dL_set_2 : decode cL_set 2 = .ok (.aload_n 0, 1) := by decide +kernel
theorem dL_set_3 : decode cL_set 3 = .ok (.iload_n 1, 1) := by decide +kernel
theorem dL_set_4 : decode cL_set 4 = .ok (.iload_n 2, 1) := by decide +kernel
theorem dL_set_5 : decode cL_set 5 = .ok (.invokevirtual 87, 3) := by decide +kernel
theorem dL_set_8 : decode cL_set 8 = .ok (.i2l, 1) := by decide +kernel
theorem dL_set_9 : decode cL_set 9 = .ok (.lastore, 1) := by decide +kernel
theorem dL_set_10 : decode cL_set 10 = .ok (.goto 15, 3) := by decide +kernel
theorem dL_set_13 : decode cL_set 13 = .ok (.astore 4, 2) := by decide +kernel
theorem dL_set_15 : decode cL_set 15 = .ok (.iconst 1, 1) := by decide +kernel
theorem dL_set_16 : decode cL_set 16 = .ok (.ireturn, 1) := by decide +kernel
theorem dL_set_17 : decode cL_set 17 = .ok (.astore 4, 2) := by decide +kernel
theorem dL_set_19 : decode cL_set 19 = .ok (.iconst 2, 1) := by decide +kernel
theorem dL_set_20 : decode cL_set 20 = .ok (.ireturn, 1) := by decide +kernel
theorem dL_set_21 : decode cL_set 21 = .ok (.astore 4, 2) := by decide +kernel
theorem dL_set_23 : decode cL_set 23 = .ok (.iconst 3, 1) := by decide +kernel
theorem dL_set_24 : decode cL_set 24 = .ok (.ireturn, 1) := by decide +kernel
theorem dL_set_25 : decode cL_set 25 = .ok (.iconst 0, 1) := by decide +kernel
theorem dL_set_26 : decode cL_set 26 = .ok (.ireturn, 1) := by decide +kernel
theorem dL_stoneIn_0 : decode cL_stoneIn 0 = .ok (.aload_n 2, 1) := by decide +kernel
theorem dL_stoneIn_1 : decode cL_stoneIn 1 = .ok (.iconst 0, 1) := by decide +kernel
theorem dL_stoneIn_2 : decode cL_stoneIn 2 = .ok (.aload_n 0, 1) := by decide +kernel
theorem dL_stoneIn_3 : decode cL_stoneIn 3 = .ok (.iload_n 1, 1) := by decide +kernel
theorem dL_stoneIn_4 : decode cL_stoneIn 4 = .ok (.invokevirtual 90, 3) := by decide +kernel
theorem dL_stoneIn_7 : decode cL_stoneIn 7 = .ok (.i2l, 1) := by decide +kernel
theorem dL_stoneIn_8 : decode cL_stoneIn 8 = .ok (.lastore, 1) := by decide +kernel
theorem dL_stoneIn_9 : decode cL_stoneIn 9 = .ok (.goto 9, 3) := by decide +kernel
theorem dL_stoneIn_12 : decode cL_stoneIn 12 = .ok (.astore_n 3, 1) := by decide +kernel
theorem dL_stoneIn_13 : decode cL_stoneIn 13 = .ok (.iconst 1, 1) := by decide +kernel
theorem dL_stoneIn_14 : decode cL_stoneIn 14 = .ok (.ireturn, 1) := by decide +kernel
theorem dL_stoneIn_15 : decode cL_stoneIn 15 = .ok (.astore_n 3, 1) := by decide +kernel
theorem dL_stoneIn_16 : decode cL_stoneIn 16 = .ok (.iconst 2, 1) := by decide +kernel
theorem dL_stoneIn_17 : decode cL_stoneIn 17 = .ok (.ireturn, 1) := by decide +kernel
theorem dL_stoneIn_18 : decode cL_stoneIn 18 = .ok (.iconst 0, 1) := by decide +kernel
theorem dL_stoneIn_19 : decode cL_stoneIn 19 = .ok (.ireturn, 1) := by decide +kernel
theorem dL_strike_0 : decode cL_strike 0 = .ok (.aload_n 1, 1) := by decide +kernel
theorem dL_strike_1 : decode cL_strike 1 = .ok (.iconst 0, 1) := by decide +kernel
theorem dL_strike_2 : decode cL_strike 2 = .ok (.aload_n 0, 1) := by decide +kernel
theorem dL_strike_3 : decode cL_strike 3 = .ok (.invokevirtual 93, 3) := by decide +kernel
theorem dL_strike_6 : decode cL_strike 6 = .ok (.lastore, 1) := by decide +kernel
theorem dL_strike_7 : decode cL_strike 7 = .ok (.goto 9, 3) := by decide +kernel
theorem dL_strike_10 : decode cL_strike 10 = .ok (.astore_n 2, 1) := by decide +kernel
theorem dL_strike_11 : decode cL_strike 11 = .ok (.iconst 1, 1) := by decide +kernel
theorem dL_strike_12 : decode cL_strike 12 = .ok (.ireturn, 1) := by decide +kernel
theorem dL_strike_13 : decode cL_strike 13 = .ok (.astore_n 2, 1) := by decide +kernel
theorem dL_strike_14 : decode cL_strike 14 = .ok (.iconst 2, 1) := by decide +kernel
theorem dL_strike_15 : decode cL_strike 15 = .ok (.ireturn, 1) := by decide +kernel
theorem dL_strike_16 : decode cL_strike 16 = .ok (.iconst 0, 1) := by decide +kernel
theorem dL_strike_17 : decode cL_strike 17 = .ok (.ireturn, 1) := by decide +kernel
theorem dL_load_0 : decode cL_load 0 = .ok (.aload_n 3, 1) := by decide +kernel
theorem dL_load_1 : decode cL_load 1 = .ok (.iconst 0, 1) := by decide +kernel
theorem dL_load_2 : decode cL_load 2 = .ok (.aload_n 0, 1) := by decide +kernel
theorem dL_load_3 : decode cL_load 3 = .ok (.iload_n 1, 1) := by decide +kernel
theorem dL_load_4 : decode cL_load 4 = .ok (.iload_n 2, 1) := by decide +kernel
theorem dL_load_5 : decode cL_load 5 = .ok (.invokevirtual 97, 3) := by decide +kernel
theorem dL_load_8 : decode cL_load 8 = .ok (.ifCond .eq 7, 3) := by decide +kernel
theorem dL_load_11 : decode cL_load 11 = .ok (.lconst 1, 1) := by decide +kernel
theorem dL_load_12 : decode cL_load 12 = .ok (.goto 4, 3) := by decide +kernel
theorem dL_load_15 : decode cL_load 15 = .ok (.lconst 0, 1) := by decide +kernel
theorem dL_load_16 : decode cL_load 16 = .ok (.lastore, 1) := by decide +kernel
theorem dL_load_17 : decode cL_load 17 = .ok (.goto 15, 3) := by decide +kernel
theorem dL_load_20 : decode cL_load 20 = .ok (.astore 4, 2) := by decide +kernel
theorem dL_load_22 : decode cL_load 22 = .ok (.iconst 1, 1) := by decide +kernel
theorem dL_load_23 : decode cL_load 23 = .ok (.ireturn, 1) := by decide +kernel
theorem dL_load_24 : decode cL_load 24 = .ok (.astore 4, 2) := by decide +kernel
theorem dL_load_26 : decode cL_load 26 = .ok (.iconst 2, 1) := by decide +kernel
theorem dL_load_27 : decode cL_load 27 = .ok (.ireturn, 1) := by decide +kernel
theorem dL_load_28 : decode cL_load 28 = .ok (.astore 4, 2) := by decide +kernel
theorem dL_load_30 : decode cL_load 30 = .ok (.iconst 3, 1) := by decide +kernel
theorem dL_load_31 : decode cL_load 31 = .ok (.ireturn, 1) := by decide +kernel
theorem dL_load_32 : decode cL_load 32 = .ok (.iconst 0, 1) := by decide +kernel
theorem dL_load_33 : decode cL_load 33 = .ok (.ireturn, 1) := by decide +kernel
theorem dL_pass_0 : decode cL_pass 0 = .ok (.aload_n 2, 1) := by decide +kernel
theorem dL_pass_1 : decode cL_pass 1 = .ok (.iconst 0, 1) := by decide +kernel
theorem dL_pass_2 : decode cL_pass 2 = .ok (.aload_n 0, 1) := by decide +kernel
theorem dL_pass_3 : decode cL_pass 3 = .ok (.iload_n 1, 1) := by decide +kernel
theorem dL_pass_4 : decode cL_pass 4 = .ok (.invokevirtual 100, 3) := by decide +kernel
theorem dL_pass_7 : decode cL_pass 7 = .ok (.i2l, 1) := by decide +kernel
theorem dL_pass_8 : decode cL_pass 8 = .ok (.lastore, 1) := by decide +kernel
theorem dL_pass_9 : decode cL_pass 9 = .ok (.goto 6, 3) := by decide +kernel
theorem dL_pass_12 : decode cL_pass 12 = .ok (.astore_n 3, 1) := by decide +kernel
theorem dL_pass_13 : decode cL_pass 13 = .ok (.iconst 1, 1) := by decide +kernel
theorem dL_pass_14 : decode cL_pass 14 = .ok (.ireturn, 1) := by decide +kernel
theorem dL_pass_15 : decode cL_pass 15 = .ok (.iconst 0, 1) := by decide +kernel
theorem dL_pass_16 : decode cL_pass 16 = .ok (.ireturn, 1) := by decide +kernel
theorem dL_usedShare_0 : decode cL_usedShare 0 = .ok (.aload_n 1, 1) := by decide +kernel
theorem dL_usedShare_1 : decode cL_usedShare 1 = .ok (.iconst 0, 1) := by decide +kernel
theorem dL_usedShare_2 : decode cL_usedShare 2 = .ok (.aload_n 0, 1) := by decide +kernel
theorem dL_usedShare_3 : decode cL_usedShare 3 = .ok (.invokevirtual 103, 3) := by decide +kernel
theorem dL_usedShare_6 : decode cL_usedShare 6 = .ok (.f2d, 1) := by decide +kernel
theorem dL_usedShare_7 : decode cL_usedShare 7 = .ok (.dastore, 1) := by decide +kernel
theorem dL_usedShare_8 : decode cL_usedShare 8 = .ok (.goto 6, 3) := by decide +kernel
theorem dL_usedShare_11 : decode cL_usedShare 11 = .ok (.astore_n 2, 1) := by decide +kernel
theorem dL_usedShare_12 : decode cL_usedShare 12 = .ok (.iconst 1, 1) := by decide +kernel
theorem dL_usedShare_13 : decode cL_usedShare 13 = .ok (.ireturn, 1) := by decide +kernel
theorem dL_usedShare_14 : decode cL_usedShare 14 = .ok (.iconst 0, 1) := by decide +kernel
theorem dL_usedShare_15 : decode cL_usedShare 15 = .ok (.ireturn, 1) := by decide +kernel
theorem dL_meanArea_0 : decode cL_meanArea 0 = .ok (.aload_n 1, 1) := by decide +kernel
theorem dL_meanArea_1 : decode cL_meanArea 1 = .ok (.iconst 0, 1) := by decide +kernel
theorem dL_meanArea_2 : decode cL_meanArea 2 = .ok (.aload_n 0, 1) := by decide +kernel
theorem dL_meanArea_3 : decode cL_meanArea 3 = .ok (.invokevirtual 109, 3) := by decide +kernel
theorem dL_meanArea_6 : decode cL_meanArea 6 = .ok (.dastore, 1) := by decide +kernel
theorem dL_meanArea_7 : decode cL_meanArea 7 = .ok (.goto 6, 3) := by decide +kernel
theorem dL_meanArea_10 : decode cL_meanArea 10 = .ok (.astore_n 2, 1) := by decide +kernel
theorem dL_meanArea_11 : decode cL_meanArea 11 = .ok (.iconst 1, 1) := by decide +kernel
theorem dL_meanArea_12 : decode cL_meanArea 12 = .ok (.ireturn, 1) := by decide +kernel
theorem dL_meanArea_13 : decode cL_meanArea 13 = .ok (.iconst 0, 1) := by decide +kernel
theorem dL_meanArea_14 : decode cL_meanArea 14 = .ok (.ireturn, 1) := by decide +kernel
