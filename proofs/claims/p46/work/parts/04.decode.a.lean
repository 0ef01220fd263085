theorem dX2_init_0 : decode cX2_init 0 = .ok (.aload_n 0, 1) := by decide +kernel
theorem dX2_init_1 : decode cX2_init 1 = .ok (.invokespecial 3, 3) := by decide +kernel
theorem dX2_init_4 : decode cX2_init 4 = .ok (.aload_n 0, 1) := by decide +kernel
theorem dX2_init_5 : decode cX2_init 5 = .ok (.bipush 9, 2) := by decide +kernel
theorem dX2_init_7 : decode cX2_init 7 = .ok (.anewarray 9, 3) := by decide +kernel
theorem dX2_init_10 : decode cX2_init 10 = .ok (.putfield 11, 3) := by decide +kernel
theorem dX2_init_13 : decode cX2_init 13 = .ok (.iconst 0, 1) := by decide +kernel
theorem dX2_init_14 : decode cX2_init 14 = .ok (.istore_n 1, 1) := by decide +kernel
theorem dX2_init_15 : decode cX2_init 15 = .ok (.iload_n 1, 1) := by decide +kernel
theorem dX2_init_16 : decode cX2_init 16 = .ok (.bipush 9, 2) := by decide +kernel
theorem dX2_init_18 : decode cX2_init 18 = .ok (.if_icmp .ge 22, 3) := by decide +kernel
theorem dX2_init_21 : decode cX2_init 21 = .ok (.aload_n 0, 1) := by decide +kernel
theorem dX2_init_22 : decode cX2_init 22 = .ok (.getfield 11, 3) := by decide +kernel
theorem dX2_init_25 : decode cX2_init 25 = .ok (.iload_n 1, 1) := by decide +kernel
theorem dX2_init_26 : decode cX2_init 26 = .ok (.new 9, 3) := by decide +kernel
theorem dX2_init_29 : decode cX2_init 29 = .ok (.dup, 1) := by decide +kernel
theorem dX2_init_30 : decode cX2_init 30 = .ok (.invokespecial 17, 3) := by decide +kernel
theorem dX2_init_33 : decode cX2_init 33 = .ok (.aastore, 1) := by decide +kernel
theorem dX2_init_34 : decode cX2_init 34 = .ok (.iinc 1 1, 3) := by decide +kernel
theorem dX2_init_37 : decode cX2_init 37 = .ok (.goto (-22), 3) := by decide +kernel
theorem dX2_init_40 : decode cX2_init 40 = .ok (.return_, 1) := by decide +kernel
theorem dX2_note_0 : decode cX2_note 0 = .ok (.aload_n 0, 1) := by decide +kernel
theorem dX2_note_1 : decode cX2_note 1 = .ok (.getfield 11, 3) := by decide +kernel
theorem dX2_note_4 : decode cX2_note 4 = .ok (.aload_n 0, 1) := by decide +kernel
theorem dX2_note_5 : decode cX2_note 5 = .ok (.getfield 18, 3) := by decide +kernel
theorem dX2_note_8 : decode cX2_note 8 = .ok (.aaload, 1) := by decide +kernel
theorem dX2_note_9 : decode cX2_note 9 = .ok (.aload_n 1, 1) := by decide +kernel
theorem dX2_note_10 : decode cX2_note 10 = .ok (.invokevirtual 22, 3) := by decide +kernel
theorem dX2_note_13 : decode cX2_note 13 = .ok (.return_, 1) := by decide +kernel
theorem dX2_noted_0 : decode cX2_noted 0 = .ok (.aload_n 0, 1) := by decide +kernel
theorem dX2_noted_1 : decode cX2_noted 1 = .ok (.getfield 11, 3) := by decide +kernel
theorem dX2_noted_4 : decode cX2_noted 4 = .ok (.aload_n 0, 1) := by decide +kernel
theorem dX2_noted_5 : decode cX2_noted 5 = .ok (.getfield 18, 3) := by decide +kernel
theorem dX2_noted_8 : decode cX2_noted 8 = .ok (.aaload, 1) := by decide +kernel
theorem dX2_noted_9 : decode cX2_noted 9 = .ok (.areturn, 1) := by decide +kernel
theorem dX2_keepNoted_0 : decode cX2_keepNoted 0 = .ok (.aload_n 0, 1) := by decide +kernel
theorem dX2_keepNoted_1 : decode cX2_keepNoted 1 = .ok (.aload_n 0, 1) := by decide +kernel
theorem dX2_keepNoted_2 : decode cX2_keepNoted 2 = .ok (.getfield 18, 3) := by decide +kernel
theorem dX2_keepNoted_5 : decode cX2_keepNoted 5 = .ok (.iconst 1, 1) := by decide +kernel
theorem dX2_keepNoted_6 : decode cX2_keepNoted 6 = .ok (.iadd, 1) := by decide +kernel
theorem dX2_keepNoted_7 : decode cX2_keepNoted 7 = .ok (.bipush 9, 2) := by decide +kernel
theorem dX2_keepNoted_9 : decode cX2_keepNoted 9 = .ok (.irem, 1) := by decide +kernel
theorem dX2_keepNoted_10 : decode cX2_keepNoted 10 = .ok (.putfield 18, 3) := by decide +kernel
theorem dX2_keepNoted_13 : decode cX2_keepNoted 13 = .ok (.aload_n 0, 1) := by decide +kernel
theorem dX2_keepNoted_14 : decode cX2_keepNoted 14 = .ok (.aload_n 0, 1) := by decide +kernel
theorem dX2_keepNoted_15 : decode cX2_keepNoted 15 = .ok (.getfield 26, 3) := by decide +kernel
theorem dX2_keepNoted_18 : decode cX2_keepNoted 18 = .ok (.iconst 1, 1) := by decide +kernel
theorem dX2_keepNoted_19 : decode cX2_keepNoted 19 = .ok (.iadd, 1) := by decide +kernel
theorem dX2_keepNoted_20 : decode cX2_keepNoted 20 = .ok (.bipush 8, 2) := by decide +kernel
theorem dX2_keepNoted_22 : decode cX2_keepNoted 22 = .ok (.invokestatic 29, 3) := by decide +kernel
theorem dX2_keepNoted_25 : decode cX2_keepNoted 25 = .ok (.putfield 26, 3) := by decide +kernel
theorem dX2_keepNoted_28 : decode cX2_keepNoted 28 = .ok (.return_, 1) := by decide +kernel
theorem dX2_forget_0 : decode cX2_forget 0 = .ok (.aload_n 0, 1) := by decide +kernel
theorem dX2_forget_1 : decode cX2_forget 1 = .ok (.iconst 0, 1) := by decide +kernel
theorem dX2_forget_2 : decode cX2_forget 2 = .ok (.putfield 26, 3) := by decide +kernel
theorem dX2_forget_5 : decode cX2_forget 5 = .ok (.return_, 1) := by decide +kernel
theorem dX2_takeBack_0 : decode cX2_takeBack 0 = .ok (.aload_n 0, 1) := by decide +kernel
theorem dX2_takeBack_1 : decode cX2_takeBack 1 = .ok (.getfield 26, 3) := by decide +kernel
theorem dX2_takeBack_4 : decode cX2_takeBack 4 = .ok (.ifCond .ne 6, 3) := by decide +kernel
theorem dX2_takeBack_7 : decode cX2_takeBack 7 = .ok (.bipush (-4), 2) := by decide +kernel
theorem dX2_takeBack_9 : decode cX2_takeBack 9 = .ok (.ireturn, 1) := by decide +kernel
theorem dX2_takeBack_10 : decode cX2_takeBack 10 = .ok (.aload_n 0, 1) := by decide +kernel
theorem dX2_takeBack_11 : decode cX2_takeBack 11 = .ok (.aload_n 0, 1) := by decide +kernel
theorem dX2_takeBack_12 : decode cX2_takeBack 12 = .ok (.getfield 18, 3) := by decide +kernel
theorem dX2_takeBack_15 : decode cX2_takeBack 15 = .ok (.bipush 9, 2) := by decide +kernel
theorem dX2_takeBack_17 : decode cX2_takeBack 17 = .ok (.iadd, 1) := by decide +kernel
theorem dX2_takeBack_18 : decode cX2_takeBack 18 = .ok (.iconst 1, 1) := by decide +kernel
theorem dX2_takeBack_19 : decode cX2_takeBack 19 = .ok (.isub, 1) := by decide +kernel
theorem dX2_takeBack_20 : decode cX2_takeBack 20 = .ok (.bipush 9, 2) := by decide +kernel
theorem dX2_takeBack_22 : decode cX2_takeBack 22 = .ok (.irem, 1) := by decide +kernel
theorem dX2_takeBack_23 : decode cX2_takeBack 23 = .ok (.putfield 18, 3) := by decide +kernel
theorem dX2_takeBack_26 : decode cX2_takeBack 26 = .ok (.aload_n 0, 1) := by decide +kernel
theorem dX2_takeBack_27 : decode cX2_takeBack 27 = .ok (.dup, 1) := by decide +kernel
theorem dX2_takeBack_28 : decode cX2_takeBack 28 = .ok (.getfield 26, 3) := by decide +kernel
theorem dX2_takeBack_31 : decode cX2_takeBack 31 = .ok (.iconst 1, 1) := by decide +kernel
theorem dX2_takeBack_32 : decode cX2_takeBack 32 = .ok (.isub, 1) := by decide +kernel
theorem dX2_takeBack_33 : decode cX2_takeBack 33 = .ok (.putfield 26, 3) := by decide +kernel
theorem dX2_takeBack_36 : decode cX2_takeBack 36 = .ok (.aload_n 1, 1) := by decide +kernel
theorem dX2_takeBack_37 : decode cX2_takeBack 37 = .ok (.aload_n 0, 1) := by decide +kernel
theorem dX2_takeBack_38 : decode cX2_takeBack 38 = .ok (.getfield 11, 3) := by decide +kernel
theorem dX2_takeBack_41 : decode cX2_takeBack 41 = .ok (.aload_n 0, 1) := by decide +kernel
theorem dX2_takeBack_42 : decode cX2_takeBack 42 = .ok (.getfield 18, 3) := by decide +kernel
theorem dX2_takeBack_45 : decode cX2_takeBack 45 = .ok (.aaload, 1) := by decide +kernel
theorem dX2_takeBack_46 : decode cX2_takeBack 46 = .ok (.invokevirtual 22, 3) := by decide +kernel
theorem dX2_takeBack_49 : decode cX2_takeBack 49 = .ok (.aload_n 0, 1) := by decide +kernel
theorem dX2_takeBack_50 : decode cX2_takeBack 50 = .ok (.getfield 26, 3) := by decide +kernel
theorem dX2_takeBack_53 : decode cX2_takeBack 53 = .ok (.ireturn, 1) := by decide +kernel
theorem dX3_init_0 : decode cX3_init 0 = .ok (.aload_n 0, 1) := by decide +kernel
theorem dX3_init_1 : decode cX3_init 1 = .ok (.invokespecial 3, 3) := by decide +kernel
theorem dX3_init_4 : decode cX3_init 4 = .ok (.aload_n 0, 1) := by decide +kernel
theorem dX3_init_5 : decode cX3_init 5 = .ok (.bipush (-4), 2) := by decide +kernel
theorem dX3_init_7 : decode cX3_init 7 = .ok (.putfield 9, 3) := by decide +kernel
theorem dX3_init_10 : decode cX3_init 10 = .ok (.aload_n 0, 1) := by decide +kernel
theorem dX3_init_11 : decode cX3_init 11 = .ok (.bipush (-4), 2) := by decide +kernel
theorem dX3_init_13 : decode cX3_init 13 = .ok (.putfield 15, 3) := by decide +kernel
theorem dX3_init_16 : decode cX3_init 16 = .ok (.aload_n 0, 1) := by decide +kernel
theorem dX3_init_17 : decode cX3_init 17 = .ok (.bipush (-4), 2) := by decide +kernel
theorem dX3_init_19 : decode cX3_init 19 = .ok (.putfield 18, 3) := by decide +kernel
theorem dX3_init_22 : decode cX3_init 22 = .ok (.aload_n 0, 1) := by decide +kernel
theorem dX3_init_23 : decode cX3_init 23 = .ok (.bipush (-4), 2) := by decide +kernel
theorem dX3_init_25 : decode cX3_init 25 = .ok (.putfield 21, 3) := by decide +kernel
theorem dX3_init_28 : decode cX3_init 28 = .ok (.return_, 1) := by decide +kernel
theorem dX3_because_0 : decode cX3_because 0 = .ok (.aload_n 0, 1) := by decide +kernel
theorem dX3_because_1 : decode cX3_because 1 = .ok (.iload_n 1, 1) := by decide +kernel
theorem dX3_because_2 : decode cX3_because 2 = .ok (.putfield 9, 3) := by decide +kernel
theorem dX3_because_5 : decode cX3_because 5 = .ok (.aload_n 0, 1) := by decide +kernel
theorem dX3_because_6 : decode cX3_because 6 = .ok (.iload_n 2, 1) := by decide +kernel
theorem dX3_because_7 : decode cX3_because 7 = .ok (.putfield 15, 3) := by decide +kernel
theorem dX3_because_10 : decode cX3_because 10 = .ok (.aload_n 0, 1) := by decide +kernel
theorem dX3_because_11 : decode cX3_because 11 = .ok (.bipush (-4), 2) := by decide +kernel
theorem dX3_because_13 : decode cX3_because 13 = .ok (.putfield 18, 3) := by decide +kernel
theorem dX3_because_16 : decode cX3_because 16 = .ok (.aload_n 0, 1) := by decide +kernel
theorem dX3_because_17 : decode cX3_because 17 = .ok (.bipush (-4), 2) := by decide +kernel
theorem dX3_because_19 : decode cX3_because 19 = .ok (.putfield 21, 3) := by decide +kernel
theorem dX3_because_22 : decode cX3_because 22 = .ok (.bipush (-3), 2) := by decide +kernel
theorem dX3_because_24 : decode cX3_because 24 = .ok (.ireturn, 1) := by decide +kernel
theorem dX3_ofCommand_0 : decode cX3_ofCommand 0 = .ok (.iload_n 1, 1) := by decide +kernel
theorem dX3_ofCommand_1 : decode cX3_ofCommand 1 = .ok (.bipush (-3), 2) := by decide +kernel
theorem dX3_ofCommand_3 : decode cX3_ofCommand 3 = .ok (.if_icmp .eq 11, 3) := by decide +kernel
theorem dX3_ofCommand_6 : decode cX3_ofCommand 6 = .ok (.aload_n 0, 1) := by decide +kernel
theorem dX3_ofCommand_7 : decode cX3_ofCommand 7 = .ok (.bipush 14, 2) := by decide +kernel
theorem dX3_ofCommand_9 : decode cX3_ofCommand 9 = .ok (.iload_n 2, 1) := by decide +kernel
theorem dX3_ofCommand_10 : decode cX3_ofCommand 10 = .ok (.invokevirtual 24, 3) := by decide +kernel
theorem dX3_ofCommand_13 : decode cX3_ofCommand 13 = .ok (.ireturn, 1) := by decide +kernel
theorem dX3_ofCommand_14 : decode cX3_ofCommand 14 = .ok (.aload_n 0, 1) := by decide +kernel
theorem dX3_ofCommand_15 : decode cX3_ofCommand 15 = .ok (.aload_n 0, 1) := by decide +kernel
theorem dX3_ofCommand_16 : decode cX3_ofCommand 16 = .ok (.getfield 9, 3) := by decide +kernel
theorem dX3_ofCommand_19 : decode cX3_ofCommand 19 = .ok (.putfield 18, 3) := by decide +kernel
theorem dX3_ofCommand_22 : decode cX3_ofCommand 22 = .ok (.aload_n 0, 1) := by decide +kernel
theorem dX3_ofCommand_23 : decode cX3_ofCommand 23 = .ok (.aload_n 0, 1) := by decide +kernel
theorem dX3_ofCommand_24 : decode cX3_ofCommand 24 = .ok (.getfield 15, 3) := by decide +kernel
theorem dX3_ofCommand_27 : decode cX3_ofCommand 27 = .ok (.putfield 21, 3) := by decide +kernel
theorem dX3_ofCommand_30 : decode cX3_ofCommand 30 = .ok (.aload_n 0, 1) := by decide +kernel
theorem dX3_ofCommand_31 : decode cX3_ofCommand 31 = .ok (.bipush 13, 2) := by decide +kernel
theorem dX3_ofCommand_33 : decode cX3_ofCommand 33 = .ok (.putfield 9, 3) := by decide +kernel
theorem dX3_ofCommand_36 : decode cX3_ofCommand 36 = .ok (.aload_n 0, 1) := by decide +kernel
theorem dX3_ofCommand_37 : decode cX3_ofCommand 37 = .ok (.iload_n 2, 1) := by decide +kernel
theorem dX3_ofCommand_38 : decode cX3_ofCommand 38 = .ok (.putfield 15, 3) := by decide +kernel
theorem dX3_ofCommand_41 : decode cX3_ofCommand 41 = .ok (.bipush (-3), 2) := by decide +kernel
theorem dX3_ofCommand_43 : decode cX3_ofCommand 43 = .ok (.ireturn, 1) := by decide +kernel
theorem dX3_told_0 : decode cX3_told 0 = .ok (.iload_n 1, 1) := by decide +kernel
theorem dX3_told_1 : decode cX3_told 1 = .ok (.lookupswitch 59 #[(0, 27), (1, 43)], 27) := by decide +kernel
theorem dX3_told_28 : decode cX3_told 28 = .ok (.iload_n 2, 1) := by decide +kernel
theorem dX3_told_29 : decode cX3_told 29 = .ok (.ifCond .eq 10, 3) := by decide +kernel
theorem dX3_told_32 : decode cX3_told 32 = .ok (.aload_n 0, 1) := by decide +kernel
theorem dX3_told_33 : decode cX3_told 33 = .ok (.getfield 15, 3) := by decide +kernel
theorem dX3_told_36 : decode cX3_told 36 = .ok (.goto 7, 3) := by decide +kernel
theorem dX3_told_39 : decode cX3_told 39 = .ok (.aload_n 0, 1) := by decide +kernel
theorem dX3_told_40 : decode cX3_told 40 = .ok (.getfield 9, 3) := by decide +kernel
theorem dX3_told_43 : decode cX3_told 43 = .ok (.ireturn, 1) := by decide +kernel
theorem dX3_told_44 : decode cX3_told 44 = .ok (.iload_n 2, 1) := by decide +kernel
theorem dX3_told_45 : decode cX3_told 45 = .ok (.ifCond .eq 10, 3) := by decide +kernel
theorem dX3_told_48 : decode cX3_told 48 = .ok (.aload_n 0, 1) := by decide +kernel
theorem dX3_told_49 : decode cX3_told 49 = .ok (.getfield 21, 3) := by decide +kernel
theorem dX3_told_52 : decode cX3_told 52 = .ok (.goto 7, 3) := by decide +kernel
theorem dX3_told_55 : decode cX3_told 55 = .ok (.aload_n 0, 1) := by decide +kernel
theorem dX3_told_56 : decode cX3_told 56 = .ok (.getfield 18, 3) := by decide +kernel
theorem dX3_told_59 : decode cX3_told 59 = .ok (.ireturn, 1) := by decide +kernel
theorem dX3_told_60 : decode cX3_told 60 = .ok (.bipush (-2), 2) := by decide +kernel
theorem dX3_told_62 : decode cX3_told 62 = .ok (.ireturn, 1) := by decide +kernel
theorem dX4_init_0 : decode cX4_init 0 = .ok (.aload_n 0, 1) := by decide +kernel
theorem dX4_init_1 : decode cX4_init 1 = .ok (.invokespecial 3, 3) := by decide +kernel
theorem dX4_init_4 : decode cX4_init 4 = .ok (.aload_n 0, 1) := by decide +kernel
theorem dX4_init_5 : decode cX4_init 5 = .ok (.iconst 5, 1) := by decide +kernel
theorem dX4_init_6 : decode cX4_init 6 = .ok (.newarray .int, 2) := by decide +kernel
theorem dX4_init_8 : decode cX4_init 8 = .ok (.putfield 9, 3) := by decide +kernel
theorem dX4_init_11 : decode cX4_init 11 = .ok (.aload_n 0, 1) := by decide +kernel
theorem dX4_init_12 : decode cX4_init 12 = .ok (.iconst 5, 1) := by decide +kernel
theorem dX4_init_13 : decode cX4_init 13 = .ok (.newarray .int, 2) := by decide +kernel
theorem dX4_init_15 : decode cX4_init 15 = .ok (.putfield 15, 3) := by decide +kernel
theorem dX4_init_18 : decode cX4_init 18 = .ok (.aload_n 0, 1) := by decide +kernel
theorem dX4_init_19 : decode cX4_init 19 = .ok (.iconst 5, 1) := by decide +kernel
theorem dX4_init_20 : decode cX4_init 20 = .ok (.newarray .int, 2) := by decide +kernel
theorem dX4_init_22 : decode cX4_init 22 = .ok (.putfield 18, 3) := by decide +kernel
theorem dX4_init_25 : decode cX4_init 25 = .ok (.aload_n 0, 1) := by decide +kernel
theorem dX4_init_26 : decode cX4_init 26 = .ok (.iconst 5, 1) := by decide +kernel
theorem dX4_init_27 : decode cX4_init 27 = .ok (.newarray .int, 2) := by decide +kernel
theorem dX4_init_29 : decode cX4_init 29 = .ok (.putfield 21, 3) := by decide +kernel
theorem dX4_init_32 : decode cX4_init 32 = .ok (.aload_n 0, 1) := by decide +kernel
theorem dX4_init_33 : decode cX4_init 33 = .ok (.iconst 5, 1) := by decide +kernel
theorem dX4_init_34 : decode cX4_init 34 = .ok (.newarray .int, 2) := by decide +kernel
theorem dX4_init_36 : decode cX4_init 36 = .ok (.putfield 24, 3) := by decide +kernel
theorem dX4_init_39 : decode cX4_init 39 = .ok (.aload_n 0, 1) := by decide +kernel
theorem dX4_init_40 : decode cX4_init 40 = .ok (.iconst 5, 1) := by decide +kernel
theorem dX4_init_41 : decode cX4_init 41 = .ok (.newarray .int, 2) := by decide +kernel
theorem dX4_init_43 : decode cX4_init 43 = .ok (.putfield 27, 3) := by decide +kernel
theorem dX4_init_46 : decode cX4_init 46 = .ok (.aload_n 0, 1) := by decide +kernel
theorem dX4_init_47 : decode cX4_init 47 = .ok (.iconst 5, 1) := by decide +kernel
theorem dX4_init_48 : decode cX4_init 48 = .ok (.newarray .int, 2) := by decide +kernel
theorem dX4_init_50 : decode cX4_init 50 = .ok (.putfield 30, 3) := by decide +kernel
theorem dX4_init_53 : decode cX4_init 53 = .ok (.aload_n 0, 1) := by decide +kernel
theorem dX4_init_54 : decode cX4_init 54 = .ok (.iconst 5, 1) := by decide +kernel
theorem dX4_init_55 : decode cX4_init 55 = .ok (.newarray .int, 2) := by decide +kernel
theorem dX4_init_57 : decode cX4_init 57 = .ok (.putfield 33, 3) := by decide +kernel
theorem dX4_init_60 : decode cX4_init 60 = .ok (.aload_n 0, 1) := by decide +kernel
theorem dX4_init_61 : decode cX4_init 61 = .ok (.iconst 5, 1) := by decide +kernel
theorem dX4_init_62 : decode cX4_init 62 = .ok (.newarray .int, 2) := by decide +kernel
theorem dX4_init_64 : decode cX4_init 64 = .ok (.putfield 36, 3) := by decide +kernel
theorem dX4_init_67 : decode cX4_init 67 = .ok (.return_, 1) := by decide +kernel
theorem dX4_copyFrom_0 : decode cX4_copyFrom 0 = .ok (.aload_n 0, 1) := by decide +kernel
theorem dX4_copyFrom_1 : decode cX4_copyFrom 1 = .ok (.aload_n 1, 1) := by decide +kernel
theorem dX4_copyFrom_2 : decode cX4_copyFrom 2 = .ok (.getfield 39, 3) := by decide +kernel
theorem dX4_copyFrom_5 : decode cX4_copyFrom 5 = .ok (.putfield 39, 3) := by decide +kernel
theorem dX4_copyFrom_8 : decode cX4_copyFrom 8 = .ok (.aload_n 1, 1) := by decide +kernel
theorem dX4_copyFrom_9 : decode cX4_copyFrom 9 = .ok (.getfield 9, 3) := by decide +kernel
theorem dX4_copyFrom_12 : decode cX4_copyFrom 12 = .ok (.aload_n 0, 1) := by decide +kernel
theorem dX4_copyFrom_13 : decode cX4_copyFrom 13 = .ok (.getfield 9, 3) := by decide +kernel
theorem dX4_copyFrom_16 : decode cX4_copyFrom 16 = .ok (.invokestatic 43, 3) := by decide +kernel
theorem dX4_copyFrom_19 : decode cX4_copyFrom 19 = .ok (.aload_n 1, 1) := by decide +kernel
theorem dX4_copyFrom_20 : decode cX4_copyFrom 20 = .ok (.getfield 15, 3) := by decide +kernel
theorem dX4_copyFrom_23 : decode cX4_copyFrom 23 = .ok (.aload_n 0, 1) := by decide +kernel
theorem dX4_copyFrom_24 : decode cX4_copyFrom 24 = .ok (.getfield 15, 3) := by decide +kernel
theorem dX4_copyFrom_27 : decode cX4_copyFrom 27 = .ok (.invokestatic 43, 3) := by decide +kernel
theorem dX4_copyFrom_30 : decode cX4_copyFrom 30 = .ok (.aload_n 1, 1) := by decide +kernel
theorem dX4_copyFrom_31 : decode cX4_copyFrom 31 = .ok (.getfield 18, 3) := by decide +kernel
theorem dX4_copyFrom_34 : decode cX4_copyFrom 34 = .ok (.aload_n 0, 1) := by decide +kernel
theorem dX4_copyFrom_35 : decode cX4_copyFrom 35 = .ok (.getfield 18, 3) := by decide +kernel
theorem dX4_copyFrom_38 : decode cX4_copyFrom 38 = .ok (.invokestatic 43, 3) := by decide +kernel
theorem dX4_copyFrom_41 : decode cX4_copyFrom 41 = .ok (.aload_n 1, 1) := by decide +kernel
theorem dX4_copyFrom_42 : decode cX4_copyFrom 42 = .ok (.getfield 21, 3) := by decide +kernel
theorem dX4_copyFrom_45 : decode cX4_copyFrom 45 = .ok (.aload_n 0, 1) := by decide +kernel
theorem dX4_copyFrom_46 : decode cX4_copyFrom 46 = .ok (.getfield 21, 3) := by decide +kernel
theorem dX4_copyFrom_49 : decode cX4_copyFrom 49 = .ok (.invokestatic 43, 3) := by decide +kernel
theorem dX4_copyFrom_52 : decode cX4_copyFrom 52 = .ok (.aload_n 1, 1) := by decide +kernel
theorem dX4_copyFrom_53 : decode cX4_copyFrom 53 = .ok (.getfield 24, 3) := by decide +kernel
theorem dX4_copyFrom_56 : decode cX4_copyFrom 56 = .ok (.aload_n 0, 1) := by decide +kernel
theorem dX4_copyFrom_57 : decode cX4_copyFrom 57 = .ok (.getfield 24, 3) := by decide +kernel
theorem dX4_copyFrom_60 : decode cX4_copyFrom 60 = .ok (.invokestatic 43, 3) := by decide +kernel
theorem dX4_copyFrom_63 : decode cX4_copyFrom 63 = .ok (.aload_n 1, 1) := by decide +kernel
theorem dX4_copyFrom_64 : decode cX4_copyFrom 64 = .ok (.getfield 27, 3) := by decide +kernel
theorem dX4_copyFrom_67 : decode cX4_copyFrom 67 = .ok (.aload_n 0, 1) := by decide +kernel
theorem dX4_copyFrom_68 : decode cX4_copyFrom 68 = .ok (.getfield 27, 3) := by decide +kernel
theorem dX4_copyFrom_71 : decode cX4_copyFrom 71 = .ok (.invokestatic 43, 3) := by decide +kernel
theorem dX4_copyFrom_74 : decode cX4_copyFrom 74 = .ok (.aload_n 1, 1) := by decide +kernel
theorem dX4_copyFrom_75 : decode cX4_copyFrom 75 = .ok (.getfield 30, 3) := by decide +kernel
theorem dX4_copyFrom_78 : decode cX4_copyFrom 78 = .ok (.aload_n 0, 1) := by decide +kernel
theorem dX4_copyFrom_79 : decode cX4_copyFrom 79 = .ok (.getfield 30, 3) := by decide +kernel
theorem dX4_copyFrom_82 : decode cX4_copyFrom 82 = .ok (.invokestatic 43, 3) := by decide +kernel
theorem dX4_copyFrom_85 : decode cX4_copyFrom 85 = .ok (.aload_n 1, 1) := by decide +kernel
theorem dX4_copyFrom_86 : decode cX4_copyFrom 86 = .ok (.getfield 33, 3) := by decide +kernel
theorem dX4_copyFrom_89 : decode cX4_copyFrom 89 = .ok (.aload_n 0, 1) := by decide +kernel
theorem dX4_copyFrom_90 : decode cX4_copyFrom 90 = .ok (.getfield 33, 3) := by decide +kernel
theorem dX4_copyFrom_93 : decode cX4_copyFrom 93 = .ok (.invokestatic 43, 3) := by decide +kernel
theorem dX4_copyFrom_96 : decode cX4_copyFrom 96 = .ok (.aload_n 1, 1) := by decide +kernel
theorem dX4_copyFrom_97 : decode cX4_copyFrom 97 = .ok (.getfield 36, 3) := by decide +kernel
theorem dX4_copyFrom_100 : decode cX4_copyFrom 100 = .ok (.aload_n 0, 1) := by decide +kernel
theorem dX4_copyFrom_101 : decode cX4_copyFrom 101 = .ok (.getfield 36, 3) := by decide +kernel
theorem dX4_copyFrom_104 : decode cX4_copyFrom 104 = .ok (.invokestatic 43, 3) := by decide +kernel
theorem dX4_copyFrom_107 : decode cX4_copyFrom 107 = .ok (.return_, 1) := by decide +kernel
theorem dX4_add_0 : decode cX4_add 0 = .ok (.aload_n 0, 1) := by decide +kernel
theorem dX4_add_1 : decode cX4_add 1 = .ok (.getfield 39, 3) := by decide +kernel
theorem dX4_add_4 : decode cX4_add 4 = .ok (.istore_n 2, 1) := by decide +kernel
theorem dX4_add_5 : decode cX4_add 5 = .ok (.aload_n 0, 1) := by decide +kernel
theorem dX4_add_6 : decode cX4_add 6 = .ok (.getfield 9, 3) := by decide +kernel
theorem dX4_add_9 : decode cX4_add 9 = .ok (.iload_n 2, 1) := by decide +kernel
theorem dX4_add_10 : decode cX4_add 10 = .ok (.iload_n 1, 1) := by decide +kernel
theorem dX4_add_11 : decode cX4_add 11 = .ok (.iastore, 1) := by decide +kernel
theorem dX4_add_12 : decode cX4_add 12 = .ok (.aload_n 0, 1) := by decide +kernel
theorem dX4_add_13 : decode cX4_add 13 = .ok (.getfield 15, 3) := by decide +kernel
theorem dX4_add_16 : decode cX4_add 16 = .ok (.iload_n 2, 1) := by decide +kernel
theorem dX4_add_17 : decode cX4_add 17 = .ok (.iconst 0, 1) := by decide +kernel
theorem dX4_add_18 : decode cX4_add 18 = .ok (.iastore, 1) := by decide +kernel
theorem dX4_add_19 : decode cX4_add 19 = .ok (.aload_n 0, 1) := by decide +kernel
theorem dX4_add_20 : decode cX4_add 20 = .ok (.getfield 18, 3) := by decide +kernel
theorem dX4_add_23 : decode cX4_add 23 = .ok (.iload_n 2, 1) := by decide +kernel
theorem dX4_add_24 : decode cX4_add 24 = .ok (.iconst 0, 1) := by decide +kernel
theorem dX4_add_25 : decode cX4_add 25 = .ok (.iastore, 1) := by decide +kernel
theorem dX4_add_26 : decode cX4_add 26 = .ok (.aload_n 0, 1) := by decide +kernel
theorem dX4_add_27 : decode cX4_add 27 = .ok (.getfield 21, 3) := by decide +kernel
theorem dX4_add_30 : decode cX4_add 30 = .ok (.iload_n 2, 1) := by decide +kernel
theorem dX4_add_31 : decode cX4_add 31 = .ok (.iconst 0, 1) := by decide +kernel
theorem dX4_add_32 : decode cX4_add 32 = .ok (.iastore, 1) := by decide +kernel
theorem dX4_add_33 : decode cX4_add 33 = .ok (.aload_n 0, 1) := by decide +kernel
theorem dX4_add_34 : decode cX4_add 34 = .ok (.getfield 24, 3) := by decide +kernel
theorem dX4_add_37 : decode cX4_add 37 = .ok (.iload_n 2, 1) := by decide +kernel
theorem dX4_add_38 : decode cX4_add 38 = .ok (.iconst 0, 1) := by decide +kernel
theorem dX4_add_39 : decode cX4_add 39 = .ok (.iastore, 1) := by decide +kernel
theorem dX4_add_40 : decode cX4_add 40 = .ok (.aload_n 0, 1) := by decide +kernel
theorem dX4_add_41 : decode cX4_add 41 = .ok (.getfield 27, 3) := by decide +kernel
theorem dX4_add_44 : decode cX4_add 44 = .ok (.iload_n 2, 1) := by decide +kernel
theorem dX4_add_45 : decode cX4_add 45 = .ok (.iconst 0, 1) := by decide +kernel
theorem dX4_add_46 : decode cX4_add 46 = .ok (.iastore, 1) := by decide +kernel
theorem dX4_add_47 : decode cX4_add 47 = .ok (.aload_n 0, 1) := by decide +kernel
theorem dX4_add_48 : decode cX4_add 48 = .ok (.getfield 30, 3) := by decide +kernel
theorem dX4_add_51 : decode cX4_add 51 = .ok (.iload_n 2, 1) := by decide +kernel
theorem dX4_add_52 : decode cX4_add 52 = .ok (.iconst 0, 1) := by decide +kernel
theorem dX4_add_53 : decode cX4_add 53 = .ok (.iastore, 1) := by decide +kernel
theorem dX4_add_54 : decode cX4_add 54 = .ok (.aload_n 0, 1) := by decide +kernel
theorem dX4_add_55 : decode cX4_add 55 = .ok (.getfield 33, 3) := by decide +kernel
theorem dX4_add_58 : decode cX4_add 58 = .ok (.iload_n 2, 1) := by decide +kernel
theorem dX4_add_59 : decode cX4_add 59 = .ok (.iconst 0, 1) := by decide +kernel
theorem dX4_add_60 : decode cX4_add 60 = .ok (.iastore, 1) := by decide +kernel
theorem dX4_add_61 : decode cX4_add 61 = .ok (.aload_n 0, 1) := by decide +kernel
theorem dX4_add_62 : decode cX4_add 62 = .ok (.getfield 36, 3) := by decide +kernel
theorem dX4_add_65 : decode cX4_add 65 = .ok (.iload_n 2, 1) := by decide +kernel
theorem dX4_add_66 : decode cX4_add 66 = .ok (.iconst 0, 1) := by decide +kernel
theorem dX4_add_67 : decode cX4_add 67 = .ok (.iastore, 1) := by decide +kernel
theorem dX4_add_68 : decode cX4_add 68 = .ok (.aload_n 0, 1) := by decide +kernel
theorem dX4_add_69 : decode cX4_add 69 = .ok (.dup, 1) := by decide +kernel
theorem dX4_add_70 : decode cX4_add 70 = .ok (.getfield 39, 3) := by decide +kernel
theorem dX4_add_73 : decode cX4_add 73 = .ok (.iconst 1, 1) := by decide +kernel
theorem dX4_add_74 : decode cX4_add 74 = .ok (.iadd, 1) := by decide +kernel
theorem dX4_add_75 : decode cX4_add 75 = .ok (.putfield 39, 3) := by decide +kernel
theorem dX4_add_78 : decode cX4_add 78 = .ok (.iload_n 2, 1) := by decide +kernel
theorem dX4_add_79 : decode cX4_add 79 = .ok (.ireturn, 1) := by decide +kernel
theorem dX4_has_0 : decode cX4_has 0 = .ok (.iload_n 1, 1) := by decide +kernel
theorem dX4_has_1 : decode cX4_has 1 = .ok (.ifCond .lt 15, 3) := by decide +kernel
theorem dX4_has_4 : decode cX4_has 4 = .ok (.iload_n 1, 1) := by decide +kernel
theorem dX4_has_5 : decode cX4_has 5 = .ok (.aload_n 0, 1) := by decide +kernel
theorem dX4_has_6 : decode cX4_has 6 = .ok (.getfield 39, 3) := by decide +kernel
theorem dX4_has_9 : decode cX4_has 9 = .ok (.if_icmp .ge 7, 3) := by decide +kernel
theorem dX4_has_12 : decode cX4_has 12 = .ok (.iconst 1, 1) := by decide +kernel
theorem dX4_has_13 : decode cX4_has 13 = .ok (.goto 4, 3) := by decide +kernel
theorem dX4_has_16 : decode cX4_has 16 = .ok (.iconst 0, 1) := by decide +kernel
theorem dX4_has_17 : decode cX4_has 17 = .ok (.ireturn, 1) := by decide +kernel
theorem dX4_collect_0 : decode cX4_collect 0 = .ok (.aload_n 0, 1) := by decide +kernel
theorem dX4_collect_1 : decode cX4_collect 1 = .ok (.getfield 9, 3) := by decide +kernel
theorem dX4_collect_4 : decode cX4_collect 4 = .ok (.iload_n 1, 1) := by decide +kernel
theorem dX4_collect_5 : decode cX4_collect 5 = .ok (.iaload, 1) := by decide +kernel
theorem dX4_collect_6 : decode cX4_collect 6 = .ok (.iload_n 2, 1) := by decide +kernel
theorem dX4_collect_7 : decode cX4_collect 7 = .ok (.invokestatic 47, 3) := by decide +kernel
theorem dX4_collect_10 : decode cX4_collect 10 = .ok (.istore 4, 2) := by decide +kernel
theorem dX4_collect_12 : decode cX4_collect 12 = .ok (.aload_n 0, 1) := by decide +kernel
theorem dX4_collect_13 : decode cX4_collect 13 = .ok (.getfield 9, 3) := by decide +kernel
theorem dX4_collect_16 : decode cX4_collect 16 = .ok (.iload_n 1, 1) := by decide +kernel
theorem dX4_collect_17 : decode cX4_collect 17 = .ok (.dup2, 1) := by decide +kernel
theorem dX4_collect_18 : decode cX4_collect 18 = .ok (.iaload, 1) := by decide +kernel
theorem dX4_collect_19 : decode cX4_collect 19 = .ok (.iload 4, 2) := by decide +kernel
theorem dX4_collect_21 : decode cX4_collect 21 = .ok (.isub, 1) := by decide +kernel
theorem dX4_collect_22 : decode cX4_collect 22 = .ok (.iastore, 1) := by decide +kernel
theorem dX4_collect_23 : decode cX4_collect 23 = .ok (.aload_n 0, 1) := by decide +kernel
theorem dX4_collect_24 : decode cX4_collect 24 = .ok (.getfield 15, 3) := by decide +kernel
theorem dX4_collect_27 : decode cX4_collect 27 = .ok (.iload_n 1, 1) := by decide +kernel
theorem dX4_collect_28 : decode cX4_collect 28 = .ok (.dup2, 1) := by decide +kernel
theorem dX4_collect_29 : decode cX4_collect 29 = .ok (.iaload, 1) := by decide +kernel
theorem dX4_collect_30 : decode cX4_collect 30 = .ok (.iload_n 2, 1) := by decide +kernel
theorem dX4_collect_31 : decode cX4_collect 31 = .ok (.iload 4, 2) := by decide +kernel
theorem dX4_collect_33 : decode cX4_collect 33 = .ok (.isub, 1) := by decide +kernel
theorem dX4_collect_34 : decode cX4_collect 34 = .ok (.iadd, 1) := by decide +kernel
theorem dX4_collect_35 : decode cX4_collect 35 = .ok (.iastore, 1) := by decide +kernel
theorem dX4_collect_36 : decode cX4_collect 36 = .ok (.aload_n 0, 1) := by decide +kernel
theorem dX4_collect_37 : decode cX4_collect 37 = .ok (.getfield 21, 3) := by decide +kernel
theorem dX4_collect_40 : decode cX4_collect 40 = .ok (.iload_n 1, 1) := by decide +kernel
theorem dX4_collect_41 : decode cX4_collect 41 = .ok (.dup2, 1) := by decide +kernel
theorem dX4_collect_42 : decode cX4_collect 42 = .ok (.iaload, 1) := by decide +kernel
theorem dX4_collect_43 : decode cX4_collect 43 = .ok (.iload_n 2, 1) := by decide +kernel
theorem dX4_collect_44 : decode cX4_collect 44 = .ok (.iadd, 1) := by decide +kernel
theorem dX4_collect_45 : decode cX4_collect 45 = .ok (.iastore, 1) := by decide +kernel
theorem dX4_collect_46 : decode cX4_collect 46 = .ok (.aload_n 0, 1) := by decide +kernel
theorem dX4_collect_47 : decode cX4_collect 47 = .ok (.getfield 24, 3) := by decide +kernel
theorem dX4_collect_50 : decode cX4_collect 50 = .ok (.iload_n 1, 1) := by decide +kernel
theorem dX4_collect_51 : decode cX4_collect 51 = .ok (.dup2, 1) := by decide +kernel
theorem dX4_collect_52 : decode cX4_collect 52 = .ok (.iaload, 1) := by decide +kernel
theorem dX4_collect_53 : decode cX4_collect 53 = .ok (.iload 4, 2) := by decide +kernel
theorem dX4_collect_55 : decode cX4_collect 55 = .ok (.iadd, 1) := by decide +kernel
theorem dX4_collect_56 : decode cX4_collect 56 = .ok (.iastore, 1) := by decide +kernel
theorem dX4_collect_57 : decode cX4_collect 57 = .ok (.aload_n 0, 1) := by decide +kernel
theorem dX4_collect_58 : decode cX4_collect 58 = .ok (.iload_n 3, 1) := by decide +kernel
theorem dX4_collect_59 : decode cX4_collect 59 = .ok (.invokevirtual 53, 3) := by decide +kernel
theorem dX4_collect_62 : decode cX4_collect 62 = .ok (.ifCond .eq 16, 3) := by decide +kernel
theorem dX4_collect_65 : decode cX4_collect 65 = .ok (.aload_n 0, 1) := by decide +kernel
theorem dX4_collect_66 : decode cX4_collect 66 = .ok (.getfield 9, 3) := by decide +kernel
theorem dX4_collect_69 : decode cX4_collect 69 = .ok (.iload_n 3, 1) := by decide +kernel
theorem dX4_collect_70 : decode cX4_collect 70 = .ok (.dup2, 1) := by decide +kernel
theorem dX4_collect_71 : decode cX4_collect 71 = .ok (.iaload, 1) := by decide +kernel
theorem dX4_collect_72 : decode cX4_collect 72 = .ok (.iload 4, 2) := by decide +kernel
theorem dX4_collect_74 : decode cX4_collect 74 = .ok (.iconst 2, 1) := by decide +kernel
theorem dX4_collect_75 : decode cX4_collect 75 = .ok (.idiv, 1) := by decide +kernel
theorem dX4_collect_76 : decode cX4_collect 76 = .ok (.iadd, 1) := by decide +kernel
theorem dX4_collect_77 : decode cX4_collect 77 = .ok (.iastore, 1) := by decide +kernel
theorem dX4_collect_78 : decode cX4_collect 78 = .ok (.return_, 1) := by decide +kernel
theorem dX4_beginNight_0 : decode cX4_beginNight 0 = .ok (.iconst 0, 1) := by decide +kernel
theorem dX4_beginNight_1 : decode cX4_beginNight 1 = .ok (.istore_n 1, 1) := by decide +kernel
theorem dX4_beginNight_2 : decode cX4_beginNight 2 = .ok (.iload_n 1, 1) := by decide +kernel
theorem dX4_beginNight_3 : decode cX4_beginNight 3 = .ok (.aload_n 0, 1) := by decide +kernel
theorem dX4_beginNight_4 : decode cX4_beginNight 4 = .ok (.getfield 39, 3) := by decide +kernel
theorem dX4_beginNight_7 : decode cX4_beginNight 7 = .ok (.if_icmp .ge 41, 3) := by decide +kernel
theorem dX4_beginNight_10 : decode cX4_beginNight 10 = .ok (.aload_n 0, 1) := by decide +kernel
theorem dX4_beginNight_11 : decode cX4_beginNight 11 = .ok (.getfield 18, 3) := by decide +kernel
theorem dX4_beginNight_14 : decode cX4_beginNight 14 = .ok (.iload_n 1, 1) := by decide +kernel
theorem dX4_beginNight_15 : decode cX4_beginNight 15 = .ok (.aload_n 0, 1) := by decide +kernel
theorem dX4_beginNight_16 : decode cX4_beginNight 16 = .ok (.getfield 18, 3) := by decide +kernel
theorem dX4_beginNight_19 : decode cX4_beginNight 19 = .ok (.iload_n 1, 1) := by decide +kernel
theorem dX4_beginNight_20 : decode cX4_beginNight 20 = .ok (.iaload, 1) := by decide +kernel
theorem dX4_beginNight_21 : decode cX4_beginNight 21 = .ok (.iconst 1, 1) := by decide +kernel
theorem dX4_beginNight_22 : decode cX4_beginNight 22 = .ok (.isub, 1) := by decide +kernel
theorem dX4_beginNight_23 : decode cX4_beginNight 23 = .ok (.iconst 0, 1) := by decide +kernel
theorem dX4_beginNight_24 : decode cX4_beginNight 24 = .ok (.invokestatic 57, 3) := by decide +kernel
theorem dX4_beginNight_27 : decode cX4_beginNight 27 = .ok (.iastore, 1) := by decide +kernel
theorem dX4_beginNight_28 : decode cX4_beginNight 28 = .ok (.aload_n 0, 1) := by decide +kernel
theorem dX4_beginNight_29 : decode cX4_beginNight 29 = .ok (.getfield 33, 3) := by decide +kernel
theorem dX4_beginNight_32 : decode cX4_beginNight 32 = .ok (.iload_n 1, 1) := by decide +kernel
theorem dX4_beginNight_33 : decode cX4_beginNight 33 = .ok (.iconst 0, 1) := by decide +kernel
theorem dX4_beginNight_34 : decode cX4_beginNight 34 = .ok (.iastore, 1) := by decide +kernel
theorem dX4_beginNight_35 : decode cX4_beginNight 35 = .ok (.aload_n 0, 1) := by decide +kernel
theorem dX4_beginNight_36 : decode cX4_beginNight 36 = .ok (.getfield 36, 3) := by decide +kernel
theorem dX4_beginNight_39 : decode cX4_beginNight 39 = .ok (.iload_n 1, 1) := by decide +kernel
theorem dX4_beginNight_40 : decode cX4_beginNight 40 = .ok (.iconst 0, 1) := by decide +kernel
theorem dX4_beginNight_41 : decode cX4_beginNight 41 = .ok (.iastore, 1) := by decide +kernel
theorem dX4_beginNight_42 : decode cX4_beginNight 42 = .ok (.iinc 1 1, 3) := by decide +kernel
theorem dX4_beginNight_45 : decode cX4_beginNight 45 = .ok (.goto (-43), 3) := by decide +kernel
theorem dX4_beginNight_48 : decode cX4_beginNight 48 = .ok (.return_, 1) := by decide +kernel
theorem dX5_init_0 : decode cX5_init 0 = .ok (.aload_n 0, 1) := by decide +kernel
theorem dX5_init_1 : decode cX5_init 1 = .ok (.invokespecial 3, 3) := by decide +kernel
theorem dX5_init_4 : decode cX5_init 4 = .ok (.aload_n 0, 1) := by decide +kernel
theorem dX5_init_5 : decode cX5_init 5 = .ok (.new 9, 3) := by decide +kernel
theorem dX5_init_8 : decode cX5_init 8 = .ok (.dup, 1) := by decide +kernel
theorem dX5_init_9 : decode cX5_init 9 = .ok (.invokespecial 11, 3) := by decide +kernel
theorem dX5_init_12 : decode cX5_init 12 = .ok (.putfield 12, 3) := by decide +kernel
theorem dX5_init_15 : decode cX5_init 15 = .ok (.aload_n 0, 1) := by decide +kernel
theorem dX5_init_16 : decode cX5_init 16 = .ok (.new 18, 3) := by decide +kernel
theorem dX5_init_19 : decode cX5_init 19 = .ok (.dup, 1) := by decide +kernel
theorem dX5_init_20 : decode cX5_init 20 = .ok (.invokespecial 20, 3) := by decide +kernel
theorem dX5_init_23 : decode cX5_init 23 = .ok (.putfield 21, 3) := by decide +kernel
theorem dX5_init_26 : decode cX5_init 26 = .ok (.aload_n 0, 1) := by decide +kernel
theorem dX5_init_27 : decode cX5_init 27 = .ok (.new 25, 3) := by decide +kernel
theorem dX5_init_30 : decode cX5_init 30 = .ok (.dup, 1) := by decide +kernel
theorem dX5_init_31 : decode cX5_init 31 = .ok (.invokespecial 27, 3) := by decide +kernel
theorem dX5_init_34 : decode cX5_init 34 = .ok (.putfield 28, 3) := by decide +kernel
theorem dX5_init_37 : decode cX5_init 37 = .ok (.return_, 1) := by decide +kernel
theorem dX5_copyFrom_0 : decode cX5_copyFrom 0 = .ok (.aload_n 0, 1) := by decide +kernel
theorem dX5_copyFrom_1 : decode cX5_copyFrom 1 = .ok (.getfield 12, 3) := by decide +kernel
theorem dX5_copyFrom_4 : decode cX5_copyFrom 4 = .ok (.aload_n 1, 1) := by decide +kernel
theorem dX5_copyFrom_5 : decode cX5_copyFrom 5 = .ok (.getfield 12, 3) := by decide +kernel
theorem dX5_copyFrom_8 : decode cX5_copyFrom 8 = .ok (.invokevirtual 44, 3) := by decide +kernel
theorem dX5_copyFrom_11 : decode cX5_copyFrom 11 = .ok (.aload_n 0, 1) := by decide +kernel
theorem dX5_copyFrom_12 : decode cX5_copyFrom 12 = .ok (.getfield 21, 3) := by decide +kernel
theorem dX5_copyFrom_15 : decode cX5_copyFrom 15 = .ok (.aload_n 1, 1) := by decide +kernel
theorem dX5_copyFrom_16 : decode cX5_copyFrom 16 = .ok (.getfield 21, 3) := by decide +kernel
theorem dX5_copyFrom_19 : decode cX5_copyFrom 19 = .ok (.invokevirtual 48, 3) := by decide +kernel
theorem dX5_copyFrom_22 : decode cX5_copyFrom 22 = .ok (.aload_n 0, 1) := by decide +kernel
theorem dX5_copyFrom_23 : decode cX5_copyFrom 23 = .ok (.getfield 28, 3) := by decide +kernel
theorem dX5_copyFrom_26 : decode cX5_copyFrom 26 = .ok (.aload_n 1, 1) := by decide +kernel
theorem dX5_copyFrom_27 : decode cX5_copyFrom 27 = .ok (.getfield 28, 3) := by decide +kernel
theorem dX5_copyFrom_30 : decode cX5_copyFrom 30 = .ok (.invokevirtual 51, 3) := by decide +kernel
theorem dX5_copyFrom_33 : decode cX5_copyFrom 33 = .ok (.aload_n 0, 1) := by decide +kernel
theorem dX5_copyFrom_34 : decode cX5_copyFrom 34 = .ok (.aload_n 1, 1) := by decide +kernel
theorem dX5_copyFrom_35 : decode cX5_copyFrom 35 = .ok (.getfield 37, 3) := by decide +kernel
theorem dX5_copyFrom_38 : decode cX5_copyFrom 38 = .ok (.putfield 37, 3) := by decide +kernel
theorem dX5_copyFrom_41 : decode cX5_copyFrom 41 = .ok (.aload_n 0, 1) := by decide +kernel
theorem dX5_copyFrom_42 : decode cX5_copyFrom 42 = .ok (.aload_n 1, 1) := by decide +kernel
theorem dX5_copyFrom_43 : decode cX5_copyFrom 43 = .ok (.getfield 41, 3) := by decide +kernel
theorem dX5_copyFrom_46 : decode cX5_copyFrom 46 = .ok (.putfield 41, 3) := by decide +kernel
theorem dX5_copyFrom_49 : decode cX5_copyFrom 49 = .ok (.return_, 1) := by decide +kernel
theorem dX5_hasBoth_0 : decode cX5_hasBoth 0 = .ok (.aload_n 0, 1) := by decide +kernel
theorem dX5_hasBoth_1 : decode cX5_hasBoth 1 = .ok (.getfield 21, 3) := by decide +kernel
theorem dX5_hasBoth_4 : decode cX5_hasBoth 4 = .ok (.iload_n 1, 1) := by decide +kernel
theorem dX5_hasBoth_5 : decode cX5_hasBoth 5 = .ok (.invokevirtual 54, 3) := by decide +kernel
theorem dX5_hasBoth_8 : decode cX5_hasBoth 8 = .ok (.ifCond .eq 18, 3) := by decide +kernel
theorem dX5_hasBoth_11 : decode cX5_hasBoth 11 = .ok (.aload_n 0, 1) := by decide +kernel
theorem dX5_hasBoth_12 : decode cX5_hasBoth 12 = .ok (.getfield 12, 3) := by decide +kernel
theorem dX5_hasBoth_15 : decode cX5_hasBoth 15 = .ok (.iload_n 2, 1) := by decide +kernel
theorem dX5_hasBoth_16 : decode cX5_hasBoth 16 = .ok (.invokevirtual 58, 3) := by decide +kernel
theorem dX5_hasBoth_19 : decode cX5_hasBoth 19 = .ok (.ifCond .eq 7, 3) := by decide +kernel
theorem dX5_hasBoth_22 : decode cX5_hasBoth 22 = .ok (.iconst 1, 1) := by decide +kernel
theorem dX5_hasBoth_23 : decode cX5_hasBoth 23 = .ok (.goto 4, 3) := by decide +kernel
theorem dX5_hasBoth_26 : decode cX5_hasBoth 26 = .ok (.iconst 0, 1) := by decide +kernel
theorem dX5_hasBoth_27 : decode cX5_hasBoth 27 = .ok (.ireturn, 1) := by decide +kernel
theorem dX5_addStar_0 : decode cX5_addStar 0 = .ok (.iload_n 2, 1) := by decide +kernel
theorem dX5_addStar_1 : decode cX5_addStar 1 = .ok (.invokestatic 59, 3) := by decide +kernel
theorem dX5_addStar_4 : decode cX5_addStar 4 = .ok (.ifCond .ne 5, 3) := by decide +kernel
theorem dX5_addStar_7 : decode cX5_addStar 7 = .ok (.iconst (-1), 1) := by decide +kernel
theorem dX5_addStar_8 : decode cX5_addStar 8 = .ok (.ireturn, 1) := by decide +kernel
theorem dX5_addStar_9 : decode cX5_addStar 9 = .ok (.iload_n 1, 1) := by decide +kernel
theorem dX5_addStar_10 : decode cX5_addStar 10 = .ok (.iconst 1, 1) := by decide +kernel
theorem dX5_addStar_11 : decode cX5_addStar 11 = .ok (.bipush 9, 2) := by decide +kernel
theorem dX5_addStar_13 : decode cX5_addStar 13 = .ok (.invokestatic 62, 3) := by decide +kernel
theorem dX5_addStar_16 : decode cX5_addStar 16 = .ok (.ifCond .ne 6, 3) := by decide +kernel
theorem dX5_addStar_19 : decode cX5_addStar 19 = .ok (.bipush (-2), 2) := by decide +kernel
theorem dX5_addStar_21 : decode cX5_addStar 21 = .ok (.ireturn, 1) := by decide +kernel
theorem dX5_addStar_22 : decode cX5_addStar 22 = .ok (.aload_n 0, 1) := by decide +kernel
theorem dX5_addStar_23 : decode cX5_addStar 23 = .ok (.getfield 12, 3) := by decide +kernel
theorem dX5_addStar_26 : decode cX5_addStar 26 = .ok (.getfield 66, 3) := by decide +kernel
theorem dX5_addStar_29 : decode cX5_addStar 29 = .ok (.bipush 8, 2) := by decide +kernel
theorem dX5_addStar_31 : decode cX5_addStar 31 = .ok (.if_icmp .lt 11, 3) := by decide +kernel
theorem dX5_addStar_34 : decode cX5_addStar 34 = .ok (.aload_n 3, 1) := by decide +kernel
theorem dX5_addStar_35 : decode cX5_addStar 35 = .ok (.iconst 1, 1) := by decide +kernel
theorem dX5_addStar_36 : decode cX5_addStar 36 = .ok (.bipush 8, 2) := by decide +kernel
theorem dX5_addStar_38 : decode cX5_addStar 38 = .ok (.invokevirtual 69, 3) := by decide +kernel
theorem dX5_addStar_41 : decode cX5_addStar 41 = .ok (.ireturn, 1) := by decide +kernel
theorem dX5_addStar_42 : decode cX5_addStar 42 = .ok (.aload_n 0, 1) := by decide +kernel
theorem dX5_addStar_43 : decode cX5_addStar 43 = .ok (.getfield 12, 3) := by decide +kernel
theorem dX5_addStar_46 : decode cX5_addStar 46 = .ok (.iload_n 1, 1) := by decide +kernel
theorem dX5_addStar_47 : decode cX5_addStar 47 = .ok (.iload_n 2, 1) := by decide +kernel
theorem dX5_addStar_48 : decode cX5_addStar 48 = .ok (.invokevirtual 75, 3) := by decide +kernel
theorem dX5_addStar_51 : decode cX5_addStar 51 = .ok (.ireturn, 1) := by decide +kernel
theorem dX5_addRoof_0 : decode cX5_addRoof 0 = .ok (.iload_n 1, 1) := by decide +kernel
theorem dX5_addRoof_1 : decode cX5_addRoof 1 = .ok (.iconst 0, 1) := by decide +kernel
theorem dX5_addRoof_2 : decode cX5_addRoof 2 = .ok (.bipush 99, 2) := by decide +kernel
theorem dX5_addRoof_4 : decode cX5_addRoof 4 = .ok (.invokestatic 62, 3) := by decide +kernel
theorem dX5_addRoof_7 : decode cX5_addRoof 7 = .ok (.ifCond .ne 6, 3) := by decide +kernel
theorem dX5_addRoof_10 : decode cX5_addRoof 10 = .ok (.bipush (-2), 2) := by decide +kernel
theorem dX5_addRoof_12 : decode cX5_addRoof 12 = .ok (.ireturn, 1) := by decide +kernel
theorem dX5_addRoof_13 : decode cX5_addRoof 13 = .ok (.aload_n 0, 1) := by decide +kernel
theorem dX5_addRoof_14 : decode cX5_addRoof 14 = .ok (.getfield 21, 3) := by decide +kernel
theorem dX5_addRoof_17 : decode cX5_addRoof 17 = .ok (.getfield 78, 3) := by decide +kernel
theorem dX5_addRoof_20 : decode cX5_addRoof 20 = .ok (.iconst 5, 1) := by decide +kernel
theorem dX5_addRoof_21 : decode cX5_addRoof 21 = .ok (.if_icmp .lt 10, 3) := by decide +kernel
theorem dX5_addRoof_24 : decode cX5_addRoof 24 = .ok (.aload_n 2, 1) := by decide +kernel
theorem dX5_addRoof_25 : decode cX5_addRoof 25 = .ok (.iconst 1, 1) := by decide +kernel
theorem dX5_addRoof_26 : decode cX5_addRoof 26 = .ok (.iconst 5, 1) := by decide +kernel
theorem dX5_addRoof_27 : decode cX5_addRoof 27 = .ok (.invokevirtual 69, 3) := by decide +kernel
theorem dX5_addRoof_30 : decode cX5_addRoof 30 = .ok (.ireturn, 1) := by decide +kernel
theorem dX5_addRoof_31 : decode cX5_addRoof 31 = .ok (.aload_n 0, 1) := by decide +kernel
theorem dX5_addRoof_32 : decode cX5_addRoof 32 = .ok (.getfield 21, 3) := by decide +kernel
theorem dX5_addRoof_35 : decode cX5_addRoof 35 = .ok (.iload_n 1, 1) := by decide +kernel
theorem dX5_addRoof_36 : decode cX5_addRoof 36 = .ok (.invokevirtual 79, 3) := by decide +kernel
theorem dX5_addRoof_39 : decode cX5_addRoof 39 = .ok (.ireturn, 1) := by decide +kernel
theorem dX5_tellCloud_0 : decode cX5_tellCloud 0 = .ok (.iload_n 1, 1) := by decide +kernel
theorem dX5_tellCloud_1 : decode cX5_tellCloud 1 = .ok (.invokestatic 59, 3) := by decide +kernel
theorem dX5_tellCloud_4 : decode cX5_tellCloud 4 = .ok (.ifCond .ne 5, 3) := by decide +kernel
theorem dX5_tellCloud_7 : decode cX5_tellCloud 7 = .ok (.iconst (-1), 1) := by decide +kernel
theorem dX5_tellCloud_8 : decode cX5_tellCloud 8 = .ok (.ireturn, 1) := by decide +kernel
theorem dX5_tellCloud_9 : decode cX5_tellCloud 9 = .ok (.iload_n 2, 1) := by decide +kernel
theorem dX5_tellCloud_10 : decode cX5_tellCloud 10 = .ok (.iconst 0, 1) := by decide +kernel
theorem dX5_tellCloud_11 : decode cX5_tellCloud 11 = .ok (.bipush 9, 2) := by decide +kernel
theorem dX5_tellCloud_13 : decode cX5_tellCloud 13 = .ok (.invokestatic 62, 3) := by decide +kernel
theorem dX5_tellCloud_16 : decode cX5_tellCloud 16 = .ok (.ifCond .ne 6, 3) := by decide +kernel
theorem dX5_tellCloud_19 : decode cX5_tellCloud 19 = .ok (.bipush (-2), 2) := by decide +kernel
theorem dX5_tellCloud_21 : decode cX5_tellCloud 21 = .ok (.ireturn, 1) := by decide +kernel
theorem dX5_tellCloud_22 : decode cX5_tellCloud 22 = .ok (.aload_n 0, 1) := by decide +kernel
theorem dX5_tellCloud_23 : decode cX5_tellCloud 23 = .ok (.getfield 12, 3) := by decide +kernel
theorem dX5_tellCloud_26 : decode cX5_tellCloud 26 = .ok (.getfield 82, 3) := by decide +kernel
theorem dX5_tellCloud_29 : decode cX5_tellCloud 29 = .ok (.iload_n 1, 1) := by decide +kernel
theorem dX5_tellCloud_30 : decode cX5_tellCloud 30 = .ok (.iaload, 1) := by decide +kernel
theorem dX5_tellCloud_31 : decode cX5_tellCloud 31 = .ok (.istore 4, 2) := by decide +kernel
theorem dX5_tellCloud_33 : decode cX5_tellCloud 33 = .ok (.iload 4, 2) := by decide +kernel
theorem dX5_tellCloud_35 : decode cX5_tellCloud 35 = .ok (.iload_n 2, 1) := by decide +kernel
theorem dX5_tellCloud_36 : decode cX5_tellCloud 36 = .ok (.if_icmp .ne 10, 3) := by decide +kernel
theorem dX5_tellCloud_39 : decode cX5_tellCloud 39 = .ok (.aload_n 3, 1) := by decide +kernel
theorem dX5_tellCloud_40 : decode cX5_tellCloud 40 = .ok (.iconst 2, 1) := by decide +kernel
theorem dX5_tellCloud_41 : decode cX5_tellCloud 41 = .ok (.iload_n 2, 1) := by decide +kernel
theorem dX5_tellCloud_42 : decode cX5_tellCloud 42 = .ok (.invokevirtual 69, 3) := by decide +kernel
theorem dX5_tellCloud_45 : decode cX5_tellCloud 45 = .ok (.ireturn, 1) := by decide +kernel
theorem dX5_tellCloud_46 : decode cX5_tellCloud 46 = .ok (.aload_n 0, 1) := by decide +kernel
theorem dX5_tellCloud_47 : decode cX5_tellCloud 47 = .ok (.getfield 12, 3) := by decide +kernel
theorem dX5_tellCloud_50 : decode cX5_tellCloud 50 = .ok (.getfield 82, 3) := by decide +kernel
theorem dX5_tellCloud_53 : decode cX5_tellCloud 53 = .ok (.iload_n 1, 1) := by decide +kernel
theorem dX5_tellCloud_54 : decode cX5_tellCloud 54 = .ok (.iload_n 2, 1) := by decide +kernel
theorem dX5_tellCloud_55 : decode cX5_tellCloud 55 = .ok (.iastore, 1) := by decide +kernel
theorem dX5_tellCloud_56 : decode cX5_tellCloud 56 = .ok (.iload 4, 2) := by decide +kernel
theorem dX5_tellCloud_58 : decode cX5_tellCloud 58 = .ok (.ireturn, 1) := by decide +kernel
theorem dX5_sightStar_0 : decode cX5_sightStar 0 = .ok (.aload_n 0, 1) := by decide +kernel
theorem dX5_sightStar_1 : decode cX5_sightStar 1 = .ok (.iload_n 1, 1) := by decide +kernel
theorem dX5_sightStar_2 : decode cX5_sightStar 2 = .ok (.iload_n 2, 1) := by decide +kernel
theorem dX5_sightStar_3 : decode cX5_sightStar 3 = .ok (.invokevirtual 86, 3) := by decide +kernel
theorem dX5_sightStar_6 : decode cX5_sightStar 6 = .ok (.ifCond .ne 5, 3) := by decide +kernel
theorem dX5_sightStar_9 : decode cX5_sightStar 9 = .ok (.iconst (-1), 1) := by decide +kernel
theorem dX5_sightStar_10 : decode cX5_sightStar 10 = .ok (.ireturn, 1) := by decide +kernel
theorem dX5_sightStar_11 : decode cX5_sightStar 11 = .ok (.iconst 1, 1) := by decide +kernel
theorem dX5_sightStar_12 : decode cX5_sightStar 12 = .ok (.iload_n 2, 1) := by decide +kernel
theorem dX5_sightStar_13 : decode cX5_sightStar 13 = .ok (.ishl, 1) := by decide +kernel
theorem dX5_sightStar_14 : decode cX5_sightStar 14 = .ok (.istore 4, 2) := by decide +kernel
theorem dX5_sightStar_16 : decode cX5_sightStar 16 = .ok (.aload_n 0, 1) := by decide +kernel
theorem dX5_sightStar_17 : decode cX5_sightStar 17 = .ok (.getfield 21, 3) := by decide +kernel
theorem dX5_sightStar_20 : decode cX5_sightStar 20 = .ok (.getfield 90, 3) := by decide +kernel
theorem dX5_sightStar_23 : decode cX5_sightStar 23 = .ok (.iload_n 1, 1) := by decide +kernel
theorem dX5_sightStar_24 : decode cX5_sightStar 24 = .ok (.iaload, 1) := by decide +kernel
theorem dX5_sightStar_25 : decode cX5_sightStar 25 = .ok (.iload 4, 2) := by decide +kernel
theorem dX5_sightStar_27 : decode cX5_sightStar 27 = .ok (.iand, 1) := by decide +kernel
theorem dX5_sightStar_28 : decode cX5_sightStar 28 = .ok (.ifCond .eq 21, 3) := by decide +kernel
theorem dX5_sightStar_31 : decode cX5_sightStar 31 = .ok (.aload_n 3, 1) := by decide +kernel
theorem dX5_sightStar_32 : decode cX5_sightStar 32 = .ok (.iconst 3, 1) := by decide +kernel
theorem dX5_sightStar_33 : decode cX5_sightStar 33 = .ok (.aload_n 0, 1) := by decide +kernel
theorem dX5_sightStar_34 : decode cX5_sightStar 34 = .ok (.getfield 21, 3) := by decide +kernel
theorem dX5_sightStar_37 : decode cX5_sightStar 37 = .ok (.getfield 90, 3) := by decide +kernel
theorem dX5_sightStar_40 : decode cX5_sightStar 40 = .ok (.iload_n 1, 1) := by decide +kernel
theorem dX5_sightStar_41 : decode cX5_sightStar 41 = .ok (.iaload, 1) := by decide +kernel
theorem dX5_sightStar_42 : decode cX5_sightStar 42 = .ok (.invokestatic 93, 3) := by decide +kernel
theorem dX5_sightStar_45 : decode cX5_sightStar 45 = .ok (.invokevirtual 69, 3) := by decide +kernel
theorem dX5_sightStar_48 : decode cX5_sightStar 48 = .ok (.ireturn, 1) := by decide +kernel
theorem dX5_sightStar_49 : decode cX5_sightStar 49 = .ok (.aload_n 0, 1) := by decide +kernel
theorem dX5_sightStar_50 : decode cX5_sightStar 50 = .ok (.getfield 21, 3) := by decide +kernel
theorem dX5_sightStar_53 : decode cX5_sightStar 53 = .ok (.getfield 90, 3) := by decide +kernel
theorem dX5_sightStar_56 : decode cX5_sightStar 56 = .ok (.iload_n 1, 1) := by decide +kernel
theorem dX5_sightStar_57 : decode cX5_sightStar 57 = .ok (.dup2, 1) := by decide +kernel
theorem dX5_sightStar_58 : decode cX5_sightStar 58 = .ok (.iaload, 1) := by decide +kernel
theorem dX5_sightStar_59 : decode cX5_sightStar 59 = .ok (.iload 4, 2) := by decide +kernel
theorem dX5_sightStar_61 : decode cX5_sightStar 61 = .ok (.ior, 1) := by decide +kernel
theorem dX5_sightStar_62 : decode cX5_sightStar 62 = .ok (.iastore, 1) := by decide +kernel
theorem dX5_sightStar_63 : decode cX5_sightStar 63 = .ok (.aload_n 0, 1) := by decide +kernel
theorem dX5_sightStar_64 : decode cX5_sightStar 64 = .ok (.getfield 12, 3) := by decide +kernel
theorem dX5_sightStar_67 : decode cX5_sightStar 67 = .ok (.getfield 98, 3) := by decide +kernel
theorem dX5_sightStar_70 : decode cX5_sightStar 70 = .ok (.iload_n 2, 1) := by decide +kernel
theorem dX5_sightStar_71 : decode cX5_sightStar 71 = .ok (.dup2, 1) := by decide +kernel
theorem dX5_sightStar_72 : decode cX5_sightStar 72 = .ok (.iaload, 1) := by decide +kernel
theorem dX5_sightStar_73 : decode cX5_sightStar 73 = .ok (.iconst 1, 1) := by decide +kernel
theorem dX5_sightStar_74 : decode cX5_sightStar 74 = .ok (.iadd, 1) := by decide +kernel
theorem dX5_sightStar_75 : decode cX5_sightStar 75 = .ok (.iastore, 1) := by decide +kernel
theorem dX5_sightStar_76 : decode cX5_sightStar 76 = .ok (.aload_n 0, 1) := by decide +kernel
theorem dX5_sightStar_77 : decode cX5_sightStar 77 = .ok (.getfield 12, 3) := by decide +kernel
theorem dX5_sightStar_80 : decode cX5_sightStar 80 = .ok (.iload_n 2, 1) := by decide +kernel
theorem dX5_sightStar_81 : decode cX5_sightStar 81 = .ok (.invokevirtual 101, 3) := by decide +kernel
theorem dX5_sightStar_84 : decode cX5_sightStar 84 = .ok (.ifCond .ne 15, 3) := by decide +kernel
theorem dX5_sightStar_87 : decode cX5_sightStar 87 = .ok (.aload_n 0, 1) := by decide +kernel
theorem dX5_sightStar_88 : decode cX5_sightStar 88 = .ok (.dup, 1) := by decide +kernel
theorem dX5_sightStar_89 : decode cX5_sightStar 89 = .ok (.getfield 41, 3) := by decide +kernel
theorem dX5_sightStar_92 : decode cX5_sightStar 92 = .ok (.iconst 1, 1) := by decide +kernel
theorem dX5_sightStar_93 : decode cX5_sightStar 93 = .ok (.iadd, 1) := by decide +kernel
theorem dX5_sightStar_94 : decode cX5_sightStar 94 = .ok (.putfield 41, 3) := by decide +kernel
theorem dX5_sightStar_97 : decode cX5_sightStar 97 = .ok (.iconst 0, 1) := by decide +kernel
theorem dX5_sightStar_98 : decode cX5_sightStar 98 = .ok (.ireturn, 1) := by decide +kernel
theorem dX5_sightStar_99 : decode cX5_sightStar 99 = .ok (.aload_n 0, 1) := by decide +kernel
theorem dX5_sightStar_100 : decode cX5_sightStar 100 = .ok (.getfield 21, 3) := by decide +kernel
theorem dX5_sightStar_103 : decode cX5_sightStar 103 = .ok (.getfield 104, 3) := by decide +kernel
theorem dX5_sightStar_106 : decode cX5_sightStar 106 = .ok (.iload_n 1, 1) := by decide +kernel
theorem dX5_sightStar_107 : decode cX5_sightStar 107 = .ok (.dup2, 1) := by decide +kernel
theorem dX5_sightStar_108 : decode cX5_sightStar 108 = .ok (.iaload, 1) := by decide +kernel
theorem dX5_sightStar_109 : decode cX5_sightStar 109 = .ok (.iload 4, 2) := by decide +kernel
theorem dX5_sightStar_111 : decode cX5_sightStar 111 = .ok (.ior, 1) := by decide +kernel
theorem dX5_sightStar_112 : decode cX5_sightStar 112 = .ok (.iastore, 1) := by decide +kernel
theorem dX5_sightStar_113 : decode cX5_sightStar 113 = .ok (.aload_n 0, 1) := by decide +kernel
theorem dX5_sightStar_114 : decode cX5_sightStar 114 = .ok (.iload_n 1, 1) := by decide +kernel
theorem dX5_sightStar_115 : decode cX5_sightStar 115 = .ok (.iload_n 2, 1) := by decide +kernel
theorem dX5_sightStar_116 : decode cX5_sightStar 116 = .ok (.invokevirtual 107, 3) := by decide +kernel
theorem dX5_sightStar_119 : decode cX5_sightStar 119 = .ok (.istore 5, 2) := by decide +kernel
theorem dX5_sightStar_121 : decode cX5_sightStar 121 = .ok (.aload_n 0, 1) := by decide +kernel
theorem dX5_sightStar_122 : decode cX5_sightStar 122 = .ok (.getfield 21, 3) := by decide +kernel
theorem dX5_sightStar_125 : decode cX5_sightStar 125 = .ok (.iload_n 1, 1) := by decide +kernel
theorem dX5_sightStar_126 : decode cX5_sightStar 126 = .ok (.iload 5, 2) := by decide +kernel
theorem dX5_sightStar_128 : decode cX5_sightStar 128 = .ok (.aload_n 0, 1) := by decide +kernel
theorem dX5_sightStar_129 : decode cX5_sightStar 129 = .ok (.getfield 12, 3) := by decide +kernel
theorem dX5_sightStar_132 : decode cX5_sightStar 132 = .ok (.getfield 110, 3) := by decide +kernel
theorem dX5_sightStar_135 : decode cX5_sightStar 135 = .ok (.iload_n 2, 1) := by decide +kernel
theorem dX5_sightStar_136 : decode cX5_sightStar 136 = .ok (.iaload, 1) := by decide +kernel
theorem dX5_sightStar_137 : decode cX5_sightStar 137 = .ok (.invokevirtual 113, 3) := by decide +kernel
theorem dX5_sightStar_140 : decode cX5_sightStar 140 = .ok (.iload 5, 2) := by decide +kernel
theorem dX5_sightStar_142 : decode cX5_sightStar 142 = .ok (.ireturn, 1) := by decide +kernel
theorem dX5_levyOn_0 : decode cX5_levyOn 0 = .ok (.aload_n 0, 1) := by decide +kernel
theorem dX5_levyOn_1 : decode cX5_levyOn 1 = .ok (.getfield 12, 3) := by decide +kernel
theorem dX5_levyOn_4 : decode cX5_levyOn 4 = .ok (.iload_n 2, 1) := by decide +kernel
theorem dX5_levyOn_5 : decode cX5_levyOn 5 = .ok (.invokevirtual 101, 3) := by decide +kernel
theorem dX5_levyOn_8 : decode cX5_levyOn 8 = .ok (.ifCond .eq 16, 3) := by decide +kernel
theorem dX5_levyOn_11 : decode cX5_levyOn 11 = .ok (.aload_n 0, 1) := by decide +kernel
theorem dX5_levyOn_12 : decode cX5_levyOn 12 = .ok (.getfield 12, 3) := by decide +kernel
theorem dX5_levyOn_15 : decode cX5_levyOn 15 = .ok (.getfield 110, 3) := by decide +kernel
theorem dX5_levyOn_18 : decode cX5_levyOn 18 = .ok (.iload_n 2, 1) := by decide +kernel
theorem dX5_levyOn_19 : decode cX5_levyOn 19 = .ok (.iaload, 1) := by decide +kernel
theorem dX5_levyOn_20 : decode cX5_levyOn 20 = .ok (.iload_n 1, 1) := by decide +kernel
theorem dX5_levyOn_21 : decode cX5_levyOn 21 = .ok (.if_icmp .ne 7, 3) := by decide +kernel
theorem dX5_levyOn_24 : decode cX5_levyOn 24 = .ok (.iconst 1, 1) := by decide +kernel
theorem dX5_levyOn_25 : decode cX5_levyOn 25 = .ok (.goto 4, 3) := by decide +kernel
theorem dX5_levyOn_28 : decode cX5_levyOn 28 = .ok (.iconst 0, 1) := by decide +kernel
theorem dX5_levyOn_29 : decode cX5_levyOn 29 = .ok (.istore_n 3, 1) := by decide +kernel
theorem dX5_levyOn_30 : decode cX5_levyOn 30 = .ok (.iload_n 3, 1) := by decide +kernel
theorem dX5_levyOn_31 : decode cX5_levyOn 31 = .ok (.ifCond .eq 7, 3) := by decide +kernel
theorem dX5_levyOn_34 : decode cX5_levyOn 34 = .ok (.iconst 0, 1) := by decide +kernel
theorem dX5_levyOn_35 : decode cX5_levyOn 35 = .ok (.goto 12, 3) := by decide +kernel
theorem dX5_levyOn_38 : decode cX5_levyOn 38 = .ok (.aload_n 0, 1) := by decide +kernel
theorem dX5_levyOn_39 : decode cX5_levyOn 39 = .ok (.getfield 12, 3) := by decide +kernel
theorem dX5_levyOn_42 : decode cX5_levyOn 42 = .ok (.getfield 117, 3) := by decide +kernel
theorem dX5_levyOn_45 : decode cX5_levyOn 45 = .ok (.iload_n 2, 1) := by decide +kernel
theorem dX5_levyOn_46 : decode cX5_levyOn 46 = .ok (.iaload, 1) := by decide +kernel
theorem dX5_levyOn_47 : decode cX5_levyOn 47 = .ok (.ireturn, 1) := by decide +kernel
theorem dX5_claimStar_0 : decode cX5_claimStar 0 = .ok (.aload_n 0, 1) := by decide +kernel
theorem dX5_claimStar_1 : decode cX5_claimStar 1 = .ok (.iload_n 1, 1) := by decide +kernel
theorem dX5_claimStar_2 : decode cX5_claimStar 2 = .ok (.iload_n 2, 1) := by decide +kernel
theorem dX5_claimStar_3 : decode cX5_claimStar 3 = .ok (.invokevirtual 86, 3) := by decide +kernel
theorem dX5_claimStar_6 : decode cX5_claimStar 6 = .ok (.ifCond .ne 5, 3) := by decide +kernel
theorem dX5_claimStar_9 : decode cX5_claimStar 9 = .ok (.iconst (-1), 1) := by decide +kernel
theorem dX5_claimStar_10 : decode cX5_claimStar 10 = .ok (.ireturn, 1) := by decide +kernel
theorem dX5_claimStar_11 : decode cX5_claimStar 11 = .ok (.aload_n 0, 1) := by decide +kernel
theorem dX5_claimStar_12 : decode cX5_claimStar 12 = .ok (.getfield 12, 3) := by decide +kernel
theorem dX5_claimStar_15 : decode cX5_claimStar 15 = .ok (.getfield 110, 3) := by decide +kernel
theorem dX5_claimStar_18 : decode cX5_claimStar 18 = .ok (.iload_n 2, 1) := by decide +kernel
theorem dX5_claimStar_19 : decode cX5_claimStar 19 = .ok (.iaload, 1) := by decide +kernel
theorem dX5_claimStar_20 : decode cX5_claimStar 20 = .ok (.bipush (-4), 2) := by decide +kernel
theorem dX5_claimStar_22 : decode cX5_claimStar 22 = .ok (.if_icmp .eq 18, 3) := by decide +kernel
theorem dX5_claimStar_25 : decode cX5_claimStar 25 = .ok (.aload_n 3, 1) := by decide +kernel
theorem dX5_claimStar_26 : decode cX5_claimStar 26 = .ok (.iconst 5, 1) := by decide +kernel
theorem dX5_claimStar_27 : decode cX5_claimStar 27 = .ok (.aload_n 0, 1) := by decide +kernel
theorem dX5_claimStar_28 : decode cX5_claimStar 28 = .ok (.getfield 12, 3) := by decide +kernel
theorem dX5_claimStar_31 : decode cX5_claimStar 31 = .ok (.getfield 110, 3) := by decide +kernel
theorem dX5_claimStar_34 : decode cX5_claimStar 34 = .ok (.iload_n 2, 1) := by decide +kernel
theorem dX5_claimStar_35 : decode cX5_claimStar 35 = .ok (.iaload, 1) := by decide +kernel
theorem dX5_claimStar_36 : decode cX5_claimStar 36 = .ok (.invokevirtual 69, 3) := by decide +kernel
theorem dX5_claimStar_39 : decode cX5_claimStar 39 = .ok (.ireturn, 1) := by decide +kernel
theorem dX5_claimStar_40 : decode cX5_claimStar 40 = .ok (.iconst 2, 1) := by decide +kernel
theorem dX5_claimStar_41 : decode cX5_claimStar 41 = .ok (.aload_n 0, 1) := by decide +kernel
theorem dX5_claimStar_42 : decode cX5_claimStar 42 = .ok (.getfield 12, 3) := by decide +kernel
theorem dX5_claimStar_45 : decode cX5_claimStar 45 = .ok (.getfield 117, 3) := by decide +kernel
theorem dX5_claimStar_48 : decode cX5_claimStar 48 = .ok (.iload_n 2, 1) := by decide +kernel
theorem dX5_claimStar_49 : decode cX5_claimStar 49 = .ok (.iaload, 1) := by decide +kernel
theorem dX5_claimStar_50 : decode cX5_claimStar 50 = .ok (.imul, 1) := by decide +kernel
theorem dX5_claimStar_51 : decode cX5_claimStar 51 = .ok (.istore 4, 2) := by decide +kernel
theorem dX5_claimStar_53 : decode cX5_claimStar 53 = .ok (.aload_n 0, 1) := by decide +kernel
theorem dX5_claimStar_54 : decode cX5_claimStar 54 = .ok (.getfield 21, 3) := by decide +kernel
theorem dX5_claimStar_57 : decode cX5_claimStar 57 = .ok (.getfield 120, 3) := by decide +kernel
theorem dX5_claimStar_60 : decode cX5_claimStar 60 = .ok (.iload_n 1, 1) := by decide +kernel
theorem dX5_claimStar_61 : decode cX5_claimStar 61 = .ok (.iaload, 1) := by decide +kernel
theorem dX5_claimStar_62 : decode cX5_claimStar 62 = .ok (.iload 4, 2) := by decide +kernel
theorem dX5_claimStar_64 : decode cX5_claimStar 64 = .ok (.if_icmp .ge 22, 3) := by decide +kernel
theorem dX5_claimStar_67 : decode cX5_claimStar 67 = .ok (.aload_n 3, 1) := by decide +kernel
theorem dX5_claimStar_68 : decode cX5_claimStar 68 = .ok (.bipush 6, 2) := by decide +kernel
theorem dX5_claimStar_70 : decode cX5_claimStar 70 = .ok (.iload 4, 2) := by decide +kernel
theorem dX5_claimStar_72 : decode cX5_claimStar 72 = .ok (.aload_n 0, 1) := by decide +kernel
theorem dX5_claimStar_73 : decode cX5_claimStar 73 = .ok (.getfield 21, 3) := by decide +kernel
theorem dX5_claimStar_76 : decode cX5_claimStar 76 = .ok (.getfield 120, 3) := by decide +kernel
theorem dX5_claimStar_79 : decode cX5_claimStar 79 = .ok (.iload_n 1, 1) := by decide +kernel
theorem dX5_claimStar_80 : decode cX5_claimStar 80 = .ok (.iaload, 1) := by decide +kernel
theorem dX5_claimStar_81 : decode cX5_claimStar 81 = .ok (.isub, 1) := by decide +kernel
theorem dX5_claimStar_82 : decode cX5_claimStar 82 = .ok (.invokevirtual 69, 3) := by decide +kernel
theorem dX5_claimStar_85 : decode cX5_claimStar 85 = .ok (.ireturn, 1) := by decide +kernel
theorem dX5_claimStar_86 : decode cX5_claimStar 86 = .ok (.aload_n 0, 1) := by decide +kernel
theorem dX5_claimStar_87 : decode cX5_claimStar 87 = .ok (.getfield 21, 3) := by decide +kernel
theorem dX5_claimStar_90 : decode cX5_claimStar 90 = .ok (.getfield 120, 3) := by decide +kernel
theorem dX5_claimStar_93 : decode cX5_claimStar 93 = .ok (.iload_n 1, 1) := by decide +kernel
theorem dX5_claimStar_94 : decode cX5_claimStar 94 = .ok (.dup2, 1) := by decide +kernel
theorem dX5_claimStar_95 : decode cX5_claimStar 95 = .ok (.iaload, 1) := by decide +kernel
theorem dX5_claimStar_96 : decode cX5_claimStar 96 = .ok (.iload 4, 2) := by decide +kernel
theorem dX5_claimStar_98 : decode cX5_claimStar 98 = .ok (.isub, 1) := by decide +kernel
theorem dX5_claimStar_99 : decode cX5_claimStar 99 = .ok (.iastore, 1) := by decide +kernel
theorem dX5_claimStar_100 : decode cX5_claimStar 100 = .ok (.aload_n 0, 1) := by decide +kernel
theorem dX5_claimStar_101 : decode cX5_claimStar 101 = .ok (.getfield 12, 3) := by decide +kernel
theorem dX5_claimStar_104 : decode cX5_claimStar 104 = .ok (.getfield 110, 3) := by decide +kernel
theorem dX5_claimStar_107 : decode cX5_claimStar 107 = .ok (.iload_n 2, 1) := by decide +kernel
theorem dX5_claimStar_108 : decode cX5_claimStar 108 = .ok (.iload_n 1, 1) := by decide +kernel
theorem dX5_claimStar_109 : decode cX5_claimStar 109 = .ok (.iastore, 1) := by decide +kernel
theorem dX5_claimStar_110 : decode cX5_claimStar 110 = .ok (.iload 4, 2) := by decide +kernel
theorem dX5_claimStar_112 : decode cX5_claimStar 112 = .ok (.ireturn, 1) := by decide +kernel
theorem dX5_dropClaim_0 : decode cX5_dropClaim 0 = .ok (.aload_n 0, 1) := by decide +kernel
theorem dX5_dropClaim_1 : decode cX5_dropClaim 1 = .ok (.getfield 12, 3) := by decide +kernel
theorem dX5_dropClaim_4 : decode cX5_dropClaim 4 = .ok (.iload_n 1, 1) := by decide +kernel
theorem dX5_dropClaim_5 : decode cX5_dropClaim 5 = .ok (.invokevirtual 58, 3) := by decide +kernel
theorem dX5_dropClaim_8 : decode cX5_dropClaim 8 = .ok (.ifCond .ne 5, 3) := by decide +kernel
theorem dX5_dropClaim_11 : decode cX5_dropClaim 11 = .ok (.iconst (-1), 1) := by decide +kernel
theorem dX5_dropClaim_12 : decode cX5_dropClaim 12 = .ok (.ireturn, 1) := by decide +kernel
theorem dX5_dropClaim_13 : decode cX5_dropClaim 13 = .ok (.aload_n 0, 1) := by decide +kernel
theorem dX5_dropClaim_14 : decode cX5_dropClaim 14 = .ok (.getfield 12, 3) := by decide +kernel
theorem dX5_dropClaim_17 : decode cX5_dropClaim 17 = .ok (.getfield 110, 3) := by decide +kernel
theorem dX5_dropClaim_20 : decode cX5_dropClaim 20 = .ok (.iload_n 1, 1) := by decide +kernel
theorem dX5_dropClaim_21 : decode cX5_dropClaim 21 = .ok (.iaload, 1) := by decide +kernel
theorem dX5_dropClaim_22 : decode cX5_dropClaim 22 = .ok (.istore_n 3, 1) := by decide +kernel
theorem dX5_dropClaim_23 : decode cX5_dropClaim 23 = .ok (.iload_n 3, 1) := by decide +kernel
theorem dX5_dropClaim_24 : decode cX5_dropClaim 24 = .ok (.bipush (-4), 2) := by decide +kernel
theorem dX5_dropClaim_26 : decode cX5_dropClaim 26 = .ok (.if_icmp .ne 11, 3) := by decide +kernel
theorem dX5_dropClaim_29 : decode cX5_dropClaim 29 = .ok (.aload_n 2, 1) := by decide +kernel
theorem dX5_dropClaim_30 : decode cX5_dropClaim 30 = .ok (.bipush 7, 2) := by decide +kernel
theorem dX5_dropClaim_32 : decode cX5_dropClaim 32 = .ok (.iload_n 1, 1) := by decide +kernel
theorem dX5_dropClaim_33 : decode cX5_dropClaim 33 = .ok (.invokevirtual 69, 3) := by decide +kernel
theorem dX5_dropClaim_36 : decode cX5_dropClaim 36 = .ok (.ireturn, 1) := by decide +kernel
theorem dX5_dropClaim_37 : decode cX5_dropClaim 37 = .ok (.aload_n 0, 1) := by decide +kernel
theorem dX5_dropClaim_38 : decode cX5_dropClaim 38 = .ok (.getfield 12, 3) := by decide +kernel
theorem dX5_dropClaim_41 : decode cX5_dropClaim 41 = .ok (.getfield 110, 3) := by decide +kernel
theorem dX5_dropClaim_44 : decode cX5_dropClaim 44 = .ok (.iload_n 1, 1) := by decide +kernel
theorem dX5_dropClaim_45 : decode cX5_dropClaim 45 = .ok (.bipush (-4), 2) := by decide +kernel
theorem dX5_dropClaim_47 : decode cX5_dropClaim 47 = .ok (.iastore, 1) := by decide +kernel
theorem dX5_dropClaim_48 : decode cX5_dropClaim 48 = .ok (.iload_n 3, 1) := by decide +kernel
theorem dX5_dropClaim_49 : decode cX5_dropClaim 49 = .ok (.ireturn, 1) := by decide +kernel
theorem dX5_addWish_0 : decode cX5_addWish 0 = .ok (.aload_n 0, 1) := by decide +kernel
theorem dX5_addWish_1 : decode cX5_addWish 1 = .ok (.iload_n 1, 1) := by decide +kernel
theorem dX5_addWish_2 : decode cX5_addWish 2 = .ok (.iload_n 2, 1) := by decide +kernel
theorem dX5_addWish_3 : decode cX5_addWish 3 = .ok (.invokevirtual 86, 3) := by decide +kernel
theorem dX5_addWish_6 : decode cX5_addWish 6 = .ok (.ifCond .ne 5, 3) := by decide +kernel
theorem dX5_addWish_9 : decode cX5_addWish 9 = .ok (.iconst (-1), 1) := by decide +kernel
theorem dX5_addWish_10 : decode cX5_addWish 10 = .ok (.ireturn, 1) := by decide +kernel
theorem dX5_addWish_11 : decode cX5_addWish 11 = .ok (.iload_n 3, 1) := by decide +kernel
theorem dX5_addWish_12 : decode cX5_addWish 12 = .ok (.iconst 0, 1) := by decide +kernel
theorem dX5_addWish_13 : decode cX5_addWish 13 = .ok (.bipush 9, 2) := by decide +kernel
theorem dX5_addWish_15 : decode cX5_addWish 15 = .ok (.invokestatic 62, 3) := by decide +kernel
theorem dX5_addWish_18 : decode cX5_addWish 18 = .ok (.ifCond .ne 6, 3) := by decide +kernel
theorem dX5_addWish_21 : decode cX5_addWish 21 = .ok (.bipush (-2), 2) := by decide +kernel
theorem dX5_addWish_23 : decode cX5_addWish 23 = .ok (.ireturn, 1) := by decide +kernel
theorem dX5_addWish_24 : decode cX5_addWish 24 = .ok (.aload_n 0, 1) := by decide +kernel
theorem dX5_addWish_25 : decode cX5_addWish 25 = .ok (.getfield 21, 3) := by decide +kernel
theorem dX5_addWish_28 : decode cX5_addWish 28 = .ok (.getfield 104, 3) := by decide +kernel
theorem dX5_addWish_31 : decode cX5_addWish 31 = .ok (.iload_n 1, 1) := by decide +kernel
theorem dX5_addWish_32 : decode cX5_addWish 32 = .ok (.iaload, 1) := by decide +kernel
theorem dX5_addWish_33 : decode cX5_addWish 33 = .ok (.iconst 1, 1) := by decide +kernel
theorem dX5_addWish_34 : decode cX5_addWish 34 = .ok (.iload_n 2, 1) := by decide +kernel
theorem dX5_addWish_35 : decode cX5_addWish 35 = .ok (.ishl, 1) := by decide +kernel
theorem dX5_addWish_36 : decode cX5_addWish 36 = .ok (.iand, 1) := by decide +kernel
theorem dX5_addWish_37 : decode cX5_addWish 37 = .ok (.ifCond .ne 22, 3) := by decide +kernel
theorem dX5_addWish_40 : decode cX5_addWish 40 = .ok (.aload 4, 2) := by decide +kernel
theorem dX5_addWish_42 : decode cX5_addWish 42 = .ok (.iconst 4, 1) := by decide +kernel
theorem dX5_addWish_43 : decode cX5_addWish 43 = .ok (.aload_n 0, 1) := by decide +kernel
theorem dX5_addWish_44 : decode cX5_addWish 44 = .ok (.getfield 21, 3) := by decide +kernel
theorem dX5_addWish_47 : decode cX5_addWish 47 = .ok (.getfield 104, 3) := by decide +kernel
theorem dX5_addWish_50 : decode cX5_addWish 50 = .ok (.iload_n 1, 1) := by decide +kernel
theorem dX5_addWish_51 : decode cX5_addWish 51 = .ok (.iaload, 1) := by decide +kernel
theorem dX5_addWish_52 : decode cX5_addWish 52 = .ok (.invokestatic 93, 3) := by decide +kernel
theorem dX5_addWish_55 : decode cX5_addWish 55 = .ok (.invokevirtual 69, 3) := by decide +kernel
theorem dX5_addWish_58 : decode cX5_addWish 58 = .ok (.ireturn, 1) := by decide +kernel
theorem dX5_addWish_59 : decode cX5_addWish 59 = .ok (.aload_n 0, 1) := by decide +kernel
theorem dX5_addWish_60 : decode cX5_addWish 60 = .ok (.getfield 28, 3) := by decide +kernel
theorem dX5_addWish_63 : decode cX5_addWish 63 = .ok (.getfield 123, 3) := by decide +kernel
theorem dX5_addWish_66 : decode cX5_addWish 66 = .ok (.bipush 8, 2) := by decide +kernel
theorem dX5_addWish_68 : decode cX5_addWish 68 = .ok (.if_icmp .lt 12, 3) := by decide +kernel
theorem dX5_addWish_71 : decode cX5_addWish 71 = .ok (.aload 4, 2) := by decide +kernel
theorem dX5_addWish_73 : decode cX5_addWish 73 = .ok (.iconst 1, 1) := by decide +kernel
theorem dX5_addWish_74 : decode cX5_addWish 74 = .ok (.bipush 8, 2) := by decide +kernel
theorem dX5_addWish_76 : decode cX5_addWish 76 = .ok (.invokevirtual 69, 3) := by decide +kernel
theorem dX5_addWish_79 : decode cX5_addWish 79 = .ok (.ireturn, 1) := by decide +kernel
theorem dX5_addWish_80 : decode cX5_addWish 80 = .ok (.aload_n 0, 1) := by decide +kernel
theorem dX5_addWish_81 : decode cX5_addWish 81 = .ok (.getfield 28, 3) := by decide +kernel
theorem dX5_addWish_84 : decode cX5_addWish 84 = .ok (.iload_n 1, 1) := by decide +kernel
theorem dX5_addWish_85 : decode cX5_addWish 85 = .ok (.iload_n 2, 1) := by decide +kernel
theorem dX5_addWish_86 : decode cX5_addWish 86 = .ok (.iload_n 3, 1) := by decide +kernel
theorem dX5_addWish_87 : decode cX5_addWish 87 = .ok (.invokevirtual 124, 3) := by decide +kernel
theorem dX5_addWish_90 : decode cX5_addWish 90 = .ok (.ireturn, 1) := by decide +kernel
theorem dX5_payDebt_0 : decode cX5_payDebt 0 = .ok (.aload_n 0, 1) := by decide +kernel
theorem dX5_payDebt_1 : decode cX5_payDebt 1 = .ok (.getfield 21, 3) := by decide +kernel
theorem dX5_payDebt_4 : decode cX5_payDebt 4 = .ok (.iload_n 1, 1) := by decide +kernel
theorem dX5_payDebt_5 : decode cX5_payDebt 5 = .ok (.invokevirtual 54, 3) := by decide +kernel
theorem dX5_payDebt_8 : decode cX5_payDebt 8 = .ok (.ifCond .ne 5, 3) := by decide +kernel
theorem dX5_payDebt_11 : decode cX5_payDebt 11 = .ok (.iconst (-1), 1) := by decide +kernel
theorem dX5_payDebt_12 : decode cX5_payDebt 12 = .ok (.ireturn, 1) := by decide +kernel
theorem dX5_payDebt_13 : decode cX5_payDebt 13 = .ok (.iload_n 2, 1) := by decide +kernel
theorem dX5_payDebt_14 : decode cX5_payDebt 14 = .ok (.iconst 1, 1) := by decide +kernel
theorem dX5_payDebt_15 : decode cX5_payDebt 15 = .ok (.bipush 99, 2) := by decide +kernel
theorem dX5_payDebt_17 : decode cX5_payDebt 17 = .ok (.invokestatic 62, 3) := by decide +kernel
theorem dX5_payDebt_20 : decode cX5_payDebt 20 = .ok (.ifCond .ne 6, 3) := by decide +kernel
theorem dX5_payDebt_23 : decode cX5_payDebt 23 = .ok (.bipush (-2), 2) := by decide +kernel
theorem dX5_payDebt_25 : decode cX5_payDebt 25 = .ok (.ireturn, 1) := by decide +kernel
theorem dX5_payDebt_26 : decode cX5_payDebt 26 = .ok (.aload_n 0, 1) := by decide +kernel
theorem dX5_payDebt_27 : decode cX5_payDebt 27 = .ok (.getfield 21, 3) := by decide +kernel
theorem dX5_payDebt_30 : decode cX5_payDebt 30 = .ok (.getfield 120, 3) := by decide +kernel
theorem dX5_payDebt_33 : decode cX5_payDebt 33 = .ok (.iload_n 1, 1) := by decide +kernel
theorem dX5_payDebt_34 : decode cX5_payDebt 34 = .ok (.iaload, 1) := by decide +kernel
theorem dX5_payDebt_35 : decode cX5_payDebt 35 = .ok (.iload_n 2, 1) := by decide +kernel
theorem dX5_payDebt_36 : decode cX5_payDebt 36 = .ok (.if_icmp .ge 21, 3) := by decide +kernel
theorem dX5_payDebt_39 : decode cX5_payDebt 39 = .ok (.aload_n 3, 1) := by decide +kernel
theorem dX5_payDebt_40 : decode cX5_payDebt 40 = .ok (.bipush 6, 2) := by decide +kernel
theorem dX5_payDebt_42 : decode cX5_payDebt 42 = .ok (.iload_n 2, 1) := by decide +kernel
theorem dX5_payDebt_43 : decode cX5_payDebt 43 = .ok (.aload_n 0, 1) := by decide +kernel
theorem dX5_payDebt_44 : decode cX5_payDebt 44 = .ok (.getfield 21, 3) := by decide +kernel
theorem dX5_payDebt_47 : decode cX5_payDebt 47 = .ok (.getfield 120, 3) := by decide +kernel
theorem dX5_payDebt_50 : decode cX5_payDebt 50 = .ok (.iload_n 1, 1) := by decide +kernel
theorem dX5_payDebt_51 : decode cX5_payDebt 51 = .ok (.iaload, 1) := by decide +kernel
theorem dX5_payDebt_52 : decode cX5_payDebt 52 = .ok (.isub, 1) := by decide +kernel
theorem dX5_payDebt_53 : decode cX5_payDebt 53 = .ok (.invokevirtual 69, 3) := by decide +kernel
theorem dX5_payDebt_56 : decode cX5_payDebt 56 = .ok (.ireturn, 1) := by decide +kernel
theorem dX5_payDebt_57 : decode cX5_payDebt 57 = .ok (.aload_n 0, 1) := by decide +kernel
theorem dX5_payDebt_58 : decode cX5_payDebt 58 = .ok (.getfield 21, 3) := by decide +kernel
theorem dX5_payDebt_61 : decode cX5_payDebt 61 = .ok (.getfield 127, 3) := by decide +kernel
theorem dX5_payDebt_64 : decode cX5_payDebt 64 = .ok (.iload_n 1, 1) := by decide +kernel
theorem dX5_payDebt_65 : decode cX5_payDebt 65 = .ok (.iaload, 1) := by decide +kernel
theorem dX5_payDebt_66 : decode cX5_payDebt 66 = .ok (.iload_n 2, 1) := by decide +kernel
theorem dX5_payDebt_67 : decode cX5_payDebt 67 = .ok (.if_icmp .ge 19, 3) := by decide +kernel
theorem dX5_payDebt_70 : decode cX5_payDebt 70 = .ok (.aload_n 3, 1) := by decide +kernel
theorem dX5_payDebt_71 : decode cX5_payDebt 71 = .ok (.bipush 8, 2) := by decide +kernel
theorem dX5_payDebt_73 : decode cX5_payDebt 73 = .ok (.aload_n 0, 1) := by decide +kernel
theorem dX5_payDebt_74 : decode cX5_payDebt 74 = .ok (.getfield 21, 3) := by decide +kernel
theorem dX5_payDebt_77 : decode cX5_payDebt 77 = .ok (.getfield 127, 3) := by decide +kernel
theorem dX5_payDebt_80 : decode cX5_payDebt 80 = .ok (.iload_n 1, 1) := by decide +kernel
theorem dX5_payDebt_81 : decode cX5_payDebt 81 = .ok (.iaload, 1) := by decide +kernel
theorem dX5_payDebt_82 : decode cX5_payDebt 82 = .ok (.invokevirtual 69, 3) := by decide +kernel
theorem dX5_payDebt_85 : decode cX5_payDebt 85 = .ok (.ireturn, 1) := by decide +kernel
theorem dX5_payDebt_86 : decode cX5_payDebt 86 = .ok (.aload_n 0, 1) := by decide +kernel
theorem dX5_payDebt_87 : decode cX5_payDebt 87 = .ok (.getfield 21, 3) := by decide +kernel
theorem dX5_payDebt_90 : decode cX5_payDebt 90 = .ok (.getfield 120, 3) := by decide +kernel
theorem dX5_payDebt_93 : decode cX5_payDebt 93 = .ok (.iload_n 1, 1) := by decide +kernel
theorem dX5_payDebt_94 : decode cX5_payDebt 94 = .ok (.dup2, 1) := by decide +kernel
theorem dX5_payDebt_95 : decode cX5_payDebt 95 = .ok (.iaload, 1) := by decide +kernel
theorem dX5_payDebt_96 : decode cX5_payDebt 96 = .ok (.iload_n 2, 1) := by decide +kernel
theorem dX5_payDebt_97 : decode cX5_payDebt 97 = .ok (.isub, 1) := by decide +kernel
theorem dX5_payDebt_98 : decode cX5_payDebt 98 = .ok (.iastore, 1) := by decide +kernel
theorem dX5_payDebt_99 : decode cX5_payDebt 99 = .ok (.aload_n 0, 1) := by decide +kernel
theorem dX5_payDebt_100 : decode cX5_payDebt 100 = .ok (.getfield 21, 3) := by decide +kernel
theorem dX5_payDebt_103 : decode cX5_payDebt 103 = .ok (.getfield 130, 3) := by decide +kernel
theorem dX5_payDebt_106 : decode cX5_payDebt 106 = .ok (.iload_n 1, 1) := by decide +kernel
theorem dX5_payDebt_107 : decode cX5_payDebt 107 = .ok (.dup2, 1) := by decide +kernel
theorem dX5_payDebt_108 : decode cX5_payDebt 108 = .ok (.iaload, 1) := by decide +kernel
theorem dX5_payDebt_109 : decode cX5_payDebt 109 = .ok (.iload_n 2, 1) := by decide +kernel
theorem dX5_payDebt_110 : decode cX5_payDebt 110 = .ok (.iadd, 1) := by decide +kernel
theorem dX5_payDebt_111 : decode cX5_payDebt 111 = .ok (.iastore, 1) := by decide +kernel
theorem dX5_payDebt_112 : decode cX5_payDebt 112 = .ok (.aload_n 0, 1) := by decide +kernel
theorem dX5_payDebt_113 : decode cX5_payDebt 113 = .ok (.getfield 21, 3) := by decide +kernel
theorem dX5_payDebt_116 : decode cX5_payDebt 116 = .ok (.getfield 127, 3) := by decide +kernel
theorem dX5_payDebt_119 : decode cX5_payDebt 119 = .ok (.iload_n 1, 1) := by decide +kernel
theorem dX5_payDebt_120 : decode cX5_payDebt 120 = .ok (.dup2, 1) := by decide +kernel
theorem dX5_payDebt_121 : decode cX5_payDebt 121 = .ok (.iaload, 1) := by decide +kernel
theorem dX5_payDebt_122 : decode cX5_payDebt 122 = .ok (.iload_n 2, 1) := by decide +kernel
theorem dX5_payDebt_123 : decode cX5_payDebt 123 = .ok (.isub, 1) := by decide +kernel
theorem dX5_payDebt_124 : decode cX5_payDebt 124 = .ok (.iastore, 1) := by decide +kernel
theorem dX5_payDebt_125 : decode cX5_payDebt 125 = .ok (.aload_n 0, 1) := by decide +kernel
theorem dX5_payDebt_126 : decode cX5_payDebt 126 = .ok (.getfield 21, 3) := by decide +kernel
theorem dX5_payDebt_129 : decode cX5_payDebt 129 = .ok (.getfield 127, 3) := by decide +kernel
theorem dX5_payDebt_132 : decode cX5_payDebt 132 = .ok (.iload_n 1, 1) := by decide +kernel
theorem dX5_payDebt_133 : decode cX5_payDebt 133 = .ok (.iaload, 1) := by decide +kernel
theorem dX5_payDebt_134 : decode cX5_payDebt 134 = .ok (.ireturn, 1) := by decide +kernel
theorem dX5_poundWishes_0 : decode cX5_poundWishes 0 = .ok (.aload_n 0, 1) := by decide +kernel
theorem dX5_poundWishes_1 : decode cX5_poundWishes 1 = .ok (.getfield 21, 3) := by decide +kernel
theorem dX5_poundWishes_4 : decode cX5_poundWishes 4 = .ok (.iload_n 1, 1) := by decide +kernel
theorem dX5_poundWishes_5 : decode cX5_poundWishes 5 = .ok (.invokevirtual 54, 3) := by decide +kernel
theorem dX5_poundWishes_8 : decode cX5_poundWishes 8 = .ok (.ifCond .ne 5, 3) := by decide +kernel
theorem dX5_poundWishes_11 : decode cX5_poundWishes 11 = .ok (.iconst (-1), 1) := by decide +kernel
theorem dX5_poundWishes_12 : decode cX5_poundWishes 12 = .ok (.ireturn, 1) := by decide +kernel
theorem dX5_poundWishes_13 : decode cX5_poundWishes 13 = .ok (.aload_n 0, 1) := by decide +kernel
theorem dX5_poundWishes_14 : decode cX5_poundWishes 14 = .ok (.getfield 21, 3) := by decide +kernel
theorem dX5_poundWishes_17 : decode cX5_poundWishes 17 = .ok (.getfield 133, 3) := by decide +kernel
theorem dX5_poundWishes_20 : decode cX5_poundWishes 20 = .ok (.iload_n 1, 1) := by decide +kernel
theorem dX5_poundWishes_21 : decode cX5_poundWishes 21 = .ok (.iaload, 1) := by decide +kernel
theorem dX5_poundWishes_22 : decode cX5_poundWishes 22 = .ok (.ifCond .le 19, 3) := by decide +kernel
theorem dX5_poundWishes_25 : decode cX5_poundWishes 25 = .ok (.aload_n 2, 1) := by decide +kernel
theorem dX5_poundWishes_26 : decode cX5_poundWishes 26 = .ok (.bipush 9, 2) := by decide +kernel
theorem dX5_poundWishes_28 : decode cX5_poundWishes 28 = .ok (.aload_n 0, 1) := by decide +kernel
theorem dX5_poundWishes_29 : decode cX5_poundWishes 29 = .ok (.getfield 21, 3) := by decide +kernel
theorem dX5_poundWishes_32 : decode cX5_poundWishes 32 = .ok (.getfield 133, 3) := by decide +kernel
theorem dX5_poundWishes_35 : decode cX5_poundWishes 35 = .ok (.iload_n 1, 1) := by decide +kernel
theorem dX5_poundWishes_36 : decode cX5_poundWishes 36 = .ok (.iaload, 1) := by decide +kernel
theorem dX5_poundWishes_37 : decode cX5_poundWishes 37 = .ok (.invokevirtual 69, 3) := by decide +kernel
theorem dX5_poundWishes_40 : decode cX5_poundWishes 40 = .ok (.ireturn, 1) := by decide +kernel
theorem dX5_poundWishes_41 : decode cX5_poundWishes 41 = .ok (.aload_n 0, 1) := by decide +kernel
theorem dX5_poundWishes_42 : decode cX5_poundWishes 42 = .ok (.getfield 21, 3) := by decide +kernel
theorem dX5_poundWishes_45 : decode cX5_poundWishes 45 = .ok (.getfield 127, 3) := by decide +kernel
theorem dX5_poundWishes_48 : decode cX5_poundWishes 48 = .ok (.iload_n 1, 1) := by decide +kernel
theorem dX5_poundWishes_49 : decode cX5_poundWishes 49 = .ok (.iaload, 1) := by decide +kernel
theorem dX5_poundWishes_50 : decode cX5_poundWishes 50 = .ok (.bipush 10, 2) := by decide +kernel
theorem dX5_poundWishes_52 : decode cX5_poundWishes 52 = .ok (.if_icmp .ge 19, 3) := by decide +kernel
theorem dX5_poundWishes_55 : decode cX5_poundWishes 55 = .ok (.aload_n 2, 1) := by decide +kernel
theorem dX5_poundWishes_56 : decode cX5_poundWishes 56 = .ok (.bipush 10, 2) := by decide +kernel
theorem dX5_poundWishes_58 : decode cX5_poundWishes 58 = .ok (.aload_n 0, 1) := by decide +kernel
theorem dX5_poundWishes_59 : decode cX5_poundWishes 59 = .ok (.getfield 21, 3) := by decide +kernel
theorem dX5_poundWishes_62 : decode cX5_poundWishes 62 = .ok (.getfield 127, 3) := by decide +kernel
theorem dX5_poundWishes_65 : decode cX5_poundWishes 65 = .ok (.iload_n 1, 1) := by decide +kernel
theorem dX5_poundWishes_66 : decode cX5_poundWishes 66 = .ok (.iaload, 1) := by decide +kernel
theorem dX5_poundWishes_67 : decode cX5_poundWishes 67 = .ok (.invokevirtual 69, 3) := by decide +kernel
theorem dX5_poundWishes_70 : decode cX5_poundWishes 70 = .ok (.ireturn, 1) := by decide +kernel
theorem dX5_poundWishes_71 : decode cX5_poundWishes 71 = .ok (.aload_n 0, 1) := by decide +kernel
theorem dX5_poundWishes_72 : decode cX5_poundWishes 72 = .ok (.getfield 28, 3) := by decide +kernel
theorem dX5_poundWishes_75 : decode cX5_poundWishes 75 = .ok (.iload_n 1, 1) := by decide +kernel
theorem dX5_poundWishes_76 : decode cX5_poundWishes 76 = .ok (.invokevirtual 136, 3) := by decide +kernel
theorem dX5_poundWishes_79 : decode cX5_poundWishes 79 = .ok (.istore_n 3, 1) := by decide +kernel
theorem dX5_poundWishes_80 : decode cX5_poundWishes 80 = .ok (.iload_n 3, 1) := by decide +kernel
theorem dX5_poundWishes_81 : decode cX5_poundWishes 81 = .ok (.ifCond .le 7, 3) := by decide +kernel
theorem dX5_poundWishes_84 : decode cX5_poundWishes 84 = .ok (.iload_n 3, 1) := by decide +kernel
theorem dX5_poundWishes_85 : decode cX5_poundWishes 85 = .ok (.goto 17, 3) := by decide +kernel
theorem dX5_poundWishes_88 : decode cX5_poundWishes 88 = .ok (.aload_n 2, 1) := by decide +kernel
theorem dX5_poundWishes_89 : decode cX5_poundWishes 89 = .ok (.bipush 11, 2) := by decide +kernel
theorem dX5_poundWishes_91 : decode cX5_poundWishes 91 = .ok (.aload_n 0, 1) := by decide +kernel
theorem dX5_poundWishes_92 : decode cX5_poundWishes 92 = .ok (.getfield 28, 3) := by decide +kernel
theorem dX5_poundWishes_95 : decode cX5_poundWishes 95 = .ok (.iload_n 1, 1) := by decide +kernel
theorem dX5_poundWishes_96 : decode cX5_poundWishes 96 = .ok (.invokevirtual 139, 3) := by decide +kernel
theorem dX5_poundWishes_99 : decode cX5_poundWishes 99 = .ok (.invokevirtual 69, 3) := by decide +kernel
theorem dX5_poundWishes_102 : decode cX5_poundWishes 102 = .ok (.ireturn, 1) := by decide +kernel
theorem dX5_costToRedeem_0 : decode cX5_costToRedeem 0 = .ok (.aload_n 0, 1) := by decide +kernel
theorem dX5_costToRedeem_1 : decode cX5_costToRedeem 1 = .ok (.getfield 12, 3) := by decide +kernel
theorem dX5_costToRedeem_4 : decode cX5_costToRedeem 4 = .ok (.getfield 117, 3) := by decide +kernel
theorem dX5_costToRedeem_7 : decode cX5_costToRedeem 7 = .ok (.aload_n 0, 1) := by decide +kernel
theorem dX5_costToRedeem_8 : decode cX5_costToRedeem 8 = .ok (.getfield 28, 3) := by decide +kernel
theorem dX5_costToRedeem_11 : decode cX5_costToRedeem 11 = .ok (.getfield 142, 3) := by decide +kernel
theorem dX5_costToRedeem_14 : decode cX5_costToRedeem 14 = .ok (.iload_n 1, 1) := by decide +kernel
theorem dX5_costToRedeem_15 : decode cX5_costToRedeem 15 = .ok (.iaload, 1) := by decide +kernel
theorem dX5_costToRedeem_16 : decode cX5_costToRedeem 16 = .ok (.iaload, 1) := by decide +kernel
theorem dX5_costToRedeem_17 : decode cX5_costToRedeem 17 = .ok (.aload_n 0, 1) := by decide +kernel
theorem dX5_costToRedeem_18 : decode cX5_costToRedeem 18 = .ok (.getfield 28, 3) := by decide +kernel
theorem dX5_costToRedeem_21 : decode cX5_costToRedeem 21 = .ok (.getfield 145, 3) := by decide +kernel
theorem dX5_costToRedeem_24 : decode cX5_costToRedeem 24 = .ok (.iload_n 1, 1) := by decide +kernel
theorem dX5_costToRedeem_25 : decode cX5_costToRedeem 25 = .ok (.iaload, 1) := by decide +kernel
theorem dX5_costToRedeem_26 : decode cX5_costToRedeem 26 = .ok (.iadd, 1) := by decide +kernel
theorem dX5_costToRedeem_27 : decode cX5_costToRedeem 27 = .ok (.ireturn, 1) := by decide +kernel
theorem dX5_redeemWish_0 : decode cX5_redeemWish 0 = .ok (.aload_n 0, 1) := by decide +kernel
theorem dX5_redeemWish_1 : decode cX5_redeemWish 1 = .ok (.getfield 28, 3) := by decide +kernel
theorem dX5_redeemWish_4 : decode cX5_redeemWish 4 = .ok (.iload_n 1, 1) := by decide +kernel
theorem dX5_redeemWish_5 : decode cX5_redeemWish 5 = .ok (.invokevirtual 148, 3) := by decide +kernel
theorem dX5_redeemWish_8 : decode cX5_redeemWish 8 = .ok (.ifCond .ne 5, 3) := by decide +kernel
theorem dX5_redeemWish_11 : decode cX5_redeemWish 11 = .ok (.iconst (-1), 1) := by decide +kernel
theorem dX5_redeemWish_12 : decode cX5_redeemWish 12 = .ok (.ireturn, 1) := by decide +kernel
theorem dX5_redeemWish_13 : decode cX5_redeemWish 13 = .ok (.aload_n 0, 1) := by decide +kernel
theorem dX5_redeemWish_14 : decode cX5_redeemWish 14 = .ok (.getfield 28, 3) := by decide +kernel
theorem dX5_redeemWish_17 : decode cX5_redeemWish 17 = .ok (.iload_n 1, 1) := by decide +kernel
theorem dX5_redeemWish_18 : decode cX5_redeemWish 18 = .ok (.invokevirtual 149, 3) := by decide +kernel
theorem dX5_redeemWish_21 : decode cX5_redeemWish 21 = .ok (.ifCond .ne 19, 3) := by decide +kernel
theorem dX5_redeemWish_24 : decode cX5_redeemWish 24 = .ok (.aload_n 2, 1) := by decide +kernel
theorem dX5_redeemWish_25 : decode cX5_redeemWish 25 = .ok (.bipush 12, 2) := by decide +kernel
theorem dX5_redeemWish_27 : decode cX5_redeemWish 27 = .ok (.aload_n 0, 1) := by decide +kernel
theorem dX5_redeemWish_28 : decode cX5_redeemWish 28 = .ok (.getfield 28, 3) := by decide +kernel
theorem dX5_redeemWish_31 : decode cX5_redeemWish 31 = .ok (.getfield 152, 3) := by decide +kernel
theorem dX5_redeemWish_34 : decode cX5_redeemWish 34 = .ok (.iload_n 1, 1) := by decide +kernel
theorem dX5_redeemWish_35 : decode cX5_redeemWish 35 = .ok (.iaload, 1) := by decide +kernel
theorem dX5_redeemWish_36 : decode cX5_redeemWish 36 = .ok (.invokevirtual 69, 3) := by decide +kernel
theorem dX5_redeemWish_39 : decode cX5_redeemWish 39 = .ok (.ireturn, 1) := by decide +kernel
theorem dX5_redeemWish_40 : decode cX5_redeemWish 40 = .ok (.aload_n 0, 1) := by decide +kernel
theorem dX5_redeemWish_41 : decode cX5_redeemWish 41 = .ok (.getfield 28, 3) := by decide +kernel
theorem dX5_redeemWish_44 : decode cX5_redeemWish 44 = .ok (.getfield 155, 3) := by decide +kernel
theorem dX5_redeemWish_47 : decode cX5_redeemWish 47 = .ok (.iload_n 1, 1) := by decide +kernel
theorem dX5_redeemWish_48 : decode cX5_redeemWish 48 = .ok (.iaload, 1) := by decide +kernel
theorem dX5_redeemWish_49 : decode cX5_redeemWish 49 = .ok (.istore_n 3, 1) := by decide +kernel
theorem dX5_redeemWish_50 : decode cX5_redeemWish 50 = .ok (.aload_n 0, 1) := by decide +kernel
theorem dX5_redeemWish_51 : decode cX5_redeemWish 51 = .ok (.iload_n 1, 1) := by decide +kernel
theorem dX5_redeemWish_52 : decode cX5_redeemWish 52 = .ok (.invokevirtual 158, 3) := by decide +kernel
theorem dX5_redeemWish_55 : decode cX5_redeemWish 55 = .ok (.istore 4, 2) := by decide +kernel
theorem dX5_redeemWish_57 : decode cX5_redeemWish 57 = .ok (.aload_n 0, 1) := by decide +kernel
theorem dX5_redeemWish_58 : decode cX5_redeemWish 58 = .ok (.getfield 21, 3) := by decide +kernel
theorem dX5_redeemWish_61 : decode cX5_redeemWish 61 = .ok (.getfield 120, 3) := by decide +kernel
theorem dX5_redeemWish_64 : decode cX5_redeemWish 64 = .ok (.iload_n 3, 1) := by decide +kernel
theorem dX5_redeemWish_65 : decode cX5_redeemWish 65 = .ok (.iaload, 1) := by decide +kernel
theorem dX5_redeemWish_66 : decode cX5_redeemWish 66 = .ok (.iload 4, 2) := by decide +kernel
theorem dX5_redeemWish_68 : decode cX5_redeemWish 68 = .ok (.if_icmp .ge 22, 3) := by decide +kernel
theorem dX5_redeemWish_71 : decode cX5_redeemWish 71 = .ok (.aload_n 2, 1) := by decide +kernel
theorem dX5_redeemWish_72 : decode cX5_redeemWish 72 = .ok (.bipush 6, 2) := by decide +kernel
theorem dX5_redeemWish_74 : decode cX5_redeemWish 74 = .ok (.iload 4, 2) := by decide +kernel
theorem dX5_redeemWish_76 : decode cX5_redeemWish 76 = .ok (.aload_n 0, 1) := by decide +kernel
theorem dX5_redeemWish_77 : decode cX5_redeemWish 77 = .ok (.getfield 21, 3) := by decide +kernel
theorem dX5_redeemWish_80 : decode cX5_redeemWish 80 = .ok (.getfield 120, 3) := by decide +kernel
theorem dX5_redeemWish_83 : decode cX5_redeemWish 83 = .ok (.iload_n 3, 1) := by decide +kernel
theorem dX5_redeemWish_84 : decode cX5_redeemWish 84 = .ok (.iaload, 1) := by decide +kernel
theorem dX5_redeemWish_85 : decode cX5_redeemWish 85 = .ok (.isub, 1) := by decide +kernel
theorem dX5_redeemWish_86 : decode cX5_redeemWish 86 = .ok (.invokevirtual 69, 3) := by decide +kernel
theorem dX5_redeemWish_89 : decode cX5_redeemWish 89 = .ok (.ireturn, 1) := by decide +kernel
theorem dX5_redeemWish_90 : decode cX5_redeemWish 90 = .ok (.aload_n 0, 1) := by decide +kernel
theorem dX5_redeemWish_91 : decode cX5_redeemWish 91 = .ok (.getfield 21, 3) := by decide +kernel
theorem dX5_redeemWish_94 : decode cX5_redeemWish 94 = .ok (.getfield 120, 3) := by decide +kernel
theorem dX5_redeemWish_97 : decode cX5_redeemWish 97 = .ok (.iload_n 3, 1) := by decide +kernel
theorem dX5_redeemWish_98 : decode cX5_redeemWish 98 = .ok (.dup2, 1) := by decide +kernel
theorem dX5_redeemWish_99 : decode cX5_redeemWish 99 = .ok (.iaload, 1) := by decide +kernel
theorem dX5_redeemWish_100 : decode cX5_redeemWish 100 = .ok (.iload 4, 2) := by decide +kernel
theorem dX5_redeemWish_102 : decode cX5_redeemWish 102 = .ok (.isub, 1) := by decide +kernel
theorem dX5_redeemWish_103 : decode cX5_redeemWish 103 = .ok (.iastore, 1) := by decide +kernel
theorem dX5_redeemWish_104 : decode cX5_redeemWish 104 = .ok (.aload_n 0, 1) := by decide +kernel
theorem dX5_redeemWish_105 : decode cX5_redeemWish 105 = .ok (.getfield 28, 3) := by decide +kernel
theorem dX5_redeemWish_108 : decode cX5_redeemWish 108 = .ok (.getfield 145, 3) := by decide +kernel
theorem dX5_redeemWish_111 : decode cX5_redeemWish 111 = .ok (.iload_n 1, 1) := by decide +kernel
theorem dX5_redeemWish_112 : decode cX5_redeemWish 112 = .ok (.bipush (-4), 2) := by decide +kernel
theorem dX5_redeemWish_114 : decode cX5_redeemWish 114 = .ok (.iastore, 1) := by decide +kernel
theorem dX5_redeemWish_115 : decode cX5_redeemWish 115 = .ok (.iload 4, 2) := by decide +kernel
theorem dX5_redeemWish_117 : decode cX5_redeemWish 117 = .ok (.ireturn, 1) := by decide +kernel
theorem dX5_giveStay_0 : decode cX5_giveStay 0 = .ok (.aload_n 0, 1) := by decide +kernel
theorem dX5_giveStay_1 : decode cX5_giveStay 1 = .ok (.getfield 21, 3) := by decide +kernel
theorem dX5_giveStay_4 : decode cX5_giveStay 4 = .ok (.iload_n 1, 1) := by decide +kernel
theorem dX5_giveStay_5 : decode cX5_giveStay 5 = .ok (.invokevirtual 54, 3) := by decide +kernel
theorem dX5_giveStay_8 : decode cX5_giveStay 8 = .ok (.ifCond .ne 5, 3) := by decide +kernel
theorem dX5_giveStay_11 : decode cX5_giveStay 11 = .ok (.iconst (-1), 1) := by decide +kernel
theorem dX5_giveStay_12 : decode cX5_giveStay 12 = .ok (.ireturn, 1) := by decide +kernel
theorem dX5_giveStay_13 : decode cX5_giveStay 13 = .ok (.iload_n 2, 1) := by decide +kernel
theorem dX5_giveStay_14 : decode cX5_giveStay 14 = .ok (.iconst 0, 1) := by decide +kernel
theorem dX5_giveStay_15 : decode cX5_giveStay 15 = .ok (.bipush 9, 2) := by decide +kernel
theorem dX5_giveStay_17 : decode cX5_giveStay 17 = .ok (.invokestatic 62, 3) := by decide +kernel
theorem dX5_giveStay_20 : decode cX5_giveStay 20 = .ok (.ifCond .ne 6, 3) := by decide +kernel
theorem dX5_giveStay_23 : decode cX5_giveStay 23 = .ok (.bipush (-2), 2) := by decide +kernel
theorem dX5_giveStay_25 : decode cX5_giveStay 25 = .ok (.ireturn, 1) := by decide +kernel
theorem dX5_giveStay_26 : decode cX5_giveStay 26 = .ok (.aload_n 0, 1) := by decide +kernel
theorem dX5_giveStay_27 : decode cX5_giveStay 27 = .ok (.getfield 21, 3) := by decide +kernel
theorem dX5_giveStay_30 : decode cX5_giveStay 30 = .ok (.getfield 133, 3) := by decide +kernel
theorem dX5_giveStay_33 : decode cX5_giveStay 33 = .ok (.iload_n 1, 1) := by decide +kernel
theorem dX5_giveStay_34 : decode cX5_giveStay 34 = .ok (.iaload, 1) := by decide +kernel
theorem dX5_giveStay_35 : decode cX5_giveStay 35 = .ok (.istore 4, 2) := by decide +kernel
theorem dX5_giveStay_37 : decode cX5_giveStay 37 = .ok (.iload 4, 2) := by decide +kernel
theorem dX5_giveStay_39 : decode cX5_giveStay 39 = .ok (.iload_n 2, 1) := by decide +kernel
theorem dX5_giveStay_40 : decode cX5_giveStay 40 = .ok (.if_icmp .ne 10, 3) := by decide +kernel
theorem dX5_giveStay_43 : decode cX5_giveStay 43 = .ok (.aload_n 3, 1) := by decide +kernel
theorem dX5_giveStay_44 : decode cX5_giveStay 44 = .ok (.iconst 2, 1) := by decide +kernel
theorem dX5_giveStay_45 : decode cX5_giveStay 45 = .ok (.iload_n 2, 1) := by decide +kernel
theorem dX5_giveStay_46 : decode cX5_giveStay 46 = .ok (.invokevirtual 69, 3) := by decide +kernel
theorem dX5_giveStay_49 : decode cX5_giveStay 49 = .ok (.ireturn, 1) := by decide +kernel
theorem dX5_giveStay_50 : decode cX5_giveStay 50 = .ok (.aload_n 0, 1) := by decide +kernel
theorem dX5_giveStay_51 : decode cX5_giveStay 51 = .ok (.getfield 21, 3) := by decide +kernel
theorem dX5_giveStay_54 : decode cX5_giveStay 54 = .ok (.getfield 133, 3) := by decide +kernel
theorem dX5_giveStay_57 : decode cX5_giveStay 57 = .ok (.iload_n 1, 1) := by decide +kernel
theorem dX5_giveStay_58 : decode cX5_giveStay 58 = .ok (.iload_n 2, 1) := by decide +kernel
theorem dX5_giveStay_59 : decode cX5_giveStay 59 = .ok (.iastore, 1) := by decide +kernel
theorem dX5_giveStay_60 : decode cX5_giveStay 60 = .ok (.iload 4, 2) := by decide +kernel
theorem dX5_giveStay_62 : decode cX5_giveStay 62 = .ok (.ireturn, 1) := by decide +kernel
theorem dX5_passNight_0 : decode cX5_passNight 0 = .ok (.aload_n 0, 1) := by decide +kernel
theorem dX5_passNight_1 : decode cX5_passNight 1 = .ok (.invokevirtual 161, 3) := by decide +kernel
theorem dX5_passNight_4 : decode cX5_passNight 4 = .ok (.istore_n 1, 1) := by decide +kernel
theorem dX5_passNight_5 : decode cX5_passNight 5 = .ok (.iconst 0, 1) := by decide +kernel
theorem dX5_passNight_6 : decode cX5_passNight 6 = .ok (.istore_n 2, 1) := by decide +kernel
theorem dX5_passNight_7 : decode cX5_passNight 7 = .ok (.iconst 0, 1) := by decide +kernel
theorem dX5_passNight_8 : decode cX5_passNight 8 = .ok (.istore_n 3, 1) := by decide +kernel
theorem dX5_passNight_9 : decode cX5_passNight 9 = .ok (.iload_n 3, 1) := by decide +kernel
theorem dX5_passNight_10 : decode cX5_passNight 10 = .ok (.aload_n 0, 1) := by decide +kernel
theorem dX5_passNight_11 : decode cX5_passNight 11 = .ok (.getfield 28, 3) := by decide +kernel
theorem dX5_passNight_14 : decode cX5_passNight 14 = .ok (.getfield 123, 3) := by decide +kernel
theorem dX5_passNight_17 : decode cX5_passNight 17 = .ok (.if_icmp .ge 29, 3) := by decide +kernel
theorem dX5_passNight_20 : decode cX5_passNight 20 = .ok (.aload_n 0, 1) := by decide +kernel
theorem dX5_passNight_21 : decode cX5_passNight 21 = .ok (.iload_n 3, 1) := by decide +kernel
theorem dX5_passNight_22 : decode cX5_passNight 22 = .ok (.invokevirtual 165, 3) := by decide +kernel
theorem dX5_passNight_25 : decode cX5_passNight 25 = .ok (.ifCond .eq 15, 3) := by decide +kernel
theorem dX5_passNight_28 : decode cX5_passNight 28 = .ok (.aload_n 0, 1) := by decide +kernel
theorem dX5_passNight_29 : decode cX5_passNight 29 = .ok (.getfield 28, 3) := by decide +kernel
theorem dX5_passNight_32 : decode cX5_passNight 32 = .ok (.iload_n 3, 1) := by decide +kernel
theorem dX5_passNight_33 : decode cX5_passNight 33 = .ok (.iload_n 2, 1) := by decide +kernel
theorem dX5_passNight_34 : decode cX5_passNight 34 = .ok (.invokevirtual 168, 3) := by decide +kernel
theorem dX5_passNight_37 : decode cX5_passNight 37 = .ok (.iinc 2 1, 3) := by decide +kernel
theorem dX5_passNight_40 : decode cX5_passNight 40 = .ok (.iinc 3 1, 3) := by decide +kernel
theorem dX5_passNight_43 : decode cX5_passNight 43 = .ok (.goto (-34), 3) := by decide +kernel
theorem dX5_passNight_46 : decode cX5_passNight 46 = .ok (.aload_n 0, 1) := by decide +kernel
theorem dX5_passNight_47 : decode cX5_passNight 47 = .ok (.getfield 28, 3) := by decide +kernel
theorem dX5_passNight_50 : decode cX5_passNight 50 = .ok (.iload_n 2, 1) := by decide +kernel
theorem dX5_passNight_51 : decode cX5_passNight 51 = .ok (.putfield 123, 3) := by decide +kernel
theorem dX5_passNight_54 : decode cX5_passNight 54 = .ok (.aload_n 0, 1) := by decide +kernel
theorem dX5_passNight_55 : decode cX5_passNight 55 = .ok (.getfield 12, 3) := by decide +kernel
theorem dX5_passNight_58 : decode cX5_passNight 58 = .ok (.invokevirtual 172, 3) := by decide +kernel
theorem dX5_passNight_61 : decode cX5_passNight 61 = .ok (.aload_n 0, 1) := by decide +kernel
theorem dX5_passNight_62 : decode cX5_passNight 62 = .ok (.getfield 21, 3) := by decide +kernel
theorem dX5_passNight_65 : decode cX5_passNight 65 = .ok (.invokevirtual 175, 3) := by decide +kernel
theorem dX5_passNight_68 : decode cX5_passNight 68 = .ok (.aload_n 0, 1) := by decide +kernel
theorem dX5_passNight_69 : decode cX5_passNight 69 = .ok (.dup, 1) := by decide +kernel
theorem dX5_passNight_70 : decode cX5_passNight 70 = .ok (.getfield 37, 3) := by decide +kernel
theorem dX5_passNight_73 : decode cX5_passNight 73 = .ok (.iconst 1, 1) := by decide +kernel
theorem dX5_passNight_74 : decode cX5_passNight 74 = .ok (.iadd, 1) := by decide +kernel
theorem dX5_passNight_75 : decode cX5_passNight 75 = .ok (.putfield 37, 3) := by decide +kernel
theorem dX5_passNight_78 : decode cX5_passNight 78 = .ok (.iload_n 1, 1) := by decide +kernel
theorem dX5_passNight_79 : decode cX5_passNight 79 = .ok (.ireturn, 1) := by decide +kernel
theorem dX5_staysAtDawn_0 : decode cX5_staysAtDawn 0 = .ok (.aload_n 0, 1) := by decide +kernel
theorem dX5_staysAtDawn_1 : decode cX5_staysAtDawn 1 = .ok (.getfield 28, 3) := by decide +kernel
theorem dX5_staysAtDawn_4 : decode cX5_staysAtDawn 4 = .ok (.getfield 155, 3) := by decide +kernel
theorem dX5_staysAtDawn_7 : decode cX5_staysAtDawn 7 = .ok (.iload_n 1, 1) := by decide +kernel
theorem dX5_staysAtDawn_8 : decode cX5_staysAtDawn 8 = .ok (.iaload, 1) := by decide +kernel
theorem dX5_staysAtDawn_9 : decode cX5_staysAtDawn 9 = .ok (.istore_n 2, 1) := by decide +kernel
theorem dX5_staysAtDawn_10 : decode cX5_staysAtDawn 10 = .ok (.aload_n 0, 1) := by decide +kernel
theorem dX5_staysAtDawn_11 : decode cX5_staysAtDawn 11 = .ok (.iload_n 1, 1) := by decide +kernel
theorem dX5_staysAtDawn_12 : decode cX5_staysAtDawn 12 = .ok (.invokevirtual 178, 3) := by decide +kernel
theorem dX5_staysAtDawn_15 : decode cX5_staysAtDawn 15 = .ok (.ifCond .eq 18, 3) := by decide +kernel
theorem dX5_staysAtDawn_18 : decode cX5_staysAtDawn 18 = .ok (.aload_n 0, 1) := by decide +kernel
theorem dX5_staysAtDawn_19 : decode cX5_staysAtDawn 19 = .ok (.getfield 21, 3) := by decide +kernel
theorem dX5_staysAtDawn_22 : decode cX5_staysAtDawn 22 = .ok (.getfield 181, 3) := by decide +kernel
theorem dX5_staysAtDawn_25 : decode cX5_staysAtDawn 25 = .ok (.iload_n 2, 1) := by decide +kernel
theorem dX5_staysAtDawn_26 : decode cX5_staysAtDawn 26 = .ok (.dup2, 1) := by decide +kernel
theorem dX5_staysAtDawn_27 : decode cX5_staysAtDawn 27 = .ok (.iaload, 1) := by decide +kernel
theorem dX5_staysAtDawn_28 : decode cX5_staysAtDawn 28 = .ok (.iconst 1, 1) := by decide +kernel
theorem dX5_staysAtDawn_29 : decode cX5_staysAtDawn 29 = .ok (.iadd, 1) := by decide +kernel
theorem dX5_staysAtDawn_30 : decode cX5_staysAtDawn 30 = .ok (.iastore, 1) := by decide +kernel
theorem dX5_staysAtDawn_31 : decode cX5_staysAtDawn 31 = .ok (.iconst 0, 1) := by decide +kernel
theorem dX5_staysAtDawn_32 : decode cX5_staysAtDawn 32 = .ok (.ireturn, 1) := by decide +kernel
theorem dX5_staysAtDawn_33 : decode cX5_staysAtDawn 33 = .ok (.aload_n 0, 1) := by decide +kernel
theorem dX5_staysAtDawn_34 : decode cX5_staysAtDawn 34 = .ok (.getfield 28, 3) := by decide +kernel
theorem dX5_staysAtDawn_37 : decode cX5_staysAtDawn 37 = .ok (.iload_n 1, 1) := by decide +kernel
theorem dX5_staysAtDawn_38 : decode cX5_staysAtDawn 38 = .ok (.invokevirtual 149, 3) := by decide +kernel
theorem dX5_staysAtDawn_41 : decode cX5_staysAtDawn 41 = .ok (.ifCond .ne 18, 3) := by decide +kernel
theorem dX5_staysAtDawn_44 : decode cX5_staysAtDawn 44 = .ok (.aload_n 0, 1) := by decide +kernel
theorem dX5_staysAtDawn_45 : decode cX5_staysAtDawn 45 = .ok (.getfield 28, 3) := by decide +kernel
theorem dX5_staysAtDawn_48 : decode cX5_staysAtDawn 48 = .ok (.getfield 152, 3) := by decide +kernel
theorem dX5_staysAtDawn_51 : decode cX5_staysAtDawn 51 = .ok (.iload_n 1, 1) := by decide +kernel
theorem dX5_staysAtDawn_52 : decode cX5_staysAtDawn 52 = .ok (.dup2, 1) := by decide +kernel
theorem dX5_staysAtDawn_53 : decode cX5_staysAtDawn 53 = .ok (.iaload, 1) := by decide +kernel
theorem dX5_staysAtDawn_54 : decode cX5_staysAtDawn 54 = .ok (.iconst 1, 1) := by decide +kernel
theorem dX5_staysAtDawn_55 : decode cX5_staysAtDawn 55 = .ok (.iadd, 1) := by decide +kernel
theorem dX5_staysAtDawn_56 : decode cX5_staysAtDawn 56 = .ok (.iastore, 1) := by decide +kernel
theorem dX5_staysAtDawn_57 : decode cX5_staysAtDawn 57 = .ok (.iconst 1, 1) := by decide +kernel
theorem dX5_staysAtDawn_58 : decode cX5_staysAtDawn 58 = .ok (.ireturn, 1) := by decide +kernel
theorem dX5_staysAtDawn_59 : decode cX5_staysAtDawn 59 = .ok (.aload_n 0, 1) := by decide +kernel
theorem dX5_staysAtDawn_60 : decode cX5_staysAtDawn 60 = .ok (.getfield 28, 3) := by decide +kernel
theorem dX5_staysAtDawn_63 : decode cX5_staysAtDawn 63 = .ok (.getfield 145, 3) := by decide +kernel
theorem dX5_staysAtDawn_66 : decode cX5_staysAtDawn 66 = .ok (.iload_n 1, 1) := by decide +kernel
theorem dX5_staysAtDawn_67 : decode cX5_staysAtDawn 67 = .ok (.dup2, 1) := by decide +kernel
theorem dX5_staysAtDawn_68 : decode cX5_staysAtDawn 68 = .ok (.iaload, 1) := by decide +kernel
theorem dX5_staysAtDawn_69 : decode cX5_staysAtDawn 69 = .ok (.iconst 1, 1) := by decide +kernel
theorem dX5_staysAtDawn_70 : decode cX5_staysAtDawn 70 = .ok (.iadd, 1) := by decide +kernel
theorem dX5_staysAtDawn_71 : decode cX5_staysAtDawn 71 = .ok (.iastore, 1) := by decide +kernel
theorem dX5_staysAtDawn_72 : decode cX5_staysAtDawn 72 = .ok (.aload_n 0, 1) := by decide +kernel
theorem dX5_staysAtDawn_73 : decode cX5_staysAtDawn 73 = .ok (.getfield 28, 3) := by decide +kernel
theorem dX5_staysAtDawn_76 : decode cX5_staysAtDawn 76 = .ok (.getfield 145, 3) := by decide +kernel
theorem dX5_staysAtDawn_79 : decode cX5_staysAtDawn 79 = .ok (.iload_n 1, 1) := by decide +kernel
theorem dX5_staysAtDawn_80 : decode cX5_staysAtDawn 80 = .ok (.iaload, 1) := by decide +kernel
theorem dX5_staysAtDawn_81 : decode cX5_staysAtDawn 81 = .ok (.iconst 3, 1) := by decide +kernel
theorem dX5_staysAtDawn_82 : decode cX5_staysAtDawn 82 = .ok (.if_icmp .ge 5, 3) := by decide +kernel
theorem dX5_staysAtDawn_85 : decode cX5_staysAtDawn 85 = .ok (.iconst 1, 1) := by decide +kernel
theorem dX5_staysAtDawn_86 : decode cX5_staysAtDawn 86 = .ok (.ireturn, 1) := by decide +kernel
theorem dX5_staysAtDawn_87 : decode cX5_staysAtDawn 87 = .ok (.aload_n 0, 1) := by decide +kernel
theorem dX5_staysAtDawn_88 : decode cX5_staysAtDawn 88 = .ok (.getfield 21, 3) := by decide +kernel
theorem dX5_staysAtDawn_91 : decode cX5_staysAtDawn 91 = .ok (.getfield 184, 3) := by decide +kernel
theorem dX5_staysAtDawn_94 : decode cX5_staysAtDawn 94 = .ok (.iload_n 2, 1) := by decide +kernel
theorem dX5_staysAtDawn_95 : decode cX5_staysAtDawn 95 = .ok (.dup2, 1) := by decide +kernel
theorem dX5_staysAtDawn_96 : decode cX5_staysAtDawn 96 = .ok (.iaload, 1) := by decide +kernel
theorem dX5_staysAtDawn_97 : decode cX5_staysAtDawn 97 = .ok (.iconst 1, 1) := by decide +kernel
theorem dX5_staysAtDawn_98 : decode cX5_staysAtDawn 98 = .ok (.iadd, 1) := by decide +kernel
theorem dX5_staysAtDawn_99 : decode cX5_staysAtDawn 99 = .ok (.iastore, 1) := by decide +kernel
theorem dX5_staysAtDawn_100 : decode cX5_staysAtDawn 100 = .ok (.iconst 0, 1) := by decide +kernel
theorem dX5_staysAtDawn_101 : decode cX5_staysAtDawn 101 = .ok (.ireturn, 1) := by decide +kernel
theorem dX5_isGrantable_0 : decode cX5_isGrantable 0 = .ok (.aload_n 0, 1) := by decide +kernel
theorem dX5_isGrantable_1 : decode cX5_isGrantable 1 = .ok (.getfield 28, 3) := by decide +kernel
theorem dX5_isGrantable_4 : decode cX5_isGrantable 4 = .ok (.iload_n 1, 1) := by decide +kernel
theorem dX5_isGrantable_5 : decode cX5_isGrantable 5 = .ok (.invokevirtual 149, 3) := by decide +kernel
theorem dX5_isGrantable_8 : decode cX5_isGrantable 8 = .ok (.ifCond .ne 26, 3) := by decide +kernel
theorem dX5_isGrantable_11 : decode cX5_isGrantable 11 = .ok (.aload_n 0, 1) := by decide +kernel
theorem dX5_isGrantable_12 : decode cX5_isGrantable 12 = .ok (.getfield 12, 3) := by decide +kernel
theorem dX5_isGrantable_15 : decode cX5_isGrantable 15 = .ok (.aload_n 0, 1) := by decide +kernel
theorem dX5_isGrantable_16 : decode cX5_isGrantable 16 = .ok (.getfield 28, 3) := by decide +kernel
theorem dX5_isGrantable_19 : decode cX5_isGrantable 19 = .ok (.getfield 142, 3) := by decide +kernel
theorem dX5_isGrantable_22 : decode cX5_isGrantable 22 = .ok (.iload_n 1, 1) := by decide +kernel
theorem dX5_isGrantable_23 : decode cX5_isGrantable 23 = .ok (.iaload, 1) := by decide +kernel
theorem dX5_isGrantable_24 : decode cX5_isGrantable 24 = .ok (.invokevirtual 101, 3) := by decide +kernel
theorem dX5_isGrantable_27 : decode cX5_isGrantable 27 = .ok (.ifCond .eq 7, 3) := by decide +kernel
theorem dX5_isGrantable_30 : decode cX5_isGrantable 30 = .ok (.iconst 1, 1) := by decide +kernel
theorem dX5_isGrantable_31 : decode cX5_isGrantable 31 = .ok (.goto 4, 3) := by decide +kernel
theorem dX5_isGrantable_34 : decode cX5_isGrantable 34 = .ok (.iconst 0, 1) := by decide +kernel
theorem dX5_isGrantable_35 : decode cX5_isGrantable 35 = .ok (.ireturn, 1) := by decide +kernel
theorem dX5_countGrantable_0 : decode cX5_countGrantable 0 = .ok (.iconst 0, 1) := by decide +kernel
theorem dX5_countGrantable_1 : decode cX5_countGrantable 1 = .ok (.istore_n 1, 1) := by decide +kernel
theorem dX5_countGrantable_2 : decode cX5_countGrantable 2 = .ok (.iconst 0, 1) := by decide +kernel
theorem dX5_countGrantable_3 : decode cX5_countGrantable 3 = .ok (.istore_n 2, 1) := by decide +kernel
theorem dX5_countGrantable_4 : decode cX5_countGrantable 4 = .ok (.iload_n 2, 1) := by decide +kernel
theorem dX5_countGrantable_5 : decode cX5_countGrantable 5 = .ok (.aload_n 0, 1) := by decide +kernel
theorem dX5_countGrantable_6 : decode cX5_countGrantable 6 = .ok (.getfield 28, 3) := by decide +kernel
theorem dX5_countGrantable_9 : decode cX5_countGrantable 9 = .ok (.getfield 123, 3) := by decide +kernel
theorem dX5_countGrantable_12 : decode cX5_countGrantable 12 = .ok (.if_icmp .ge 20, 3) := by decide +kernel
theorem dX5_countGrantable_15 : decode cX5_countGrantable 15 = .ok (.aload_n 0, 1) := by decide +kernel
theorem dX5_countGrantable_16 : decode cX5_countGrantable 16 = .ok (.iload_n 2, 1) := by decide +kernel
theorem dX5_countGrantable_17 : decode cX5_countGrantable 17 = .ok (.invokevirtual 178, 3) := by decide +kernel
theorem dX5_countGrantable_20 : decode cX5_countGrantable 20 = .ok (.ifCond .eq 6, 3) := by decide +kernel
theorem dX5_countGrantable_23 : decode cX5_countGrantable 23 = .ok (.iinc 1 1, 3) := by decide +kernel
theorem dX5_countGrantable_26 : decode cX5_countGrantable 26 = .ok (.iinc 2 1, 3) := by decide +kernel
theorem dX5_countGrantable_29 : decode cX5_countGrantable 29 = .ok (.goto (-25), 3) := by decide +kernel
theorem dX5_countGrantable_32 : decode cX5_countGrantable 32 = .ok (.iload_n 1, 1) := by decide +kernel
theorem dX5_countGrantable_33 : decode cX5_countGrantable 33 = .ok (.ireturn, 1) := by decide +kernel
theorem dX5_countRedeemable_0 : decode cX5_countRedeemable 0 = .ok (.aload_n 0, 1) := by decide +kernel
theorem dX5_countRedeemable_1 : decode cX5_countRedeemable 1 = .ok (.getfield 21, 3) := by decide +kernel
theorem dX5_countRedeemable_4 : decode cX5_countRedeemable 4 = .ok (.getfield 120, 3) := by decide +kernel
theorem dX5_countRedeemable_7 : decode cX5_countRedeemable 7 = .ok (.iload_n 1, 1) := by decide +kernel
theorem dX5_countRedeemable_8 : decode cX5_countRedeemable 8 = .ok (.iaload, 1) := by decide +kernel
theorem dX5_countRedeemable_9 : decode cX5_countRedeemable 9 = .ok (.istore_n 2, 1) := by decide +kernel
theorem dX5_countRedeemable_10 : decode cX5_countRedeemable 10 = .ok (.aload_n 0, 1) := by decide +kernel
theorem dX5_countRedeemable_11 : decode cX5_countRedeemable 11 = .ok (.getfield 28, 3) := by decide +kernel
theorem dX5_countRedeemable_14 : decode cX5_countRedeemable 14 = .ok (.iload_n 1, 1) := by decide +kernel
theorem dX5_countRedeemable_15 : decode cX5_countRedeemable 15 = .ok (.invokevirtual 187, 3) := by decide +kernel
theorem dX5_countRedeemable_18 : decode cX5_countRedeemable 18 = .ok (.istore_n 3, 1) := by decide +kernel
theorem dX5_countRedeemable_19 : decode cX5_countRedeemable 19 = .ok (.iconst 0, 1) := by decide +kernel
theorem dX5_countRedeemable_20 : decode cX5_countRedeemable 20 = .ok (.istore 4, 2) := by decide +kernel
theorem dX5_countRedeemable_22 : decode cX5_countRedeemable 22 = .ok (.iload 4, 2) := by decide +kernel
theorem dX5_countRedeemable_24 : decode cX5_countRedeemable 24 = .ok (.bipush 8, 2) := by decide +kernel
theorem dX5_countRedeemable_26 : decode cX5_countRedeemable 26 = .ok (.if_icmp .ge 54, 3) := by decide +kernel
theorem dX5_countRedeemable_29 : decode cX5_countRedeemable 29 = .ok (.aload_n 0, 1) := by decide +kernel
theorem dX5_countRedeemable_30 : decode cX5_countRedeemable 30 = .ok (.iload_n 3, 1) := by decide +kernel
theorem dX5_countRedeemable_31 : decode cX5_countRedeemable 31 = .ok (.invokevirtual 190, 3) := by decide +kernel
theorem dX5_countRedeemable_34 : decode cX5_countRedeemable 34 = .ok (.istore 5, 2) := by decide +kernel
theorem dX5_countRedeemable_36 : decode cX5_countRedeemable 36 = .ok (.iload 5, 2) := by decide +kernel
theorem dX5_countRedeemable_38 : decode cX5_countRedeemable 38 = .ok (.bipush (-4), 2) := by decide +kernel
theorem dX5_countRedeemable_40 : decode cX5_countRedeemable 40 = .ok (.if_icmp .eq 13, 3) := by decide +kernel
theorem dX5_countRedeemable_43 : decode cX5_countRedeemable 43 = .ok (.aload_n 0, 1) := by decide +kernel
theorem dX5_countRedeemable_44 : decode cX5_countRedeemable 44 = .ok (.iload 5, 2) := by decide +kernel
theorem dX5_countRedeemable_46 : decode cX5_countRedeemable 46 = .ok (.invokevirtual 158, 3) := by decide +kernel
theorem dX5_countRedeemable_49 : decode cX5_countRedeemable 49 = .ok (.iload_n 2, 1) := by decide +kernel
theorem dX5_countRedeemable_50 : decode cX5_countRedeemable 50 = .ok (.if_icmp .le 6, 3) := by decide +kernel
theorem dX5_countRedeemable_53 : decode cX5_countRedeemable 53 = .ok (.iload 4, 2) := by decide +kernel
theorem dX5_countRedeemable_55 : decode cX5_countRedeemable 55 = .ok (.ireturn, 1) := by decide +kernel
theorem dX5_countRedeemable_56 : decode cX5_countRedeemable 56 = .ok (.iload_n 2, 1) := by decide +kernel
theorem dX5_countRedeemable_57 : decode cX5_countRedeemable 57 = .ok (.aload_n 0, 1) := by decide +kernel
theorem dX5_countRedeemable_58 : decode cX5_countRedeemable 58 = .ok (.iload 5, 2) := by decide +kernel
theorem dX5_countRedeemable_60 : decode cX5_countRedeemable 60 = .ok (.invokevirtual 158, 3) := by decide +kernel
theorem dX5_countRedeemable_63 : decode cX5_countRedeemable 63 = .ok (.isub, 1) := by decide +kernel
theorem dX5_countRedeemable_64 : decode cX5_countRedeemable 64 = .ok (.istore_n 2, 1) := by decide +kernel
theorem dX5_countRedeemable_65 : decode cX5_countRedeemable 65 = .ok (.iload_n 3, 1) := by decide +kernel
theorem dX5_countRedeemable_66 : decode cX5_countRedeemable 66 = .ok (.iconst 1, 1) := by decide +kernel
theorem dX5_countRedeemable_67 : decode cX5_countRedeemable 67 = .ok (.iload 5, 2) := by decide +kernel
theorem dX5_countRedeemable_69 : decode cX5_countRedeemable 69 = .ok (.ishl, 1) := by decide +kernel
theorem dX5_countRedeemable_70 : decode cX5_countRedeemable 70 = .ok (.iconst (-1), 1) := by decide +kernel
theorem dX5_countRedeemable_71 : decode cX5_countRedeemable 71 = .ok (.ixor, 1) := by decide +kernel
theorem dX5_countRedeemable_72 : decode cX5_countRedeemable 72 = .ok (.iand, 1) := by decide +kernel
theorem dX5_countRedeemable_73 : decode cX5_countRedeemable 73 = .ok (.istore_n 3, 1) := by decide +kernel
theorem dX5_countRedeemable_74 : decode cX5_countRedeemable 74 = .ok (.iinc 4 1, 3) := by decide +kernel
theorem dX5_countRedeemable_77 : decode cX5_countRedeemable 77 = .ok (.goto (-55), 3) := by decide +kernel
theorem dX5_countRedeemable_80 : decode cX5_countRedeemable 80 = .ok (.bipush 8, 2) := by decide +kernel
theorem dX5_countRedeemable_82 : decode cX5_countRedeemable 82 = .ok (.ireturn, 1) := by decide +kernel
theorem dX5_cheapestWish_0 : decode cX5_cheapestWish 0 = .ok (.bipush (-4), 2) := by decide +kernel
theorem dX5_cheapestWish_2 : decode cX5_cheapestWish 2 = .ok (.istore_n 2, 1) := by decide +kernel
theorem dX5_cheapestWish_3 : decode cX5_cheapestWish 3 = .ok (.iconst 0, 1) := by decide +kernel
theorem dX5_cheapestWish_4 : decode cX5_cheapestWish 4 = .ok (.istore_n 3, 1) := by decide +kernel
theorem dX5_cheapestWish_5 : decode cX5_cheapestWish 5 = .ok (.iload_n 3, 1) := by decide +kernel
theorem dX5_cheapestWish_6 : decode cX5_cheapestWish 6 = .ok (.aload_n 0, 1) := by decide +kernel
theorem dX5_cheapestWish_7 : decode cX5_cheapestWish 7 = .ok (.getfield 28, 3) := by decide +kernel
theorem dX5_cheapestWish_10 : decode cX5_cheapestWish 10 = .ok (.getfield 123, 3) := by decide +kernel
theorem dX5_cheapestWish_13 : decode cX5_cheapestWish 13 = .ok (.if_icmp .ge 38, 3) := by decide +kernel
theorem dX5_cheapestWish_16 : decode cX5_cheapestWish 16 = .ok (.iload_n 1, 1) := by decide +kernel
theorem dX5_cheapestWish_17 : decode cX5_cheapestWish 17 = .ok (.iconst 1, 1) := by decide +kernel
theorem dX5_cheapestWish_18 : decode cX5_cheapestWish 18 = .ok (.iload_n 3, 1) := by decide +kernel
theorem dX5_cheapestWish_19 : decode cX5_cheapestWish 19 = .ok (.ishl, 1) := by decide +kernel
theorem dX5_cheapestWish_20 : decode cX5_cheapestWish 20 = .ok (.iand, 1) := by decide +kernel
theorem dX5_cheapestWish_21 : decode cX5_cheapestWish 21 = .ok (.ifCond .eq 24, 3) := by decide +kernel
theorem dX5_cheapestWish_24 : decode cX5_cheapestWish 24 = .ok (.iload_n 2, 1) := by decide +kernel
theorem dX5_cheapestWish_25 : decode cX5_cheapestWish 25 = .ok (.bipush (-4), 2) := by decide +kernel
theorem dX5_cheapestWish_27 : decode cX5_cheapestWish 27 = .ok (.if_icmp .eq 16, 3) := by decide +kernel
theorem dX5_cheapestWish_30 : decode cX5_cheapestWish 30 = .ok (.aload_n 0, 1) := by decide +kernel
theorem dX5_cheapestWish_31 : decode cX5_cheapestWish 31 = .ok (.iload_n 3, 1) := by decide +kernel
theorem dX5_cheapestWish_32 : decode cX5_cheapestWish 32 = .ok (.invokevirtual 158, 3) := by decide +kernel
theorem dX5_cheapestWish_35 : decode cX5_cheapestWish 35 = .ok (.aload_n 0, 1) := by decide +kernel
theorem dX5_cheapestWish_36 : decode cX5_cheapestWish 36 = .ok (.iload_n 2, 1) := by decide +kernel
theorem dX5_cheapestWish_37 : decode cX5_cheapestWish 37 = .ok (.invokevirtual 158, 3) := by decide +kernel
theorem dX5_cheapestWish_40 : decode cX5_cheapestWish 40 = .ok (.if_icmp .ge 5, 3) := by decide +kernel
theorem dX5_cheapestWish_43 : decode cX5_cheapestWish 43 = .ok (.iload_n 3, 1) := by decide +kernel
theorem dX5_cheapestWish_44 : decode cX5_cheapestWish 44 = .ok (.istore_n 2, 1) := by decide +kernel
theorem dX5_cheapestWish_45 : decode cX5_cheapestWish 45 = .ok (.iinc 3 1, 3) := by decide +kernel
theorem dX5_cheapestWish_48 : decode cX5_cheapestWish 48 = .ok (.goto (-43), 3) := by decide +kernel
theorem dX5_cheapestWish_51 : decode cX5_cheapestWish 51 = .ok (.iload_n 2, 1) := by decide +kernel
theorem dX5_cheapestWish_52 : decode cX5_cheapestWish 52 = .ok (.ireturn, 1) := by decide +kernel
theorem dX5_countRedeemableByTrying_0 : decode cX5_countRedeemableByTrying 0 = .ok (.aload_n 0, 1) := by decide +kernel
theorem dX5_countRedeemableByTrying_1 : decode cX5_countRedeemableByTrying 1 = .ok (.getfield 28, 3) := by decide +kernel
theorem dX5_countRedeemableByTrying_4 : decode cX5_countRedeemableByTrying 4 = .ok (.iload_n 1, 1) := by decide +kernel
theorem dX5_countRedeemableByTrying_5 : decode cX5_countRedeemableByTrying 5 = .ok (.invokevirtual 187, 3) := by decide +kernel
theorem dX5_countRedeemableByTrying_8 : decode cX5_countRedeemableByTrying 8 = .ok (.istore_n 2, 1) := by decide +kernel
theorem dX5_countRedeemableByTrying_9 : decode cX5_countRedeemableByTrying 9 = .ok (.iconst 0, 1) := by decide +kernel
theorem dX5_countRedeemableByTrying_10 : decode cX5_countRedeemableByTrying 10 = .ok (.istore_n 3, 1) := by decide +kernel
theorem dX5_countRedeemableByTrying_11 : decode cX5_countRedeemableByTrying 11 = .ok (.iconst 0, 1) := by decide +kernel
theorem dX5_countRedeemableByTrying_12 : decode cX5_countRedeemableByTrying 12 = .ok (.istore 4, 2) := by decide +kernel
theorem dX5_countRedeemableByTrying_14 : decode cX5_countRedeemableByTrying 14 = .ok (.iload 4, 2) := by decide +kernel
theorem dX5_countRedeemableByTrying_16 : decode cX5_countRedeemableByTrying 16 = .ok (.iload_n 2, 1) := by decide +kernel
theorem dX5_countRedeemableByTrying_17 : decode cX5_countRedeemableByTrying 17 = .ok (.if_icmp .gt 46, 3) := by decide +kernel
theorem dX5_countRedeemableByTrying_20 : decode cX5_countRedeemableByTrying 20 = .ok (.iload 4, 2) := by decide +kernel
theorem dX5_countRedeemableByTrying_22 : decode cX5_countRedeemableByTrying 22 = .ok (.iload_n 2, 1) := by decide +kernel
theorem dX5_countRedeemableByTrying_23 : decode cX5_countRedeemableByTrying 23 = .ok (.iconst (-1), 1) := by decide +kernel
theorem dX5_countRedeemableByTrying_24 : decode cX5_countRedeemableByTrying 24 = .ok (.ixor, 1) := by decide +kernel
theorem dX5_countRedeemableByTrying_25 : decode cX5_countRedeemableByTrying 25 = .ok (.iand, 1) := by decide +kernel
theorem dX5_countRedeemableByTrying_26 : decode cX5_countRedeemableByTrying 26 = .ok (.ifCond .ne 31, 3) := by decide +kernel
theorem dX5_countRedeemableByTrying_29 : decode cX5_countRedeemableByTrying 29 = .ok (.aload_n 0, 1) := by decide +kernel
theorem dX5_countRedeemableByTrying_30 : decode cX5_countRedeemableByTrying 30 = .ok (.iload 4, 2) := by decide +kernel
theorem dX5_countRedeemableByTrying_32 : decode cX5_countRedeemableByTrying 32 = .ok (.invokevirtual 193, 3) := by decide +kernel
theorem dX5_countRedeemableByTrying_35 : decode cX5_countRedeemableByTrying 35 = .ok (.aload_n 0, 1) := by decide +kernel
theorem dX5_countRedeemableByTrying_36 : decode cX5_countRedeemableByTrying 36 = .ok (.getfield 21, 3) := by decide +kernel
theorem dX5_countRedeemableByTrying_39 : decode cX5_countRedeemableByTrying 39 = .ok (.getfield 120, 3) := by decide +kernel
theorem dX5_countRedeemableByTrying_42 : decode cX5_countRedeemableByTrying 42 = .ok (.iload_n 1, 1) := by decide +kernel
theorem dX5_countRedeemableByTrying_43 : decode cX5_countRedeemableByTrying 43 = .ok (.iaload, 1) := by decide +kernel
theorem dX5_countRedeemableByTrying_44 : decode cX5_countRedeemableByTrying 44 = .ok (.if_icmp .gt 13, 3) := by decide +kernel
theorem dX5_countRedeemableByTrying_47 : decode cX5_countRedeemableByTrying 47 = .ok (.iload_n 3, 1) := by decide +kernel
theorem dX5_countRedeemableByTrying_48 : decode cX5_countRedeemableByTrying 48 = .ok (.iload 4, 2) := by decide +kernel
theorem dX5_countRedeemableByTrying_50 : decode cX5_countRedeemableByTrying 50 = .ok (.invokestatic 93, 3) := by decide +kernel
theorem dX5_countRedeemableByTrying_53 : decode cX5_countRedeemableByTrying 53 = .ok (.invokestatic 196, 3) := by decide +kernel
theorem dX5_countRedeemableByTrying_56 : decode cX5_countRedeemableByTrying 56 = .ok (.istore_n 3, 1) := by decide +kernel
theorem dX5_countRedeemableByTrying_57 : decode cX5_countRedeemableByTrying 57 = .ok (.iinc 4 1, 3) := by decide +kernel
theorem dX5_countRedeemableByTrying_60 : decode cX5_countRedeemableByTrying 60 = .ok (.goto (-46), 3) := by decide +kernel
theorem dX5_countRedeemableByTrying_63 : decode cX5_countRedeemableByTrying 63 = .ok (.iload_n 3, 1) := by decide +kernel
theorem dX5_countRedeemableByTrying_64 : decode cX5_countRedeemableByTrying 64 = .ok (.ireturn, 1) := by decide +kernel
theorem dX5_costOfSet_0 : decode cX5_costOfSet 0 = .ok (.iconst 0, 1) := by decide +kernel
theorem dX5_costOfSet_1 : decode cX5_costOfSet 1 = .ok (.istore_n 2, 1) := by decide +kernel
theorem dX5_costOfSet_2 : decode cX5_costOfSet 2 = .ok (.iconst 0, 1) := by decide +kernel
theorem dX5_costOfSet_3 : decode cX5_costOfSet 3 = .ok (.istore_n 3, 1) := by decide +kernel
theorem dX5_costOfSet_4 : decode cX5_costOfSet 4 = .ok (.iload_n 3, 1) := by decide +kernel
theorem dX5_costOfSet_5 : decode cX5_costOfSet 5 = .ok (.aload_n 0, 1) := by decide +kernel
theorem dX5_costOfSet_6 : decode cX5_costOfSet 6 = .ok (.getfield 28, 3) := by decide +kernel
theorem dX5_costOfSet_9 : decode cX5_costOfSet 9 = .ok (.getfield 123, 3) := by decide +kernel
theorem dX5_costOfSet_12 : decode cX5_costOfSet 12 = .ok (.if_icmp .ge 25, 3) := by decide +kernel
theorem dX5_costOfSet_15 : decode cX5_costOfSet 15 = .ok (.iload_n 1, 1) := by decide +kernel
theorem dX5_costOfSet_16 : decode cX5_costOfSet 16 = .ok (.iconst 1, 1) := by decide +kernel
theorem dX5_costOfSet_17 : decode cX5_costOfSet 17 = .ok (.iload_n 3, 1) := by decide +kernel
theorem dX5_costOfSet_18 : decode cX5_costOfSet 18 = .ok (.ishl, 1) := by decide +kernel
theorem dX5_costOfSet_19 : decode cX5_costOfSet 19 = .ok (.iand, 1) := by decide +kernel
theorem dX5_costOfSet_20 : decode cX5_costOfSet 20 = .ok (.ifCond .eq 11, 3) := by decide +kernel
theorem dX5_costOfSet_23 : decode cX5_costOfSet 23 = .ok (.iload_n 2, 1) := by decide +kernel
theorem dX5_costOfSet_24 : decode cX5_costOfSet 24 = .ok (.aload_n 0, 1) := by decide +kernel
theorem dX5_costOfSet_25 : decode cX5_costOfSet 25 = .ok (.iload_n 3, 1) := by decide +kernel
theorem dX5_costOfSet_26 : decode cX5_costOfSet 26 = .ok (.invokevirtual 158, 3) := by decide +kernel
theorem dX5_costOfSet_29 : decode cX5_costOfSet 29 = .ok (.iadd, 1) := by decide +kernel
theorem dX5_costOfSet_30 : decode cX5_costOfSet 30 = .ok (.istore_n 2, 1) := by decide +kernel
theorem dX5_costOfSet_31 : decode cX5_costOfSet 31 = .ok (.iinc 3 1, 3) := by decide +kernel
theorem dX5_costOfSet_34 : decode cX5_costOfSet 34 = .ok (.goto (-30), 3) := by decide +kernel
theorem dX5_costOfSet_37 : decode cX5_costOfSet 37 = .ok (.iload_n 2, 1) := by decide +kernel
theorem dX5_costOfSet_38 : decode cX5_costOfSet 38 = .ok (.ireturn, 1) := by decide +kernel
theorem dX5_cheapestStar_0 : decode cX5_cheapestStar 0 = .ok (.bipush (-4), 2) := by decide +kernel
theorem dX5_cheapestStar_2 : decode cX5_cheapestStar 2 = .ok (.istore_n 2, 1) := by decide +kernel
theorem dX5_cheapestStar_3 : decode cX5_cheapestStar 3 = .ok (.iconst 0, 1) := by decide +kernel
theorem dX5_cheapestStar_4 : decode cX5_cheapestStar 4 = .ok (.istore_n 3, 1) := by decide +kernel
theorem dX5_cheapestStar_5 : decode cX5_cheapestStar 5 = .ok (.iload_n 3, 1) := by decide +kernel
theorem dX5_cheapestStar_6 : decode cX5_cheapestStar 6 = .ok (.aload_n 0, 1) := by decide +kernel
theorem dX5_cheapestStar_7 : decode cX5_cheapestStar 7 = .ok (.getfield 12, 3) := by decide +kernel
theorem dX5_cheapestStar_10 : decode cX5_cheapestStar 10 = .ok (.getfield 66, 3) := by decide +kernel
theorem dX5_cheapestStar_13 : decode cX5_cheapestStar 13 = .ok (.if_icmp .ge 66, 3) := by decide +kernel
theorem dX5_cheapestStar_16 : decode cX5_cheapestStar 16 = .ok (.aload_n 0, 1) := by decide +kernel
theorem dX5_cheapestStar_17 : decode cX5_cheapestStar 17 = .ok (.getfield 12, 3) := by decide +kernel
theorem dX5_cheapestStar_20 : decode cX5_cheapestStar 20 = .ok (.iload_n 3, 1) := by decide +kernel
theorem dX5_cheapestStar_21 : decode cX5_cheapestStar 21 = .ok (.invokevirtual 101, 3) := by decide +kernel
theorem dX5_cheapestStar_24 : decode cX5_cheapestStar 24 = .ok (.ifCond .eq 23, 3) := by decide +kernel
theorem dX5_cheapestStar_27 : decode cX5_cheapestStar 27 = .ok (.aload_n 0, 1) := by decide +kernel
theorem dX5_cheapestStar_28 : decode cX5_cheapestStar 28 = .ok (.getfield 21, 3) := by decide +kernel
theorem dX5_cheapestStar_31 : decode cX5_cheapestStar 31 = .ok (.getfield 90, 3) := by decide +kernel
theorem dX5_cheapestStar_34 : decode cX5_cheapestStar 34 = .ok (.iload_n 1, 1) := by decide +kernel
theorem dX5_cheapestStar_35 : decode cX5_cheapestStar 35 = .ok (.iaload, 1) := by decide +kernel
theorem dX5_cheapestStar_36 : decode cX5_cheapestStar 36 = .ok (.iconst 1, 1) := by decide +kernel
theorem dX5_cheapestStar_37 : decode cX5_cheapestStar 37 = .ok (.iload_n 3, 1) := by decide +kernel
theorem dX5_cheapestStar_38 : decode cX5_cheapestStar 38 = .ok (.ishl, 1) := by decide +kernel
theorem dX5_cheapestStar_39 : decode cX5_cheapestStar 39 = .ok (.iand, 1) := by decide +kernel
theorem dX5_cheapestStar_40 : decode cX5_cheapestStar 40 = .ok (.ifCond .ne 7, 3) := by decide +kernel
theorem dX5_cheapestStar_43 : decode cX5_cheapestStar 43 = .ok (.iconst 1, 1) := by decide +kernel
theorem dX5_cheapestStar_44 : decode cX5_cheapestStar 44 = .ok (.goto 4, 3) := by decide +kernel
theorem dX5_cheapestStar_47 : decode cX5_cheapestStar 47 = .ok (.iconst 0, 1) := by decide +kernel
theorem dX5_cheapestStar_48 : decode cX5_cheapestStar 48 = .ok (.istore 4, 2) := by decide +kernel
theorem dX5_cheapestStar_50 : decode cX5_cheapestStar 50 = .ok (.iload 4, 2) := by decide +kernel
theorem dX5_cheapestStar_52 : decode cX5_cheapestStar 52 = .ok (.ifCond .eq 21, 3) := by decide +kernel
theorem dX5_cheapestStar_55 : decode cX5_cheapestStar 55 = .ok (.iload_n 2, 1) := by decide +kernel
theorem dX5_cheapestStar_56 : decode cX5_cheapestStar 56 = .ok (.bipush (-4), 2) := by decide +kernel
theorem dX5_cheapestStar_58 : decode cX5_cheapestStar 58 = .ok (.if_icmp .eq 13, 3) := by decide +kernel
theorem dX5_cheapestStar_61 : decode cX5_cheapestStar 61 = .ok (.aload_n 0, 1) := by decide +kernel
theorem dX5_cheapestStar_62 : decode cX5_cheapestStar 62 = .ok (.iload_n 1, 1) := by decide +kernel
theorem dX5_cheapestStar_63 : decode cX5_cheapestStar 63 = .ok (.iload_n 3, 1) := by decide +kernel
theorem dX5_cheapestStar_64 : decode cX5_cheapestStar 64 = .ok (.iload_n 2, 1) := by decide +kernel
theorem dX5_cheapestStar_65 : decode cX5_cheapestStar 65 = .ok (.invokevirtual 201, 3) := by decide +kernel
theorem dX5_cheapestStar_68 : decode cX5_cheapestStar 68 = .ok (.ifCond .eq 5, 3) := by decide +kernel
theorem dX5_cheapestStar_71 : decode cX5_cheapestStar 71 = .ok (.iload_n 3, 1) := by decide +kernel
theorem dX5_cheapestStar_72 : decode cX5_cheapestStar 72 = .ok (.istore_n 2, 1) := by decide +kernel
theorem dX5_cheapestStar_73 : decode cX5_cheapestStar 73 = .ok (.iinc 3 1, 3) := by decide +kernel
theorem dX5_cheapestStar_76 : decode cX5_cheapestStar 76 = .ok (.goto (-71), 3) := by decide +kernel
theorem dX5_cheapestStar_79 : decode cX5_cheapestStar 79 = .ok (.iload_n 2, 1) := by decide +kernel
theorem dX5_cheapestStar_80 : decode cX5_cheapestStar 80 = .ok (.ireturn, 1) := by decide +kernel
theorem dX5_isCheaper_0 : decode cX5_isCheaper 0 = .ok (.aload_n 0, 1) := by decide +kernel
theorem dX5_isCheaper_1 : decode cX5_isCheaper 1 = .ok (.iload_n 1, 1) := by decide +kernel
theorem dX5_isCheaper_2 : decode cX5_isCheaper 2 = .ok (.iload_n 2, 1) := by decide +kernel
theorem dX5_isCheaper_3 : decode cX5_isCheaper 3 = .ok (.invokevirtual 107, 3) := by decide +kernel
theorem dX5_isCheaper_6 : decode cX5_isCheaper 6 = .ok (.istore 4, 2) := by decide +kernel
theorem dX5_isCheaper_8 : decode cX5_isCheaper 8 = .ok (.aload_n 0, 1) := by decide +kernel
theorem dX5_isCheaper_9 : decode cX5_isCheaper 9 = .ok (.iload_n 1, 1) := by decide +kernel
theorem dX5_isCheaper_10 : decode cX5_isCheaper 10 = .ok (.iload_n 3, 1) := by decide +kernel
theorem dX5_isCheaper_11 : decode cX5_isCheaper 11 = .ok (.invokevirtual 107, 3) := by decide +kernel
theorem dX5_isCheaper_14 : decode cX5_isCheaper 14 = .ok (.istore 5, 2) := by decide +kernel
theorem dX5_isCheaper_16 : decode cX5_isCheaper 16 = .ok (.iload 4, 2) := by decide +kernel
theorem dX5_isCheaper_18 : decode cX5_isCheaper 18 = .ok (.iload 5, 2) := by decide +kernel
theorem dX5_isCheaper_20 : decode cX5_isCheaper 20 = .ok (.if_icmp .eq 16, 3) := by decide +kernel
theorem dX5_isCheaper_23 : decode cX5_isCheaper 23 = .ok (.iload 4, 2) := by decide +kernel
theorem dX5_isCheaper_25 : decode cX5_isCheaper 25 = .ok (.iload 5, 2) := by decide +kernel
theorem dX5_isCheaper_27 : decode cX5_isCheaper 27 = .ok (.if_icmp .ge 7, 3) := by decide +kernel
theorem dX5_isCheaper_30 : decode cX5_isCheaper 30 = .ok (.iconst 1, 1) := by decide +kernel
theorem dX5_isCheaper_31 : decode cX5_isCheaper 31 = .ok (.goto 4, 3) := by decide +kernel
theorem dX5_isCheaper_34 : decode cX5_isCheaper 34 = .ok (.iconst 0, 1) := by decide +kernel
theorem dX5_isCheaper_35 : decode cX5_isCheaper 35 = .ok (.ireturn, 1) := by decide +kernel
theorem dX5_isCheaper_36 : decode cX5_isCheaper 36 = .ok (.aload_n 0, 1) := by decide +kernel
theorem dX5_isCheaper_37 : decode cX5_isCheaper 37 = .ok (.getfield 12, 3) := by decide +kernel
theorem dX5_isCheaper_40 : decode cX5_isCheaper 40 = .ok (.getfield 117, 3) := by decide +kernel
theorem dX5_isCheaper_43 : decode cX5_isCheaper 43 = .ok (.iload_n 2, 1) := by decide +kernel
theorem dX5_isCheaper_44 : decode cX5_isCheaper 44 = .ok (.iaload, 1) := by decide +kernel
theorem dX5_isCheaper_45 : decode cX5_isCheaper 45 = .ok (.aload_n 0, 1) := by decide +kernel
theorem dX5_isCheaper_46 : decode cX5_isCheaper 46 = .ok (.getfield 12, 3) := by decide +kernel
theorem dX5_isCheaper_49 : decode cX5_isCheaper 49 = .ok (.getfield 117, 3) := by decide +kernel
theorem dX5_isCheaper_52 : decode cX5_isCheaper 52 = .ok (.iload_n 3, 1) := by decide +kernel
theorem dX5_isCheaper_53 : decode cX5_isCheaper 53 = .ok (.iaload, 1) := by decide +kernel
theorem dX5_isCheaper_54 : decode cX5_isCheaper 54 = .ok (.if_icmp .le 7, 3) := by decide +kernel
theorem dX5_isCheaper_57 : decode cX5_isCheaper 57 = .ok (.iconst 1, 1) := by decide +kernel
theorem dX5_isCheaper_58 : decode cX5_isCheaper 58 = .ok (.goto 4, 3) := by decide +kernel
theorem dX5_isCheaper_61 : decode cX5_isCheaper 61 = .ok (.iconst 0, 1) := by decide +kernel
theorem dX5_isCheaper_62 : decode cX5_isCheaper 62 = .ok (.ireturn, 1) := by decide +kernel
theorem dX5_roofAtPlace_0 : decode cX5_roofAtPlace 0 = .ok (.iconst 0, 1) := by decide +kernel
theorem dX5_roofAtPlace_1 : decode cX5_roofAtPlace 1 = .ok (.istore_n 2, 1) := by decide +kernel
theorem dX5_roofAtPlace_2 : decode cX5_roofAtPlace 2 = .ok (.iload_n 2, 1) := by decide +kernel
theorem dX5_roofAtPlace_3 : decode cX5_roofAtPlace 3 = .ok (.aload_n 0, 1) := by decide +kernel
theorem dX5_roofAtPlace_4 : decode cX5_roofAtPlace 4 = .ok (.getfield 21, 3) := by decide +kernel
theorem dX5_roofAtPlace_7 : decode cX5_roofAtPlace 7 = .ok (.getfield 78, 3) := by decide +kernel
theorem dX5_roofAtPlace_10 : decode cX5_roofAtPlace 10 = .ok (.if_icmp .ge 52, 3) := by decide +kernel
theorem dX5_roofAtPlace_13 : decode cX5_roofAtPlace 13 = .ok (.iconst 0, 1) := by decide +kernel
theorem dX5_roofAtPlace_14 : decode cX5_roofAtPlace 14 = .ok (.istore_n 3, 1) := by decide +kernel
theorem dX5_roofAtPlace_15 : decode cX5_roofAtPlace 15 = .ok (.iconst 0, 1) := by decide +kernel
theorem dX5_roofAtPlace_16 : decode cX5_roofAtPlace 16 = .ok (.istore 4, 2) := by decide +kernel
theorem dX5_roofAtPlace_18 : decode cX5_roofAtPlace 18 = .ok (.iload 4, 2) := by decide +kernel
theorem dX5_roofAtPlace_20 : decode cX5_roofAtPlace 20 = .ok (.aload_n 0, 1) := by decide +kernel
theorem dX5_roofAtPlace_21 : decode cX5_roofAtPlace 21 = .ok (.getfield 21, 3) := by decide +kernel
theorem dX5_roofAtPlace_24 : decode cX5_roofAtPlace 24 = .ok (.getfield 78, 3) := by decide +kernel
theorem dX5_roofAtPlace_27 : decode cX5_roofAtPlace 27 = .ok (.if_icmp .ge 22, 3) := by decide +kernel
theorem dX5_roofAtPlace_30 : decode cX5_roofAtPlace 30 = .ok (.aload_n 0, 1) := by decide +kernel
theorem dX5_roofAtPlace_31 : decode cX5_roofAtPlace 31 = .ok (.iload 4, 2) := by decide +kernel
theorem dX5_roofAtPlace_33 : decode cX5_roofAtPlace 33 = .ok (.iload_n 2, 1) := by decide +kernel
theorem dX5_roofAtPlace_34 : decode cX5_roofAtPlace 34 = .ok (.invokevirtual 204, 3) := by decide +kernel
theorem dX5_roofAtPlace_37 : decode cX5_roofAtPlace 37 = .ok (.ifCond .eq 6, 3) := by decide +kernel
theorem dX5_roofAtPlace_40 : decode cX5_roofAtPlace 40 = .ok (.iinc 3 1, 3) := by decide +kernel
theorem dX5_roofAtPlace_43 : decode cX5_roofAtPlace 43 = .ok (.iinc 4 1, 3) := by decide +kernel
theorem dX5_roofAtPlace_46 : decode cX5_roofAtPlace 46 = .ok (.goto (-28), 3) := by decide +kernel
theorem dX5_roofAtPlace_49 : decode cX5_roofAtPlace 49 = .ok (.iload_n 3, 1) := by decide +kernel
theorem dX5_roofAtPlace_50 : decode cX5_roofAtPlace 50 = .ok (.iload_n 1, 1) := by decide +kernel
theorem dX5_roofAtPlace_51 : decode cX5_roofAtPlace 51 = .ok (.if_icmp .ne 5, 3) := by decide +kernel
theorem dX5_roofAtPlace_54 : decode cX5_roofAtPlace 54 = .ok (.iload_n 2, 1) := by decide +kernel
theorem dX5_roofAtPlace_55 : decode cX5_roofAtPlace 55 = .ok (.ireturn, 1) := by decide +kernel
theorem dX5_roofAtPlace_56 : decode cX5_roofAtPlace 56 = .ok (.iinc 2 1, 3) := by decide +kernel
theorem dX5_roofAtPlace_59 : decode cX5_roofAtPlace 59 = .ok (.goto (-57), 3) := by decide +kernel
theorem dX5_roofAtPlace_62 : decode cX5_roofAtPlace 62 = .ok (.iconst (-1), 1) := by decide +kernel
theorem dX5_roofAtPlace_63 : decode cX5_roofAtPlace 63 = .ok (.ireturn, 1) := by decide +kernel
theorem dX5_isRicher_0 : decode cX5_isRicher 0 = .ok (.aload_n 0, 1) := by decide +kernel
theorem dX5_isRicher_1 : decode cX5_isRicher 1 = .ok (.getfield 21, 3) := by decide +kernel
theorem dX5_isRicher_4 : decode cX5_isRicher 4 = .ok (.getfield 120, 3) := by decide +kernel
theorem dX5_isRicher_7 : decode cX5_isRicher 7 = .ok (.iload_n 1, 1) := by decide +kernel
theorem dX5_isRicher_8 : decode cX5_isRicher 8 = .ok (.iaload, 1) := by decide +kernel
theorem dX5_isRicher_9 : decode cX5_isRicher 9 = .ok (.aload_n 0, 1) := by decide +kernel
theorem dX5_isRicher_10 : decode cX5_isRicher 10 = .ok (.getfield 21, 3) := by decide +kernel
theorem dX5_isRicher_13 : decode cX5_isRicher 13 = .ok (.getfield 127, 3) := by decide +kernel
theorem dX5_isRicher_16 : decode cX5_isRicher 16 = .ok (.iload_n 1, 1) := by decide +kernel
theorem dX5_isRicher_17 : decode cX5_isRicher 17 = .ok (.iaload, 1) := by decide +kernel
theorem dX5_isRicher_18 : decode cX5_isRicher 18 = .ok (.isub, 1) := by decide +kernel
theorem dX5_isRicher_19 : decode cX5_isRicher 19 = .ok (.istore_n 3, 1) := by decide +kernel
theorem dX5_isRicher_20 : decode cX5_isRicher 20 = .ok (.aload_n 0, 1) := by decide +kernel
theorem dX5_isRicher_21 : decode cX5_isRicher 21 = .ok (.getfield 21, 3) := by decide +kernel
theorem dX5_isRicher_24 : decode cX5_isRicher 24 = .ok (.getfield 120, 3) := by decide +kernel
theorem dX5_isRicher_27 : decode cX5_isRicher 27 = .ok (.iload_n 2, 1) := by decide +kernel
theorem dX5_isRicher_28 : decode cX5_isRicher 28 = .ok (.iaload, 1) := by decide +kernel
theorem dX5_isRicher_29 : decode cX5_isRicher 29 = .ok (.aload_n 0, 1) := by decide +kernel
theorem dX5_isRicher_30 : decode cX5_isRicher 30 = .ok (.getfield 21, 3) := by decide +kernel
theorem dX5_isRicher_33 : decode cX5_isRicher 33 = .ok (.getfield 127, 3) := by decide +kernel
theorem dX5_isRicher_36 : decode cX5_isRicher 36 = .ok (.iload_n 2, 1) := by decide +kernel
theorem dX5_isRicher_37 : decode cX5_isRicher 37 = .ok (.iaload, 1) := by decide +kernel
theorem dX5_isRicher_38 : decode cX5_isRicher 38 = .ok (.isub, 1) := by decide +kernel
theorem dX5_isRicher_39 : decode cX5_isRicher 39 = .ok (.istore 4, 2) := by decide +kernel
theorem dX5_isRicher_41 : decode cX5_isRicher 41 = .ok (.iload_n 3, 1) := by decide +kernel
theorem dX5_isRicher_42 : decode cX5_isRicher 42 = .ok (.iload 4, 2) := by decide +kernel
theorem dX5_isRicher_44 : decode cX5_isRicher 44 = .ok (.if_icmp .eq 15, 3) := by decide +kernel
theorem dX5_isRicher_47 : decode cX5_isRicher 47 = .ok (.iload_n 3, 1) := by decide +kernel
theorem dX5_isRicher_48 : decode cX5_isRicher 48 = .ok (.iload 4, 2) := by decide +kernel
theorem dX5_isRicher_50 : decode cX5_isRicher 50 = .ok (.if_icmp .le 7, 3) := by decide +kernel
theorem dX5_isRicher_53 : decode cX5_isRicher 53 = .ok (.iconst 1, 1) := by decide +kernel
theorem dX5_isRicher_54 : decode cX5_isRicher 54 = .ok (.goto 4, 3) := by decide +kernel
theorem dX5_isRicher_57 : decode cX5_isRicher 57 = .ok (.iconst 0, 1) := by decide +kernel
theorem dX5_isRicher_58 : decode cX5_isRicher 58 = .ok (.ireturn, 1) := by decide +kernel
theorem dX5_isRicher_59 : decode cX5_isRicher 59 = .ok (.aload_n 0, 1) := by decide +kernel
theorem dX5_isRicher_60 : decode cX5_isRicher 60 = .ok (.getfield 28, 3) := by decide +kernel
theorem dX5_isRicher_63 : decode cX5_isRicher 63 = .ok (.iload_n 1, 1) := by decide +kernel
theorem dX5_isRicher_64 : decode cX5_isRicher 64 = .ok (.invokevirtual 139, 3) := by decide +kernel
theorem dX5_isRicher_67 : decode cX5_isRicher 67 = .ok (.istore 5, 2) := by decide +kernel
theorem dX5_isRicher_69 : decode cX5_isRicher 69 = .ok (.aload_n 0, 1) := by decide +kernel
theorem dX5_isRicher_70 : decode cX5_isRicher 70 = .ok (.getfield 28, 3) := by decide +kernel
theorem dX5_isRicher_73 : decode cX5_isRicher 73 = .ok (.iload_n 2, 1) := by decide +kernel
theorem dX5_isRicher_74 : decode cX5_isRicher 74 = .ok (.invokevirtual 139, 3) := by decide +kernel
theorem dX5_isRicher_77 : decode cX5_isRicher 77 = .ok (.istore 6, 2) := by decide +kernel
theorem dX5_isRicher_79 : decode cX5_isRicher 79 = .ok (.iload 5, 2) := by decide +kernel
theorem dX5_isRicher_81 : decode cX5_isRicher 81 = .ok (.iload 6, 2) := by decide +kernel
theorem dX5_isRicher_83 : decode cX5_isRicher 83 = .ok (.if_icmp .eq 16, 3) := by decide +kernel
theorem dX5_isRicher_86 : decode cX5_isRicher 86 = .ok (.iload 5, 2) := by decide +kernel
theorem dX5_isRicher_88 : decode cX5_isRicher 88 = .ok (.iload 6, 2) := by decide +kernel
theorem dX5_isRicher_90 : decode cX5_isRicher 90 = .ok (.if_icmp .ge 7, 3) := by decide +kernel
theorem dX5_isRicher_93 : decode cX5_isRicher 93 = .ok (.iconst 1, 1) := by decide +kernel
theorem dX5_isRicher_94 : decode cX5_isRicher 94 = .ok (.goto 4, 3) := by decide +kernel
theorem dX5_isRicher_97 : decode cX5_isRicher 97 = .ok (.iconst 0, 1) := by decide +kernel
theorem dX5_isRicher_98 : decode cX5_isRicher 98 = .ok (.ireturn, 1) := by decide +kernel
theorem dX5_isRicher_99 : decode cX5_isRicher 99 = .ok (.iload_n 1, 1) := by decide +kernel
theorem dX5_isRicher_100 : decode cX5_isRicher 100 = .ok (.iload_n 2, 1) := by decide +kernel
theorem dX5_isRicher_101 : decode cX5_isRicher 101 = .ok (.if_icmp .ge 7, 3) := by decide +kernel
theorem dX5_isRicher_104 : decode cX5_isRicher 104 = .ok (.iconst 1, 1) := by decide +kernel
theorem dX5_isRicher_105 : decode cX5_isRicher 105 = .ok (.goto 4, 3) := by decide +kernel
theorem dX5_isRicher_108 : decode cX5_isRicher 108 = .ok (.iconst 0, 1) := by decide +kernel
theorem dX5_isRicher_109 : decode cX5_isRicher 109 = .ok (.ireturn, 1) := by decide +kernel
theorem dX6_init_0 : decode cX6_init 0 = .ok (.aload_n 0, 1) := by decide +kernel
theorem dX6_init_1 : decode cX6_init 1 = .ok (.invokespecial 3, 3) := by decide +kernel
theorem dX6_init_4 : decode cX6_init 4 = .ok (.aload_n 0, 1) := by decide +kernel
theorem dX6_init_5 : decode cX6_init 5 = .ok (.bipush 8, 2) := by decide +kernel
theorem dX6_init_7 : decode cX6_init 7 = .ok (.newarray .int, 2) := by decide +kernel
theorem dX6_init_9 : decode cX6_init 9 = .ok (.putfield 9, 3) := by decide +kernel
theorem dX6_init_12 : decode cX6_init 12 = .ok (.aload_n 0, 1) := by decide +kernel
theorem dX6_init_13 : decode cX6_init 13 = .ok (.bipush 8, 2) := by decide +kernel
theorem dX6_init_15 : decode cX6_init 15 = .ok (.newarray .int, 2) := by decide +kernel
theorem dX6_init_17 : decode cX6_init 17 = .ok (.putfield 15, 3) := by decide +kernel
theorem dX6_init_20 : decode cX6_init 20 = .ok (.aload_n 0, 1) := by decide +kernel
theorem dX6_init_21 : decode cX6_init 21 = .ok (.bipush 8, 2) := by decide +kernel
theorem dX6_init_23 : decode cX6_init 23 = .ok (.newarray .int, 2) := by decide +kernel
theorem dX6_init_25 : decode cX6_init 25 = .ok (.putfield 18, 3) := by decide +kernel
theorem dX6_init_28 : decode cX6_init 28 = .ok (.aload_n 0, 1) := by decide +kernel
theorem dX6_init_29 : decode cX6_init 29 = .ok (.bipush 8, 2) := by decide +kernel
theorem dX6_init_31 : decode cX6_init 31 = .ok (.newarray .int, 2) := by decide +kernel
theorem dX6_init_33 : decode cX6_init 33 = .ok (.putfield 21, 3) := by decide +kernel
theorem dX6_init_36 : decode cX6_init 36 = .ok (.aload_n 0, 1) := by decide +kernel
theorem dX6_init_37 : decode cX6_init 37 = .ok (.iconst 4, 1) := by decide +kernel
theorem dX6_init_38 : decode cX6_init 38 = .ok (.newarray .int, 2) := by decide +kernel
theorem dX6_init_40 : decode cX6_init 40 = .ok (.putfield 24, 3) := by decide +kernel
theorem dX6_init_43 : decode cX6_init 43 = .ok (.return_, 1) := by decide +kernel
theorem dX6_copyFrom_0 : decode cX6_copyFrom 0 = .ok (.aload_n 0, 1) := by decide +kernel
theorem dX6_copyFrom_1 : decode cX6_copyFrom 1 = .ok (.aload_n 1, 1) := by decide +kernel
theorem dX6_copyFrom_2 : decode cX6_copyFrom 2 = .ok (.getfield 27, 3) := by decide +kernel
theorem dX6_copyFrom_5 : decode cX6_copyFrom 5 = .ok (.putfield 27, 3) := by decide +kernel
theorem dX6_copyFrom_8 : decode cX6_copyFrom 8 = .ok (.aload_n 1, 1) := by decide +kernel
theorem dX6_copyFrom_9 : decode cX6_copyFrom 9 = .ok (.getfield 9, 3) := by decide +kernel
theorem dX6_copyFrom_12 : decode cX6_copyFrom 12 = .ok (.aload_n 0, 1) := by decide +kernel
theorem dX6_copyFrom_13 : decode cX6_copyFrom 13 = .ok (.getfield 9, 3) := by decide +kernel
theorem dX6_copyFrom_16 : decode cX6_copyFrom 16 = .ok (.invokestatic 31, 3) := by decide +kernel
theorem dX6_copyFrom_19 : decode cX6_copyFrom 19 = .ok (.aload_n 1, 1) := by decide +kernel
theorem dX6_copyFrom_20 : decode cX6_copyFrom 20 = .ok (.getfield 15, 3) := by decide +kernel
theorem dX6_copyFrom_23 : decode cX6_copyFrom 23 = .ok (.aload_n 0, 1) := by decide +kernel
theorem dX6_copyFrom_24 : decode cX6_copyFrom 24 = .ok (.getfield 15, 3) := by decide +kernel
theorem dX6_copyFrom_27 : decode cX6_copyFrom 27 = .ok (.invokestatic 31, 3) := by decide +kernel
theorem dX6_copyFrom_30 : decode cX6_copyFrom 30 = .ok (.aload_n 1, 1) := by decide +kernel
theorem dX6_copyFrom_31 : decode cX6_copyFrom 31 = .ok (.getfield 18, 3) := by decide +kernel
theorem dX6_copyFrom_34 : decode cX6_copyFrom 34 = .ok (.aload_n 0, 1) := by decide +kernel
theorem dX6_copyFrom_35 : decode cX6_copyFrom 35 = .ok (.getfield 18, 3) := by decide +kernel
theorem dX6_copyFrom_38 : decode cX6_copyFrom 38 = .ok (.invokestatic 31, 3) := by decide +kernel
theorem dX6_copyFrom_41 : decode cX6_copyFrom 41 = .ok (.aload_n 1, 1) := by decide +kernel
theorem dX6_copyFrom_42 : decode cX6_copyFrom 42 = .ok (.getfield 21, 3) := by decide +kernel
theorem dX6_copyFrom_45 : decode cX6_copyFrom 45 = .ok (.aload_n 0, 1) := by decide +kernel
theorem dX6_copyFrom_46 : decode cX6_copyFrom 46 = .ok (.getfield 21, 3) := by decide +kernel
theorem dX6_copyFrom_49 : decode cX6_copyFrom 49 = .ok (.invokestatic 31, 3) := by decide +kernel
theorem dX6_copyFrom_52 : decode cX6_copyFrom 52 = .ok (.aload_n 1, 1) := by decide +kernel
theorem dX6_copyFrom_53 : decode cX6_copyFrom 53 = .ok (.getfield 24, 3) := by decide +kernel
theorem dX6_copyFrom_56 : decode cX6_copyFrom 56 = .ok (.aload_n 0, 1) := by decide +kernel
theorem dX6_copyFrom_57 : decode cX6_copyFrom 57 = .ok (.getfield 24, 3) := by decide +kernel
theorem dX6_copyFrom_60 : decode cX6_copyFrom 60 = .ok (.invokestatic 31, 3) := by decide +kernel
theorem dX6_copyFrom_63 : decode cX6_copyFrom 63 = .ok (.return_, 1) := by decide +kernel
theorem dX6_add_0 : decode cX6_add 0 = .ok (.aload_n 0, 1) := by decide +kernel
theorem dX6_add_1 : decode cX6_add 1 = .ok (.getfield 27, 3) := by decide +kernel
theorem dX6_add_4 : decode cX6_add 4 = .ok (.istore_n 3, 1) := by decide +kernel
theorem dX6_add_5 : decode cX6_add 5 = .ok (.aload_n 0, 1) := by decide +kernel
theorem dX6_add_6 : decode cX6_add 6 = .ok (.getfield 9, 3) := by decide +kernel
theorem dX6_add_9 : decode cX6_add 9 = .ok (.iload_n 3, 1) := by decide +kernel
theorem dX6_add_10 : decode cX6_add 10 = .ok (.iload_n 1, 1) := by decide +kernel
theorem dX6_add_11 : decode cX6_add 11 = .ok (.iastore, 1) := by decide +kernel
theorem dX6_add_12 : decode cX6_add 12 = .ok (.aload_n 0, 1) := by decide +kernel
theorem dX6_add_13 : decode cX6_add 13 = .ok (.getfield 15, 3) := by decide +kernel
theorem dX6_add_16 : decode cX6_add 16 = .ok (.iload_n 3, 1) := by decide +kernel
theorem dX6_add_17 : decode cX6_add 17 = .ok (.iload_n 2, 1) := by decide +kernel
theorem dX6_add_18 : decode cX6_add 18 = .ok (.iastore, 1) := by decide +kernel
theorem dX6_add_19 : decode cX6_add 19 = .ok (.aload_n 0, 1) := by decide +kernel
theorem dX6_add_20 : decode cX6_add 20 = .ok (.getfield 18, 3) := by decide +kernel
theorem dX6_add_23 : decode cX6_add 23 = .ok (.iload_n 3, 1) := by decide +kernel
theorem dX6_add_24 : decode cX6_add 24 = .ok (.bipush (-4), 2) := by decide +kernel
theorem dX6_add_26 : decode cX6_add 26 = .ok (.iastore, 1) := by decide +kernel
theorem dX6_add_27 : decode cX6_add 27 = .ok (.aload_n 0, 1) := by decide +kernel
theorem dX6_add_28 : decode cX6_add 28 = .ok (.getfield 21, 3) := by decide +kernel
theorem dX6_add_31 : decode cX6_add 31 = .ok (.iload_n 3, 1) := by decide +kernel
theorem dX6_add_32 : decode cX6_add 32 = .ok (.iconst 0, 1) := by decide +kernel
theorem dX6_add_33 : decode cX6_add 33 = .ok (.iastore, 1) := by decide +kernel
theorem dX6_add_34 : decode cX6_add 34 = .ok (.aload_n 0, 1) := by decide +kernel
theorem dX6_add_35 : decode cX6_add 35 = .ok (.dup, 1) := by decide +kernel
theorem dX6_add_36 : decode cX6_add 36 = .ok (.getfield 27, 3) := by decide +kernel
theorem dX6_add_39 : decode cX6_add 39 = .ok (.iconst 1, 1) := by decide +kernel
theorem dX6_add_40 : decode cX6_add 40 = .ok (.iadd, 1) := by decide +kernel
theorem dX6_add_41 : decode cX6_add 41 = .ok (.putfield 27, 3) := by decide +kernel
theorem dX6_add_44 : decode cX6_add 44 = .ok (.iload_n 3, 1) := by decide +kernel
theorem dX6_add_45 : decode cX6_add 45 = .ok (.ireturn, 1) := by decide +kernel
theorem dX6_has_0 : decode cX6_has 0 = .ok (.iload_n 1, 1) := by decide +kernel
theorem dX6_has_1 : decode cX6_has 1 = .ok (.ifCond .lt 15, 3) := by decide +kernel
theorem dX6_has_4 : decode cX6_has 4 = .ok (.iload_n 1, 1) := by decide +kernel
theorem dX6_has_5 : decode cX6_has 5 = .ok (.aload_n 0, 1) := by decide +kernel
theorem dX6_has_6 : decode cX6_has 6 = .ok (.getfield 27, 3) := by decide +kernel
theorem dX6_has_9 : decode cX6_has 9 = .ok (.if_icmp .ge 7, 3) := by decide +kernel
theorem dX6_has_12 : decode cX6_has 12 = .ok (.iconst 1, 1) := by decide +kernel
theorem dX6_has_13 : decode cX6_has 13 = .ok (.goto 4, 3) := by decide +kernel
theorem dX6_has_16 : decode cX6_has 16 = .ok (.iconst 0, 1) := by decide +kernel
theorem dX6_has_17 : decode cX6_has 17 = .ok (.ireturn, 1) := by decide +kernel
theorem dX6_isSeen_0 : decode cX6_isSeen 0 = .ok (.aload_n 0, 1) := by decide +kernel
theorem dX6_isSeen_1 : decode cX6_isSeen 1 = .ok (.getfield 9, 3) := by decide +kernel
theorem dX6_isSeen_4 : decode cX6_isSeen 4 = .ok (.iload_n 1, 1) := by decide +kernel
theorem dX6_isSeen_5 : decode cX6_isSeen 5 = .ok (.iaload, 1) := by decide +kernel
theorem dX6_isSeen_6 : decode cX6_isSeen 6 = .ok (.aload_n 0, 1) := by decide +kernel
theorem dX6_isSeen_7 : decode cX6_isSeen 7 = .ok (.getfield 24, 3) := by decide +kernel
theorem dX6_isSeen_10 : decode cX6_isSeen 10 = .ok (.aload_n 0, 1) := by decide +kernel
theorem dX6_isSeen_11 : decode cX6_isSeen 11 = .ok (.getfield 15, 3) := by decide +kernel
theorem dX6_isSeen_14 : decode cX6_isSeen 14 = .ok (.iload_n 1, 1) := by decide +kernel
theorem dX6_isSeen_15 : decode cX6_isSeen 15 = .ok (.iaload, 1) := by decide +kernel
theorem dX6_isSeen_16 : decode cX6_isSeen 16 = .ok (.iaload, 1) := by decide +kernel
theorem dX6_isSeen_17 : decode cX6_isSeen 17 = .ok (.if_icmp .le 7, 3) := by decide +kernel
theorem dX6_isSeen_20 : decode cX6_isSeen 20 = .ok (.iconst 1, 1) := by decide +kernel
theorem dX6_isSeen_21 : decode cX6_isSeen 21 = .ok (.goto 4, 3) := by decide +kernel
theorem dX6_isSeen_24 : decode cX6_isSeen 24 = .ok (.iconst 0, 1) := by decide +kernel
theorem dX6_isSeen_25 : decode cX6_isSeen 25 = .ok (.ireturn, 1) := by decide +kernel
theorem dX6_countSeen_0 : decode cX6_countSeen 0 = .ok (.iconst 0, 1) := by decide +kernel
theorem dX6_countSeen_1 : decode cX6_countSeen 1 = .ok (.istore_n 2, 1) := by decide +kernel
theorem dX6_countSeen_2 : decode cX6_countSeen 2 = .ok (.iconst 0, 1) := by decide +kernel
theorem dX6_countSeen_3 : decode cX6_countSeen 3 = .ok (.istore_n 3, 1) := by decide +kernel
theorem dX6_countSeen_4 : decode cX6_countSeen 4 = .ok (.iload_n 3, 1) := by decide +kernel
theorem dX6_countSeen_5 : decode cX6_countSeen 5 = .ok (.aload_n 0, 1) := by decide +kernel
theorem dX6_countSeen_6 : decode cX6_countSeen 6 = .ok (.getfield 27, 3) := by decide +kernel
theorem dX6_countSeen_9 : decode cX6_countSeen 9 = .ok (.if_icmp .ge 30, 3) := by decide +kernel
theorem dX6_countSeen_12 : decode cX6_countSeen 12 = .ok (.aload_n 0, 1) := by decide +kernel
theorem dX6_countSeen_13 : decode cX6_countSeen 13 = .ok (.getfield 15, 3) := by decide +kernel
theorem dX6_countSeen_16 : decode cX6_countSeen 16 = .ok (.iload_n 3, 1) := by decide +kernel
theorem dX6_countSeen_17 : decode cX6_countSeen 17 = .ok (.iaload, 1) := by decide +kernel
theorem dX6_countSeen_18 : decode cX6_countSeen 18 = .ok (.iload_n 1, 1) := by decide +kernel
theorem dX6_countSeen_19 : decode cX6_countSeen 19 = .ok (.if_icmp .ne 14, 3) := by decide +kernel
theorem dX6_countSeen_22 : decode cX6_countSeen 22 = .ok (.aload_n 0, 1) := by decide +kernel
theorem dX6_countSeen_23 : decode cX6_countSeen 23 = .ok (.iload_n 3, 1) := by decide +kernel
theorem dX6_countSeen_24 : decode cX6_countSeen 24 = .ok (.invokevirtual 35, 3) := by decide +kernel
theorem dX6_countSeen_27 : decode cX6_countSeen 27 = .ok (.ifCond .eq 6, 3) := by decide +kernel
theorem dX6_countSeen_30 : decode cX6_countSeen 30 = .ok (.iinc 2 1, 3) := by decide +kernel
theorem dX6_countSeen_33 : decode cX6_countSeen 33 = .ok (.iinc 3 1, 3) := by decide +kernel
theorem dX6_countSeen_36 : decode cX6_countSeen 36 = .ok (.goto (-32), 3) := by decide +kernel
theorem dX6_countSeen_39 : decode cX6_countSeen 39 = .ok (.iload_n 2, 1) := by decide +kernel
theorem dX6_countSeen_40 : decode cX6_countSeen 40 = .ok (.ireturn, 1) := by decide +kernel
theorem dX6_countSeenByBrightness_0 : decode cX6_countSeenByBrightness 0 = .ok (.iconst 0, 1) := by decide +kernel
theorem dX6_countSeenByBrightness_1 : decode cX6_countSeenByBrightness 1 = .ok (.istore_n 2, 1) := by decide +kernel
theorem dX6_countSeenByBrightness_2 : decode cX6_countSeenByBrightness 2 = .ok (.aload_n 0, 1) := by decide +kernel
theorem dX6_countSeenByBrightness_3 : decode cX6_countSeenByBrightness 3 = .ok (.getfield 24, 3) := by decide +kernel
theorem dX6_countSeenByBrightness_6 : decode cX6_countSeenByBrightness 6 = .ok (.iload_n 1, 1) := by decide +kernel
theorem dX6_countSeenByBrightness_7 : decode cX6_countSeenByBrightness 7 = .ok (.iaload, 1) := by decide +kernel
theorem dX6_countSeenByBrightness_8 : decode cX6_countSeenByBrightness 8 = .ok (.iconst 1, 1) := by decide +kernel
theorem dX6_countSeenByBrightness_9 : decode cX6_countSeenByBrightness 9 = .ok (.iadd, 1) := by decide +kernel
theorem dX6_countSeenByBrightness_10 : decode cX6_countSeenByBrightness 10 = .ok (.istore_n 3, 1) := by decide +kernel
theorem dX6_countSeenByBrightness_11 : decode cX6_countSeenByBrightness 11 = .ok (.iload_n 3, 1) := by decide +kernel
theorem dX6_countSeenByBrightness_12 : decode cX6_countSeenByBrightness 12 = .ok (.bipush 9, 2) := by decide +kernel
theorem dX6_countSeenByBrightness_14 : decode cX6_countSeenByBrightness 14 = .ok (.if_icmp .gt 18, 3) := by decide +kernel
theorem dX6_countSeenByBrightness_17 : decode cX6_countSeenByBrightness 17 = .ok (.iload_n 2, 1) := by decide +kernel
theorem dX6_countSeenByBrightness_18 : decode cX6_countSeenByBrightness 18 = .ok (.aload_n 0, 1) := by decide +kernel
theorem dX6_countSeenByBrightness_19 : decode cX6_countSeenByBrightness 19 = .ok (.iload_n 1, 1) := by decide +kernel
theorem dX6_countSeenByBrightness_20 : decode cX6_countSeenByBrightness 20 = .ok (.iload_n 3, 1) := by decide +kernel
theorem dX6_countSeenByBrightness_21 : decode cX6_countSeenByBrightness 21 = .ok (.invokevirtual 39, 3) := by decide +kernel
theorem dX6_countSeenByBrightness_24 : decode cX6_countSeenByBrightness 24 = .ok (.iadd, 1) := by decide +kernel
theorem dX6_countSeenByBrightness_25 : decode cX6_countSeenByBrightness 25 = .ok (.istore_n 2, 1) := by decide +kernel
theorem dX6_countSeenByBrightness_26 : decode cX6_countSeenByBrightness 26 = .ok (.iinc 3 1, 3) := by decide +kernel
theorem dX6_countSeenByBrightness_29 : decode cX6_countSeenByBrightness 29 = .ok (.goto (-18), 3) := by decide +kernel
theorem dX6_countSeenByBrightness_32 : decode cX6_countSeenByBrightness 32 = .ok (.iload_n 2, 1) := by decide +kernel
theorem dX6_countSeenByBrightness_33 : decode cX6_countSeenByBrightness 33 = .ok (.ireturn, 1) := by decide +kernel
theorem dX6_countOfBrightness_0 : decode cX6_countOfBrightness 0 = .ok (.iconst 0, 1) := by decide +kernel
theorem dX6_countOfBrightness_1 : decode cX6_countOfBrightness 1 = .ok (.istore_n 3, 1) := by decide +kernel
theorem dX6_countOfBrightness_2 : decode cX6_countOfBrightness 2 = .ok (.iconst 0, 1) := by decide +kernel
theorem dX6_countOfBrightness_3 : decode cX6_countOfBrightness 3 = .ok (.istore 4, 2) := by decide +kernel
theorem dX6_countOfBrightness_5 : decode cX6_countOfBrightness 5 = .ok (.iload 4, 2) := by decide +kernel
theorem dX6_countOfBrightness_7 : decode cX6_countOfBrightness 7 = .ok (.aload_n 0, 1) := by decide +kernel
theorem dX6_countOfBrightness_8 : decode cX6_countOfBrightness 8 = .ok (.getfield 27, 3) := by decide +kernel
theorem dX6_countOfBrightness_11 : decode cX6_countOfBrightness 11 = .ok (.if_icmp .ge 34, 3) := by decide +kernel
theorem dX6_countOfBrightness_14 : decode cX6_countOfBrightness 14 = .ok (.aload_n 0, 1) := by decide +kernel
theorem dX6_countOfBrightness_15 : decode cX6_countOfBrightness 15 = .ok (.getfield 15, 3) := by decide +kernel
theorem dX6_countOfBrightness_18 : decode cX6_countOfBrightness 18 = .ok (.iload 4, 2) := by decide +kernel
theorem dX6_countOfBrightness_20 : decode cX6_countOfBrightness 20 = .ok (.iaload, 1) := by decide +kernel
theorem dX6_countOfBrightness_21 : decode cX6_countOfBrightness 21 = .ok (.iload_n 1, 1) := by decide +kernel
theorem dX6_countOfBrightness_22 : decode cX6_countOfBrightness 22 = .ok (.if_icmp .ne 17, 3) := by decide +kernel
theorem dX6_countOfBrightness_25 : decode cX6_countOfBrightness 25 = .ok (.aload_n 0, 1) := by decide +kernel
theorem dX6_countOfBrightness_26 : decode cX6_countOfBrightness 26 = .ok (.getfield 9, 3) := by decide +kernel
theorem dX6_countOfBrightness_29 : decode cX6_countOfBrightness 29 = .ok (.iload 4, 2) := by decide +kernel
theorem dX6_countOfBrightness_31 : decode cX6_countOfBrightness 31 = .ok (.iaload, 1) := by decide +kernel
theorem dX6_countOfBrightness_32 : decode cX6_countOfBrightness 32 = .ok (.iload_n 2, 1) := by decide +kernel
theorem dX6_countOfBrightness_33 : decode cX6_countOfBrightness 33 = .ok (.if_icmp .ne 6, 3) := by decide +kernel
theorem dX6_countOfBrightness_36 : decode cX6_countOfBrightness 36 = .ok (.iinc 3 1, 3) := by decide +kernel
theorem dX6_countOfBrightness_39 : decode cX6_countOfBrightness 39 = .ok (.iinc 4 1, 3) := by decide +kernel
theorem dX6_countOfBrightness_42 : decode cX6_countOfBrightness 42 = .ok (.goto (-37), 3) := by decide +kernel
theorem dX6_countOfBrightness_45 : decode cX6_countOfBrightness 45 = .ok (.iload_n 3, 1) := by decide +kernel
theorem dX6_countOfBrightness_46 : decode cX6_countOfBrightness 46 = .ok (.ireturn, 1) := by decide +kernel
theorem dX6_dawnsUntilAllSeen_0 : decode cX6_dawnsUntilAllSeen 0 = .ok (.iconst 0, 1) := by decide +kernel
theorem dX6_dawnsUntilAllSeen_1 : decode cX6_dawnsUntilAllSeen 1 = .ok (.istore_n 2, 1) := by decide +kernel
theorem dX6_dawnsUntilAllSeen_2 : decode cX6_dawnsUntilAllSeen 2 = .ok (.iconst 0, 1) := by decide +kernel
theorem dX6_dawnsUntilAllSeen_3 : decode cX6_dawnsUntilAllSeen 3 = .ok (.istore_n 3, 1) := by decide +kernel
theorem dX6_dawnsUntilAllSeen_4 : decode cX6_dawnsUntilAllSeen 4 = .ok (.iload_n 3, 1) := by decide +kernel
theorem dX6_dawnsUntilAllSeen_5 : decode cX6_dawnsUntilAllSeen 5 = .ok (.aload_n 0, 1) := by decide +kernel
theorem dX6_dawnsUntilAllSeen_6 : decode cX6_dawnsUntilAllSeen 6 = .ok (.getfield 27, 3) := by decide +kernel
theorem dX6_dawnsUntilAllSeen_9 : decode cX6_dawnsUntilAllSeen 9 = .ok (.if_icmp .ge 39, 3) := by decide +kernel
theorem dX6_dawnsUntilAllSeen_12 : decode cX6_dawnsUntilAllSeen 12 = .ok (.aload_n 0, 1) := by decide +kernel
theorem dX6_dawnsUntilAllSeen_13 : decode cX6_dawnsUntilAllSeen 13 = .ok (.getfield 15, 3) := by decide +kernel
theorem dX6_dawnsUntilAllSeen_16 : decode cX6_dawnsUntilAllSeen 16 = .ok (.iload_n 3, 1) := by decide +kernel
theorem dX6_dawnsUntilAllSeen_17 : decode cX6_dawnsUntilAllSeen 17 = .ok (.iaload, 1) := by decide +kernel
theorem dX6_dawnsUntilAllSeen_18 : decode cX6_dawnsUntilAllSeen 18 = .ok (.iload_n 1, 1) := by decide +kernel
theorem dX6_dawnsUntilAllSeen_19 : decode cX6_dawnsUntilAllSeen 19 = .ok (.if_icmp .ne 23, 3) := by decide +kernel
theorem dX6_dawnsUntilAllSeen_22 : decode cX6_dawnsUntilAllSeen 22 = .ok (.iload_n 2, 1) := by decide +kernel
theorem dX6_dawnsUntilAllSeen_23 : decode cX6_dawnsUntilAllSeen 23 = .ok (.aload_n 0, 1) := by decide +kernel
theorem dX6_dawnsUntilAllSeen_24 : decode cX6_dawnsUntilAllSeen 24 = .ok (.getfield 24, 3) := by decide +kernel
theorem dX6_dawnsUntilAllSeen_27 : decode cX6_dawnsUntilAllSeen 27 = .ok (.iload_n 1, 1) := by decide +kernel
theorem dX6_dawnsUntilAllSeen_28 : decode cX6_dawnsUntilAllSeen 28 = .ok (.iaload, 1) := by decide +kernel
theorem dX6_dawnsUntilAllSeen_29 : decode cX6_dawnsUntilAllSeen 29 = .ok (.aload_n 0, 1) := by decide +kernel
theorem dX6_dawnsUntilAllSeen_30 : decode cX6_dawnsUntilAllSeen 30 = .ok (.getfield 9, 3) := by decide +kernel
theorem dX6_dawnsUntilAllSeen_33 : decode cX6_dawnsUntilAllSeen 33 = .ok (.iload_n 3, 1) := by decide +kernel
theorem dX6_dawnsUntilAllSeen_34 : decode cX6_dawnsUntilAllSeen 34 = .ok (.iaload, 1) := by decide +kernel
theorem dX6_dawnsUntilAllSeen_35 : decode cX6_dawnsUntilAllSeen 35 = .ok (.isub, 1) := by decide +kernel
theorem dX6_dawnsUntilAllSeen_36 : decode cX6_dawnsUntilAllSeen 36 = .ok (.iconst 1, 1) := by decide +kernel
theorem dX6_dawnsUntilAllSeen_37 : decode cX6_dawnsUntilAllSeen 37 = .ok (.iadd, 1) := by decide +kernel
theorem dX6_dawnsUntilAllSeen_38 : decode cX6_dawnsUntilAllSeen 38 = .ok (.invokestatic 43, 3) := by decide +kernel
theorem dX6_dawnsUntilAllSeen_41 : decode cX6_dawnsUntilAllSeen 41 = .ok (.istore_n 2, 1) := by decide +kernel
theorem dX6_dawnsUntilAllSeen_42 : decode cX6_dawnsUntilAllSeen 42 = .ok (.iinc 3 1, 3) := by decide +kernel
theorem dX6_dawnsUntilAllSeen_45 : decode cX6_dawnsUntilAllSeen 45 = .ok (.goto (-41), 3) := by decide +kernel
theorem dX6_dawnsUntilAllSeen_48 : decode cX6_dawnsUntilAllSeen 48 = .ok (.iload_n 2, 1) := by decide +kernel
theorem dX6_dawnsUntilAllSeen_49 : decode cX6_dawnsUntilAllSeen 49 = .ok (.ireturn, 1) := by decide +kernel
theorem dX6_countClaimed_0 : decode cX6_countClaimed 0 = .ok (.aload_n 0, 1) := by decide +kernel
theorem dX6_countClaimed_1 : decode cX6_countClaimed 1 = .ok (.getfield 27, 3) := by decide +kernel
theorem dX6_countClaimed_4 : decode cX6_countClaimed 4 = .ok (.aload_n 0, 1) := by decide +kernel
theorem dX6_countClaimed_5 : decode cX6_countClaimed 5 = .ok (.getfield 18, 3) := by decide +kernel
theorem dX6_countClaimed_8 : decode cX6_countClaimed 8 = .ok (.aload_n 0, 1) := by decide +kernel
theorem dX6_countClaimed_9 : decode cX6_countClaimed 9 = .ok (.getfield 27, 3) := by decide +kernel
theorem dX6_countClaimed_12 : decode cX6_countClaimed 12 = .ok (.bipush (-4), 2) := by decide +kernel
theorem dX6_countClaimed_14 : decode cX6_countClaimed 14 = .ok (.invokestatic 48, 3) := by decide +kernel
theorem dX6_countClaimed_17 : decode cX6_countClaimed 17 = .ok (.isub, 1) := by decide +kernel
theorem dX6_countClaimed_18 : decode cX6_countClaimed 18 = .ok (.ireturn, 1) := by decide +kernel
theorem dX6_countClaimedBy_0 : decode cX6_countClaimedBy 0 = .ok (.aload_n 0, 1) := by decide +kernel
theorem dX6_countClaimedBy_1 : decode cX6_countClaimedBy 1 = .ok (.getfield 18, 3) := by decide +kernel
theorem dX6_countClaimedBy_4 : decode cX6_countClaimedBy 4 = .ok (.aload_n 0, 1) := by decide +kernel
theorem dX6_countClaimedBy_5 : decode cX6_countClaimedBy 5 = .ok (.getfield 27, 3) := by decide +kernel
theorem dX6_countClaimedBy_8 : decode cX6_countClaimedBy 8 = .ok (.iload_n 1, 1) := by decide +kernel
theorem dX6_countClaimedBy_9 : decode cX6_countClaimedBy 9 = .ok (.invokestatic 48, 3) := by decide +kernel
theorem dX6_countClaimedBy_12 : decode cX6_countClaimedBy 12 = .ok (.ireturn, 1) := by decide +kernel
theorem dX6_starAtPlace_0 : decode cX6_starAtPlace 0 = .ok (.iconst 0, 1) := by decide +kernel
theorem dX6_starAtPlace_1 : decode cX6_starAtPlace 1 = .ok (.istore_n 2, 1) := by decide +kernel
theorem dX6_starAtPlace_2 : decode cX6_starAtPlace 2 = .ok (.iload_n 2, 1) := by decide +kernel
theorem dX6_starAtPlace_3 : decode cX6_starAtPlace 3 = .ok (.aload_n 0, 1) := by decide +kernel
theorem dX6_starAtPlace_4 : decode cX6_starAtPlace 4 = .ok (.getfield 27, 3) := by decide +kernel
theorem dX6_starAtPlace_7 : decode cX6_starAtPlace 7 = .ok (.if_icmp .ge 49, 3) := by decide +kernel
theorem dX6_starAtPlace_10 : decode cX6_starAtPlace 10 = .ok (.iconst 0, 1) := by decide +kernel
theorem dX6_starAtPlace_11 : decode cX6_starAtPlace 11 = .ok (.istore_n 3, 1) := by decide +kernel
theorem dX6_starAtPlace_12 : decode cX6_starAtPlace 12 = .ok (.iconst 0, 1) := by decide +kernel
theorem dX6_starAtPlace_13 : decode cX6_starAtPlace 13 = .ok (.istore 4, 2) := by decide +kernel
theorem dX6_starAtPlace_15 : decode cX6_starAtPlace 15 = .ok (.iload 4, 2) := by decide +kernel
theorem dX6_starAtPlace_17 : decode cX6_starAtPlace 17 = .ok (.aload_n 0, 1) := by decide +kernel
theorem dX6_starAtPlace_18 : decode cX6_starAtPlace 18 = .ok (.getfield 27, 3) := by decide +kernel
theorem dX6_starAtPlace_21 : decode cX6_starAtPlace 21 = .ok (.if_icmp .ge 22, 3) := by decide +kernel
theorem dX6_starAtPlace_24 : decode cX6_starAtPlace 24 = .ok (.aload_n 0, 1) := by decide +kernel
theorem dX6_starAtPlace_25 : decode cX6_starAtPlace 25 = .ok (.iload 4, 2) := by decide +kernel
theorem dX6_starAtPlace_27 : decode cX6_starAtPlace 27 = .ok (.iload_n 2, 1) := by decide +kernel
theorem dX6_starAtPlace_28 : decode cX6_starAtPlace 28 = .ok (.invokevirtual 52, 3) := by decide +kernel
theorem dX6_starAtPlace_31 : decode cX6_starAtPlace 31 = .ok (.ifCond .eq 6, 3) := by decide +kernel
theorem dX6_starAtPlace_34 : decode cX6_starAtPlace 34 = .ok (.iinc 3 1, 3) := by decide +kernel
theorem dX6_starAtPlace_37 : decode cX6_starAtPlace 37 = .ok (.iinc 4 1, 3) := by decide +kernel
theorem dX6_starAtPlace_40 : decode cX6_starAtPlace 40 = .ok (.goto (-25), 3) := by decide +kernel
theorem dX6_starAtPlace_43 : decode cX6_starAtPlace 43 = .ok (.iload_n 3, 1) := by decide +kernel
theorem dX6_starAtPlace_44 : decode cX6_starAtPlace 44 = .ok (.iload_n 1, 1) := by decide +kernel
theorem dX6_starAtPlace_45 : decode cX6_starAtPlace 45 = .ok (.if_icmp .ne 5, 3) := by decide +kernel
theorem dX6_starAtPlace_48 : decode cX6_starAtPlace 48 = .ok (.iload_n 2, 1) := by decide +kernel
theorem dX6_starAtPlace_49 : decode cX6_starAtPlace 49 = .ok (.ireturn, 1) := by decide +kernel
theorem dX6_starAtPlace_50 : decode cX6_starAtPlace 50 = .ok (.iinc 2 1, 3) := by decide +kernel
theorem dX6_starAtPlace_53 : decode cX6_starAtPlace 53 = .ok (.goto (-51), 3) := by decide +kernel
theorem dX6_starAtPlace_56 : decode cX6_starAtPlace 56 = .ok (.iconst (-1), 1) := by decide +kernel
theorem dX6_starAtPlace_57 : decode cX6_starAtPlace 57 = .ok (.ireturn, 1) := by decide +kernel
theorem dX6_isBrighter_0 : decode cX6_isBrighter 0 = .ok (.aload_n 0, 1) := by decide +kernel
theorem dX6_isBrighter_1 : decode cX6_isBrighter 1 = .ok (.getfield 9, 3) := by decide +kernel
theorem dX6_isBrighter_4 : decode cX6_isBrighter 4 = .ok (.iload_n 1, 1) := by decide +kernel
theorem dX6_isBrighter_5 : decode cX6_isBrighter 5 = .ok (.iaload, 1) := by decide +kernel
theorem dX6_isBrighter_6 : decode cX6_isBrighter 6 = .ok (.aload_n 0, 1) := by decide +kernel
theorem dX6_isBrighter_7 : decode cX6_isBrighter 7 = .ok (.getfield 9, 3) := by decide +kernel
theorem dX6_isBrighter_10 : decode cX6_isBrighter 10 = .ok (.iload_n 2, 1) := by decide +kernel
theorem dX6_isBrighter_11 : decode cX6_isBrighter 11 = .ok (.iaload, 1) := by decide +kernel
theorem dX6_isBrighter_12 : decode cX6_isBrighter 12 = .ok (.if_icmp .eq 24, 3) := by decide +kernel
theorem dX6_isBrighter_15 : decode cX6_isBrighter 15 = .ok (.aload_n 0, 1) := by decide +kernel
theorem dX6_isBrighter_16 : decode cX6_isBrighter 16 = .ok (.getfield 9, 3) := by decide +kernel
theorem dX6_isBrighter_19 : decode cX6_isBrighter 19 = .ok (.iload_n 1, 1) := by decide +kernel
theorem dX6_isBrighter_20 : decode cX6_isBrighter 20 = .ok (.iaload, 1) := by decide +kernel
theorem dX6_isBrighter_21 : decode cX6_isBrighter 21 = .ok (.aload_n 0, 1) := by decide +kernel
theorem dX6_isBrighter_22 : decode cX6_isBrighter 22 = .ok (.getfield 9, 3) := by decide +kernel
theorem dX6_isBrighter_25 : decode cX6_isBrighter 25 = .ok (.iload_n 2, 1) := by decide +kernel
theorem dX6_isBrighter_26 : decode cX6_isBrighter 26 = .ok (.iaload, 1) := by decide +kernel
theorem dX6_isBrighter_27 : decode cX6_isBrighter 27 = .ok (.if_icmp .le 7, 3) := by decide +kernel
theorem dX6_isBrighter_30 : decode cX6_isBrighter 30 = .ok (.iconst 1, 1) := by decide +kernel
theorem dX6_isBrighter_31 : decode cX6_isBrighter 31 = .ok (.goto 4, 3) := by decide +kernel
theorem dX6_isBrighter_34 : decode cX6_isBrighter 34 = .ok (.iconst 0, 1) := by decide +kernel
theorem dX6_isBrighter_35 : decode cX6_isBrighter 35 = .ok (.ireturn, 1) := by decide +kernel
theorem dX6_isBrighter_36 : decode cX6_isBrighter 36 = .ok (.aload_n 0, 1) := by decide +kernel
theorem dX6_isBrighter_37 : decode cX6_isBrighter 37 = .ok (.getfield 21, 3) := by decide +kernel
theorem dX6_isBrighter_40 : decode cX6_isBrighter 40 = .ok (.iload_n 1, 1) := by decide +kernel
theorem dX6_isBrighter_41 : decode cX6_isBrighter 41 = .ok (.iaload, 1) := by decide +kernel
theorem dX6_isBrighter_42 : decode cX6_isBrighter 42 = .ok (.aload_n 0, 1) := by decide +kernel
theorem dX6_isBrighter_43 : decode cX6_isBrighter 43 = .ok (.getfield 21, 3) := by decide +kernel
theorem dX6_isBrighter_46 : decode cX6_isBrighter 46 = .ok (.iload_n 2, 1) := by decide +kernel
theorem dX6_isBrighter_47 : decode cX6_isBrighter 47 = .ok (.iaload, 1) := by decide +kernel
theorem dX6_isBrighter_48 : decode cX6_isBrighter 48 = .ok (.if_icmp .eq 24, 3) := by decide +kernel
theorem dX6_isBrighter_51 : decode cX6_isBrighter 51 = .ok (.aload_n 0, 1) := by decide +kernel
theorem dX6_isBrighter_52 : decode cX6_isBrighter 52 = .ok (.getfield 21, 3) := by decide +kernel
theorem dX6_isBrighter_55 : decode cX6_isBrighter 55 = .ok (.iload_n 1, 1) := by decide +kernel
theorem dX6_isBrighter_56 : decode cX6_isBrighter 56 = .ok (.iaload, 1) := by decide +kernel
theorem dX6_isBrighter_57 : decode cX6_isBrighter 57 = .ok (.aload_n 0, 1) := by decide +kernel
theorem dX6_isBrighter_58 : decode cX6_isBrighter 58 = .ok (.getfield 21, 3) := by decide +kernel
theorem dX6_isBrighter_61 : decode cX6_isBrighter 61 = .ok (.iload_n 2, 1) := by decide +kernel
theorem dX6_isBrighter_62 : decode cX6_isBrighter 62 = .ok (.iaload, 1) := by decide +kernel
theorem dX6_isBrighter_63 : decode cX6_isBrighter 63 = .ok (.if_icmp .le 7, 3) := by decide +kernel
theorem dX6_isBrighter_66 : decode cX6_isBrighter 66 = .ok (.iconst 1, 1) := by decide +kernel
theorem dX6_isBrighter_67 : decode cX6_isBrighter 67 = .ok (.goto 4, 3) := by decide +kernel
theorem dX6_isBrighter_70 : decode cX6_isBrighter 70 = .ok (.iconst 0, 1) := by decide +kernel
theorem dX6_isBrighter_71 : decode cX6_isBrighter 71 = .ok (.ireturn, 1) := by decide +kernel
theorem dX6_isBrighter_72 : decode cX6_isBrighter 72 = .ok (.iload_n 1, 1) := by decide +kernel
theorem dX6_isBrighter_73 : decode cX6_isBrighter 73 = .ok (.iload_n 2, 1) := by decide +kernel
theorem dX6_isBrighter_74 : decode cX6_isBrighter 74 = .ok (.if_icmp .ge 7, 3) := by decide +kernel
theorem dX6_isBrighter_77 : decode cX6_isBrighter 77 = .ok (.iconst 1, 1) := by decide +kernel
theorem dX6_isBrighter_78 : decode cX6_isBrighter 78 = .ok (.goto 4, 3) := by decide +kernel
theorem dX6_isBrighter_81 : decode cX6_isBrighter 81 = .ok (.iconst 0, 1) := by decide +kernel
theorem dX6_isBrighter_82 : decode cX6_isBrighter 82 = .ok (.ireturn, 1) := by decide +kernel
theorem dX6_thinClouds_0 : decode cX6_thinClouds 0 = .ok (.iconst 0, 1) := by decide +kernel
theorem dX6_thinClouds_1 : decode cX6_thinClouds 1 = .ok (.istore_n 1, 1) := by decide +kernel
theorem dX6_thinClouds_2 : decode cX6_thinClouds 2 = .ok (.iload_n 1, 1) := by decide +kernel
theorem dX6_thinClouds_3 : decode cX6_thinClouds 3 = .ok (.iconst 4, 1) := by decide +kernel
theorem dX6_thinClouds_4 : decode cX6_thinClouds 4 = .ok (.if_icmp .ge 27, 3) := by decide +kernel
theorem dX6_thinClouds_7 : decode cX6_thinClouds 7 = .ok (.aload_n 0, 1) := by decide +kernel
theorem dX6_thinClouds_8 : decode cX6_thinClouds 8 = .ok (.getfield 24, 3) := by decide +kernel
theorem dX6_thinClouds_11 : decode cX6_thinClouds 11 = .ok (.iload_n 1, 1) := by decide +kernel
theorem dX6_thinClouds_12 : decode cX6_thinClouds 12 = .ok (.aload_n 0, 1) := by decide +kernel
theorem dX6_thinClouds_13 : decode cX6_thinClouds 13 = .ok (.getfield 24, 3) := by decide +kernel
theorem dX6_thinClouds_16 : decode cX6_thinClouds 16 = .ok (.iload_n 1, 1) := by decide +kernel
theorem dX6_thinClouds_17 : decode cX6_thinClouds 17 = .ok (.iaload, 1) := by decide +kernel
theorem dX6_thinClouds_18 : decode cX6_thinClouds 18 = .ok (.iconst 1, 1) := by decide +kernel
theorem dX6_thinClouds_19 : decode cX6_thinClouds 19 = .ok (.isub, 1) := by decide +kernel
theorem dX6_thinClouds_20 : decode cX6_thinClouds 20 = .ok (.iconst 0, 1) := by decide +kernel
theorem dX6_thinClouds_21 : decode cX6_thinClouds 21 = .ok (.invokestatic 43, 3) := by decide +kernel
theorem dX6_thinClouds_24 : decode cX6_thinClouds 24 = .ok (.iastore, 1) := by decide +kernel
theorem dX6_thinClouds_25 : decode cX6_thinClouds 25 = .ok (.iinc 1 1, 3) := by decide +kernel
theorem dX6_thinClouds_28 : decode cX6_thinClouds 28 = .ok (.goto (-26), 3) := by decide +kernel
theorem dX6_thinClouds_31 : decode cX6_thinClouds 31 = .ok (.return_, 1) := by decide +kernel
theorem dX7_init_0 : decode cX7_init 0 = .ok (.aload_n 0, 1) := by decide +kernel
theorem dX7_init_1 : decode cX7_init 1 = .ok (.invokespecial 3, 3) := by decide +kernel
theorem dX7_init_4 : decode cX7_init 4 = .ok (.aload_n 0, 1) := by decide +kernel
theorem dX7_init_5 : decode cX7_init 5 = .ok (.bipush 8, 2) := by decide +kernel
theorem dX7_init_7 : decode cX7_init 7 = .ok (.newarray .int, 2) := by decide +kernel
theorem dX7_init_9 : decode cX7_init 9 = .ok (.putfield 9, 3) := by decide +kernel
theorem dX7_init_12 : decode cX7_init 12 = .ok (.aload_n 0, 1) := by decide +kernel
theorem dX7_init_13 : decode cX7_init 13 = .ok (.bipush 8, 2) := by decide +kernel
theorem dX7_init_15 : decode cX7_init 15 = .ok (.newarray .int, 2) := by decide +kernel
theorem dX7_init_17 : decode cX7_init 17 = .ok (.putfield 15, 3) := by decide +kernel
theorem dX7_init_20 : decode cX7_init 20 = .ok (.aload_n 0, 1) := by decide +kernel
theorem dX7_init_21 : decode cX7_init 21 = .ok (.bipush 8, 2) := by decide +kernel
theorem dX7_init_23 : decode cX7_init 23 = .ok (.newarray .int, 2) := by decide +kernel
theorem dX7_init_25 : decode cX7_init 25 = .ok (.putfield 18, 3) := by decide +kernel
theorem dX7_init_28 : decode cX7_init 28 = .ok (.aload_n 0, 1) := by decide +kernel
theorem dX7_init_29 : decode cX7_init 29 = .ok (.bipush 8, 2) := by decide +kernel
theorem dX7_init_31 : decode cX7_init 31 = .ok (.newarray .int, 2) := by decide +kernel
theorem dX7_init_33 : decode cX7_init 33 = .ok (.putfield 21, 3) := by decide +kernel
theorem dX7_init_36 : decode cX7_init 36 = .ok (.aload_n 0, 1) := by decide +kernel
theorem dX7_init_37 : decode cX7_init 37 = .ok (.bipush 8, 2) := by decide +kernel
theorem dX7_init_39 : decode cX7_init 39 = .ok (.newarray .int, 2) := by decide +kernel
theorem dX7_init_41 : decode cX7_init 41 = .ok (.putfield 24, 3) := by decide +kernel
theorem dX7_init_44 : decode cX7_init 44 = .ok (.return_, 1) := by decide +kernel
theorem dX7_copyFrom_0 : decode cX7_copyFrom 0 = .ok (.aload_n 0, 1) := by decide +kernel
theorem dX7_copyFrom_1 : decode cX7_copyFrom 1 = .ok (.aload_n 1, 1) := by decide +kernel
theorem dX7_copyFrom_2 : decode cX7_copyFrom 2 = .ok (.getfield 27, 3) := by decide +kernel
theorem dX7_copyFrom_5 : decode cX7_copyFrom 5 = .ok (.putfield 27, 3) := by decide +kernel
theorem dX7_copyFrom_8 : decode cX7_copyFrom 8 = .ok (.aload_n 1, 1) := by decide +kernel
theorem dX7_copyFrom_9 : decode cX7_copyFrom 9 = .ok (.getfield 9, 3) := by decide +kernel
theorem dX7_copyFrom_12 : decode cX7_copyFrom 12 = .ok (.aload_n 0, 1) := by decide +kernel
theorem dX7_copyFrom_13 : decode cX7_copyFrom 13 = .ok (.getfield 9, 3) := by decide +kernel
theorem dX7_copyFrom_16 : decode cX7_copyFrom 16 = .ok (.invokestatic 31, 3) := by decide +kernel
theorem dX7_copyFrom_19 : decode cX7_copyFrom 19 = .ok (.aload_n 1, 1) := by decide +kernel
theorem dX7_copyFrom_20 : decode cX7_copyFrom 20 = .ok (.getfield 15, 3) := by decide +kernel
theorem dX7_copyFrom_23 : decode cX7_copyFrom 23 = .ok (.aload_n 0, 1) := by decide +kernel
theorem dX7_copyFrom_24 : decode cX7_copyFrom 24 = .ok (.getfield 15, 3) := by decide +kernel
theorem dX7_copyFrom_27 : decode cX7_copyFrom 27 = .ok (.invokestatic 31, 3) := by decide +kernel
theorem dX7_copyFrom_30 : decode cX7_copyFrom 30 = .ok (.aload_n 1, 1) := by decide +kernel
theorem dX7_copyFrom_31 : decode cX7_copyFrom 31 = .ok (.getfield 18, 3) := by decide +kernel
theorem dX7_copyFrom_34 : decode cX7_copyFrom 34 = .ok (.aload_n 0, 1) := by decide +kernel
theorem dX7_copyFrom_35 : decode cX7_copyFrom 35 = .ok (.getfield 18, 3) := by decide +kernel
theorem dX7_copyFrom_38 : decode cX7_copyFrom 38 = .ok (.invokestatic 31, 3) := by decide +kernel
theorem dX7_copyFrom_41 : decode cX7_copyFrom 41 = .ok (.aload_n 1, 1) := by decide +kernel
theorem dX7_copyFrom_42 : decode cX7_copyFrom 42 = .ok (.getfield 21, 3) := by decide +kernel
theorem dX7_copyFrom_45 : decode cX7_copyFrom 45 = .ok (.aload_n 0, 1) := by decide +kernel
theorem dX7_copyFrom_46 : decode cX7_copyFrom 46 = .ok (.getfield 21, 3) := by decide +kernel
theorem dX7_copyFrom_49 : decode cX7_copyFrom 49 = .ok (.invokestatic 31, 3) := by decide +kernel
theorem dX7_copyFrom_52 : decode cX7_copyFrom 52 = .ok (.aload_n 1, 1) := by decide +kernel
theorem dX7_copyFrom_53 : decode cX7_copyFrom 53 = .ok (.getfield 24, 3) := by decide +kernel
theorem dX7_copyFrom_56 : decode cX7_copyFrom 56 = .ok (.aload_n 0, 1) := by decide +kernel
theorem dX7_copyFrom_57 : decode cX7_copyFrom 57 = .ok (.getfield 24, 3) := by decide +kernel
theorem dX7_copyFrom_60 : decode cX7_copyFrom 60 = .ok (.invokestatic 31, 3) := by decide +kernel
theorem dX7_copyFrom_63 : decode cX7_copyFrom 63 = .ok (.return_, 1) := by decide +kernel
theorem dX7_add_0 : decode cX7_add 0 = .ok (.aload_n 0, 1) := by decide +kernel
theorem dX7_add_1 : decode cX7_add 1 = .ok (.getfield 27, 3) := by decide +kernel
theorem dX7_add_4 : decode cX7_add 4 = .ok (.istore 4, 2) := by decide +kernel
theorem dX7_add_6 : decode cX7_add 6 = .ok (.aload_n 0, 1) := by decide +kernel
theorem dX7_add_7 : decode cX7_add 7 = .ok (.getfield 9, 3) := by decide +kernel
theorem dX7_add_10 : decode cX7_add 10 = .ok (.iload 4, 2) := by decide +kernel
theorem dX7_add_12 : decode cX7_add 12 = .ok (.iload_n 1, 1) := by decide +kernel
theorem dX7_add_13 : decode cX7_add 13 = .ok (.iastore, 1) := by decide +kernel
theorem dX7_add_14 : decode cX7_add 14 = .ok (.aload_n 0, 1) := by decide +kernel
theorem dX7_add_15 : decode cX7_add 15 = .ok (.getfield 15, 3) := by decide +kernel
theorem dX7_add_18 : decode cX7_add 18 = .ok (.iload 4, 2) := by decide +kernel
theorem dX7_add_20 : decode cX7_add 20 = .ok (.iload_n 2, 1) := by decide +kernel
theorem dX7_add_21 : decode cX7_add 21 = .ok (.iastore, 1) := by decide +kernel
theorem dX7_add_22 : decode cX7_add 22 = .ok (.aload_n 0, 1) := by decide +kernel
theorem dX7_add_23 : decode cX7_add 23 = .ok (.getfield 18, 3) := by decide +kernel
theorem dX7_add_26 : decode cX7_add 26 = .ok (.iload 4, 2) := by decide +kernel
theorem dX7_add_28 : decode cX7_add 28 = .ok (.iload_n 3, 1) := by decide +kernel
theorem dX7_add_29 : decode cX7_add 29 = .ok (.iastore, 1) := by decide +kernel
theorem dX7_add_30 : decode cX7_add 30 = .ok (.aload_n 0, 1) := by decide +kernel
theorem dX7_add_31 : decode cX7_add 31 = .ok (.getfield 21, 3) := by decide +kernel
theorem dX7_add_34 : decode cX7_add 34 = .ok (.iload 4, 2) := by decide +kernel
theorem dX7_add_36 : decode cX7_add 36 = .ok (.iconst 0, 1) := by decide +kernel
theorem dX7_add_37 : decode cX7_add 37 = .ok (.iastore, 1) := by decide +kernel
theorem dX7_add_38 : decode cX7_add 38 = .ok (.aload_n 0, 1) := by decide +kernel
theorem dX7_add_39 : decode cX7_add 39 = .ok (.getfield 24, 3) := by decide +kernel
theorem dX7_add_42 : decode cX7_add 42 = .ok (.iload 4, 2) := by decide +kernel
theorem dX7_add_44 : decode cX7_add 44 = .ok (.bipush (-4), 2) := by decide +kernel
theorem dX7_add_46 : decode cX7_add 46 = .ok (.iastore, 1) := by decide +kernel
theorem dX7_add_47 : decode cX7_add 47 = .ok (.aload_n 0, 1) := by decide +kernel
theorem dX7_add_48 : decode cX7_add 48 = .ok (.dup, 1) := by decide +kernel
theorem dX7_add_49 : decode cX7_add 49 = .ok (.getfield 27, 3) := by decide +kernel
theorem dX7_add_52 : decode cX7_add 52 = .ok (.iconst 1, 1) := by decide +kernel
theorem dX7_add_53 : decode cX7_add 53 = .ok (.iadd, 1) := by decide +kernel
theorem dX7_add_54 : decode cX7_add 54 = .ok (.putfield 27, 3) := by decide +kernel
theorem dX7_add_57 : decode cX7_add 57 = .ok (.iload 4, 2) := by decide +kernel
theorem dX7_add_59 : decode cX7_add 59 = .ok (.ireturn, 1) := by decide +kernel
theorem dX7_move_0 : decode cX7_move 0 = .ok (.aload_n 0, 1) := by decide +kernel
theorem dX7_move_1 : decode cX7_move 1 = .ok (.getfield 9, 3) := by decide +kernel
theorem dX7_move_4 : decode cX7_move 4 = .ok (.iload_n 2, 1) := by decide +kernel
theorem dX7_move_5 : decode cX7_move 5 = .ok (.aload_n 0, 1) := by decide +kernel
theorem dX7_move_6 : decode cX7_move 6 = .ok (.getfield 9, 3) := by decide +kernel
theorem dX7_move_9 : decode cX7_move 9 = .ok (.iload_n 1, 1) := by decide +kernel
theorem dX7_move_10 : decode cX7_move 10 = .ok (.iaload, 1) := by decide +kernel
theorem dX7_move_11 : decode cX7_move 11 = .ok (.iastore, 1) := by decide +kernel
theorem dX7_move_12 : decode cX7_move 12 = .ok (.aload_n 0, 1) := by decide +kernel
theorem dX7_move_13 : decode cX7_move 13 = .ok (.getfield 15, 3) := by decide +kernel
theorem dX7_move_16 : decode cX7_move 16 = .ok (.iload_n 2, 1) := by decide +kernel
theorem dX7_move_17 : decode cX7_move 17 = .ok (.aload_n 0, 1) := by decide +kernel
theorem dX7_move_18 : decode cX7_move 18 = .ok (.getfield 15, 3) := by decide +kernel
theorem dX7_move_21 : decode cX7_move 21 = .ok (.iload_n 1, 1) := by decide +kernel
theorem dX7_move_22 : decode cX7_move 22 = .ok (.iaload, 1) := by decide +kernel
theorem dX7_move_23 : decode cX7_move 23 = .ok (.iastore, 1) := by decide +kernel
theorem dX7_move_24 : decode cX7_move 24 = .ok (.aload_n 0, 1) := by decide +kernel
theorem dX7_move_25 : decode cX7_move 25 = .ok (.getfield 18, 3) := by decide +kernel
theorem dX7_move_28 : decode cX7_move 28 = .ok (.iload_n 2, 1) := by decide +kernel
theorem dX7_move_29 : decode cX7_move 29 = .ok (.aload_n 0, 1) := by decide +kernel
theorem dX7_move_30 : decode cX7_move 30 = .ok (.getfield 18, 3) := by decide +kernel
theorem dX7_move_33 : decode cX7_move 33 = .ok (.iload_n 1, 1) := by decide +kernel
theorem dX7_move_34 : decode cX7_move 34 = .ok (.iaload, 1) := by decide +kernel
theorem dX7_move_35 : decode cX7_move 35 = .ok (.iastore, 1) := by decide +kernel
theorem dX7_move_36 : decode cX7_move 36 = .ok (.aload_n 0, 1) := by decide +kernel
theorem dX7_move_37 : decode cX7_move 37 = .ok (.getfield 21, 3) := by decide +kernel
theorem dX7_move_40 : decode cX7_move 40 = .ok (.iload_n 2, 1) := by decide +kernel
theorem dX7_move_41 : decode cX7_move 41 = .ok (.aload_n 0, 1) := by decide +kernel
theorem dX7_move_42 : decode cX7_move 42 = .ok (.getfield 21, 3) := by decide +kernel
theorem dX7_move_45 : decode cX7_move 45 = .ok (.iload_n 1, 1) := by decide +kernel
theorem dX7_move_46 : decode cX7_move 46 = .ok (.iaload, 1) := by decide +kernel
theorem dX7_move_47 : decode cX7_move 47 = .ok (.iastore, 1) := by decide +kernel
theorem dX7_move_48 : decode cX7_move 48 = .ok (.aload_n 0, 1) := by decide +kernel
theorem dX7_move_49 : decode cX7_move 49 = .ok (.getfield 24, 3) := by decide +kernel
theorem dX7_move_52 : decode cX7_move 52 = .ok (.iload_n 2, 1) := by decide +kernel
theorem dX7_move_53 : decode cX7_move 53 = .ok (.aload_n 0, 1) := by decide +kernel
theorem dX7_move_54 : decode cX7_move 54 = .ok (.getfield 24, 3) := by decide +kernel
theorem dX7_move_57 : decode cX7_move 57 = .ok (.iload_n 1, 1) := by decide +kernel
theorem dX7_move_58 : decode cX7_move 58 = .ok (.iaload, 1) := by decide +kernel
theorem dX7_move_59 : decode cX7_move 59 = .ok (.iastore, 1) := by decide +kernel
theorem dX7_move_60 : decode cX7_move 60 = .ok (.return_, 1) := by decide +kernel
theorem dX7_has_0 : decode cX7_has 0 = .ok (.iload_n 1, 1) := by decide +kernel
theorem dX7_has_1 : decode cX7_has 1 = .ok (.ifCond .lt 15, 3) := by decide +kernel
theorem dX7_has_4 : decode cX7_has 4 = .ok (.iload_n 1, 1) := by decide +kernel
theorem dX7_has_5 : decode cX7_has 5 = .ok (.aload_n 0, 1) := by decide +kernel
theorem dX7_has_6 : decode cX7_has 6 = .ok (.getfield 27, 3) := by decide +kernel
theorem dX7_has_9 : decode cX7_has 9 = .ok (.if_icmp .ge 7, 3) := by decide +kernel
theorem dX7_has_12 : decode cX7_has 12 = .ok (.iconst 1, 1) := by decide +kernel
theorem dX7_has_13 : decode cX7_has 13 = .ok (.goto 4, 3) := by decide +kernel
theorem dX7_has_16 : decode cX7_has 16 = .ok (.iconst 0, 1) := by decide +kernel
theorem dX7_has_17 : decode cX7_has 17 = .ok (.ireturn, 1) := by decide +kernel
theorem dX7_isImpounded_0 : decode cX7_isImpounded 0 = .ok (.aload_n 0, 1) := by decide +kernel
theorem dX7_isImpounded_1 : decode cX7_isImpounded 1 = .ok (.getfield 24, 3) := by decide +kernel
theorem dX7_isImpounded_4 : decode cX7_isImpounded 4 = .ok (.iload_n 1, 1) := by decide +kernel
theorem dX7_isImpounded_5 : decode cX7_isImpounded 5 = .ok (.iaload, 1) := by decide +kernel
theorem dX7_isImpounded_6 : decode cX7_isImpounded 6 = .ok (.bipush (-4), 2) := by decide +kernel
theorem dX7_isImpounded_8 : decode cX7_isImpounded 8 = .ok (.if_icmp .eq 7, 3) := by decide +kernel
theorem dX7_isImpounded_11 : decode cX7_isImpounded 11 = .ok (.iconst 1, 1) := by decide +kernel
theorem dX7_isImpounded_12 : decode cX7_isImpounded 12 = .ok (.goto 4, 3) := by decide +kernel
theorem dX7_isImpounded_15 : decode cX7_isImpounded 15 = .ok (.iconst 0, 1) := by decide +kernel
theorem dX7_isImpounded_16 : decode cX7_isImpounded 16 = .ok (.ireturn, 1) := by decide +kernel
theorem dX7_countOn_0 : decode cX7_countOn 0 = .ok (.aload_n 0, 1) := by decide +kernel
theorem dX7_countOn_1 : decode cX7_countOn 1 = .ok (.getfield 15, 3) := by decide +kernel
theorem dX7_countOn_4 : decode cX7_countOn 4 = .ok (.aload_n 0, 1) := by decide +kernel
theorem dX7_countOn_5 : decode cX7_countOn 5 = .ok (.getfield 27, 3) := by decide +kernel
theorem dX7_countOn_8 : decode cX7_countOn 8 = .ok (.iload_n 1, 1) := by decide +kernel
theorem dX7_countOn_9 : decode cX7_countOn 9 = .ok (.invokestatic 35, 3) := by decide +kernel
