theorem dX7_countOn_12 : decode cX7_countOn 12 = .ok (.ireturn, 1) := by decide +kernel
theorem dX7_countOf_0 : decode cX7_countOf 0 = .ok (.aload_n 0, 1) := by decide +kernel
theorem dX7_countOf_1 : decode cX7_countOf 1 = .ok (.getfield 9, 3) := by decide +kernel
theorem dX7_countOf_4 : decode cX7_countOf 4 = .ok (.aload_n 0, 1) := by decide +kernel
theorem dX7_countOf_5 : decode cX7_countOf 5 = .ok (.getfield 27, 3) := by decide +kernel
theorem dX7_countOf_8 : decode cX7_countOf 8 = .ok (.iload_n 1, 1) := by decide +kernel
theorem dX7_countOf_9 : decode cX7_countOf 9 = .ok (.invokestatic 35, 3) := by decide +kernel
theorem dX7_countOf_12 : decode cX7_countOf 12 = .ok (.ireturn, 1) := by decide +kernel
theorem dX7_countImpounded_0 : decode cX7_countImpounded 0 = .ok (.aload_n 0, 1) := by decide +kernel
theorem dX7_countImpounded_1 : decode cX7_countImpounded 1 = .ok (.getfield 27, 3) := by decide +kernel
theorem dX7_countImpounded_4 : decode cX7_countImpounded 4 = .ok (.aload_n 0, 1) := by decide +kernel
theorem dX7_countImpounded_5 : decode cX7_countImpounded 5 = .ok (.getfield 24, 3) := by decide +kernel
theorem dX7_countImpounded_8 : decode cX7_countImpounded 8 = .ok (.aload_n 0, 1) := by decide +kernel
theorem dX7_countImpounded_9 : decode cX7_countImpounded 9 = .ok (.getfield 27, 3) := by decide +kernel
theorem dX7_countImpounded_12 : decode cX7_countImpounded 12 = .ok (.bipush (-4), 2) := by decide +kernel
theorem dX7_countImpounded_14 : decode cX7_countImpounded 14 = .ok (.invokestatic 35, 3) := by decide +kernel
theorem dX7_countImpounded_17 : decode cX7_countImpounded 17 = .ok (.isub, 1) := by decide +kernel
theorem dX7_countImpounded_18 : decode cX7_countImpounded 18 = .ok (.ireturn, 1) := by decide +kernel
theorem dX7_impoundedSetOf_0 : decode cX7_impoundedSetOf 0 = .ok (.iconst 0, 1) := by decide +kernel
theorem dX7_impoundedSetOf_1 : decode cX7_impoundedSetOf 1 = .ok (.istore_n 2, 1) := by decide +kernel
theorem dX7_impoundedSetOf_2 : decode cX7_impoundedSetOf 2 = .ok (.iconst 0, 1) := by decide +kernel
theorem dX7_impoundedSetOf_3 : decode cX7_impoundedSetOf 3 = .ok (.istore_n 3, 1) := by decide +kernel
theorem dX7_impoundedSetOf_4 : decode cX7_impoundedSetOf 4 = .ok (.iload_n 3, 1) := by decide +kernel
theorem dX7_impoundedSetOf_5 : decode cX7_impoundedSetOf 5 = .ok (.aload_n 0, 1) := by decide +kernel
theorem dX7_impoundedSetOf_6 : decode cX7_impoundedSetOf 6 = .ok (.getfield 27, 3) := by decide +kernel
theorem dX7_impoundedSetOf_9 : decode cX7_impoundedSetOf 9 = .ok (.if_icmp .ge 33, 3) := by decide +kernel
theorem dX7_impoundedSetOf_12 : decode cX7_impoundedSetOf 12 = .ok (.aload_n 0, 1) := by decide +kernel
theorem dX7_impoundedSetOf_13 : decode cX7_impoundedSetOf 13 = .ok (.getfield 9, 3) := by decide +kernel
theorem dX7_impoundedSetOf_16 : decode cX7_impoundedSetOf 16 = .ok (.iload_n 3, 1) := by decide +kernel
theorem dX7_impoundedSetOf_17 : decode cX7_impoundedSetOf 17 = .ok (.iaload, 1) := by decide +kernel
theorem dX7_impoundedSetOf_18 : decode cX7_impoundedSetOf 18 = .ok (.iload_n 1, 1) := by decide +kernel
theorem dX7_impoundedSetOf_19 : decode cX7_impoundedSetOf 19 = .ok (.if_icmp .ne 17, 3) := by decide +kernel
theorem dX7_impoundedSetOf_22 : decode cX7_impoundedSetOf 22 = .ok (.aload_n 0, 1) := by decide +kernel
theorem dX7_impoundedSetOf_23 : decode cX7_impoundedSetOf 23 = .ok (.iload_n 3, 1) := by decide +kernel
theorem dX7_impoundedSetOf_24 : decode cX7_impoundedSetOf 24 = .ok (.invokevirtual 39, 3) := by decide +kernel
theorem dX7_impoundedSetOf_27 : decode cX7_impoundedSetOf 27 = .ok (.ifCond .eq 9, 3) := by decide +kernel
theorem dX7_impoundedSetOf_30 : decode cX7_impoundedSetOf 30 = .ok (.iload_n 2, 1) := by decide +kernel
theorem dX7_impoundedSetOf_31 : decode cX7_impoundedSetOf 31 = .ok (.iconst 1, 1) := by decide +kernel
theorem dX7_impoundedSetOf_32 : decode cX7_impoundedSetOf 32 = .ok (.iload_n 3, 1) := by decide +kernel
theorem dX7_impoundedSetOf_33 : decode cX7_impoundedSetOf 33 = .ok (.ishl, 1) := by decide +kernel
theorem dX7_impoundedSetOf_34 : decode cX7_impoundedSetOf 34 = .ok (.ior, 1) := by decide +kernel
theorem dX7_impoundedSetOf_35 : decode cX7_impoundedSetOf 35 = .ok (.istore_n 2, 1) := by decide +kernel
theorem dX7_impoundedSetOf_36 : decode cX7_impoundedSetOf 36 = .ok (.iinc 3 1, 3) := by decide +kernel
theorem dX7_impoundedSetOf_39 : decode cX7_impoundedSetOf 39 = .ok (.goto (-35), 3) := by decide +kernel
theorem dX7_impoundedSetOf_42 : decode cX7_impoundedSetOf 42 = .ok (.iload_n 2, 1) := by decide +kernel
theorem dX7_impoundedSetOf_43 : decode cX7_impoundedSetOf 43 = .ok (.ireturn, 1) := by decide +kernel
theorem dX7_impoundAllOf_0 : decode cX7_impoundAllOf 0 = .ok (.iconst 0, 1) := by decide +kernel
theorem dX7_impoundAllOf_1 : decode cX7_impoundAllOf 1 = .ok (.istore_n 2, 1) := by decide +kernel
theorem dX7_impoundAllOf_2 : decode cX7_impoundAllOf 2 = .ok (.iconst 0, 1) := by decide +kernel
theorem dX7_impoundAllOf_3 : decode cX7_impoundAllOf 3 = .ok (.istore_n 3, 1) := by decide +kernel
theorem dX7_impoundAllOf_4 : decode cX7_impoundAllOf 4 = .ok (.iload_n 3, 1) := by decide +kernel
theorem dX7_impoundAllOf_5 : decode cX7_impoundAllOf 5 = .ok (.aload_n 0, 1) := by decide +kernel
theorem dX7_impoundAllOf_6 : decode cX7_impoundAllOf 6 = .ok (.getfield 27, 3) := by decide +kernel
theorem dX7_impoundAllOf_9 : decode cX7_impoundAllOf 9 = .ok (.if_icmp .ge 37, 3) := by decide +kernel
theorem dX7_impoundAllOf_12 : decode cX7_impoundAllOf 12 = .ok (.aload_n 0, 1) := by decide +kernel
theorem dX7_impoundAllOf_13 : decode cX7_impoundAllOf 13 = .ok (.getfield 9, 3) := by decide +kernel
theorem dX7_impoundAllOf_16 : decode cX7_impoundAllOf 16 = .ok (.iload_n 3, 1) := by decide +kernel
theorem dX7_impoundAllOf_17 : decode cX7_impoundAllOf 17 = .ok (.iaload, 1) := by decide +kernel
theorem dX7_impoundAllOf_18 : decode cX7_impoundAllOf 18 = .ok (.iload_n 1, 1) := by decide +kernel
theorem dX7_impoundAllOf_19 : decode cX7_impoundAllOf 19 = .ok (.if_icmp .ne 21, 3) := by decide +kernel
theorem dX7_impoundAllOf_22 : decode cX7_impoundAllOf 22 = .ok (.aload_n 0, 1) := by decide +kernel
theorem dX7_impoundAllOf_23 : decode cX7_impoundAllOf 23 = .ok (.iload_n 3, 1) := by decide +kernel
theorem dX7_impoundAllOf_24 : decode cX7_impoundAllOf 24 = .ok (.invokevirtual 39, 3) := by decide +kernel
theorem dX7_impoundAllOf_27 : decode cX7_impoundAllOf 27 = .ok (.ifCond .ne 13, 3) := by decide +kernel
theorem dX7_impoundAllOf_30 : decode cX7_impoundAllOf 30 = .ok (.aload_n 0, 1) := by decide +kernel
theorem dX7_impoundAllOf_31 : decode cX7_impoundAllOf 31 = .ok (.getfield 24, 3) := by decide +kernel
theorem dX7_impoundAllOf_34 : decode cX7_impoundAllOf 34 = .ok (.iload_n 3, 1) := by decide +kernel
theorem dX7_impoundAllOf_35 : decode cX7_impoundAllOf 35 = .ok (.iconst 0, 1) := by decide +kernel
theorem dX7_impoundAllOf_36 : decode cX7_impoundAllOf 36 = .ok (.iastore, 1) := by decide +kernel
theorem dX7_impoundAllOf_37 : decode cX7_impoundAllOf 37 = .ok (.iinc 2 1, 3) := by decide +kernel
theorem dX7_impoundAllOf_40 : decode cX7_impoundAllOf 40 = .ok (.iinc 3 1, 3) := by decide +kernel
theorem dX7_impoundAllOf_43 : decode cX7_impoundAllOf 43 = .ok (.goto (-39), 3) := by decide +kernel
theorem dX7_impoundAllOf_46 : decode cX7_impoundAllOf 46 = .ok (.iload_n 2, 1) := by decide +kernel
theorem dX7_impoundAllOf_47 : decode cX7_impoundAllOf 47 = .ok (.ireturn, 1) := by decide +kernel
theorem dX8_init_0 : decode cX8_init 0 = .ok (.aload_n 0, 1) := by decide +kernel
theorem dX8_init_1 : decode cX8_init 1 = .ok (.invokespecial 3, 3) := by decide +kernel
theorem dX8_init_4 : decode cX8_init 4 = .ok (.aload_n 0, 1) := by decide +kernel
theorem dX8_init_5 : decode cX8_init 5 = .ok (.getstatic 9, 3) := by decide +kernel
theorem dX8_init_8 : decode cX8_init 8 = .ok (.putfield 15, 3) := by decide +kernel
theorem dX8_init_11 : decode cX8_init 11 = .ok (.aload_n 0, 1) := by decide +kernel
theorem dX8_init_12 : decode cX8_init 12 = .ok (.iconst 3, 1) := by decide +kernel
theorem dX8_init_13 : decode cX8_init 13 = .ok (.newarray .int, 2) := by decide +kernel
theorem dX8_init_15 : decode cX8_init 15 = .ok (.putfield 20, 3) := by decide +kernel
theorem dX8_init_18 : decode cX8_init 18 = .ok (.return_, 1) := by decide +kernel
theorem dX8_countCommands_0 : decode cX8_countCommands 0 = .ok (.iconst 0, 1) := by decide +kernel
theorem dX8_countCommands_1 : decode cX8_countCommands 1 = .ok (.istore_n 2, 1) := by decide +kernel
theorem dX8_countCommands_2 : decode cX8_countCommands 2 = .ok (.iconst 1, 1) := by decide +kernel
theorem dX8_countCommands_3 : decode cX8_countCommands 3 = .ok (.istore_n 3, 1) := by decide +kernel
theorem dX8_countCommands_4 : decode cX8_countCommands 4 = .ok (.iload_n 3, 1) := by decide +kernel
theorem dX8_countCommands_5 : decode cX8_countCommands 5 = .ok (.bipush 60, 2) := by decide +kernel
theorem dX8_countCommands_7 : decode cX8_countCommands 7 = .ok (.if_icmp .gt 57, 3) := by decide +kernel
theorem dX8_countCommands_10 : decode cX8_countCommands 10 = .ok (.aload_n 0, 1) := by decide +kernel
theorem dX8_countCommands_11 : decode cX8_countCommands 11 = .ok (.aload_n 1, 1) := by decide +kernel
theorem dX8_countCommands_12 : decode cX8_countCommands 12 = .ok (.iload_n 2, 1) := by decide +kernel
theorem dX8_countCommands_13 : decode cX8_countCommands 13 = .ok (.invokevirtual 24, 3) := by decide +kernel
theorem dX8_countCommands_16 : decode cX8_countCommands 16 = .ok (.ifCond .ne 6, 3) := by decide +kernel
theorem dX8_countCommands_19 : decode cX8_countCommands 19 = .ok (.bipush (-2), 2) := by decide +kernel
theorem dX8_countCommands_21 : decode cX8_countCommands 21 = .ok (.ireturn, 1) := by decide +kernel
theorem dX8_countCommands_22 : decode cX8_countCommands 22 = .ok (.aload_n 0, 1) := by decide +kernel
theorem dX8_countCommands_23 : decode cX8_countCommands 23 = .ok (.getfield 28, 3) := by decide +kernel
theorem dX8_countCommands_26 : decode cX8_countCommands 26 = .ok (.aload_n 1, 1) := by decide +kernel
theorem dX8_countCommands_27 : decode cX8_countCommands 27 = .ok (.invokevirtual 32, 3) := by decide +kernel
theorem dX8_countCommands_30 : decode cX8_countCommands 30 = .ok (.if_icmp .lt 5, 3) := by decide +kernel
theorem dX8_countCommands_33 : decode cX8_countCommands 33 = .ok (.iload_n 3, 1) := by decide +kernel
theorem dX8_countCommands_34 : decode cX8_countCommands 34 = .ok (.ireturn, 1) := by decide +kernel
theorem dX8_countCommands_35 : decode cX8_countCommands 35 = .ok (.aload_n 1, 1) := by decide +kernel
theorem dX8_countCommands_36 : decode cX8_countCommands 36 = .ok (.aload_n 0, 1) := by decide +kernel
theorem dX8_countCommands_37 : decode cX8_countCommands 37 = .ok (.getfield 28, 3) := by decide +kernel
theorem dX8_countCommands_40 : decode cX8_countCommands 40 = .ok (.invokevirtual 38, 3) := by decide +kernel
theorem dX8_countCommands_43 : decode cX8_countCommands 43 = .ok (.bipush 59, 2) := by decide +kernel
theorem dX8_countCommands_45 : decode cX8_countCommands 45 = .ok (.if_icmp .eq 6, 3) := by decide +kernel
theorem dX8_countCommands_48 : decode cX8_countCommands 48 = .ok (.bipush (-2), 2) := by decide +kernel
theorem dX8_countCommands_50 : decode cX8_countCommands 50 = .ok (.ireturn, 1) := by decide +kernel
theorem dX8_countCommands_51 : decode cX8_countCommands 51 = .ok (.aload_n 0, 1) := by decide +kernel
theorem dX8_countCommands_52 : decode cX8_countCommands 52 = .ok (.getfield 28, 3) := by decide +kernel
theorem dX8_countCommands_55 : decode cX8_countCommands 55 = .ok (.iconst 1, 1) := by decide +kernel
theorem dX8_countCommands_56 : decode cX8_countCommands 56 = .ok (.iadd, 1) := by decide +kernel
theorem dX8_countCommands_57 : decode cX8_countCommands 57 = .ok (.istore_n 2, 1) := by decide +kernel
theorem dX8_countCommands_58 : decode cX8_countCommands 58 = .ok (.iinc 3 1, 3) := by decide +kernel
theorem dX8_countCommands_61 : decode cX8_countCommands 61 = .ok (.goto (-57), 3) := by decide +kernel
theorem dX8_countCommands_64 : decode cX8_countCommands 64 = .ok (.bipush (-2), 2) := by decide +kernel
theorem dX8_countCommands_66 : decode cX8_countCommands 66 = .ok (.ireturn, 1) := by decide +kernel
theorem dX8_findCommand_0 : decode cX8_findCommand 0 = .ok (.aload_n 0, 1) := by decide +kernel
theorem dX8_findCommand_1 : decode cX8_findCommand 1 = .ok (.iload_n 2, 1) := by decide +kernel
theorem dX8_findCommand_2 : decode cX8_findCommand 2 = .ok (.putfield 28, 3) := by decide +kernel
theorem dX8_findCommand_5 : decode cX8_findCommand 5 = .ok (.iconst 0, 1) := by decide +kernel
theorem dX8_findCommand_6 : decode cX8_findCommand 6 = .ok (.istore_n 3, 1) := by decide +kernel
theorem dX8_findCommand_7 : decode cX8_findCommand 7 = .ok (.iload_n 3, 1) := by decide +kernel
theorem dX8_findCommand_8 : decode cX8_findCommand 8 = .ok (.getstatic 42, 3) := by decide +kernel
theorem dX8_findCommand_11 : decode cX8_findCommand 11 = .ok (.arraylength, 1) := by decide +kernel
theorem dX8_findCommand_12 : decode cX8_findCommand 12 = .ok (.if_icmp .ge 37, 3) := by decide +kernel
theorem dX8_findCommand_15 : decode cX8_findCommand 15 = .ok (.aload_n 0, 1) := by decide +kernel
theorem dX8_findCommand_16 : decode cX8_findCommand 16 = .ok (.getstatic 42, 3) := by decide +kernel
theorem dX8_findCommand_19 : decode cX8_findCommand 19 = .ok (.iload_n 3, 1) := by decide +kernel
theorem dX8_findCommand_20 : decode cX8_findCommand 20 = .ok (.aaload, 1) := by decide +kernel
theorem dX8_findCommand_21 : decode cX8_findCommand 21 = .ok (.getfield 46, 3) := by decide +kernel
theorem dX8_findCommand_24 : decode cX8_findCommand 24 = .ok (.aload_n 1, 1) := by decide +kernel
theorem dX8_findCommand_25 : decode cX8_findCommand 25 = .ok (.iload_n 2, 1) := by decide +kernel
theorem dX8_findCommand_26 : decode cX8_findCommand 26 = .ok (.invokevirtual 50, 3) := by decide +kernel
theorem dX8_findCommand_29 : decode cX8_findCommand 29 = .ok (.ifCond .eq 14, 3) := by decide +kernel
theorem dX8_findCommand_32 : decode cX8_findCommand 32 = .ok (.aload_n 0, 1) := by decide +kernel
theorem dX8_findCommand_33 : decode cX8_findCommand 33 = .ok (.getstatic 42, 3) := by decide +kernel
theorem dX8_findCommand_36 : decode cX8_findCommand 36 = .ok (.iload_n 3, 1) := by decide +kernel
theorem dX8_findCommand_37 : decode cX8_findCommand 37 = .ok (.aaload, 1) := by decide +kernel
theorem dX8_findCommand_38 : decode cX8_findCommand 38 = .ok (.putfield 15, 3) := by decide +kernel
theorem dX8_findCommand_41 : decode cX8_findCommand 41 = .ok (.iconst 1, 1) := by decide +kernel
theorem dX8_findCommand_42 : decode cX8_findCommand 42 = .ok (.ireturn, 1) := by decide +kernel
theorem dX8_findCommand_43 : decode cX8_findCommand 43 = .ok (.iinc 3 1, 3) := by decide +kernel
theorem dX8_findCommand_46 : decode cX8_findCommand 46 = .ok (.goto (-39), 3) := by decide +kernel
theorem dX8_findCommand_49 : decode cX8_findCommand 49 = .ok (.iconst 0, 1) := by decide +kernel
theorem dX8_findCommand_50 : decode cX8_findCommand 50 = .ok (.ireturn, 1) := by decide +kernel
theorem dX8_follows_0 : decode cX8_follows 0 = .ok (.iload_n 3, 1) := by decide +kernel
theorem dX8_follows_1 : decode cX8_follows 1 = .ok (.istore 4, 2) := by decide +kernel
theorem dX8_follows_3 : decode cX8_follows 3 = .ok (.iconst 0, 1) := by decide +kernel
theorem dX8_follows_4 : decode cX8_follows 4 = .ok (.istore 5, 2) := by decide +kernel
theorem dX8_follows_6 : decode cX8_follows 6 = .ok (.iconst 0, 1) := by decide +kernel
theorem dX8_follows_7 : decode cX8_follows 7 = .ok (.istore 6, 2) := by decide +kernel
theorem dX8_follows_9 : decode cX8_follows 9 = .ok (.iload 6, 2) := by decide +kernel
theorem dX8_follows_11 : decode cX8_follows 11 = .ok (.aload_n 1, 1) := by decide +kernel
theorem dX8_follows_12 : decode cX8_follows 12 = .ok (.invokevirtual 54, 3) := by decide +kernel
theorem dX8_follows_15 : decode cX8_follows 15 = .ok (.if_icmp .ge 171, 3) := by decide +kernel
theorem dX8_follows_18 : decode cX8_follows 18 = .ok (.aload_n 1, 1) := by decide +kernel
theorem dX8_follows_19 : decode cX8_follows 19 = .ok (.iload 6, 2) := by decide +kernel
theorem dX8_follows_21 : decode cX8_follows 21 = .ok (.invokevirtual 57, 3) := by decide +kernel
theorem dX8_follows_24 : decode cX8_follows 24 = .ok (.istore 7, 2) := by decide +kernel
theorem dX8_follows_26 : decode cX8_follows 26 = .ok (.iload 4, 2) := by decide +kernel
theorem dX8_follows_28 : decode cX8_follows 28 = .ok (.aload_n 2, 1) := by decide +kernel
theorem dX8_follows_29 : decode cX8_follows 29 = .ok (.invokevirtual 32, 3) := by decide +kernel
theorem dX8_follows_32 : decode cX8_follows 32 = .ok (.if_icmp .ge 17, 3) := by decide +kernel
theorem dX8_follows_35 : decode cX8_follows 35 = .ok (.aload_n 2, 1) := by decide +kernel
theorem dX8_follows_36 : decode cX8_follows 36 = .ok (.iload 4, 2) := by decide +kernel
theorem dX8_follows_38 : decode cX8_follows 38 = .ok (.invokevirtual 38, 3) := by decide +kernel
theorem dX8_follows_41 : decode cX8_follows 41 = .ok (.iload 7, 2) := by decide +kernel
theorem dX8_follows_43 : decode cX8_follows 43 = .ok (.invokestatic 58, 3) := by decide +kernel
theorem dX8_follows_46 : decode cX8_follows 46 = .ok (.ifCond .ne 18, 3) := by decide +kernel
theorem dX8_follows_49 : decode cX8_follows 49 = .ok (.aload_n 0, 1) := by decide +kernel
theorem dX8_follows_50 : decode cX8_follows 50 = .ok (.aload_n 0, 1) := by decide +kernel
theorem dX8_follows_51 : decode cX8_follows 51 = .ok (.getfield 28, 3) := by decide +kernel
theorem dX8_follows_54 : decode cX8_follows 54 = .ok (.iload 4, 2) := by decide +kernel
theorem dX8_follows_56 : decode cX8_follows 56 = .ok (.invokestatic 62, 3) := by decide +kernel
theorem dX8_follows_59 : decode cX8_follows 59 = .ok (.putfield 28, 3) := by decide +kernel
theorem dX8_follows_62 : decode cX8_follows 62 = .ok (.iconst 0, 1) := by decide +kernel
theorem dX8_follows_63 : decode cX8_follows 63 = .ok (.ireturn, 1) := by decide +kernel
theorem dX8_follows_64 : decode cX8_follows 64 = .ok (.iload 7, 2) := by decide +kernel
theorem dX8_follows_66 : decode cX8_follows 66 = .ok (.invokestatic 68, 3) := by decide +kernel
theorem dX8_follows_69 : decode cX8_follows 69 = .ok (.ifCond .eq 108, 3) := by decide +kernel
theorem dX8_follows_72 : decode cX8_follows 72 = .ok (.iload 5, 2) := by decide +kernel
theorem dX8_follows_74 : decode cX8_follows 74 = .ok (.aload_n 0, 1) := by decide +kernel
theorem dX8_follows_75 : decode cX8_follows 75 = .ok (.getfield 20, 3) := by decide +kernel
theorem dX8_follows_78 : decode cX8_follows 78 = .ok (.arraylength, 1) := by decide +kernel
theorem dX8_follows_79 : decode cX8_follows 79 = .ok (.if_icmp .ge 98, 3) := by decide +kernel
theorem dX8_follows_82 : decode cX8_follows 82 = .ok (.aload_n 0, 1) := by decide +kernel
theorem dX8_follows_83 : decode cX8_follows 83 = .ok (.getfield 20, 3) := by decide +kernel
theorem dX8_follows_86 : decode cX8_follows 86 = .ok (.iload 5, 2) := by decide +kernel
theorem dX8_follows_88 : decode cX8_follows 88 = .ok (.aload_n 2, 1) := by decide +kernel
theorem dX8_follows_89 : decode cX8_follows 89 = .ok (.iload 4, 2) := by decide +kernel
theorem dX8_follows_91 : decode cX8_follows 91 = .ok (.invokevirtual 38, 3) := by decide +kernel
theorem dX8_follows_94 : decode cX8_follows 94 = .ok (.iload 7, 2) := by decide +kernel
theorem dX8_follows_96 : decode cX8_follows 96 = .ok (.bipush 76, 2) := by decide +kernel
theorem dX8_follows_98 : decode cX8_follows 98 = .ok (.if_icmp .ne 8, 3) := by decide +kernel
theorem dX8_follows_101 : decode cX8_follows 101 = .ok (.bipush 97, 2) := by decide +kernel
theorem dX8_follows_103 : decode cX8_follows 103 = .ok (.goto 5, 3) := by decide +kernel
theorem dX8_follows_106 : decode cX8_follows 106 = .ok (.bipush 48, 2) := by decide +kernel
theorem dX8_follows_108 : decode cX8_follows 108 = .ok (.isub, 1) := by decide +kernel
theorem dX8_follows_109 : decode cX8_follows 109 = .ok (.iastore, 1) := by decide +kernel
theorem dX8_follows_110 : decode cX8_follows 110 = .ok (.iload 7, 2) := by decide +kernel
theorem dX8_follows_112 : decode cX8_follows 112 = .ok (.bipush 78, 2) := by decide +kernel
theorem dX8_follows_114 : decode cX8_follows 114 = .ok (.if_icmp .ne 60, 3) := by decide +kernel
theorem dX8_follows_117 : decode cX8_follows 117 = .ok (.iload 4, 2) := by decide +kernel
theorem dX8_follows_119 : decode cX8_follows 119 = .ok (.iconst 1, 1) := by decide +kernel
theorem dX8_follows_120 : decode cX8_follows 120 = .ok (.iadd, 1) := by decide +kernel
theorem dX8_follows_121 : decode cX8_follows 121 = .ok (.aload_n 2, 1) := by decide +kernel
theorem dX8_follows_122 : decode cX8_follows 122 = .ok (.invokevirtual 32, 3) := by decide +kernel
theorem dX8_follows_125 : decode cX8_follows 125 = .ok (.if_icmp .ge 49, 3) := by decide +kernel
theorem dX8_follows_128 : decode cX8_follows 128 = .ok (.aload_n 2, 1) := by decide +kernel
theorem dX8_follows_129 : decode cX8_follows 129 = .ok (.iload 4, 2) := by decide +kernel
theorem dX8_follows_131 : decode cX8_follows 131 = .ok (.iconst 1, 1) := by decide +kernel
theorem dX8_follows_132 : decode cX8_follows 132 = .ok (.iadd, 1) := by decide +kernel
theorem dX8_follows_133 : decode cX8_follows 133 = .ok (.invokevirtual 38, 3) := by decide +kernel
theorem dX8_follows_136 : decode cX8_follows 136 = .ok (.bipush 68, 2) := by decide +kernel
theorem dX8_follows_138 : decode cX8_follows 138 = .ok (.invokestatic 58, 3) := by decide +kernel
theorem dX8_follows_141 : decode cX8_follows 141 = .ok (.ifCond .eq 33, 3) := by decide +kernel
theorem dX8_follows_144 : decode cX8_follows 144 = .ok (.iinc 4 1, 3) := by decide +kernel
theorem dX8_follows_147 : decode cX8_follows 147 = .ok (.aload_n 0, 1) := by decide +kernel
theorem dX8_follows_148 : decode cX8_follows 148 = .ok (.getfield 20, 3) := by decide +kernel
theorem dX8_follows_151 : decode cX8_follows 151 = .ok (.iload 5, 2) := by decide +kernel
theorem dX8_follows_153 : decode cX8_follows 153 = .ok (.bipush 10, 2) := by decide +kernel
theorem dX8_follows_155 : decode cX8_follows 155 = .ok (.aload_n 0, 1) := by decide +kernel
theorem dX8_follows_156 : decode cX8_follows 156 = .ok (.getfield 20, 3) := by decide +kernel
theorem dX8_follows_159 : decode cX8_follows 159 = .ok (.iload 5, 2) := by decide +kernel
theorem dX8_follows_161 : decode cX8_follows 161 = .ok (.iaload, 1) := by decide +kernel
theorem dX8_follows_162 : decode cX8_follows 162 = .ok (.imul, 1) := by decide +kernel
theorem dX8_follows_163 : decode cX8_follows 163 = .ok (.aload_n 2, 1) := by decide +kernel
theorem dX8_follows_164 : decode cX8_follows 164 = .ok (.iload 4, 2) := by decide +kernel
theorem dX8_follows_166 : decode cX8_follows 166 = .ok (.invokevirtual 38, 3) := by decide +kernel
theorem dX8_follows_169 : decode cX8_follows 169 = .ok (.iadd, 1) := by decide +kernel
theorem dX8_follows_170 : decode cX8_follows 170 = .ok (.bipush 48, 2) := by decide +kernel
theorem dX8_follows_172 : decode cX8_follows 172 = .ok (.isub, 1) := by decide +kernel
theorem dX8_follows_173 : decode cX8_follows 173 = .ok (.iastore, 1) := by decide +kernel
theorem dX8_follows_174 : decode cX8_follows 174 = .ok (.iinc 5 1, 3) := by decide +kernel
theorem dX8_follows_177 : decode cX8_follows 177 = .ok (.iinc 4 1, 3) := by decide +kernel
theorem dX8_follows_180 : decode cX8_follows 180 = .ok (.iinc 6 1, 3) := by decide +kernel
theorem dX8_follows_183 : decode cX8_follows 183 = .ok (.goto (-174), 3) := by decide +kernel
theorem dX8_follows_186 : decode cX8_follows 186 = .ok (.aload_n 0, 1) := by decide +kernel
theorem dX8_follows_187 : decode cX8_follows 187 = .ok (.iload 4, 2) := by decide +kernel
theorem dX8_follows_189 : decode cX8_follows 189 = .ok (.putfield 28, 3) := by decide +kernel
theorem dX8_follows_192 : decode cX8_follows 192 = .ok (.iconst 1, 1) := by decide +kernel
theorem dX8_follows_193 : decode cX8_follows 193 = .ok (.ireturn, 1) := by decide +kernel
theorem dX8_isPlace_0 : decode cX8_isPlace 0 = .ok (.iload_n 0, 1) := by decide +kernel
theorem dX8_isPlace_1 : decode cX8_isPlace 1 = .ok (.bipush 68, 2) := by decide +kernel
theorem dX8_isPlace_3 : decode cX8_isPlace 3 = .ok (.if_icmp .eq 15, 3) := by decide +kernel
theorem dX8_isPlace_6 : decode cX8_isPlace 6 = .ok (.iload_n 0, 1) := by decide +kernel
theorem dX8_isPlace_7 : decode cX8_isPlace 7 = .ok (.bipush 78, 2) := by decide +kernel
theorem dX8_isPlace_9 : decode cX8_isPlace 9 = .ok (.if_icmp .eq 9, 3) := by decide +kernel
theorem dX8_isPlace_12 : decode cX8_isPlace 12 = .ok (.iload_n 0, 1) := by decide +kernel
theorem dX8_isPlace_13 : decode cX8_isPlace 13 = .ok (.bipush 76, 2) := by decide +kernel
theorem dX8_isPlace_15 : decode cX8_isPlace 15 = .ok (.if_icmp .ne 7, 3) := by decide +kernel
theorem dX8_isPlace_18 : decode cX8_isPlace 18 = .ok (.iconst 1, 1) := by decide +kernel
theorem dX8_isPlace_19 : decode cX8_isPlace 19 = .ok (.goto 4, 3) := by decide +kernel
theorem dX8_isPlace_22 : decode cX8_isPlace 22 = .ok (.iconst 0, 1) := by decide +kernel
theorem dX8_isPlace_23 : decode cX8_isPlace 23 = .ok (.ireturn, 1) := by decide +kernel
theorem dX8_fits_0 : decode cX8_fits 0 = .ok (.iload_n 1, 1) := by decide +kernel
theorem dX8_fits_1 : decode cX8_fits 1 = .ok (.bipush 76, 2) := by decide +kernel
theorem dX8_fits_3 : decode cX8_fits 3 = .ok (.if_icmp .ne 12, 3) := by decide +kernel
theorem dX8_fits_6 : decode cX8_fits 6 = .ok (.iload_n 0, 1) := by decide +kernel
theorem dX8_fits_7 : decode cX8_fits 7 = .ok (.bipush 97, 2) := by decide +kernel
theorem dX8_fits_9 : decode cX8_fits 9 = .ok (.bipush 104, 2) := by decide +kernel
theorem dX8_fits_11 : decode cX8_fits 11 = .ok (.invokestatic 72, 3) := by decide +kernel
theorem dX8_fits_14 : decode cX8_fits 14 = .ok (.ireturn, 1) := by decide +kernel
theorem dX8_fits_15 : decode cX8_fits 15 = .ok (.iload_n 1, 1) := by decide +kernel
theorem dX8_fits_16 : decode cX8_fits 16 = .ok (.invokestatic 68, 3) := by decide +kernel
theorem dX8_fits_19 : decode cX8_fits 19 = .ok (.ifCond .eq 14, 3) := by decide +kernel
theorem dX8_fits_22 : decode cX8_fits 22 = .ok (.iload_n 0, 1) := by decide +kernel
theorem dX8_fits_23 : decode cX8_fits 23 = .ok (.bipush 48, 2) := by decide +kernel
theorem dX8_fits_25 : decode cX8_fits 25 = .ok (.bipush 57, 2) := by decide +kernel
theorem dX8_fits_27 : decode cX8_fits 27 = .ok (.invokestatic 72, 3) := by decide +kernel
theorem dX8_fits_30 : decode cX8_fits 30 = .ok (.goto 13, 3) := by decide +kernel
theorem dX8_fits_33 : decode cX8_fits 33 = .ok (.iload_n 0, 1) := by decide +kernel
theorem dX8_fits_34 : decode cX8_fits 34 = .ok (.iload_n 1, 1) := by decide +kernel
theorem dX8_fits_35 : decode cX8_fits 35 = .ok (.if_icmp .ne 7, 3) := by decide +kernel
theorem dX8_fits_38 : decode cX8_fits 38 = .ok (.iconst 1, 1) := by decide +kernel
theorem dX8_fits_39 : decode cX8_fits 39 = .ok (.goto 4, 3) := by decide +kernel
theorem dX8_fits_42 : decode cX8_fits 42 = .ok (.iconst 0, 1) := by decide +kernel
theorem dX8_fits_43 : decode cX8_fits 43 = .ok (.ireturn, 1) := by decide +kernel
theorem dX9_init_0 : decode cX9_init 0 = .ok (.aload_n 0, 1) := by decide +kernel
theorem dX9_init_1 : decode cX9_init 1 = .ok (.invokespecial 3, 3) := by decide +kernel
theorem dX9_init_4 : decode cX9_init 4 = .ok (.aload_n 0, 1) := by decide +kernel
theorem dX9_init_5 : decode cX9_init 5 = .ok (.new 9, 3) := by decide +kernel
theorem dX9_init_8 : decode cX9_init 8 = .ok (.dup, 1) := by decide +kernel
theorem dX9_init_9 : decode cX9_init 9 = .ok (.invokespecial 11, 3) := by decide +kernel
theorem dX9_init_12 : decode cX9_init 12 = .ok (.putfield 12, 3) := by decide +kernel
theorem dX9_init_15 : decode cX9_init 15 = .ok (.aload_n 0, 1) := by decide +kernel
theorem dX9_init_16 : decode cX9_init 16 = .ok (.new 9, 3) := by decide +kernel
theorem dX9_init_19 : decode cX9_init 19 = .ok (.dup, 1) := by decide +kernel
theorem dX9_init_20 : decode cX9_init 20 = .ok (.invokespecial 11, 3) := by decide +kernel
theorem dX9_init_23 : decode cX9_init 23 = .ok (.putfield 16, 3) := by decide +kernel
theorem dX9_init_26 : decode cX9_init 26 = .ok (.aload_n 0, 1) := by decide +kernel
theorem dX9_init_27 : decode cX9_init 27 = .ok (.new 19, 3) := by decide +kernel
theorem dX9_init_30 : decode cX9_init 30 = .ok (.dup, 1) := by decide +kernel
theorem dX9_init_31 : decode cX9_init 31 = .ok (.invokespecial 21, 3) := by decide +kernel
theorem dX9_init_34 : decode cX9_init 34 = .ok (.putfield 22, 3) := by decide +kernel
theorem dX9_init_37 : decode cX9_init 37 = .ok (.aload_n 0, 1) := by decide +kernel
theorem dX9_init_38 : decode cX9_init 38 = .ok (.new 26, 3) := by decide +kernel
theorem dX9_init_41 : decode cX9_init 41 = .ok (.dup, 1) := by decide +kernel
theorem dX9_init_42 : decode cX9_init 42 = .ok (.invokespecial 28, 3) := by decide +kernel
theorem dX9_init_45 : decode cX9_init 45 = .ok (.putfield 29, 3) := by decide +kernel
theorem dX9_init_48 : decode cX9_init 48 = .ok (.aload_n 0, 1) := by decide +kernel
theorem dX9_init_49 : decode cX9_init 49 = .ok (.new 33, 3) := by decide +kernel
theorem dX9_init_52 : decode cX9_init 52 = .ok (.dup, 1) := by decide +kernel
theorem dX9_init_53 : decode cX9_init 53 = .ok (.invokespecial 35, 3) := by decide +kernel
theorem dX9_init_56 : decode cX9_init 56 = .ok (.putfield 36, 3) := by decide +kernel
theorem dX9_init_59 : decode cX9_init 59 = .ok (.aload_n 0, 1) := by decide +kernel
theorem dX9_init_60 : decode cX9_init 60 = .ok (.new 40, 3) := by decide +kernel
theorem dX9_init_63 : decode cX9_init 63 = .ok (.dup, 1) := by decide +kernel
theorem dX9_init_64 : decode cX9_init 64 = .ok (.invokespecial 42, 3) := by decide +kernel
theorem dX9_init_67 : decode cX9_init 67 = .ok (.putfield 43, 3) := by decide +kernel
theorem dX9_init_70 : decode cX9_init 70 = .ok (.aload_n 0, 1) := by decide +kernel
theorem dX9_init_71 : decode cX9_init 71 = .ok (.new 40, 3) := by decide +kernel
theorem dX9_init_74 : decode cX9_init 74 = .ok (.dup, 1) := by decide +kernel
theorem dX9_init_75 : decode cX9_init 75 = .ok (.invokespecial 42, 3) := by decide +kernel
theorem dX9_init_78 : decode cX9_init 78 = .ok (.putfield 47, 3) := by decide +kernel
theorem dX9_init_81 : decode cX9_init 81 = .ok (.aload_n 0, 1) := by decide +kernel
theorem dX9_init_82 : decode cX9_init 82 = .ok (.bipush (-4), 2) := by decide +kernel
theorem dX9_init_84 : decode cX9_init 84 = .ok (.putfield 50, 3) := by decide +kernel
theorem dX9_init_87 : decode cX9_init 87 = .ok (.return_, 1) := by decide +kernel
theorem dX9_append_0 : decode cX9_append 0 = .ok (.iload_n 1, 1) := by decide +kernel
theorem dX9_append_1 : decode cX9_append 1 = .ok (.bipush 32, 2) := by decide +kernel
theorem dX9_append_3 : decode cX9_append 3 = .ok (.bipush 126, 2) := by decide +kernel
theorem dX9_append_5 : decode cX9_append 5 = .ok (.invokestatic 69, 3) := by decide +kernel
theorem dX9_append_8 : decode cX9_append 8 = .ok (.ifCond .eq 15, 3) := by decide +kernel
theorem dX9_append_11 : decode cX9_append 11 = .ok (.aload_n 0, 1) := by decide +kernel
theorem dX9_append_12 : decode cX9_append 12 = .ok (.getfield 43, 3) := by decide +kernel
theorem dX9_append_15 : decode cX9_append 15 = .ok (.invokevirtual 73, 3) := by decide +kernel
theorem dX9_append_18 : decode cX9_append 18 = .ok (.bipush 60, 2) := by decide +kernel
theorem dX9_append_20 : decode cX9_append 20 = .ok (.if_icmp .lt 6, 3) := by decide +kernel
theorem dX9_append_23 : decode cX9_append 23 = .ok (.bipush (-2), 2) := by decide +kernel
theorem dX9_append_25 : decode cX9_append 25 = .ok (.ireturn, 1) := by decide +kernel
theorem dX9_append_26 : decode cX9_append 26 = .ok (.aload_n 0, 1) := by decide +kernel
theorem dX9_append_27 : decode cX9_append 27 = .ok (.getfield 43, 3) := by decide +kernel
theorem dX9_append_30 : decode cX9_append 30 = .ok (.iload_n 1, 1) := by decide +kernel
theorem dX9_append_31 : decode cX9_append 31 = .ok (.invokevirtual 77, 3) := by decide +kernel
theorem dX9_append_34 : decode cX9_append 34 = .ok (.pop, 1) := by decide +kernel
theorem dX9_append_35 : decode cX9_append 35 = .ok (.aload_n 0, 1) := by decide +kernel
theorem dX9_append_36 : decode cX9_append 36 = .ok (.getfield 43, 3) := by decide +kernel
theorem dX9_append_39 : decode cX9_append 39 = .ok (.invokevirtual 73, 3) := by decide +kernel
theorem dX9_append_42 : decode cX9_append 42 = .ok (.ireturn, 1) := by decide +kernel
theorem dX9_star_0 : decode cX9_star 0 = .ok (.aload_n 0, 1) := by decide +kernel
theorem dX9_star_1 : decode cX9_star 1 = .ok (.getstatic 81, 3) := by decide +kernel
theorem dX9_star_4 : decode cX9_star 4 = .ok (.iload_n 1, 1) := by decide +kernel
theorem dX9_star_5 : decode cX9_star 5 = .ok (.iload_n 2, 1) := by decide +kernel
theorem dX9_star_6 : decode cX9_star 6 = .ok (.iconst 0, 1) := by decide +kernel
theorem dX9_star_7 : decode cX9_star 7 = .ok (.invokevirtual 87, 3) := by decide +kernel
theorem dX9_star_10 : decode cX9_star 10 = .ok (.ireturn, 1) := by decide +kernel
theorem dX9_roof_0 : decode cX9_roof 0 = .ok (.aload_n 0, 1) := by decide +kernel
theorem dX9_roof_1 : decode cX9_roof 1 = .ok (.getstatic 91, 3) := by decide +kernel
theorem dX9_roof_4 : decode cX9_roof 4 = .ok (.iload_n 1, 1) := by decide +kernel
theorem dX9_roof_5 : decode cX9_roof 5 = .ok (.iconst 0, 1) := by decide +kernel
theorem dX9_roof_6 : decode cX9_roof 6 = .ok (.iconst 0, 1) := by decide +kernel
theorem dX9_roof_7 : decode cX9_roof 7 = .ok (.invokevirtual 87, 3) := by decide +kernel
theorem dX9_roof_10 : decode cX9_roof 10 = .ok (.ireturn, 1) := by decide +kernel
theorem dX9_cloud_0 : decode cX9_cloud 0 = .ok (.aload_n 0, 1) := by decide +kernel
theorem dX9_cloud_1 : decode cX9_cloud 1 = .ok (.getstatic 94, 3) := by decide +kernel
theorem dX9_cloud_4 : decode cX9_cloud 4 = .ok (.iload_n 1, 1) := by decide +kernel
theorem dX9_cloud_5 : decode cX9_cloud 5 = .ok (.iload_n 2, 1) := by decide +kernel
theorem dX9_cloud_6 : decode cX9_cloud 6 = .ok (.iconst 0, 1) := by decide +kernel
theorem dX9_cloud_7 : decode cX9_cloud 7 = .ok (.invokevirtual 87, 3) := by decide +kernel
theorem dX9_cloud_10 : decode cX9_cloud 10 = .ok (.ireturn, 1) := by decide +kernel
theorem dX9_sight_0 : decode cX9_sight 0 = .ok (.aload_n 0, 1) := by decide +kernel
theorem dX9_sight_1 : decode cX9_sight 1 = .ok (.getstatic 97, 3) := by decide +kernel
theorem dX9_sight_4 : decode cX9_sight 4 = .ok (.iload_n 1, 1) := by decide +kernel
theorem dX9_sight_5 : decode cX9_sight 5 = .ok (.iload_n 2, 1) := by decide +kernel
theorem dX9_sight_6 : decode cX9_sight 6 = .ok (.iconst 0, 1) := by decide +kernel
theorem dX9_sight_7 : decode cX9_sight 7 = .ok (.invokevirtual 87, 3) := by decide +kernel
theorem dX9_sight_10 : decode cX9_sight 10 = .ok (.ireturn, 1) := by decide +kernel
theorem dX9_claim_0 : decode cX9_claim 0 = .ok (.aload_n 0, 1) := by decide +kernel
theorem dX9_claim_1 : decode cX9_claim 1 = .ok (.getstatic 100, 3) := by decide +kernel
theorem dX9_claim_4 : decode cX9_claim 4 = .ok (.iload_n 1, 1) := by decide +kernel
theorem dX9_claim_5 : decode cX9_claim 5 = .ok (.iload_n 2, 1) := by decide +kernel
theorem dX9_claim_6 : decode cX9_claim 6 = .ok (.iconst 0, 1) := by decide +kernel
theorem dX9_claim_7 : decode cX9_claim 7 = .ok (.invokevirtual 87, 3) := by decide +kernel
theorem dX9_claim_10 : decode cX9_claim 10 = .ok (.ireturn, 1) := by decide +kernel
theorem dX9_drop_0 : decode cX9_drop 0 = .ok (.aload_n 0, 1) := by decide +kernel
theorem dX9_drop_1 : decode cX9_drop 1 = .ok (.getstatic 103, 3) := by decide +kernel
theorem dX9_drop_4 : decode cX9_drop 4 = .ok (.iload_n 1, 1) := by decide +kernel
theorem dX9_drop_5 : decode cX9_drop 5 = .ok (.iconst 0, 1) := by decide +kernel
theorem dX9_drop_6 : decode cX9_drop 6 = .ok (.iconst 0, 1) := by decide +kernel
theorem dX9_drop_7 : decode cX9_drop 7 = .ok (.invokevirtual 87, 3) := by decide +kernel
theorem dX9_drop_10 : decode cX9_drop 10 = .ok (.ireturn, 1) := by decide +kernel
theorem dX9_wish_0 : decode cX9_wish 0 = .ok (.aload_n 0, 1) := by decide +kernel
theorem dX9_wish_1 : decode cX9_wish 1 = .ok (.getstatic 106, 3) := by decide +kernel
theorem dX9_wish_4 : decode cX9_wish 4 = .ok (.iload_n 1, 1) := by decide +kernel
theorem dX9_wish_5 : decode cX9_wish 5 = .ok (.iload_n 2, 1) := by decide +kernel
theorem dX9_wish_6 : decode cX9_wish 6 = .ok (.iload_n 3, 1) := by decide +kernel
theorem dX9_wish_7 : decode cX9_wish 7 = .ok (.invokevirtual 87, 3) := by decide +kernel
theorem dX9_wish_10 : decode cX9_wish 10 = .ok (.ireturn, 1) := by decide +kernel
theorem dX9_pay_0 : decode cX9_pay 0 = .ok (.aload_n 0, 1) := by decide +kernel
theorem dX9_pay_1 : decode cX9_pay 1 = .ok (.getstatic 109, 3) := by decide +kernel
theorem dX9_pay_4 : decode cX9_pay 4 = .ok (.iload_n 1, 1) := by decide +kernel
theorem dX9_pay_5 : decode cX9_pay 5 = .ok (.iload_n 2, 1) := by decide +kernel
theorem dX9_pay_6 : decode cX9_pay 6 = .ok (.iconst 0, 1) := by decide +kernel
theorem dX9_pay_7 : decode cX9_pay 7 = .ok (.invokevirtual 87, 3) := by decide +kernel
theorem dX9_pay_10 : decode cX9_pay 10 = .ok (.ireturn, 1) := by decide +kernel
theorem dX9_pound_0 : decode cX9_pound 0 = .ok (.aload_n 0, 1) := by decide +kernel
theorem dX9_pound_1 : decode cX9_pound 1 = .ok (.getstatic 112, 3) := by decide +kernel
theorem dX9_pound_4 : decode cX9_pound 4 = .ok (.iload_n 1, 1) := by decide +kernel
theorem dX9_pound_5 : decode cX9_pound 5 = .ok (.iconst 0, 1) := by decide +kernel
theorem dX9_pound_6 : decode cX9_pound 6 = .ok (.iconst 0, 1) := by decide +kernel
theorem dX9_pound_7 : decode cX9_pound 7 = .ok (.invokevirtual 87, 3) := by decide +kernel
theorem dX9_pound_10 : decode cX9_pound 10 = .ok (.ireturn, 1) := by decide +kernel
theorem dX9_redeem_0 : decode cX9_redeem 0 = .ok (.aload_n 0, 1) := by decide +kernel
theorem dX9_redeem_1 : decode cX9_redeem 1 = .ok (.getstatic 115, 3) := by decide +kernel
theorem dX9_redeem_4 : decode cX9_redeem 4 = .ok (.iload_n 1, 1) := by decide +kernel
theorem dX9_redeem_5 : decode cX9_redeem 5 = .ok (.iconst 0, 1) := by decide +kernel
theorem dX9_redeem_6 : decode cX9_redeem 6 = .ok (.iconst 0, 1) := by decide +kernel
theorem dX9_redeem_7 : decode cX9_redeem 7 = .ok (.invokevirtual 87, 3) := by decide +kernel
theorem dX9_redeem_10 : decode cX9_redeem 10 = .ok (.ireturn, 1) := by decide +kernel
theorem dX9_stay_0 : decode cX9_stay 0 = .ok (.aload_n 0, 1) := by decide +kernel
theorem dX9_stay_1 : decode cX9_stay 1 = .ok (.getstatic 118, 3) := by decide +kernel
theorem dX9_stay_4 : decode cX9_stay 4 = .ok (.iload_n 1, 1) := by decide +kernel
theorem dX9_stay_5 : decode cX9_stay 5 = .ok (.iload_n 2, 1) := by decide +kernel
theorem dX9_stay_6 : decode cX9_stay 6 = .ok (.iconst 0, 1) := by decide +kernel
theorem dX9_stay_7 : decode cX9_stay 7 = .ok (.invokevirtual 87, 3) := by decide +kernel
theorem dX9_stay_10 : decode cX9_stay 10 = .ok (.ireturn, 1) := by decide +kernel
theorem dX9_dawn_0 : decode cX9_dawn 0 = .ok (.aload_n 0, 1) := by decide +kernel
theorem dX9_dawn_1 : decode cX9_dawn 1 = .ok (.getstatic 121, 3) := by decide +kernel
theorem dX9_dawn_4 : decode cX9_dawn 4 = .ok (.iconst 0, 1) := by decide +kernel
theorem dX9_dawn_5 : decode cX9_dawn 5 = .ok (.iconst 0, 1) := by decide +kernel
theorem dX9_dawn_6 : decode cX9_dawn 6 = .ok (.iconst 0, 1) := by decide +kernel
theorem dX9_dawn_7 : decode cX9_dawn 7 = .ok (.invokevirtual 87, 3) := by decide +kernel
theorem dX9_dawn_10 : decode cX9_dawn 10 = .ok (.ireturn, 1) := by decide +kernel
theorem dX9_read_0 : decode cX9_read 0 = .ok (.aload_n 0, 1) := by decide +kernel
theorem dX9_read_1 : decode cX9_read 1 = .ok (.invokevirtual 124, 3) := by decide +kernel
theorem dX9_read_4 : decode cX9_read 4 = .ok (.istore_n 1, 1) := by decide +kernel
theorem dX9_read_5 : decode cX9_read 5 = .ok (.aload_n 0, 1) := by decide +kernel
theorem dX9_read_6 : decode cX9_read 6 = .ok (.getfield 43, 3) := by decide +kernel
theorem dX9_read_9 : decode cX9_read 9 = .ok (.iconst 0, 1) := by decide +kernel
theorem dX9_read_10 : decode cX9_read 10 = .ok (.invokevirtual 127, 3) := by decide +kernel
theorem dX9_read_13 : decode cX9_read 13 = .ok (.iload_n 1, 1) := by decide +kernel
theorem dX9_read_14 : decode cX9_read 14 = .ok (.ireturn, 1) := by decide +kernel
theorem dX9_reason_0 : decode cX9_reason 0 = .ok (.aload_n 0, 1) := by decide +kernel
theorem dX9_reason_1 : decode cX9_reason 1 = .ok (.getfield 29, 3) := by decide +kernel
theorem dX9_reason_4 : decode cX9_reason 4 = .ok (.iload_n 1, 1) := by decide +kernel
theorem dX9_reason_5 : decode cX9_reason 5 = .ok (.iload_n 2, 1) := by decide +kernel
theorem dX9_reason_6 : decode cX9_reason 6 = .ok (.invokevirtual 131, 3) := by decide +kernel
theorem dX9_reason_9 : decode cX9_reason 9 = .ok (.ireturn, 1) := by decide +kernel
theorem dX9_starOf_0 : decode cX9_starOf 0 = .ok (.aload_n 0, 1) := by decide +kernel
theorem dX9_starOf_1 : decode cX9_starOf 1 = .ok (.getfield 12, 3) := by decide +kernel
theorem dX9_starOf_4 : decode cX9_starOf 4 = .ok (.getfield 54, 3) := by decide +kernel
theorem dX9_starOf_7 : decode cX9_starOf 7 = .ok (.iload_n 1, 1) := by decide +kernel
theorem dX9_starOf_8 : decode cX9_starOf 8 = .ok (.invokevirtual 135, 3) := by decide +kernel
theorem dX9_starOf_11 : decode cX9_starOf 11 = .ok (.ifCond .ne 5, 3) := by decide +kernel
theorem dX9_starOf_14 : decode cX9_starOf 14 = .ok (.iconst (-1), 1) := by decide +kernel
theorem dX9_starOf_15 : decode cX9_starOf 15 = .ok (.ireturn, 1) := by decide +kernel
theorem dX9_starOf_16 : decode cX9_starOf 16 = .ok (.iload_n 2, 1) := by decide +kernel
theorem dX9_starOf_17 : decode cX9_starOf 17 = .ok (.tableswitch 123 0 5 #[39, 52, 65, 85, 98, 111], 39) := by decide +kernel
theorem dX9_starOf_56 : decode cX9_starOf 56 = .ok (.aload_n 0, 1) := by decide +kernel
theorem dX9_starOf_57 : decode cX9_starOf 57 = .ok (.getfield 12, 3) := by decide +kernel
theorem dX9_starOf_60 : decode cX9_starOf 60 = .ok (.getfield 54, 3) := by decide +kernel
theorem dX9_starOf_63 : decode cX9_starOf 63 = .ok (.getfield 139, 3) := by decide +kernel
theorem dX9_starOf_66 : decode cX9_starOf 66 = .ok (.iload_n 1, 1) := by decide +kernel
theorem dX9_starOf_67 : decode cX9_starOf 67 = .ok (.iaload, 1) := by decide +kernel
theorem dX9_starOf_68 : decode cX9_starOf 68 = .ok (.ireturn, 1) := by decide +kernel
theorem dX9_starOf_69 : decode cX9_starOf 69 = .ok (.aload_n 0, 1) := by decide +kernel
theorem dX9_starOf_70 : decode cX9_starOf 70 = .ok (.getfield 12, 3) := by decide +kernel
theorem dX9_starOf_73 : decode cX9_starOf 73 = .ok (.getfield 54, 3) := by decide +kernel
theorem dX9_starOf_76 : decode cX9_starOf 76 = .ok (.getfield 143, 3) := by decide +kernel
theorem dX9_starOf_79 : decode cX9_starOf 79 = .ok (.iload_n 1, 1) := by decide +kernel
theorem dX9_starOf_80 : decode cX9_starOf 80 = .ok (.iaload, 1) := by decide +kernel
theorem dX9_starOf_81 : decode cX9_starOf 81 = .ok (.ireturn, 1) := by decide +kernel
theorem dX9_starOf_82 : decode cX9_starOf 82 = .ok (.aload_n 0, 1) := by decide +kernel
theorem dX9_starOf_83 : decode cX9_starOf 83 = .ok (.getfield 12, 3) := by decide +kernel
theorem dX9_starOf_86 : decode cX9_starOf 86 = .ok (.getfield 54, 3) := by decide +kernel
theorem dX9_starOf_89 : decode cX9_starOf 89 = .ok (.iload_n 1, 1) := by decide +kernel
theorem dX9_starOf_90 : decode cX9_starOf 90 = .ok (.invokevirtual 146, 3) := by decide +kernel
theorem dX9_starOf_93 : decode cX9_starOf 93 = .ok (.ifCond .eq 7, 3) := by decide +kernel
theorem dX9_starOf_96 : decode cX9_starOf 96 = .ok (.iconst 1, 1) := by decide +kernel
theorem dX9_starOf_97 : decode cX9_starOf 97 = .ok (.goto 4, 3) := by decide +kernel
theorem dX9_starOf_100 : decode cX9_starOf 100 = .ok (.iconst 0, 1) := by decide +kernel
theorem dX9_starOf_101 : decode cX9_starOf 101 = .ok (.ireturn, 1) := by decide +kernel
theorem dX9_starOf_102 : decode cX9_starOf 102 = .ok (.aload_n 0, 1) := by decide +kernel
theorem dX9_starOf_103 : decode cX9_starOf 103 = .ok (.getfield 12, 3) := by decide +kernel
theorem dX9_starOf_106 : decode cX9_starOf 106 = .ok (.getfield 54, 3) := by decide +kernel
theorem dX9_starOf_109 : decode cX9_starOf 109 = .ok (.getfield 149, 3) := by decide +kernel
theorem dX9_starOf_112 : decode cX9_starOf 112 = .ok (.iload_n 1, 1) := by decide +kernel
theorem dX9_starOf_113 : decode cX9_starOf 113 = .ok (.iaload, 1) := by decide +kernel
theorem dX9_starOf_114 : decode cX9_starOf 114 = .ok (.ireturn, 1) := by decide +kernel
theorem dX9_starOf_115 : decode cX9_starOf 115 = .ok (.aload_n 0, 1) := by decide +kernel
theorem dX9_starOf_116 : decode cX9_starOf 116 = .ok (.getfield 12, 3) := by decide +kernel
theorem dX9_starOf_119 : decode cX9_starOf 119 = .ok (.getfield 54, 3) := by decide +kernel
theorem dX9_starOf_122 : decode cX9_starOf 122 = .ok (.getfield 152, 3) := by decide +kernel
theorem dX9_starOf_125 : decode cX9_starOf 125 = .ok (.iload_n 1, 1) := by decide +kernel
theorem dX9_starOf_126 : decode cX9_starOf 126 = .ok (.iaload, 1) := by decide +kernel
theorem dX9_starOf_127 : decode cX9_starOf 127 = .ok (.ireturn, 1) := by decide +kernel
theorem dX9_starOf_128 : decode cX9_starOf 128 = .ok (.aload_n 0, 1) := by decide +kernel
theorem dX9_starOf_129 : decode cX9_starOf 129 = .ok (.getfield 12, 3) := by decide +kernel
theorem dX9_starOf_132 : decode cX9_starOf 132 = .ok (.getfield 155, 3) := by decide +kernel
theorem dX9_starOf_135 : decode cX9_starOf 135 = .ok (.iload_n 1, 1) := by decide +kernel
theorem dX9_starOf_136 : decode cX9_starOf 136 = .ok (.invokevirtual 159, 3) := by decide +kernel
theorem dX9_starOf_139 : decode cX9_starOf 139 = .ok (.ireturn, 1) := by decide +kernel
theorem dX9_starOf_140 : decode cX9_starOf 140 = .ok (.bipush (-2), 2) := by decide +kernel
theorem dX9_starOf_142 : decode cX9_starOf 142 = .ok (.ireturn, 1) := by decide +kernel
theorem dX9_roofOf_0 : decode cX9_roofOf 0 = .ok (.aload_n 0, 1) := by decide +kernel
theorem dX9_roofOf_1 : decode cX9_roofOf 1 = .ok (.getfield 12, 3) := by decide +kernel
theorem dX9_roofOf_4 : decode cX9_roofOf 4 = .ok (.getfield 165, 3) := by decide +kernel
theorem dX9_roofOf_7 : decode cX9_roofOf 7 = .ok (.iload_n 1, 1) := by decide +kernel
theorem dX9_roofOf_8 : decode cX9_roofOf 8 = .ok (.invokevirtual 169, 3) := by decide +kernel
theorem dX9_roofOf_11 : decode cX9_roofOf 11 = .ok (.ifCond .ne 5, 3) := by decide +kernel
theorem dX9_roofOf_14 : decode cX9_roofOf 14 = .ok (.iconst (-1), 1) := by decide +kernel
theorem dX9_roofOf_15 : decode cX9_roofOf 15 = .ok (.ireturn, 1) := by decide +kernel
theorem dX9_roofOf_16 : decode cX9_roofOf 16 = .ok (.iload_n 2, 1) := by decide +kernel
theorem dX9_roofOf_17 : decode cX9_roofOf 17 = .ok (.tableswitch 168 0 8 #[51, 64, 77, 89, 104, 117, 130, 142, 155], 51) := by decide +kernel
theorem dX9_roofOf_68 : decode cX9_roofOf 68 = .ok (.aload_n 0, 1) := by decide +kernel
theorem dX9_roofOf_69 : decode cX9_roofOf 69 = .ok (.getfield 12, 3) := by decide +kernel
theorem dX9_roofOf_72 : decode cX9_roofOf 72 = .ok (.getfield 165, 3) := by decide +kernel
theorem dX9_roofOf_75 : decode cX9_roofOf 75 = .ok (.getfield 172, 3) := by decide +kernel
theorem dX9_roofOf_78 : decode cX9_roofOf 78 = .ok (.iload_n 1, 1) := by decide +kernel
theorem dX9_roofOf_79 : decode cX9_roofOf 79 = .ok (.iaload, 1) := by decide +kernel
theorem dX9_roofOf_80 : decode cX9_roofOf 80 = .ok (.ireturn, 1) := by decide +kernel
theorem dX9_roofOf_81 : decode cX9_roofOf 81 = .ok (.aload_n 0, 1) := by decide +kernel
theorem dX9_roofOf_82 : decode cX9_roofOf 82 = .ok (.getfield 12, 3) := by decide +kernel
theorem dX9_roofOf_85 : decode cX9_roofOf 85 = .ok (.getfield 165, 3) := by decide +kernel
theorem dX9_roofOf_88 : decode cX9_roofOf 88 = .ok (.getfield 175, 3) := by decide +kernel
theorem dX9_roofOf_91 : decode cX9_roofOf 91 = .ok (.iload_n 1, 1) := by decide +kernel
theorem dX9_roofOf_92 : decode cX9_roofOf 92 = .ok (.iaload, 1) := by decide +kernel
theorem dX9_roofOf_93 : decode cX9_roofOf 93 = .ok (.ireturn, 1) := by decide +kernel
theorem dX9_roofOf_94 : decode cX9_roofOf 94 = .ok (.aload_n 0, 1) := by decide +kernel
theorem dX9_roofOf_95 : decode cX9_roofOf 95 = .ok (.getfield 12, 3) := by decide +kernel
theorem dX9_roofOf_98 : decode cX9_roofOf 98 = .ok (.getfield 155, 3) := by decide +kernel
theorem dX9_roofOf_101 : decode cX9_roofOf 101 = .ok (.iload_n 1, 1) := by decide +kernel
theorem dX9_roofOf_102 : decode cX9_roofOf 102 = .ok (.invokevirtual 178, 3) := by decide +kernel
theorem dX9_roofOf_105 : decode cX9_roofOf 105 = .ok (.ireturn, 1) := by decide +kernel
theorem dX9_roofOf_106 : decode cX9_roofOf 106 = .ok (.aload_n 0, 1) := by decide +kernel
theorem dX9_roofOf_107 : decode cX9_roofOf 107 = .ok (.getfield 12, 3) := by decide +kernel
theorem dX9_roofOf_110 : decode cX9_roofOf 110 = .ok (.getfield 155, 3) := by decide +kernel
theorem dX9_roofOf_113 : decode cX9_roofOf 113 = .ok (.iload_n 1, 1) := by decide +kernel
theorem dX9_roofOf_114 : decode cX9_roofOf 114 = .ok (.invokevirtual 181, 3) := by decide +kernel
theorem dX9_roofOf_117 : decode cX9_roofOf 117 = .ok (.invokestatic 184, 3) := by decide +kernel
theorem dX9_roofOf_120 : decode cX9_roofOf 120 = .ok (.ireturn, 1) := by decide +kernel
theorem dX9_roofOf_121 : decode cX9_roofOf 121 = .ok (.aload_n 0, 1) := by decide +kernel
theorem dX9_roofOf_122 : decode cX9_roofOf 122 = .ok (.getfield 12, 3) := by decide +kernel
theorem dX9_roofOf_125 : decode cX9_roofOf 125 = .ok (.getfield 165, 3) := by decide +kernel
theorem dX9_roofOf_128 : decode cX9_roofOf 128 = .ok (.getfield 189, 3) := by decide +kernel
theorem dX9_roofOf_131 : decode cX9_roofOf 131 = .ok (.iload_n 1, 1) := by decide +kernel
theorem dX9_roofOf_132 : decode cX9_roofOf 132 = .ok (.iaload, 1) := by decide +kernel
theorem dX9_roofOf_133 : decode cX9_roofOf 133 = .ok (.ireturn, 1) := by decide +kernel
theorem dX9_roofOf_134 : decode cX9_roofOf 134 = .ok (.aload_n 0, 1) := by decide +kernel
theorem dX9_roofOf_135 : decode cX9_roofOf 135 = .ok (.getfield 12, 3) := by decide +kernel
theorem dX9_roofOf_138 : decode cX9_roofOf 138 = .ok (.getfield 165, 3) := by decide +kernel
theorem dX9_roofOf_141 : decode cX9_roofOf 141 = .ok (.getfield 192, 3) := by decide +kernel
theorem dX9_roofOf_144 : decode cX9_roofOf 144 = .ok (.iload_n 1, 1) := by decide +kernel
theorem dX9_roofOf_145 : decode cX9_roofOf 145 = .ok (.iaload, 1) := by decide +kernel
theorem dX9_roofOf_146 : decode cX9_roofOf 146 = .ok (.ireturn, 1) := by decide +kernel
theorem dX9_roofOf_147 : decode cX9_roofOf 147 = .ok (.aload_n 0, 1) := by decide +kernel
theorem dX9_roofOf_148 : decode cX9_roofOf 148 = .ok (.getfield 12, 3) := by decide +kernel
theorem dX9_roofOf_151 : decode cX9_roofOf 151 = .ok (.getfield 54, 3) := by decide +kernel
theorem dX9_roofOf_154 : decode cX9_roofOf 154 = .ok (.iload_n 1, 1) := by decide +kernel
theorem dX9_roofOf_155 : decode cX9_roofOf 155 = .ok (.invokevirtual 195, 3) := by decide +kernel
theorem dX9_roofOf_158 : decode cX9_roofOf 158 = .ok (.ireturn, 1) := by decide +kernel
theorem dX9_roofOf_159 : decode cX9_roofOf 159 = .ok (.aload_n 0, 1) := by decide +kernel
theorem dX9_roofOf_160 : decode cX9_roofOf 160 = .ok (.getfield 12, 3) := by decide +kernel
theorem dX9_roofOf_163 : decode cX9_roofOf 163 = .ok (.getfield 165, 3) := by decide +kernel
theorem dX9_roofOf_166 : decode cX9_roofOf 166 = .ok (.getfield 198, 3) := by decide +kernel
theorem dX9_roofOf_169 : decode cX9_roofOf 169 = .ok (.iload_n 1, 1) := by decide +kernel
theorem dX9_roofOf_170 : decode cX9_roofOf 170 = .ok (.iaload, 1) := by decide +kernel
theorem dX9_roofOf_171 : decode cX9_roofOf 171 = .ok (.ireturn, 1) := by decide +kernel
theorem dX9_roofOf_172 : decode cX9_roofOf 172 = .ok (.aload_n 0, 1) := by decide +kernel
theorem dX9_roofOf_173 : decode cX9_roofOf 173 = .ok (.getfield 12, 3) := by decide +kernel
theorem dX9_roofOf_176 : decode cX9_roofOf 176 = .ok (.getfield 165, 3) := by decide +kernel
theorem dX9_roofOf_179 : decode cX9_roofOf 179 = .ok (.getfield 201, 3) := by decide +kernel
theorem dX9_roofOf_182 : decode cX9_roofOf 182 = .ok (.iload_n 1, 1) := by decide +kernel
theorem dX9_roofOf_183 : decode cX9_roofOf 183 = .ok (.iaload, 1) := by decide +kernel
theorem dX9_roofOf_184 : decode cX9_roofOf 184 = .ok (.ireturn, 1) := by decide +kernel
theorem dX9_roofOf_185 : decode cX9_roofOf 185 = .ok (.bipush (-2), 2) := by decide +kernel
theorem dX9_roofOf_187 : decode cX9_roofOf 187 = .ok (.ireturn, 1) := by decide +kernel
theorem dX9_wishOf_0 : decode cX9_wishOf 0 = .ok (.aload_n 0, 1) := by decide +kernel
theorem dX9_wishOf_1 : decode cX9_wishOf 1 = .ok (.getfield 12, 3) := by decide +kernel
theorem dX9_wishOf_4 : decode cX9_wishOf 4 = .ok (.getfield 155, 3) := by decide +kernel
theorem dX9_wishOf_7 : decode cX9_wishOf 7 = .ok (.iload_n 1, 1) := by decide +kernel
theorem dX9_wishOf_8 : decode cX9_wishOf 8 = .ok (.invokevirtual 204, 3) := by decide +kernel
theorem dX9_wishOf_11 : decode cX9_wishOf 11 = .ok (.ifCond .ne 5, 3) := by decide +kernel
theorem dX9_wishOf_14 : decode cX9_wishOf 14 = .ok (.iconst (-1), 1) := by decide +kernel
theorem dX9_wishOf_15 : decode cX9_wishOf 15 = .ok (.ireturn, 1) := by decide +kernel
theorem dX9_wishOf_16 : decode cX9_wishOf 16 = .ok (.iload_n 2, 1) := by decide +kernel
theorem dX9_wishOf_17 : decode cX9_wishOf 17 = .ok (.tableswitch 132 0 5 #[39, 52, 65, 78, 91, 104], 39) := by decide +kernel
theorem dX9_wishOf_56 : decode cX9_wishOf 56 = .ok (.aload_n 0, 1) := by decide +kernel
theorem dX9_wishOf_57 : decode cX9_wishOf 57 = .ok (.getfield 12, 3) := by decide +kernel
theorem dX9_wishOf_60 : decode cX9_wishOf 60 = .ok (.getfield 155, 3) := by decide +kernel
theorem dX9_wishOf_63 : decode cX9_wishOf 63 = .ok (.getfield 205, 3) := by decide +kernel
theorem dX9_wishOf_66 : decode cX9_wishOf 66 = .ok (.iload_n 1, 1) := by decide +kernel
theorem dX9_wishOf_67 : decode cX9_wishOf 67 = .ok (.iaload, 1) := by decide +kernel
theorem dX9_wishOf_68 : decode cX9_wishOf 68 = .ok (.ireturn, 1) := by decide +kernel
theorem dX9_wishOf_69 : decode cX9_wishOf 69 = .ok (.aload_n 0, 1) := by decide +kernel
theorem dX9_wishOf_70 : decode cX9_wishOf 70 = .ok (.getfield 12, 3) := by decide +kernel
theorem dX9_wishOf_73 : decode cX9_wishOf 73 = .ok (.getfield 155, 3) := by decide +kernel
theorem dX9_wishOf_76 : decode cX9_wishOf 76 = .ok (.getfield 208, 3) := by decide +kernel
theorem dX9_wishOf_79 : decode cX9_wishOf 79 = .ok (.iload_n 1, 1) := by decide +kernel
theorem dX9_wishOf_80 : decode cX9_wishOf 80 = .ok (.iaload, 1) := by decide +kernel
theorem dX9_wishOf_81 : decode cX9_wishOf 81 = .ok (.ireturn, 1) := by decide +kernel
theorem dX9_wishOf_82 : decode cX9_wishOf 82 = .ok (.aload_n 0, 1) := by decide +kernel
theorem dX9_wishOf_83 : decode cX9_wishOf 83 = .ok (.getfield 12, 3) := by decide +kernel
theorem dX9_wishOf_86 : decode cX9_wishOf 86 = .ok (.getfield 155, 3) := by decide +kernel
theorem dX9_wishOf_89 : decode cX9_wishOf 89 = .ok (.getfield 211, 3) := by decide +kernel
theorem dX9_wishOf_92 : decode cX9_wishOf 92 = .ok (.iload_n 1, 1) := by decide +kernel
theorem dX9_wishOf_93 : decode cX9_wishOf 93 = .ok (.iaload, 1) := by decide +kernel
theorem dX9_wishOf_94 : decode cX9_wishOf 94 = .ok (.ireturn, 1) := by decide +kernel
theorem dX9_wishOf_95 : decode cX9_wishOf 95 = .ok (.aload_n 0, 1) := by decide +kernel
theorem dX9_wishOf_96 : decode cX9_wishOf 96 = .ok (.getfield 12, 3) := by decide +kernel
theorem dX9_wishOf_99 : decode cX9_wishOf 99 = .ok (.getfield 155, 3) := by decide +kernel
theorem dX9_wishOf_102 : decode cX9_wishOf 102 = .ok (.getfield 214, 3) := by decide +kernel
theorem dX9_wishOf_105 : decode cX9_wishOf 105 = .ok (.iload_n 1, 1) := by decide +kernel
theorem dX9_wishOf_106 : decode cX9_wishOf 106 = .ok (.iaload, 1) := by decide +kernel
theorem dX9_wishOf_107 : decode cX9_wishOf 107 = .ok (.ireturn, 1) := by decide +kernel
theorem dX9_wishOf_108 : decode cX9_wishOf 108 = .ok (.aload_n 0, 1) := by decide +kernel
theorem dX9_wishOf_109 : decode cX9_wishOf 109 = .ok (.getfield 12, 3) := by decide +kernel
theorem dX9_wishOf_112 : decode cX9_wishOf 112 = .ok (.getfield 155, 3) := by decide +kernel
theorem dX9_wishOf_115 : decode cX9_wishOf 115 = .ok (.getfield 217, 3) := by decide +kernel
theorem dX9_wishOf_118 : decode cX9_wishOf 118 = .ok (.iload_n 1, 1) := by decide +kernel
theorem dX9_wishOf_119 : decode cX9_wishOf 119 = .ok (.iaload, 1) := by decide +kernel
theorem dX9_wishOf_120 : decode cX9_wishOf 120 = .ok (.ireturn, 1) := by decide +kernel
theorem dX9_wishOf_121 : decode cX9_wishOf 121 = .ok (.aload_n 0, 1) := by decide +kernel
theorem dX9_wishOf_122 : decode cX9_wishOf 122 = .ok (.getfield 12, 3) := by decide +kernel
theorem dX9_wishOf_125 : decode cX9_wishOf 125 = .ok (.getfield 155, 3) := by decide +kernel
theorem dX9_wishOf_128 : decode cX9_wishOf 128 = .ok (.iload_n 1, 1) := by decide +kernel
theorem dX9_wishOf_129 : decode cX9_wishOf 129 = .ok (.invokevirtual 220, 3) := by decide +kernel
theorem dX9_wishOf_132 : decode cX9_wishOf 132 = .ok (.ifCond .eq 14, 3) := by decide +kernel
theorem dX9_wishOf_135 : decode cX9_wishOf 135 = .ok (.aload_n 0, 1) := by decide +kernel
theorem dX9_wishOf_136 : decode cX9_wishOf 136 = .ok (.getfield 12, 3) := by decide +kernel
theorem dX9_wishOf_139 : decode cX9_wishOf 139 = .ok (.iload_n 1, 1) := by decide +kernel
theorem dX9_wishOf_140 : decode cX9_wishOf 140 = .ok (.invokevirtual 223, 3) := by decide +kernel
theorem dX9_wishOf_143 : decode cX9_wishOf 143 = .ok (.goto 5, 3) := by decide +kernel
theorem dX9_wishOf_146 : decode cX9_wishOf 146 = .ok (.bipush (-4), 2) := by decide +kernel
theorem dX9_wishOf_148 : decode cX9_wishOf 148 = .ok (.ireturn, 1) := by decide +kernel
theorem dX9_wishOf_149 : decode cX9_wishOf 149 = .ok (.bipush (-2), 2) := by decide +kernel
theorem dX9_wishOf_151 : decode cX9_wishOf 151 = .ok (.ireturn, 1) := by decide +kernel
theorem dX9_cloudOf_0 : decode cX9_cloudOf 0 = .ok (.iload_n 1, 1) := by decide +kernel
theorem dX9_cloudOf_1 : decode cX9_cloudOf 1 = .ok (.invokestatic 226, 3) := by decide +kernel
theorem dX9_cloudOf_4 : decode cX9_cloudOf 4 = .ok (.ifCond .eq 18, 3) := by decide +kernel
theorem dX9_cloudOf_7 : decode cX9_cloudOf 7 = .ok (.aload_n 0, 1) := by decide +kernel
theorem dX9_cloudOf_8 : decode cX9_cloudOf 8 = .ok (.getfield 12, 3) := by decide +kernel
theorem dX9_cloudOf_11 : decode cX9_cloudOf 11 = .ok (.getfield 54, 3) := by decide +kernel
theorem dX9_cloudOf_14 : decode cX9_cloudOf 14 = .ok (.getfield 229, 3) := by decide +kernel
theorem dX9_cloudOf_17 : decode cX9_cloudOf 17 = .ok (.iload_n 1, 1) := by decide +kernel
theorem dX9_cloudOf_18 : decode cX9_cloudOf 18 = .ok (.iaload, 1) := by decide +kernel
theorem dX9_cloudOf_19 : decode cX9_cloudOf 19 = .ok (.goto 4, 3) := by decide +kernel
theorem dX9_cloudOf_22 : decode cX9_cloudOf 22 = .ok (.iconst (-1), 1) := by decide +kernel
theorem dX9_cloudOf_23 : decode cX9_cloudOf 23 = .ok (.ireturn, 1) := by decide +kernel
theorem dX9_debt_0 : decode cX9_debt 0 = .ok (.aload_n 0, 1) := by decide +kernel
theorem dX9_debt_1 : decode cX9_debt 1 = .ok (.getfield 12, 3) := by decide +kernel
theorem dX9_debt_4 : decode cX9_debt 4 = .ok (.getfield 165, 3) := by decide +kernel
theorem dX9_debt_7 : decode cX9_debt 7 = .ok (.iload_n 1, 1) := by decide +kernel
theorem dX9_debt_8 : decode cX9_debt 8 = .ok (.invokevirtual 169, 3) := by decide +kernel
theorem dX9_debt_11 : decode cX9_debt 11 = .ok (.ifCond .eq 18, 3) := by decide +kernel
theorem dX9_debt_14 : decode cX9_debt 14 = .ok (.aload_n 0, 1) := by decide +kernel
theorem dX9_debt_15 : decode cX9_debt 15 = .ok (.getfield 12, 3) := by decide +kernel
theorem dX9_debt_18 : decode cX9_debt 18 = .ok (.getfield 165, 3) := by decide +kernel
theorem dX9_debt_21 : decode cX9_debt 21 = .ok (.getfield 232, 3) := by decide +kernel
theorem dX9_debt_24 : decode cX9_debt 24 = .ok (.iload_n 1, 1) := by decide +kernel
theorem dX9_debt_25 : decode cX9_debt 25 = .ok (.iaload, 1) := by decide +kernel
theorem dX9_debt_26 : decode cX9_debt 26 = .ok (.goto 4, 3) := by decide +kernel
theorem dX9_debt_29 : decode cX9_debt 29 = .ok (.iconst (-1), 1) := by decide +kernel
theorem dX9_debt_30 : decode cX9_debt 30 = .ok (.ireturn, 1) := by decide +kernel
theorem dX9_debtAgain_0 : decode cX9_debtAgain 0 = .ok (.aload_n 0, 1) := by decide +kernel
theorem dX9_debtAgain_1 : decode cX9_debtAgain 1 = .ok (.getfield 12, 3) := by decide +kernel
theorem dX9_debtAgain_4 : decode cX9_debtAgain 4 = .ok (.getfield 165, 3) := by decide +kernel
theorem dX9_debtAgain_7 : decode cX9_debtAgain 7 = .ok (.iload_n 1, 1) := by decide +kernel
theorem dX9_debtAgain_8 : decode cX9_debtAgain 8 = .ok (.invokevirtual 169, 3) := by decide +kernel
theorem dX9_debtAgain_11 : decode cX9_debtAgain 11 = .ok (.ifCond .eq 31, 3) := by decide +kernel
theorem dX9_debtAgain_14 : decode cX9_debtAgain 14 = .ok (.aload_n 0, 1) := by decide +kernel
theorem dX9_debtAgain_15 : decode cX9_debtAgain 15 = .ok (.getfield 12, 3) := by decide +kernel
theorem dX9_debtAgain_18 : decode cX9_debtAgain 18 = .ok (.getfield 165, 3) := by decide +kernel
theorem dX9_debtAgain_21 : decode cX9_debtAgain 21 = .ok (.getfield 235, 3) := by decide +kernel
theorem dX9_debtAgain_24 : decode cX9_debtAgain 24 = .ok (.iload_n 1, 1) := by decide +kernel
theorem dX9_debtAgain_25 : decode cX9_debtAgain 25 = .ok (.iaload, 1) := by decide +kernel
theorem dX9_debtAgain_26 : decode cX9_debtAgain 26 = .ok (.aload_n 0, 1) := by decide +kernel
theorem dX9_debtAgain_27 : decode cX9_debtAgain 27 = .ok (.getfield 12, 3) := by decide +kernel
theorem dX9_debtAgain_30 : decode cX9_debtAgain 30 = .ok (.getfield 165, 3) := by decide +kernel
theorem dX9_debtAgain_33 : decode cX9_debtAgain 33 = .ok (.getfield 238, 3) := by decide +kernel
theorem dX9_debtAgain_36 : decode cX9_debtAgain 36 = .ok (.iload_n 1, 1) := by decide +kernel
theorem dX9_debtAgain_37 : decode cX9_debtAgain 37 = .ok (.iaload, 1) := by decide +kernel
theorem dX9_debtAgain_38 : decode cX9_debtAgain 38 = .ok (.isub, 1) := by decide +kernel
theorem dX9_debtAgain_39 : decode cX9_debtAgain 39 = .ok (.goto 4, 3) := by decide +kernel
theorem dX9_debtAgain_42 : decode cX9_debtAgain 42 = .ok (.iconst (-1), 1) := by decide +kernel
theorem dX9_debtAgain_43 : decode cX9_debtAgain 43 = .ok (.ireturn, 1) := by decide +kernel
theorem dX9_seen_0 : decode cX9_seen 0 = .ok (.iload_n 1, 1) := by decide +kernel
theorem dX9_seen_1 : decode cX9_seen 1 = .ok (.invokestatic 226, 3) := by decide +kernel
theorem dX9_seen_4 : decode cX9_seen 4 = .ok (.ifCond .eq 17, 3) := by decide +kernel
theorem dX9_seen_7 : decode cX9_seen 7 = .ok (.aload_n 0, 1) := by decide +kernel
theorem dX9_seen_8 : decode cX9_seen 8 = .ok (.getfield 12, 3) := by decide +kernel
theorem dX9_seen_11 : decode cX9_seen 11 = .ok (.getfield 54, 3) := by decide +kernel
theorem dX9_seen_14 : decode cX9_seen 14 = .ok (.iload_n 1, 1) := by decide +kernel
theorem dX9_seen_15 : decode cX9_seen 15 = .ok (.invokevirtual 241, 3) := by decide +kernel
theorem dX9_seen_18 : decode cX9_seen 18 = .ok (.goto 4, 3) := by decide +kernel
theorem dX9_seen_21 : decode cX9_seen 21 = .ok (.iconst (-1), 1) := by decide +kernel
theorem dX9_seen_22 : decode cX9_seen 22 = .ok (.ireturn, 1) := by decide +kernel
theorem dX9_seenAgain_0 : decode cX9_seenAgain 0 = .ok (.iload_n 1, 1) := by decide +kernel
theorem dX9_seenAgain_1 : decode cX9_seenAgain 1 = .ok (.invokestatic 226, 3) := by decide +kernel
theorem dX9_seenAgain_4 : decode cX9_seenAgain 4 = .ok (.ifCond .eq 17, 3) := by decide +kernel
theorem dX9_seenAgain_7 : decode cX9_seenAgain 7 = .ok (.aload_n 0, 1) := by decide +kernel
theorem dX9_seenAgain_8 : decode cX9_seenAgain 8 = .ok (.getfield 12, 3) := by decide +kernel
theorem dX9_seenAgain_11 : decode cX9_seenAgain 11 = .ok (.getfield 54, 3) := by decide +kernel
theorem dX9_seenAgain_14 : decode cX9_seenAgain 14 = .ok (.iload_n 1, 1) := by decide +kernel
theorem dX9_seenAgain_15 : decode cX9_seenAgain 15 = .ok (.invokevirtual 244, 3) := by decide +kernel
theorem dX9_seenAgain_18 : decode cX9_seenAgain 18 = .ok (.goto 4, 3) := by decide +kernel
theorem dX9_seenAgain_21 : decode cX9_seenAgain 21 = .ok (.iconst (-1), 1) := by decide +kernel
theorem dX9_seenAgain_22 : decode cX9_seenAgain 22 = .ok (.ireturn, 1) := by decide +kernel
theorem dX9_levy_0 : decode cX9_levy 0 = .ok (.aload_n 0, 1) := by decide +kernel
theorem dX9_levy_1 : decode cX9_levy 1 = .ok (.getfield 12, 3) := by decide +kernel
theorem dX9_levy_4 : decode cX9_levy 4 = .ok (.iload_n 1, 1) := by decide +kernel
theorem dX9_levy_5 : decode cX9_levy 5 = .ok (.iload_n 2, 1) := by decide +kernel
theorem dX9_levy_6 : decode cX9_levy 6 = .ok (.invokevirtual 247, 3) := by decide +kernel
theorem dX9_levy_9 : decode cX9_levy 9 = .ok (.ifCond .eq 15, 3) := by decide +kernel
theorem dX9_levy_12 : decode cX9_levy 12 = .ok (.aload_n 0, 1) := by decide +kernel
theorem dX9_levy_13 : decode cX9_levy 13 = .ok (.getfield 12, 3) := by decide +kernel
theorem dX9_levy_16 : decode cX9_levy 16 = .ok (.iload_n 1, 1) := by decide +kernel
theorem dX9_levy_17 : decode cX9_levy 17 = .ok (.iload_n 2, 1) := by decide +kernel
theorem dX9_levy_18 : decode cX9_levy 18 = .ok (.invokevirtual 251, 3) := by decide +kernel
theorem dX9_levy_21 : decode cX9_levy 21 = .ok (.goto 4, 3) := by decide +kernel
theorem dX9_levy_24 : decode cX9_levy 24 = .ok (.iconst (-1), 1) := by decide +kernel
theorem dX9_levy_25 : decode cX9_levy 25 = .ok (.ireturn, 1) := by decide +kernel
theorem dX9_could_0 : decode cX9_could 0 = .ok (.aload_n 0, 1) := by decide +kernel
theorem dX9_could_1 : decode cX9_could 1 = .ok (.getfield 12, 3) := by decide +kernel
theorem dX9_could_4 : decode cX9_could 4 = .ok (.getfield 165, 3) := by decide +kernel
theorem dX9_could_7 : decode cX9_could 7 = .ok (.iload_n 1, 1) := by decide +kernel
theorem dX9_could_8 : decode cX9_could 8 = .ok (.invokevirtual 169, 3) := by decide +kernel
theorem dX9_could_11 : decode cX9_could 11 = .ok (.ifCond .eq 14, 3) := by decide +kernel
theorem dX9_could_14 : decode cX9_could 14 = .ok (.aload_n 0, 1) := by decide +kernel
theorem dX9_could_15 : decode cX9_could 15 = .ok (.getfield 12, 3) := by decide +kernel
theorem dX9_could_18 : decode cX9_could 18 = .ok (.iload_n 1, 1) := by decide +kernel
theorem dX9_could_19 : decode cX9_could 19 = .ok (.invokevirtual 255, 3) := by decide +kernel
theorem dX9_could_22 : decode cX9_could 22 = .ok (.goto 4, 3) := by decide +kernel
theorem dX9_could_25 : decode cX9_could 25 = .ok (.iconst (-1), 1) := by decide +kernel
theorem dX9_could_26 : decode cX9_could 26 = .ok (.ireturn, 1) := by decide +kernel
theorem dX9_couldAgain_0 : decode cX9_couldAgain 0 = .ok (.aload_n 0, 1) := by decide +kernel
theorem dX9_couldAgain_1 : decode cX9_couldAgain 1 = .ok (.getfield 12, 3) := by decide +kernel
theorem dX9_couldAgain_4 : decode cX9_couldAgain 4 = .ok (.getfield 165, 3) := by decide +kernel
theorem dX9_couldAgain_7 : decode cX9_couldAgain 7 = .ok (.iload_n 1, 1) := by decide +kernel
theorem dX9_couldAgain_8 : decode cX9_couldAgain 8 = .ok (.invokevirtual 169, 3) := by decide +kernel
theorem dX9_couldAgain_11 : decode cX9_couldAgain 11 = .ok (.ifCond .eq 14, 3) := by decide +kernel
theorem dX9_couldAgain_14 : decode cX9_couldAgain 14 = .ok (.aload_n 0, 1) := by decide +kernel
theorem dX9_couldAgain_15 : decode cX9_couldAgain 15 = .ok (.getfield 12, 3) := by decide +kernel
theorem dX9_couldAgain_18 : decode cX9_couldAgain 18 = .ok (.iload_n 1, 1) := by decide +kernel
theorem dX9_couldAgain_19 : decode cX9_couldAgain 19 = .ok (.invokevirtual 258, 3) := by decide +kernel
theorem dX9_couldAgain_22 : decode cX9_couldAgain 22 = .ok (.goto 4, 3) := by decide +kernel
theorem dX9_couldAgain_25 : decode cX9_couldAgain 25 = .ok (.iconst (-1), 1) := by decide +kernel
theorem dX9_couldAgain_26 : decode cX9_couldAgain 26 = .ok (.ireturn, 1) := by decide +kernel
theorem dX9_brightens_0 : decode cX9_brightens 0 = .ok (.iload_n 1, 1) := by decide +kernel
theorem dX9_brightens_1 : decode cX9_brightens 1 = .ok (.invokestatic 226, 3) := by decide +kernel
theorem dX9_brightens_4 : decode cX9_brightens 4 = .ok (.ifCond .eq 17, 3) := by decide +kernel
theorem dX9_brightens_7 : decode cX9_brightens 7 = .ok (.aload_n 0, 1) := by decide +kernel
theorem dX9_brightens_8 : decode cX9_brightens 8 = .ok (.getfield 12, 3) := by decide +kernel
theorem dX9_brightens_11 : decode cX9_brightens 11 = .ok (.getfield 54, 3) := by decide +kernel
theorem dX9_brightens_14 : decode cX9_brightens 14 = .ok (.iload_n 1, 1) := by decide +kernel
theorem dX9_brightens_15 : decode cX9_brightens 15 = .ok (.invokevirtual 261, 3) := by decide +kernel
theorem dX9_brightens_18 : decode cX9_brightens 18 = .ok (.goto 4, 3) := by decide +kernel
theorem dX9_brightens_21 : decode cX9_brightens 21 = .ok (.iconst (-1), 1) := by decide +kernel
theorem dX9_brightens_22 : decode cX9_brightens 22 = .ok (.ireturn, 1) := by decide +kernel
theorem dX9_cheapest_0 : decode cX9_cheapest 0 = .ok (.aload_n 0, 1) := by decide +kernel
theorem dX9_cheapest_1 : decode cX9_cheapest 1 = .ok (.getfield 12, 3) := by decide +kernel
theorem dX9_cheapest_4 : decode cX9_cheapest 4 = .ok (.getfield 165, 3) := by decide +kernel
theorem dX9_cheapest_7 : decode cX9_cheapest 7 = .ok (.iload_n 1, 1) := by decide +kernel
theorem dX9_cheapest_8 : decode cX9_cheapest 8 = .ok (.invokevirtual 169, 3) := by decide +kernel
theorem dX9_cheapest_11 : decode cX9_cheapest 11 = .ok (.ifCond .eq 14, 3) := by decide +kernel
theorem dX9_cheapest_14 : decode cX9_cheapest 14 = .ok (.aload_n 0, 1) := by decide +kernel
theorem dX9_cheapest_15 : decode cX9_cheapest 15 = .ok (.getfield 12, 3) := by decide +kernel
theorem dX9_cheapest_18 : decode cX9_cheapest 18 = .ok (.iload_n 1, 1) := by decide +kernel
theorem dX9_cheapest_19 : decode cX9_cheapest 19 = .ok (.invokevirtual 264, 3) := by decide +kernel
theorem dX9_cheapest_22 : decode cX9_cheapest 22 = .ok (.goto 4, 3) := by decide +kernel
theorem dX9_cheapest_25 : decode cX9_cheapest 25 = .ok (.iconst (-1), 1) := by decide +kernel
theorem dX9_cheapest_26 : decode cX9_cheapest 26 = .ok (.ireturn, 1) := by decide +kernel
theorem dX9_wouldGrant_0 : decode cX9_wouldGrant 0 = .ok (.aload_n 0, 1) := by decide +kernel
theorem dX9_wouldGrant_1 : decode cX9_wouldGrant 1 = .ok (.getfield 12, 3) := by decide +kernel
theorem dX9_wouldGrant_4 : decode cX9_wouldGrant 4 = .ok (.invokevirtual 267, 3) := by decide +kernel
theorem dX9_wouldGrant_7 : decode cX9_wouldGrant 7 = .ok (.ireturn, 1) := by decide +kernel
theorem dX9_richest_0 : decode cX9_richest 0 = .ok (.aload_n 0, 1) := by decide +kernel
theorem dX9_richest_1 : decode cX9_richest 1 = .ok (.getfield 12, 3) := by decide +kernel
theorem dX9_richest_4 : decode cX9_richest 4 = .ok (.iload_n 1, 1) := by decide +kernel
theorem dX9_richest_5 : decode cX9_richest 5 = .ok (.invokevirtual 270, 3) := by decide +kernel
theorem dX9_richest_8 : decode cX9_richest 8 = .ok (.ireturn, 1) := by decide +kernel
theorem dX9_brightest_0 : decode cX9_brightest 0 = .ok (.aload_n 0, 1) := by decide +kernel
theorem dX9_brightest_1 : decode cX9_brightest 1 = .ok (.getfield 12, 3) := by decide +kernel
theorem dX9_brightest_4 : decode cX9_brightest 4 = .ok (.getfield 54, 3) := by decide +kernel
theorem dX9_brightest_7 : decode cX9_brightest 7 = .ok (.iload_n 1, 1) := by decide +kernel
theorem dX9_brightest_8 : decode cX9_brightest 8 = .ok (.invokevirtual 273, 3) := by decide +kernel
theorem dX9_brightest_11 : decode cX9_brightest 11 = .ok (.ireturn, 1) := by decide +kernel
theorem dX9_write_0 : decode cX9_write 0 = .ok (.aload_n 0, 1) := by decide +kernel
theorem dX9_write_1 : decode cX9_write 1 = .ok (.getfield 12, 3) := by decide +kernel
theorem dX9_write_4 : decode cX9_write 4 = .ok (.getfield 165, 3) := by decide +kernel
theorem dX9_write_7 : decode cX9_write 7 = .ok (.iload_n 1, 1) := by decide +kernel
theorem dX9_write_8 : decode cX9_write 8 = .ok (.invokevirtual 169, 3) := by decide +kernel
theorem dX9_write_11 : decode cX9_write 11 = .ok (.ifCond .ne 5, 3) := by decide +kernel
theorem dX9_write_14 : decode cX9_write 14 = .ok (.iconst (-1), 1) := by decide +kernel
theorem dX9_write_15 : decode cX9_write 15 = .ok (.ireturn, 1) := by decide +kernel
theorem dX9_write_16 : decode cX9_write 16 = .ok (.aload_n 0, 1) := by decide +kernel
theorem dX9_write_17 : decode cX9_write 17 = .ok (.getfield 47, 3) := by decide +kernel
theorem dX9_write_20 : decode cX9_write 20 = .ok (.iconst 0, 1) := by decide +kernel
theorem dX9_write_21 : decode cX9_write 21 = .ok (.invokevirtual 127, 3) := by decide +kernel
theorem dX9_write_24 : decode cX9_write 24 = .ok (.aload_n 0, 1) := by decide +kernel
theorem dX9_write_25 : decode cX9_write 25 = .ok (.getfield 47, 3) := by decide +kernel
theorem dX9_write_28 : decode cX9_write 28 = .ok (.iload_n 1, 1) := by decide +kernel
theorem dX9_write_29 : decode cX9_write 29 = .ok (.invokevirtual 276, 3) := by decide +kernel
theorem dX9_write_32 : decode cX9_write 32 = .ok (.pop, 1) := by decide +kernel
theorem dX9_write_33 : decode cX9_write 33 = .ok (.aload_n 0, 1) := by decide +kernel
theorem dX9_write_34 : decode cX9_write 34 = .ok (.getfield 47, 3) := by decide +kernel
theorem dX9_write_37 : decode cX9_write 37 = .ok (.bipush 36, 2) := by decide +kernel
theorem dX9_write_39 : decode cX9_write 39 = .ok (.invokevirtual 77, 3) := by decide +kernel
theorem dX9_write_42 : decode cX9_write 42 = .ok (.pop, 1) := by decide +kernel
theorem dX9_write_43 : decode cX9_write 43 = .ok (.aload_n 0, 1) := by decide +kernel
theorem dX9_write_44 : decode cX9_write 44 = .ok (.getfield 47, 3) := by decide +kernel
theorem dX9_write_47 : decode cX9_write 47 = .ok (.aload_n 0, 1) := by decide +kernel
theorem dX9_write_48 : decode cX9_write 48 = .ok (.getfield 12, 3) := by decide +kernel
theorem dX9_write_51 : decode cX9_write 51 = .ok (.getfield 165, 3) := by decide +kernel
theorem dX9_write_54 : decode cX9_write 54 = .ok (.getfield 172, 3) := by decide +kernel
theorem dX9_write_57 : decode cX9_write 57 = .ok (.iload_n 1, 1) := by decide +kernel
theorem dX9_write_58 : decode cX9_write 58 = .ok (.iaload, 1) := by decide +kernel
theorem dX9_write_59 : decode cX9_write 59 = .ok (.invokevirtual 276, 3) := by decide +kernel
theorem dX9_write_62 : decode cX9_write 62 = .ok (.pop, 1) := by decide +kernel
theorem dX9_write_63 : decode cX9_write 63 = .ok (.aload_n 0, 1) := by decide +kernel
theorem dX9_write_64 : decode cX9_write 64 = .ok (.bipush 45, 2) := by decide +kernel
theorem dX9_write_66 : decode cX9_write 66 = .ok (.aload_n 0, 1) := by decide +kernel
theorem dX9_write_67 : decode cX9_write 67 = .ok (.getfield 12, 3) := by decide +kernel
theorem dX9_write_70 : decode cX9_write 70 = .ok (.getfield 165, 3) := by decide +kernel
theorem dX9_write_73 : decode cX9_write 73 = .ok (.getfield 232, 3) := by decide +kernel
theorem dX9_write_76 : decode cX9_write 76 = .ok (.iload_n 1, 1) := by decide +kernel
theorem dX9_write_77 : decode cX9_write 77 = .ok (.iaload, 1) := by decide +kernel
theorem dX9_write_78 : decode cX9_write 78 = .ok (.invokevirtual 279, 3) := by decide +kernel
theorem dX9_write_81 : decode cX9_write 81 = .ok (.aload_n 0, 1) := by decide +kernel
theorem dX9_write_82 : decode cX9_write 82 = .ok (.bipush 115, 2) := by decide +kernel
theorem dX9_write_84 : decode cX9_write 84 = .ok (.aload_n 0, 1) := by decide +kernel
theorem dX9_write_85 : decode cX9_write 85 = .ok (.getfield 12, 3) := by decide +kernel
theorem dX9_write_88 : decode cX9_write 88 = .ok (.getfield 165, 3) := by decide +kernel
theorem dX9_write_91 : decode cX9_write 91 = .ok (.getfield 175, 3) := by decide +kernel
theorem dX9_write_94 : decode cX9_write 94 = .ok (.iload_n 1, 1) := by decide +kernel
theorem dX9_write_95 : decode cX9_write 95 = .ok (.iaload, 1) := by decide +kernel
theorem dX9_write_96 : decode cX9_write 96 = .ok (.invokevirtual 279, 3) := by decide +kernel
theorem dX9_write_99 : decode cX9_write 99 = .ok (.aload_n 0, 1) := by decide +kernel
theorem dX9_write_100 : decode cX9_write 100 = .ok (.bipush 119, 2) := by decide +kernel
theorem dX9_write_102 : decode cX9_write 102 = .ok (.aload_n 0, 1) := by decide +kernel
theorem dX9_write_103 : decode cX9_write 103 = .ok (.getfield 12, 3) := by decide +kernel
theorem dX9_write_106 : decode cX9_write 106 = .ok (.getfield 155, 3) := by decide +kernel
theorem dX9_write_109 : decode cX9_write 109 = .ok (.iload_n 1, 1) := by decide +kernel
theorem dX9_write_110 : decode cX9_write 110 = .ok (.invokevirtual 178, 3) := by decide +kernel
theorem dX9_write_113 : decode cX9_write 113 = .ok (.invokevirtual 279, 3) := by decide +kernel
theorem dX9_write_116 : decode cX9_write 116 = .ok (.aload_n 0, 1) := by decide +kernel
theorem dX9_write_117 : decode cX9_write 117 = .ok (.getfield 47, 3) := by decide +kernel
theorem dX9_write_120 : decode cX9_write 120 = .ok (.invokevirtual 73, 3) := by decide +kernel
theorem dX9_write_123 : decode cX9_write 123 = .ok (.ireturn, 1) := by decide +kernel
theorem dX9_writeSky_0 : decode cX9_writeSky 0 = .ok (.iload_n 1, 1) := by decide +kernel
theorem dX9_writeSky_1 : decode cX9_writeSky 1 = .ok (.invokestatic 226, 3) := by decide +kernel
theorem dX9_writeSky_4 : decode cX9_writeSky 4 = .ok (.ifCond .ne 5, 3) := by decide +kernel
theorem dX9_writeSky_7 : decode cX9_writeSky 7 = .ok (.iconst (-1), 1) := by decide +kernel
theorem dX9_writeSky_8 : decode cX9_writeSky 8 = .ok (.ireturn, 1) := by decide +kernel
theorem dX9_writeSky_9 : decode cX9_writeSky 9 = .ok (.aload_n 0, 1) := by decide +kernel
theorem dX9_writeSky_10 : decode cX9_writeSky 10 = .ok (.getfield 47, 3) := by decide +kernel
theorem dX9_writeSky_13 : decode cX9_writeSky 13 = .ok (.iconst 0, 1) := by decide +kernel
theorem dX9_writeSky_14 : decode cX9_writeSky 14 = .ok (.invokevirtual 127, 3) := by decide +kernel
theorem dX9_writeSky_17 : decode cX9_writeSky 17 = .ok (.iconst 0, 1) := by decide +kernel
theorem dX9_writeSky_18 : decode cX9_writeSky 18 = .ok (.istore_n 2, 1) := by decide +kernel
theorem dX9_writeSky_19 : decode cX9_writeSky 19 = .ok (.iload_n 2, 1) := by decide +kernel
theorem dX9_writeSky_20 : decode cX9_writeSky 20 = .ok (.aload_n 0, 1) := by decide +kernel
theorem dX9_writeSky_21 : decode cX9_writeSky 21 = .ok (.getfield 12, 3) := by decide +kernel
theorem dX9_writeSky_24 : decode cX9_writeSky 24 = .ok (.getfield 54, 3) := by decide +kernel
theorem dX9_writeSky_27 : decode cX9_writeSky 27 = .ok (.getfield 58, 3) := by decide +kernel
theorem dX9_writeSky_30 : decode cX9_writeSky 30 = .ok (.if_icmp .ge 57, 3) := by decide +kernel
theorem dX9_writeSky_33 : decode cX9_writeSky 33 = .ok (.aload_n 0, 1) := by decide +kernel
theorem dX9_writeSky_34 : decode cX9_writeSky 34 = .ok (.getfield 12, 3) := by decide +kernel
theorem dX9_writeSky_37 : decode cX9_writeSky 37 = .ok (.getfield 54, 3) := by decide +kernel
theorem dX9_writeSky_40 : decode cX9_writeSky 40 = .ok (.getfield 143, 3) := by decide +kernel
theorem dX9_writeSky_43 : decode cX9_writeSky 43 = .ok (.iload_n 2, 1) := by decide +kernel
theorem dX9_writeSky_44 : decode cX9_writeSky 44 = .ok (.iaload, 1) := by decide +kernel
theorem dX9_writeSky_45 : decode cX9_writeSky 45 = .ok (.iload_n 1, 1) := by decide +kernel
theorem dX9_writeSky_46 : decode cX9_writeSky 46 = .ok (.if_icmp .ne 35, 3) := by decide +kernel
theorem dX9_writeSky_49 : decode cX9_writeSky 49 = .ok (.aload_n 0, 1) := by decide +kernel
theorem dX9_writeSky_50 : decode cX9_writeSky 50 = .ok (.getfield 47, 3) := by decide +kernel
theorem dX9_writeSky_53 : decode cX9_writeSky 53 = .ok (.aload_n 0, 1) := by decide +kernel
theorem dX9_writeSky_54 : decode cX9_writeSky 54 = .ok (.getfield 12, 3) := by decide +kernel
theorem dX9_writeSky_57 : decode cX9_writeSky 57 = .ok (.getfield 54, 3) := by decide +kernel
theorem dX9_writeSky_60 : decode cX9_writeSky 60 = .ok (.iload_n 2, 1) := by decide +kernel
theorem dX9_writeSky_61 : decode cX9_writeSky 61 = .ok (.invokevirtual 146, 3) := by decide +kernel
theorem dX9_writeSky_64 : decode cX9_writeSky 64 = .ok (.ifCond .eq 8, 3) := by decide +kernel
theorem dX9_writeSky_67 : decode cX9_writeSky 67 = .ok (.bipush 65, 2) := by decide +kernel
theorem dX9_writeSky_69 : decode cX9_writeSky 69 = .ok (.goto 5, 3) := by decide +kernel
theorem dX9_writeSky_72 : decode cX9_writeSky 72 = .ok (.bipush 97, 2) := by decide +kernel
theorem dX9_writeSky_74 : decode cX9_writeSky 74 = .ok (.iload_n 2, 1) := by decide +kernel
theorem dX9_writeSky_75 : decode cX9_writeSky 75 = .ok (.iadd, 1) := by decide +kernel
theorem dX9_writeSky_76 : decode cX9_writeSky 76 = .ok (.i2c, 1) := by decide +kernel
theorem dX9_writeSky_77 : decode cX9_writeSky 77 = .ok (.invokevirtual 77, 3) := by decide +kernel
theorem dX9_writeSky_80 : decode cX9_writeSky 80 = .ok (.pop, 1) := by decide +kernel
theorem dX9_writeSky_81 : decode cX9_writeSky 81 = .ok (.iinc 2 1, 3) := by decide +kernel
theorem dX9_writeSky_84 : decode cX9_writeSky 84 = .ok (.goto (-65), 3) := by decide +kernel
theorem dX9_writeSky_87 : decode cX9_writeSky 87 = .ok (.aload_n 0, 1) := by decide +kernel
theorem dX9_writeSky_88 : decode cX9_writeSky 88 = .ok (.bipush 126, 2) := by decide +kernel
theorem dX9_writeSky_90 : decode cX9_writeSky 90 = .ok (.aload_n 0, 1) := by decide +kernel
theorem dX9_writeSky_91 : decode cX9_writeSky 91 = .ok (.getfield 12, 3) := by decide +kernel
theorem dX9_writeSky_94 : decode cX9_writeSky 94 = .ok (.getfield 54, 3) := by decide +kernel
theorem dX9_writeSky_97 : decode cX9_writeSky 97 = .ok (.getfield 229, 3) := by decide +kernel
theorem dX9_writeSky_100 : decode cX9_writeSky 100 = .ok (.iload_n 1, 1) := by decide +kernel
theorem dX9_writeSky_101 : decode cX9_writeSky 101 = .ok (.iaload, 1) := by decide +kernel
theorem dX9_writeSky_102 : decode cX9_writeSky 102 = .ok (.invokevirtual 279, 3) := by decide +kernel
theorem dX9_writeSky_105 : decode cX9_writeSky 105 = .ok (.aload_n 0, 1) := by decide +kernel
theorem dX9_writeSky_106 : decode cX9_writeSky 106 = .ok (.getfield 47, 3) := by decide +kernel
theorem dX9_writeSky_109 : decode cX9_writeSky 109 = .ok (.invokevirtual 73, 3) := by decide +kernel
theorem dX9_writeSky_112 : decode cX9_writeSky 112 = .ok (.ireturn, 1) := by decide +kernel
theorem dX9_isWell_0 : decode cX9_isWell 0 = .ok (.iconst 0, 1) := by decide +kernel
theorem dX9_isWell_1 : decode cX9_isWell 1 = .ok (.istore_n 1, 1) := by decide +kernel
theorem dX9_isWell_2 : decode cX9_isWell 2 = .ok (.iload_n 1, 1) := by decide +kernel
theorem dX9_isWell_3 : decode cX9_isWell 3 = .ok (.aload_n 0, 1) := by decide +kernel
theorem dX9_isWell_4 : decode cX9_isWell 4 = .ok (.getfield 12, 3) := by decide +kernel
theorem dX9_isWell_7 : decode cX9_isWell 7 = .ok (.getfield 165, 3) := by decide +kernel
theorem dX9_isWell_10 : decode cX9_isWell 10 = .ok (.getfield 287, 3) := by decide +kernel
theorem dX9_isWell_13 : decode cX9_isWell 13 = .ok (.if_icmp .ge 37, 3) := by decide +kernel
theorem dX9_isWell_16 : decode cX9_isWell 16 = .ok (.aload_n 0, 1) := by decide +kernel
theorem dX9_isWell_17 : decode cX9_isWell 17 = .ok (.iload_n 1, 1) := by decide +kernel
theorem dX9_isWell_18 : decode cX9_isWell 18 = .ok (.invokevirtual 288, 3) := by decide +kernel
theorem dX9_isWell_21 : decode cX9_isWell 21 = .ok (.aload_n 0, 1) := by decide +kernel
theorem dX9_isWell_22 : decode cX9_isWell 22 = .ok (.iload_n 1, 1) := by decide +kernel
theorem dX9_isWell_23 : decode cX9_isWell 23 = .ok (.invokevirtual 290, 3) := by decide +kernel
theorem dX9_isWell_26 : decode cX9_isWell 26 = .ok (.if_icmp .ne 16, 3) := by decide +kernel
theorem dX9_isWell_29 : decode cX9_isWell 29 = .ok (.aload_n 0, 1) := by decide +kernel
theorem dX9_isWell_30 : decode cX9_isWell 30 = .ok (.iload_n 1, 1) := by decide +kernel
theorem dX9_isWell_31 : decode cX9_isWell 31 = .ok (.invokevirtual 293, 3) := by decide +kernel
theorem dX9_isWell_34 : decode cX9_isWell 34 = .ok (.aload_n 0, 1) := by decide +kernel
theorem dX9_isWell_35 : decode cX9_isWell 35 = .ok (.iload_n 1, 1) := by decide +kernel
theorem dX9_isWell_36 : decode cX9_isWell 36 = .ok (.invokevirtual 296, 3) := by decide +kernel
theorem dX9_isWell_39 : decode cX9_isWell 39 = .ok (.if_icmp .eq 5, 3) := by decide +kernel
theorem dX9_isWell_42 : decode cX9_isWell 42 = .ok (.iconst 0, 1) := by decide +kernel
theorem dX9_isWell_43 : decode cX9_isWell 43 = .ok (.ireturn, 1) := by decide +kernel
theorem dX9_isWell_44 : decode cX9_isWell 44 = .ok (.iinc 1 1, 3) := by decide +kernel
theorem dX9_isWell_47 : decode cX9_isWell 47 = .ok (.goto (-45), 3) := by decide +kernel
theorem dX9_isWell_50 : decode cX9_isWell 50 = .ok (.iconst 0, 1) := by decide +kernel
theorem dX9_isWell_51 : decode cX9_isWell 51 = .ok (.istore_n 1, 1) := by decide +kernel
theorem dX9_isWell_52 : decode cX9_isWell 52 = .ok (.iload_n 1, 1) := by decide +kernel
theorem dX9_isWell_53 : decode cX9_isWell 53 = .ok (.iconst 4, 1) := by decide +kernel
theorem dX9_isWell_54 : decode cX9_isWell 54 = .ok (.if_icmp .ge 24, 3) := by decide +kernel
theorem dX9_isWell_57 : decode cX9_isWell 57 = .ok (.aload_n 0, 1) := by decide +kernel
theorem dX9_isWell_58 : decode cX9_isWell 58 = .ok (.iload_n 1, 1) := by decide +kernel
theorem dX9_isWell_59 : decode cX9_isWell 59 = .ok (.invokevirtual 299, 3) := by decide +kernel
theorem dX9_isWell_62 : decode cX9_isWell 62 = .ok (.aload_n 0, 1) := by decide +kernel
theorem dX9_isWell_63 : decode cX9_isWell 63 = .ok (.iload_n 1, 1) := by decide +kernel
theorem dX9_isWell_64 : decode cX9_isWell 64 = .ok (.invokevirtual 302, 3) := by decide +kernel
theorem dX9_isWell_67 : decode cX9_isWell 67 = .ok (.if_icmp .eq 5, 3) := by decide +kernel
theorem dX9_isWell_70 : decode cX9_isWell 70 = .ok (.iconst 0, 1) := by decide +kernel
theorem dX9_isWell_71 : decode cX9_isWell 71 = .ok (.ireturn, 1) := by decide +kernel
theorem dX9_isWell_72 : decode cX9_isWell 72 = .ok (.iinc 1 1, 3) := by decide +kernel
theorem dX9_isWell_75 : decode cX9_isWell 75 = .ok (.goto (-23), 3) := by decide +kernel
theorem dX9_isWell_78 : decode cX9_isWell 78 = .ok (.iconst 1, 1) := by decide +kernel
theorem dX9_isWell_79 : decode cX9_isWell 79 = .ok (.ireturn, 1) := by decide +kernel
theorem dX9_meanCloud_0 : decode cX9_meanCloud 0 = .ok (.aload_n 0, 1) := by decide +kernel
theorem dX9_meanCloud_1 : decode cX9_meanCloud 1 = .ok (.getfield 12, 3) := by decide +kernel
theorem dX9_meanCloud_4 : decode cX9_meanCloud 4 = .ok (.getfield 54, 3) := by decide +kernel
theorem dX9_meanCloud_7 : decode cX9_meanCloud 7 = .ok (.getfield 229, 3) := by decide +kernel
theorem dX9_meanCloud_10 : decode cX9_meanCloud 10 = .ok (.iconst 4, 1) := by decide +kernel
theorem dX9_meanCloud_11 : decode cX9_meanCloud 11 = .ok (.invokestatic 305, 3) := by decide +kernel
theorem dX9_meanCloud_14 : decode cX9_meanCloud 14 = .ok (.i2d, 1) := by decide +kernel
theorem dX9_meanCloud_15 : decode cX9_meanCloud 15 = .ok (.ldc2_w 309, 3) := by decide +kernel
theorem dX9_meanCloud_18 : decode cX9_meanCloud 18 = .ok (.ddiv, 1) := by decide +kernel
theorem dX9_meanCloud_19 : decode cX9_meanCloud 19 = .ok (.dreturn, 1) := by decide +kernel
theorem dX9_poundShare_0 : decode cX9_poundShare 0 = .ok (.aload_n 0, 1) := by decide +kernel
theorem dX9_poundShare_1 : decode cX9_poundShare 1 = .ok (.getfield 12, 3) := by decide +kernel
theorem dX9_poundShare_4 : decode cX9_poundShare 4 = .ok (.getfield 155, 3) := by decide +kernel
theorem dX9_poundShare_7 : decode cX9_poundShare 7 = .ok (.getfield 311, 3) := by decide +kernel
theorem dX9_poundShare_10 : decode cX9_poundShare 10 = .ok (.ifCond .ne 5, 3) := by decide +kernel
theorem dX9_poundShare_13 : decode cX9_poundShare 13 = .ok (.fconst 0, 1) := by decide +kernel
theorem dX9_poundShare_14 : decode cX9_poundShare 14 = .ok (.freturn, 1) := by decide +kernel
theorem dX9_poundShare_15 : decode cX9_poundShare 15 = .ok (.aload_n 0, 1) := by decide +kernel
theorem dX9_poundShare_16 : decode cX9_poundShare 16 = .ok (.getfield 12, 3) := by decide +kernel
theorem dX9_poundShare_19 : decode cX9_poundShare 19 = .ok (.getfield 155, 3) := by decide +kernel
theorem dX9_poundShare_22 : decode cX9_poundShare 22 = .ok (.invokevirtual 312, 3) := by decide +kernel
theorem dX9_poundShare_25 : decode cX9_poundShare 25 = .ok (.i2f, 1) := by decide +kernel
theorem dX9_poundShare_26 : decode cX9_poundShare 26 = .ok (.aload_n 0, 1) := by decide +kernel
theorem dX9_poundShare_27 : decode cX9_poundShare 27 = .ok (.getfield 12, 3) := by decide +kernel
theorem dX9_poundShare_30 : decode cX9_poundShare 30 = .ok (.getfield 155, 3) := by decide +kernel
theorem dX9_poundShare_33 : decode cX9_poundShare 33 = .ok (.getfield 311, 3) := by decide +kernel
theorem dX9_poundShare_36 : decode cX9_poundShare 36 = .ok (.i2f, 1) := by decide +kernel
theorem dX9_poundShare_37 : decode cX9_poundShare 37 = .ok (.fdiv, 1) := by decide +kernel
theorem dX9_poundShare_38 : decode cX9_poundShare 38 = .ok (.freturn, 1) := by decide +kernel
theorem dX9_account_0 : decode cX9_account 0 = .ok (.iload_n 1, 1) := by decide +kernel
theorem dX9_account_1 : decode cX9_account 1 = .ok (.tableswitch 278 0 13 #[71, 82, 93, 104, 115, 126, 134, 158, 166, 190, 214, 238, 262, 270], 71) := by decide +kernel
theorem dX9_account_72 : decode cX9_account 72 = .ok (.aload_n 0, 1) := by decide +kernel
theorem dX9_account_73 : decode cX9_account 73 = .ok (.getfield 12, 3) := by decide +kernel
theorem dX9_account_76 : decode cX9_account 76 = .ok (.getfield 54, 3) := by decide +kernel
theorem dX9_account_79 : decode cX9_account 79 = .ok (.getfield 58, 3) := by decide +kernel
theorem dX9_account_82 : decode cX9_account 82 = .ok (.ireturn, 1) := by decide +kernel
theorem dX9_account_83 : decode cX9_account 83 = .ok (.aload_n 0, 1) := by decide +kernel
theorem dX9_account_84 : decode cX9_account 84 = .ok (.getfield 12, 3) := by decide +kernel
theorem dX9_account_87 : decode cX9_account 87 = .ok (.getfield 165, 3) := by decide +kernel
theorem dX9_account_90 : decode cX9_account 90 = .ok (.getfield 287, 3) := by decide +kernel
theorem dX9_account_93 : decode cX9_account 93 = .ok (.ireturn, 1) := by decide +kernel
theorem dX9_account_94 : decode cX9_account 94 = .ok (.aload_n 0, 1) := by decide +kernel
theorem dX9_account_95 : decode cX9_account 95 = .ok (.getfield 12, 3) := by decide +kernel
theorem dX9_account_98 : decode cX9_account 98 = .ok (.getfield 155, 3) := by decide +kernel
theorem dX9_account_101 : decode cX9_account 101 = .ok (.getfield 311, 3) := by decide +kernel
theorem dX9_account_104 : decode cX9_account 104 = .ok (.ireturn, 1) := by decide +kernel
theorem dX9_account_105 : decode cX9_account 105 = .ok (.aload_n 0, 1) := by decide +kernel
theorem dX9_account_106 : decode cX9_account 106 = .ok (.getfield 12, 3) := by decide +kernel
theorem dX9_account_109 : decode cX9_account 109 = .ok (.getfield 155, 3) := by decide +kernel
theorem dX9_account_112 : decode cX9_account 112 = .ok (.invokevirtual 312, 3) := by decide +kernel
theorem dX9_account_115 : decode cX9_account 115 = .ok (.ireturn, 1) := by decide +kernel
theorem dX9_account_116 : decode cX9_account 116 = .ok (.aload_n 0, 1) := by decide +kernel
theorem dX9_account_117 : decode cX9_account 117 = .ok (.getfield 12, 3) := by decide +kernel
theorem dX9_account_120 : decode cX9_account 120 = .ok (.getfield 54, 3) := by decide +kernel
theorem dX9_account_123 : decode cX9_account 123 = .ok (.invokevirtual 315, 3) := by decide +kernel
theorem dX9_account_126 : decode cX9_account 126 = .ok (.ireturn, 1) := by decide +kernel
theorem dX9_account_127 : decode cX9_account 127 = .ok (.aload_n 0, 1) := by decide +kernel
theorem dX9_account_128 : decode cX9_account 128 = .ok (.getfield 12, 3) := by decide +kernel
theorem dX9_account_131 : decode cX9_account 131 = .ok (.getfield 318, 3) := by decide +kernel
theorem dX9_account_134 : decode cX9_account 134 = .ok (.ireturn, 1) := by decide +kernel
theorem dX9_account_135 : decode cX9_account 135 = .ok (.aload_n 0, 1) := by decide +kernel
theorem dX9_account_136 : decode cX9_account 136 = .ok (.getfield 12, 3) := by decide +kernel
theorem dX9_account_139 : decode cX9_account 139 = .ok (.getfield 54, 3) := by decide +kernel
theorem dX9_account_142 : decode cX9_account 142 = .ok (.getfield 152, 3) := by decide +kernel
theorem dX9_account_145 : decode cX9_account 145 = .ok (.aload_n 0, 1) := by decide +kernel
theorem dX9_account_146 : decode cX9_account 146 = .ok (.getfield 12, 3) := by decide +kernel
theorem dX9_account_149 : decode cX9_account 149 = .ok (.getfield 54, 3) := by decide +kernel
theorem dX9_account_152 : decode cX9_account 152 = .ok (.getfield 58, 3) := by decide +kernel
theorem dX9_account_155 : decode cX9_account 155 = .ok (.invokestatic 305, 3) := by decide +kernel
theorem dX9_account_158 : decode cX9_account 158 = .ok (.ireturn, 1) := by decide +kernel
theorem dX9_account_159 : decode cX9_account 159 = .ok (.aload_n 0, 1) := by decide +kernel
theorem dX9_account_160 : decode cX9_account 160 = .ok (.getfield 12, 3) := by decide +kernel
theorem dX9_account_163 : decode cX9_account 163 = .ok (.getfield 321, 3) := by decide +kernel
theorem dX9_account_166 : decode cX9_account 166 = .ok (.ireturn, 1) := by decide +kernel
theorem dX9_account_167 : decode cX9_account 167 = .ok (.aload_n 0, 1) := by decide +kernel
theorem dX9_account_168 : decode cX9_account 168 = .ok (.getfield 12, 3) := by decide +kernel
theorem dX9_account_171 : decode cX9_account 171 = .ok (.getfield 165, 3) := by decide +kernel
theorem dX9_account_174 : decode cX9_account 174 = .ok (.getfield 235, 3) := by decide +kernel
theorem dX9_account_177 : decode cX9_account 177 = .ok (.aload_n 0, 1) := by decide +kernel
theorem dX9_account_178 : decode cX9_account 178 = .ok (.getfield 12, 3) := by decide +kernel
theorem dX9_account_181 : decode cX9_account 181 = .ok (.getfield 165, 3) := by decide +kernel
theorem dX9_account_184 : decode cX9_account 184 = .ok (.getfield 287, 3) := by decide +kernel
theorem dX9_account_187 : decode cX9_account 187 = .ok (.invokestatic 305, 3) := by decide +kernel
theorem dX9_account_190 : decode cX9_account 190 = .ok (.ireturn, 1) := by decide +kernel
theorem dX9_account_191 : decode cX9_account 191 = .ok (.aload_n 0, 1) := by decide +kernel
theorem dX9_account_192 : decode cX9_account 192 = .ok (.getfield 12, 3) := by decide +kernel
theorem dX9_account_195 : decode cX9_account 195 = .ok (.getfield 165, 3) := by decide +kernel
theorem dX9_account_198 : decode cX9_account 198 = .ok (.getfield 238, 3) := by decide +kernel
theorem dX9_account_201 : decode cX9_account 201 = .ok (.aload_n 0, 1) := by decide +kernel
theorem dX9_account_202 : decode cX9_account 202 = .ok (.getfield 12, 3) := by decide +kernel
theorem dX9_account_205 : decode cX9_account 205 = .ok (.getfield 165, 3) := by decide +kernel
theorem dX9_account_208 : decode cX9_account 208 = .ok (.getfield 287, 3) := by decide +kernel
theorem dX9_account_211 : decode cX9_account 211 = .ok (.invokestatic 305, 3) := by decide +kernel
theorem dX9_account_214 : decode cX9_account 214 = .ok (.ireturn, 1) := by decide +kernel
theorem dX9_account_215 : decode cX9_account 215 = .ok (.aload_n 0, 1) := by decide +kernel
theorem dX9_account_216 : decode cX9_account 216 = .ok (.getfield 12, 3) := by decide +kernel
theorem dX9_account_219 : decode cX9_account 219 = .ok (.getfield 165, 3) := by decide +kernel
theorem dX9_account_222 : decode cX9_account 222 = .ok (.getfield 189, 3) := by decide +kernel
theorem dX9_account_225 : decode cX9_account 225 = .ok (.aload_n 0, 1) := by decide +kernel
theorem dX9_account_226 : decode cX9_account 226 = .ok (.getfield 12, 3) := by decide +kernel
theorem dX9_account_229 : decode cX9_account 229 = .ok (.getfield 165, 3) := by decide +kernel
theorem dX9_account_232 : decode cX9_account 232 = .ok (.getfield 287, 3) := by decide +kernel
theorem dX9_account_235 : decode cX9_account 235 = .ok (.invokestatic 305, 3) := by decide +kernel
theorem dX9_account_238 : decode cX9_account 238 = .ok (.ireturn, 1) := by decide +kernel
theorem dX9_account_239 : decode cX9_account 239 = .ok (.aload_n 0, 1) := by decide +kernel
theorem dX9_account_240 : decode cX9_account 240 = .ok (.getfield 12, 3) := by decide +kernel
theorem dX9_account_243 : decode cX9_account 243 = .ok (.getfield 165, 3) := by decide +kernel
theorem dX9_account_246 : decode cX9_account 246 = .ok (.getfield 192, 3) := by decide +kernel
theorem dX9_account_249 : decode cX9_account 249 = .ok (.aload_n 0, 1) := by decide +kernel
theorem dX9_account_250 : decode cX9_account 250 = .ok (.getfield 12, 3) := by decide +kernel
theorem dX9_account_253 : decode cX9_account 253 = .ok (.getfield 165, 3) := by decide +kernel
theorem dX9_account_256 : decode cX9_account 256 = .ok (.getfield 287, 3) := by decide +kernel
theorem dX9_account_259 : decode cX9_account 259 = .ok (.invokestatic 305, 3) := by decide +kernel
theorem dX9_account_262 : decode cX9_account 262 = .ok (.ireturn, 1) := by decide +kernel
theorem dX9_account_263 : decode cX9_account 263 = .ok (.aload_n 0, 1) := by decide +kernel
theorem dX9_account_264 : decode cX9_account 264 = .ok (.getfield 43, 3) := by decide +kernel
theorem dX9_account_267 : decode cX9_account 267 = .ok (.invokevirtual 73, 3) := by decide +kernel
theorem dX9_account_270 : decode cX9_account 270 = .ok (.ireturn, 1) := by decide +kernel
theorem dX9_account_271 : decode cX9_account 271 = .ok (.aload_n 0, 1) := by decide +kernel
theorem dX9_account_272 : decode cX9_account 272 = .ok (.getfield 22, 3) := by decide +kernel
theorem dX9_account_275 : decode cX9_account 275 = .ok (.getfield 324, 3) := by decide +kernel
theorem dX9_account_278 : decode cX9_account 278 = .ok (.ireturn, 1) := by decide +kernel
theorem dX9_account_279 : decode cX9_account 279 = .ok (.bipush (-2), 2) := by decide +kernel
theorem dX9_account_281 : decode cX9_account 281 = .ok (.ireturn, 1) := by decide +kernel
theorem dX9_undo_0 : decode cX9_undo 0 = .ok (.aload_n 0, 1) := by decide +kernel
theorem dX9_undo_1 : decode cX9_undo 1 = .ok (.getfield 22, 3) := by decide +kernel
theorem dX9_undo_4 : decode cX9_undo 4 = .ok (.aload_n 0, 1) := by decide +kernel
theorem dX9_undo_5 : decode cX9_undo 5 = .ok (.getfield 12, 3) := by decide +kernel
theorem dX9_undo_8 : decode cX9_undo 8 = .ok (.invokevirtual 325, 3) := by decide +kernel
theorem dX9_undo_11 : decode cX9_undo 11 = .ok (.ireturn, 1) := by decide +kernel
theorem dX9_save_0 : decode cX9_save 0 = .ok (.aload_n 0, 1) := by decide +kernel
theorem dX9_save_1 : decode cX9_save 1 = .ok (.getfield 16, 3) := by decide +kernel
theorem dX9_save_4 : decode cX9_save 4 = .ok (.aload_n 0, 1) := by decide +kernel
theorem dX9_save_5 : decode cX9_save 5 = .ok (.getfield 12, 3) := by decide +kernel
theorem dX9_save_8 : decode cX9_save 8 = .ok (.invokevirtual 329, 3) := by decide +kernel
theorem dX9_save_11 : decode cX9_save 11 = .ok (.aload_n 0, 1) := by decide +kernel
theorem dX9_save_12 : decode cX9_save 12 = .ok (.iconst 1, 1) := by decide +kernel
theorem dX9_save_13 : decode cX9_save 13 = .ok (.putfield 333, 3) := by decide +kernel
theorem dX9_save_16 : decode cX9_save 16 = .ok (.aload_n 0, 1) := by decide +kernel
theorem dX9_save_17 : decode cX9_save 17 = .ok (.getfield 12, 3) := by decide +kernel
theorem dX9_save_20 : decode cX9_save 20 = .ok (.getfield 54, 3) := by decide +kernel
theorem dX9_save_23 : decode cX9_save 23 = .ok (.getfield 58, 3) := by decide +kernel
theorem dX9_save_26 : decode cX9_save 26 = .ok (.ireturn, 1) := by decide +kernel
theorem dX9_restore_0 : decode cX9_restore 0 = .ok (.aload_n 0, 1) := by decide +kernel
theorem dX9_restore_1 : decode cX9_restore 1 = .ok (.getfield 333, 3) := by decide +kernel
theorem dX9_restore_4 : decode cX9_restore 4 = .ok (.ifCond .ne 6, 3) := by decide +kernel
theorem dX9_restore_7 : decode cX9_restore 7 = .ok (.bipush (-4), 2) := by decide +kernel
theorem dX9_restore_9 : decode cX9_restore 9 = .ok (.ireturn, 1) := by decide +kernel
theorem dX9_restore_10 : decode cX9_restore 10 = .ok (.aload_n 0, 1) := by decide +kernel
theorem dX9_restore_11 : decode cX9_restore 11 = .ok (.getfield 12, 3) := by decide +kernel
theorem dX9_restore_14 : decode cX9_restore 14 = .ok (.aload_n 0, 1) := by decide +kernel
theorem dX9_restore_15 : decode cX9_restore 15 = .ok (.getfield 16, 3) := by decide +kernel
theorem dX9_restore_18 : decode cX9_restore 18 = .ok (.invokevirtual 329, 3) := by decide +kernel
theorem dX9_restore_21 : decode cX9_restore 21 = .ok (.aload_n 0, 1) := by decide +kernel
theorem dX9_restore_22 : decode cX9_restore 22 = .ok (.getfield 22, 3) := by decide +kernel
theorem dX9_restore_25 : decode cX9_restore 25 = .ok (.invokevirtual 66, 3) := by decide +kernel
theorem dX9_restore_28 : decode cX9_restore 28 = .ok (.aload_n 0, 1) := by decide +kernel
theorem dX9_restore_29 : decode cX9_restore 29 = .ok (.getfield 12, 3) := by decide +kernel
theorem dX9_restore_32 : decode cX9_restore 32 = .ok (.getfield 54, 3) := by decide +kernel
theorem dX9_restore_35 : decode cX9_restore 35 = .ok (.getfield 58, 3) := by decide +kernel
theorem dX9_restore_38 : decode cX9_restore 38 = .ok (.ireturn, 1) := by decide +kernel
theorem dX9_change_0 : decode cX9_change 0 = .ok (.aload_n 0, 1) := by decide +kernel
theorem dX9_change_1 : decode cX9_change 1 = .ok (.getfield 22, 3) := by decide +kernel
theorem dX9_change_4 : decode cX9_change 4 = .ok (.aload_n 0, 1) := by decide +kernel
theorem dX9_change_5 : decode cX9_change 5 = .ok (.getfield 12, 3) := by decide +kernel
theorem dX9_change_8 : decode cX9_change 8 = .ok (.invokevirtual 337, 3) := by decide +kernel
theorem dX9_change_11 : decode cX9_change 11 = .ok (.aload_n 0, 1) := by decide +kernel
theorem dX9_change_12 : decode cX9_change 12 = .ok (.aload_n 1, 1) := by decide +kernel
theorem dX9_change_13 : decode cX9_change 13 = .ok (.iload_n 2, 1) := by decide +kernel
theorem dX9_change_14 : decode cX9_change 14 = .ok (.iload_n 3, 1) := by decide +kernel
theorem dX9_change_15 : decode cX9_change 15 = .ok (.iload 4, 2) := by decide +kernel
theorem dX9_change_17 : decode cX9_change 17 = .ok (.invokevirtual 340, 3) := by decide +kernel
theorem dX9_change_20 : decode cX9_change 20 = .ok (.istore 5, 2) := by decide +kernel
theorem dX9_change_22 : decode cX9_change 22 = .ok (.iload 5, 2) := by decide +kernel
theorem dX9_change_24 : decode cX9_change 24 = .ok (.ifCond .lt 10, 3) := by decide +kernel
theorem dX9_change_27 : decode cX9_change 27 = .ok (.aload_n 0, 1) := by decide +kernel
theorem dX9_change_28 : decode cX9_change 28 = .ok (.getfield 22, 3) := by decide +kernel
theorem dX9_change_31 : decode cX9_change 31 = .ok (.invokevirtual 343, 3) := by decide +kernel
theorem dX9_change_34 : decode cX9_change 34 = .ok (.iload 5, 2) := by decide +kernel
theorem dX9_change_36 : decode cX9_change 36 = .ok (.ireturn, 1) := by decide +kernel
theorem dX9_carryOut_0 : decode cX9_carryOut 0 = .ok (.getstatic 346, 3) := by decide +kernel
theorem dX9_carryOut_3 : decode cX9_carryOut 3 = .ok (.aload_n 1, 1) := by decide +kernel
theorem dX9_carryOut_4 : decode cX9_carryOut 4 = .ok (.invokevirtual 351, 3) := by decide +kernel
theorem dX9_carryOut_7 : decode cX9_carryOut 7 = .ok (.iaload, 1) := by decide +kernel
theorem dX9_carryOut_8 : decode cX9_carryOut 8 = .ok (.tableswitch 224 1 12 #[64, 78, 91, 105, 119, 133, 146, 162, 176, 189, 202, 216], 64) := by decide +kernel
theorem dX9_carryOut_72 : decode cX9_carryOut 72 = .ok (.aload_n 0, 1) := by decide +kernel
theorem dX9_carryOut_73 : decode cX9_carryOut 73 = .ok (.getfield 12, 3) := by decide +kernel
theorem dX9_carryOut_76 : decode cX9_carryOut 76 = .ok (.iload_n 2, 1) := by decide +kernel
theorem dX9_carryOut_77 : decode cX9_carryOut 77 = .ok (.iload_n 3, 1) := by decide +kernel
theorem dX9_carryOut_78 : decode cX9_carryOut 78 = .ok (.aload_n 0, 1) := by decide +kernel
theorem dX9_carryOut_79 : decode cX9_carryOut 79 = .ok (.getfield 29, 3) := by decide +kernel
theorem dX9_carryOut_82 : decode cX9_carryOut 82 = .ok (.invokevirtual 354, 3) := by decide +kernel
theorem dX9_carryOut_85 : decode cX9_carryOut 85 = .ok (.ireturn, 1) := by decide +kernel
theorem dX9_carryOut_86 : decode cX9_carryOut 86 = .ok (.aload_n 0, 1) := by decide +kernel
theorem dX9_carryOut_87 : decode cX9_carryOut 87 = .ok (.getfield 12, 3) := by decide +kernel
theorem dX9_carryOut_90 : decode cX9_carryOut 90 = .ok (.iload_n 2, 1) := by decide +kernel
theorem dX9_carryOut_91 : decode cX9_carryOut 91 = .ok (.aload_n 0, 1) := by decide +kernel
theorem dX9_carryOut_92 : decode cX9_carryOut 92 = .ok (.getfield 29, 3) := by decide +kernel
theorem dX9_carryOut_95 : decode cX9_carryOut 95 = .ok (.invokevirtual 358, 3) := by decide +kernel
theorem dX9_carryOut_98 : decode cX9_carryOut 98 = .ok (.ireturn, 1) := by decide +kernel
theorem dX9_carryOut_99 : decode cX9_carryOut 99 = .ok (.aload_n 0, 1) := by decide +kernel
theorem dX9_carryOut_100 : decode cX9_carryOut 100 = .ok (.getfield 12, 3) := by decide +kernel
theorem dX9_carryOut_103 : decode cX9_carryOut 103 = .ok (.iload_n 2, 1) := by decide +kernel
theorem dX9_carryOut_104 : decode cX9_carryOut 104 = .ok (.iload_n 3, 1) := by decide +kernel
theorem dX9_carryOut_105 : decode cX9_carryOut 105 = .ok (.aload_n 0, 1) := by decide +kernel
theorem dX9_carryOut_106 : decode cX9_carryOut 106 = .ok (.getfield 29, 3) := by decide +kernel
theorem dX9_carryOut_109 : decode cX9_carryOut 109 = .ok (.invokevirtual 362, 3) := by decide +kernel
theorem dX9_carryOut_112 : decode cX9_carryOut 112 = .ok (.ireturn, 1) := by decide +kernel
theorem dX9_carryOut_113 : decode cX9_carryOut 113 = .ok (.aload_n 0, 1) := by decide +kernel
theorem dX9_carryOut_114 : decode cX9_carryOut 114 = .ok (.getfield 12, 3) := by decide +kernel
theorem dX9_carryOut_117 : decode cX9_carryOut 117 = .ok (.iload_n 2, 1) := by decide +kernel
theorem dX9_carryOut_118 : decode cX9_carryOut 118 = .ok (.iload_n 3, 1) := by decide +kernel
theorem dX9_carryOut_119 : decode cX9_carryOut 119 = .ok (.aload_n 0, 1) := by decide +kernel
theorem dX9_carryOut_120 : decode cX9_carryOut 120 = .ok (.getfield 29, 3) := by decide +kernel
theorem dX9_carryOut_123 : decode cX9_carryOut 123 = .ok (.invokevirtual 365, 3) := by decide +kernel
theorem dX9_carryOut_126 : decode cX9_carryOut 126 = .ok (.ireturn, 1) := by decide +kernel
theorem dX9_carryOut_127 : decode cX9_carryOut 127 = .ok (.aload_n 0, 1) := by decide +kernel
theorem dX9_carryOut_128 : decode cX9_carryOut 128 = .ok (.getfield 12, 3) := by decide +kernel
theorem dX9_carryOut_131 : decode cX9_carryOut 131 = .ok (.iload_n 2, 1) := by decide +kernel
theorem dX9_carryOut_132 : decode cX9_carryOut 132 = .ok (.iload_n 3, 1) := by decide +kernel
theorem dX9_carryOut_133 : decode cX9_carryOut 133 = .ok (.aload_n 0, 1) := by decide +kernel
theorem dX9_carryOut_134 : decode cX9_carryOut 134 = .ok (.getfield 29, 3) := by decide +kernel
theorem dX9_carryOut_137 : decode cX9_carryOut 137 = .ok (.invokevirtual 368, 3) := by decide +kernel
theorem dX9_carryOut_140 : decode cX9_carryOut 140 = .ok (.ireturn, 1) := by decide +kernel
theorem dX9_carryOut_141 : decode cX9_carryOut 141 = .ok (.aload_n 0, 1) := by decide +kernel
theorem dX9_carryOut_142 : decode cX9_carryOut 142 = .ok (.getfield 12, 3) := by decide +kernel
theorem dX9_carryOut_145 : decode cX9_carryOut 145 = .ok (.iload_n 2, 1) := by decide +kernel
theorem dX9_carryOut_146 : decode cX9_carryOut 146 = .ok (.aload_n 0, 1) := by decide +kernel
theorem dX9_carryOut_147 : decode cX9_carryOut 147 = .ok (.getfield 29, 3) := by decide +kernel
theorem dX9_carryOut_150 : decode cX9_carryOut 150 = .ok (.invokevirtual 371, 3) := by decide +kernel
theorem dX9_carryOut_153 : decode cX9_carryOut 153 = .ok (.ireturn, 1) := by decide +kernel
theorem dX9_carryOut_154 : decode cX9_carryOut 154 = .ok (.aload_n 0, 1) := by decide +kernel
theorem dX9_carryOut_155 : decode cX9_carryOut 155 = .ok (.getfield 12, 3) := by decide +kernel
theorem dX9_carryOut_158 : decode cX9_carryOut 158 = .ok (.iload_n 2, 1) := by decide +kernel
theorem dX9_carryOut_159 : decode cX9_carryOut 159 = .ok (.iload_n 3, 1) := by decide +kernel
theorem dX9_carryOut_160 : decode cX9_carryOut 160 = .ok (.iload 4, 2) := by decide +kernel
theorem dX9_carryOut_162 : decode cX9_carryOut 162 = .ok (.aload_n 0, 1) := by decide +kernel
theorem dX9_carryOut_163 : decode cX9_carryOut 163 = .ok (.getfield 29, 3) := by decide +kernel
theorem dX9_carryOut_166 : decode cX9_carryOut 166 = .ok (.invokevirtual 374, 3) := by decide +kernel
theorem dX9_carryOut_169 : decode cX9_carryOut 169 = .ok (.ireturn, 1) := by decide +kernel
theorem dX9_carryOut_170 : decode cX9_carryOut 170 = .ok (.aload_n 0, 1) := by decide +kernel
theorem dX9_carryOut_171 : decode cX9_carryOut 171 = .ok (.getfield 12, 3) := by decide +kernel
theorem dX9_carryOut_174 : decode cX9_carryOut 174 = .ok (.iload_n 2, 1) := by decide +kernel
theorem dX9_carryOut_175 : decode cX9_carryOut 175 = .ok (.iload_n 3, 1) := by decide +kernel
theorem dX9_carryOut_176 : decode cX9_carryOut 176 = .ok (.aload_n 0, 1) := by decide +kernel
theorem dX9_carryOut_177 : decode cX9_carryOut 177 = .ok (.getfield 29, 3) := by decide +kernel
theorem dX9_carryOut_180 : decode cX9_carryOut 180 = .ok (.invokevirtual 378, 3) := by decide +kernel
theorem dX9_carryOut_183 : decode cX9_carryOut 183 = .ok (.ireturn, 1) := by decide +kernel
theorem dX9_carryOut_184 : decode cX9_carryOut 184 = .ok (.aload_n 0, 1) := by decide +kernel
theorem dX9_carryOut_185 : decode cX9_carryOut 185 = .ok (.getfield 12, 3) := by decide +kernel
theorem dX9_carryOut_188 : decode cX9_carryOut 188 = .ok (.iload_n 2, 1) := by decide +kernel
theorem dX9_carryOut_189 : decode cX9_carryOut 189 = .ok (.aload_n 0, 1) := by decide +kernel
theorem dX9_carryOut_190 : decode cX9_carryOut 190 = .ok (.getfield 29, 3) := by decide +kernel
theorem dX9_carryOut_193 : decode cX9_carryOut 193 = .ok (.invokevirtual 381, 3) := by decide +kernel
theorem dX9_carryOut_196 : decode cX9_carryOut 196 = .ok (.ireturn, 1) := by decide +kernel
theorem dX9_carryOut_197 : decode cX9_carryOut 197 = .ok (.aload_n 0, 1) := by decide +kernel
theorem dX9_carryOut_198 : decode cX9_carryOut 198 = .ok (.getfield 12, 3) := by decide +kernel
theorem dX9_carryOut_201 : decode cX9_carryOut 201 = .ok (.iload_n 2, 1) := by decide +kernel
theorem dX9_carryOut_202 : decode cX9_carryOut 202 = .ok (.aload_n 0, 1) := by decide +kernel
theorem dX9_carryOut_203 : decode cX9_carryOut 203 = .ok (.getfield 29, 3) := by decide +kernel
theorem dX9_carryOut_206 : decode cX9_carryOut 206 = .ok (.invokevirtual 384, 3) := by decide +kernel
theorem dX9_carryOut_209 : decode cX9_carryOut 209 = .ok (.ireturn, 1) := by decide +kernel
theorem dX9_carryOut_210 : decode cX9_carryOut 210 = .ok (.aload_n 0, 1) := by decide +kernel
theorem dX9_carryOut_211 : decode cX9_carryOut 211 = .ok (.getfield 12, 3) := by decide +kernel
theorem dX9_carryOut_214 : decode cX9_carryOut 214 = .ok (.iload_n 2, 1) := by decide +kernel
theorem dX9_carryOut_215 : decode cX9_carryOut 215 = .ok (.iload_n 3, 1) := by decide +kernel
theorem dX9_carryOut_216 : decode cX9_carryOut 216 = .ok (.aload_n 0, 1) := by decide +kernel
theorem dX9_carryOut_217 : decode cX9_carryOut 217 = .ok (.getfield 29, 3) := by decide +kernel
theorem dX9_carryOut_220 : decode cX9_carryOut 220 = .ok (.invokevirtual 387, 3) := by decide +kernel
theorem dX9_carryOut_223 : decode cX9_carryOut 223 = .ok (.ireturn, 1) := by decide +kernel
theorem dX9_carryOut_224 : decode cX9_carryOut 224 = .ok (.aload_n 0, 1) := by decide +kernel
theorem dX9_carryOut_225 : decode cX9_carryOut 225 = .ok (.getfield 12, 3) := by decide +kernel
theorem dX9_carryOut_228 : decode cX9_carryOut 228 = .ok (.invokevirtual 390, 3) := by decide +kernel
theorem dX9_carryOut_231 : decode cX9_carryOut 231 = .ok (.ireturn, 1) := by decide +kernel
theorem dX9_carryOut_232 : decode cX9_carryOut 232 = .ok (.bipush (-2), 2) := by decide +kernel
theorem dX9_carryOut_234 : decode cX9_carryOut 234 = .ok (.ireturn, 1) := by decide +kernel
theorem dX9_carryOutInput_0 : decode cX9_carryOutInput 0 = .ok (.aload_n 0, 1) := by decide +kernel
theorem dX9_carryOutInput_1 : decode cX9_carryOutInput 1 = .ok (.getfield 36, 3) := by decide +kernel
theorem dX9_carryOutInput_4 : decode cX9_carryOutInput 4 = .ok (.aload_n 0, 1) := by decide +kernel
theorem dX9_carryOutInput_5 : decode cX9_carryOutInput 5 = .ok (.getfield 43, 3) := by decide +kernel
theorem dX9_carryOutInput_8 : decode cX9_carryOutInput 8 = .ok (.invokevirtual 393, 3) := by decide +kernel
theorem dX9_carryOutInput_11 : decode cX9_carryOutInput 11 = .ok (.istore_n 1, 1) := by decide +kernel
theorem dX9_carryOutInput_12 : decode cX9_carryOutInput 12 = .ok (.iload_n 1, 1) := by decide +kernel
theorem dX9_carryOutInput_13 : decode cX9_carryOutInput 13 = .ok (.ifCond .ge 17, 3) := by decide +kernel
theorem dX9_carryOutInput_16 : decode cX9_carryOutInput 16 = .ok (.aload_n 0, 1) := by decide +kernel
theorem dX9_carryOutInput_17 : decode cX9_carryOutInput 17 = .ok (.aload_n 0, 1) := by decide +kernel
theorem dX9_carryOutInput_18 : decode cX9_carryOutInput 18 = .ok (.getfield 36, 3) := by decide +kernel
theorem dX9_carryOutInput_21 : decode cX9_carryOutInput 21 = .ok (.getfield 397, 3) := by decide +kernel
theorem dX9_carryOutInput_24 : decode cX9_carryOutInput 24 = .ok (.putfield 50, 3) := by decide +kernel
theorem dX9_carryOutInput_27 : decode cX9_carryOutInput 27 = .ok (.bipush (-2), 2) := by decide +kernel
theorem dX9_carryOutInput_29 : decode cX9_carryOutInput 29 = .ok (.ireturn, 1) := by decide +kernel
theorem dX9_carryOutInput_30 : decode cX9_carryOutInput 30 = .ok (.aload_n 0, 1) := by decide +kernel
theorem dX9_carryOutInput_31 : decode cX9_carryOutInput 31 = .ok (.getfield 22, 3) := by decide +kernel
theorem dX9_carryOutInput_34 : decode cX9_carryOutInput 34 = .ok (.aload_n 0, 1) := by decide +kernel
theorem dX9_carryOutInput_35 : decode cX9_carryOutInput 35 = .ok (.getfield 12, 3) := by decide +kernel
theorem dX9_carryOutInput_38 : decode cX9_carryOutInput 38 = .ok (.invokevirtual 337, 3) := by decide +kernel
theorem dX9_carryOutInput_41 : decode cX9_carryOutInput 41 = .ok (.iconst 0, 1) := by decide +kernel
theorem dX9_carryOutInput_42 : decode cX9_carryOutInput 42 = .ok (.istore_n 2, 1) := by decide +kernel
theorem dX9_carryOutInput_43 : decode cX9_carryOutInput 43 = .ok (.iconst 0, 1) := by decide +kernel
theorem dX9_carryOutInput_44 : decode cX9_carryOutInput 44 = .ok (.istore_n 3, 1) := by decide +kernel
theorem dX9_carryOutInput_45 : decode cX9_carryOutInput 45 = .ok (.iload_n 3, 1) := by decide +kernel
theorem dX9_carryOutInput_46 : decode cX9_carryOutInput 46 = .ok (.iload_n 1, 1) := by decide +kernel
theorem dX9_carryOutInput_47 : decode cX9_carryOutInput 47 = .ok (.if_icmp .ge 102, 3) := by decide +kernel
theorem dX9_carryOutInput_50 : decode cX9_carryOutInput 50 = .ok (.aload_n 0, 1) := by decide +kernel
theorem dX9_carryOutInput_51 : decode cX9_carryOutInput 51 = .ok (.getfield 36, 3) := by decide +kernel
theorem dX9_carryOutInput_54 : decode cX9_carryOutInput 54 = .ok (.aload_n 0, 1) := by decide +kernel
theorem dX9_carryOutInput_55 : decode cX9_carryOutInput 55 = .ok (.getfield 43, 3) := by decide +kernel
theorem dX9_carryOutInput_58 : decode cX9_carryOutInput 58 = .ok (.iload_n 2, 1) := by decide +kernel
theorem dX9_carryOutInput_59 : decode cX9_carryOutInput 59 = .ok (.invokevirtual 400, 3) := by decide +kernel
theorem dX9_carryOutInput_62 : decode cX9_carryOutInput 62 = .ok (.pop, 1) := by decide +kernel
theorem dX9_carryOutInput_63 : decode cX9_carryOutInput 63 = .ok (.aload_n 0, 1) := by decide +kernel
theorem dX9_carryOutInput_64 : decode cX9_carryOutInput 64 = .ok (.aload_n 0, 1) := by decide +kernel
theorem dX9_carryOutInput_65 : decode cX9_carryOutInput 65 = .ok (.getfield 36, 3) := by decide +kernel
theorem dX9_carryOutInput_68 : decode cX9_carryOutInput 68 = .ok (.getfield 404, 3) := by decide +kernel
theorem dX9_carryOutInput_71 : decode cX9_carryOutInput 71 = .ok (.aload_n 0, 1) := by decide +kernel
theorem dX9_carryOutInput_72 : decode cX9_carryOutInput 72 = .ok (.getfield 36, 3) := by decide +kernel
theorem dX9_carryOutInput_75 : decode cX9_carryOutInput 75 = .ok (.getfield 407, 3) := by decide +kernel
theorem dX9_carryOutInput_78 : decode cX9_carryOutInput 78 = .ok (.iconst 0, 1) := by decide +kernel
theorem dX9_carryOutInput_79 : decode cX9_carryOutInput 79 = .ok (.iaload, 1) := by decide +kernel
theorem dX9_carryOutInput_80 : decode cX9_carryOutInput 80 = .ok (.aload_n 0, 1) := by decide +kernel
theorem dX9_carryOutInput_81 : decode cX9_carryOutInput 81 = .ok (.getfield 36, 3) := by decide +kernel
theorem dX9_carryOutInput_84 : decode cX9_carryOutInput 84 = .ok (.getfield 407, 3) := by decide +kernel
theorem dX9_carryOutInput_87 : decode cX9_carryOutInput 87 = .ok (.iconst 1, 1) := by decide +kernel
theorem dX9_carryOutInput_88 : decode cX9_carryOutInput 88 = .ok (.iaload, 1) := by decide +kernel
theorem dX9_carryOutInput_89 : decode cX9_carryOutInput 89 = .ok (.aload_n 0, 1) := by decide +kernel
theorem dX9_carryOutInput_90 : decode cX9_carryOutInput 90 = .ok (.getfield 36, 3) := by decide +kernel
theorem dX9_carryOutInput_93 : decode cX9_carryOutInput 93 = .ok (.getfield 407, 3) := by decide +kernel
theorem dX9_carryOutInput_96 : decode cX9_carryOutInput 96 = .ok (.iconst 2, 1) := by decide +kernel
theorem dX9_carryOutInput_97 : decode cX9_carryOutInput 97 = .ok (.iaload, 1) := by decide +kernel
theorem dX9_carryOutInput_98 : decode cX9_carryOutInput 98 = .ok (.invokevirtual 340, 3) := by decide +kernel
theorem dX9_carryOutInput_101 : decode cX9_carryOutInput 101 = .ok (.istore 4, 2) := by decide +kernel
theorem dX9_carryOutInput_103 : decode cX9_carryOutInput 103 = .ok (.iload 4, 2) := by decide +kernel
theorem dX9_carryOutInput_105 : decode cX9_carryOutInput 105 = .ok (.ifCond .ge 28, 3) := by decide +kernel
theorem dX9_carryOutInput_108 : decode cX9_carryOutInput 108 = .ok (.aload_n 0, 1) := by decide +kernel
theorem dX9_carryOutInput_109 : decode cX9_carryOutInput 109 = .ok (.getfield 12, 3) := by decide +kernel
theorem dX9_carryOutInput_112 : decode cX9_carryOutInput 112 = .ok (.aload_n 0, 1) := by decide +kernel
theorem dX9_carryOutInput_113 : decode cX9_carryOutInput 113 = .ok (.getfield 22, 3) := by decide +kernel
theorem dX9_carryOutInput_116 : decode cX9_carryOutInput 116 = .ok (.invokevirtual 410, 3) := by decide +kernel
theorem dX9_carryOutInput_119 : decode cX9_carryOutInput 119 = .ok (.invokevirtual 329, 3) := by decide +kernel
theorem dX9_carryOutInput_122 : decode cX9_carryOutInput 122 = .ok (.aload_n 0, 1) := by decide +kernel
theorem dX9_carryOutInput_123 : decode cX9_carryOutInput 123 = .ok (.getfield 29, 3) := by decide +kernel
theorem dX9_carryOutInput_126 : decode cX9_carryOutInput 126 = .ok (.iload 4, 2) := by decide +kernel
theorem dX9_carryOutInput_128 : decode cX9_carryOutInput 128 = .ok (.iload_n 3, 1) := by decide +kernel
theorem dX9_carryOutInput_129 : decode cX9_carryOutInput 129 = .ok (.invokevirtual 414, 3) := by decide +kernel
theorem dX9_carryOutInput_132 : decode cX9_carryOutInput 132 = .ok (.ireturn, 1) := by decide +kernel
theorem dX9_carryOutInput_133 : decode cX9_carryOutInput 133 = .ok (.aload_n 0, 1) := by decide +kernel
theorem dX9_carryOutInput_134 : decode cX9_carryOutInput 134 = .ok (.getfield 36, 3) := by decide +kernel
theorem dX9_carryOutInput_137 : decode cX9_carryOutInput 137 = .ok (.getfield 397, 3) := by decide +kernel
theorem dX9_carryOutInput_140 : decode cX9_carryOutInput 140 = .ok (.iconst 1, 1) := by decide +kernel
theorem dX9_carryOutInput_141 : decode cX9_carryOutInput 141 = .ok (.iadd, 1) := by decide +kernel
theorem dX9_carryOutInput_142 : decode cX9_carryOutInput 142 = .ok (.istore_n 2, 1) := by decide +kernel
theorem dX9_carryOutInput_143 : decode cX9_carryOutInput 143 = .ok (.iinc 3 1, 3) := by decide +kernel
theorem dX9_carryOutInput_146 : decode cX9_carryOutInput 146 = .ok (.goto (-101), 3) := by decide +kernel
theorem dX9_carryOutInput_149 : decode cX9_carryOutInput 149 = .ok (.aload_n 0, 1) := by decide +kernel
theorem dX9_carryOutInput_150 : decode cX9_carryOutInput 150 = .ok (.getfield 22, 3) := by decide +kernel
theorem dX9_carryOutInput_153 : decode cX9_carryOutInput 153 = .ok (.invokevirtual 343, 3) := by decide +kernel
theorem dX9_carryOutInput_156 : decode cX9_carryOutInput 156 = .ok (.iload_n 1, 1) := by decide +kernel
theorem dX9_carryOutInput_157 : decode cX9_carryOutInput 157 = .ok (.ireturn, 1) := by decide +kernel
theorem dX9_writeIfAny_0 : decode cX9_writeIfAny 0 = .ok (.iload_n 2, 1) := by decide +kernel
theorem dX9_writeIfAny_1 : decode cX9_writeIfAny 1 = .ok (.ifCond .le 21, 3) := by decide +kernel
theorem dX9_writeIfAny_4 : decode cX9_writeIfAny 4 = .ok (.aload_n 0, 1) := by decide +kernel
theorem dX9_writeIfAny_5 : decode cX9_writeIfAny 5 = .ok (.getfield 47, 3) := by decide +kernel
theorem dX9_writeIfAny_8 : decode cX9_writeIfAny 8 = .ok (.iload_n 1, 1) := by decide +kernel
theorem dX9_writeIfAny_9 : decode cX9_writeIfAny 9 = .ok (.invokevirtual 77, 3) := by decide +kernel
theorem dX9_writeIfAny_12 : decode cX9_writeIfAny 12 = .ok (.pop, 1) := by decide +kernel
theorem dX9_writeIfAny_13 : decode cX9_writeIfAny 13 = .ok (.aload_n 0, 1) := by decide +kernel
theorem dX9_writeIfAny_14 : decode cX9_writeIfAny 14 = .ok (.getfield 47, 3) := by decide +kernel
theorem dX9_writeIfAny_17 : decode cX9_writeIfAny 17 = .ok (.iload_n 2, 1) := by decide +kernel
theorem dX9_writeIfAny_18 : decode cX9_writeIfAny 18 = .ok (.invokevirtual 276, 3) := by decide +kernel
theorem dX9_writeIfAny_21 : decode cX9_writeIfAny 21 = .ok (.pop, 1) := by decide +kernel
theorem dX9_writeIfAny_22 : decode cX9_writeIfAny 22 = .ok (.return_, 1) := by decide +kernel
theorem dX9_isWithin_0 : decode cX9_isWithin 0 = .ok (.iload_n 0, 1) := by decide +kernel
theorem dX9_isWithin_1 : decode cX9_isWithin 1 = .ok (.iload_n 1, 1) := by decide +kernel
theorem dX9_isWithin_2 : decode cX9_isWithin 2 = .ok (.if_icmp .lt 12, 3) := by decide +kernel
theorem dX9_isWithin_5 : decode cX9_isWithin 5 = .ok (.iload_n 0, 1) := by decide +kernel
theorem dX9_isWithin_6 : decode cX9_isWithin 6 = .ok (.iload_n 2, 1) := by decide +kernel
theorem dX9_isWithin_7 : decode cX9_isWithin 7 = .ok (.if_icmp .gt 7, 3) := by decide +kernel
theorem dX9_isWithin_10 : decode cX9_isWithin 10 = .ok (.iconst 1, 1) := by decide +kernel
theorem dX9_isWithin_11 : decode cX9_isWithin 11 = .ok (.goto 4, 3) := by decide +kernel
theorem dX9_isWithin_14 : decode cX9_isWithin 14 = .ok (.iconst 0, 1) := by decide +kernel
theorem dX9_isWithin_15 : decode cX9_isWithin 15 = .ok (.ireturn, 1) := by decide +kernel
theorem dX9_isSector_0 : decode cX9_isSector 0 = .ok (.iload_n 0, 1) := by decide +kernel
theorem dX9_isSector_1 : decode cX9_isSector 1 = .ok (.iconst 0, 1) := by decide +kernel
theorem dX9_isSector_2 : decode cX9_isSector 2 = .ok (.iconst 3, 1) := by decide +kernel
theorem dX9_isSector_3 : decode cX9_isSector 3 = .ok (.invokestatic 69, 3) := by decide +kernel
theorem dX9_isSector_6 : decode cX9_isSector 6 = .ok (.ireturn, 1) := by decide +kernel
theorem dX9_sum_0 : decode cX9_sum 0 = .ok (.iconst 0, 1) := by decide +kernel
theorem dX9_sum_1 : decode cX9_sum 1 = .ok (.istore_n 2, 1) := by decide +kernel
theorem dX9_sum_2 : decode cX9_sum 2 = .ok (.iconst 0, 1) := by decide +kernel
theorem dX9_sum_3 : decode cX9_sum 3 = .ok (.istore_n 3, 1) := by decide +kernel
theorem dX9_sum_4 : decode cX9_sum 4 = .ok (.iload_n 3, 1) := by decide +kernel
theorem dX9_sum_5 : decode cX9_sum 5 = .ok (.iload_n 1, 1) := by decide +kernel
theorem dX9_sum_6 : decode cX9_sum 6 = .ok (.if_icmp .ge 21, 3) := by decide +kernel
theorem dX9_sum_9 : decode cX9_sum 9 = .ok (.iload_n 3, 1) := by decide +kernel
theorem dX9_sum_10 : decode cX9_sum 10 = .ok (.aload_n 0, 1) := by decide +kernel
theorem dX9_sum_11 : decode cX9_sum 11 = .ok (.arraylength, 1) := by decide +kernel
theorem dX9_sum_12 : decode cX9_sum 12 = .ok (.if_icmp .ge 15, 3) := by decide +kernel
theorem dX9_sum_15 : decode cX9_sum 15 = .ok (.iload_n 2, 1) := by decide +kernel
theorem dX9_sum_16 : decode cX9_sum 16 = .ok (.aload_n 0, 1) := by decide +kernel
theorem dX9_sum_17 : decode cX9_sum 17 = .ok (.iload_n 3, 1) := by decide +kernel
theorem dX9_sum_18 : decode cX9_sum 18 = .ok (.iaload, 1) := by decide +kernel
theorem dX9_sum_19 : decode cX9_sum 19 = .ok (.iadd, 1) := by decide +kernel
theorem dX9_sum_20 : decode cX9_sum 20 = .ok (.istore_n 2, 1) := by decide +kernel
theorem dX9_sum_21 : decode cX9_sum 21 = .ok (.iinc 3 1, 3) := by decide +kernel
theorem dX9_sum_24 : decode cX9_sum 24 = .ok (.goto (-20), 3) := by decide +kernel
theorem dX9_sum_27 : decode cX9_sum 27 = .ok (.iload_n 2, 1) := by decide +kernel
theorem dX9_sum_28 : decode cX9_sum 28 = .ok (.ireturn, 1) := by decide +kernel
theorem dX9_countAlike_0 : decode cX9_countAlike 0 = .ok (.iconst 0, 1) := by decide +kernel
theorem dX9_countAlike_1 : decode cX9_countAlike 1 = .ok (.istore_n 3, 1) := by decide +kernel
theorem dX9_countAlike_2 : decode cX9_countAlike 2 = .ok (.iconst 0, 1) := by decide +kernel
theorem dX9_countAlike_3 : decode cX9_countAlike 3 = .ok (.istore 4, 2) := by decide +kernel
theorem dX9_countAlike_5 : decode cX9_countAlike 5 = .ok (.iload 4, 2) := by decide +kernel
theorem dX9_countAlike_7 : decode cX9_countAlike 7 = .ok (.iload_n 1, 1) := by decide +kernel
theorem dX9_countAlike_8 : decode cX9_countAlike 8 = .ok (.if_icmp .ge 27, 3) := by decide +kernel
theorem dX9_countAlike_11 : decode cX9_countAlike 11 = .ok (.iload 4, 2) := by decide +kernel
theorem dX9_countAlike_13 : decode cX9_countAlike 13 = .ok (.aload_n 0, 1) := by decide +kernel
theorem dX9_countAlike_14 : decode cX9_countAlike 14 = .ok (.arraylength, 1) := by decide +kernel
theorem dX9_countAlike_15 : decode cX9_countAlike 15 = .ok (.if_icmp .ge 20, 3) := by decide +kernel
theorem dX9_countAlike_18 : decode cX9_countAlike 18 = .ok (.aload_n 0, 1) := by decide +kernel
theorem dX9_countAlike_19 : decode cX9_countAlike 19 = .ok (.iload 4, 2) := by decide +kernel
theorem dX9_countAlike_21 : decode cX9_countAlike 21 = .ok (.iaload, 1) := by decide +kernel
theorem dX9_countAlike_22 : decode cX9_countAlike 22 = .ok (.iload_n 2, 1) := by decide +kernel
theorem dX9_countAlike_23 : decode cX9_countAlike 23 = .ok (.if_icmp .ne 6, 3) := by decide +kernel
theorem dX9_countAlike_26 : decode cX9_countAlike 26 = .ok (.iinc 3 1, 3) := by decide +kernel
theorem dX9_countAlike_29 : decode cX9_countAlike 29 = .ok (.iinc 4 1, 3) := by decide +kernel
theorem dX9_countAlike_32 : decode cX9_countAlike 32 = .ok (.goto (-27), 3) := by decide +kernel
theorem dX9_countAlike_35 : decode cX9_countAlike 35 = .ok (.iload_n 3, 1) := by decide +kernel
theorem dX9_countAlike_36 : decode cX9_countAlike 36 = .ok (.ireturn, 1) := by decide +kernel
theorem dX9_copyRow_0 : decode cX9_copyRow 0 = .ok (.aload_n 0, 1) := by decide +kernel
theorem dX9_copyRow_1 : decode cX9_copyRow 1 = .ok (.iconst 0, 1) := by decide +kernel
theorem dX9_copyRow_2 : decode cX9_copyRow 2 = .ok (.aload_n 1, 1) := by decide +kernel
theorem dX9_copyRow_3 : decode cX9_copyRow 3 = .ok (.iconst 0, 1) := by decide +kernel
theorem dX9_copyRow_4 : decode cX9_copyRow 4 = .ok (.aload_n 0, 1) := by decide +kernel
theorem dX9_copyRow_5 : decode cX9_copyRow 5 = .ok (.arraylength, 1) := by decide +kernel
theorem dX9_copyRow_6 : decode cX9_copyRow 6 = .ok (.aload_n 1, 1) := by decide +kernel
theorem dX9_copyRow_7 : decode cX9_copyRow 7 = .ok (.arraylength, 1) := by decide +kernel
theorem dX9_copyRow_8 : decode cX9_copyRow 8 = .ok (.invokestatic 417, 3) := by decide +kernel
theorem dX9_copyRow_11 : decode cX9_copyRow 11 = .ok (.invokestatic 422, 3) := by decide +kernel
theorem dX9_copyRow_14 : decode cX9_copyRow 14 = .ok (.return_, 1) := by decide +kernel
theorem dJ5_init_d00df_0 : decode cJ5_init_d00df 0 = .ok (.aload_n 0, 1) := by decide +kernel
theorem dJ5_init_d00df_1 : decode cJ5_init_d00df 1 = .ok (.invokespecial 3, 3) := by decide +kernel
theorem dJ5_init_d00df_4 : decode cJ5_init_d00df 4 = .ok (.getstatic 18, 3) := by decide +kernel
theorem dJ5_init_d00df_7 : decode cJ5_init_d00df 7 = .ok (.ifCond .eq 18, 3) := by decide +kernel
theorem dJ5_init_d00df_10 : decode cJ5_init_d00df 10 = .ok (.aload_n 0, 1) := by decide +kernel
theorem dJ5_init_d00df_11 : decode cJ5_init_d00df 11 = .ok (.iload_n 1, 1) := by decide +kernel
theorem dJ5_init_d00df_12 : decode cJ5_init_d00df 12 = .ok (.newarray .byte, 2) := by decide +kernel
theorem dJ5_init_d00df_14 : decode cJ5_init_d00df 14 = .ok (.putfield 15, 3) := by decide +kernel
theorem dJ5_init_d00df_17 : decode cJ5_init_d00df 17 = .ok (.aload_n 0, 1) := by decide +kernel
theorem dJ5_init_d00df_18 : decode cJ5_init_d00df 18 = .ok (.iconst 0, 1) := by decide +kernel
theorem dJ5_init_d00df_19 : decode cJ5_init_d00df 19 = .ok (.putfield 22, 3) := by decide +kernel
theorem dJ5_init_d00df_22 : decode cJ5_init_d00df 22 = .ok (.goto 16, 3) := by decide +kernel
theorem dJ5_init_d00df_25 : decode cJ5_init_d00df 25 = .ok (.aload_n 0, 1) := by decide +kernel
theorem dJ5_init_d00df_26 : decode cJ5_init_d00df 26 = .ok (.iload_n 1, 1) := by decide +kernel
theorem dJ5_init_d00df_27 : decode cJ5_init_d00df 27 = .ok (.invokestatic 26, 3) := by decide +kernel
theorem dJ5_init_d00df_30 : decode cJ5_init_d00df 30 = .ok (.putfield 15, 3) := by decide +kernel
theorem dJ5_init_d00df_33 : decode cJ5_init_d00df 33 = .ok (.aload_n 0, 1) := by decide +kernel
theorem dJ5_init_d00df_34 : decode cJ5_init_d00df 34 = .ok (.iconst 1, 1) := by decide +kernel
theorem dJ5_init_d00df_35 : decode cJ5_init_d00df 35 = .ok (.putfield 22, 3) := by decide +kernel
theorem dJ5_init_d00df_38 : decode cJ5_init_d00df 38 = .ok (.return_, 1) := by decide +kernel
theorem dJ5_length_8abf5_0 : decode cJ5_length_8abf5 0 = .ok (.aload_n 0, 1) := by decide +kernel
theorem dJ5_length_8abf5_1 : decode cJ5_length_8abf5 1 = .ok (.getfield 79, 3) := by decide +kernel
theorem dJ5_length_8abf5_4 : decode cJ5_length_8abf5 4 = .ok (.ireturn, 1) := by decide +kernel
theorem dJ5_ensureCapacityInternal_d00df_0 : decode cJ5_ensureCapacityInternal_d00df 0 = .ok (.aload_n 0, 1) := by decide +kernel
theorem dJ5_ensureCapacityInternal_d00df_1 : decode cJ5_ensureCapacityInternal_d00df 1 = .ok (.getfield 15, 3) := by decide +kernel
theorem dJ5_ensureCapacityInternal_d00df_4 : decode cJ5_ensureCapacityInternal_d00df 4 = .ok (.arraylength, 1) := by decide +kernel
theorem dJ5_ensureCapacityInternal_d00df_5 : decode cJ5_ensureCapacityInternal_d00df 5 = .ok (.aload_n 0, 1) := by decide +kernel
theorem dJ5_ensureCapacityInternal_d00df_6 : decode cJ5_ensureCapacityInternal_d00df 6 = .ok (.getfield 22, 3) := by decide +kernel
theorem dJ5_ensureCapacityInternal_d00df_9 : decode cJ5_ensureCapacityInternal_d00df 9 = .ok (.ishr, 1) := by decide +kernel
theorem dJ5_ensureCapacityInternal_d00df_10 : decode cJ5_ensureCapacityInternal_d00df 10 = .ok (.istore_n 2, 1) := by decide +kernel
theorem dJ5_ensureCapacityInternal_d00df_11 : decode cJ5_ensureCapacityInternal_d00df 11 = .ok (.iload_n 1, 1) := by decide +kernel
theorem dJ5_ensureCapacityInternal_d00df_12 : decode cJ5_ensureCapacityInternal_d00df 12 = .ok (.iload_n 2, 1) := by decide +kernel
theorem dJ5_ensureCapacityInternal_d00df_13 : decode cJ5_ensureCapacityInternal_d00df 13 = .ok (.isub, 1) := by decide +kernel
theorem dJ5_ensureCapacityInternal_d00df_14 : decode cJ5_ensureCapacityInternal_d00df 14 = .ok (.ifCond .le 24, 3) := by decide +kernel
theorem dJ5_ensureCapacityInternal_d00df_17 : decode cJ5_ensureCapacityInternal_d00df 17 = .ok (.aload_n 0, 1) := by decide +kernel
theorem dJ5_ensureCapacityInternal_d00df_18 : decode cJ5_ensureCapacityInternal_d00df 18 = .ok (.aload_n 0, 1) := by decide +kernel
theorem dJ5_ensureCapacityInternal_d00df_19 : decode cJ5_ensureCapacityInternal_d00df 19 = .ok (.getfield 15, 3) := by decide +kernel
theorem dJ5_ensureCapacityInternal_d00df_22 : decode cJ5_ensureCapacityInternal_d00df 22 = .ok (.aload_n 0, 1) := by decide +kernel
theorem dJ5_ensureCapacityInternal_d00df_23 : decode cJ5_ensureCapacityInternal_d00df 23 = .ok (.iload_n 1, 1) := by decide +kernel
theorem dJ5_ensureCapacityInternal_d00df_24 : decode cJ5_ensureCapacityInternal_d00df 24 = .ok (.invokevirtual 104, 3) := by decide +kernel
theorem dJ5_ensureCapacityInternal_d00df_27 : decode cJ5_ensureCapacityInternal_d00df 27 = .ok (.aload_n 0, 1) := by decide +kernel
theorem dJ5_ensureCapacityInternal_d00df_28 : decode cJ5_ensureCapacityInternal_d00df 28 = .ok (.getfield 22, 3) := by decide +kernel
theorem dJ5_ensureCapacityInternal_d00df_31 : decode cJ5_ensureCapacityInternal_d00df 31 = .ok (.ishl, 1) := by decide +kernel
theorem dJ5_ensureCapacityInternal_d00df_32 : decode cJ5_ensureCapacityInternal_d00df 32 = .ok (.invokestatic 108, 3) := by decide +kernel
theorem dJ5_ensureCapacityInternal_d00df_35 : decode cJ5_ensureCapacityInternal_d00df 35 = .ok (.putfield 15, 3) := by decide +kernel
theorem dJ5_ensureCapacityInternal_d00df_38 : decode cJ5_ensureCapacityInternal_d00df 38 = .ok (.return_, 1) := by decide +kernel
theorem dJ5_newCapacity_0f7a4_0 : decode cJ5_newCapacity_0f7a4 0 = .ok (.aload_n 0, 1) := by decide +kernel
theorem dJ5_newCapacity_0f7a4_1 : decode cJ5_newCapacity_0f7a4 1 = .ok (.getfield 15, 3) := by decide +kernel
theorem dJ5_newCapacity_0f7a4_4 : decode cJ5_newCapacity_0f7a4 4 = .ok (.arraylength, 1) := by decide +kernel
theorem dJ5_newCapacity_0f7a4_5 : decode cJ5_newCapacity_0f7a4 5 = .ok (.istore_n 2, 1) := by decide +kernel
theorem dJ5_newCapacity_0f7a4_6 : decode cJ5_newCapacity_0f7a4 6 = .ok (.iload_n 1, 1) := by decide +kernel
theorem dJ5_newCapacity_0f7a4_7 : decode cJ5_newCapacity_0f7a4 7 = .ok (.aload_n 0, 1) := by decide +kernel
theorem dJ5_newCapacity_0f7a4_8 : decode cJ5_newCapacity_0f7a4 8 = .ok (.getfield 22, 3) := by decide +kernel
theorem dJ5_newCapacity_0f7a4_11 : decode cJ5_newCapacity_0f7a4 11 = .ok (.ishl, 1) := by decide +kernel
theorem dJ5_newCapacity_0f7a4_12 : decode cJ5_newCapacity_0f7a4 12 = .ok (.istore_n 3, 1) := by decide +kernel
theorem dJ5_newCapacity_0f7a4_13 : decode cJ5_newCapacity_0f7a4 13 = .ok (.iload_n 3, 1) := by decide +kernel
theorem dJ5_newCapacity_0f7a4_14 : decode cJ5_newCapacity_0f7a4 14 = .ok (.iload_n 2, 1) := by decide +kernel
theorem dJ5_newCapacity_0f7a4_15 : decode cJ5_newCapacity_0f7a4 15 = .ok (.isub, 1) := by decide +kernel
theorem dJ5_newCapacity_0f7a4_16 : decode cJ5_newCapacity_0f7a4 16 = .ok (.istore 4, 2) := by decide +kernel
theorem dJ5_newCapacity_0f7a4_18 : decode cJ5_newCapacity_0f7a4 18 = .ok (.iload_n 2, 1) := by decide +kernel
theorem dJ5_newCapacity_0f7a4_19 : decode cJ5_newCapacity_0f7a4 19 = .ok (.iload 4, 2) := by decide +kernel
theorem dJ5_newCapacity_0f7a4_21 : decode cJ5_newCapacity_0f7a4 21 = .ok (.iload_n 2, 1) := by decide +kernel
theorem dJ5_newCapacity_0f7a4_22 : decode cJ5_newCapacity_0f7a4 22 = .ok (.iconst 2, 1) := by decide +kernel
theorem dJ5_newCapacity_0f7a4_23 : decode cJ5_newCapacity_0f7a4 23 = .ok (.aload_n 0, 1) := by decide +kernel
theorem dJ5_newCapacity_0f7a4_24 : decode cJ5_newCapacity_0f7a4 24 = .ok (.getfield 22, 3) := by decide +kernel
theorem dJ5_newCapacity_0f7a4_27 : decode cJ5_newCapacity_0f7a4 27 = .ok (.ishl, 1) := by decide +kernel
theorem dJ5_newCapacity_0f7a4_28 : decode cJ5_newCapacity_0f7a4 28 = .ok (.iadd, 1) := by decide +kernel
theorem dJ5_newCapacity_0f7a4_29 : decode cJ5_newCapacity_0f7a4 29 = .ok (.invokestatic 114, 3) := by decide +kernel
theorem dJ5_newCapacity_0f7a4_32 : decode cJ5_newCapacity_0f7a4 32 = .ok (.istore 5, 2) := by decide +kernel
theorem dJ5_newCapacity_0f7a4_34 : decode cJ5_newCapacity_0f7a4 34 = .ok (.iload 5, 2) := by decide +kernel
theorem dJ5_newCapacity_0f7a4_36 : decode cJ5_newCapacity_0f7a4 36 = .ok (.ldc 39, 2) := by decide +kernel
theorem dJ5_newCapacity_0f7a4_38 : decode cJ5_newCapacity_0f7a4 38 = .ok (.if_icmp .ne 13, 3) := by decide +kernel
theorem dJ5_newCapacity_0f7a4_41 : decode cJ5_newCapacity_0f7a4 41 = .ok (.new 120, 3) := by decide +kernel
theorem dJ5_newCapacity_0f7a4_44 : decode cJ5_newCapacity_0f7a4 44 = .ok (.dup, 1) := by decide +kernel
theorem dJ5_newCapacity_0f7a4_45 : decode cJ5_newCapacity_0f7a4 45 = .ok (.ldc 122, 2) := by decide +kernel
theorem dJ5_newCapacity_0f7a4_47 : decode cJ5_newCapacity_0f7a4 47 = .ok (.invokespecial 124, 3) := by decide +kernel
theorem dJ5_newCapacity_0f7a4_50 : decode cJ5_newCapacity_0f7a4 50 = .ok (.athrow, 1) := by decide +kernel
theorem dJ5_newCapacity_0f7a4_51 : decode cJ5_newCapacity_0f7a4 51 = .ok (.iload 5, 2) := by decide +kernel
theorem dJ5_newCapacity_0f7a4_53 : decode cJ5_newCapacity_0f7a4 53 = .ok (.aload_n 0, 1) := by decide +kernel
theorem dJ5_newCapacity_0f7a4_54 : decode cJ5_newCapacity_0f7a4 54 = .ok (.getfield 22, 3) := by decide +kernel
theorem dJ5_newCapacity_0f7a4_57 : decode cJ5_newCapacity_0f7a4 57 = .ok (.ishr, 1) := by decide +kernel
theorem dJ5_newCapacity_0f7a4_58 : decode cJ5_newCapacity_0f7a4 58 = .ok (.ireturn, 1) := by decide +kernel
theorem dJ5_inflate_da8c8_0 : decode cJ5_inflate_da8c8 0 = .ok (.aload_n 0, 1) := by decide +kernel
theorem dJ5_inflate_da8c8_1 : decode cJ5_inflate_da8c8 1 = .ok (.invokevirtual 83, 3) := by decide +kernel
theorem dJ5_inflate_da8c8_4 : decode cJ5_inflate_da8c8 4 = .ok (.ifCond .ne 4, 3) := by decide +kernel
theorem dJ5_inflate_da8c8_7 : decode cJ5_inflate_da8c8 7 = .ok (.return_, 1) := by decide +kernel
theorem dJ5_inflate_da8c8_8 : decode cJ5_inflate_da8c8 8 = .ok (.aload_n 0, 1) := by decide +kernel
theorem dJ5_inflate_da8c8_9 : decode cJ5_inflate_da8c8 9 = .ok (.getfield 15, 3) := by decide +kernel
theorem dJ5_inflate_da8c8_12 : decode cJ5_inflate_da8c8 12 = .ok (.arraylength, 1) := by decide +kernel
theorem dJ5_inflate_da8c8_13 : decode cJ5_inflate_da8c8 13 = .ok (.invokestatic 26, 3) := by decide +kernel
theorem dJ5_inflate_da8c8_16 : decode cJ5_inflate_da8c8 16 = .ok (.astore_n 1, 1) := by decide +kernel
theorem dJ5_inflate_da8c8_17 : decode cJ5_inflate_da8c8 17 = .ok (.aload_n 0, 1) := by decide +kernel
theorem dJ5_inflate_da8c8_18 : decode cJ5_inflate_da8c8 18 = .ok (.getfield 15, 3) := by decide +kernel
theorem dJ5_inflate_da8c8_21 : decode cJ5_inflate_da8c8 21 = .ok (.iconst 0, 1) := by decide +kernel
theorem dJ5_inflate_da8c8_22 : decode cJ5_inflate_da8c8 22 = .ok (.aload_n 1, 1) := by decide +kernel
theorem dJ5_inflate_da8c8_23 : decode cJ5_inflate_da8c8 23 = .ok (.iconst 0, 1) := by decide +kernel
theorem dJ5_inflate_da8c8_24 : decode cJ5_inflate_da8c8 24 = .ok (.aload_n 0, 1) := by decide +kernel
theorem dJ5_inflate_da8c8_25 : decode cJ5_inflate_da8c8 25 = .ok (.getfield 79, 3) := by decide +kernel
theorem dJ5_inflate_da8c8_28 : decode cJ5_inflate_da8c8 28 = .ok (.invokestatic 125, 3) := by decide +kernel
theorem dJ5_inflate_da8c8_31 : decode cJ5_inflate_da8c8 31 = .ok (.aload_n 0, 1) := by decide +kernel
theorem dJ5_inflate_da8c8_32 : decode cJ5_inflate_da8c8 32 = .ok (.aload_n 1, 1) := by decide +kernel
theorem dJ5_inflate_da8c8_33 : decode cJ5_inflate_da8c8 33 = .ok (.putfield 15, 3) := by decide +kernel
theorem dJ5_inflate_da8c8_36 : decode cJ5_inflate_da8c8 36 = .ok (.aload_n 0, 1) := by decide +kernel
theorem dJ5_inflate_da8c8_37 : decode cJ5_inflate_da8c8 37 = .ok (.iconst 1, 1) := by decide +kernel
theorem dJ5_inflate_da8c8_38 : decode cJ5_inflate_da8c8 38 = .ok (.putfield 22, 3) := by decide +kernel
theorem dJ5_inflate_da8c8_41 : decode cJ5_inflate_da8c8 41 = .ok (.return_, 1) := by decide +kernel
theorem dJ5_setLength_d00df_0 : decode cJ5_setLength_d00df 0 = .ok (.iload_n 1, 1) := by decide +kernel
theorem dJ5_setLength_d00df_1 : decode cJ5_setLength_d00df 1 = .ok (.ifCond .ge 12, 3) := by decide +kernel
theorem dJ5_setLength_d00df_4 : decode cJ5_setLength_d00df 4 = .ok (.new 129, 3) := by decide +kernel
theorem dJ5_setLength_d00df_7 : decode cJ5_setLength_d00df 7 = .ok (.dup, 1) := by decide +kernel
theorem dJ5_setLength_d00df_8 : decode cJ5_setLength_d00df 8 = .ok (.iload_n 1, 1) := by decide +kernel
theorem dJ5_setLength_d00df_9 : decode cJ5_setLength_d00df 9 = .ok (.invokespecial 131, 3) := by decide +kernel
theorem dJ5_setLength_d00df_12 : decode cJ5_setLength_d00df 12 = .ok (.athrow, 1) := by decide +kernel
theorem dJ5_setLength_d00df_13 : decode cJ5_setLength_d00df 13 = .ok (.aload_n 0, 1) := by decide +kernel
theorem dJ5_setLength_d00df_14 : decode cJ5_setLength_d00df 14 = .ok (.iload_n 1, 1) := by decide +kernel
theorem dJ5_setLength_d00df_15 : decode cJ5_setLength_d00df 15 = .ok (.invokevirtual 100, 3) := by decide +kernel
theorem dJ5_setLength_d00df_18 : decode cJ5_setLength_d00df 18 = .ok (.aload_n 0, 1) := by decide +kernel
theorem dJ5_setLength_d00df_19 : decode cJ5_setLength_d00df 19 = .ok (.getfield 79, 3) := by decide +kernel
theorem dJ5_setLength_d00df_22 : decode cJ5_setLength_d00df 22 = .ok (.iload_n 1, 1) := by decide +kernel
theorem dJ5_setLength_d00df_23 : decode cJ5_setLength_d00df 23 = .ok (.if_icmp .ge 40, 3) := by decide +kernel
theorem dJ5_setLength_d00df_26 : decode cJ5_setLength_d00df 26 = .ok (.aload_n 0, 1) := by decide +kernel
theorem dJ5_setLength_d00df_27 : decode cJ5_setLength_d00df 27 = .ok (.invokevirtual 83, 3) := by decide +kernel
theorem dJ5_setLength_d00df_30 : decode cJ5_setLength_d00df 30 = .ok (.ifCond .eq 18, 3) := by decide +kernel
theorem dJ5_setLength_d00df_33 : decode cJ5_setLength_d00df 33 = .ok (.aload_n 0, 1) := by decide +kernel
theorem dJ5_setLength_d00df_34 : decode cJ5_setLength_d00df 34 = .ok (.getfield 15, 3) := by decide +kernel
theorem dJ5_setLength_d00df_37 : decode cJ5_setLength_d00df 37 = .ok (.aload_n 0, 1) := by decide +kernel
theorem dJ5_setLength_d00df_38 : decode cJ5_setLength_d00df 38 = .ok (.getfield 79, 3) := by decide +kernel
theorem dJ5_setLength_d00df_41 : decode cJ5_setLength_d00df 41 = .ok (.iload_n 1, 1) := by decide +kernel
theorem dJ5_setLength_d00df_42 : decode cJ5_setLength_d00df 42 = .ok (.invokestatic 133, 3) := by decide +kernel
theorem dJ5_setLength_d00df_45 : decode cJ5_setLength_d00df 45 = .ok (.goto 31, 3) := by decide +kernel
theorem dJ5_setLength_d00df_48 : decode cJ5_setLength_d00df 48 = .ok (.aload_n 0, 1) := by decide +kernel
theorem dJ5_setLength_d00df_49 : decode cJ5_setLength_d00df 49 = .ok (.getfield 15, 3) := by decide +kernel
theorem dJ5_setLength_d00df_52 : decode cJ5_setLength_d00df 52 = .ok (.aload_n 0, 1) := by decide +kernel
theorem dJ5_setLength_d00df_53 : decode cJ5_setLength_d00df 53 = .ok (.getfield 79, 3) := by decide +kernel
theorem dJ5_setLength_d00df_56 : decode cJ5_setLength_d00df 56 = .ok (.iload_n 1, 1) := by decide +kernel
theorem dJ5_setLength_d00df_57 : decode cJ5_setLength_d00df 57 = .ok (.invokestatic 137, 3) := by decide +kernel
theorem dJ5_setLength_d00df_60 : decode cJ5_setLength_d00df 60 = .ok (.goto 16, 3) := by decide +kernel
theorem dJ5_setLength_d00df_63 : decode cJ5_setLength_d00df 63 = .ok (.aload_n 0, 1) := by decide +kernel
theorem dJ5_setLength_d00df_64 : decode cJ5_setLength_d00df 64 = .ok (.getfield 79, 3) := by decide +kernel
theorem dJ5_setLength_d00df_67 : decode cJ5_setLength_d00df 67 = .ok (.iload_n 1, 1) := by decide +kernel
theorem dJ5_setLength_d00df_68 : decode cJ5_setLength_d00df 68 = .ok (.if_icmp .le 8, 3) := by decide +kernel
theorem dJ5_setLength_d00df_71 : decode cJ5_setLength_d00df 71 = .ok (.aload_n 0, 1) := by decide +kernel
theorem dJ5_setLength_d00df_72 : decode cJ5_setLength_d00df 72 = .ok (.iconst 1, 1) := by decide +kernel
theorem dJ5_setLength_d00df_73 : decode cJ5_setLength_d00df 73 = .ok (.putfield 73, 3) := by decide +kernel
theorem dJ5_setLength_d00df_76 : decode cJ5_setLength_d00df 76 = .ok (.aload_n 0, 1) := by decide +kernel
theorem dJ5_setLength_d00df_77 : decode cJ5_setLength_d00df 77 = .ok (.iload_n 1, 1) := by decide +kernel
theorem dJ5_setLength_d00df_78 : decode cJ5_setLength_d00df 78 = .ok (.putfield 79, 3) := by decide +kernel
theorem dJ5_setLength_d00df_81 : decode cJ5_setLength_d00df 81 = .ok (.return_, 1) := by decide +kernel
theorem dJ5_charAt_5068e_0 : decode cJ5_charAt_5068e 0 = .ok (.aload_n 0, 1) := by decide +kernel
theorem dJ5_charAt_5068e_1 : decode cJ5_charAt_5068e 1 = .ok (.getfield 22, 3) := by decide +kernel
theorem dJ5_charAt_5068e_4 : decode cJ5_charAt_5068e 4 = .ok (.istore_n 2, 1) := by decide +kernel
theorem dJ5_charAt_5068e_5 : decode cJ5_charAt_5068e 5 = .ok (.aload_n 0, 1) := by decide +kernel
theorem dJ5_charAt_5068e_6 : decode cJ5_charAt_5068e 6 = .ok (.getfield 15, 3) := by decide +kernel
theorem dJ5_charAt_5068e_9 : decode cJ5_charAt_5068e 9 = .ok (.astore_n 3, 1) := by decide +kernel
theorem dJ5_charAt_5068e_10 : decode cJ5_charAt_5068e 10 = .ok (.aload_n 0, 1) := by decide +kernel
theorem dJ5_charAt_5068e_11 : decode cJ5_charAt_5068e 11 = .ok (.getfield 79, 3) := by decide +kernel
theorem dJ5_charAt_5068e_14 : decode cJ5_charAt_5068e 14 = .ok (.aload_n 3, 1) := by decide +kernel
theorem dJ5_charAt_5068e_15 : decode cJ5_charAt_5068e 15 = .ok (.arraylength, 1) := by decide +kernel
theorem dJ5_charAt_5068e_16 : decode cJ5_charAt_5068e 16 = .ok (.iload_n 2, 1) := by decide +kernel
theorem dJ5_charAt_5068e_17 : decode cJ5_charAt_5068e 17 = .ok (.ishr, 1) := by decide +kernel
theorem dJ5_charAt_5068e_18 : decode cJ5_charAt_5068e 18 = .ok (.invokestatic 138, 3) := by decide +kernel
theorem dJ5_charAt_5068e_21 : decode cJ5_charAt_5068e 21 = .ok (.istore 4, 2) := by decide +kernel
theorem dJ5_charAt_5068e_23 : decode cJ5_charAt_5068e 23 = .ok (.iload_n 1, 1) := by decide +kernel
theorem dJ5_charAt_5068e_24 : decode cJ5_charAt_5068e 24 = .ok (.iload 4, 2) := by decide +kernel
theorem dJ5_charAt_5068e_26 : decode cJ5_charAt_5068e 26 = .ok (.invokestatic 144, 3) := by decide +kernel
theorem dJ5_charAt_5068e_29 : decode cJ5_charAt_5068e 29 = .ok (.iload_n 2, 1) := by decide +kernel
theorem dJ5_charAt_5068e_30 : decode cJ5_charAt_5068e 30 = .ok (.ifCond .ne 12, 3) := by decide +kernel
theorem dJ5_charAt_5068e_33 : decode cJ5_charAt_5068e 33 = .ok (.aload_n 3, 1) := by decide +kernel
theorem dJ5_charAt_5068e_34 : decode cJ5_charAt_5068e 34 = .ok (.iload_n 1, 1) := by decide +kernel
theorem dJ5_charAt_5068e_35 : decode cJ5_charAt_5068e 35 = .ok (.baload, 1) := by decide +kernel
theorem dJ5_charAt_5068e_36 : decode cJ5_charAt_5068e 36 = .ok (.sipush 255, 3) := by decide +kernel
theorem dJ5_charAt_5068e_39 : decode cJ5_charAt_5068e 39 = .ok (.iand, 1) := by decide +kernel
theorem dJ5_charAt_5068e_40 : decode cJ5_charAt_5068e 40 = .ok (.i2c, 1) := by decide +kernel
theorem dJ5_charAt_5068e_41 : decode cJ5_charAt_5068e 41 = .ok (.ireturn, 1) := by decide +kernel
theorem dJ5_charAt_5068e_42 : decode cJ5_charAt_5068e 42 = .ok (.aload_n 3, 1) := by decide +kernel
theorem dJ5_charAt_5068e_43 : decode cJ5_charAt_5068e 43 = .ok (.iload_n 1, 1) := by decide +kernel
theorem dJ5_charAt_5068e_44 : decode cJ5_charAt_5068e 44 = .ok (.invokestatic 148, 3) := by decide +kernel
theorem dJ5_charAt_5068e_47 : decode cJ5_charAt_5068e 47 = .ok (.ireturn, 1) := by decide +kernel
theorem dJ5_append_3fe6f_0 : decode cJ5_append_3fe6f 0 = .ok (.aload_n 0, 1) := by decide +kernel
theorem dJ5_append_3fe6f_1 : decode cJ5_append_3fe6f 1 = .ok (.aload_n 0, 1) := by decide +kernel
theorem dJ5_append_3fe6f_2 : decode cJ5_append_3fe6f 2 = .ok (.getfield 79, 3) := by decide +kernel
theorem dJ5_append_3fe6f_5 : decode cJ5_append_3fe6f 5 = .ok (.iconst 1, 1) := by decide +kernel
theorem dJ5_append_3fe6f_6 : decode cJ5_append_3fe6f 6 = .ok (.iadd, 1) := by decide +kernel
theorem dJ5_append_3fe6f_7 : decode cJ5_append_3fe6f 7 = .ok (.invokevirtual 100, 3) := by decide +kernel
theorem dJ5_append_3fe6f_10 : decode cJ5_append_3fe6f 10 = .ok (.aload_n 0, 1) := by decide +kernel
theorem dJ5_append_3fe6f_11 : decode cJ5_append_3fe6f 11 = .ok (.invokevirtual 83, 3) := by decide +kernel
theorem dJ5_append_3fe6f_14 : decode cJ5_append_3fe6f 14 = .ok (.ifCond .eq 31, 3) := by decide +kernel
theorem dJ5_append_3fe6f_17 : decode cJ5_append_3fe6f 17 = .ok (.iload_n 1, 1) := by decide +kernel
theorem dJ5_append_3fe6f_18 : decode cJ5_append_3fe6f 18 = .ok (.invokestatic 191, 3) := by decide +kernel
theorem dJ5_append_3fe6f_21 : decode cJ5_append_3fe6f 21 = .ok (.ifCond .eq 24, 3) := by decide +kernel
theorem dJ5_append_3fe6f_24 : decode cJ5_append_3fe6f 24 = .ok (.aload_n 0, 1) := by decide +kernel
theorem dJ5_append_3fe6f_25 : decode cJ5_append_3fe6f 25 = .ok (.getfield 15, 3) := by decide +kernel
theorem dJ5_append_3fe6f_28 : decode cJ5_append_3fe6f 28 = .ok (.aload_n 0, 1) := by decide +kernel
theorem dJ5_append_3fe6f_29 : decode cJ5_append_3fe6f 29 = .ok (.dup, 1) := by decide +kernel
theorem dJ5_append_3fe6f_30 : decode cJ5_append_3fe6f 30 = .ok (.getfield 79, 3) := by decide +kernel
theorem dJ5_append_3fe6f_33 : decode cJ5_append_3fe6f 33 = .ok (.dup_x1, 1) := by decide +kernel
theorem dJ5_append_3fe6f_34 : decode cJ5_append_3fe6f 34 = .ok (.iconst 1, 1) := by decide +kernel
theorem dJ5_append_3fe6f_35 : decode cJ5_append_3fe6f 35 = .ok (.iadd, 1) := by decide +kernel
theorem dJ5_append_3fe6f_36 : decode cJ5_append_3fe6f 36 = .ok (.putfield 79, 3) := by decide +kernel
theorem dJ5_append_3fe6f_39 : decode cJ5_append_3fe6f 39 = .ok (.iload_n 1, 1) := by decide +kernel
theorem dJ5_append_3fe6f_40 : decode cJ5_append_3fe6f 40 = .ok (.i2b, 1) := by decide +kernel
theorem dJ5_append_3fe6f_41 : decode cJ5_append_3fe6f 41 = .ok (.bastore, 1) := by decide +kernel
theorem dJ5_append_3fe6f_42 : decode cJ5_append_3fe6f 42 = .ok (.goto 33, 3) := by decide +kernel
theorem dJ5_append_3fe6f_45 : decode cJ5_append_3fe6f 45 = .ok (.aload_n 0, 1) := by decide +kernel
theorem dJ5_append_3fe6f_46 : decode cJ5_append_3fe6f 46 = .ok (.invokevirtual 83, 3) := by decide +kernel
theorem dJ5_append_3fe6f_49 : decode cJ5_append_3fe6f 49 = .ok (.ifCond .eq 7, 3) := by decide +kernel
theorem dJ5_append_3fe6f_52 : decode cJ5_append_3fe6f 52 = .ok (.aload_n 0, 1) := by decide +kernel
theorem dJ5_append_3fe6f_53 : decode cJ5_append_3fe6f 53 = .ok (.invokevirtual 195, 3) := by decide +kernel
theorem dJ5_append_3fe6f_56 : decode cJ5_append_3fe6f 56 = .ok (.aload_n 0, 1) := by decide +kernel
theorem dJ5_append_3fe6f_57 : decode cJ5_append_3fe6f 57 = .ok (.getfield 15, 3) := by decide +kernel
theorem dJ5_append_3fe6f_60 : decode cJ5_append_3fe6f 60 = .ok (.aload_n 0, 1) := by decide +kernel
theorem dJ5_append_3fe6f_61 : decode cJ5_append_3fe6f 61 = .ok (.dup, 1) := by decide +kernel
theorem dJ5_append_3fe6f_62 : decode cJ5_append_3fe6f 62 = .ok (.getfield 79, 3) := by decide +kernel
theorem dJ5_append_3fe6f_65 : decode cJ5_append_3fe6f 65 = .ok (.dup_x1, 1) := by decide +kernel
theorem dJ5_append_3fe6f_66 : decode cJ5_append_3fe6f 66 = .ok (.iconst 1, 1) := by decide +kernel
theorem dJ5_append_3fe6f_67 : decode cJ5_append_3fe6f 67 = .ok (.iadd, 1) := by decide +kernel
theorem dJ5_append_3fe6f_68 : decode cJ5_append_3fe6f 68 = .ok (.putfield 79, 3) := by decide +kernel
theorem dJ5_append_3fe6f_71 : decode cJ5_append_3fe6f 71 = .ok (.iload_n 1, 1) := by decide +kernel
theorem dJ5_append_3fe6f_72 : decode cJ5_append_3fe6f 72 = .ok (.invokestatic 197, 3) := by decide +kernel
theorem dJ5_append_3fe6f_75 : decode cJ5_append_3fe6f 75 = .ok (.aload_n 0, 1) := by decide +kernel
theorem dJ5_append_3fe6f_76 : decode cJ5_append_3fe6f 76 = .ok (.areturn, 1) := by decide +kernel
theorem dJ5_append_c97b9_0 : decode cJ5_append_c97b9 0 = .ok (.aload_n 0, 1) := by decide +kernel
theorem dJ5_append_c97b9_1 : decode cJ5_append_c97b9 1 = .ok (.getfield 79, 3) := by decide +kernel
theorem dJ5_append_c97b9_4 : decode cJ5_append_c97b9 4 = .ok (.istore_n 2, 1) := by decide +kernel
theorem dJ5_append_c97b9_5 : decode cJ5_append_c97b9 5 = .ok (.iload_n 2, 1) := by decide +kernel
theorem dJ5_append_c97b9_6 : decode cJ5_append_c97b9 6 = .ok (.iload_n 1, 1) := by decide +kernel
theorem dJ5_append_c97b9_7 : decode cJ5_append_c97b9 7 = .ok (.invokestatic 245, 3) := by decide +kernel
theorem dJ5_append_c97b9_10 : decode cJ5_append_c97b9 10 = .ok (.iadd, 1) := by decide +kernel
theorem dJ5_append_c97b9_11 : decode cJ5_append_c97b9 11 = .ok (.istore_n 3, 1) := by decide +kernel
theorem dJ5_append_c97b9_12 : decode cJ5_append_c97b9 12 = .ok (.aload_n 0, 1) := by decide +kernel
theorem dJ5_append_c97b9_13 : decode cJ5_append_c97b9 13 = .ok (.iload_n 3, 1) := by decide +kernel
theorem dJ5_append_c97b9_14 : decode cJ5_append_c97b9 14 = .ok (.invokevirtual 100, 3) := by decide +kernel
theorem dJ5_append_c97b9_17 : decode cJ5_append_c97b9 17 = .ok (.aload_n 0, 1) := by decide +kernel
theorem dJ5_append_c97b9_18 : decode cJ5_append_c97b9 18 = .ok (.invokevirtual 83, 3) := by decide +kernel
theorem dJ5_append_c97b9_21 : decode cJ5_append_c97b9 21 = .ok (.ifCond .eq 16, 3) := by decide +kernel
theorem dJ5_append_c97b9_24 : decode cJ5_append_c97b9 24 = .ok (.iload_n 1, 1) := by decide +kernel
theorem dJ5_append_c97b9_25 : decode cJ5_append_c97b9 25 = .ok (.iload_n 3, 1) := by decide +kernel
theorem dJ5_append_c97b9_26 : decode cJ5_append_c97b9 26 = .ok (.aload_n 0, 1) := by decide +kernel
theorem dJ5_append_c97b9_27 : decode cJ5_append_c97b9 27 = .ok (.getfield 15, 3) := by decide +kernel
theorem dJ5_append_c97b9_30 : decode cJ5_append_c97b9 30 = .ok (.invokestatic 248, 3) := by decide +kernel
theorem dJ5_append_c97b9_33 : decode cJ5_append_c97b9 33 = .ok (.pop, 1) := by decide +kernel
theorem dJ5_append_c97b9_34 : decode cJ5_append_c97b9 34 = .ok (.goto 14, 3) := by decide +kernel
theorem dJ5_append_c97b9_37 : decode cJ5_append_c97b9 37 = .ok (.iload_n 1, 1) := by decide +kernel
theorem dJ5_append_c97b9_38 : decode cJ5_append_c97b9 38 = .ok (.iload_n 2, 1) := by decide +kernel
theorem dJ5_append_c97b9_39 : decode cJ5_append_c97b9 39 = .ok (.iload_n 3, 1) := by decide +kernel
theorem dJ5_append_c97b9_40 : decode cJ5_append_c97b9 40 = .ok (.aload_n 0, 1) := by decide +kernel
theorem dJ5_append_c97b9_41 : decode cJ5_append_c97b9 41 = .ok (.getfield 15, 3) := by decide +kernel
theorem dJ5_append_c97b9_44 : decode cJ5_append_c97b9 44 = .ok (.invokestatic 251, 3) := by decide +kernel
theorem dJ5_append_c97b9_47 : decode cJ5_append_c97b9 47 = .ok (.pop, 1) := by decide +kernel
theorem dJ5_append_c97b9_48 : decode cJ5_append_c97b9 48 = .ok (.aload_n 0, 1) := by decide +kernel
theorem dJ5_append_c97b9_49 : decode cJ5_append_c97b9 49 = .ok (.iload_n 3, 1) := by decide +kernel
theorem dJ5_append_c97b9_50 : decode cJ5_append_c97b9 50 = .ok (.putfield 79, 3) := by decide +kernel
theorem dJ5_append_c97b9_53 : decode cJ5_append_c97b9 53 = .ok (.aload_n 0, 1) := by decide +kernel
theorem dJ5_append_c97b9_54 : decode cJ5_append_c97b9 54 = .ok (.areturn, 1) := by decide +kernel
theorem dJ5_isLatin1_aae02_0 : decode cJ5_isLatin1_aae02 0 = .ok (.getstatic 18, 3) := by decide +kernel
theorem dJ5_isLatin1_aae02_3 : decode cJ5_isLatin1_aae02 3 = .ok (.ifCond .eq 14, 3) := by decide +kernel
theorem dJ5_isLatin1_aae02_6 : decode cJ5_isLatin1_aae02 6 = .ok (.aload_n 0, 1) := by decide +kernel
theorem dJ5_isLatin1_aae02_7 : decode cJ5_isLatin1_aae02 7 = .ok (.getfield 22, 3) := by decide +kernel
theorem dJ5_isLatin1_aae02_10 : decode cJ5_isLatin1_aae02 10 = .ok (.ifCond .ne 7, 3) := by decide +kernel
theorem dJ5_isLatin1_aae02_13 : decode cJ5_isLatin1_aae02 13 = .ok (.iconst 1, 1) := by decide +kernel
theorem dJ5_isLatin1_aae02_14 : decode cJ5_isLatin1_aae02 14 = .ok (.goto 4, 3) := by decide +kernel
theorem dJ5_isLatin1_aae02_17 : decode cJ5_isLatin1_aae02 17 = .ok (.iconst 0, 1) := by decide +kernel
theorem dJ5_isLatin1_aae02_18 : decode cJ5_isLatin1_aae02 18 = .ok (.ireturn, 1) := by decide +kernel
theorem dJx29ce0_ordinal_8abf5_0 : decode cJx29ce0_ordinal_8abf5 0 = .ok (.aload_n 0, 1) := by decide +kernel
theorem dJx29ce0_ordinal_8abf5_1 : decode cJx29ce0_ordinal_8abf5 1 = .ok (.getfield 7, 3) := by decide +kernel
theorem dJx29ce0_ordinal_8abf5_4 : decode cJx29ce0_ordinal_8abf5 4 = .ok (.ireturn, 1) := by decide +kernel
theorem dJ6_getChars_ba4f3_0 : decode cJ6_getChars_ba4f3 0 = .ok (.iload_n 1, 1) := by decide +kernel
theorem dJ6_getChars_ba4f3_1 : decode cJ6_getChars_ba4f3 1 = .ok (.istore 5, 2) := by decide +kernel
theorem dJ6_getChars_ba4f3_3 : decode cJ6_getChars_ba4f3 3 = .ok (.iload_n 0, 1) := by decide +kernel
theorem dJ6_getChars_ba4f3_4 : decode cJ6_getChars_ba4f3 4 = .ok (.ifCond .ge 7, 3) := by decide +kernel
theorem dJ6_getChars_ba4f3_7 : decode cJ6_getChars_ba4f3 7 = .ok (.iconst 1, 1) := by decide +kernel
theorem dJ6_getChars_ba4f3_8 : decode cJ6_getChars_ba4f3 8 = .ok (.goto 4, 3) := by decide +kernel
theorem dJ6_getChars_ba4f3_11 : decode cJ6_getChars_ba4f3 11 = .ok (.iconst 0, 1) := by decide +kernel
theorem dJ6_getChars_ba4f3_12 : decode cJ6_getChars_ba4f3 12 = .ok (.istore 6, 2) := by decide +kernel
theorem dJ6_getChars_ba4f3_14 : decode cJ6_getChars_ba4f3 14 = .ok (.iload 6, 2) := by decide +kernel
theorem dJ6_getChars_ba4f3_16 : decode cJ6_getChars_ba4f3 16 = .ok (.ifCond .ne 6, 3) := by decide +kernel
theorem dJ6_getChars_ba4f3_19 : decode cJ6_getChars_ba4f3 19 = .ok (.iload_n 0, 1) := by decide +kernel
theorem dJ6_getChars_ba4f3_20 : decode cJ6_getChars_ba4f3 20 = .ok (.ineg, 1) := by decide +kernel
theorem dJ6_getChars_ba4f3_21 : decode cJ6_getChars_ba4f3 21 = .ok (.istore_n 0, 1) := by decide +kernel
theorem dJ6_getChars_ba4f3_22 : decode cJ6_getChars_ba4f3 22 = .ok (.iload_n 0, 1) := by decide +kernel
theorem dJ6_getChars_ba4f3_23 : decode cJ6_getChars_ba4f3 23 = .ok (.bipush (-100), 2) := by decide +kernel
theorem dJ6_getChars_ba4f3_25 : decode cJ6_getChars_ba4f3 25 = .ok (.if_icmp .gt 47, 3) := by decide +kernel
theorem dJ6_getChars_ba4f3_28 : decode cJ6_getChars_ba4f3 28 = .ok (.iload_n 0, 1) := by decide +kernel
theorem dJ6_getChars_ba4f3_29 : decode cJ6_getChars_ba4f3 29 = .ok (.bipush 100, 2) := by decide +kernel
theorem dJ6_getChars_ba4f3_31 : decode cJ6_getChars_ba4f3 31 = .ok (.idiv, 1) := by decide +kernel
theorem dJ6_getChars_ba4f3_32 : decode cJ6_getChars_ba4f3 32 = .ok (.istore_n 3, 1) := by decide +kernel
theorem dJ6_getChars_ba4f3_33 : decode cJ6_getChars_ba4f3 33 = .ok (.iload_n 3, 1) := by decide +kernel
theorem dJ6_getChars_ba4f3_34 : decode cJ6_getChars_ba4f3 34 = .ok (.bipush 100, 2) := by decide +kernel
theorem dJ6_getChars_ba4f3_36 : decode cJ6_getChars_ba4f3 36 = .ok (.imul, 1) := by decide +kernel
theorem dJ6_getChars_ba4f3_37 : decode cJ6_getChars_ba4f3 37 = .ok (.iload_n 0, 1) := by decide +kernel
theorem dJ6_getChars_ba4f3_38 : decode cJ6_getChars_ba4f3 38 = .ok (.isub, 1) := by decide +kernel
theorem dJ6_getChars_ba4f3_39 : decode cJ6_getChars_ba4f3 39 = .ok (.istore 4, 2) := by decide +kernel
theorem dJ6_getChars_ba4f3_41 : decode cJ6_getChars_ba4f3 41 = .ok (.iload_n 3, 1) := by decide +kernel
theorem dJ6_getChars_ba4f3_42 : decode cJ6_getChars_ba4f3 42 = .ok (.istore_n 0, 1) := by decide +kernel
theorem dJ6_getChars_ba4f3_43 : decode cJ6_getChars_ba4f3 43 = .ok (.aload_n 2, 1) := by decide +kernel
theorem dJ6_getChars_ba4f3_44 : decode cJ6_getChars_ba4f3 44 = .ok (.iinc 5 (-1), 3) := by decide +kernel
theorem dJ6_getChars_ba4f3_47 : decode cJ6_getChars_ba4f3 47 = .ok (.iload 5, 2) := by decide +kernel
theorem dJ6_getChars_ba4f3_49 : decode cJ6_getChars_ba4f3 49 = .ok (.getstatic 83, 3) := by decide +kernel
theorem dJ6_getChars_ba4f3_52 : decode cJ6_getChars_ba4f3 52 = .ok (.iload 4, 2) := by decide +kernel
theorem dJ6_getChars_ba4f3_54 : decode cJ6_getChars_ba4f3 54 = .ok (.baload, 1) := by decide +kernel
theorem dJ6_getChars_ba4f3_55 : decode cJ6_getChars_ba4f3 55 = .ok (.bastore, 1) := by decide +kernel
theorem dJ6_getChars_ba4f3_56 : decode cJ6_getChars_ba4f3 56 = .ok (.aload_n 2, 1) := by decide +kernel
theorem dJ6_getChars_ba4f3_57 : decode cJ6_getChars_ba4f3 57 = .ok (.iinc 5 (-1), 3) := by decide +kernel
theorem dJ6_getChars_ba4f3_60 : decode cJ6_getChars_ba4f3 60 = .ok (.iload 5, 2) := by decide +kernel
theorem dJ6_getChars_ba4f3_62 : decode cJ6_getChars_ba4f3 62 = .ok (.getstatic 87, 3) := by decide +kernel
theorem dJ6_getChars_ba4f3_65 : decode cJ6_getChars_ba4f3 65 = .ok (.iload 4, 2) := by decide +kernel
theorem dJ6_getChars_ba4f3_67 : decode cJ6_getChars_ba4f3 67 = .ok (.baload, 1) := by decide +kernel
theorem dJ6_getChars_ba4f3_68 : decode cJ6_getChars_ba4f3 68 = .ok (.bastore, 1) := by decide +kernel
theorem dJ6_getChars_ba4f3_69 : decode cJ6_getChars_ba4f3 69 = .ok (.goto (-47), 3) := by decide +kernel
theorem dJ6_getChars_ba4f3_72 : decode cJ6_getChars_ba4f3 72 = .ok (.aload_n 2, 1) := by decide +kernel
theorem dJ6_getChars_ba4f3_73 : decode cJ6_getChars_ba4f3 73 = .ok (.iinc 5 (-1), 3) := by decide +kernel
theorem dJ6_getChars_ba4f3_76 : decode cJ6_getChars_ba4f3 76 = .ok (.iload 5, 2) := by decide +kernel
theorem dJ6_getChars_ba4f3_78 : decode cJ6_getChars_ba4f3 78 = .ok (.getstatic 83, 3) := by decide +kernel
theorem dJ6_getChars_ba4f3_81 : decode cJ6_getChars_ba4f3 81 = .ok (.iload_n 0, 1) := by decide +kernel
theorem dJ6_getChars_ba4f3_82 : decode cJ6_getChars_ba4f3 82 = .ok (.ineg, 1) := by decide +kernel
theorem dJ6_getChars_ba4f3_83 : decode cJ6_getChars_ba4f3 83 = .ok (.baload, 1) := by decide +kernel
theorem dJ6_getChars_ba4f3_84 : decode cJ6_getChars_ba4f3 84 = .ok (.bastore, 1) := by decide +kernel
theorem dJ6_getChars_ba4f3_85 : decode cJ6_getChars_ba4f3 85 = .ok (.iload_n 0, 1) := by decide +kernel
theorem dJ6_getChars_ba4f3_86 : decode cJ6_getChars_ba4f3 86 = .ok (.bipush (-9), 2) := by decide +kernel
theorem dJ6_getChars_ba4f3_88 : decode cJ6_getChars_ba4f3 88 = .ok (.if_icmp .ge 16, 3) := by decide +kernel
theorem dJ6_getChars_ba4f3_91 : decode cJ6_getChars_ba4f3 91 = .ok (.aload_n 2, 1) := by decide +kernel
theorem dJ6_getChars_ba4f3_92 : decode cJ6_getChars_ba4f3 92 = .ok (.iinc 5 (-1), 3) := by decide +kernel
theorem dJ6_getChars_ba4f3_95 : decode cJ6_getChars_ba4f3 95 = .ok (.iload 5, 2) := by decide +kernel
theorem dJ6_getChars_ba4f3_97 : decode cJ6_getChars_ba4f3 97 = .ok (.getstatic 87, 3) := by decide +kernel
theorem dJ6_getChars_ba4f3_100 : decode cJ6_getChars_ba4f3 100 = .ok (.iload_n 0, 1) := by decide +kernel
theorem dJ6_getChars_ba4f3_101 : decode cJ6_getChars_ba4f3 101 = .ok (.ineg, 1) := by decide +kernel
theorem dJ6_getChars_ba4f3_102 : decode cJ6_getChars_ba4f3 102 = .ok (.baload, 1) := by decide +kernel
theorem dJ6_getChars_ba4f3_103 : decode cJ6_getChars_ba4f3 103 = .ok (.bastore, 1) := by decide +kernel
theorem dJ6_getChars_ba4f3_104 : decode cJ6_getChars_ba4f3 104 = .ok (.iload 6, 2) := by decide +kernel
theorem dJ6_getChars_ba4f3_106 : decode cJ6_getChars_ba4f3 106 = .ok (.ifCond .eq 12, 3) := by decide +kernel
theorem dJ6_getChars_ba4f3_109 : decode cJ6_getChars_ba4f3 109 = .ok (.aload_n 2, 1) := by decide +kernel
theorem dJ6_getChars_ba4f3_110 : decode cJ6_getChars_ba4f3 110 = .ok (.iinc 5 (-1), 3) := by decide +kernel
theorem dJ6_getChars_ba4f3_113 : decode cJ6_getChars_ba4f3 113 = .ok (.iload 5, 2) := by decide +kernel
theorem dJ6_getChars_ba4f3_115 : decode cJ6_getChars_ba4f3 115 = .ok (.bipush 45, 2) := by decide +kernel
theorem dJ6_getChars_ba4f3_117 : decode cJ6_getChars_ba4f3 117 = .ok (.bastore, 1) := by decide +kernel
theorem dJ6_getChars_ba4f3_118 : decode cJ6_getChars_ba4f3 118 = .ok (.iload 5, 2) := by decide +kernel
theorem dJ6_getChars_ba4f3_120 : decode cJ6_getChars_ba4f3 120 = .ok (.ireturn, 1) := by decide +kernel
theorem dJ6_stringSize_0f7a4_0 : decode cJ6_stringSize_0f7a4 0 = .ok (.iconst 1, 1) := by decide +kernel
theorem dJ6_stringSize_0f7a4_1 : decode cJ6_stringSize_0f7a4 1 = .ok (.istore_n 1, 1) := by decide +kernel
theorem dJ6_stringSize_0f7a4_2 : decode cJ6_stringSize_0f7a4 2 = .ok (.iload_n 0, 1) := by decide +kernel
theorem dJ6_stringSize_0f7a4_3 : decode cJ6_stringSize_0f7a4 3 = .ok (.ifCond .lt 8, 3) := by decide +kernel
theorem dJ6_stringSize_0f7a4_6 : decode cJ6_stringSize_0f7a4 6 = .ok (.iconst 0, 1) := by decide +kernel
theorem dJ6_stringSize_0f7a4_7 : decode cJ6_stringSize_0f7a4 7 = .ok (.istore_n 1, 1) := by decide +kernel
theorem dJ6_stringSize_0f7a4_8 : decode cJ6_stringSize_0f7a4 8 = .ok (.iload_n 0, 1) := by decide +kernel
theorem dJ6_stringSize_0f7a4_9 : decode cJ6_stringSize_0f7a4 9 = .ok (.ineg, 1) := by decide +kernel
theorem dJ6_stringSize_0f7a4_10 : decode cJ6_stringSize_0f7a4 10 = .ok (.istore_n 0, 1) := by decide +kernel
theorem dJ6_stringSize_0f7a4_11 : decode cJ6_stringSize_0f7a4 11 = .ok (.bipush (-10), 2) := by decide +kernel
theorem dJ6_stringSize_0f7a4_13 : decode cJ6_stringSize_0f7a4 13 = .ok (.istore_n 2, 1) := by decide +kernel
theorem dJ6_stringSize_0f7a4_14 : decode cJ6_stringSize_0f7a4 14 = .ok (.iconst 1, 1) := by decide +kernel
theorem dJ6_stringSize_0f7a4_15 : decode cJ6_stringSize_0f7a4 15 = .ok (.istore_n 3, 1) := by decide +kernel
theorem dJ6_stringSize_0f7a4_16 : decode cJ6_stringSize_0f7a4 16 = .ok (.iload_n 3, 1) := by decide +kernel
theorem dJ6_stringSize_0f7a4_17 : decode cJ6_stringSize_0f7a4 17 = .ok (.bipush 10, 2) := by decide +kernel
theorem dJ6_stringSize_0f7a4_19 : decode cJ6_stringSize_0f7a4 19 = .ok (.if_icmp .ge 23, 3) := by decide +kernel
theorem dJ6_stringSize_0f7a4_22 : decode cJ6_stringSize_0f7a4 22 = .ok (.iload_n 0, 1) := by decide +kernel
theorem dJ6_stringSize_0f7a4_23 : decode cJ6_stringSize_0f7a4 23 = .ok (.iload_n 2, 1) := by decide +kernel
theorem dJ6_stringSize_0f7a4_24 : decode cJ6_stringSize_0f7a4 24 = .ok (.if_icmp .le 7, 3) := by decide +kernel
theorem dJ6_stringSize_0f7a4_27 : decode cJ6_stringSize_0f7a4 27 = .ok (.iload_n 3, 1) := by decide +kernel
theorem dJ6_stringSize_0f7a4_28 : decode cJ6_stringSize_0f7a4 28 = .ok (.iload_n 1, 1) := by decide +kernel
theorem dJ6_stringSize_0f7a4_29 : decode cJ6_stringSize_0f7a4 29 = .ok (.iadd, 1) := by decide +kernel
theorem dJ6_stringSize_0f7a4_30 : decode cJ6_stringSize_0f7a4 30 = .ok (.ireturn, 1) := by decide +kernel
theorem dJ6_stringSize_0f7a4_31 : decode cJ6_stringSize_0f7a4 31 = .ok (.bipush 10, 2) := by decide +kernel
theorem dJ6_stringSize_0f7a4_33 : decode cJ6_stringSize_0f7a4 33 = .ok (.iload_n 2, 1) := by decide +kernel
theorem dJ6_stringSize_0f7a4_34 : decode cJ6_stringSize_0f7a4 34 = .ok (.imul, 1) := by decide +kernel
theorem dJ6_stringSize_0f7a4_35 : decode cJ6_stringSize_0f7a4 35 = .ok (.istore_n 2, 1) := by decide +kernel
theorem dJ6_stringSize_0f7a4_36 : decode cJ6_stringSize_0f7a4 36 = .ok (.iinc 3 1, 3) := by decide +kernel
theorem dJ6_stringSize_0f7a4_39 : decode cJ6_stringSize_0f7a4 39 = .ok (.goto (-23), 3) := by decide +kernel
theorem dJ6_stringSize_0f7a4_42 : decode cJ6_stringSize_0f7a4 42 = .ok (.bipush 10, 2) := by decide +kernel
theorem dJ6_stringSize_0f7a4_44 : decode cJ6_stringSize_0f7a4 44 = .ok (.iload_n 1, 1) := by decide +kernel
theorem dJ6_stringSize_0f7a4_45 : decode cJ6_stringSize_0f7a4 45 = .ok (.iadd, 1) := by decide +kernel
theorem dJ6_stringSize_0f7a4_46 : decode cJ6_stringSize_0f7a4 46 = .ok (.ireturn, 1) := by decide +kernel
theorem dJ6_bitCount_0f7a4_0 : decode cJ6_bitCount_0f7a4 0 = .ok (.iload_n 0, 1) := by decide +kernel
theorem dJ6_bitCount_0f7a4_1 : decode cJ6_bitCount_0f7a4 1 = .ok (.iload_n 0, 1) := by decide +kernel
theorem dJ6_bitCount_0f7a4_2 : decode cJ6_bitCount_0f7a4 2 = .ok (.iconst 1, 1) := by decide +kernel
theorem dJ6_bitCount_0f7a4_3 : decode cJ6_bitCount_0f7a4 3 = .ok (.iushr, 1) := by decide +kernel
theorem dJ6_bitCount_0f7a4_4 : decode cJ6_bitCount_0f7a4 4 = .ok (.ldc_w 265, 3) := by decide +kernel
theorem dJ6_bitCount_0f7a4_7 : decode cJ6_bitCount_0f7a4 7 = .ok (.iand, 1) := by decide +kernel
theorem dJ6_bitCount_0f7a4_8 : decode cJ6_bitCount_0f7a4 8 = .ok (.isub, 1) := by decide +kernel
theorem dJ6_bitCount_0f7a4_9 : decode cJ6_bitCount_0f7a4 9 = .ok (.istore_n 0, 1) := by decide +kernel
theorem dJ6_bitCount_0f7a4_10 : decode cJ6_bitCount_0f7a4 10 = .ok (.iload_n 0, 1) := by decide +kernel
theorem dJ6_bitCount_0f7a4_11 : decode cJ6_bitCount_0f7a4 11 = .ok (.ldc_w 266, 3) := by decide +kernel
theorem dJ6_bitCount_0f7a4_14 : decode cJ6_bitCount_0f7a4 14 = .ok (.iand, 1) := by decide +kernel
theorem dJ6_bitCount_0f7a4_15 : decode cJ6_bitCount_0f7a4 15 = .ok (.iload_n 0, 1) := by decide +kernel
theorem dJ6_bitCount_0f7a4_16 : decode cJ6_bitCount_0f7a4 16 = .ok (.iconst 2, 1) := by decide +kernel
theorem dJ6_bitCount_0f7a4_17 : decode cJ6_bitCount_0f7a4 17 = .ok (.iushr, 1) := by decide +kernel
theorem dJ6_bitCount_0f7a4_18 : decode cJ6_bitCount_0f7a4 18 = .ok (.ldc_w 266, 3) := by decide +kernel
theorem dJ6_bitCount_0f7a4_21 : decode cJ6_bitCount_0f7a4 21 = .ok (.iand, 1) := by decide +kernel
theorem dJ6_bitCount_0f7a4_22 : decode cJ6_bitCount_0f7a4 22 = .ok (.iadd, 1) := by decide +kernel
theorem dJ6_bitCount_0f7a4_23 : decode cJ6_bitCount_0f7a4 23 = .ok (.istore_n 0, 1) := by decide +kernel
theorem dJ6_bitCount_0f7a4_24 : decode cJ6_bitCount_0f7a4 24 = .ok (.iload_n 0, 1) := by decide +kernel
theorem dJ6_bitCount_0f7a4_25 : decode cJ6_bitCount_0f7a4 25 = .ok (.iload_n 0, 1) := by decide +kernel
theorem dJ6_bitCount_0f7a4_26 : decode cJ6_bitCount_0f7a4 26 = .ok (.iconst 4, 1) := by decide +kernel
theorem dJ6_bitCount_0f7a4_27 : decode cJ6_bitCount_0f7a4 27 = .ok (.iushr, 1) := by decide +kernel
theorem dJ6_bitCount_0f7a4_28 : decode cJ6_bitCount_0f7a4 28 = .ok (.iadd, 1) := by decide +kernel
theorem dJ6_bitCount_0f7a4_29 : decode cJ6_bitCount_0f7a4 29 = .ok (.ldc_w 267, 3) := by decide +kernel
theorem dJ6_bitCount_0f7a4_32 : decode cJ6_bitCount_0f7a4 32 = .ok (.iand, 1) := by decide +kernel
theorem dJ6_bitCount_0f7a4_33 : decode cJ6_bitCount_0f7a4 33 = .ok (.istore_n 0, 1) := by decide +kernel
theorem dJ6_bitCount_0f7a4_34 : decode cJ6_bitCount_0f7a4 34 = .ok (.iload_n 0, 1) := by decide +kernel
theorem dJ6_bitCount_0f7a4_35 : decode cJ6_bitCount_0f7a4 35 = .ok (.iload_n 0, 1) := by decide +kernel
theorem dJ6_bitCount_0f7a4_36 : decode cJ6_bitCount_0f7a4 36 = .ok (.bipush 8, 2) := by decide +kernel
theorem dJ6_bitCount_0f7a4_38 : decode cJ6_bitCount_0f7a4 38 = .ok (.iushr, 1) := by decide +kernel
theorem dJ6_bitCount_0f7a4_39 : decode cJ6_bitCount_0f7a4 39 = .ok (.iadd, 1) := by decide +kernel
theorem dJ6_bitCount_0f7a4_40 : decode cJ6_bitCount_0f7a4 40 = .ok (.istore_n 0, 1) := by decide +kernel
theorem dJ6_bitCount_0f7a4_41 : decode cJ6_bitCount_0f7a4 41 = .ok (.iload_n 0, 1) := by decide +kernel
theorem dJ6_bitCount_0f7a4_42 : decode cJ6_bitCount_0f7a4 42 = .ok (.iload_n 0, 1) := by decide +kernel
theorem dJ6_bitCount_0f7a4_43 : decode cJ6_bitCount_0f7a4 43 = .ok (.bipush 16, 2) := by decide +kernel
theorem dJ6_bitCount_0f7a4_45 : decode cJ6_bitCount_0f7a4 45 = .ok (.iushr, 1) := by decide +kernel
theorem dJ6_bitCount_0f7a4_46 : decode cJ6_bitCount_0f7a4 46 = .ok (.iadd, 1) := by decide +kernel
theorem dJ6_bitCount_0f7a4_47 : decode cJ6_bitCount_0f7a4 47 = .ok (.istore_n 0, 1) := by decide +kernel
theorem dJ6_bitCount_0f7a4_48 : decode cJ6_bitCount_0f7a4 48 = .ok (.iload_n 0, 1) := by decide +kernel
theorem dJ6_bitCount_0f7a4_49 : decode cJ6_bitCount_0f7a4 49 = .ok (.bipush 63, 2) := by decide +kernel
theorem dJ6_bitCount_0f7a4_51 : decode cJ6_bitCount_0f7a4 51 = .ok (.iand, 1) := by decide +kernel
theorem dJ6_bitCount_0f7a4_52 : decode cJ6_bitCount_0f7a4 52 = .ok (.ireturn, 1) := by decide +kernel
theorem dJ9_max_7cf53_0 : decode cJ9_max_7cf53 0 = .ok (.iload_n 0, 1) := by decide +kernel
theorem dJ9_max_7cf53_1 : decode cJ9_max_7cf53 1 = .ok (.iload_n 1, 1) := by decide +kernel
theorem dJ9_max_7cf53_2 : decode cJ9_max_7cf53 2 = .ok (.if_icmp .lt 7, 3) := by decide +kernel
theorem dJ9_max_7cf53_5 : decode cJ9_max_7cf53 5 = .ok (.iload_n 0, 1) := by decide +kernel
theorem dJ9_max_7cf53_6 : decode cJ9_max_7cf53 6 = .ok (.goto 4, 3) := by decide +kernel
theorem dJ9_max_7cf53_9 : decode cJ9_max_7cf53 9 = .ok (.iload_n 1, 1) := by decide +kernel
theorem dJ9_max_7cf53_10 : decode cJ9_max_7cf53 10 = .ok (.ireturn, 1) := by decide +kernel
theorem dJ9_min_7cf53_0 : decode cJ9_min_7cf53 0 = .ok (.iload_n 0, 1) := by decide +kernel
theorem dJ9_min_7cf53_1 : decode cJ9_min_7cf53 1 = .ok (.iload_n 1, 1) := by decide +kernel
theorem dJ9_min_7cf53_2 : decode cJ9_min_7cf53 2 = .ok (.if_icmp .gt 7, 3) := by decide +kernel
theorem dJ9_min_7cf53_5 : decode cJ9_min_7cf53 5 = .ok (.iload_n 0, 1) := by decide +kernel
theorem dJ9_min_7cf53_6 : decode cJ9_min_7cf53 6 = .ok (.goto 4, 3) := by decide +kernel
theorem dJ9_min_7cf53_9 : decode cJ9_min_7cf53 9 = .ok (.iload_n 1, 1) := by decide +kernel
theorem dJ9_min_7cf53_10 : decode cJ9_min_7cf53 10 = .ok (.ireturn, 1) := by decide +kernel
theorem dJ0_length_8abf5_0 : decode cJ0_length_8abf5 0 = .ok (.aload_n 0, 1) := by decide +kernel
theorem dJ0_length_8abf5_1 : decode cJ0_length_8abf5 1 = .ok (.getfield 9, 3) := by decide +kernel
theorem dJ0_length_8abf5_4 : decode cJ0_length_8abf5 4 = .ok (.arraylength, 1) := by decide +kernel
theorem dJ0_length_8abf5_5 : decode cJ0_length_8abf5 5 = .ok (.aload_n 0, 1) := by decide +kernel
theorem dJ0_length_8abf5_6 : decode cJ0_length_8abf5 6 = .ok (.invokevirtual 335, 3) := by decide +kernel
theorem dJ0_length_8abf5_9 : decode cJ0_length_8abf5 9 = .ok (.ishr, 1) := by decide +kernel
theorem dJ0_length_8abf5_10 : decode cJ0_length_8abf5 10 = .ok (.ireturn, 1) := by decide +kernel
theorem dJ0_charAt_5068e_0 : decode cJ0_charAt_5068e 0 = .ok (.aload_n 0, 1) := by decide +kernel
theorem dJ0_charAt_5068e_1 : decode cJ0_charAt_5068e 1 = .ok (.invokevirtual 492, 3) := by decide +kernel
theorem dJ0_charAt_5068e_4 : decode cJ0_charAt_5068e 4 = .ok (.ifCond .eq 12, 3) := by decide +kernel
theorem dJ0_charAt_5068e_7 : decode cJ0_charAt_5068e 7 = .ok (.aload_n 0, 1) := by decide +kernel
theorem dJ0_charAt_5068e_8 : decode cJ0_charAt_5068e 8 = .ok (.getfield 9, 3) := by decide +kernel
theorem dJ0_charAt_5068e_11 : decode cJ0_charAt_5068e 11 = .ok (.iload_n 1, 1) := by decide +kernel
theorem dJ0_charAt_5068e_12 : decode cJ0_charAt_5068e 12 = .ok (.invokestatic 495, 3) := by decide +kernel
theorem dJ0_charAt_5068e_15 : decode cJ0_charAt_5068e 15 = .ok (.ireturn, 1) := by decide +kernel
theorem dJ0_charAt_5068e_16 : decode cJ0_charAt_5068e 16 = .ok (.aload_n 0, 1) := by decide +kernel
theorem dJ0_charAt_5068e_17 : decode cJ0_charAt_5068e 17 = .ok (.getfield 9, 3) := by decide +kernel
theorem dJ0_charAt_5068e_20 : decode cJ0_charAt_5068e 20 = .ok (.iload_n 1, 1) := by decide +kernel
theorem dJ0_charAt_5068e_21 : decode cJ0_charAt_5068e 21 = .ok (.invokestatic 498, 3) := by decide +kernel
theorem dJ0_charAt_5068e_24 : decode cJ0_charAt_5068e 24 = .ok (.ireturn, 1) := by decide +kernel
theorem dJ0_coder_7d493_0 : decode cJ0_coder_7d493 0 = .ok (.getstatic 38, 3) := by decide +kernel
theorem dJ0_coder_7d493_3 : decode cJ0_coder_7d493 3 = .ok (.ifCond .eq 10, 3) := by decide +kernel
theorem dJ0_coder_7d493_6 : decode cJ0_coder_7d493 6 = .ok (.aload_n 0, 1) := by decide +kernel
theorem dJ0_coder_7d493_7 : decode cJ0_coder_7d493 7 = .ok (.getfield 15, 3) := by decide +kernel
theorem dJ0_coder_7d493_10 : decode cJ0_coder_7d493 10 = .ok (.goto 4, 3) := by decide +kernel
theorem dJ0_coder_7d493_13 : decode cJ0_coder_7d493 13 = .ok (.iconst 1, 1) := by decide +kernel
theorem dJ0_coder_7d493_14 : decode cJ0_coder_7d493 14 = .ok (.ireturn, 1) := by decide +kernel
theorem dJ0_isLatin1_aae02_0 : decode cJ0_isLatin1_aae02 0 = .ok (.getstatic 38, 3) := by decide +kernel
theorem dJ0_isLatin1_aae02_3 : decode cJ0_isLatin1_aae02 3 = .ok (.ifCond .eq 14, 3) := by decide +kernel
theorem dJ0_isLatin1_aae02_6 : decode cJ0_isLatin1_aae02 6 = .ok (.aload_n 0, 1) := by decide +kernel
theorem dJ0_isLatin1_aae02_7 : decode cJ0_isLatin1_aae02 7 = .ok (.getfield 15, 3) := by decide +kernel
theorem dJ0_isLatin1_aae02_10 : decode cJ0_isLatin1_aae02 10 = .ok (.ifCond .ne 7, 3) := by decide +kernel
theorem dJ0_isLatin1_aae02_13 : decode cJ0_isLatin1_aae02 13 = .ok (.iconst 1, 1) := by decide +kernel
theorem dJ0_isLatin1_aae02_14 : decode cJ0_isLatin1_aae02 14 = .ok (.goto 4, 3) := by decide +kernel
theorem dJ0_isLatin1_aae02_17 : decode cJ0_isLatin1_aae02 17 = .ok (.iconst 0, 1) := by decide +kernel
theorem dJ0_isLatin1_aae02_18 : decode cJ0_isLatin1_aae02 18 = .ok (.ireturn, 1) := by decide +kernel
theorem dJ0_checkIndex_df160_0 : decode cJ0_checkIndex_df160 0 = .ok (.iload_n 0, 1) := by decide +kernel
theorem dJ0_checkIndex_df160_1 : decode cJ0_checkIndex_df160 1 = .ok (.iload_n 1, 1) := by decide +kernel
theorem dJ0_checkIndex_df160_2 : decode cJ0_checkIndex_df160 2 = .ok (.getstatic 1053, 3) := by decide +kernel
theorem dJ0_checkIndex_df160_5 : decode cJ0_checkIndex_df160 5 = .ok (.invokestatic 1059, 3) := by decide +kernel
theorem dJ0_checkIndex_df160_8 : decode cJ0_checkIndex_df160 8 = .ok (.pop, 1) := by decide +kernel
theorem dJ0_checkIndex_df160_9 : decode cJ0_checkIndex_df160 9 = .ok (.return_, 1) := by decide +kernel
theorem dJ0_checkBoundsOffCount_cabcc_0 : decode cJ0_checkBoundsOffCount_cabcc 0 = .ok (.iload_n 0, 1) := by decide +kernel
theorem dJ0_checkBoundsOffCount_cabcc_1 : decode cJ0_checkBoundsOffCount_cabcc 1 = .ok (.iload_n 1, 1) := by decide +kernel
theorem dJ0_checkBoundsOffCount_cabcc_2 : decode cJ0_checkBoundsOffCount_cabcc 2 = .ok (.iload_n 2, 1) := by decide +kernel
theorem dJ0_checkBoundsOffCount_cabcc_3 : decode cJ0_checkBoundsOffCount_cabcc 3 = .ok (.getstatic 1053, 3) := by decide +kernel
theorem dJ0_checkBoundsOffCount_cabcc_6 : decode cJ0_checkBoundsOffCount_cabcc 6 = .ok (.invokestatic 1065, 3) := by decide +kernel
theorem dJ0_checkBoundsOffCount_cabcc_9 : decode cJ0_checkBoundsOffCount_cabcc 9 = .ok (.ireturn, 1) := by decide +kernel
theorem dJ0_checkBoundsBeginEnd_23922_0 : decode cJ0_checkBoundsBeginEnd_23922 0 = .ok (.iload_n 0, 1) := by decide +kernel
theorem dJ0_checkBoundsBeginEnd_23922_1 : decode cJ0_checkBoundsBeginEnd_23922 1 = .ok (.iload_n 1, 1) := by decide +kernel
theorem dJ0_checkBoundsBeginEnd_23922_2 : decode cJ0_checkBoundsBeginEnd_23922 2 = .ok (.iload_n 2, 1) := by decide +kernel
theorem dJ0_checkBoundsBeginEnd_23922_3 : decode cJ0_checkBoundsBeginEnd_23922 3 = .ok (.getstatic 1053, 3) := by decide +kernel
theorem dJ0_checkBoundsBeginEnd_23922_6 : decode cJ0_checkBoundsBeginEnd_23922 6 = .ok (.invokestatic 1062, 3) := by decide +kernel
theorem dJ0_checkBoundsBeginEnd_23922_9 : decode cJ0_checkBoundsBeginEnd_23922 9 = .ok (.pop, 1) := by decide +kernel
theorem dJ0_checkBoundsBeginEnd_23922_10 : decode cJ0_checkBoundsBeginEnd_23922 10 = .ok (.return_, 1) := by decide +kernel
theorem dJ4_init_da8c8_0 : decode cJ4_init_da8c8 0 = .ok (.aload_n 0, 1) := by decide +kernel
theorem dJ4_init_da8c8_1 : decode cJ4_init_da8c8 1 = .ok (.bipush 16, 2) := by decide +kernel
theorem dJ4_init_da8c8_3 : decode cJ4_init_da8c8 3 = .ok (.invokespecial 1, 3) := by decide +kernel
theorem dJ4_init_da8c8_6 : decode cJ4_init_da8c8 6 = .ok (.return_, 1) := by decide +kernel
theorem dJ4_append_cf468_0 : decode cJ4_append_cf468 0 = .ok (.aload_n 0, 1) := by decide +kernel
theorem dJ4_append_cf468_1 : decode cJ4_append_cf468 1 = .ok (.iload_n 1, 1) := by decide +kernel
theorem dJ4_append_cf468_2 : decode cJ4_append_cf468 2 = .ok (.invokespecial 50, 3) := by decide +kernel
theorem dJ4_append_cf468_5 : decode cJ4_append_cf468 5 = .ok (.pop, 1) := by decide +kernel
theorem dJ4_append_cf468_6 : decode cJ4_append_cf468 6 = .ok (.aload_n 0, 1) := by decide +kernel
theorem dJ4_append_cf468_7 : decode cJ4_append_cf468 7 = .ok (.areturn, 1) := by decide +kernel
theorem dJ4_append_bf812_0 : decode cJ4_append_bf812 0 = .ok (.aload_n 0, 1) := by decide +kernel
theorem dJ4_append_bf812_1 : decode cJ4_append_bf812 1 = .ok (.iload_n 1, 1) := by decide +kernel
theorem dJ4_append_bf812_2 : decode cJ4_append_bf812 2 = .ok (.invokespecial 53, 3) := by decide +kernel
theorem dJ4_append_bf812_5 : decode cJ4_append_bf812 5 = .ok (.pop, 1) := by decide +kernel
theorem dJ4_append_bf812_6 : decode cJ4_append_bf812 6 = .ok (.aload_n 0, 1) := by decide +kernel
theorem dJ4_append_bf812_7 : decode cJ4_append_bf812 7 = .ok (.areturn, 1) := by decide +kernel
theorem dJ4_charAt_5068e_0 : decode cJ4_charAt_5068e 0 = .ok (.aload_n 0, 1) := by decide +kernel
theorem dJ4_charAt_5068e_1 : decode cJ4_charAt_5068e 1 = .ok (.iload_n 1, 1) := by decide +kernel
theorem dJ4_charAt_5068e_2 : decode cJ4_charAt_5068e 2 = .ok (.invokespecial 329, 3) := by decide +kernel
theorem dJ4_charAt_5068e_5 : decode cJ4_charAt_5068e 5 = .ok (.ireturn, 1) := by decide +kernel
theorem dJ4_setLength_d00df_0 : decode cJ4_setLength_d00df 0 = .ok (.aload_n 0, 1) := by decide +kernel
theorem dJ4_setLength_d00df_1 : decode cJ4_setLength_d00df 1 = .ok (.iload_n 1, 1) := by decide +kernel
theorem dJ4_setLength_d00df_2 : decode cJ4_setLength_d00df 2 = .ok (.invokespecial 333, 3) := by decide +kernel
theorem dJ4_setLength_d00df_5 : decode cJ4_setLength_d00df 5 = .ok (.return_, 1) := by decide +kernel
theorem dJ4_length_8abf5_0 : decode cJ4_length_8abf5 0 = .ok (.aload_n 0, 1) := by decide +kernel
theorem dJ4_length_8abf5_1 : decode cJ4_length_8abf5 1 = .ok (.invokespecial 343, 3) := by decide +kernel
theorem dJ4_length_8abf5_4 : decode cJ4_length_8abf5 4 = .ok (.ireturn, 1) := by decide +kernel
theorem dJ1_charAt_3b067_0 : decode cJ1_charAt_3b067 0 = .ok (.iload_n 1, 1) := by decide +kernel
theorem dJ1_charAt_3b067_1 : decode cJ1_charAt_3b067 1 = .ok (.aload_n 0, 1) := by decide +kernel
theorem dJ1_charAt_3b067_2 : decode cJ1_charAt_3b067 2 = .ok (.arraylength, 1) := by decide +kernel
theorem dJ1_charAt_3b067_3 : decode cJ1_charAt_3b067 3 = .ok (.invokestatic 9, 3) := by decide +kernel
theorem dJ1_charAt_3b067_6 : decode cJ1_charAt_3b067 6 = .ok (.aload_n 0, 1) := by decide +kernel
theorem dJ1_charAt_3b067_7 : decode cJ1_charAt_3b067 7 = .ok (.iload_n 1, 1) := by decide +kernel
theorem dJ1_charAt_3b067_8 : decode cJ1_charAt_3b067 8 = .ok (.baload, 1) := by decide +kernel
theorem dJ1_charAt_3b067_9 : decode cJ1_charAt_3b067 9 = .ok (.sipush 255, 3) := by decide +kernel
theorem dJ1_charAt_3b067_12 : decode cJ1_charAt_3b067 12 = .ok (.iand, 1) := by decide +kernel
theorem dJ1_charAt_3b067_13 : decode cJ1_charAt_3b067 13 = .ok (.i2c, 1) := by decide +kernel
theorem dJ1_charAt_3b067_14 : decode cJ1_charAt_3b067 14 = .ok (.ireturn, 1) := by decide +kernel
theorem dJ1_canEncode_fc78d_0 : decode cJ1_canEncode_fc78d 0 = .ok (.iload_n 0, 1) := by decide +kernel
theorem dJ1_canEncode_fc78d_1 : decode cJ1_canEncode_fc78d 1 = .ok (.sipush 255, 3) := by decide +kernel
theorem dJ1_canEncode_fc78d_4 : decode cJ1_canEncode_fc78d 4 = .ok (.if_icmp .gt 7, 3) := by decide +kernel
theorem dJ1_canEncode_fc78d_7 : decode cJ1_canEncode_fc78d 7 = .ok (.iconst 1, 1) := by decide +kernel
theorem dJ1_canEncode_fc78d_8 : decode cJ1_canEncode_fc78d 8 = .ok (.goto 4, 3) := by decide +kernel
theorem dJ1_canEncode_fc78d_11 : decode cJ1_canEncode_fc78d 11 = .ok (.iconst 0, 1) := by decide +kernel
theorem dJ1_canEncode_fc78d_12 : decode cJ1_canEncode_fc78d 12 = .ok (.ireturn, 1) := by decide +kernel
theorem dJ1_fillNull_b72d1_0 : decode cJ1_fillNull_b72d1 0 = .ok (.aload_n 0, 1) := by decide +kernel
theorem dJ1_fillNull_b72d1_1 : decode cJ1_fillNull_b72d1 1 = .ok (.iload_n 1, 1) := by decide +kernel
theorem dJ1_fillNull_b72d1_2 : decode cJ1_fillNull_b72d1 2 = .ok (.iload_n 2, 1) := by decide +kernel
theorem dJ1_fillNull_b72d1_3 : decode cJ1_fillNull_b72d1 3 = .ok (.iconst 0, 1) := by decide +kernel
theorem dJ1_fillNull_b72d1_4 : decode cJ1_fillNull_b72d1 4 = .ok (.invokestatic 236, 3) := by decide +kernel
theorem dJ1_fillNull_b72d1_7 : decode cJ1_fillNull_b72d1 7 = .ok (.return_, 1) := by decide +kernel
theorem dJ1_inflate_0e8fd_0 : decode cJ1_inflate_0e8fd 0 = .ok (.aload_n 0, 1) := by decide +kernel
theorem dJ1_inflate_0e8fd_1 : decode cJ1_inflate_0e8fd 1 = .ok (.iload_n 1, 1) := by decide +kernel
theorem dJ1_inflate_0e8fd_2 : decode cJ1_inflate_0e8fd 2 = .ok (.aload_n 2, 1) := by decide +kernel
theorem dJ1_inflate_0e8fd_3 : decode cJ1_inflate_0e8fd 3 = .ok (.iload_n 3, 1) := by decide +kernel
theorem dJ1_inflate_0e8fd_4 : decode cJ1_inflate_0e8fd 4 = .ok (.iload 4, 2) := by decide +kernel
theorem dJ1_inflate_0e8fd_6 : decode cJ1_inflate_0e8fd 6 = .ok (.invokestatic 240, 3) := by decide +kernel
theorem dJ1_inflate_0e8fd_9 : decode cJ1_inflate_0e8fd 9 = .ok (.return_, 1) := by decide +kernel
theorem dJ2_newBytesFor_77867_0 : decode cJ2_newBytesFor_77867 0 = .ok (.iload_n 0, 1) := by decide +kernel
theorem dJ2_newBytesFor_77867_1 : decode cJ2_newBytesFor_77867 1 = .ok (.invokestatic 11, 3) := by decide +kernel
theorem dJ2_newBytesFor_77867_4 : decode cJ2_newBytesFor_77867 4 = .ok (.newarray .byte, 2) := by decide +kernel
theorem dJ2_newBytesFor_77867_6 : decode cJ2_newBytesFor_77867 6 = .ok (.areturn, 1) := by decide +kernel
theorem dJ2_newBytesLength_0f7a4_0 : decode cJ2_newBytesLength_0f7a4 0 = .ok (.iload_n 0, 1) := by decide +kernel
theorem dJ2_newBytesLength_0f7a4_1 : decode cJ2_newBytesLength_0f7a4 1 = .ok (.ifCond .ge 11, 3) := by decide +kernel
theorem dJ2_newBytesLength_0f7a4_4 : decode cJ2_newBytesLength_0f7a4 4 = .ok (.new 17, 3) := by decide +kernel
theorem dJ2_newBytesLength_0f7a4_7 : decode cJ2_newBytesLength_0f7a4 7 = .ok (.dup, 1) := by decide +kernel
theorem dJ2_newBytesLength_0f7a4_8 : decode cJ2_newBytesLength_0f7a4 8 = .ok (.invokespecial 19, 3) := by decide +kernel
theorem dJ2_newBytesLength_0f7a4_11 : decode cJ2_newBytesLength_0f7a4 11 = .ok (.athrow, 1) := by decide +kernel
theorem dJ2_newBytesLength_0f7a4_12 : decode cJ2_newBytesLength_0f7a4 12 = .ok (.iload_n 0, 1) := by decide +kernel
theorem dJ2_newBytesLength_0f7a4_13 : decode cJ2_newBytesLength_0f7a4 13 = .ok (.ldc 20, 2) := by decide +kernel
theorem dJ2_newBytesLength_0f7a4_15 : decode cJ2_newBytesLength_0f7a4 15 = .ok (.if_icmp .lt 40, 3) := by decide +kernel
theorem dJ2_newBytesLength_0f7a4_18 : decode cJ2_newBytesLength_0f7a4 18 = .ok (.new 21, 3) := by decide +kernel
theorem dJ2_newBytesLength_0f7a4_21 : decode cJ2_newBytesLength_0f7a4 21 = .ok (.dup, 1) := by decide +kernel
theorem dJ2_newBytesLength_0f7a4_22 : decode cJ2_newBytesLength_0f7a4 22 = .ok (.new 23, 3) := by decide +kernel
theorem dJ2_newBytesLength_0f7a4_25 : decode cJ2_newBytesLength_0f7a4 25 = .ok (.dup, 1) := by decide +kernel
theorem dJ2_newBytesLength_0f7a4_26 : decode cJ2_newBytesLength_0f7a4 26 = .ok (.invokespecial 25, 3) := by decide +kernel
theorem dJ2_newBytesLength_0f7a4_29 : decode cJ2_newBytesLength_0f7a4 29 = .ok (.ldc 26, 2) := by decide +kernel
theorem dJ2_newBytesLength_0f7a4_31 : decode cJ2_newBytesLength_0f7a4 31 = .ok (.invokevirtual 28, 3) := by decide +kernel
theorem dJ2_newBytesLength_0f7a4_34 : decode cJ2_newBytesLength_0f7a4 34 = .ok (.iload_n 0, 1) := by decide +kernel
theorem dJ2_newBytesLength_0f7a4_35 : decode cJ2_newBytesLength_0f7a4 35 = .ok (.invokevirtual 32, 3) := by decide +kernel
theorem dJ2_newBytesLength_0f7a4_38 : decode cJ2_newBytesLength_0f7a4 38 = .ok (.ldc 35, 2) := by decide +kernel
theorem dJ2_newBytesLength_0f7a4_40 : decode cJ2_newBytesLength_0f7a4 40 = .ok (.invokevirtual 28, 3) := by decide +kernel
theorem dJ2_newBytesLength_0f7a4_43 : decode cJ2_newBytesLength_0f7a4 43 = .ok (.ldc 20, 2) := by decide +kernel
theorem dJ2_newBytesLength_0f7a4_45 : decode cJ2_newBytesLength_0f7a4 45 = .ok (.invokevirtual 32, 3) := by decide +kernel
theorem dJ2_newBytesLength_0f7a4_48 : decode cJ2_newBytesLength_0f7a4 48 = .ok (.invokevirtual 37, 3) := by decide +kernel
theorem dJ2_newBytesLength_0f7a4_51 : decode cJ2_newBytesLength_0f7a4 51 = .ok (.invokespecial 41, 3) := by decide +kernel
theorem dJ2_newBytesLength_0f7a4_54 : decode cJ2_newBytesLength_0f7a4 54 = .ok (.athrow, 1) := by decide +kernel
theorem dJ2_newBytesLength_0f7a4_55 : decode cJ2_newBytesLength_0f7a4 55 = .ok (.iload_n 0, 1) := by decide +kernel
theorem dJ2_newBytesLength_0f7a4_56 : decode cJ2_newBytesLength_0f7a4 56 = .ok (.iconst 1, 1) := by decide +kernel
theorem dJ2_newBytesLength_0f7a4_57 : decode cJ2_newBytesLength_0f7a4 57 = .ok (.ishl, 1) := by decide +kernel
theorem dJ2_newBytesLength_0f7a4_58 : decode cJ2_newBytesLength_0f7a4 58 = .ok (.ireturn, 1) := by decide +kernel
theorem dJ2_putChar_b72d1_0 : decode cJ2_putChar_b72d1 0 = .ok (.getstatic 44, 3) := by decide +kernel
theorem dJ2_putChar_b72d1_3 : decode cJ2_putChar_b72d1 3 = .ok (.ifCond .ne 25, 3) := by decide +kernel
theorem dJ2_putChar_b72d1_6 : decode cJ2_putChar_b72d1 6 = .ok (.iload_n 1, 1) := by decide +kernel
theorem dJ2_putChar_b72d1_7 : decode cJ2_putChar_b72d1 7 = .ok (.ifCond .lt 11, 3) := by decide +kernel
theorem dJ2_putChar_b72d1_10 : decode cJ2_putChar_b72d1 10 = .ok (.iload_n 1, 1) := by decide +kernel
theorem dJ2_putChar_b72d1_11 : decode cJ2_putChar_b72d1 11 = .ok (.aload_n 0, 1) := by decide +kernel
theorem dJ2_putChar_b72d1_12 : decode cJ2_putChar_b72d1 12 = .ok (.invokestatic 48, 3) := by decide +kernel
theorem dJ2_putChar_b72d1_15 : decode cJ2_putChar_b72d1 15 = .ok (.if_icmp .lt 13, 3) := by decide +kernel
theorem dJ2_putChar_b72d1_18 : decode cJ2_putChar_b72d1 18 = .ok (.new 52, 3) := by decide +kernel
theorem dJ2_putChar_b72d1_21 : decode cJ2_putChar_b72d1 21 = .ok (.dup, 1) := by decide +kernel
theorem dJ2_putChar_b72d1_22 : decode cJ2_putChar_b72d1 22 = .ok (.ldc 54, 2) := by decide +kernel
theorem dJ2_putChar_b72d1_24 : decode cJ2_putChar_b72d1 24 = .ok (.invokespecial 56, 3) := by decide +kernel
theorem dJ2_putChar_b72d1_27 : decode cJ2_putChar_b72d1 27 = .ok (.athrow, 1) := by decide +kernel
theorem dJ2_putChar_b72d1_28 : decode cJ2_putChar_b72d1 28 = .ok (.iload_n 1, 1) := by decide +kernel
theorem dJ2_putChar_b72d1_29 : decode cJ2_putChar_b72d1 29 = .ok (.iconst 1, 1) := by decide +kernel
theorem dJ2_putChar_b72d1_30 : decode cJ2_putChar_b72d1 30 = .ok (.ishl, 1) := by decide +kernel
theorem dJ2_putChar_b72d1_31 : decode cJ2_putChar_b72d1 31 = .ok (.istore_n 1, 1) := by decide +kernel
theorem dJ2_putChar_b72d1_32 : decode cJ2_putChar_b72d1 32 = .ok (.aload_n 0, 1) := by decide +kernel
theorem dJ2_putChar_b72d1_33 : decode cJ2_putChar_b72d1 33 = .ok (.iload_n 1, 1) := by decide +kernel
theorem dJ2_putChar_b72d1_34 : decode cJ2_putChar_b72d1 34 = .ok (.iinc 1 1, 3) := by decide +kernel
theorem dJ2_putChar_b72d1_37 : decode cJ2_putChar_b72d1 37 = .ok (.iload_n 2, 1) := by decide +kernel
theorem dJ2_putChar_b72d1_38 : decode cJ2_putChar_b72d1 38 = .ok (.getstatic 59, 3) := by decide +kernel
theorem dJ2_putChar_b72d1_41 : decode cJ2_putChar_b72d1 41 = .ok (.ishr, 1) := by decide +kernel
theorem dJ2_putChar_b72d1_42 : decode cJ2_putChar_b72d1 42 = .ok (.i2b, 1) := by decide +kernel
theorem dJ2_putChar_b72d1_43 : decode cJ2_putChar_b72d1 43 = .ok (.bastore, 1) := by decide +kernel
theorem dJ2_putChar_b72d1_44 : decode cJ2_putChar_b72d1 44 = .ok (.aload_n 0, 1) := by decide +kernel
theorem dJ2_putChar_b72d1_45 : decode cJ2_putChar_b72d1 45 = .ok (.iload_n 1, 1) := by decide +kernel
theorem dJ2_putChar_b72d1_46 : decode cJ2_putChar_b72d1 46 = .ok (.iload_n 2, 1) := by decide +kernel
theorem dJ2_putChar_b72d1_47 : decode cJ2_putChar_b72d1 47 = .ok (.getstatic 63, 3) := by decide +kernel
theorem dJ2_putChar_b72d1_50 : decode cJ2_putChar_b72d1 50 = .ok (.ishr, 1) := by decide +kernel
theorem dJ2_putChar_b72d1_51 : decode cJ2_putChar_b72d1 51 = .ok (.i2b, 1) := by decide +kernel
theorem dJ2_putChar_b72d1_52 : decode cJ2_putChar_b72d1 52 = .ok (.bastore, 1) := by decide +kernel
theorem dJ2_putChar_b72d1_53 : decode cJ2_putChar_b72d1 53 = .ok (.return_, 1) := by decide +kernel
theorem dJ2_getChar_3b067_0 : decode cJ2_getChar_3b067 0 = .ok (.getstatic 44, 3) := by decide +kernel
theorem dJ2_getChar_3b067_3 : decode cJ2_getChar_3b067 3 = .ok (.ifCond .ne 25, 3) := by decide +kernel
theorem dJ2_getChar_3b067_6 : decode cJ2_getChar_3b067 6 = .ok (.iload_n 1, 1) := by decide +kernel
theorem dJ2_getChar_3b067_7 : decode cJ2_getChar_3b067 7 = .ok (.ifCond .lt 11, 3) := by decide +kernel
theorem dJ2_getChar_3b067_10 : decode cJ2_getChar_3b067 10 = .ok (.iload_n 1, 1) := by decide +kernel
theorem dJ2_getChar_3b067_11 : decode cJ2_getChar_3b067 11 = .ok (.aload_n 0, 1) := by decide +kernel
theorem dJ2_getChar_3b067_12 : decode cJ2_getChar_3b067 12 = .ok (.invokestatic 48, 3) := by decide +kernel
theorem dJ2_getChar_3b067_15 : decode cJ2_getChar_3b067 15 = .ok (.if_icmp .lt 13, 3) := by decide +kernel
theorem dJ2_getChar_3b067_18 : decode cJ2_getChar_3b067 18 = .ok (.new 52, 3) := by decide +kernel
theorem dJ2_getChar_3b067_21 : decode cJ2_getChar_3b067 21 = .ok (.dup, 1) := by decide +kernel
