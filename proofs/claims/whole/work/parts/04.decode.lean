
theorem dX0_seal_0 : decode cX0_seal 0 = .ok (.iload_n 0, 1) := by decide +kernel
theorem dX0_seal_1 : decode cX0_seal 1 = .ok (.istore_n 2, 1) := by decide +kernel
theorem dX0_seal_2 : decode cX0_seal 2 = .ok (.iconst 0, 1) := by decide +kernel
theorem dX0_seal_3 : decode cX0_seal 3 = .ok (.istore_n 3, 1) := by decide +kernel
theorem dX0_seal_4 : decode cX0_seal 4 = .ok (.iload_n 3, 1) := by decide +kernel
theorem dX0_seal_5 : decode cX0_seal 5 = .ok (.iconst 4, 1) := by decide +kernel
theorem dX0_seal_6 : decode cX0_seal 6 = .ok (.if_icmp .ge 33, 3) := by decide +kernel
theorem dX0_seal_9 : decode cX0_seal 9 = .ok (.iload_n 2, 1) := by decide +kernel
theorem dX0_seal_10 : decode cX0_seal 10 = .ok (.iload_n 1, 1) := by decide +kernel
theorem dX0_seal_11 : decode cX0_seal 11 = .ok (.iload_n 3, 1) := by decide +kernel
theorem dX0_seal_12 : decode cX0_seal 12 = .ok (.ldc 9, 2) := by decide +kernel
theorem dX0_seal_14 : decode cX0_seal 14 = .ok (.imul, 1) := by decide +kernel
theorem dX0_seal_15 : decode cX0_seal 15 = .ok (.iadd, 1) := by decide +kernel
theorem dX0_seal_16 : decode cX0_seal 16 = .ok (.ixor, 1) := by decide +kernel
theorem dX0_seal_17 : decode cX0_seal 17 = .ok (.istore_n 2, 1) := by decide +kernel
theorem dX0_seal_18 : decode cX0_seal 18 = .ok (.iload_n 2, 1) := by decide +kernel
theorem dX0_seal_19 : decode cX0_seal 19 = .ok (.iconst 5, 1) := by decide +kernel
theorem dX0_seal_20 : decode cX0_seal 20 = .ok (.ishl, 1) := by decide +kernel
theorem dX0_seal_21 : decode cX0_seal 21 = .ok (.iload_n 2, 1) := by decide +kernel
theorem dX0_seal_22 : decode cX0_seal 22 = .ok (.bipush 27, 2) := by decide +kernel
theorem dX0_seal_24 : decode cX0_seal 24 = .ok (.iushr, 1) := by decide +kernel
theorem dX0_seal_25 : decode cX0_seal 25 = .ok (.ior, 1) := by decide +kernel
theorem dX0_seal_26 : decode cX0_seal 26 = .ok (.istore_n 2, 1) := by decide +kernel
theorem dX0_seal_27 : decode cX0_seal 27 = .ok (.iconst 5, 1) := by decide +kernel
theorem dX0_seal_28 : decode cX0_seal 28 = .ok (.iload_n 2, 1) := by decide +kernel
theorem dX0_seal_29 : decode cX0_seal 29 = .ok (.imul, 1) := by decide +kernel
theorem dX0_seal_30 : decode cX0_seal 30 = .ok (.iconst 3, 1) := by decide +kernel
theorem dX0_seal_31 : decode cX0_seal 31 = .ok (.iadd, 1) := by decide +kernel
theorem dX0_seal_32 : decode cX0_seal 32 = .ok (.istore_n 2, 1) := by decide +kernel
theorem dX0_seal_33 : decode cX0_seal 33 = .ok (.iinc 3 1, 3) := by decide +kernel
theorem dX0_seal_36 : decode cX0_seal 36 = .ok (.goto (-32), 3) := by decide +kernel
theorem dX0_seal_39 : decode cX0_seal 39 = .ok (.iload_n 2, 1) := by decide +kernel
theorem dX0_seal_40 : decode cX0_seal 40 = .ok (.ireturn, 1) := by decide +kernel
theorem dX0_unseal_0 : decode cX0_unseal 0 = .ok (.iload_n 0, 1) := by decide +kernel
theorem dX0_unseal_1 : decode cX0_unseal 1 = .ok (.istore_n 2, 1) := by decide +kernel
theorem dX0_unseal_2 : decode cX0_unseal 2 = .ok (.iconst 3, 1) := by decide +kernel
theorem dX0_unseal_3 : decode cX0_unseal 3 = .ok (.istore_n 3, 1) := by decide +kernel
theorem dX0_unseal_4 : decode cX0_unseal 4 = .ok (.iload_n 3, 1) := by decide +kernel
theorem dX0_unseal_5 : decode cX0_unseal 5 = .ok (.ifCond .lt 34, 3) := by decide +kernel
theorem dX0_unseal_8 : decode cX0_unseal 8 = .ok (.iload_n 2, 1) := by decide +kernel
theorem dX0_unseal_9 : decode cX0_unseal 9 = .ok (.iconst 3, 1) := by decide +kernel
theorem dX0_unseal_10 : decode cX0_unseal 10 = .ok (.isub, 1) := by decide +kernel
theorem dX0_unseal_11 : decode cX0_unseal 11 = .ok (.ldc 10, 2) := by decide +kernel
theorem dX0_unseal_13 : decode cX0_unseal 13 = .ok (.imul, 1) := by decide +kernel
theorem dX0_unseal_14 : decode cX0_unseal 14 = .ok (.istore_n 2, 1) := by decide +kernel
theorem dX0_unseal_15 : decode cX0_unseal 15 = .ok (.iload_n 2, 1) := by decide +kernel
theorem dX0_unseal_16 : decode cX0_unseal 16 = .ok (.iconst 5, 1) := by decide +kernel
theorem dX0_unseal_17 : decode cX0_unseal 17 = .ok (.iushr, 1) := by decide +kernel
theorem dX0_unseal_18 : decode cX0_unseal 18 = .ok (.iload_n 2, 1) := by decide +kernel
theorem dX0_unseal_19 : decode cX0_unseal 19 = .ok (.bipush 27, 2) := by decide +kernel
theorem dX0_unseal_21 : decode cX0_unseal 21 = .ok (.ishl, 1) := by decide +kernel
theorem dX0_unseal_22 : decode cX0_unseal 22 = .ok (.ior, 1) := by decide +kernel
theorem dX0_unseal_23 : decode cX0_unseal 23 = .ok (.istore_n 2, 1) := by decide +kernel
theorem dX0_unseal_24 : decode cX0_unseal 24 = .ok (.iload_n 2, 1) := by decide +kernel
theorem dX0_unseal_25 : decode cX0_unseal 25 = .ok (.iload_n 1, 1) := by decide +kernel
theorem dX0_unseal_26 : decode cX0_unseal 26 = .ok (.iload_n 3, 1) := by decide +kernel
theorem dX0_unseal_27 : decode cX0_unseal 27 = .ok (.ldc 9, 2) := by decide +kernel
theorem dX0_unseal_29 : decode cX0_unseal 29 = .ok (.imul, 1) := by decide +kernel
theorem dX0_unseal_30 : decode cX0_unseal 30 = .ok (.iadd, 1) := by decide +kernel
theorem dX0_unseal_31 : decode cX0_unseal 31 = .ok (.ixor, 1) := by decide +kernel
theorem dX0_unseal_32 : decode cX0_unseal 32 = .ok (.istore_n 2, 1) := by decide +kernel
theorem dX0_unseal_33 : decode cX0_unseal 33 = .ok (.iinc 3 (-1), 3) := by decide +kernel
theorem dX0_unseal_36 : decode cX0_unseal 36 = .ok (.goto (-32), 3) := by decide +kernel
theorem dX0_unseal_39 : decode cX0_unseal 39 = .ok (.iload_n 2, 1) := by decide +kernel
theorem dX0_unseal_40 : decode cX0_unseal 40 = .ok (.ireturn, 1) := by decide +kernel
theorem dX0_mix_0 : decode cX0_mix 0 = .ok (.iload_n 0, 1) := by decide +kernel
theorem dX0_mix_1 : decode cX0_mix 1 = .ok (.iload_n 1, 1) := by decide +kernel
theorem dX0_mix_2 : decode cX0_mix 2 = .ok (.invokestatic 11, 3) := by decide +kernel
theorem dX0_mix_5 : decode cX0_mix 5 = .ok (.iload_n 0, 1) := by decide +kernel
theorem dX0_mix_6 : decode cX0_mix 6 = .ok (.ixor, 1) := by decide +kernel
theorem dX0_mix_7 : decode cX0_mix 7 = .ok (.ireturn, 1) := by decide +kernel
theorem dX1_init_0 : decode cX1_init 0 = .ok (.aload_n 0, 1) := by decide +kernel
theorem dX1_init_1 : decode cX1_init 1 = .ok (.invokespecial 3, 3) := by decide +kernel
theorem dX1_init_4 : decode cX1_init 4 = .ok (.aload_n 0, 1) := by decide +kernel
theorem dX1_init_5 : decode cX1_init 5 = .ok (.bipush 10, 2) := by decide +kernel
theorem dX1_init_7 : decode cX1_init 7 = .ok (.newarray .int, 2) := by decide +kernel
theorem dX1_init_9 : decode cX1_init 9 = .ok (.putfield 9, 3) := by decide +kernel
theorem dX1_init_12 : decode cX1_init 12 = .ok (.aload_n 0, 1) := by decide +kernel
theorem dX1_init_13 : decode cX1_init 13 = .ok (.bipush 10, 2) := by decide +kernel
theorem dX1_init_15 : decode cX1_init 15 = .ok (.newarray .int, 2) := by decide +kernel
theorem dX1_init_17 : decode cX1_init 17 = .ok (.putfield 15, 3) := by decide +kernel
theorem dX1_init_20 : decode cX1_init 20 = .ok (.aload_n 0, 1) := by decide +kernel
theorem dX1_init_21 : decode cX1_init 21 = .ok (.bipush 10, 2) := by decide +kernel
theorem dX1_init_23 : decode cX1_init 23 = .ok (.newarray .int, 2) := by decide +kernel
theorem dX1_init_25 : decode cX1_init 25 = .ok (.putfield 18, 3) := by decide +kernel
theorem dX1_init_28 : decode cX1_init 28 = .ok (.return_, 1) := by decide +kernel
theorem dX1_count_0 : decode cX1_count 0 = .ok (.aload_n 0, 1) := by decide +kernel
theorem dX1_count_1 : decode cX1_count 1 = .ok (.getfield 21, 3) := by decide +kernel
theorem dX1_count_4 : decode cX1_count 4 = .ok (.ireturn, 1) := by decide +kernel
theorem dX1_hasRoomFor_0 : decode cX1_hasRoomFor 0 = .ok (.aload_n 0, 1) := by decide +kernel
theorem dX1_hasRoomFor_1 : decode cX1_hasRoomFor 1 = .ok (.getfield 21, 3) := by decide +kernel
theorem dX1_hasRoomFor_4 : decode cX1_hasRoomFor 4 = .ok (.bipush 10, 2) := by decide +kernel
theorem dX1_hasRoomFor_6 : decode cX1_hasRoomFor 6 = .ok (.if_icmp .lt 11, 3) := by decide +kernel
theorem dX1_hasRoomFor_9 : decode cX1_hasRoomFor 9 = .ok (.aload_n 0, 1) := by decide +kernel
theorem dX1_hasRoomFor_10 : decode cX1_hasRoomFor 10 = .ok (.iload_n 1, 1) := by decide +kernel
theorem dX1_hasRoomFor_11 : decode cX1_hasRoomFor 11 = .ok (.invokevirtual 25, 3) := by decide +kernel
theorem dX1_hasRoomFor_14 : decode cX1_hasRoomFor 14 = .ok (.ifCond .lt 7, 3) := by decide +kernel
theorem dX1_hasRoomFor_17 : decode cX1_hasRoomFor 17 = .ok (.iconst 1, 1) := by decide +kernel
theorem dX1_hasRoomFor_18 : decode cX1_hasRoomFor 18 = .ok (.goto 4, 3) := by decide +kernel
theorem dX1_hasRoomFor_21 : decode cX1_hasRoomFor 21 = .ok (.iconst 0, 1) := by decide +kernel
theorem dX1_hasRoomFor_22 : decode cX1_hasRoomFor 22 = .ok (.ireturn, 1) := by decide +kernel
theorem dX1_keep_0 : decode cX1_keep 0 = .ok (.aload_n 0, 1) := by decide +kernel
theorem dX1_keep_1 : decode cX1_keep 1 = .ok (.aload_n 0, 1) := by decide +kernel
theorem dX1_keep_2 : decode cX1_keep 2 = .ok (.iload_n 1, 1) := by decide +kernel
theorem dX1_keep_3 : decode cX1_keep 3 = .ok (.invokevirtual 25, 3) := by decide +kernel
theorem dX1_keep_6 : decode cX1_keep 6 = .ok (.invokevirtual 29, 3) := by decide +kernel
theorem dX1_keep_9 : decode cX1_keep 9 = .ok (.aload_n 0, 1) := by decide +kernel
theorem dX1_keep_10 : decode cX1_keep 10 = .ok (.getfield 21, 3) := by decide +kernel
theorem dX1_keep_13 : decode cX1_keep 13 = .ok (.ifCond .lt 79, 3) := by decide +kernel
theorem dX1_keep_16 : decode cX1_keep 16 = .ok (.aload_n 0, 1) := by decide +kernel
theorem dX1_keep_17 : decode cX1_keep 17 = .ok (.getfield 21, 3) := by decide +kernel
theorem dX1_keep_20 : decode cX1_keep 20 = .ok (.aload_n 0, 1) := by decide +kernel
theorem dX1_keep_21 : decode cX1_keep 21 = .ok (.getfield 9, 3) := by decide +kernel
theorem dX1_keep_24 : decode cX1_keep 24 = .ok (.arraylength, 1) := by decide +kernel
theorem dX1_keep_25 : decode cX1_keep 25 = .ok (.if_icmp .ge 67, 3) := by decide +kernel
theorem dX1_keep_28 : decode cX1_keep 28 = .ok (.aload_n 0, 1) := by decide +kernel
theorem dX1_keep_29 : decode cX1_keep 29 = .ok (.getfield 21, 3) := by decide +kernel
theorem dX1_keep_32 : decode cX1_keep 32 = .ok (.aload_n 0, 1) := by decide +kernel
theorem dX1_keep_33 : decode cX1_keep 33 = .ok (.getfield 15, 3) := by decide +kernel
theorem dX1_keep_36 : decode cX1_keep 36 = .ok (.arraylength, 1) := by decide +kernel
theorem dX1_keep_37 : decode cX1_keep 37 = .ok (.if_icmp .ge 55, 3) := by decide +kernel
theorem dX1_keep_40 : decode cX1_keep 40 = .ok (.aload_n 0, 1) := by decide +kernel
theorem dX1_keep_41 : decode cX1_keep 41 = .ok (.getfield 21, 3) := by decide +kernel
theorem dX1_keep_44 : decode cX1_keep 44 = .ok (.aload_n 0, 1) := by decide +kernel
theorem dX1_keep_45 : decode cX1_keep 45 = .ok (.getfield 18, 3) := by decide +kernel
theorem dX1_keep_48 : decode cX1_keep 48 = .ok (.arraylength, 1) := by decide +kernel
theorem dX1_keep_49 : decode cX1_keep 49 = .ok (.if_icmp .ge 43, 3) := by decide +kernel
theorem dX1_keep_52 : decode cX1_keep 52 = .ok (.aload_n 0, 1) := by decide +kernel
theorem dX1_keep_53 : decode cX1_keep 53 = .ok (.getfield 9, 3) := by decide +kernel
theorem dX1_keep_56 : decode cX1_keep 56 = .ok (.aload_n 0, 1) := by decide +kernel
theorem dX1_keep_57 : decode cX1_keep 57 = .ok (.getfield 21, 3) := by decide +kernel
theorem dX1_keep_60 : decode cX1_keep 60 = .ok (.iload_n 1, 1) := by decide +kernel
theorem dX1_keep_61 : decode cX1_keep 61 = .ok (.iastore, 1) := by decide +kernel
theorem dX1_keep_62 : decode cX1_keep 62 = .ok (.aload_n 0, 1) := by decide +kernel
theorem dX1_keep_63 : decode cX1_keep 63 = .ok (.getfield 15, 3) := by decide +kernel
theorem dX1_keep_66 : decode cX1_keep 66 = .ok (.aload_n 0, 1) := by decide +kernel
theorem dX1_keep_67 : decode cX1_keep 67 = .ok (.getfield 21, 3) := by decide +kernel
theorem dX1_keep_70 : decode cX1_keep 70 = .ok (.iload_n 2, 1) := by decide +kernel
theorem dX1_keep_71 : decode cX1_keep 71 = .ok (.iastore, 1) := by decide +kernel
theorem dX1_keep_72 : decode cX1_keep 72 = .ok (.aload_n 0, 1) := by decide +kernel
theorem dX1_keep_73 : decode cX1_keep 73 = .ok (.getfield 18, 3) := by decide +kernel
theorem dX1_keep_76 : decode cX1_keep 76 = .ok (.aload_n 0, 1) := by decide +kernel
theorem dX1_keep_77 : decode cX1_keep 77 = .ok (.getfield 21, 3) := by decide +kernel
theorem dX1_keep_80 : decode cX1_keep 80 = .ok (.iload_n 3, 1) := by decide +kernel
theorem dX1_keep_81 : decode cX1_keep 81 = .ok (.iastore, 1) := by decide +kernel
theorem dX1_keep_82 : decode cX1_keep 82 = .ok (.aload_n 0, 1) := by decide +kernel
theorem dX1_keep_83 : decode cX1_keep 83 = .ok (.dup, 1) := by decide +kernel
theorem dX1_keep_84 : decode cX1_keep 84 = .ok (.getfield 21, 3) := by decide +kernel
theorem dX1_keep_87 : decode cX1_keep 87 = .ok (.iconst 1, 1) := by decide +kernel
theorem dX1_keep_88 : decode cX1_keep 88 = .ok (.iadd, 1) := by decide +kernel
theorem dX1_keep_89 : decode cX1_keep 89 = .ok (.putfield 21, 3) := by decide +kernel
theorem dX1_keep_92 : decode cX1_keep 92 = .ok (.return_, 1) := by decide +kernel
theorem dX1_placeAt_0 : decode cX1_placeAt 0 = .ok (.iload_n 1, 1) := by decide +kernel
theorem dX1_placeAt_1 : decode cX1_placeAt 1 = .ok (.ifCond .lt 21, 3) := by decide +kernel
theorem dX1_placeAt_4 : decode cX1_placeAt 4 = .ok (.iload_n 1, 1) := by decide +kernel
theorem dX1_placeAt_5 : decode cX1_placeAt 5 = .ok (.aload_n 0, 1) := by decide +kernel
theorem dX1_placeAt_6 : decode cX1_placeAt 6 = .ok (.getfield 9, 3) := by decide +kernel
theorem dX1_placeAt_9 : decode cX1_placeAt 9 = .ok (.arraylength, 1) := by decide +kernel
theorem dX1_placeAt_10 : decode cX1_placeAt 10 = .ok (.if_icmp .ge 12, 3) := by decide +kernel
theorem dX1_placeAt_13 : decode cX1_placeAt 13 = .ok (.aload_n 0, 1) := by decide +kernel
theorem dX1_placeAt_14 : decode cX1_placeAt 14 = .ok (.getfield 9, 3) := by decide +kernel
theorem dX1_placeAt_17 : decode cX1_placeAt 17 = .ok (.iload_n 1, 1) := by decide +kernel
theorem dX1_placeAt_18 : decode cX1_placeAt 18 = .ok (.iaload, 1) := by decide +kernel
theorem dX1_placeAt_19 : decode cX1_placeAt 19 = .ok (.goto 4, 3) := by decide +kernel
theorem dX1_placeAt_22 : decode cX1_placeAt 22 = .ok (.iconst 0, 1) := by decide +kernel
theorem dX1_placeAt_23 : decode cX1_placeAt 23 = .ok (.ireturn, 1) := by decide +kernel
theorem dX1_valueAt_0 : decode cX1_valueAt 0 = .ok (.iload_n 1, 1) := by decide +kernel
theorem dX1_valueAt_1 : decode cX1_valueAt 1 = .ok (.ifCond .lt 21, 3) := by decide +kernel
theorem dX1_valueAt_4 : decode cX1_valueAt 4 = .ok (.iload_n 1, 1) := by decide +kernel
theorem dX1_valueAt_5 : decode cX1_valueAt 5 = .ok (.aload_n 0, 1) := by decide +kernel
theorem dX1_valueAt_6 : decode cX1_valueAt 6 = .ok (.getfield 15, 3) := by decide +kernel
theorem dX1_valueAt_9 : decode cX1_valueAt 9 = .ok (.arraylength, 1) := by decide +kernel
theorem dX1_valueAt_10 : decode cX1_valueAt 10 = .ok (.if_icmp .ge 12, 3) := by decide +kernel
theorem dX1_valueAt_13 : decode cX1_valueAt 13 = .ok (.aload_n 0, 1) := by decide +kernel
theorem dX1_valueAt_14 : decode cX1_valueAt 14 = .ok (.getfield 15, 3) := by decide +kernel
theorem dX1_valueAt_17 : decode cX1_valueAt 17 = .ok (.iload_n 1, 1) := by decide +kernel
theorem dX1_valueAt_18 : decode cX1_valueAt 18 = .ok (.iaload, 1) := by decide +kernel
theorem dX1_valueAt_19 : decode cX1_valueAt 19 = .ok (.goto 4, 3) := by decide +kernel
theorem dX1_valueAt_22 : decode cX1_valueAt 22 = .ok (.iconst 0, 1) := by decide +kernel
theorem dX1_valueAt_23 : decode cX1_valueAt 23 = .ok (.ireturn, 1) := by decide +kernel
theorem dX1_writesAt_0 : decode cX1_writesAt 0 = .ok (.iload_n 1, 1) := by decide +kernel
theorem dX1_writesAt_1 : decode cX1_writesAt 1 = .ok (.ifCond .lt 21, 3) := by decide +kernel
theorem dX1_writesAt_4 : decode cX1_writesAt 4 = .ok (.iload_n 1, 1) := by decide +kernel
theorem dX1_writesAt_5 : decode cX1_writesAt 5 = .ok (.aload_n 0, 1) := by decide +kernel
theorem dX1_writesAt_6 : decode cX1_writesAt 6 = .ok (.getfield 18, 3) := by decide +kernel
theorem dX1_writesAt_9 : decode cX1_writesAt 9 = .ok (.arraylength, 1) := by decide +kernel
theorem dX1_writesAt_10 : decode cX1_writesAt 10 = .ok (.if_icmp .ge 12, 3) := by decide +kernel
theorem dX1_writesAt_13 : decode cX1_writesAt 13 = .ok (.aload_n 0, 1) := by decide +kernel
theorem dX1_writesAt_14 : decode cX1_writesAt 14 = .ok (.getfield 18, 3) := by decide +kernel
theorem dX1_writesAt_17 : decode cX1_writesAt 17 = .ok (.iload_n 1, 1) := by decide +kernel
theorem dX1_writesAt_18 : decode cX1_writesAt 18 = .ok (.iaload, 1) := by decide +kernel
theorem dX1_writesAt_19 : decode cX1_writesAt 19 = .ok (.goto 4, 3) := by decide +kernel
theorem dX1_writesAt_22 : decode cX1_writesAt 22 = .ok (.iconst 0, 1) := by decide +kernel
theorem dX1_writesAt_23 : decode cX1_writesAt 23 = .ok (.ireturn, 1) := by decide +kernel
theorem dX1_clear_0 : decode cX1_clear 0 = .ok (.aload_n 0, 1) := by decide +kernel
theorem dX1_clear_1 : decode cX1_clear 1 = .ok (.iconst 0, 1) := by decide +kernel
theorem dX1_clear_2 : decode cX1_clear 2 = .ok (.putfield 21, 3) := by decide +kernel
theorem dX1_clear_5 : decode cX1_clear 5 = .ok (.return_, 1) := by decide +kernel
theorem dX1_indexOf_0 : decode cX1_indexOf 0 = .ok (.iconst 0, 1) := by decide +kernel
theorem dX1_indexOf_1 : decode cX1_indexOf 1 = .ok (.istore_n 2, 1) := by decide +kernel
theorem dX1_indexOf_2 : decode cX1_indexOf 2 = .ok (.iload_n 2, 1) := by decide +kernel
theorem dX1_indexOf_3 : decode cX1_indexOf 3 = .ok (.aload_n 0, 1) := by decide +kernel
theorem dX1_indexOf_4 : decode cX1_indexOf 4 = .ok (.getfield 21, 3) := by decide +kernel
theorem dX1_indexOf_7 : decode cX1_indexOf 7 = .ok (.if_icmp .ge 30, 3) := by decide +kernel
theorem dX1_indexOf_10 : decode cX1_indexOf 10 = .ok (.iload_n 2, 1) := by decide +kernel
theorem dX1_indexOf_11 : decode cX1_indexOf 11 = .ok (.aload_n 0, 1) := by decide +kernel
theorem dX1_indexOf_12 : decode cX1_indexOf 12 = .ok (.getfield 9, 3) := by decide +kernel
theorem dX1_indexOf_15 : decode cX1_indexOf 15 = .ok (.arraylength, 1) := by decide +kernel
theorem dX1_indexOf_16 : decode cX1_indexOf 16 = .ok (.if_icmp .ge 21, 3) := by decide +kernel
theorem dX1_indexOf_19 : decode cX1_indexOf 19 = .ok (.aload_n 0, 1) := by decide +kernel
theorem dX1_indexOf_20 : decode cX1_indexOf 20 = .ok (.getfield 9, 3) := by decide +kernel
theorem dX1_indexOf_23 : decode cX1_indexOf 23 = .ok (.iload_n 2, 1) := by decide +kernel
theorem dX1_indexOf_24 : decode cX1_indexOf 24 = .ok (.iaload, 1) := by decide +kernel
theorem dX1_indexOf_25 : decode cX1_indexOf 25 = .ok (.iload_n 1, 1) := by decide +kernel
theorem dX1_indexOf_26 : decode cX1_indexOf 26 = .ok (.if_icmp .ne 5, 3) := by decide +kernel
theorem dX1_indexOf_29 : decode cX1_indexOf 29 = .ok (.iload_n 2, 1) := by decide +kernel
theorem dX1_indexOf_30 : decode cX1_indexOf 30 = .ok (.ireturn, 1) := by decide +kernel
theorem dX1_indexOf_31 : decode cX1_indexOf 31 = .ok (.iinc 2 1, 3) := by decide +kernel
theorem dX1_indexOf_34 : decode cX1_indexOf 34 = .ok (.goto (-32), 3) := by decide +kernel
theorem dX1_indexOf_37 : decode cX1_indexOf 37 = .ok (.iconst (-1), 1) := by decide +kernel
theorem dX1_indexOf_38 : decode cX1_indexOf 38 = .ok (.ireturn, 1) := by decide +kernel
theorem dX1_removeAt_0 : decode cX1_removeAt 0 = .ok (.iload_n 1, 1) := by decide +kernel
theorem dX1_removeAt_1 : decode cX1_removeAt 1 = .ok (.ifCond .lt 11, 3) := by decide +kernel
theorem dX1_removeAt_4 : decode cX1_removeAt 4 = .ok (.iload_n 1, 1) := by decide +kernel
theorem dX1_removeAt_5 : decode cX1_removeAt 5 = .ok (.aload_n 0, 1) := by decide +kernel
theorem dX1_removeAt_6 : decode cX1_removeAt 6 = .ok (.getfield 21, 3) := by decide +kernel
theorem dX1_removeAt_9 : decode cX1_removeAt 9 = .ok (.if_icmp .lt 4, 3) := by decide +kernel
theorem dX1_removeAt_12 : decode cX1_removeAt 12 = .ok (.return_, 1) := by decide +kernel
theorem dX1_removeAt_13 : decode cX1_removeAt 13 = .ok (.iload_n 1, 1) := by decide +kernel
theorem dX1_removeAt_14 : decode cX1_removeAt 14 = .ok (.istore_n 2, 1) := by decide +kernel
theorem dX1_removeAt_15 : decode cX1_removeAt 15 = .ok (.iload_n 2, 1) := by decide +kernel
theorem dX1_removeAt_16 : decode cX1_removeAt 16 = .ok (.iconst 1, 1) := by decide +kernel
theorem dX1_removeAt_17 : decode cX1_removeAt 17 = .ok (.iadd, 1) := by decide +kernel
theorem dX1_removeAt_18 : decode cX1_removeAt 18 = .ok (.aload_n 0, 1) := by decide +kernel
theorem dX1_removeAt_19 : decode cX1_removeAt 19 = .ok (.getfield 21, 3) := by decide +kernel
theorem dX1_removeAt_22 : decode cX1_removeAt 22 = .ok (.if_icmp .ge 14, 3) := by decide +kernel
theorem dX1_removeAt_25 : decode cX1_removeAt 25 = .ok (.aload_n 0, 1) := by decide +kernel
theorem dX1_removeAt_26 : decode cX1_removeAt 26 = .ok (.iload_n 2, 1) := by decide +kernel
theorem dX1_removeAt_27 : decode cX1_removeAt 27 = .ok (.invokevirtual 33, 3) := by decide +kernel
theorem dX1_removeAt_30 : decode cX1_removeAt 30 = .ok (.iinc 2 1, 3) := by decide +kernel
theorem dX1_removeAt_33 : decode cX1_removeAt 33 = .ok (.goto (-18), 3) := by decide +kernel
theorem dX1_removeAt_36 : decode cX1_removeAt 36 = .ok (.aload_n 0, 1) := by decide +kernel
theorem dX1_removeAt_37 : decode cX1_removeAt 37 = .ok (.dup, 1) := by decide +kernel
theorem dX1_removeAt_38 : decode cX1_removeAt 38 = .ok (.getfield 21, 3) := by decide +kernel
theorem dX1_removeAt_41 : decode cX1_removeAt 41 = .ok (.iconst 1, 1) := by decide +kernel
theorem dX1_removeAt_42 : decode cX1_removeAt 42 = .ok (.isub, 1) := by decide +kernel
theorem dX1_removeAt_43 : decode cX1_removeAt 43 = .ok (.putfield 21, 3) := by decide +kernel
theorem dX1_removeAt_46 : decode cX1_removeAt 46 = .ok (.return_, 1) := by decide +kernel
theorem dX1_takeNext_0 : decode cX1_takeNext 0 = .ok (.iload_n 1, 1) := by decide +kernel
theorem dX1_takeNext_1 : decode cX1_takeNext 1 = .ok (.ifCond .lt 78, 3) := by decide +kernel
theorem dX1_takeNext_4 : decode cX1_takeNext 4 = .ok (.iload_n 1, 1) := by decide +kernel
theorem dX1_takeNext_5 : decode cX1_takeNext 5 = .ok (.aload_n 0, 1) := by decide +kernel
theorem dX1_takeNext_6 : decode cX1_takeNext 6 = .ok (.getfield 9, 3) := by decide +kernel
theorem dX1_takeNext_9 : decode cX1_takeNext 9 = .ok (.arraylength, 1) := by decide +kernel
theorem dX1_takeNext_10 : decode cX1_takeNext 10 = .ok (.iconst 1, 1) := by decide +kernel
theorem dX1_takeNext_11 : decode cX1_takeNext 11 = .ok (.isub, 1) := by decide +kernel
theorem dX1_takeNext_12 : decode cX1_takeNext 12 = .ok (.if_icmp .ge 67, 3) := by decide +kernel
theorem dX1_takeNext_15 : decode cX1_takeNext 15 = .ok (.iload_n 1, 1) := by decide +kernel
theorem dX1_takeNext_16 : decode cX1_takeNext 16 = .ok (.aload_n 0, 1) := by decide +kernel
theorem dX1_takeNext_17 : decode cX1_takeNext 17 = .ok (.getfield 15, 3) := by decide +kernel
theorem dX1_takeNext_20 : decode cX1_takeNext 20 = .ok (.arraylength, 1) := by decide +kernel
theorem dX1_takeNext_21 : decode cX1_takeNext 21 = .ok (.iconst 1, 1) := by decide +kernel
theorem dX1_takeNext_22 : decode cX1_takeNext 22 = .ok (.isub, 1) := by decide +kernel
theorem dX1_takeNext_23 : decode cX1_takeNext 23 = .ok (.if_icmp .ge 56, 3) := by decide +kernel
theorem dX1_takeNext_26 : decode cX1_takeNext 26 = .ok (.iload_n 1, 1) := by decide +kernel
theorem dX1_takeNext_27 : decode cX1_takeNext 27 = .ok (.aload_n 0, 1) := by decide +kernel
theorem dX1_takeNext_28 : decode cX1_takeNext 28 = .ok (.getfield 18, 3) := by decide +kernel
theorem dX1_takeNext_31 : decode cX1_takeNext 31 = .ok (.arraylength, 1) := by decide +kernel
theorem dX1_takeNext_32 : decode cX1_takeNext 32 = .ok (.iconst 1, 1) := by decide +kernel
theorem dX1_takeNext_33 : decode cX1_takeNext 33 = .ok (.isub, 1) := by decide +kernel
theorem dX1_takeNext_34 : decode cX1_takeNext 34 = .ok (.if_icmp .ge 45, 3) := by decide +kernel
theorem dX1_takeNext_37 : decode cX1_takeNext 37 = .ok (.aload_n 0, 1) := by decide +kernel
theorem dX1_takeNext_38 : decode cX1_takeNext 38 = .ok (.getfield 9, 3) := by decide +kernel
theorem dX1_takeNext_41 : decode cX1_takeNext 41 = .ok (.iload_n 1, 1) := by decide +kernel
theorem dX1_takeNext_42 : decode cX1_takeNext 42 = .ok (.aload_n 0, 1) := by decide +kernel
theorem dX1_takeNext_43 : decode cX1_takeNext 43 = .ok (.getfield 9, 3) := by decide +kernel
theorem dX1_takeNext_46 : decode cX1_takeNext 46 = .ok (.iload_n 1, 1) := by decide +kernel
theorem dX1_takeNext_47 : decode cX1_takeNext 47 = .ok (.iconst 1, 1) := by decide +kernel
theorem dX1_takeNext_48 : decode cX1_takeNext 48 = .ok (.iadd, 1) := by decide +kernel
theorem dX1_takeNext_49 : decode cX1_takeNext 49 = .ok (.iaload, 1) := by decide +kernel
theorem dX1_takeNext_50 : decode cX1_takeNext 50 = .ok (.iastore, 1) := by decide +kernel
theorem dX1_takeNext_51 : decode cX1_takeNext 51 = .ok (.aload_n 0, 1) := by decide +kernel
theorem dX1_takeNext_52 : decode cX1_takeNext 52 = .ok (.getfield 15, 3) := by decide +kernel
theorem dX1_takeNext_55 : decode cX1_takeNext 55 = .ok (.iload_n 1, 1) := by decide +kernel
theorem dX1_takeNext_56 : decode cX1_takeNext 56 = .ok (.aload_n 0, 1) := by decide +kernel
theorem dX1_takeNext_57 : decode cX1_takeNext 57 = .ok (.getfield 15, 3) := by decide +kernel
theorem dX1_takeNext_60 : decode cX1_takeNext 60 = .ok (.iload_n 1, 1) := by decide +kernel
theorem dX1_takeNext_61 : decode cX1_takeNext 61 = .ok (.iconst 1, 1) := by decide +kernel
theorem dX1_takeNext_62 : decode cX1_takeNext 62 = .ok (.iadd, 1) := by decide +kernel
theorem dX1_takeNext_63 : decode cX1_takeNext 63 = .ok (.iaload, 1) := by decide +kernel
theorem dX1_takeNext_64 : decode cX1_takeNext 64 = .ok (.iastore, 1) := by decide +kernel
theorem dX1_takeNext_65 : decode cX1_takeNext 65 = .ok (.aload_n 0, 1) := by decide +kernel
theorem dX1_takeNext_66 : decode cX1_takeNext 66 = .ok (.getfield 18, 3) := by decide +kernel
theorem dX1_takeNext_69 : decode cX1_takeNext 69 = .ok (.iload_n 1, 1) := by decide +kernel
theorem dX1_takeNext_70 : decode cX1_takeNext 70 = .ok (.aload_n 0, 1) := by decide +kernel
theorem dX1_takeNext_71 : decode cX1_takeNext 71 = .ok (.getfield 18, 3) := by decide +kernel
theorem dX1_takeNext_74 : decode cX1_takeNext 74 = .ok (.iload_n 1, 1) := by decide +kernel
theorem dX1_takeNext_75 : decode cX1_takeNext 75 = .ok (.iconst 1, 1) := by decide +kernel
theorem dX1_takeNext_76 : decode cX1_takeNext 76 = .ok (.iadd, 1) := by decide +kernel
theorem dX1_takeNext_77 : decode cX1_takeNext 77 = .ok (.iaload, 1) := by decide +kernel
theorem dX1_takeNext_78 : decode cX1_takeNext 78 = .ok (.iastore, 1) := by decide +kernel
theorem dX1_takeNext_79 : decode cX1_takeNext 79 = .ok (.return_, 1) := by decide +kernel
theorem dX2_init_0 : decode cX2_init 0 = .ok (.aload_n 0, 1) := by decide +kernel
theorem dX2_init_1 : decode cX2_init 1 = .ok (.invokespecial 3, 3) := by decide +kernel
theorem dX2_init_4 : decode cX2_init 4 = .ok (.aload_n 0, 1) := by decide +kernel
theorem dX2_init_5 : decode cX2_init 5 = .ok (.sipush 517, 3) := by decide +kernel
theorem dX2_init_8 : decode cX2_init 8 = .ok (.newarray .int, 2) := by decide +kernel
theorem dX2_init_10 : decode cX2_init 10 = .ok (.putfield 11, 3) := by decide +kernel
theorem dX2_init_13 : decode cX2_init 13 = .ok (.aload_n 0, 1) := by decide +kernel
theorem dX2_init_14 : decode cX2_init 14 = .ok (.sipush 517, 3) := by decide +kernel
theorem dX2_init_17 : decode cX2_init 17 = .ok (.newarray .boolean, 2) := by decide +kernel
theorem dX2_init_19 : decode cX2_init 19 = .ok (.putfield 15, 3) := by decide +kernel
theorem dX2_init_22 : decode cX2_init 22 = .ok (.aload_n 0, 1) := by decide +kernel
theorem dX2_init_23 : decode cX2_init 23 = .ok (.bipush 30, 2) := by decide +kernel
theorem dX2_init_25 : decode cX2_init 25 = .ok (.newarray .int, 2) := by decide +kernel
theorem dX2_init_27 : decode cX2_init 27 = .ok (.putfield 19, 3) := by decide +kernel
theorem dX2_init_30 : decode cX2_init 30 = .ok (.return_, 1) := by decide +kernel
theorem dX2_isFull_0 : decode cX2_isFull 0 = .ok (.aload_n 0, 1) := by decide +kernel
theorem dX2_isFull_1 : decode cX2_isFull 1 = .ok (.getfield 22, 3) := by decide +kernel
theorem dX2_isFull_4 : decode cX2_isFull 4 = .ok (.sipush 517, 3) := by decide +kernel
theorem dX2_isFull_7 : decode cX2_isFull 7 = .ok (.if_icmp .lt 7, 3) := by decide +kernel
theorem dX2_isFull_10 : decode cX2_isFull 10 = .ok (.iconst 1, 1) := by decide +kernel
theorem dX2_isFull_11 : decode cX2_isFull 11 = .ok (.goto 4, 3) := by decide +kernel
theorem dX2_isFull_14 : decode cX2_isFull 14 = .ok (.iconst 0, 1) := by decide +kernel
theorem dX2_isFull_15 : decode cX2_isFull 15 = .ok (.ireturn, 1) := by decide +kernel
theorem dX2_moment_0 : decode cX2_moment 0 = .ok (.aload_n 0, 1) := by decide +kernel
theorem dX2_moment_1 : decode cX2_moment 1 = .ok (.getfield 22, 3) := by decide +kernel
theorem dX2_moment_4 : decode cX2_moment 4 = .ok (.ireturn, 1) := by decide +kernel
theorem dX2_noteJoined_0 : decode cX2_noteJoined 0 = .ok (.aload_n 0, 1) := by decide +kernel
theorem dX2_noteJoined_1 : decode cX2_noteJoined 1 = .ok (.iload_n 1, 1) := by decide +kernel
theorem dX2_noteJoined_2 : decode cX2_noteJoined 2 = .ok (.iload_n 2, 1) := by decide +kernel
theorem dX2_noteJoined_3 : decode cX2_noteJoined 3 = .ok (.iconst 1, 1) := by decide +kernel
theorem dX2_noteJoined_4 : decode cX2_noteJoined 4 = .ok (.invokevirtual 26, 3) := by decide +kernel
theorem dX2_noteJoined_7 : decode cX2_noteJoined 7 = .ok (.return_, 1) := by decide +kernel
theorem dX2_noteLeft_0 : decode cX2_noteLeft 0 = .ok (.aload_n 0, 1) := by decide +kernel
theorem dX2_noteLeft_1 : decode cX2_noteLeft 1 = .ok (.iload_n 1, 1) := by decide +kernel
theorem dX2_noteLeft_2 : decode cX2_noteLeft 2 = .ok (.iload_n 2, 1) := by decide +kernel
theorem dX2_noteLeft_3 : decode cX2_noteLeft 3 = .ok (.iconst 0, 1) := by decide +kernel
theorem dX2_noteLeft_4 : decode cX2_noteLeft 4 = .ok (.invokevirtual 26, 3) := by decide +kernel
theorem dX2_noteLeft_7 : decode cX2_noteLeft 7 = .ok (.return_, 1) := by decide +kernel
theorem dX2_replay_0 : decode cX2_replay 0 = .ok (.iconst 0, 1) := by decide +kernel
theorem dX2_replay_1 : decode cX2_replay 1 = .ok (.istore_n 1, 1) := by decide +kernel
theorem dX2_replay_2 : decode cX2_replay 2 = .ok (.iload_n 1, 1) := by decide +kernel
theorem dX2_replay_3 : decode cX2_replay 3 = .ok (.aload_n 0, 1) := by decide +kernel
theorem dX2_replay_4 : decode cX2_replay 4 = .ok (.getfield 19, 3) := by decide +kernel
theorem dX2_replay_7 : decode cX2_replay 7 = .ok (.arraylength, 1) := by decide +kernel
theorem dX2_replay_8 : decode cX2_replay 8 = .ok (.if_icmp .ge 16, 3) := by decide +kernel
theorem dX2_replay_11 : decode cX2_replay 11 = .ok (.aload_n 0, 1) := by decide +kernel
theorem dX2_replay_12 : decode cX2_replay 12 = .ok (.getfield 19, 3) := by decide +kernel
theorem dX2_replay_15 : decode cX2_replay 15 = .ok (.iload_n 1, 1) := by decide +kernel
theorem dX2_replay_16 : decode cX2_replay 16 = .ok (.iconst 0, 1) := by decide +kernel
theorem dX2_replay_17 : decode cX2_replay 17 = .ok (.iastore, 1) := by decide +kernel
theorem dX2_replay_18 : decode cX2_replay 18 = .ok (.iinc 1 1, 3) := by decide +kernel
theorem dX2_replay_21 : decode cX2_replay 21 = .ok (.goto (-19), 3) := by decide +kernel
theorem dX2_replay_24 : decode cX2_replay 24 = .ok (.iconst 0, 1) := by decide +kernel
theorem dX2_replay_25 : decode cX2_replay 25 = .ok (.istore_n 1, 1) := by decide +kernel
theorem dX2_replay_26 : decode cX2_replay 26 = .ok (.iload_n 1, 1) := by decide +kernel
theorem dX2_replay_27 : decode cX2_replay 27 = .ok (.aload_n 0, 1) := by decide +kernel
theorem dX2_replay_28 : decode cX2_replay 28 = .ok (.getfield 22, 3) := by decide +kernel
theorem dX2_replay_31 : decode cX2_replay 31 = .ok (.if_icmp .ge 70, 3) := by decide +kernel
theorem dX2_replay_34 : decode cX2_replay 34 = .ok (.iload_n 1, 1) := by decide +kernel
theorem dX2_replay_35 : decode cX2_replay 35 = .ok (.aload_n 0, 1) := by decide +kernel
theorem dX2_replay_36 : decode cX2_replay 36 = .ok (.getfield 11, 3) := by decide +kernel
theorem dX2_replay_39 : decode cX2_replay 39 = .ok (.arraylength, 1) := by decide +kernel
theorem dX2_replay_40 : decode cX2_replay 40 = .ok (.if_icmp .ge 61, 3) := by decide +kernel
theorem dX2_replay_43 : decode cX2_replay 43 = .ok (.iload_n 1, 1) := by decide +kernel
theorem dX2_replay_44 : decode cX2_replay 44 = .ok (.aload_n 0, 1) := by decide +kernel
theorem dX2_replay_45 : decode cX2_replay 45 = .ok (.getfield 15, 3) := by decide +kernel
theorem dX2_replay_48 : decode cX2_replay 48 = .ok (.arraylength, 1) := by decide +kernel
theorem dX2_replay_49 : decode cX2_replay 49 = .ok (.if_icmp .ge 52, 3) := by decide +kernel
theorem dX2_replay_52 : decode cX2_replay 52 = .ok (.aload_n 0, 1) := by decide +kernel
theorem dX2_replay_53 : decode cX2_replay 53 = .ok (.getfield 11, 3) := by decide +kernel
theorem dX2_replay_56 : decode cX2_replay 56 = .ok (.iload_n 1, 1) := by decide +kernel
theorem dX2_replay_57 : decode cX2_replay 57 = .ok (.iaload, 1) := by decide +kernel
theorem dX2_replay_58 : decode cX2_replay 58 = .ok (.istore_n 2, 1) := by decide +kernel
theorem dX2_replay_59 : decode cX2_replay 59 = .ok (.iload_n 2, 1) := by decide +kernel
theorem dX2_replay_60 : decode cX2_replay 60 = .ok (.ifCond .lt 35, 3) := by decide +kernel
theorem dX2_replay_63 : decode cX2_replay 63 = .ok (.iload_n 2, 1) := by decide +kernel
theorem dX2_replay_64 : decode cX2_replay 64 = .ok (.aload_n 0, 1) := by decide +kernel
theorem dX2_replay_65 : decode cX2_replay 65 = .ok (.getfield 19, 3) := by decide +kernel
theorem dX2_replay_68 : decode cX2_replay 68 = .ok (.arraylength, 1) := by decide +kernel
theorem dX2_replay_69 : decode cX2_replay 69 = .ok (.if_icmp .ge 26, 3) := by decide +kernel
theorem dX2_replay_72 : decode cX2_replay 72 = .ok (.aload_n 0, 1) := by decide +kernel
theorem dX2_replay_73 : decode cX2_replay 73 = .ok (.getfield 19, 3) := by decide +kernel
theorem dX2_replay_76 : decode cX2_replay 76 = .ok (.iload_n 2, 1) := by decide +kernel
theorem dX2_replay_77 : decode cX2_replay 77 = .ok (.aload_n 0, 1) := by decide +kernel
theorem dX2_replay_78 : decode cX2_replay 78 = .ok (.getfield 15, 3) := by decide +kernel
theorem dX2_replay_81 : decode cX2_replay 81 = .ok (.iload_n 1, 1) := by decide +kernel
theorem dX2_replay_82 : decode cX2_replay 82 = .ok (.baload, 1) := by decide +kernel
theorem dX2_replay_83 : decode cX2_replay 83 = .ok (.ifCond .eq 8, 3) := by decide +kernel
theorem dX2_replay_86 : decode cX2_replay 86 = .ok (.ldc 30, 2) := by decide +kernel
theorem dX2_replay_88 : decode cX2_replay 88 = .ok (.goto 6, 3) := by decide +kernel
theorem dX2_replay_91 : decode cX2_replay 91 = .ok (.iload_n 1, 1) := by decide +kernel
theorem dX2_replay_92 : decode cX2_replay 92 = .ok (.iconst 1, 1) := by decide +kernel
theorem dX2_replay_93 : decode cX2_replay 93 = .ok (.iadd, 1) := by decide +kernel
theorem dX2_replay_94 : decode cX2_replay 94 = .ok (.iastore, 1) := by decide +kernel
theorem dX2_replay_95 : decode cX2_replay 95 = .ok (.iinc 1 1, 3) := by decide +kernel
theorem dX2_replay_98 : decode cX2_replay 98 = .ok (.goto (-72), 3) := by decide +kernel
theorem dX2_replay_101 : decode cX2_replay 101 = .ok (.return_, 1) := by decide +kernel
theorem dX2_isShared_0 : decode cX2_isShared 0 = .ok (.iload_n 1, 1) := by decide +kernel
theorem dX2_isShared_1 : decode cX2_isShared 1 = .ok (.bipush 6, 2) := by decide +kernel
theorem dX2_isShared_3 : decode cX2_isShared 3 = .ok (.imul, 1) := by decide +kernel
theorem dX2_isShared_4 : decode cX2_isShared 4 = .ok (.iload_n 2, 1) := by decide +kernel
theorem dX2_isShared_5 : decode cX2_isShared 5 = .ok (.iadd, 1) := by decide +kernel
theorem dX2_isShared_6 : decode cX2_isShared 6 = .ok (.istore 4, 2) := by decide +kernel
theorem dX2_isShared_8 : decode cX2_isShared 8 = .ok (.iload 4, 2) := by decide +kernel
theorem dX2_isShared_10 : decode cX2_isShared 10 = .ok (.ifCond .lt 28, 3) := by decide +kernel
theorem dX2_isShared_13 : decode cX2_isShared 13 = .ok (.iload 4, 2) := by decide +kernel
theorem dX2_isShared_15 : decode cX2_isShared 15 = .ok (.aload_n 0, 1) := by decide +kernel
theorem dX2_isShared_16 : decode cX2_isShared 16 = .ok (.getfield 19, 3) := by decide +kernel
theorem dX2_isShared_19 : decode cX2_isShared 19 = .ok (.arraylength, 1) := by decide +kernel
theorem dX2_isShared_20 : decode cX2_isShared 20 = .ok (.if_icmp .ge 18, 3) := by decide +kernel
theorem dX2_isShared_23 : decode cX2_isShared 23 = .ok (.iload_n 3, 1) := by decide +kernel
theorem dX2_isShared_24 : decode cX2_isShared 24 = .ok (.aload_n 0, 1) := by decide +kernel
theorem dX2_isShared_25 : decode cX2_isShared 25 = .ok (.getfield 19, 3) := by decide +kernel
theorem dX2_isShared_28 : decode cX2_isShared 28 = .ok (.iload 4, 2) := by decide +kernel
theorem dX2_isShared_30 : decode cX2_isShared 30 = .ok (.iaload, 1) := by decide +kernel
theorem dX2_isShared_31 : decode cX2_isShared 31 = .ok (.if_icmp .ge 7, 3) := by decide +kernel
theorem dX2_isShared_34 : decode cX2_isShared 34 = .ok (.iconst 1, 1) := by decide +kernel
theorem dX2_isShared_35 : decode cX2_isShared 35 = .ok (.goto 4, 3) := by decide +kernel
theorem dX2_isShared_38 : decode cX2_isShared 38 = .ok (.iconst 0, 1) := by decide +kernel
theorem dX2_isShared_39 : decode cX2_isShared 39 = .ok (.ireturn, 1) := by decide +kernel
theorem dX2_note_0 : decode cX2_note 0 = .ok (.aload_n 0, 1) := by decide +kernel
theorem dX2_note_1 : decode cX2_note 1 = .ok (.getfield 22, 3) := by decide +kernel
theorem dX2_note_4 : decode cX2_note 4 = .ok (.ifCond .lt 62, 3) := by decide +kernel
theorem dX2_note_7 : decode cX2_note 7 = .ok (.aload_n 0, 1) := by decide +kernel
theorem dX2_note_8 : decode cX2_note 8 = .ok (.getfield 22, 3) := by decide +kernel
theorem dX2_note_11 : decode cX2_note 11 = .ok (.aload_n 0, 1) := by decide +kernel
theorem dX2_note_12 : decode cX2_note 12 = .ok (.getfield 11, 3) := by decide +kernel
theorem dX2_note_15 : decode cX2_note 15 = .ok (.arraylength, 1) := by decide +kernel
theorem dX2_note_16 : decode cX2_note 16 = .ok (.if_icmp .ge 50, 3) := by decide +kernel
theorem dX2_note_19 : decode cX2_note 19 = .ok (.aload_n 0, 1) := by decide +kernel
theorem dX2_note_20 : decode cX2_note 20 = .ok (.getfield 22, 3) := by decide +kernel
theorem dX2_note_23 : decode cX2_note 23 = .ok (.aload_n 0, 1) := by decide +kernel
theorem dX2_note_24 : decode cX2_note 24 = .ok (.getfield 15, 3) := by decide +kernel
theorem dX2_note_27 : decode cX2_note 27 = .ok (.arraylength, 1) := by decide +kernel
theorem dX2_note_28 : decode cX2_note 28 = .ok (.if_icmp .ge 38, 3) := by decide +kernel
theorem dX2_note_31 : decode cX2_note 31 = .ok (.aload_n 0, 1) := by decide +kernel
theorem dX2_note_32 : decode cX2_note 32 = .ok (.getfield 11, 3) := by decide +kernel
theorem dX2_note_35 : decode cX2_note 35 = .ok (.aload_n 0, 1) := by decide +kernel
theorem dX2_note_36 : decode cX2_note 36 = .ok (.getfield 22, 3) := by decide +kernel
theorem dX2_note_39 : decode cX2_note 39 = .ok (.iload_n 1, 1) := by decide +kernel
theorem dX2_note_40 : decode cX2_note 40 = .ok (.bipush 6, 2) := by decide +kernel
theorem dX2_note_42 : decode cX2_note 42 = .ok (.imul, 1) := by decide +kernel
theorem dX2_note_43 : decode cX2_note 43 = .ok (.iload_n 2, 1) := by decide +kernel
theorem dX2_note_44 : decode cX2_note 44 = .ok (.iadd, 1) := by decide +kernel
theorem dX2_note_45 : decode cX2_note 45 = .ok (.iastore, 1) := by decide +kernel
theorem dX2_note_46 : decode cX2_note 46 = .ok (.aload_n 0, 1) := by decide +kernel
theorem dX2_note_47 : decode cX2_note 47 = .ok (.getfield 15, 3) := by decide +kernel
theorem dX2_note_50 : decode cX2_note 50 = .ok (.aload_n 0, 1) := by decide +kernel
theorem dX2_note_51 : decode cX2_note 51 = .ok (.getfield 22, 3) := by decide +kernel
theorem dX2_note_54 : decode cX2_note 54 = .ok (.iload_n 3, 1) := by decide +kernel
theorem dX2_note_55 : decode cX2_note 55 = .ok (.bastore, 1) := by decide +kernel
theorem dX2_note_56 : decode cX2_note 56 = .ok (.aload_n 0, 1) := by decide +kernel
theorem dX2_note_57 : decode cX2_note 57 = .ok (.dup, 1) := by decide +kernel
theorem dX2_note_58 : decode cX2_note 58 = .ok (.getfield 22, 3) := by decide +kernel
theorem dX2_note_61 : decode cX2_note 61 = .ok (.iconst 1, 1) := by decide +kernel
theorem dX2_note_62 : decode cX2_note 62 = .ok (.iadd, 1) := by decide +kernel
theorem dX2_note_63 : decode cX2_note 63 = .ok (.putfield 22, 3) := by decide +kernel
theorem dX2_note_66 : decode cX2_note 66 = .ok (.return_, 1) := by decide +kernel
theorem dX3_init_0 : decode cX3_init 0 = .ok (.aload_n 0, 1) := by decide +kernel
theorem dX3_init_1 : decode cX3_init 1 = .ok (.invokespecial 3, 3) := by decide +kernel
theorem dX3_init_4 : decode cX3_init 4 = .ok (.aload_n 0, 1) := by decide +kernel
theorem dX3_init_5 : decode cX3_init 5 = .ok (.bipush 6, 2) := by decide +kernel
theorem dX3_init_7 : decode cX3_init 7 = .ok (.newarray .boolean, 2) := by decide +kernel
theorem dX3_init_9 : decode cX3_init 9 = .ok (.putfield 9, 3) := by decide +kernel
theorem dX3_init_12 : decode cX3_init 12 = .ok (.aload_n 0, 1) := by decide +kernel
theorem dX3_init_13 : decode cX3_init 13 = .ok (.bipush 6, 2) := by decide +kernel
theorem dX3_init_15 : decode cX3_init 15 = .ok (.newarray .int, 2) := by decide +kernel
theorem dX3_init_17 : decode cX3_init 17 = .ok (.putfield 15, 3) := by decide +kernel
theorem dX3_init_20 : decode cX3_init 20 = .ok (.aload_n 0, 1) := by decide +kernel
theorem dX3_init_21 : decode cX3_init 21 = .ok (.iload_n 1, 1) := by decide +kernel
theorem dX3_init_22 : decode cX3_init 22 = .ok (.putfield 19, 3) := by decide +kernel
theorem dX3_init_25 : decode cX3_init 25 = .ok (.aload_n 0, 1) := by decide +kernel
theorem dX3_init_26 : decode cX3_init 26 = .ok (.iload_n 2, 1) := by decide +kernel
theorem dX3_init_27 : decode cX3_init 27 = .ok (.putfield 23, 3) := by decide +kernel
theorem dX3_init_30 : decode cX3_init 30 = .ok (.aload_n 0, 1) := by decide +kernel
theorem dX3_init_31 : decode cX3_init 31 = .ok (.iload_n 3, 1) := by decide +kernel
theorem dX3_init_32 : decode cX3_init 32 = .ok (.putfield 26, 3) := by decide +kernel
theorem dX3_init_35 : decode cX3_init 35 = .ok (.aload_n 0, 1) := by decide +kernel
theorem dX3_init_36 : decode cX3_init 36 = .ok (.iconst 2, 1) := by decide +kernel
theorem dX3_init_37 : decode cX3_init 37 = .ok (.iload_n 1, 1) := by decide +kernel
theorem dX3_init_38 : decode cX3_init 38 = .ok (.invokestatic 29, 3) := by decide +kernel
theorem dX3_init_41 : decode cX3_init 41 = .ok (.putfield 35, 3) := by decide +kernel
theorem dX3_init_44 : decode cX3_init 44 = .ok (.return_, 1) := by decide +kernel
theorem dX3_hasMember_0 : decode cX3_hasMember 0 = .ok (.iload_n 1, 1) := by decide +kernel
theorem dX3_hasMember_1 : decode cX3_hasMember 1 = .ok (.ifCond .lt 25, 3) := by decide +kernel
theorem dX3_hasMember_4 : decode cX3_hasMember 4 = .ok (.iload_n 1, 1) := by decide +kernel
theorem dX3_hasMember_5 : decode cX3_hasMember 5 = .ok (.aload_n 0, 1) := by decide +kernel
theorem dX3_hasMember_6 : decode cX3_hasMember 6 = .ok (.getfield 9, 3) := by decide +kernel
theorem dX3_hasMember_9 : decode cX3_hasMember 9 = .ok (.arraylength, 1) := by decide +kernel
theorem dX3_hasMember_10 : decode cX3_hasMember 10 = .ok (.if_icmp .ge 16, 3) := by decide +kernel
theorem dX3_hasMember_13 : decode cX3_hasMember 13 = .ok (.aload_n 0, 1) := by decide +kernel
theorem dX3_hasMember_14 : decode cX3_hasMember 14 = .ok (.getfield 9, 3) := by decide +kernel
theorem dX3_hasMember_17 : decode cX3_hasMember 17 = .ok (.iload_n 1, 1) := by decide +kernel
theorem dX3_hasMember_18 : decode cX3_hasMember 18 = .ok (.baload, 1) := by decide +kernel
theorem dX3_hasMember_19 : decode cX3_hasMember 19 = .ok (.ifCond .eq 7, 3) := by decide +kernel
theorem dX3_hasMember_22 : decode cX3_hasMember 22 = .ok (.iconst 1, 1) := by decide +kernel
theorem dX3_hasMember_23 : decode cX3_hasMember 23 = .ok (.goto 4, 3) := by decide +kernel
theorem dX3_hasMember_26 : decode cX3_hasMember 26 = .ok (.iconst 0, 1) := by decide +kernel
theorem dX3_hasMember_27 : decode cX3_hasMember 27 = .ok (.ireturn, 1) := by decide +kernel
theorem dX3_takeIn_0 : decode cX3_takeIn 0 = .ok (.iload_n 1, 1) := by decide +kernel
theorem dX3_takeIn_1 : decode cX3_takeIn 1 = .ok (.ifCond .lt 29, 3) := by decide +kernel
theorem dX3_takeIn_4 : decode cX3_takeIn 4 = .ok (.iload_n 1, 1) := by decide +kernel
theorem dX3_takeIn_5 : decode cX3_takeIn 5 = .ok (.aload_n 0, 1) := by decide +kernel
theorem dX3_takeIn_6 : decode cX3_takeIn 6 = .ok (.getfield 9, 3) := by decide +kernel
theorem dX3_takeIn_9 : decode cX3_takeIn 9 = .ok (.arraylength, 1) := by decide +kernel
theorem dX3_takeIn_10 : decode cX3_takeIn 10 = .ok (.if_icmp .ge 20, 3) := by decide +kernel
theorem dX3_takeIn_13 : decode cX3_takeIn 13 = .ok (.aload_n 0, 1) := by decide +kernel
theorem dX3_takeIn_14 : decode cX3_takeIn 14 = .ok (.getfield 9, 3) := by decide +kernel
theorem dX3_takeIn_17 : decode cX3_takeIn 17 = .ok (.iload_n 1, 1) := by decide +kernel
theorem dX3_takeIn_18 : decode cX3_takeIn 18 = .ok (.iconst 1, 1) := by decide +kernel
theorem dX3_takeIn_19 : decode cX3_takeIn 19 = .ok (.bastore, 1) := by decide +kernel
theorem dX3_takeIn_20 : decode cX3_takeIn 20 = .ok (.aload_n 0, 1) := by decide +kernel
theorem dX3_takeIn_21 : decode cX3_takeIn 21 = .ok (.dup, 1) := by decide +kernel
theorem dX3_takeIn_22 : decode cX3_takeIn 22 = .ok (.getfield 38, 3) := by decide +kernel
theorem dX3_takeIn_25 : decode cX3_takeIn 25 = .ok (.iconst 1, 1) := by decide +kernel
theorem dX3_takeIn_26 : decode cX3_takeIn 26 = .ok (.iadd, 1) := by decide +kernel
theorem dX3_takeIn_27 : decode cX3_takeIn 27 = .ok (.putfield 38, 3) := by decide +kernel
theorem dX3_takeIn_30 : decode cX3_takeIn 30 = .ok (.return_, 1) := by decide +kernel
theorem dX3_letGo_0 : decode cX3_letGo 0 = .ok (.iload_n 1, 1) := by decide +kernel
theorem dX3_letGo_1 : decode cX3_letGo 1 = .ok (.ifCond .lt 60, 3) := by decide +kernel
theorem dX3_letGo_4 : decode cX3_letGo 4 = .ok (.iload_n 1, 1) := by decide +kernel
theorem dX3_letGo_5 : decode cX3_letGo 5 = .ok (.aload_n 0, 1) := by decide +kernel
theorem dX3_letGo_6 : decode cX3_letGo 6 = .ok (.getfield 9, 3) := by decide +kernel
theorem dX3_letGo_9 : decode cX3_letGo 9 = .ok (.arraylength, 1) := by decide +kernel
theorem dX3_letGo_10 : decode cX3_letGo 10 = .ok (.if_icmp .ge 51, 3) := by decide +kernel
theorem dX3_letGo_13 : decode cX3_letGo 13 = .ok (.iload_n 1, 1) := by decide +kernel
theorem dX3_letGo_14 : decode cX3_letGo 14 = .ok (.aload_n 0, 1) := by decide +kernel
theorem dX3_letGo_15 : decode cX3_letGo 15 = .ok (.getfield 15, 3) := by decide +kernel
theorem dX3_letGo_18 : decode cX3_letGo 18 = .ok (.arraylength, 1) := by decide +kernel
theorem dX3_letGo_19 : decode cX3_letGo 19 = .ok (.if_icmp .ge 42, 3) := by decide +kernel
theorem dX3_letGo_22 : decode cX3_letGo 22 = .ok (.aload_n 0, 1) := by decide +kernel
theorem dX3_letGo_23 : decode cX3_letGo 23 = .ok (.getfield 9, 3) := by decide +kernel
theorem dX3_letGo_26 : decode cX3_letGo 26 = .ok (.iload_n 1, 1) := by decide +kernel
theorem dX3_letGo_27 : decode cX3_letGo 27 = .ok (.iconst 0, 1) := by decide +kernel
theorem dX3_letGo_28 : decode cX3_letGo 28 = .ok (.bastore, 1) := by decide +kernel
theorem dX3_letGo_29 : decode cX3_letGo 29 = .ok (.aload_n 0, 1) := by decide +kernel
theorem dX3_letGo_30 : decode cX3_letGo 30 = .ok (.dup, 1) := by decide +kernel
theorem dX3_letGo_31 : decode cX3_letGo 31 = .ok (.getfield 38, 3) := by decide +kernel
theorem dX3_letGo_34 : decode cX3_letGo 34 = .ok (.iconst 1, 1) := by decide +kernel
theorem dX3_letGo_35 : decode cX3_letGo 35 = .ok (.isub, 1) := by decide +kernel
theorem dX3_letGo_36 : decode cX3_letGo 36 = .ok (.putfield 38, 3) := by decide +kernel
theorem dX3_letGo_39 : decode cX3_letGo 39 = .ok (.aload_n 0, 1) := by decide +kernel
theorem dX3_letGo_40 : decode cX3_letGo 40 = .ok (.getfield 15, 3) := by decide +kernel
theorem dX3_letGo_43 : decode cX3_letGo 43 = .ok (.iload_n 1, 1) := by decide +kernel
theorem dX3_letGo_44 : decode cX3_letGo 44 = .ok (.aload_n 0, 1) := by decide +kernel
theorem dX3_letGo_45 : decode cX3_letGo 45 = .ok (.getfield 41, 3) := by decide +kernel
theorem dX3_letGo_48 : decode cX3_letGo 48 = .ok (.iconst 1, 1) := by decide +kernel
theorem dX3_letGo_49 : decode cX3_letGo 49 = .ok (.iadd, 1) := by decide +kernel
theorem dX3_letGo_50 : decode cX3_letGo 50 = .ok (.iastore, 1) := by decide +kernel
theorem dX3_letGo_51 : decode cX3_letGo 51 = .ok (.aload_n 0, 1) := by decide +kernel
theorem dX3_letGo_52 : decode cX3_letGo 52 = .ok (.dup, 1) := by decide +kernel
theorem dX3_letGo_53 : decode cX3_letGo 53 = .ok (.getfield 41, 3) := by decide +kernel
theorem dX3_letGo_56 : decode cX3_letGo 56 = .ok (.iconst 1, 1) := by decide +kernel
theorem dX3_letGo_57 : decode cX3_letGo 57 = .ok (.iadd, 1) := by decide +kernel
theorem dX3_letGo_58 : decode cX3_letGo 58 = .ok (.putfield 41, 3) := by decide +kernel
theorem dX3_letGo_61 : decode cX3_letGo 61 = .ok (.return_, 1) := by decide +kernel
theorem dX3_latestKnownTo_0 : decode cX3_latestKnownTo 0 = .ok (.aload_n 0, 1) := by decide +kernel
theorem dX3_latestKnownTo_1 : decode cX3_latestKnownTo 1 = .ok (.iload_n 1, 1) := by decide +kernel
theorem dX3_latestKnownTo_2 : decode cX3_latestKnownTo 2 = .ok (.invokevirtual 44, 3) := by decide +kernel
theorem dX3_latestKnownTo_5 : decode cX3_latestKnownTo 5 = .ok (.ifCond .eq 8, 3) := by decide +kernel
theorem dX3_latestKnownTo_8 : decode cX3_latestKnownTo 8 = .ok (.aload_n 0, 1) := by decide +kernel
theorem dX3_latestKnownTo_9 : decode cX3_latestKnownTo 9 = .ok (.getfield 41, 3) := by decide +kernel
theorem dX3_latestKnownTo_12 : decode cX3_latestKnownTo 12 = .ok (.ireturn, 1) := by decide +kernel
theorem dX3_latestKnownTo_13 : decode cX3_latestKnownTo 13 = .ok (.iload_n 1, 1) := by decide +kernel
theorem dX3_latestKnownTo_14 : decode cX3_latestKnownTo 14 = .ok (.ifCond .lt 23, 3) := by decide +kernel
theorem dX3_latestKnownTo_17 : decode cX3_latestKnownTo 17 = .ok (.iload_n 1, 1) := by decide +kernel
theorem dX3_latestKnownTo_18 : decode cX3_latestKnownTo 18 = .ok (.aload_n 0, 1) := by decide +kernel
theorem dX3_latestKnownTo_19 : decode cX3_latestKnownTo 19 = .ok (.getfield 15, 3) := by decide +kernel
theorem dX3_latestKnownTo_22 : decode cX3_latestKnownTo 22 = .ok (.arraylength, 1) := by decide +kernel
theorem dX3_latestKnownTo_23 : decode cX3_latestKnownTo 23 = .ok (.if_icmp .ge 14, 3) := by decide +kernel
theorem dX3_latestKnownTo_26 : decode cX3_latestKnownTo 26 = .ok (.aload_n 0, 1) := by decide +kernel
theorem dX3_latestKnownTo_27 : decode cX3_latestKnownTo 27 = .ok (.getfield 15, 3) := by decide +kernel
theorem dX3_latestKnownTo_30 : decode cX3_latestKnownTo 30 = .ok (.iload_n 1, 1) := by decide +kernel
theorem dX3_latestKnownTo_31 : decode cX3_latestKnownTo 31 = .ok (.iaload, 1) := by decide +kernel
theorem dX3_latestKnownTo_32 : decode cX3_latestKnownTo 32 = .ok (.iconst 1, 1) := by decide +kernel
theorem dX3_latestKnownTo_33 : decode cX3_latestKnownTo 33 = .ok (.isub, 1) := by decide +kernel
theorem dX3_latestKnownTo_34 : decode cX3_latestKnownTo 34 = .ok (.goto 4, 3) := by decide +kernel
theorem dX3_latestKnownTo_37 : decode cX3_latestKnownTo 37 = .ok (.iconst (-1), 1) := by decide +kernel
theorem dX3_latestKnownTo_38 : decode cX3_latestKnownTo 38 = .ok (.ireturn, 1) := by decide +kernel
theorem dX3_tokenOf_0 : decode cX3_tokenOf 0 = .ok (.aload_n 0, 1) := by decide +kernel
theorem dX3_tokenOf_1 : decode cX3_tokenOf 1 = .ok (.getfield 35, 3) := by decide +kernel
theorem dX3_tokenOf_4 : decode cX3_tokenOf 4 = .ok (.iload_n 1, 1) := by decide +kernel
theorem dX3_tokenOf_5 : decode cX3_tokenOf 5 = .ok (.invokestatic 29, 3) := by decide +kernel
theorem dX3_tokenOf_8 : decode cX3_tokenOf 8 = .ok (.iload_n 2, 1) := by decide +kernel
theorem dX3_tokenOf_9 : decode cX3_tokenOf 9 = .ok (.invokestatic 29, 3) := by decide +kernel
theorem dX3_tokenOf_12 : decode cX3_tokenOf 12 = .ok (.ireturn, 1) := by decide +kernel
theorem dX4_init_0 : decode cX4_init 0 = .ok (.aload_n 0, 1) := by decide +kernel
theorem dX4_init_1 : decode cX4_init 1 = .ok (.invokespecial 3, 3) := by decide +kernel
theorem dX4_init_4 : decode cX4_init 4 = .ok (.aload_n 0, 1) := by decide +kernel
theorem dX4_init_5 : decode cX4_init 5 = .ok (.bipush 8, 2) := by decide +kernel
theorem dX4_init_7 : decode cX4_init 7 = .ok (.anewarray 9, 3) := by decide +kernel
theorem dX4_init_10 : decode cX4_init 10 = .ok (.putfield 11, 3) := by decide +kernel
theorem dX4_init_13 : decode cX4_init 13 = .ok (.aload_n 0, 1) := by decide +kernel
theorem dX4_init_14 : decode cX4_init 14 = .ok (.iload_n 1, 1) := by decide +kernel
theorem dX4_init_15 : decode cX4_init 15 = .ok (.putfield 17, 3) := by decide +kernel
theorem dX4_init_18 : decode cX4_init 18 = .ok (.aload_n 0, 1) := by decide +kernel
theorem dX4_init_19 : decode cX4_init 19 = .ok (.aload_n 2, 1) := by decide +kernel
theorem dX4_init_20 : decode cX4_init 20 = .ok (.putfield 21, 3) := by decide +kernel
theorem dX4_init_23 : decode cX4_init 23 = .ok (.aload_n 0, 1) := by decide +kernel
theorem dX4_init_24 : decode cX4_init 24 = .ok (.aload_n 2, 1) := by decide +kernel
theorem dX4_init_25 : decode cX4_init 25 = .ok (.getfield 25, 3) := by decide +kernel
theorem dX4_init_28 : decode cX4_init 28 = .ok (.putfield 30, 3) := by decide +kernel
theorem dX4_init_31 : decode cX4_init 31 = .ok (.aload_n 0, 1) := by decide +kernel
theorem dX4_init_32 : decode cX4_init 32 = .ok (.bipush 6, 2) := by decide +kernel
theorem dX4_init_34 : decode cX4_init 34 = .ok (.iload_n 1, 1) := by decide +kernel
theorem dX4_init_35 : decode cX4_init 35 = .ok (.invokestatic 31, 3) := by decide +kernel
theorem dX4_init_38 : decode cX4_init 38 = .ok (.putfield 37, 3) := by decide +kernel
theorem dX4_init_41 : decode cX4_init 41 = .ok (.aload_n 0, 1) := by decide +kernel
theorem dX4_init_42 : decode cX4_init 42 = .ok (.aload_n 0, 1) := by decide +kernel
theorem dX4_init_43 : decode cX4_init 43 = .ok (.getfield 37, 3) := by decide +kernel
theorem dX4_init_46 : decode cX4_init 46 = .ok (.putfield 40, 3) := by decide +kernel
theorem dX4_init_49 : decode cX4_init 49 = .ok (.aload_n 0, 1) := by decide +kernel
theorem dX4_init_50 : decode cX4_init 50 = .ok (.iconst 4, 1) := by decide +kernel
theorem dX4_init_51 : decode cX4_init 51 = .ok (.iload_n 1, 1) := by decide +kernel
theorem dX4_init_52 : decode cX4_init 52 = .ok (.invokestatic 31, 3) := by decide +kernel
theorem dX4_init_55 : decode cX4_init 55 = .ok (.aload_n 0, 1) := by decide +kernel
theorem dX4_init_56 : decode cX4_init 56 = .ok (.getfield 43, 3) := by decide +kernel
theorem dX4_init_59 : decode cX4_init 59 = .ok (.invokestatic 31, 3) := by decide +kernel
theorem dX4_init_62 : decode cX4_init 62 = .ok (.putfield 46, 3) := by decide +kernel
theorem dX4_init_65 : decode cX4_init 65 = .ok (.return_, 1) := by decide +kernel
theorem dX4_partAt_0 : decode cX4_partAt 0 = .ok (.iload_n 1, 1) := by decide +kernel
theorem dX4_partAt_1 : decode cX4_partAt 1 = .ok (.ifCond .lt 21, 3) := by decide +kernel
theorem dX4_partAt_4 : decode cX4_partAt 4 = .ok (.iload_n 1, 1) := by decide +kernel
theorem dX4_partAt_5 : decode cX4_partAt 5 = .ok (.aload_n 0, 1) := by decide +kernel
theorem dX4_partAt_6 : decode cX4_partAt 6 = .ok (.getfield 11, 3) := by decide +kernel
theorem dX4_partAt_9 : decode cX4_partAt 9 = .ok (.arraylength, 1) := by decide +kernel
theorem dX4_partAt_10 : decode cX4_partAt 10 = .ok (.if_icmp .ge 12, 3) := by decide +kernel
theorem dX4_partAt_13 : decode cX4_partAt 13 = .ok (.aload_n 0, 1) := by decide +kernel
theorem dX4_partAt_14 : decode cX4_partAt 14 = .ok (.getfield 11, 3) := by decide +kernel
theorem dX4_partAt_17 : decode cX4_partAt 17 = .ok (.iload_n 1, 1) := by decide +kernel
theorem dX4_partAt_18 : decode cX4_partAt 18 = .ok (.aaload, 1) := by decide +kernel
theorem dX4_partAt_19 : decode cX4_partAt 19 = .ok (.goto 4, 3) := by decide +kernel
theorem dX4_partAt_22 : decode cX4_partAt 22 = .ok (.aconst_null, 1) := by decide +kernel
theorem dX4_partAt_23 : decode cX4_partAt 23 = .ok (.areturn, 1) := by decide +kernel
theorem dX4_writesOf_0 : decode cX4_writesOf 0 = .ok (.aload_n 0, 1) := by decide +kernel
theorem dX4_writesOf_1 : decode cX4_writesOf 1 = .ok (.iload_n 1, 1) := by decide +kernel
theorem dX4_writesOf_2 : decode cX4_writesOf 2 = .ok (.invokevirtual 49, 3) := by decide +kernel
theorem dX4_writesOf_5 : decode cX4_writesOf 5 = .ok (.astore_n 2, 1) := by decide +kernel
theorem dX4_writesOf_6 : decode cX4_writesOf 6 = .ok (.aload_n 2, 1) := by decide +kernel
theorem dX4_writesOf_7 : decode cX4_writesOf 7 = .ok (.ifnonnull 7, 3) := by decide +kernel
theorem dX4_writesOf_10 : decode cX4_writesOf 10 = .ok (.iconst 0, 1) := by decide +kernel
theorem dX4_writesOf_11 : decode cX4_writesOf 11 = .ok (.goto 7, 3) := by decide +kernel
theorem dX4_writesOf_14 : decode cX4_writesOf 14 = .ok (.aload_n 2, 1) := by decide +kernel
theorem dX4_writesOf_15 : decode cX4_writesOf 15 = .ok (.getfield 53, 3) := by decide +kernel
theorem dX4_writesOf_18 : decode cX4_writesOf 18 = .ok (.ireturn, 1) := by decide +kernel
theorem dX4_partCount_0 : decode cX4_partCount 0 = .ok (.iconst 0, 1) := by decide +kernel
theorem dX4_partCount_1 : decode cX4_partCount 1 = .ok (.istore_n 1, 1) := by decide +kernel
theorem dX4_partCount_2 : decode cX4_partCount 2 = .ok (.iconst 0, 1) := by decide +kernel
theorem dX4_partCount_3 : decode cX4_partCount 3 = .ok (.istore_n 2, 1) := by decide +kernel
theorem dX4_partCount_4 : decode cX4_partCount 4 = .ok (.iload_n 2, 1) := by decide +kernel
theorem dX4_partCount_5 : decode cX4_partCount 5 = .ok (.aload_n 0, 1) := by decide +kernel
theorem dX4_partCount_6 : decode cX4_partCount 6 = .ok (.getfield 11, 3) := by decide +kernel
theorem dX4_partCount_9 : decode cX4_partCount 9 = .ok (.arraylength, 1) := by decide +kernel
theorem dX4_partCount_10 : decode cX4_partCount 10 = .ok (.if_icmp .ge 21, 3) := by decide +kernel
theorem dX4_partCount_13 : decode cX4_partCount 13 = .ok (.aload_n 0, 1) := by decide +kernel
theorem dX4_partCount_14 : decode cX4_partCount 14 = .ok (.getfield 11, 3) := by decide +kernel
theorem dX4_partCount_17 : decode cX4_partCount 17 = .ok (.iload_n 2, 1) := by decide +kernel
theorem dX4_partCount_18 : decode cX4_partCount 18 = .ok (.aaload, 1) := by decide +kernel
theorem dX4_partCount_19 : decode cX4_partCount 19 = .ok (.ifnull 6, 3) := by decide +kernel
theorem dX4_partCount_22 : decode cX4_partCount 22 = .ok (.iinc 1 1, 3) := by decide +kernel
theorem dX4_partCount_25 : decode cX4_partCount 25 = .ok (.iinc 2 1, 3) := by decide +kernel
theorem dX4_partCount_28 : decode cX4_partCount 28 = .ok (.goto (-24), 3) := by decide +kernel
theorem dX4_partCount_31 : decode cX4_partCount 31 = .ok (.iload_n 1, 1) := by decide +kernel
theorem dX4_partCount_32 : decode cX4_partCount 32 = .ok (.ireturn, 1) := by decide +kernel
theorem dX4_isSpoiled_0 : decode cX4_isSpoiled 0 = .ok (.aload_n 0, 1) := by decide +kernel
theorem dX4_isSpoiled_1 : decode cX4_isSpoiled 1 = .ok (.getfield 40, 3) := by decide +kernel
theorem dX4_isSpoiled_4 : decode cX4_isSpoiled 4 = .ok (.aload_n 0, 1) := by decide +kernel
theorem dX4_isSpoiled_5 : decode cX4_isSpoiled 5 = .ok (.invokevirtual 56, 3) := by decide +kernel
theorem dX4_isSpoiled_8 : decode cX4_isSpoiled 8 = .ok (.if_icmp .eq 7, 3) := by decide +kernel
theorem dX4_isSpoiled_11 : decode cX4_isSpoiled 11 = .ok (.iconst 1, 1) := by decide +kernel
theorem dX4_isSpoiled_12 : decode cX4_isSpoiled 12 = .ok (.goto 4, 3) := by decide +kernel
theorem dX4_isSpoiled_15 : decode cX4_isSpoiled 15 = .ok (.iconst 0, 1) := by decide +kernel
theorem dX4_isSpoiled_16 : decode cX4_isSpoiled 16 = .ok (.ireturn, 1) := by decide +kernel
theorem dX4_put_0 : decode cX4_put 0 = .ok (.iload_n 1, 1) := by decide +kernel
theorem dX4_put_1 : decode cX4_put 1 = .ok (.ifCond .lt 12, 3) := by decide +kernel
theorem dX4_put_4 : decode cX4_put 4 = .ok (.iload_n 1, 1) := by decide +kernel
theorem dX4_put_5 : decode cX4_put 5 = .ok (.aload_n 0, 1) := by decide +kernel
theorem dX4_put_6 : decode cX4_put 6 = .ok (.getfield 11, 3) := by decide +kernel
theorem dX4_put_9 : decode cX4_put 9 = .ok (.arraylength, 1) := by decide +kernel
theorem dX4_put_10 : decode cX4_put 10 = .ok (.if_icmp .lt 5, 3) := by decide +kernel
theorem dX4_put_13 : decode cX4_put 13 = .ok (.iconst 0, 1) := by decide +kernel
theorem dX4_put_14 : decode cX4_put 14 = .ok (.ireturn, 1) := by decide +kernel
theorem dX4_put_15 : decode cX4_put 15 = .ok (.aload_n 0, 1) := by decide +kernel
theorem dX4_put_16 : decode cX4_put 16 = .ok (.getfield 30, 3) := by decide +kernel
theorem dX4_put_19 : decode cX4_put 19 = .ok (.aload_n 0, 1) := by decide +kernel
theorem dX4_put_20 : decode cX4_put 20 = .ok (.getfield 21, 3) := by decide +kernel
theorem dX4_put_23 : decode cX4_put 23 = .ok (.getfield 25, 3) := by decide +kernel
theorem dX4_put_26 : decode cX4_put 26 = .ok (.if_icmp .eq 7, 3) := by decide +kernel
theorem dX4_put_29 : decode cX4_put 29 = .ok (.aload_n 0, 1) := by decide +kernel
theorem dX4_put_30 : decode cX4_put 30 = .ok (.invokevirtual 60, 3) := by decide +kernel
theorem dX4_put_33 : decode cX4_put 33 = .ok (.aload_n 0, 1) := by decide +kernel
theorem dX4_put_34 : decode cX4_put 34 = .ok (.getfield 11, 3) := by decide +kernel
theorem dX4_put_37 : decode cX4_put 37 = .ok (.iload_n 1, 1) := by decide +kernel
theorem dX4_put_38 : decode cX4_put 38 = .ok (.aaload, 1) := by decide +kernel
theorem dX4_put_39 : decode cX4_put 39 = .ok (.astore 4, 2) := by decide +kernel
theorem dX4_put_41 : decode cX4_put 41 = .ok (.aload 4, 2) := by decide +kernel
theorem dX4_put_43 : decode cX4_put 43 = .ok (.ifnonnull 21, 3) := by decide +kernel
theorem dX4_put_46 : decode cX4_put 46 = .ok (.new 9, 3) := by decide +kernel
theorem dX4_put_49 : decode cX4_put 49 = .ok (.dup, 1) := by decide +kernel
theorem dX4_put_50 : decode cX4_put 50 = .ok (.iload_n 1, 1) := by decide +kernel
theorem dX4_put_51 : decode cX4_put 51 = .ok (.invokespecial 63, 3) := by decide +kernel
theorem dX4_put_54 : decode cX4_put 54 = .ok (.astore 4, 2) := by decide +kernel
theorem dX4_put_56 : decode cX4_put 56 = .ok (.aload_n 0, 1) := by decide +kernel
theorem dX4_put_57 : decode cX4_put 57 = .ok (.getfield 11, 3) := by decide +kernel
theorem dX4_put_60 : decode cX4_put 60 = .ok (.iload_n 1, 1) := by decide +kernel
theorem dX4_put_61 : decode cX4_put 61 = .ok (.aload 4, 2) := by decide +kernel
theorem dX4_put_63 : decode cX4_put 63 = .ok (.aastore, 1) := by decide +kernel
theorem dX4_put_64 : decode cX4_put 64 = .ok (.aload 4, 2) := by decide +kernel
theorem dX4_put_66 : decode cX4_put 66 = .ok (.iload_n 2, 1) := by decide +kernel
theorem dX4_put_67 : decode cX4_put 67 = .ok (.putfield 66, 3) := by decide +kernel
theorem dX4_put_70 : decode cX4_put 70 = .ok (.aload 4, 2) := by decide +kernel
theorem dX4_put_72 : decode cX4_put 72 = .ok (.dup, 1) := by decide +kernel
theorem dX4_put_73 : decode cX4_put 73 = .ok (.getfield 53, 3) := by decide +kernel
theorem dX4_put_76 : decode cX4_put 76 = .ok (.iconst 1, 1) := by decide +kernel
theorem dX4_put_77 : decode cX4_put 77 = .ok (.iadd, 1) := by decide +kernel
theorem dX4_put_78 : decode cX4_put 78 = .ok (.putfield 53, 3) := by decide +kernel
theorem dX4_put_81 : decode cX4_put 81 = .ok (.aload_n 0, 1) := by decide +kernel
theorem dX4_put_82 : decode cX4_put 82 = .ok (.aload 4, 2) := by decide +kernel
theorem dX4_put_84 : decode cX4_put 84 = .ok (.iload_n 3, 1) := by decide +kernel
theorem dX4_put_85 : decode cX4_put 85 = .ok (.invokevirtual 69, 3) := by decide +kernel
theorem dX4_put_88 : decode cX4_put 88 = .ok (.aload_n 0, 1) := by decide +kernel
theorem dX4_put_89 : decode cX4_put 89 = .ok (.aload_n 0, 1) := by decide +kernel
theorem dX4_put_90 : decode cX4_put 90 = .ok (.invokevirtual 56, 3) := by decide +kernel
theorem dX4_put_93 : decode cX4_put 93 = .ok (.putfield 40, 3) := by decide +kernel
theorem dX4_put_96 : decode cX4_put 96 = .ok (.aload 4, 2) := by decide +kernel
theorem dX4_put_98 : decode cX4_put 98 = .ok (.getfield 73, 3) := by decide +kernel
theorem dX4_put_101 : decode cX4_put 101 = .ok (.ireturn, 1) := by decide +kernel
theorem dX4_writeAllAnew_0 : decode cX4_writeAllAnew 0 = .ok (.aload_n 0, 1) := by decide +kernel
theorem dX4_writeAllAnew_1 : decode cX4_writeAllAnew 1 = .ok (.invokevirtual 60, 3) := by decide +kernel
theorem dX4_writeAllAnew_4 : decode cX4_writeAllAnew 4 = .ok (.iconst 0, 1) := by decide +kernel
theorem dX4_writeAllAnew_5 : decode cX4_writeAllAnew 5 = .ok (.istore_n 2, 1) := by decide +kernel
theorem dX4_writeAllAnew_6 : decode cX4_writeAllAnew 6 = .ok (.iconst 0, 1) := by decide +kernel
theorem dX4_writeAllAnew_7 : decode cX4_writeAllAnew 7 = .ok (.istore_n 3, 1) := by decide +kernel
theorem dX4_writeAllAnew_8 : decode cX4_writeAllAnew 8 = .ok (.iload_n 3, 1) := by decide +kernel
theorem dX4_writeAllAnew_9 : decode cX4_writeAllAnew 9 = .ok (.aload_n 0, 1) := by decide +kernel
theorem dX4_writeAllAnew_10 : decode cX4_writeAllAnew 10 = .ok (.getfield 11, 3) := by decide +kernel
theorem dX4_writeAllAnew_13 : decode cX4_writeAllAnew 13 = .ok (.arraylength, 1) := by decide +kernel
theorem dX4_writeAllAnew_14 : decode cX4_writeAllAnew 14 = .ok (.if_icmp .ge 32, 3) := by decide +kernel
theorem dX4_writeAllAnew_17 : decode cX4_writeAllAnew 17 = .ok (.aload_n 0, 1) := by decide +kernel
theorem dX4_writeAllAnew_18 : decode cX4_writeAllAnew 18 = .ok (.getfield 11, 3) := by decide +kernel
theorem dX4_writeAllAnew_21 : decode cX4_writeAllAnew 21 = .ok (.iload_n 3, 1) := by decide +kernel
theorem dX4_writeAllAnew_22 : decode cX4_writeAllAnew 22 = .ok (.aaload, 1) := by decide +kernel
theorem dX4_writeAllAnew_23 : decode cX4_writeAllAnew 23 = .ok (.astore 4, 2) := by decide +kernel
theorem dX4_writeAllAnew_25 : decode cX4_writeAllAnew 25 = .ok (.aload 4, 2) := by decide +kernel
theorem dX4_writeAllAnew_27 : decode cX4_writeAllAnew 27 = .ok (.ifnull 13, 3) := by decide +kernel
theorem dX4_writeAllAnew_30 : decode cX4_writeAllAnew 30 = .ok (.aload_n 0, 1) := by decide +kernel
theorem dX4_writeAllAnew_31 : decode cX4_writeAllAnew 31 = .ok (.aload 4, 2) := by decide +kernel
theorem dX4_writeAllAnew_33 : decode cX4_writeAllAnew 33 = .ok (.iload_n 1, 1) := by decide +kernel
theorem dX4_writeAllAnew_34 : decode cX4_writeAllAnew 34 = .ok (.invokevirtual 69, 3) := by decide +kernel
theorem dX4_writeAllAnew_37 : decode cX4_writeAllAnew 37 = .ok (.iinc 2 1, 3) := by decide +kernel
theorem dX4_writeAllAnew_40 : decode cX4_writeAllAnew 40 = .ok (.iinc 3 1, 3) := by decide +kernel
theorem dX4_writeAllAnew_43 : decode cX4_writeAllAnew 43 = .ok (.goto (-35), 3) := by decide +kernel
theorem dX4_writeAllAnew_46 : decode cX4_writeAllAnew 46 = .ok (.aload_n 0, 1) := by decide +kernel
theorem dX4_writeAllAnew_47 : decode cX4_writeAllAnew 47 = .ok (.aload_n 0, 1) := by decide +kernel
theorem dX4_writeAllAnew_48 : decode cX4_writeAllAnew 48 = .ok (.invokevirtual 56, 3) := by decide +kernel
theorem dX4_writeAllAnew_51 : decode cX4_writeAllAnew 51 = .ok (.putfield 40, 3) := by decide +kernel
theorem dX4_writeAllAnew_54 : decode cX4_writeAllAnew 54 = .ok (.iload_n 2, 1) := by decide +kernel
theorem dX4_writeAllAnew_55 : decode cX4_writeAllAnew 55 = .ok (.ireturn, 1) := by decide +kernel
theorem dX4_dropParts_0 : decode cX4_dropParts 0 = .ok (.aload_n 0, 1) := by decide +kernel
theorem dX4_dropParts_1 : decode cX4_dropParts 1 = .ok (.invokevirtual 76, 3) := by decide +kernel
theorem dX4_dropParts_4 : decode cX4_dropParts 4 = .ok (.istore_n 1, 1) := by decide +kernel
theorem dX4_dropParts_5 : decode cX4_dropParts 5 = .ok (.iconst 0, 1) := by decide +kernel
theorem dX4_dropParts_6 : decode cX4_dropParts 6 = .ok (.istore_n 2, 1) := by decide +kernel
theorem dX4_dropParts_7 : decode cX4_dropParts 7 = .ok (.iload_n 2, 1) := by decide +kernel
theorem dX4_dropParts_8 : decode cX4_dropParts 8 = .ok (.aload_n 0, 1) := by decide +kernel
theorem dX4_dropParts_9 : decode cX4_dropParts 9 = .ok (.getfield 11, 3) := by decide +kernel
theorem dX4_dropParts_12 : decode cX4_dropParts 12 = .ok (.arraylength, 1) := by decide +kernel
theorem dX4_dropParts_13 : decode cX4_dropParts 13 = .ok (.if_icmp .ge 16, 3) := by decide +kernel
theorem dX4_dropParts_16 : decode cX4_dropParts 16 = .ok (.aload_n 0, 1) := by decide +kernel
theorem dX4_dropParts_17 : decode cX4_dropParts 17 = .ok (.getfield 11, 3) := by decide +kernel
theorem dX4_dropParts_20 : decode cX4_dropParts 20 = .ok (.iload_n 2, 1) := by decide +kernel
theorem dX4_dropParts_21 : decode cX4_dropParts 21 = .ok (.aconst_null, 1) := by decide +kernel
theorem dX4_dropParts_22 : decode cX4_dropParts 22 = .ok (.aastore, 1) := by decide +kernel
theorem dX4_dropParts_23 : decode cX4_dropParts 23 = .ok (.iinc 2 1, 3) := by decide +kernel
theorem dX4_dropParts_26 : decode cX4_dropParts 26 = .ok (.goto (-19), 3) := by decide +kernel
theorem dX4_dropParts_29 : decode cX4_dropParts 29 = .ok (.iload_n 1, 1) := by decide +kernel
theorem dX4_dropParts_30 : decode cX4_dropParts 30 = .ok (.ireturn, 1) := by decide +kernel
theorem dX4_turnKey_0 : decode cX4_turnKey 0 = .ok (.aload_n 0, 1) := by decide +kernel
theorem dX4_turnKey_1 : decode cX4_turnKey 1 = .ok (.dup, 1) := by decide +kernel
theorem dX4_turnKey_2 : decode cX4_turnKey 2 = .ok (.getfield 43, 3) := by decide +kernel
theorem dX4_turnKey_5 : decode cX4_turnKey 5 = .ok (.iconst 1, 1) := by decide +kernel
theorem dX4_turnKey_6 : decode cX4_turnKey 6 = .ok (.iadd, 1) := by decide +kernel
theorem dX4_turnKey_7 : decode cX4_turnKey 7 = .ok (.putfield 43, 3) := by decide +kernel
theorem dX4_turnKey_10 : decode cX4_turnKey 10 = .ok (.aload_n 0, 1) := by decide +kernel
theorem dX4_turnKey_11 : decode cX4_turnKey 11 = .ok (.aload_n 0, 1) := by decide +kernel
theorem dX4_turnKey_12 : decode cX4_turnKey 12 = .ok (.getfield 21, 3) := by decide +kernel
theorem dX4_turnKey_15 : decode cX4_turnKey 15 = .ok (.getfield 25, 3) := by decide +kernel
theorem dX4_turnKey_18 : decode cX4_turnKey 18 = .ok (.putfield 30, 3) := by decide +kernel
theorem dX4_turnKey_21 : decode cX4_turnKey 21 = .ok (.aload_n 0, 1) := by decide +kernel
theorem dX4_turnKey_22 : decode cX4_turnKey 22 = .ok (.iconst 4, 1) := by decide +kernel
theorem dX4_turnKey_23 : decode cX4_turnKey 23 = .ok (.aload_n 0, 1) := by decide +kernel
theorem dX4_turnKey_24 : decode cX4_turnKey 24 = .ok (.getfield 17, 3) := by decide +kernel
theorem dX4_turnKey_27 : decode cX4_turnKey 27 = .ok (.invokestatic 31, 3) := by decide +kernel
theorem dX4_turnKey_30 : decode cX4_turnKey 30 = .ok (.aload_n 0, 1) := by decide +kernel
theorem dX4_turnKey_31 : decode cX4_turnKey 31 = .ok (.getfield 43, 3) := by decide +kernel
theorem dX4_turnKey_34 : decode cX4_turnKey 34 = .ok (.invokestatic 31, 3) := by decide +kernel
theorem dX4_turnKey_37 : decode cX4_turnKey 37 = .ok (.putfield 46, 3) := by decide +kernel
theorem dX4_turnKey_40 : decode cX4_turnKey 40 = .ok (.return_, 1) := by decide +kernel
theorem dX4_sealPart_0 : decode cX4_sealPart 0 = .ok (.aload_n 1, 1) := by decide +kernel
theorem dX4_sealPart_1 : decode cX4_sealPart 1 = .ok (.aload_n 0, 1) := by decide +kernel
theorem dX4_sealPart_2 : decode cX4_sealPart 2 = .ok (.getfield 43, 3) := by decide +kernel
theorem dX4_sealPart_5 : decode cX4_sealPart 5 = .ok (.putfield 79, 3) := by decide +kernel
theorem dX4_sealPart_8 : decode cX4_sealPart 8 = .ok (.aload_n 1, 1) := by decide +kernel
theorem dX4_sealPart_9 : decode cX4_sealPart 9 = .ok (.aload_n 0, 1) := by decide +kernel
theorem dX4_sealPart_10 : decode cX4_sealPart 10 = .ok (.getfield 30, 3) := by decide +kernel
theorem dX4_sealPart_13 : decode cX4_sealPart 13 = .ok (.putfield 80, 3) := by decide +kernel
theorem dX4_sealPart_16 : decode cX4_sealPart 16 = .ok (.aload_n 1, 1) := by decide +kernel
theorem dX4_sealPart_17 : decode cX4_sealPart 17 = .ok (.iload_n 2, 1) := by decide +kernel
theorem dX4_sealPart_18 : decode cX4_sealPart 18 = .ok (.putfield 81, 3) := by decide +kernel
theorem dX4_sealPart_21 : decode cX4_sealPart 21 = .ok (.aload_n 1, 1) := by decide +kernel
theorem dX4_sealPart_22 : decode cX4_sealPart 22 = .ok (.aload_n 0, 1) := by decide +kernel
theorem dX4_sealPart_23 : decode cX4_sealPart 23 = .ok (.getfield 46, 3) := by decide +kernel
theorem dX4_sealPart_26 : decode cX4_sealPart 26 = .ok (.aload_n 1, 1) := by decide +kernel
theorem dX4_sealPart_27 : decode cX4_sealPart 27 = .ok (.getfield 84, 3) := by decide +kernel
theorem dX4_sealPart_30 : decode cX4_sealPart 30 = .ok (.invokestatic 31, 3) := by decide +kernel
theorem dX4_sealPart_33 : decode cX4_sealPart 33 = .ok (.putfield 85, 3) := by decide +kernel
theorem dX4_sealPart_36 : decode cX4_sealPart 36 = .ok (.aload_n 1, 1) := by decide +kernel
theorem dX4_sealPart_37 : decode cX4_sealPart 37 = .ok (.aload_n 1, 1) := by decide +kernel
theorem dX4_sealPart_38 : decode cX4_sealPart 38 = .ok (.getfield 66, 3) := by decide +kernel
theorem dX4_sealPart_41 : decode cX4_sealPart 41 = .ok (.aload_n 1, 1) := by decide +kernel
theorem dX4_sealPart_42 : decode cX4_sealPart 42 = .ok (.getfield 85, 3) := by decide +kernel
theorem dX4_sealPart_45 : decode cX4_sealPart 45 = .ok (.invokestatic 88, 3) := by decide +kernel
theorem dX4_sealPart_48 : decode cX4_sealPart 48 = .ok (.putfield 73, 3) := by decide +kernel
theorem dX4_sealPart_51 : decode cX4_sealPart 51 = .ok (.return_, 1) := by decide +kernel
theorem dX4_markOfParts_0 : decode cX4_markOfParts 0 = .ok (.aload_n 0, 1) := by decide +kernel
theorem dX4_markOfParts_1 : decode cX4_markOfParts 1 = .ok (.getfield 37, 3) := by decide +kernel
theorem dX4_markOfParts_4 : decode cX4_markOfParts 4 = .ok (.istore_n 1, 1) := by decide +kernel
theorem dX4_markOfParts_5 : decode cX4_markOfParts 5 = .ok (.iconst 0, 1) := by decide +kernel
theorem dX4_markOfParts_6 : decode cX4_markOfParts 6 = .ok (.istore_n 2, 1) := by decide +kernel
theorem dX4_markOfParts_7 : decode cX4_markOfParts 7 = .ok (.iload_n 2, 1) := by decide +kernel
theorem dX4_markOfParts_8 : decode cX4_markOfParts 8 = .ok (.aload_n 0, 1) := by decide +kernel
theorem dX4_markOfParts_9 : decode cX4_markOfParts 9 = .ok (.getfield 11, 3) := by decide +kernel
theorem dX4_markOfParts_12 : decode cX4_markOfParts 12 = .ok (.arraylength, 1) := by decide +kernel
theorem dX4_markOfParts_13 : decode cX4_markOfParts 13 = .ok (.if_icmp .ge 31, 3) := by decide +kernel
theorem dX4_markOfParts_16 : decode cX4_markOfParts 16 = .ok (.aload_n 0, 1) := by decide +kernel
theorem dX4_markOfParts_17 : decode cX4_markOfParts 17 = .ok (.getfield 11, 3) := by decide +kernel
theorem dX4_markOfParts_20 : decode cX4_markOfParts 20 = .ok (.iload_n 2, 1) := by decide +kernel
theorem dX4_markOfParts_21 : decode cX4_markOfParts 21 = .ok (.aaload, 1) := by decide +kernel
theorem dX4_markOfParts_22 : decode cX4_markOfParts 22 = .ok (.astore_n 3, 1) := by decide +kernel
theorem dX4_markOfParts_23 : decode cX4_markOfParts 23 = .ok (.aload_n 3, 1) := by decide +kernel
theorem dX4_markOfParts_24 : decode cX4_markOfParts 24 = .ok (.ifnull 14, 3) := by decide +kernel
theorem dX4_markOfParts_27 : decode cX4_markOfParts 27 = .ok (.iload_n 1, 1) := by decide +kernel
theorem dX4_markOfParts_28 : decode cX4_markOfParts 28 = .ok (.aload_n 3, 1) := by decide +kernel
theorem dX4_markOfParts_29 : decode cX4_markOfParts 29 = .ok (.getfield 73, 3) := by decide +kernel
theorem dX4_markOfParts_32 : decode cX4_markOfParts 32 = .ok (.iload_n 2, 1) := by decide +kernel
theorem dX4_markOfParts_33 : decode cX4_markOfParts 33 = .ok (.ixor, 1) := by decide +kernel
theorem dX4_markOfParts_34 : decode cX4_markOfParts 34 = .ok (.invokestatic 31, 3) := by decide +kernel
theorem dX4_markOfParts_37 : decode cX4_markOfParts 37 = .ok (.istore_n 1, 1) := by decide +kernel
theorem dX4_markOfParts_38 : decode cX4_markOfParts 38 = .ok (.iinc 2 1, 3) := by decide +kernel
theorem dX4_markOfParts_41 : decode cX4_markOfParts 41 = .ok (.goto (-34), 3) := by decide +kernel
theorem dX4_markOfParts_44 : decode cX4_markOfParts 44 = .ok (.iload_n 1, 1) := by decide +kernel
theorem dX4_markOfParts_45 : decode cX4_markOfParts 45 = .ok (.ireturn, 1) := by decide +kernel
theorem dX5_init_0 : decode cX5_init 0 = .ok (.aload_n 0, 1) := by decide +kernel
theorem dX5_init_1 : decode cX5_init 1 = .ok (.invokespecial 1, 3) := by decide +kernel
theorem dX5_init_4 : decode cX5_init 4 = .ok (.aload_n 0, 1) := by decide +kernel
theorem dX5_init_5 : decode cX5_init 5 = .ok (.sipush 300, 3) := by decide +kernel
theorem dX5_init_8 : decode cX5_init 8 = .ok (.newarray .int, 2) := by decide +kernel
theorem dX5_init_10 : decode cX5_init 10 = .ok (.putfield 9, 3) := by decide +kernel
theorem dX5_init_13 : decode cX5_init 13 = .ok (.aload_n 0, 1) := by decide +kernel
theorem dX5_init_14 : decode cX5_init 14 = .ok (.bipush 13, 2) := by decide +kernel
theorem dX5_init_16 : decode cX5_init 16 = .ok (.newarray .int, 2) := by decide +kernel
theorem dX5_init_18 : decode cX5_init 18 = .ok (.putfield 13, 3) := by decide +kernel
theorem dX5_init_21 : decode cX5_init 21 = .ok (.return_, 1) := by decide +kernel
theorem dX5_count_0 : decode cX5_count 0 = .ok (.aload_n 0, 1) := by decide +kernel
theorem dX5_count_1 : decode cX5_count 1 = .ok (.getfield 16, 3) := by decide +kernel
theorem dX5_count_4 : decode cX5_count 4 = .ok (.ireturn, 1) := by decide +kernel
theorem dX5_isFull_0 : decode cX5_isFull 0 = .ok (.aload_n 0, 1) := by decide +kernel
theorem dX5_isFull_1 : decode cX5_isFull 1 = .ok (.getfield 16, 3) := by decide +kernel
theorem dX5_isFull_4 : decode cX5_isFull 4 = .ok (.sipush 300, 3) := by decide +kernel
theorem dX5_isFull_7 : decode cX5_isFull 7 = .ok (.if_icmp .lt 7, 3) := by decide +kernel
theorem dX5_isFull_10 : decode cX5_isFull 10 = .ok (.iconst 1, 1) := by decide +kernel
theorem dX5_isFull_11 : decode cX5_isFull 11 = .ok (.goto 4, 3) := by decide +kernel
theorem dX5_isFull_14 : decode cX5_isFull 14 = .ok (.iconst 0, 1) := by decide +kernel
theorem dX5_isFull_15 : decode cX5_isFull 15 = .ok (.ireturn, 1) := by decide +kernel
theorem dX5_append_0 : decode cX5_append 0 = .ok (.aload_n 0, 1) := by decide +kernel
theorem dX5_append_1 : decode cX5_append 1 = .ok (.getfield 16, 3) := by decide +kernel
theorem dX5_append_4 : decode cX5_append 4 = .ok (.ifCond .lt 35, 3) := by decide +kernel
theorem dX5_append_7 : decode cX5_append 7 = .ok (.aload_n 0, 1) := by decide +kernel
theorem dX5_append_8 : decode cX5_append 8 = .ok (.getfield 16, 3) := by decide +kernel
theorem dX5_append_11 : decode cX5_append 11 = .ok (.aload_n 0, 1) := by decide +kernel
theorem dX5_append_12 : decode cX5_append 12 = .ok (.getfield 9, 3) := by decide +kernel
theorem dX5_append_15 : decode cX5_append 15 = .ok (.arraylength, 1) := by decide +kernel
theorem dX5_append_16 : decode cX5_append 16 = .ok (.if_icmp .ge 23, 3) := by decide +kernel
theorem dX5_append_19 : decode cX5_append 19 = .ok (.aload_n 0, 1) := by decide +kernel
theorem dX5_append_20 : decode cX5_append 20 = .ok (.getfield 9, 3) := by decide +kernel
theorem dX5_append_23 : decode cX5_append 23 = .ok (.aload_n 0, 1) := by decide +kernel
theorem dX5_append_24 : decode cX5_append 24 = .ok (.getfield 16, 3) := by decide +kernel
theorem dX5_append_27 : decode cX5_append 27 = .ok (.iload_n 1, 1) := by decide +kernel
theorem dX5_append_28 : decode cX5_append 28 = .ok (.iastore, 1) := by decide +kernel
theorem dX5_append_29 : decode cX5_append 29 = .ok (.aload_n 0, 1) := by decide +kernel
theorem dX5_append_30 : decode cX5_append 30 = .ok (.dup, 1) := by decide +kernel
theorem dX5_append_31 : decode cX5_append 31 = .ok (.getfield 16, 3) := by decide +kernel
theorem dX5_append_34 : decode cX5_append 34 = .ok (.iconst 1, 1) := by decide +kernel
theorem dX5_append_35 : decode cX5_append 35 = .ok (.iadd, 1) := by decide +kernel
theorem dX5_append_36 : decode cX5_append 36 = .ok (.putfield 16, 3) := by decide +kernel
theorem dX5_append_39 : decode cX5_append 39 = .ok (.return_, 1) := by decide +kernel
theorem dX5_leafAt_0 : decode cX5_leafAt 0 = .ok (.iload_n 1, 1) := by decide +kernel
theorem dX5_leafAt_1 : decode cX5_leafAt 1 = .ok (.ifCond .lt 21, 3) := by decide +kernel
theorem dX5_leafAt_4 : decode cX5_leafAt 4 = .ok (.iload_n 1, 1) := by decide +kernel
theorem dX5_leafAt_5 : decode cX5_leafAt 5 = .ok (.aload_n 0, 1) := by decide +kernel
theorem dX5_leafAt_6 : decode cX5_leafAt 6 = .ok (.getfield 9, 3) := by decide +kernel
theorem dX5_leafAt_9 : decode cX5_leafAt 9 = .ok (.arraylength, 1) := by decide +kernel
theorem dX5_leafAt_10 : decode cX5_leafAt 10 = .ok (.if_icmp .ge 12, 3) := by decide +kernel
theorem dX5_leafAt_13 : decode cX5_leafAt 13 = .ok (.aload_n 0, 1) := by decide +kernel
theorem dX5_leafAt_14 : decode cX5_leafAt 14 = .ok (.getfield 9, 3) := by decide +kernel
theorem dX5_leafAt_17 : decode cX5_leafAt 17 = .ok (.iload_n 1, 1) := by decide +kernel
theorem dX5_leafAt_18 : decode cX5_leafAt 18 = .ok (.iaload, 1) := by decide +kernel
theorem dX5_leafAt_19 : decode cX5_leafAt 19 = .ok (.goto 4, 3) := by decide +kernel
theorem dX5_leafAt_22 : decode cX5_leafAt 22 = .ok (.iconst 0, 1) := by decide +kernel
theorem dX5_leafAt_23 : decode cX5_leafAt 23 = .ok (.ireturn, 1) := by decide +kernel
theorem dX5_cutTo_0 : decode cX5_cutTo 0 = .ok (.aload_n 0, 1) := by decide +kernel
theorem dX5_cutTo_1 : decode cX5_cutTo 1 = .ok (.getfield 16, 3) := by decide +kernel
theorem dX5_cutTo_4 : decode cX5_cutTo 4 = .ok (.iload_n 1, 1) := by decide +kernel
theorem dX5_cutTo_5 : decode cX5_cutTo 5 = .ok (.isub, 1) := by decide +kernel
theorem dX5_cutTo_6 : decode cX5_cutTo 6 = .ok (.istore_n 2, 1) := by decide +kernel
theorem dX5_cutTo_7 : decode cX5_cutTo 7 = .ok (.aload_n 0, 1) := by decide +kernel
theorem dX5_cutTo_8 : decode cX5_cutTo 8 = .ok (.iload_n 1, 1) := by decide +kernel
theorem dX5_cutTo_9 : decode cX5_cutTo 9 = .ok (.putfield 16, 3) := by decide +kernel
theorem dX5_cutTo_12 : decode cX5_cutTo 12 = .ok (.iload_n 2, 1) := by decide +kernel
theorem dX5_cutTo_13 : decode cX5_cutTo 13 = .ok (.ireturn, 1) := by decide +kernel
theorem dX5_rootOf_0 : decode cX5_rootOf 0 = .ok (.aload_n 0, 1) := by decide +kernel
theorem dX5_rootOf_1 : decode cX5_rootOf 1 = .ok (.getfield 9, 3) := by decide +kernel
theorem dX5_rootOf_4 : decode cX5_rootOf 4 = .ok (.iconst 0, 1) := by decide +kernel
theorem dX5_rootOf_5 : decode cX5_rootOf 5 = .ok (.iload_n 1, 1) := by decide +kernel
theorem dX5_rootOf_6 : decode cX5_rootOf 6 = .ok (.iconst 0, 1) := by decide +kernel
theorem dX5_rootOf_7 : decode cX5_rootOf 7 = .ok (.invokestatic 20, 3) := by decide +kernel
theorem dX5_rootOf_10 : decode cX5_rootOf 10 = .ok (.ireturn, 1) := by decide +kernel
theorem dX5_findProof_0 : decode cX5_findProof 0 = .ok (.iconst 0, 1) := by decide +kernel
theorem dX5_findProof_1 : decode cX5_findProof 1 = .ok (.istore_n 3, 1) := by decide +kernel
theorem dX5_findProof_2 : decode cX5_findProof 2 = .ok (.iload_n 1, 1) := by decide +kernel
theorem dX5_findProof_3 : decode cX5_findProof 3 = .ok (.istore 4, 2) := by decide +kernel
theorem dX5_findProof_5 : decode cX5_findProof 5 = .ok (.aload_n 0, 1) := by decide +kernel
theorem dX5_findProof_6 : decode cX5_findProof 6 = .ok (.iconst 0, 1) := by decide +kernel
theorem dX5_findProof_7 : decode cX5_findProof 7 = .ok (.putfield 24, 3) := by decide +kernel
theorem dX5_findProof_10 : decode cX5_findProof 10 = .ok (.iconst 0, 1) := by decide +kernel
theorem dX5_findProof_11 : decode cX5_findProof 11 = .ok (.istore 5, 2) := by decide +kernel
theorem dX5_findProof_13 : decode cX5_findProof 13 = .ok (.iload 5, 2) := by decide +kernel
theorem dX5_findProof_15 : decode cX5_findProof 15 = .ok (.bipush 12, 2) := by decide +kernel
theorem dX5_findProof_17 : decode cX5_findProof 17 = .ok (.if_icmp .ge 87, 3) := by decide +kernel
theorem dX5_findProof_20 : decode cX5_findProof 20 = .ok (.iload 4, 2) := by decide +kernel
theorem dX5_findProof_22 : decode cX5_findProof 22 = .ok (.iconst 1, 1) := by decide +kernel
theorem dX5_findProof_23 : decode cX5_findProof 23 = .ok (.if_icmp .le 81, 3) := by decide +kernel
theorem dX5_findProof_26 : decode cX5_findProof 26 = .ok (.iload 4, 2) := by decide +kernel
theorem dX5_findProof_28 : decode cX5_findProof 28 = .ok (.invokestatic 27, 3) := by decide +kernel
theorem dX5_findProof_31 : decode cX5_findProof 31 = .ok (.istore 6, 2) := by decide +kernel
theorem dX5_findProof_33 : decode cX5_findProof 33 = .ok (.iload_n 2, 1) := by decide +kernel
theorem dX5_findProof_34 : decode cX5_findProof 34 = .ok (.iload_n 3, 1) := by decide +kernel
theorem dX5_findProof_35 : decode cX5_findProof 35 = .ok (.iload 6, 2) := by decide +kernel
theorem dX5_findProof_37 : decode cX5_findProof 37 = .ok (.iadd, 1) := by decide +kernel
theorem dX5_findProof_38 : decode cX5_findProof 38 = .ok (.if_icmp .ge 32, 3) := by decide +kernel
theorem dX5_findProof_41 : decode cX5_findProof 41 = .ok (.aload_n 0, 1) := by decide +kernel
theorem dX5_findProof_42 : decode cX5_findProof 42 = .ok (.aload_n 0, 1) := by decide +kernel
theorem dX5_findProof_43 : decode cX5_findProof 43 = .ok (.getfield 9, 3) := by decide +kernel
theorem dX5_findProof_46 : decode cX5_findProof 46 = .ok (.iload_n 3, 1) := by decide +kernel
theorem dX5_findProof_47 : decode cX5_findProof 47 = .ok (.iload 6, 2) := by decide +kernel
theorem dX5_findProof_49 : decode cX5_findProof 49 = .ok (.iadd, 1) := by decide +kernel
theorem dX5_findProof_50 : decode cX5_findProof 50 = .ok (.iload 4, 2) := by decide +kernel
theorem dX5_findProof_52 : decode cX5_findProof 52 = .ok (.iload 6, 2) := by decide +kernel
theorem dX5_findProof_54 : decode cX5_findProof 54 = .ok (.isub, 1) := by decide +kernel
theorem dX5_findProof_55 : decode cX5_findProof 55 = .ok (.iload 5, 2) := by decide +kernel
theorem dX5_findProof_57 : decode cX5_findProof 57 = .ok (.invokestatic 20, 3) := by decide +kernel
theorem dX5_findProof_60 : decode cX5_findProof 60 = .ok (.invokevirtual 31, 3) := by decide +kernel
theorem dX5_findProof_63 : decode cX5_findProof 63 = .ok (.iload 6, 2) := by decide +kernel
theorem dX5_findProof_65 : decode cX5_findProof 65 = .ok (.istore 4, 2) := by decide +kernel
theorem dX5_findProof_67 : decode cX5_findProof 67 = .ok (.goto 31, 3) := by decide +kernel
theorem dX5_findProof_70 : decode cX5_findProof 70 = .ok (.aload_n 0, 1) := by decide +kernel
theorem dX5_findProof_71 : decode cX5_findProof 71 = .ok (.aload_n 0, 1) := by decide +kernel
theorem dX5_findProof_72 : decode cX5_findProof 72 = .ok (.getfield 9, 3) := by decide +kernel
theorem dX5_findProof_75 : decode cX5_findProof 75 = .ok (.iload_n 3, 1) := by decide +kernel
theorem dX5_findProof_76 : decode cX5_findProof 76 = .ok (.iload 6, 2) := by decide +kernel
theorem dX5_findProof_78 : decode cX5_findProof 78 = .ok (.iload 5, 2) := by decide +kernel
theorem dX5_findProof_80 : decode cX5_findProof 80 = .ok (.invokestatic 20, 3) := by decide +kernel
theorem dX5_findProof_83 : decode cX5_findProof 83 = .ok (.invokevirtual 31, 3) := by decide +kernel
theorem dX5_findProof_86 : decode cX5_findProof 86 = .ok (.iload_n 3, 1) := by decide +kernel
theorem dX5_findProof_87 : decode cX5_findProof 87 = .ok (.iload 6, 2) := by decide +kernel
theorem dX5_findProof_89 : decode cX5_findProof 89 = .ok (.iadd, 1) := by decide +kernel
theorem dX5_findProof_90 : decode cX5_findProof 90 = .ok (.istore_n 3, 1) := by decide +kernel
theorem dX5_findProof_91 : decode cX5_findProof 91 = .ok (.iload 4, 2) := by decide +kernel
theorem dX5_findProof_93 : decode cX5_findProof 93 = .ok (.iload 6, 2) := by decide +kernel
theorem dX5_findProof_95 : decode cX5_findProof 95 = .ok (.isub, 1) := by decide +kernel
theorem dX5_findProof_96 : decode cX5_findProof 96 = .ok (.istore 4, 2) := by decide +kernel
theorem dX5_findProof_98 : decode cX5_findProof 98 = .ok (.iinc 5 1, 3) := by decide +kernel
theorem dX5_findProof_101 : decode cX5_findProof 101 = .ok (.goto (-88), 3) := by decide +kernel
theorem dX5_findProof_104 : decode cX5_findProof 104 = .ok (.aload_n 0, 1) := by decide +kernel
theorem dX5_findProof_105 : decode cX5_findProof 105 = .ok (.getfield 24, 3) := by decide +kernel
theorem dX5_findProof_108 : decode cX5_findProof 108 = .ok (.ireturn, 1) := by decide +kernel
theorem dX5_findPrefixProof_0 : decode cX5_findPrefixProof 0 = .ok (.iconst 0, 1) := by decide +kernel
theorem dX5_findPrefixProof_1 : decode cX5_findPrefixProof 1 = .ok (.istore_n 3, 1) := by decide +kernel
theorem dX5_findPrefixProof_2 : decode cX5_findPrefixProof 2 = .ok (.iload_n 2, 1) := by decide +kernel
theorem dX5_findPrefixProof_3 : decode cX5_findPrefixProof 3 = .ok (.istore 4, 2) := by decide +kernel
theorem dX5_findPrefixProof_5 : decode cX5_findPrefixProof 5 = .ok (.aload_n 0, 1) := by decide +kernel
theorem dX5_findPrefixProof_6 : decode cX5_findPrefixProof 6 = .ok (.iconst 0, 1) := by decide +kernel
theorem dX5_findPrefixProof_7 : decode cX5_findPrefixProof 7 = .ok (.putfield 24, 3) := by decide +kernel
theorem dX5_findPrefixProof_10 : decode cX5_findPrefixProof 10 = .ok (.iconst 0, 1) := by decide +kernel
theorem dX5_findPrefixProof_11 : decode cX5_findPrefixProof 11 = .ok (.istore 5, 2) := by decide +kernel
theorem dX5_findPrefixProof_13 : decode cX5_findPrefixProof 13 = .ok (.iload 5, 2) := by decide +kernel
theorem dX5_findPrefixProof_15 : decode cX5_findPrefixProof 15 = .ok (.bipush 12, 2) := by decide +kernel
theorem dX5_findPrefixProof_17 : decode cX5_findPrefixProof 17 = .ok (.if_icmp .ge 89, 3) := by decide +kernel
theorem dX5_findPrefixProof_20 : decode cX5_findPrefixProof 20 = .ok (.iload_n 3, 1) := by decide +kernel
theorem dX5_findPrefixProof_21 : decode cX5_findPrefixProof 21 = .ok (.iload 4, 2) := by decide +kernel
theorem dX5_findPrefixProof_23 : decode cX5_findPrefixProof 23 = .ok (.iadd, 1) := by decide +kernel
theorem dX5_findPrefixProof_24 : decode cX5_findPrefixProof 24 = .ok (.iload_n 1, 1) := by decide +kernel
theorem dX5_findPrefixProof_25 : decode cX5_findPrefixProof 25 = .ok (.if_icmp .eq 81, 3) := by decide +kernel
theorem dX5_findPrefixProof_28 : decode cX5_findPrefixProof 28 = .ok (.iload 4, 2) := by decide +kernel
theorem dX5_findPrefixProof_30 : decode cX5_findPrefixProof 30 = .ok (.invokestatic 27, 3) := by decide +kernel
theorem dX5_findPrefixProof_33 : decode cX5_findPrefixProof 33 = .ok (.istore 6, 2) := by decide +kernel
theorem dX5_findPrefixProof_35 : decode cX5_findPrefixProof 35 = .ok (.iload_n 1, 1) := by decide +kernel
theorem dX5_findPrefixProof_36 : decode cX5_findPrefixProof 36 = .ok (.iload_n 3, 1) := by decide +kernel
theorem dX5_findPrefixProof_37 : decode cX5_findPrefixProof 37 = .ok (.iload 6, 2) := by decide +kernel
theorem dX5_findPrefixProof_39 : decode cX5_findPrefixProof 39 = .ok (.iadd, 1) := by decide +kernel
theorem dX5_findPrefixProof_40 : decode cX5_findPrefixProof 40 = .ok (.if_icmp .gt 32, 3) := by decide +kernel
theorem dX5_findPrefixProof_43 : decode cX5_findPrefixProof 43 = .ok (.aload_n 0, 1) := by decide +kernel
theorem dX5_findPrefixProof_44 : decode cX5_findPrefixProof 44 = .ok (.aload_n 0, 1) := by decide +kernel
theorem dX5_findPrefixProof_45 : decode cX5_findPrefixProof 45 = .ok (.getfield 9, 3) := by decide +kernel
theorem dX5_findPrefixProof_48 : decode cX5_findPrefixProof 48 = .ok (.iload_n 3, 1) := by decide +kernel
theorem dX5_findPrefixProof_49 : decode cX5_findPrefixProof 49 = .ok (.iload 6, 2) := by decide +kernel
theorem dX5_findPrefixProof_51 : decode cX5_findPrefixProof 51 = .ok (.iadd, 1) := by decide +kernel
theorem dX5_findPrefixProof_52 : decode cX5_findPrefixProof 52 = .ok (.iload 4, 2) := by decide +kernel
theorem dX5_findPrefixProof_54 : decode cX5_findPrefixProof 54 = .ok (.iload 6, 2) := by decide +kernel
theorem dX5_findPrefixProof_56 : decode cX5_findPrefixProof 56 = .ok (.isub, 1) := by decide +kernel
theorem dX5_findPrefixProof_57 : decode cX5_findPrefixProof 57 = .ok (.iload 5, 2) := by decide +kernel
theorem dX5_findPrefixProof_59 : decode cX5_findPrefixProof 59 = .ok (.invokestatic 20, 3) := by decide +kernel
theorem dX5_findPrefixProof_62 : decode cX5_findPrefixProof 62 = .ok (.invokevirtual 31, 3) := by decide +kernel
theorem dX5_findPrefixProof_65 : decode cX5_findPrefixProof 65 = .ok (.iload 6, 2) := by decide +kernel
theorem dX5_findPrefixProof_67 : decode cX5_findPrefixProof 67 = .ok (.istore 4, 2) := by decide +kernel
theorem dX5_findPrefixProof_69 : decode cX5_findPrefixProof 69 = .ok (.goto 31, 3) := by decide +kernel
theorem dX5_findPrefixProof_72 : decode cX5_findPrefixProof 72 = .ok (.aload_n 0, 1) := by decide +kernel
theorem dX5_findPrefixProof_73 : decode cX5_findPrefixProof 73 = .ok (.aload_n 0, 1) := by decide +kernel
theorem dX5_findPrefixProof_74 : decode cX5_findPrefixProof 74 = .ok (.getfield 9, 3) := by decide +kernel
theorem dX5_findPrefixProof_77 : decode cX5_findPrefixProof 77 = .ok (.iload_n 3, 1) := by decide +kernel
theorem dX5_findPrefixProof_78 : decode cX5_findPrefixProof 78 = .ok (.iload 6, 2) := by decide +kernel
theorem dX5_findPrefixProof_80 : decode cX5_findPrefixProof 80 = .ok (.iload 5, 2) := by decide +kernel
theorem dX5_findPrefixProof_82 : decode cX5_findPrefixProof 82 = .ok (.invokestatic 20, 3) := by decide +kernel
theorem dX5_findPrefixProof_85 : decode cX5_findPrefixProof 85 = .ok (.invokevirtual 31, 3) := by decide +kernel
theorem dX5_findPrefixProof_88 : decode cX5_findPrefixProof 88 = .ok (.iload_n 3, 1) := by decide +kernel
theorem dX5_findPrefixProof_89 : decode cX5_findPrefixProof 89 = .ok (.iload 6, 2) := by decide +kernel
theorem dX5_findPrefixProof_91 : decode cX5_findPrefixProof 91 = .ok (.iadd, 1) := by decide +kernel
theorem dX5_findPrefixProof_92 : decode cX5_findPrefixProof 92 = .ok (.istore_n 3, 1) := by decide +kernel
theorem dX5_findPrefixProof_93 : decode cX5_findPrefixProof 93 = .ok (.iload 4, 2) := by decide +kernel
theorem dX5_findPrefixProof_95 : decode cX5_findPrefixProof 95 = .ok (.iload 6, 2) := by decide +kernel
theorem dX5_findPrefixProof_97 : decode cX5_findPrefixProof 97 = .ok (.isub, 1) := by decide +kernel
theorem dX5_findPrefixProof_98 : decode cX5_findPrefixProof 98 = .ok (.istore 4, 2) := by decide +kernel
theorem dX5_findPrefixProof_100 : decode cX5_findPrefixProof 100 = .ok (.iinc 5 1, 3) := by decide +kernel
theorem dX5_findPrefixProof_103 : decode cX5_findPrefixProof 103 = .ok (.goto (-90), 3) := by decide +kernel
theorem dX5_findPrefixProof_106 : decode cX5_findPrefixProof 106 = .ok (.iload_n 3, 1) := by decide +kernel
theorem dX5_findPrefixProof_107 : decode cX5_findPrefixProof 107 = .ok (.ifCond .le 18, 3) := by decide +kernel
theorem dX5_findPrefixProof_110 : decode cX5_findPrefixProof 110 = .ok (.aload_n 0, 1) := by decide +kernel
theorem dX5_findPrefixProof_111 : decode cX5_findPrefixProof 111 = .ok (.aload_n 0, 1) := by decide +kernel
theorem dX5_findPrefixProof_112 : decode cX5_findPrefixProof 112 = .ok (.getfield 9, 3) := by decide +kernel
theorem dX5_findPrefixProof_115 : decode cX5_findPrefixProof 115 = .ok (.iload_n 3, 1) := by decide +kernel
theorem dX5_findPrefixProof_116 : decode cX5_findPrefixProof 116 = .ok (.iload 4, 2) := by decide +kernel
theorem dX5_findPrefixProof_118 : decode cX5_findPrefixProof 118 = .ok (.iconst 0, 1) := by decide +kernel
theorem dX5_findPrefixProof_119 : decode cX5_findPrefixProof 119 = .ok (.invokestatic 20, 3) := by decide +kernel
theorem dX5_findPrefixProof_122 : decode cX5_findPrefixProof 122 = .ok (.invokevirtual 31, 3) := by decide +kernel
theorem dX5_findPrefixProof_125 : decode cX5_findPrefixProof 125 = .ok (.aload_n 0, 1) := by decide +kernel
theorem dX5_findPrefixProof_126 : decode cX5_findPrefixProof 126 = .ok (.getfield 24, 3) := by decide +kernel
theorem dX5_findPrefixProof_129 : decode cX5_findPrefixProof 129 = .ok (.ireturn, 1) := by decide +kernel
theorem dX5_rowAt_0 : decode cX5_rowAt 0 = .ok (.aload_n 0, 1) := by decide +kernel
theorem dX5_rowAt_1 : decode cX5_rowAt 1 = .ok (.getfield 24, 3) := by decide +kernel
theorem dX5_rowAt_4 : decode cX5_rowAt 4 = .ok (.iconst 1, 1) := by decide +kernel
theorem dX5_rowAt_5 : decode cX5_rowAt 5 = .ok (.isub, 1) := by decide +kernel
theorem dX5_rowAt_6 : decode cX5_rowAt 6 = .ok (.iload_n 1, 1) := by decide +kernel
theorem dX5_rowAt_7 : decode cX5_rowAt 7 = .ok (.isub, 1) := by decide +kernel
theorem dX5_rowAt_8 : decode cX5_rowAt 8 = .ok (.istore_n 2, 1) := by decide +kernel
theorem dX5_rowAt_9 : decode cX5_rowAt 9 = .ok (.iload_n 2, 1) := by decide +kernel
theorem dX5_rowAt_10 : decode cX5_rowAt 10 = .ok (.ifCond .lt 21, 3) := by decide +kernel
theorem dX5_rowAt_13 : decode cX5_rowAt 13 = .ok (.iload_n 2, 1) := by decide +kernel
theorem dX5_rowAt_14 : decode cX5_rowAt 14 = .ok (.aload_n 0, 1) := by decide +kernel
theorem dX5_rowAt_15 : decode cX5_rowAt 15 = .ok (.getfield 13, 3) := by decide +kernel
theorem dX5_rowAt_18 : decode cX5_rowAt 18 = .ok (.arraylength, 1) := by decide +kernel
theorem dX5_rowAt_19 : decode cX5_rowAt 19 = .ok (.if_icmp .ge 12, 3) := by decide +kernel
theorem dX5_rowAt_22 : decode cX5_rowAt 22 = .ok (.aload_n 0, 1) := by decide +kernel
theorem dX5_rowAt_23 : decode cX5_rowAt 23 = .ok (.getfield 13, 3) := by decide +kernel
theorem dX5_rowAt_26 : decode cX5_rowAt 26 = .ok (.iload_n 2, 1) := by decide +kernel
theorem dX5_rowAt_27 : decode cX5_rowAt 27 = .ok (.iaload, 1) := by decide +kernel
theorem dX5_rowAt_28 : decode cX5_rowAt 28 = .ok (.goto 4, 3) := by decide +kernel
theorem dX5_rowAt_31 : decode cX5_rowAt 31 = .ok (.iconst 0, 1) := by decide +kernel
theorem dX5_rowAt_32 : decode cX5_rowAt 32 = .ok (.ireturn, 1) := by decide +kernel
theorem dX5_addToRow_0 : decode cX5_addToRow 0 = .ok (.aload_n 0, 1) := by decide +kernel
theorem dX5_addToRow_1 : decode cX5_addToRow 1 = .ok (.getfield 24, 3) := by decide +kernel
theorem dX5_addToRow_4 : decode cX5_addToRow 4 = .ok (.ifCond .lt 35, 3) := by decide +kernel
theorem dX5_addToRow_7 : decode cX5_addToRow 7 = .ok (.aload_n 0, 1) := by decide +kernel
theorem dX5_addToRow_8 : decode cX5_addToRow 8 = .ok (.getfield 24, 3) := by decide +kernel
theorem dX5_addToRow_11 : decode cX5_addToRow 11 = .ok (.aload_n 0, 1) := by decide +kernel
theorem dX5_addToRow_12 : decode cX5_addToRow 12 = .ok (.getfield 13, 3) := by decide +kernel
theorem dX5_addToRow_15 : decode cX5_addToRow 15 = .ok (.arraylength, 1) := by decide +kernel
theorem dX5_addToRow_16 : decode cX5_addToRow 16 = .ok (.if_icmp .ge 23, 3) := by decide +kernel
theorem dX5_addToRow_19 : decode cX5_addToRow 19 = .ok (.aload_n 0, 1) := by decide +kernel
theorem dX5_addToRow_20 : decode cX5_addToRow 20 = .ok (.getfield 13, 3) := by decide +kernel
theorem dX5_addToRow_23 : decode cX5_addToRow 23 = .ok (.aload_n 0, 1) := by decide +kernel
theorem dX5_addToRow_24 : decode cX5_addToRow 24 = .ok (.getfield 24, 3) := by decide +kernel
theorem dX5_addToRow_27 : decode cX5_addToRow 27 = .ok (.iload_n 1, 1) := by decide +kernel
theorem dX5_addToRow_28 : decode cX5_addToRow 28 = .ok (.iastore, 1) := by decide +kernel
theorem dX5_addToRow_29 : decode cX5_addToRow 29 = .ok (.aload_n 0, 1) := by decide +kernel
theorem dX5_addToRow_30 : decode cX5_addToRow 30 = .ok (.dup, 1) := by decide +kernel
theorem dX5_addToRow_31 : decode cX5_addToRow 31 = .ok (.getfield 24, 3) := by decide +kernel
theorem dX5_addToRow_34 : decode cX5_addToRow 34 = .ok (.iconst 1, 1) := by decide +kernel
theorem dX5_addToRow_35 : decode cX5_addToRow 35 = .ok (.iadd, 1) := by decide +kernel
theorem dX5_addToRow_36 : decode cX5_addToRow 36 = .ok (.putfield 24, 3) := by decide +kernel
theorem dX5_addToRow_39 : decode cX5_addToRow 39 = .ok (.return_, 1) := by decide +kernel
theorem dX5_rootOfRange_0 : decode cX5_rootOfRange 0 = .ok (.iload_n 2, 1) := by decide +kernel
theorem dX5_rootOfRange_1 : decode cX5_rootOfRange 1 = .ok (.iconst 1, 1) := by decide +kernel
theorem dX5_rootOfRange_2 : decode cX5_rootOfRange 2 = .ok (.if_icmp .lt 19, 3) := by decide +kernel
theorem dX5_rootOfRange_5 : decode cX5_rootOfRange 5 = .ok (.iload_n 3, 1) := by decide +kernel
theorem dX5_rootOfRange_6 : decode cX5_rootOfRange 6 = .ok (.bipush 12, 2) := by decide +kernel
theorem dX5_rootOfRange_8 : decode cX5_rootOfRange 8 = .ok (.if_icmp .gt 13, 3) := by decide +kernel
theorem dX5_rootOfRange_11 : decode cX5_rootOfRange 11 = .ok (.iload_n 1, 1) := by decide +kernel
theorem dX5_rootOfRange_12 : decode cX5_rootOfRange 12 = .ok (.ifCond .lt 9, 3) := by decide +kernel
theorem dX5_rootOfRange_15 : decode cX5_rootOfRange 15 = .ok (.iload_n 1, 1) := by decide +kernel
theorem dX5_rootOfRange_16 : decode cX5_rootOfRange 16 = .ok (.aload_n 0, 1) := by decide +kernel
theorem dX5_rootOfRange_17 : decode cX5_rootOfRange 17 = .ok (.arraylength, 1) := by decide +kernel
theorem dX5_rootOfRange_18 : decode cX5_rootOfRange 18 = .ok (.if_icmp .lt 5, 3) := by decide +kernel
theorem dX5_rootOfRange_21 : decode cX5_rootOfRange 21 = .ok (.iconst 0, 1) := by decide +kernel
theorem dX5_rootOfRange_22 : decode cX5_rootOfRange 22 = .ok (.ireturn, 1) := by decide +kernel
theorem dX5_rootOfRange_23 : decode cX5_rootOfRange 23 = .ok (.iload_n 2, 1) := by decide +kernel
theorem dX5_rootOfRange_24 : decode cX5_rootOfRange 24 = .ok (.iconst 1, 1) := by decide +kernel
theorem dX5_rootOfRange_25 : decode cX5_rootOfRange 25 = .ok (.if_icmp .ne 12, 3) := by decide +kernel
theorem dX5_rootOfRange_28 : decode cX5_rootOfRange 28 = .ok (.bipush 8, 2) := by decide +kernel
theorem dX5_rootOfRange_30 : decode cX5_rootOfRange 30 = .ok (.aload_n 0, 1) := by decide +kernel
theorem dX5_rootOfRange_31 : decode cX5_rootOfRange 31 = .ok (.iload_n 1, 1) := by decide +kernel
theorem dX5_rootOfRange_32 : decode cX5_rootOfRange 32 = .ok (.iaload, 1) := by decide +kernel
theorem dX5_rootOfRange_33 : decode cX5_rootOfRange 33 = .ok (.invokestatic 35, 3) := by decide +kernel
theorem dX5_rootOfRange_36 : decode cX5_rootOfRange 36 = .ok (.ireturn, 1) := by decide +kernel
theorem dX5_rootOfRange_37 : decode cX5_rootOfRange 37 = .ok (.iload_n 2, 1) := by decide +kernel
theorem dX5_rootOfRange_38 : decode cX5_rootOfRange 38 = .ok (.invokestatic 27, 3) := by decide +kernel
theorem dX5_rootOfRange_41 : decode cX5_rootOfRange 41 = .ok (.istore 4, 2) := by decide +kernel
theorem dX5_rootOfRange_43 : decode cX5_rootOfRange 43 = .ok (.aload_n 0, 1) := by decide +kernel
theorem dX5_rootOfRange_44 : decode cX5_rootOfRange 44 = .ok (.iload_n 1, 1) := by decide +kernel
theorem dX5_rootOfRange_45 : decode cX5_rootOfRange 45 = .ok (.iload 4, 2) := by decide +kernel
theorem dX5_rootOfRange_47 : decode cX5_rootOfRange 47 = .ok (.iload_n 3, 1) := by decide +kernel
theorem dX5_rootOfRange_48 : decode cX5_rootOfRange 48 = .ok (.iconst 1, 1) := by decide +kernel
theorem dX5_rootOfRange_49 : decode cX5_rootOfRange 49 = .ok (.iadd, 1) := by decide +kernel
theorem dX5_rootOfRange_50 : decode cX5_rootOfRange 50 = .ok (.invokestatic 20, 3) := by decide +kernel
theorem dX5_rootOfRange_53 : decode cX5_rootOfRange 53 = .ok (.istore 5, 2) := by decide +kernel
theorem dX5_rootOfRange_55 : decode cX5_rootOfRange 55 = .ok (.aload_n 0, 1) := by decide +kernel
theorem dX5_rootOfRange_56 : decode cX5_rootOfRange 56 = .ok (.iload_n 1, 1) := by decide +kernel
theorem dX5_rootOfRange_57 : decode cX5_rootOfRange 57 = .ok (.iload 4, 2) := by decide +kernel
theorem dX5_rootOfRange_59 : decode cX5_rootOfRange 59 = .ok (.iadd, 1) := by decide +kernel
theorem dX5_rootOfRange_60 : decode cX5_rootOfRange 60 = .ok (.iload_n 2, 1) := by decide +kernel
theorem dX5_rootOfRange_61 : decode cX5_rootOfRange 61 = .ok (.iload 4, 2) := by decide +kernel
theorem dX5_rootOfRange_63 : decode cX5_rootOfRange 63 = .ok (.isub, 1) := by decide +kernel
theorem dX5_rootOfRange_64 : decode cX5_rootOfRange 64 = .ok (.iload_n 3, 1) := by decide +kernel
theorem dX5_rootOfRange_65 : decode cX5_rootOfRange 65 = .ok (.iconst 1, 1) := by decide +kernel
theorem dX5_rootOfRange_66 : decode cX5_rootOfRange 66 = .ok (.iadd, 1) := by decide +kernel
theorem dX5_rootOfRange_67 : decode cX5_rootOfRange 67 = .ok (.invokestatic 20, 3) := by decide +kernel
theorem dX5_rootOfRange_70 : decode cX5_rootOfRange 70 = .ok (.istore 6, 2) := by decide +kernel
theorem dX5_rootOfRange_72 : decode cX5_rootOfRange 72 = .ok (.bipush 9, 2) := by decide +kernel
theorem dX5_rootOfRange_74 : decode cX5_rootOfRange 74 = .ok (.iload 5, 2) := by decide +kernel
theorem dX5_rootOfRange_76 : decode cX5_rootOfRange 76 = .ok (.invokestatic 35, 3) := by decide +kernel
theorem dX5_rootOfRange_79 : decode cX5_rootOfRange 79 = .ok (.iload 6, 2) := by decide +kernel
theorem dX5_rootOfRange_81 : decode cX5_rootOfRange 81 = .ok (.invokestatic 35, 3) := by decide +kernel
theorem dX5_rootOfRange_84 : decode cX5_rootOfRange 84 = .ok (.ireturn, 1) := by decide +kernel
theorem dX5_firstOnes_0 : decode cX5_firstOnes 0 = .ok (.iconst 1, 1) := by decide +kernel
theorem dX5_firstOnes_1 : decode cX5_firstOnes 1 = .ok (.istore_n 1, 1) := by decide +kernel
theorem dX5_firstOnes_2 : decode cX5_firstOnes 2 = .ok (.iconst 0, 1) := by decide +kernel
theorem dX5_firstOnes_3 : decode cX5_firstOnes 3 = .ok (.istore_n 2, 1) := by decide +kernel
theorem dX5_firstOnes_4 : decode cX5_firstOnes 4 = .ok (.iload_n 2, 1) := by decide +kernel
theorem dX5_firstOnes_5 : decode cX5_firstOnes 5 = .ok (.bipush 12, 2) := by decide +kernel
theorem dX5_firstOnes_7 : decode cX5_firstOnes 7 = .ok (.if_icmp .ge 20, 3) := by decide +kernel
theorem dX5_firstOnes_10 : decode cX5_firstOnes 10 = .ok (.iconst 2, 1) := by decide +kernel
theorem dX5_firstOnes_11 : decode cX5_firstOnes 11 = .ok (.iload_n 1, 1) := by decide +kernel
theorem dX5_firstOnes_12 : decode cX5_firstOnes 12 = .ok (.imul, 1) := by decide +kernel
theorem dX5_firstOnes_13 : decode cX5_firstOnes 13 = .ok (.iload_n 0, 1) := by decide +kernel
theorem dX5_firstOnes_14 : decode cX5_firstOnes 14 = .ok (.if_icmp .ge 13, 3) := by decide +kernel
theorem dX5_firstOnes_17 : decode cX5_firstOnes 17 = .ok (.iload_n 1, 1) := by decide +kernel
theorem dX5_firstOnes_18 : decode cX5_firstOnes 18 = .ok (.iconst 2, 1) := by decide +kernel
theorem dX5_firstOnes_19 : decode cX5_firstOnes 19 = .ok (.imul, 1) := by decide +kernel
theorem dX5_firstOnes_20 : decode cX5_firstOnes 20 = .ok (.istore_n 1, 1) := by decide +kernel
theorem dX5_firstOnes_21 : decode cX5_firstOnes 21 = .ok (.iinc 2 1, 3) := by decide +kernel
theorem dX5_firstOnes_24 : decode cX5_firstOnes 24 = .ok (.goto (-20), 3) := by decide +kernel
theorem dX5_firstOnes_27 : decode cX5_firstOnes 27 = .ok (.iload_n 1, 1) := by decide +kernel
theorem dX5_firstOnes_28 : decode cX5_firstOnes 28 = .ok (.ireturn, 1) := by decide +kernel
theorem dX6_init_0 : decode cX6_init 0 = .ok (.aload_n 0, 1) := by decide +kernel
theorem dX6_init_1 : decode cX6_init 1 = .ok (.invokespecial 1, 3) := by decide +kernel
theorem dX6_init_4 : decode cX6_init 4 = .ok (.aload_n 0, 1) := by decide +kernel
theorem dX6_init_5 : decode cX6_init 5 = .ok (.iload_n 1, 1) := by decide +kernel
theorem dX6_init_6 : decode cX6_init 6 = .ok (.putfield 7, 3) := by decide +kernel
theorem dX6_init_9 : decode cX6_init 9 = .ok (.return_, 1) := by decide +kernel
theorem dX6_opened_0 : decode cX6_opened 0 = .ok (.aload_n 0, 1) := by decide +kernel
theorem dX6_opened_1 : decode cX6_opened 1 = .ok (.getfield 13, 3) := by decide +kernel
theorem dX6_opened_4 : decode cX6_opened 4 = .ok (.aload_n 0, 1) := by decide +kernel
theorem dX6_opened_5 : decode cX6_opened 5 = .ok (.getfield 16, 3) := by decide +kernel
theorem dX6_opened_8 : decode cX6_opened 8 = .ok (.invokestatic 19, 3) := by decide +kernel
theorem dX6_opened_11 : decode cX6_opened 11 = .ok (.ireturn, 1) := by decide +kernel
theorem dX7_init_0 : decode cX7_init 0 = .ok (.aload_n 0, 1) := by decide +kernel
theorem dX7_init_1 : decode cX7_init 1 = .ok (.invokespecial 3, 3) := by decide +kernel
theorem dX7_init_4 : decode cX7_init 4 = .ok (.aload_n 0, 1) := by decide +kernel
theorem dX7_init_5 : decode cX7_init 5 = .ok (.bipush 9, 2) := by decide +kernel
theorem dX7_init_7 : decode cX7_init 7 = .ok (.newarray .int, 2) := by decide +kernel
theorem dX7_init_9 : decode cX7_init 9 = .ok (.putfield 9, 3) := by decide +kernel
theorem dX7_init_12 : decode cX7_init 12 = .ok (.aload_n 0, 1) := by decide +kernel
theorem dX7_init_13 : decode cX7_init 13 = .ok (.bipush 9, 2) := by decide +kernel
theorem dX7_init_15 : decode cX7_init 15 = .ok (.newarray .boolean, 2) := by decide +kernel
theorem dX7_init_17 : decode cX7_init 17 = .ok (.putfield 15, 3) := by decide +kernel
theorem dX7_init_20 : decode cX7_init 20 = .ok (.return_, 1) := by decide +kernel
theorem dX7_shareOf_0 : decode cX7_shareOf 0 = .ok (.iconst 3, 1) := by decide +kernel
theorem dX7_shareOf_1 : decode cX7_shareOf 1 = .ok (.iload_n 1, 1) := by decide +kernel
theorem dX7_shareOf_2 : decode cX7_shareOf 2 = .ok (.invokestatic 19, 3) := by decide +kernel
theorem dX7_shareOf_5 : decode cX7_shareOf 5 = .ok (.istore 4, 2) := by decide +kernel
theorem dX7_shareOf_7 : decode cX7_shareOf 7 = .ok (.lconst 0, 1) := by decide +kernel
theorem dX7_shareOf_8 : decode cX7_shareOf 8 = .ok (.lstore 5, 2) := by decide +kernel
theorem dX7_shareOf_10 : decode cX7_shareOf 10 = .ok (.iload_n 2, 1) := by decide +kernel
theorem dX7_shareOf_11 : decode cX7_shareOf 11 = .ok (.iconst 1, 1) := by decide +kernel
theorem dX7_shareOf_12 : decode cX7_shareOf 12 = .ok (.isub, 1) := by decide +kernel
theorem dX7_shareOf_13 : decode cX7_shareOf 13 = .ok (.istore 7, 2) := by decide +kernel
theorem dX7_shareOf_15 : decode cX7_shareOf 15 = .ok (.iload 7, 2) := by decide +kernel
theorem dX7_shareOf_17 : decode cX7_shareOf 17 = .ok (.iconst 1, 1) := by decide +kernel
theorem dX7_shareOf_18 : decode cX7_shareOf 18 = .ok (.if_icmp .lt 34, 3) := by decide +kernel
theorem dX7_shareOf_21 : decode cX7_shareOf 21 = .ok (.lload 5, 2) := by decide +kernel
theorem dX7_shareOf_23 : decode cX7_shareOf 23 = .ok (.iload 4, 2) := by decide +kernel
theorem dX7_shareOf_25 : decode cX7_shareOf 25 = .ok (.iload 7, 2) := by decide +kernel
theorem dX7_shareOf_27 : decode cX7_shareOf 27 = .ok (.invokestatic 19, 3) := by decide +kernel
theorem dX7_shareOf_30 : decode cX7_shareOf 30 = .ok (.ldc 25, 2) := by decide +kernel
theorem dX7_shareOf_32 : decode cX7_shareOf 32 = .ok (.invokestatic 26, 3) := by decide +kernel
theorem dX7_shareOf_35 : decode cX7_shareOf 35 = .ok (.i2l, 1) := by decide +kernel
theorem dX7_shareOf_36 : decode cX7_shareOf 36 = .ok (.ladd, 1) := by decide +kernel
theorem dX7_shareOf_37 : decode cX7_shareOf 37 = .ok (.iload_n 3, 1) := by decide +kernel
theorem dX7_shareOf_38 : decode cX7_shareOf 38 = .ok (.i2l, 1) := by decide +kernel
theorem dX7_shareOf_39 : decode cX7_shareOf 39 = .ok (.lmul, 1) := by decide +kernel
theorem dX7_shareOf_40 : decode cX7_shareOf 40 = .ok (.ldc2_w 31, 3) := by decide +kernel
theorem dX7_shareOf_43 : decode cX7_shareOf 43 = .ok (.lrem, 1) := by decide +kernel
theorem dX7_shareOf_44 : decode cX7_shareOf 44 = .ok (.lstore 5, 2) := by decide +kernel
theorem dX7_shareOf_46 : decode cX7_shareOf 46 = .ok (.iinc 7 (-1), 3) := by decide +kernel
theorem dX7_shareOf_49 : decode cX7_shareOf 49 = .ok (.goto (-34), 3) := by decide +kernel
theorem dX7_shareOf_52 : decode cX7_shareOf 52 = .ok (.lload 5, 2) := by decide +kernel
theorem dX7_shareOf_54 : decode cX7_shareOf 54 = .ok (.iload_n 0, 1) := by decide +kernel
theorem dX7_shareOf_55 : decode cX7_shareOf 55 = .ok (.i2l, 1) := by decide +kernel
theorem dX7_shareOf_56 : decode cX7_shareOf 56 = .ok (.ladd, 1) := by decide +kernel
theorem dX7_shareOf_57 : decode cX7_shareOf 57 = .ok (.ldc2_w 31, 3) := by decide +kernel
theorem dX7_shareOf_60 : decode cX7_shareOf 60 = .ok (.lrem, 1) := by decide +kernel
theorem dX7_shareOf_61 : decode cX7_shareOf 61 = .ok (.l2i, 1) := by decide +kernel
theorem dX7_shareOf_62 : decode cX7_shareOf 62 = .ok (.ireturn, 1) := by decide +kernel
theorem dX7_keptCount_0 : decode cX7_keptCount 0 = .ok (.aload_n 0, 1) := by decide +kernel
theorem dX7_keptCount_1 : decode cX7_keptCount 1 = .ok (.getfield 33, 3) := by decide +kernel
theorem dX7_keptCount_4 : decode cX7_keptCount 4 = .ok (.ireturn, 1) := by decide +kernel
theorem dX7_keep_0 : decode cX7_keep 0 = .ok (.iload_n 1, 1) := by decide +kernel
theorem dX7_keep_1 : decode cX7_keep 1 = .ok (.iconst 1, 1) := by decide +kernel
theorem dX7_keep_2 : decode cX7_keep 2 = .ok (.if_icmp .lt 54, 3) := by decide +kernel
theorem dX7_keep_5 : decode cX7_keep 5 = .ok (.iload_n 1, 1) := by decide +kernel
theorem dX7_keep_6 : decode cX7_keep 6 = .ok (.aload_n 0, 1) := by decide +kernel
theorem dX7_keep_7 : decode cX7_keep 7 = .ok (.getfield 15, 3) := by decide +kernel
theorem dX7_keep_10 : decode cX7_keep 10 = .ok (.arraylength, 1) := by decide +kernel
theorem dX7_keep_11 : decode cX7_keep 11 = .ok (.if_icmp .ge 45, 3) := by decide +kernel
theorem dX7_keep_14 : decode cX7_keep 14 = .ok (.iload_n 1, 1) := by decide +kernel
theorem dX7_keep_15 : decode cX7_keep 15 = .ok (.aload_n 0, 1) := by decide +kernel
theorem dX7_keep_16 : decode cX7_keep 16 = .ok (.getfield 9, 3) := by decide +kernel
theorem dX7_keep_19 : decode cX7_keep 19 = .ok (.arraylength, 1) := by decide +kernel
theorem dX7_keep_20 : decode cX7_keep 20 = .ok (.if_icmp .ge 36, 3) := by decide +kernel
theorem dX7_keep_23 : decode cX7_keep 23 = .ok (.aload_n 0, 1) := by decide +kernel
theorem dX7_keep_24 : decode cX7_keep 24 = .ok (.getfield 15, 3) := by decide +kernel
theorem dX7_keep_27 : decode cX7_keep 27 = .ok (.iload_n 1, 1) := by decide +kernel
theorem dX7_keep_28 : decode cX7_keep 28 = .ok (.baload, 1) := by decide +kernel
theorem dX7_keep_29 : decode cX7_keep 29 = .ok (.ifCond .ne 13, 3) := by decide +kernel
theorem dX7_keep_32 : decode cX7_keep 32 = .ok (.aload_n 0, 1) := by decide +kernel
theorem dX7_keep_33 : decode cX7_keep 33 = .ok (.dup, 1) := by decide +kernel
theorem dX7_keep_34 : decode cX7_keep 34 = .ok (.getfield 33, 3) := by decide +kernel
theorem dX7_keep_37 : decode cX7_keep 37 = .ok (.iconst 1, 1) := by decide +kernel
theorem dX7_keep_38 : decode cX7_keep 38 = .ok (.iadd, 1) := by decide +kernel
theorem dX7_keep_39 : decode cX7_keep 39 = .ok (.putfield 33, 3) := by decide +kernel
theorem dX7_keep_42 : decode cX7_keep 42 = .ok (.aload_n 0, 1) := by decide +kernel
theorem dX7_keep_43 : decode cX7_keep 43 = .ok (.getfield 15, 3) := by decide +kernel
theorem dX7_keep_46 : decode cX7_keep 46 = .ok (.iload_n 1, 1) := by decide +kernel
theorem dX7_keep_47 : decode cX7_keep 47 = .ok (.iconst 1, 1) := by decide +kernel
theorem dX7_keep_48 : decode cX7_keep 48 = .ok (.bastore, 1) := by decide +kernel
theorem dX7_keep_49 : decode cX7_keep 49 = .ok (.aload_n 0, 1) := by decide +kernel
theorem dX7_keep_50 : decode cX7_keep 50 = .ok (.getfield 9, 3) := by decide +kernel
theorem dX7_keep_53 : decode cX7_keep 53 = .ok (.iload_n 1, 1) := by decide +kernel
theorem dX7_keep_54 : decode cX7_keep 54 = .ok (.iload_n 2, 1) := by decide +kernel
theorem dX7_keep_55 : decode cX7_keep 55 = .ok (.iastore, 1) := by decide +kernel
theorem dX7_keep_56 : decode cX7_keep 56 = .ok (.return_, 1) := by decide +kernel
theorem dX7_clear_0 : decode cX7_clear 0 = .ok (.aload_n 0, 1) := by decide +kernel
theorem dX7_clear_1 : decode cX7_clear 1 = .ok (.getfield 33, 3) := by decide +kernel
theorem dX7_clear_4 : decode cX7_clear 4 = .ok (.istore_n 1, 1) := by decide +kernel
theorem dX7_clear_5 : decode cX7_clear 5 = .ok (.iconst 1, 1) := by decide +kernel
theorem dX7_clear_6 : decode cX7_clear 6 = .ok (.istore_n 2, 1) := by decide +kernel
theorem dX7_clear_7 : decode cX7_clear 7 = .ok (.iload_n 2, 1) := by decide +kernel
theorem dX7_clear_8 : decode cX7_clear 8 = .ok (.aload_n 0, 1) := by decide +kernel
theorem dX7_clear_9 : decode cX7_clear 9 = .ok (.getfield 15, 3) := by decide +kernel
theorem dX7_clear_12 : decode cX7_clear 12 = .ok (.arraylength, 1) := by decide +kernel
theorem dX7_clear_13 : decode cX7_clear 13 = .ok (.if_icmp .ge 16, 3) := by decide +kernel
theorem dX7_clear_16 : decode cX7_clear 16 = .ok (.aload_n 0, 1) := by decide +kernel
theorem dX7_clear_17 : decode cX7_clear 17 = .ok (.getfield 15, 3) := by decide +kernel
theorem dX7_clear_20 : decode cX7_clear 20 = .ok (.iload_n 2, 1) := by decide +kernel
theorem dX7_clear_21 : decode cX7_clear 21 = .ok (.iconst 0, 1) := by decide +kernel
theorem dX7_clear_22 : decode cX7_clear 22 = .ok (.bastore, 1) := by decide +kernel
theorem dX7_clear_23 : decode cX7_clear 23 = .ok (.iinc 2 1, 3) := by decide +kernel
theorem dX7_clear_26 : decode cX7_clear 26 = .ok (.goto (-19), 3) := by decide +kernel
theorem dX7_clear_29 : decode cX7_clear 29 = .ok (.aload_n 0, 1) := by decide +kernel
theorem dX7_clear_30 : decode cX7_clear 30 = .ok (.iconst 0, 1) := by decide +kernel
theorem dX7_clear_31 : decode cX7_clear 31 = .ok (.putfield 33, 3) := by decide +kernel
theorem dX7_clear_34 : decode cX7_clear 34 = .ok (.iload_n 1, 1) := by decide +kernel
theorem dX7_clear_35 : decode cX7_clear 35 = .ok (.ireturn, 1) := by decide +kernel
theorem dX7_valueAtZero_0 : decode cX7_valueAtZero 0 = .ok (.lconst 0, 1) := by decide +kernel
theorem dX7_valueAtZero_1 : decode cX7_valueAtZero 1 = .ok (.lstore_n 1, 1) := by decide +kernel
theorem dX7_valueAtZero_2 : decode cX7_valueAtZero 2 = .ok (.iconst 1, 1) := by decide +kernel
theorem dX7_valueAtZero_3 : decode cX7_valueAtZero 3 = .ok (.istore_n 3, 1) := by decide +kernel
theorem dX7_valueAtZero_4 : decode cX7_valueAtZero 4 = .ok (.iload_n 3, 1) := by decide +kernel
theorem dX7_valueAtZero_5 : decode cX7_valueAtZero 5 = .ok (.aload_n 0, 1) := by decide +kernel
theorem dX7_valueAtZero_6 : decode cX7_valueAtZero 6 = .ok (.getfield 15, 3) := by decide +kernel
theorem dX7_valueAtZero_9 : decode cX7_valueAtZero 9 = .ok (.arraylength, 1) := by decide +kernel
theorem dX7_valueAtZero_10 : decode cX7_valueAtZero 10 = .ok (.if_icmp .ge 47, 3) := by decide +kernel
theorem dX7_valueAtZero_13 : decode cX7_valueAtZero 13 = .ok (.iload_n 3, 1) := by decide +kernel
theorem dX7_valueAtZero_14 : decode cX7_valueAtZero 14 = .ok (.aload_n 0, 1) := by decide +kernel
theorem dX7_valueAtZero_15 : decode cX7_valueAtZero 15 = .ok (.getfield 9, 3) := by decide +kernel
theorem dX7_valueAtZero_18 : decode cX7_valueAtZero 18 = .ok (.arraylength, 1) := by decide +kernel
theorem dX7_valueAtZero_19 : decode cX7_valueAtZero 19 = .ok (.if_icmp .ge 38, 3) := by decide +kernel
theorem dX7_valueAtZero_22 : decode cX7_valueAtZero 22 = .ok (.aload_n 0, 1) := by decide +kernel
theorem dX7_valueAtZero_23 : decode cX7_valueAtZero 23 = .ok (.getfield 15, 3) := by decide +kernel
theorem dX7_valueAtZero_26 : decode cX7_valueAtZero 26 = .ok (.iload_n 3, 1) := by decide +kernel
theorem dX7_valueAtZero_27 : decode cX7_valueAtZero 27 = .ok (.baload, 1) := by decide +kernel
theorem dX7_valueAtZero_28 : decode cX7_valueAtZero 28 = .ok (.ifCond .eq 23, 3) := by decide +kernel
theorem dX7_valueAtZero_31 : decode cX7_valueAtZero 31 = .ok (.lload_n 1, 1) := by decide +kernel
theorem dX7_valueAtZero_32 : decode cX7_valueAtZero 32 = .ok (.aload_n 0, 1) := by decide +kernel
theorem dX7_valueAtZero_33 : decode cX7_valueAtZero 33 = .ok (.getfield 9, 3) := by decide +kernel
theorem dX7_valueAtZero_36 : decode cX7_valueAtZero 36 = .ok (.iload_n 3, 1) := by decide +kernel
theorem dX7_valueAtZero_37 : decode cX7_valueAtZero 37 = .ok (.iaload, 1) := by decide +kernel
theorem dX7_valueAtZero_38 : decode cX7_valueAtZero 38 = .ok (.i2l, 1) := by decide +kernel
theorem dX7_valueAtZero_39 : decode cX7_valueAtZero 39 = .ok (.aload_n 0, 1) := by decide +kernel
theorem dX7_valueAtZero_40 : decode cX7_valueAtZero 40 = .ok (.iload_n 3, 1) := by decide +kernel
theorem dX7_valueAtZero_41 : decode cX7_valueAtZero 41 = .ok (.invokevirtual 37, 3) := by decide +kernel
theorem dX7_valueAtZero_44 : decode cX7_valueAtZero 44 = .ok (.lmul, 1) := by decide +kernel
theorem dX7_valueAtZero_45 : decode cX7_valueAtZero 45 = .ok (.ldc2_w 31, 3) := by decide +kernel
theorem dX7_valueAtZero_48 : decode cX7_valueAtZero 48 = .ok (.lrem, 1) := by decide +kernel
theorem dX7_valueAtZero_49 : decode cX7_valueAtZero 49 = .ok (.ladd, 1) := by decide +kernel
theorem dX7_valueAtZero_50 : decode cX7_valueAtZero 50 = .ok (.lstore_n 1, 1) := by decide +kernel
theorem dX7_valueAtZero_51 : decode cX7_valueAtZero 51 = .ok (.iinc 3 1, 3) := by decide +kernel
theorem dX7_valueAtZero_54 : decode cX7_valueAtZero 54 = .ok (.goto (-50), 3) := by decide +kernel
theorem dX7_valueAtZero_57 : decode cX7_valueAtZero 57 = .ok (.lload_n 1, 1) := by decide +kernel
theorem dX7_valueAtZero_58 : decode cX7_valueAtZero 58 = .ok (.ldc2_w 31, 3) := by decide +kernel
theorem dX7_valueAtZero_61 : decode cX7_valueAtZero 61 = .ok (.lrem, 1) := by decide +kernel
theorem dX7_valueAtZero_62 : decode cX7_valueAtZero 62 = .ok (.l2i, 1) := by decide +kernel
theorem dX7_valueAtZero_63 : decode cX7_valueAtZero 63 = .ok (.ireturn, 1) := by decide +kernel
theorem dX7_weightAtZero_0 : decode cX7_weightAtZero 0 = .ok (.lconst 1, 1) := by decide +kernel
theorem dX7_weightAtZero_1 : decode cX7_weightAtZero 1 = .ok (.lstore_n 2, 1) := by decide +kernel
theorem dX7_weightAtZero_2 : decode cX7_weightAtZero 2 = .ok (.lconst 1, 1) := by decide +kernel
theorem dX7_weightAtZero_3 : decode cX7_weightAtZero 3 = .ok (.lstore 4, 2) := by decide +kernel
theorem dX7_weightAtZero_5 : decode cX7_weightAtZero 5 = .ok (.iconst 1, 1) := by decide +kernel
theorem dX7_weightAtZero_6 : decode cX7_weightAtZero 6 = .ok (.istore 6, 2) := by decide +kernel
theorem dX7_weightAtZero_8 : decode cX7_weightAtZero 8 = .ok (.iload 6, 2) := by decide +kernel
theorem dX7_weightAtZero_10 : decode cX7_weightAtZero 10 = .ok (.aload_n 0, 1) := by decide +kernel
theorem dX7_weightAtZero_11 : decode cX7_weightAtZero 11 = .ok (.getfield 15, 3) := by decide +kernel
theorem dX7_weightAtZero_14 : decode cX7_weightAtZero 14 = .ok (.arraylength, 1) := by decide +kernel
theorem dX7_weightAtZero_15 : decode cX7_weightAtZero 15 = .ok (.if_icmp .ge 54, 3) := by decide +kernel
theorem dX7_weightAtZero_18 : decode cX7_weightAtZero 18 = .ok (.iload 6, 2) := by decide +kernel
theorem dX7_weightAtZero_20 : decode cX7_weightAtZero 20 = .ok (.iload_n 1, 1) := by decide +kernel
theorem dX7_weightAtZero_21 : decode cX7_weightAtZero 21 = .ok (.if_icmp .eq 42, 3) := by decide +kernel
theorem dX7_weightAtZero_24 : decode cX7_weightAtZero 24 = .ok (.aload_n 0, 1) := by decide +kernel
theorem dX7_weightAtZero_25 : decode cX7_weightAtZero 25 = .ok (.getfield 15, 3) := by decide +kernel
theorem dX7_weightAtZero_28 : decode cX7_weightAtZero 28 = .ok (.iload 6, 2) := by decide +kernel
theorem dX7_weightAtZero_30 : decode cX7_weightAtZero 30 = .ok (.baload, 1) := by decide +kernel
theorem dX7_weightAtZero_31 : decode cX7_weightAtZero 31 = .ok (.ifCond .eq 32, 3) := by decide +kernel
theorem dX7_weightAtZero_34 : decode cX7_weightAtZero 34 = .ok (.lload_n 2, 1) := by decide +kernel
theorem dX7_weightAtZero_35 : decode cX7_weightAtZero 35 = .ok (.iload 6, 2) := by decide +kernel
theorem dX7_weightAtZero_37 : decode cX7_weightAtZero 37 = .ok (.i2l, 1) := by decide +kernel
theorem dX7_weightAtZero_38 : decode cX7_weightAtZero 38 = .ok (.lmul, 1) := by decide +kernel
theorem dX7_weightAtZero_39 : decode cX7_weightAtZero 39 = .ok (.ldc2_w 31, 3) := by decide +kernel
theorem dX7_weightAtZero_42 : decode cX7_weightAtZero 42 = .ok (.lrem, 1) := by decide +kernel
theorem dX7_weightAtZero_43 : decode cX7_weightAtZero 43 = .ok (.lstore_n 2, 1) := by decide +kernel
theorem dX7_weightAtZero_44 : decode cX7_weightAtZero 44 = .ok (.lload 4, 2) := by decide +kernel
theorem dX7_weightAtZero_46 : decode cX7_weightAtZero 46 = .ok (.iload 6, 2) := by decide +kernel
theorem dX7_weightAtZero_48 : decode cX7_weightAtZero 48 = .ok (.iload_n 1, 1) := by decide +kernel
theorem dX7_weightAtZero_49 : decode cX7_weightAtZero 49 = .ok (.isub, 1) := by decide +kernel
theorem dX7_weightAtZero_50 : decode cX7_weightAtZero 50 = .ok (.ldc 25, 2) := by decide +kernel
theorem dX7_weightAtZero_52 : decode cX7_weightAtZero 52 = .ok (.invokestatic 26, 3) := by decide +kernel
theorem dX7_weightAtZero_55 : decode cX7_weightAtZero 55 = .ok (.i2l, 1) := by decide +kernel
theorem dX7_weightAtZero_56 : decode cX7_weightAtZero 56 = .ok (.lmul, 1) := by decide +kernel
theorem dX7_weightAtZero_57 : decode cX7_weightAtZero 57 = .ok (.ldc2_w 31, 3) := by decide +kernel
theorem dX7_weightAtZero_60 : decode cX7_weightAtZero 60 = .ok (.lrem, 1) := by decide +kernel
theorem dX7_weightAtZero_61 : decode cX7_weightAtZero 61 = .ok (.lstore 4, 2) := by decide +kernel
theorem dX7_weightAtZero_63 : decode cX7_weightAtZero 63 = .ok (.iinc 6 1, 3) := by decide +kernel
theorem dX7_weightAtZero_66 : decode cX7_weightAtZero 66 = .ok (.goto (-58), 3) := by decide +kernel
theorem dX7_weightAtZero_69 : decode cX7_weightAtZero 69 = .ok (.lload_n 2, 1) := by decide +kernel
theorem dX7_weightAtZero_70 : decode cX7_weightAtZero 70 = .ok (.lload 4, 2) := by decide +kernel
theorem dX7_weightAtZero_72 : decode cX7_weightAtZero 72 = .ok (.invokestatic 41, 3) := by decide +kernel
theorem dX7_weightAtZero_75 : decode cX7_weightAtZero 75 = .ok (.lmul, 1) := by decide +kernel
theorem dX7_weightAtZero_76 : decode cX7_weightAtZero 76 = .ok (.ldc2_w 31, 3) := by decide +kernel
theorem dX7_weightAtZero_79 : decode cX7_weightAtZero 79 = .ok (.lrem, 1) := by decide +kernel
theorem dX7_weightAtZero_80 : decode cX7_weightAtZero 80 = .ok (.lreturn, 1) := by decide +kernel
theorem dX7_inverseOf_0 : decode cX7_inverseOf 0 = .ok (.lconst 1, 1) := by decide +kernel
theorem dX7_inverseOf_1 : decode cX7_inverseOf 1 = .ok (.lstore_n 2, 1) := by decide +kernel
theorem dX7_inverseOf_2 : decode cX7_inverseOf 2 = .ok (.lload_n 0, 1) := by decide +kernel
theorem dX7_inverseOf_3 : decode cX7_inverseOf 3 = .ok (.lstore 4, 2) := by decide +kernel
theorem dX7_inverseOf_5 : decode cX7_inverseOf 5 = .ok (.ldc 45, 2) := by decide +kernel
theorem dX7_inverseOf_7 : decode cX7_inverseOf 7 = .ok (.istore 6, 2) := by decide +kernel
theorem dX7_inverseOf_9 : decode cX7_inverseOf 9 = .ok (.iconst 0, 1) := by decide +kernel
theorem dX7_inverseOf_10 : decode cX7_inverseOf 10 = .ok (.istore 7, 2) := by decide +kernel
theorem dX7_inverseOf_12 : decode cX7_inverseOf 12 = .ok (.iload 7, 2) := by decide +kernel
theorem dX7_inverseOf_14 : decode cX7_inverseOf 14 = .ok (.bipush 16, 2) := by decide +kernel
theorem dX7_inverseOf_16 : decode cX7_inverseOf 16 = .ok (.if_icmp .ge 40, 3) := by decide +kernel
theorem dX7_inverseOf_19 : decode cX7_inverseOf 19 = .ok (.iload 6, 2) := by decide +kernel
theorem dX7_inverseOf_21 : decode cX7_inverseOf 21 = .ok (.iload 7, 2) := by decide +kernel
theorem dX7_inverseOf_23 : decode cX7_inverseOf 23 = .ok (.iushr, 1) := by decide +kernel
theorem dX7_inverseOf_24 : decode cX7_inverseOf 24 = .ok (.iconst 1, 1) := by decide +kernel
theorem dX7_inverseOf_25 : decode cX7_inverseOf 25 = .ok (.iand, 1) := by decide +kernel
theorem dX7_inverseOf_26 : decode cX7_inverseOf 26 = .ok (.iconst 1, 1) := by decide +kernel
theorem dX7_inverseOf_27 : decode cX7_inverseOf 27 = .ok (.if_icmp .ne 12, 3) := by decide +kernel
theorem dX7_inverseOf_30 : decode cX7_inverseOf 30 = .ok (.lload_n 2, 1) := by decide +kernel
theorem dX7_inverseOf_31 : decode cX7_inverseOf 31 = .ok (.lload 4, 2) := by decide +kernel
theorem dX7_inverseOf_33 : decode cX7_inverseOf 33 = .ok (.lmul, 1) := by decide +kernel
theorem dX7_inverseOf_34 : decode cX7_inverseOf 34 = .ok (.ldc2_w 31, 3) := by decide +kernel
theorem dX7_inverseOf_37 : decode cX7_inverseOf 37 = .ok (.lrem, 1) := by decide +kernel
theorem dX7_inverseOf_38 : decode cX7_inverseOf 38 = .ok (.lstore_n 2, 1) := by decide +kernel
theorem dX7_inverseOf_39 : decode cX7_inverseOf 39 = .ok (.lload 4, 2) := by decide +kernel
theorem dX7_inverseOf_41 : decode cX7_inverseOf 41 = .ok (.lload 4, 2) := by decide +kernel
theorem dX7_inverseOf_43 : decode cX7_inverseOf 43 = .ok (.lmul, 1) := by decide +kernel
theorem dX7_inverseOf_44 : decode cX7_inverseOf 44 = .ok (.ldc2_w 31, 3) := by decide +kernel
theorem dX7_inverseOf_47 : decode cX7_inverseOf 47 = .ok (.lrem, 1) := by decide +kernel
theorem dX7_inverseOf_48 : decode cX7_inverseOf 48 = .ok (.lstore 4, 2) := by decide +kernel
theorem dX7_inverseOf_50 : decode cX7_inverseOf 50 = .ok (.iinc 7 1, 3) := by decide +kernel
theorem dX7_inverseOf_53 : decode cX7_inverseOf 53 = .ok (.goto (-41), 3) := by decide +kernel
theorem dX7_inverseOf_56 : decode cX7_inverseOf 56 = .ok (.lload_n 2, 1) := by decide +kernel
theorem dX7_inverseOf_57 : decode cX7_inverseOf 57 = .ok (.lreturn, 1) := by decide +kernel
theorem dX8_init_0 : decode cX8_init 0 = .ok (.aload_n 0, 1) := by decide +kernel
theorem dX8_init_1 : decode cX8_init 1 = .ok (.invokespecial 1, 3) := by decide +kernel
theorem dX8_init_4 : decode cX8_init 4 = .ok (.aload_n 0, 1) := by decide +kernel
theorem dX8_init_5 : decode cX8_init 5 = .ok (.sipush 256, 3) := by decide +kernel
theorem dX8_init_8 : decode cX8_init 8 = .ok (.newarray .int, 2) := by decide +kernel
theorem dX8_init_10 : decode cX8_init 10 = .ok (.putfield 9, 3) := by decide +kernel
theorem dX8_init_13 : decode cX8_init 13 = .ok (.return_, 1) := by decide +kernel
theorem dX8_isNew_0 : decode cX8_isNew 0 = .ok (.iload_n 1, 1) := by decide +kernel
theorem dX8_isNew_1 : decode cX8_isNew 1 = .ok (.ifCond .ne 23, 3) := by decide +kernel
theorem dX8_isNew_4 : decode cX8_isNew 4 = .ok (.aload_n 0, 1) := by decide +kernel
theorem dX8_isNew_5 : decode cX8_isNew 5 = .ok (.getfield 13, 3) := by decide +kernel
theorem dX8_isNew_8 : decode cX8_isNew 8 = .ok (.ifCond .ne 7, 3) := by decide +kernel
theorem dX8_isNew_11 : decode cX8_isNew 11 = .ok (.iconst 1, 1) := by decide +kernel
theorem dX8_isNew_12 : decode cX8_isNew 12 = .ok (.goto 4, 3) := by decide +kernel
theorem dX8_isNew_15 : decode cX8_isNew 15 = .ok (.iconst 0, 1) := by decide +kernel
theorem dX8_isNew_16 : decode cX8_isNew 16 = .ok (.istore_n 2, 1) := by decide +kernel
theorem dX8_isNew_17 : decode cX8_isNew 17 = .ok (.aload_n 0, 1) := by decide +kernel
theorem dX8_isNew_18 : decode cX8_isNew 18 = .ok (.iconst 1, 1) := by decide +kernel
theorem dX8_isNew_19 : decode cX8_isNew 19 = .ok (.putfield 13, 3) := by decide +kernel
theorem dX8_isNew_22 : decode cX8_isNew 22 = .ok (.iload_n 2, 1) := by decide +kernel
theorem dX8_isNew_23 : decode cX8_isNew 23 = .ok (.ireturn, 1) := by decide +kernel
theorem dX8_isNew_24 : decode cX8_isNew 24 = .ok (.aload_n 0, 1) := by decide +kernel
theorem dX8_isNew_25 : decode cX8_isNew 25 = .ok (.getfield 9, 3) := by decide +kernel
theorem dX8_isNew_28 : decode cX8_isNew 28 = .ok (.iload_n 1, 1) := by decide +kernel
theorem dX8_isNew_29 : decode cX8_isNew 29 = .ok (.invokestatic 17, 3) := by decide +kernel
theorem dX8_isNew_32 : decode cX8_isNew 32 = .ok (.istore_n 2, 1) := by decide +kernel
theorem dX8_isNew_33 : decode cX8_isNew 33 = .ok (.iload_n 2, 1) := by decide +kernel
theorem dX8_isNew_34 : decode cX8_isNew 34 = .ok (.ifCond .lt 31, 3) := by decide +kernel
theorem dX8_isNew_37 : decode cX8_isNew 37 = .ok (.iload_n 2, 1) := by decide +kernel
theorem dX8_isNew_38 : decode cX8_isNew 38 = .ok (.aload_n 0, 1) := by decide +kernel
theorem dX8_isNew_39 : decode cX8_isNew 39 = .ok (.getfield 9, 3) := by decide +kernel
theorem dX8_isNew_42 : decode cX8_isNew 42 = .ok (.arraylength, 1) := by decide +kernel
theorem dX8_isNew_43 : decode cX8_isNew 43 = .ok (.if_icmp .ge 22, 3) := by decide +kernel
theorem dX8_isNew_46 : decode cX8_isNew 46 = .ok (.aload_n 0, 1) := by decide +kernel
theorem dX8_isNew_47 : decode cX8_isNew 47 = .ok (.getfield 9, 3) := by decide +kernel
theorem dX8_isNew_50 : decode cX8_isNew 50 = .ok (.iload_n 2, 1) := by decide +kernel
theorem dX8_isNew_51 : decode cX8_isNew 51 = .ok (.iaload, 1) := by decide +kernel
theorem dX8_isNew_52 : decode cX8_isNew 52 = .ok (.iload_n 1, 1) := by decide +kernel
theorem dX8_isNew_53 : decode cX8_isNew 53 = .ok (.if_icmp .eq 12, 3) := by decide +kernel
theorem dX8_isNew_56 : decode cX8_isNew 56 = .ok (.aload_n 0, 1) := by decide +kernel
theorem dX8_isNew_57 : decode cX8_isNew 57 = .ok (.getfield 21, 3) := by decide +kernel
theorem dX8_isNew_60 : decode cX8_isNew 60 = .ok (.ldc 25, 2) := by decide +kernel
theorem dX8_isNew_62 : decode cX8_isNew 62 = .ok (.if_icmp .lt 5, 3) := by decide +kernel
theorem dX8_isNew_65 : decode cX8_isNew 65 = .ok (.iconst 0, 1) := by decide +kernel
theorem dX8_isNew_66 : decode cX8_isNew 66 = .ok (.ireturn, 1) := by decide +kernel
theorem dX8_isNew_67 : decode cX8_isNew 67 = .ok (.aload_n 0, 1) := by decide +kernel
theorem dX8_isNew_68 : decode cX8_isNew 68 = .ok (.getfield 9, 3) := by decide +kernel
theorem dX8_isNew_71 : decode cX8_isNew 71 = .ok (.iload_n 2, 1) := by decide +kernel
theorem dX8_isNew_72 : decode cX8_isNew 72 = .ok (.iload_n 1, 1) := by decide +kernel
theorem dX8_isNew_73 : decode cX8_isNew 73 = .ok (.iastore, 1) := by decide +kernel
theorem dX8_isNew_74 : decode cX8_isNew 74 = .ok (.aload_n 0, 1) := by decide +kernel
theorem dX8_isNew_75 : decode cX8_isNew 75 = .ok (.dup, 1) := by decide +kernel
theorem dX8_isNew_76 : decode cX8_isNew 76 = .ok (.getfield 21, 3) := by decide +kernel
theorem dX8_isNew_79 : decode cX8_isNew 79 = .ok (.iconst 1, 1) := by decide +kernel
theorem dX8_isNew_80 : decode cX8_isNew 80 = .ok (.iadd, 1) := by decide +kernel
theorem dX8_isNew_81 : decode cX8_isNew 81 = .ok (.putfield 21, 3) := by decide +kernel
theorem dX8_isNew_84 : decode cX8_isNew 84 = .ok (.iconst 2, 1) := by decide +kernel
theorem dX8_isNew_85 : decode cX8_isNew 85 = .ok (.aload_n 0, 1) := by decide +kernel
theorem dX8_isNew_86 : decode cX8_isNew 86 = .ok (.getfield 21, 3) := by decide +kernel
theorem dX8_isNew_89 : decode cX8_isNew 89 = .ok (.imul, 1) := by decide +kernel
theorem dX8_isNew_90 : decode cX8_isNew 90 = .ok (.aload_n 0, 1) := by decide +kernel
theorem dX8_isNew_91 : decode cX8_isNew 91 = .ok (.getfield 9, 3) := by decide +kernel
theorem dX8_isNew_94 : decode cX8_isNew 94 = .ok (.arraylength, 1) := by decide +kernel
theorem dX8_isNew_95 : decode cX8_isNew 95 = .ok (.if_icmp .le 7, 3) := by decide +kernel
theorem dX8_isNew_98 : decode cX8_isNew 98 = .ok (.aload_n 0, 1) := by decide +kernel
theorem dX8_isNew_99 : decode cX8_isNew 99 = .ok (.invokevirtual 26, 3) := by decide +kernel
theorem dX8_isNew_102 : decode cX8_isNew 102 = .ok (.iconst 1, 1) := by decide +kernel
theorem dX8_isNew_103 : decode cX8_isNew 103 = .ok (.ireturn, 1) := by decide +kernel
theorem dX8_grow_0 : decode cX8_grow 0 = .ok (.iconst 2, 1) := by decide +kernel
theorem dX8_grow_1 : decode cX8_grow 1 = .ok (.aload_n 0, 1) := by decide +kernel
theorem dX8_grow_2 : decode cX8_grow 2 = .ok (.getfield 9, 3) := by decide +kernel
theorem dX8_grow_5 : decode cX8_grow 5 = .ok (.arraylength, 1) := by decide +kernel
theorem dX8_grow_6 : decode cX8_grow 6 = .ok (.imul, 1) := by decide +kernel
theorem dX8_grow_7 : decode cX8_grow 7 = .ok (.istore_n 1, 1) := by decide +kernel
theorem dX8_grow_8 : decode cX8_grow 8 = .ok (.iload_n 1, 1) := by decide +kernel
theorem dX8_grow_9 : decode cX8_grow 9 = .ok (.sipush 256, 3) := by decide +kernel
theorem dX8_grow_12 : decode cX8_grow 12 = .ok (.if_icmp .lt 9, 3) := by decide +kernel
theorem dX8_grow_15 : decode cX8_grow 15 = .ok (.iload_n 1, 1) := by decide +kernel
theorem dX8_grow_16 : decode cX8_grow 16 = .ok (.ldc 29, 2) := by decide +kernel
theorem dX8_grow_18 : decode cX8_grow 18 = .ok (.if_icmp .le 4, 3) := by decide +kernel
theorem dX8_grow_21 : decode cX8_grow 21 = .ok (.return_, 1) := by decide +kernel
theorem dX8_grow_22 : decode cX8_grow 22 = .ok (.iload_n 1, 1) := by decide +kernel
theorem dX8_grow_23 : decode cX8_grow 23 = .ok (.newarray .int, 2) := by decide +kernel
theorem dX8_grow_25 : decode cX8_grow 25 = .ok (.astore_n 2, 1) := by decide +kernel
theorem dX8_grow_26 : decode cX8_grow 26 = .ok (.iconst 0, 1) := by decide +kernel
theorem dX8_grow_27 : decode cX8_grow 27 = .ok (.istore_n 3, 1) := by decide +kernel
theorem dX8_grow_28 : decode cX8_grow 28 = .ok (.iload_n 3, 1) := by decide +kernel
theorem dX8_grow_29 : decode cX8_grow 29 = .ok (.aload_n 0, 1) := by decide +kernel
theorem dX8_grow_30 : decode cX8_grow 30 = .ok (.getfield 9, 3) := by decide +kernel
theorem dX8_grow_33 : decode cX8_grow 33 = .ok (.arraylength, 1) := by decide +kernel
theorem dX8_grow_34 : decode cX8_grow 34 = .ok (.if_icmp .ge 56, 3) := by decide +kernel
theorem dX8_grow_37 : decode cX8_grow 37 = .ok (.aload_n 0, 1) := by decide +kernel
theorem dX8_grow_38 : decode cX8_grow 38 = .ok (.getfield 9, 3) := by decide +kernel
theorem dX8_grow_41 : decode cX8_grow 41 = .ok (.iload_n 3, 1) := by decide +kernel
theorem dX8_grow_42 : decode cX8_grow 42 = .ok (.iaload, 1) := by decide +kernel
theorem dX8_grow_43 : decode cX8_grow 43 = .ok (.ifCond .ne 7, 3) := by decide +kernel
theorem dX8_grow_46 : decode cX8_grow 46 = .ok (.iconst (-1), 1) := by decide +kernel
theorem dX8_grow_47 : decode cX8_grow 47 = .ok (.goto 13, 3) := by decide +kernel
theorem dX8_grow_50 : decode cX8_grow 50 = .ok (.aload_n 2, 1) := by decide +kernel
theorem dX8_grow_51 : decode cX8_grow 51 = .ok (.aload_n 0, 1) := by decide +kernel
theorem dX8_grow_52 : decode cX8_grow 52 = .ok (.getfield 9, 3) := by decide +kernel
theorem dX8_grow_55 : decode cX8_grow 55 = .ok (.iload_n 3, 1) := by decide +kernel
theorem dX8_grow_56 : decode cX8_grow 56 = .ok (.iaload, 1) := by decide +kernel
theorem dX8_grow_57 : decode cX8_grow 57 = .ok (.invokestatic 17, 3) := by decide +kernel
theorem dX8_grow_60 : decode cX8_grow 60 = .ok (.istore 4, 2) := by decide +kernel
theorem dX8_grow_62 : decode cX8_grow 62 = .ok (.iload 4, 2) := by decide +kernel
theorem dX8_grow_64 : decode cX8_grow 64 = .ok (.ifCond .lt 20, 3) := by decide +kernel
theorem dX8_grow_67 : decode cX8_grow 67 = .ok (.iload 4, 2) := by decide +kernel
theorem dX8_grow_69 : decode cX8_grow 69 = .ok (.aload_n 2, 1) := by decide +kernel
theorem dX8_grow_70 : decode cX8_grow 70 = .ok (.arraylength, 1) := by decide +kernel
theorem dX8_grow_71 : decode cX8_grow 71 = .ok (.if_icmp .ge 13, 3) := by decide +kernel
theorem dX8_grow_74 : decode cX8_grow 74 = .ok (.aload_n 2, 1) := by decide +kernel
theorem dX8_grow_75 : decode cX8_grow 75 = .ok (.iload 4, 2) := by decide +kernel
theorem dX8_grow_77 : decode cX8_grow 77 = .ok (.aload_n 0, 1) := by decide +kernel
theorem dX8_grow_78 : decode cX8_grow 78 = .ok (.getfield 9, 3) := by decide +kernel
theorem dX8_grow_81 : decode cX8_grow 81 = .ok (.iload_n 3, 1) := by decide +kernel
theorem dX8_grow_82 : decode cX8_grow 82 = .ok (.iaload, 1) := by decide +kernel
theorem dX8_grow_83 : decode cX8_grow 83 = .ok (.iastore, 1) := by decide +kernel
theorem dX8_grow_84 : decode cX8_grow 84 = .ok (.iinc 3 1, 3) := by decide +kernel
theorem dX8_grow_87 : decode cX8_grow 87 = .ok (.goto (-59), 3) := by decide +kernel
theorem dX8_grow_90 : decode cX8_grow 90 = .ok (.aload_n 0, 1) := by decide +kernel
theorem dX8_grow_91 : decode cX8_grow 91 = .ok (.aload_n 2, 1) := by decide +kernel
theorem dX8_grow_92 : decode cX8_grow 92 = .ok (.putfield 9, 3) := by decide +kernel
theorem dX8_grow_95 : decode cX8_grow 95 = .ok (.return_, 1) := by decide +kernel
theorem dX8_slotFor_0 : decode cX8_slotFor 0 = .ok (.aload_n 0, 1) := by decide +kernel
theorem dX8_slotFor_1 : decode cX8_slotFor 1 = .ok (.arraylength, 1) := by decide +kernel
theorem dX8_slotFor_2 : decode cX8_slotFor 2 = .ok (.iconst 1, 1) := by decide +kernel
theorem dX8_slotFor_3 : decode cX8_slotFor 3 = .ok (.isub, 1) := by decide +kernel
theorem dX8_slotFor_4 : decode cX8_slotFor 4 = .ok (.istore_n 2, 1) := by decide +kernel
theorem dX8_slotFor_5 : decode cX8_slotFor 5 = .ok (.iload_n 1, 1) := by decide +kernel
theorem dX8_slotFor_6 : decode cX8_slotFor 6 = .ok (.iload_n 1, 1) := by decide +kernel
theorem dX8_slotFor_7 : decode cX8_slotFor 7 = .ok (.bipush 16, 2) := by decide +kernel
theorem dX8_slotFor_9 : decode cX8_slotFor 9 = .ok (.iushr, 1) := by decide +kernel
theorem dX8_slotFor_10 : decode cX8_slotFor 10 = .ok (.ixor, 1) := by decide +kernel
theorem dX8_slotFor_11 : decode cX8_slotFor 11 = .ok (.istore_n 3, 1) := by decide +kernel
theorem dX8_slotFor_12 : decode cX8_slotFor 12 = .ok (.iconst 0, 1) := by decide +kernel
theorem dX8_slotFor_13 : decode cX8_slotFor 13 = .ok (.istore 4, 2) := by decide +kernel
theorem dX8_slotFor_15 : decode cX8_slotFor 15 = .ok (.iload 4, 2) := by decide +kernel
theorem dX8_slotFor_17 : decode cX8_slotFor 17 = .ok (.aload_n 0, 1) := by decide +kernel
theorem dX8_slotFor_18 : decode cX8_slotFor 18 = .ok (.arraylength, 1) := by decide +kernel
theorem dX8_slotFor_19 : decode cX8_slotFor 19 = .ok (.if_icmp .ge 47, 3) := by decide +kernel
theorem dX8_slotFor_22 : decode cX8_slotFor 22 = .ok (.iload_n 3, 1) := by decide +kernel
theorem dX8_slotFor_23 : decode cX8_slotFor 23 = .ok (.iload 4, 2) := by decide +kernel
theorem dX8_slotFor_25 : decode cX8_slotFor 25 = .ok (.iadd, 1) := by decide +kernel
theorem dX8_slotFor_26 : decode cX8_slotFor 26 = .ok (.iload_n 2, 1) := by decide +kernel
theorem dX8_slotFor_27 : decode cX8_slotFor 27 = .ok (.iand, 1) := by decide +kernel
theorem dX8_slotFor_28 : decode cX8_slotFor 28 = .ok (.istore 5, 2) := by decide +kernel
theorem dX8_slotFor_30 : decode cX8_slotFor 30 = .ok (.iload 5, 2) := by decide +kernel
theorem dX8_slotFor_32 : decode cX8_slotFor 32 = .ok (.ifCond .lt 28, 3) := by decide +kernel
theorem dX8_slotFor_35 : decode cX8_slotFor 35 = .ok (.iload 5, 2) := by decide +kernel
theorem dX8_slotFor_37 : decode cX8_slotFor 37 = .ok (.aload_n 0, 1) := by decide +kernel
theorem dX8_slotFor_38 : decode cX8_slotFor 38 = .ok (.arraylength, 1) := by decide +kernel
theorem dX8_slotFor_39 : decode cX8_slotFor 39 = .ok (.if_icmp .ge 21, 3) := by decide +kernel
theorem dX8_slotFor_42 : decode cX8_slotFor 42 = .ok (.aload_n 0, 1) := by decide +kernel
theorem dX8_slotFor_43 : decode cX8_slotFor 43 = .ok (.iload 5, 2) := by decide +kernel
theorem dX8_slotFor_45 : decode cX8_slotFor 45 = .ok (.iaload, 1) := by decide +kernel
theorem dX8_slotFor_46 : decode cX8_slotFor 46 = .ok (.ifCond .eq 11, 3) := by decide +kernel
theorem dX8_slotFor_49 : decode cX8_slotFor 49 = .ok (.aload_n 0, 1) := by decide +kernel
theorem dX8_slotFor_50 : decode cX8_slotFor 50 = .ok (.iload 5, 2) := by decide +kernel
theorem dX8_slotFor_52 : decode cX8_slotFor 52 = .ok (.iaload, 1) := by decide +kernel
theorem dX8_slotFor_53 : decode cX8_slotFor 53 = .ok (.iload_n 1, 1) := by decide +kernel
theorem dX8_slotFor_54 : decode cX8_slotFor 54 = .ok (.if_icmp .ne 6, 3) := by decide +kernel
theorem dX8_slotFor_57 : decode cX8_slotFor 57 = .ok (.iload 5, 2) := by decide +kernel
theorem dX8_slotFor_59 : decode cX8_slotFor 59 = .ok (.ireturn, 1) := by decide +kernel
theorem dX8_slotFor_60 : decode cX8_slotFor 60 = .ok (.iinc 4 1, 3) := by decide +kernel
theorem dX8_slotFor_63 : decode cX8_slotFor 63 = .ok (.goto (-48), 3) := by decide +kernel
theorem dX8_slotFor_66 : decode cX8_slotFor 66 = .ok (.iconst (-1), 1) := by decide +kernel
theorem dX8_slotFor_67 : decode cX8_slotFor 67 = .ok (.ireturn, 1) := by decide +kernel
theorem dX9_init_0 : decode cX9_init 0 = .ok (.aload_n 0, 1) := by decide +kernel
theorem dX9_init_1 : decode cX9_init 1 = .ok (.invokespecial 1, 3) := by decide +kernel
theorem dX9_init_4 : decode cX9_init 4 = .ok (.aload_n 0, 1) := by decide +kernel
theorem dX9_init_5 : decode cX9_init 5 = .ok (.new 7, 3) := by decide +kernel
theorem dX9_init_8 : decode cX9_init 8 = .ok (.dup, 1) := by decide +kernel
theorem dX9_init_9 : decode cX9_init 9 = .ok (.invokespecial 9, 3) := by decide +kernel
theorem dX9_init_12 : decode cX9_init 12 = .ok (.putfield 10, 3) := by decide +kernel
theorem dX9_init_15 : decode cX9_init 15 = .ok (.aload_n 0, 1) := by decide +kernel
theorem dX9_init_16 : decode cX9_init 16 = .ok (.iload_n 1, 1) := by decide +kernel
theorem dX9_init_17 : decode cX9_init 17 = .ok (.putfield 16, 3) := by decide +kernel
theorem dX9_init_20 : decode cX9_init 20 = .ok (.aload_n 0, 1) := by decide +kernel
theorem dX9_init_21 : decode cX9_init 21 = .ok (.iload_n 2, 1) := by decide +kernel
theorem dX9_init_22 : decode cX9_init 22 = .ok (.putfield 20, 3) := by decide +kernel
theorem dX9_init_25 : decode cX9_init 25 = .ok (.return_, 1) := by decide +kernel
theorem dX10_init_0 : decode cX10_init 0 = .ok (.aload_n 0, 1) := by decide +kernel
theorem dX10_init_1 : decode cX10_init 1 = .ok (.invokespecial 3, 3) := by decide +kernel
theorem dX10_init_4 : decode cX10_init 4 = .ok (.aload_n 0, 1) := by decide +kernel
theorem dX10_init_5 : decode cX10_init 5 = .ok (.bipush 60, 2) := by decide +kernel
theorem dX10_init_7 : decode cX10_init 7 = .ok (.newarray .int, 2) := by decide +kernel
theorem dX10_init_9 : decode cX10_init 9 = .ok (.putfield 11, 3) := by decide +kernel
theorem dX10_init_12 : decode cX10_init 12 = .ok (.aload_n 0, 1) := by decide +kernel
theorem dX10_init_13 : decode cX10_init 13 = .ok (.bipush 60, 2) := by decide +kernel
theorem dX10_init_15 : decode cX10_init 15 = .ok (.newarray .int, 2) := by decide +kernel
theorem dX10_init_17 : decode cX10_init 17 = .ok (.putfield 15, 3) := by decide +kernel
theorem dX10_init_20 : decode cX10_init 20 = .ok (.aload_n 0, 1) := by decide +kernel
theorem dX10_init_21 : decode cX10_init 21 = .ok (.new 18, 3) := by decide +kernel
theorem dX10_init_24 : decode cX10_init 24 = .ok (.dup, 1) := by decide +kernel
theorem dX10_init_25 : decode cX10_init 25 = .ok (.invokespecial 20, 3) := by decide +kernel
theorem dX10_init_28 : decode cX10_init 28 = .ok (.putfield 21, 3) := by decide +kernel
theorem dX10_init_31 : decode cX10_init 31 = .ok (.aload_n 0, 1) := by decide +kernel
theorem dX10_init_32 : decode cX10_init 32 = .ok (.bipush 20, 2) := by decide +kernel
theorem dX10_init_34 : decode cX10_init 34 = .ok (.newarray .boolean, 2) := by decide +kernel
theorem dX10_init_36 : decode cX10_init 36 = .ok (.putfield 25, 3) := by decide +kernel
theorem dX10_init_39 : decode cX10_init 39 = .ok (.aload_n 0, 1) := by decide +kernel
theorem dX10_init_40 : decode cX10_init 40 = .ok (.bipush 20, 2) := by decide +kernel
theorem dX10_init_42 : decode cX10_init 42 = .ok (.newarray .int, 2) := by decide +kernel
theorem dX10_init_44 : decode cX10_init 44 = .ok (.putfield 29, 3) := by decide +kernel
theorem dX10_init_47 : decode cX10_init 47 = .ok (.return_, 1) := by decide +kernel
theorem dX10_keptCount_0 : decode cX10_keptCount 0 = .ok (.aload_n 0, 1) := by decide +kernel
theorem dX10_keptCount_1 : decode cX10_keptCount 1 = .ok (.getfield 32, 3) := by decide +kernel
theorem dX10_keptCount_4 : decode cX10_keptCount 4 = .ok (.ireturn, 1) := by decide +kernel
theorem dX10_isFull_0 : decode cX10_isFull 0 = .ok (.aload_n 0, 1) := by decide +kernel
theorem dX10_isFull_1 : decode cX10_isFull 1 = .ok (.getfield 32, 3) := by decide +kernel
theorem dX10_isFull_4 : decode cX10_isFull 4 = .ok (.bipush 60, 2) := by decide +kernel
theorem dX10_isFull_6 : decode cX10_isFull 6 = .ok (.if_icmp .lt 7, 3) := by decide +kernel
theorem dX10_isFull_9 : decode cX10_isFull 9 = .ok (.iconst 1, 1) := by decide +kernel
theorem dX10_isFull_10 : decode cX10_isFull 10 = .ok (.goto 4, 3) := by decide +kernel
theorem dX10_isFull_13 : decode cX10_isFull 13 = .ok (.iconst 0, 1) := by decide +kernel
theorem dX10_isFull_14 : decode cX10_isFull 14 = .ok (.ireturn, 1) := by decide +kernel
theorem dX10_keeps_0 : decode cX10_keeps 0 = .ok (.iconst 0, 1) := by decide +kernel
theorem dX10_keeps_1 : decode cX10_keeps 1 = .ok (.istore_n 3, 1) := by decide +kernel
theorem dX10_keeps_2 : decode cX10_keeps 2 = .ok (.iload_n 3, 1) := by decide +kernel
theorem dX10_keeps_3 : decode cX10_keeps 3 = .ok (.aload_n 0, 1) := by decide +kernel
theorem dX10_keeps_4 : decode cX10_keeps 4 = .ok (.getfield 32, 3) := by decide +kernel
theorem dX10_keeps_7 : decode cX10_keeps 7 = .ok (.if_icmp .ge 49, 3) := by decide +kernel
theorem dX10_keeps_10 : decode cX10_keeps 10 = .ok (.iload_n 3, 1) := by decide +kernel
theorem dX10_keeps_11 : decode cX10_keeps 11 = .ok (.aload_n 0, 1) := by decide +kernel
theorem dX10_keeps_12 : decode cX10_keeps 12 = .ok (.getfield 11, 3) := by decide +kernel
theorem dX10_keeps_15 : decode cX10_keeps 15 = .ok (.arraylength, 1) := by decide +kernel
theorem dX10_keeps_16 : decode cX10_keeps 16 = .ok (.if_icmp .ge 40, 3) := by decide +kernel
theorem dX10_keeps_19 : decode cX10_keeps 19 = .ok (.iload_n 3, 1) := by decide +kernel
theorem dX10_keeps_20 : decode cX10_keeps 20 = .ok (.aload_n 0, 1) := by decide +kernel
theorem dX10_keeps_21 : decode cX10_keeps 21 = .ok (.getfield 15, 3) := by decide +kernel
theorem dX10_keeps_24 : decode cX10_keeps 24 = .ok (.arraylength, 1) := by decide +kernel
theorem dX10_keeps_25 : decode cX10_keeps 25 = .ok (.if_icmp .ge 31, 3) := by decide +kernel
theorem dX10_keeps_28 : decode cX10_keeps 28 = .ok (.aload_n 0, 1) := by decide +kernel
theorem dX10_keeps_29 : decode cX10_keeps 29 = .ok (.getfield 11, 3) := by decide +kernel
theorem dX10_keeps_32 : decode cX10_keeps 32 = .ok (.iload_n 3, 1) := by decide +kernel
theorem dX10_keeps_33 : decode cX10_keeps 33 = .ok (.iaload, 1) := by decide +kernel
theorem dX10_keeps_34 : decode cX10_keeps 34 = .ok (.iload_n 1, 1) := by decide +kernel
theorem dX10_keeps_35 : decode cX10_keeps 35 = .ok (.if_icmp .ne 15, 3) := by decide +kernel
theorem dX10_keeps_38 : decode cX10_keeps 38 = .ok (.aload_n 0, 1) := by decide +kernel
theorem dX10_keeps_39 : decode cX10_keeps 39 = .ok (.getfield 15, 3) := by decide +kernel
theorem dX10_keeps_42 : decode cX10_keeps 42 = .ok (.iload_n 3, 1) := by decide +kernel
theorem dX10_keeps_43 : decode cX10_keeps 43 = .ok (.iaload, 1) := by decide +kernel
theorem dX10_keeps_44 : decode cX10_keeps 44 = .ok (.iload_n 2, 1) := by decide +kernel
theorem dX10_keeps_45 : decode cX10_keeps 45 = .ok (.if_icmp .ne 5, 3) := by decide +kernel
theorem dX10_keeps_48 : decode cX10_keeps 48 = .ok (.iconst 1, 1) := by decide +kernel
theorem dX10_keeps_49 : decode cX10_keeps 49 = .ok (.ireturn, 1) := by decide +kernel
theorem dX10_keeps_50 : decode cX10_keeps 50 = .ok (.iinc 3 1, 3) := by decide +kernel
theorem dX10_keeps_53 : decode cX10_keeps 53 = .ok (.goto (-51), 3) := by decide +kernel
theorem dX10_keeps_56 : decode cX10_keeps 56 = .ok (.iconst 0, 1) := by decide +kernel
theorem dX10_keeps_57 : decode cX10_keeps 57 = .ok (.ireturn, 1) := by decide +kernel
theorem dX10_keep_0 : decode cX10_keep 0 = .ok (.aload_n 0, 1) := by decide +kernel
theorem dX10_keep_1 : decode cX10_keep 1 = .ok (.getfield 32, 3) := by decide +kernel
theorem dX10_keep_4 : decode cX10_keep 4 = .ok (.ifCond .lt 57, 3) := by decide +kernel
theorem dX10_keep_7 : decode cX10_keep 7 = .ok (.aload_n 0, 1) := by decide +kernel
theorem dX10_keep_8 : decode cX10_keep 8 = .ok (.getfield 32, 3) := by decide +kernel
theorem dX10_keep_11 : decode cX10_keep 11 = .ok (.aload_n 0, 1) := by decide +kernel
theorem dX10_keep_12 : decode cX10_keep 12 = .ok (.getfield 11, 3) := by decide +kernel
theorem dX10_keep_15 : decode cX10_keep 15 = .ok (.arraylength, 1) := by decide +kernel
theorem dX10_keep_16 : decode cX10_keep 16 = .ok (.if_icmp .ge 45, 3) := by decide +kernel
theorem dX10_keep_19 : decode cX10_keep 19 = .ok (.aload_n 0, 1) := by decide +kernel
theorem dX10_keep_20 : decode cX10_keep 20 = .ok (.getfield 32, 3) := by decide +kernel
theorem dX10_keep_23 : decode cX10_keep 23 = .ok (.aload_n 0, 1) := by decide +kernel
theorem dX10_keep_24 : decode cX10_keep 24 = .ok (.getfield 15, 3) := by decide +kernel
theorem dX10_keep_27 : decode cX10_keep 27 = .ok (.arraylength, 1) := by decide +kernel
theorem dX10_keep_28 : decode cX10_keep 28 = .ok (.if_icmp .ge 33, 3) := by decide +kernel
theorem dX10_keep_31 : decode cX10_keep 31 = .ok (.aload_n 0, 1) := by decide +kernel
theorem dX10_keep_32 : decode cX10_keep 32 = .ok (.getfield 11, 3) := by decide +kernel
theorem dX10_keep_35 : decode cX10_keep 35 = .ok (.aload_n 0, 1) := by decide +kernel
theorem dX10_keep_36 : decode cX10_keep 36 = .ok (.getfield 32, 3) := by decide +kernel
theorem dX10_keep_39 : decode cX10_keep 39 = .ok (.iload_n 1, 1) := by decide +kernel
theorem dX10_keep_40 : decode cX10_keep 40 = .ok (.iastore, 1) := by decide +kernel
theorem dX10_keep_41 : decode cX10_keep 41 = .ok (.aload_n 0, 1) := by decide +kernel
theorem dX10_keep_42 : decode cX10_keep 42 = .ok (.getfield 15, 3) := by decide +kernel
theorem dX10_keep_45 : decode cX10_keep 45 = .ok (.aload_n 0, 1) := by decide +kernel
theorem dX10_keep_46 : decode cX10_keep 46 = .ok (.getfield 32, 3) := by decide +kernel
theorem dX10_keep_49 : decode cX10_keep 49 = .ok (.iload_n 2, 1) := by decide +kernel
theorem dX10_keep_50 : decode cX10_keep 50 = .ok (.iastore, 1) := by decide +kernel
theorem dX10_keep_51 : decode cX10_keep 51 = .ok (.aload_n 0, 1) := by decide +kernel
theorem dX10_keep_52 : decode cX10_keep 52 = .ok (.dup, 1) := by decide +kernel
theorem dX10_keep_53 : decode cX10_keep 53 = .ok (.getfield 32, 3) := by decide +kernel
theorem dX10_keep_56 : decode cX10_keep 56 = .ok (.iconst 1, 1) := by decide +kernel
theorem dX10_keep_57 : decode cX10_keep 57 = .ok (.iadd, 1) := by decide +kernel
theorem dX10_keep_58 : decode cX10_keep 58 = .ok (.putfield 32, 3) := by decide +kernel
theorem dX10_keep_61 : decode cX10_keep 61 = .ok (.return_, 1) := by decide +kernel
theorem dX10_startQuestion_0 : decode cX10_startQuestion 0 = .ok (.iconst 0, 1) := by decide +kernel
theorem dX10_startQuestion_1 : decode cX10_startQuestion 1 = .ok (.istore_n 1, 1) := by decide +kernel
theorem dX10_startQuestion_2 : decode cX10_startQuestion 2 = .ok (.iload_n 1, 1) := by decide +kernel
theorem dX10_startQuestion_3 : decode cX10_startQuestion 3 = .ok (.aload_n 0, 1) := by decide +kernel
theorem dX10_startQuestion_4 : decode cX10_startQuestion 4 = .ok (.getfield 25, 3) := by decide +kernel
theorem dX10_startQuestion_7 : decode cX10_startQuestion 7 = .ok (.arraylength, 1) := by decide +kernel
theorem dX10_startQuestion_8 : decode cX10_startQuestion 8 = .ok (.if_icmp .ge 16, 3) := by decide +kernel
theorem dX10_startQuestion_11 : decode cX10_startQuestion 11 = .ok (.aload_n 0, 1) := by decide +kernel
theorem dX10_startQuestion_12 : decode cX10_startQuestion 12 = .ok (.getfield 25, 3) := by decide +kernel
theorem dX10_startQuestion_15 : decode cX10_startQuestion 15 = .ok (.iload_n 1, 1) := by decide +kernel
theorem dX10_startQuestion_16 : decode cX10_startQuestion 16 = .ok (.iconst 0, 1) := by decide +kernel
theorem dX10_startQuestion_17 : decode cX10_startQuestion 17 = .ok (.bastore, 1) := by decide +kernel
theorem dX10_startQuestion_18 : decode cX10_startQuestion 18 = .ok (.iinc 1 1, 3) := by decide +kernel
theorem dX10_startQuestion_21 : decode cX10_startQuestion 21 = .ok (.goto (-19), 3) := by decide +kernel
theorem dX10_startQuestion_24 : decode cX10_startQuestion 24 = .ok (.return_, 1) := by decide +kernel
theorem dX10_takeToken_0 : decode cX10_takeToken 0 = .ok (.aload_n 0, 1) := by decide +kernel
theorem dX10_takeToken_1 : decode cX10_takeToken 1 = .ok (.getfield 21, 3) := by decide +kernel
theorem dX10_takeToken_4 : decode cX10_takeToken 4 = .ok (.iload_n 1, 1) := by decide +kernel
theorem dX10_takeToken_5 : decode cX10_takeToken 5 = .ok (.invokevirtual 36, 3) := by decide +kernel
theorem dX10_takeToken_8 : decode cX10_takeToken 8 = .ok (.ifCond .eq 16, 3) := by decide +kernel
theorem dX10_takeToken_11 : decode cX10_takeToken 11 = .ok (.aload_n 0, 1) := by decide +kernel
theorem dX10_takeToken_12 : decode cX10_takeToken 12 = .ok (.dup, 1) := by decide +kernel
theorem dX10_takeToken_13 : decode cX10_takeToken 13 = .ok (.getfield 40, 3) := by decide +kernel
theorem dX10_takeToken_16 : decode cX10_takeToken 16 = .ok (.iconst 1, 1) := by decide +kernel
theorem dX10_takeToken_17 : decode cX10_takeToken 17 = .ok (.iadd, 1) := by decide +kernel
theorem dX10_takeToken_18 : decode cX10_takeToken 18 = .ok (.putfield 40, 3) := by decide +kernel
theorem dX10_takeToken_21 : decode cX10_takeToken 21 = .ok (.goto 13, 3) := by decide +kernel
theorem dX10_takeToken_24 : decode cX10_takeToken 24 = .ok (.aload_n 0, 1) := by decide +kernel
theorem dX10_takeToken_25 : decode cX10_takeToken 25 = .ok (.dup, 1) := by decide +kernel
theorem dX10_takeToken_26 : decode cX10_takeToken 26 = .ok (.getfield 43, 3) := by decide +kernel
theorem dX10_takeToken_29 : decode cX10_takeToken 29 = .ok (.iconst 1, 1) := by decide +kernel
theorem dX10_takeToken_30 : decode cX10_takeToken 30 = .ok (.iadd, 1) := by decide +kernel
theorem dX10_takeToken_31 : decode cX10_takeToken 31 = .ok (.putfield 43, 3) := by decide +kernel
theorem dX10_takeToken_34 : decode cX10_takeToken 34 = .ok (.iconst 0, 1) := by decide +kernel
theorem dX10_takeToken_35 : decode cX10_takeToken 35 = .ok (.istore_n 2, 1) := by decide +kernel
theorem dX10_takeToken_36 : decode cX10_takeToken 36 = .ok (.iload_n 2, 1) := by decide +kernel
theorem dX10_takeToken_37 : decode cX10_takeToken 37 = .ok (.aload_n 0, 1) := by decide +kernel
theorem dX10_takeToken_38 : decode cX10_takeToken 38 = .ok (.getfield 32, 3) := by decide +kernel
theorem dX10_takeToken_41 : decode cX10_takeToken 41 = .ok (.if_icmp .ge 64, 3) := by decide +kernel
theorem dX10_takeToken_44 : decode cX10_takeToken 44 = .ok (.iload_n 2, 1) := by decide +kernel
theorem dX10_takeToken_45 : decode cX10_takeToken 45 = .ok (.aload_n 0, 1) := by decide +kernel
theorem dX10_takeToken_46 : decode cX10_takeToken 46 = .ok (.getfield 11, 3) := by decide +kernel
theorem dX10_takeToken_49 : decode cX10_takeToken 49 = .ok (.arraylength, 1) := by decide +kernel
theorem dX10_takeToken_50 : decode cX10_takeToken 50 = .ok (.if_icmp .ge 55, 3) := by decide +kernel
theorem dX10_takeToken_53 : decode cX10_takeToken 53 = .ok (.iload_n 2, 1) := by decide +kernel
theorem dX10_takeToken_54 : decode cX10_takeToken 54 = .ok (.aload_n 0, 1) := by decide +kernel
theorem dX10_takeToken_55 : decode cX10_takeToken 55 = .ok (.getfield 15, 3) := by decide +kernel
theorem dX10_takeToken_58 : decode cX10_takeToken 58 = .ok (.arraylength, 1) := by decide +kernel
theorem dX10_takeToken_59 : decode cX10_takeToken 59 = .ok (.if_icmp .ge 46, 3) := by decide +kernel
theorem dX10_takeToken_62 : decode cX10_takeToken 62 = .ok (.aload_n 0, 1) := by decide +kernel
theorem dX10_takeToken_63 : decode cX10_takeToken 63 = .ok (.getfield 15, 3) := by decide +kernel
theorem dX10_takeToken_66 : decode cX10_takeToken 66 = .ok (.iload_n 2, 1) := by decide +kernel
theorem dX10_takeToken_67 : decode cX10_takeToken 67 = .ok (.iaload, 1) := by decide +kernel
theorem dX10_takeToken_68 : decode cX10_takeToken 68 = .ok (.istore_n 3, 1) := by decide +kernel
theorem dX10_takeToken_69 : decode cX10_takeToken 69 = .ok (.aload_n 0, 1) := by decide +kernel
theorem dX10_takeToken_70 : decode cX10_takeToken 70 = .ok (.getfield 11, 3) := by decide +kernel
theorem dX10_takeToken_73 : decode cX10_takeToken 73 = .ok (.iload_n 2, 1) := by decide +kernel
theorem dX10_takeToken_74 : decode cX10_takeToken 74 = .ok (.iaload, 1) := by decide +kernel
theorem dX10_takeToken_75 : decode cX10_takeToken 75 = .ok (.iload_n 1, 1) := by decide +kernel
theorem dX10_takeToken_76 : decode cX10_takeToken 76 = .ok (.if_icmp .ne 23, 3) := by decide +kernel
theorem dX10_takeToken_79 : decode cX10_takeToken 79 = .ok (.iload_n 3, 1) := by decide +kernel
theorem dX10_takeToken_80 : decode cX10_takeToken 80 = .ok (.ifCond .lt 19, 3) := by decide +kernel
theorem dX10_takeToken_83 : decode cX10_takeToken 83 = .ok (.iload_n 3, 1) := by decide +kernel
theorem dX10_takeToken_84 : decode cX10_takeToken 84 = .ok (.aload_n 0, 1) := by decide +kernel
theorem dX10_takeToken_85 : decode cX10_takeToken 85 = .ok (.getfield 25, 3) := by decide +kernel
theorem dX10_takeToken_88 : decode cX10_takeToken 88 = .ok (.arraylength, 1) := by decide +kernel
theorem dX10_takeToken_89 : decode cX10_takeToken 89 = .ok (.if_icmp .ge 10, 3) := by decide +kernel
theorem dX10_takeToken_92 : decode cX10_takeToken 92 = .ok (.aload_n 0, 1) := by decide +kernel
theorem dX10_takeToken_93 : decode cX10_takeToken 93 = .ok (.getfield 25, 3) := by decide +kernel
theorem dX10_takeToken_96 : decode cX10_takeToken 96 = .ok (.iload_n 3, 1) := by decide +kernel
theorem dX10_takeToken_97 : decode cX10_takeToken 97 = .ok (.iconst 1, 1) := by decide +kernel
theorem dX10_takeToken_98 : decode cX10_takeToken 98 = .ok (.bastore, 1) := by decide +kernel
theorem dX10_takeToken_99 : decode cX10_takeToken 99 = .ok (.iinc 2 1, 3) := by decide +kernel
theorem dX10_takeToken_102 : decode cX10_takeToken 102 = .ok (.goto (-66), 3) := by decide +kernel
theorem dX10_takeToken_105 : decode cX10_takeToken 105 = .ok (.return_, 1) := by decide +kernel
theorem dX10_endQuestion_0 : decode cX10_endQuestion 0 = .ok (.aload_n 0, 1) := by decide +kernel
theorem dX10_endQuestion_1 : decode cX10_endQuestion 1 = .ok (.iconst 0, 1) := by decide +kernel
theorem dX10_endQuestion_2 : decode cX10_endQuestion 2 = .ok (.putfield 46, 3) := by decide +kernel
theorem dX10_endQuestion_5 : decode cX10_endQuestion 5 = .ok (.iconst 0, 1) := by decide +kernel
theorem dX10_endQuestion_6 : decode cX10_endQuestion 6 = .ok (.istore_n 1, 1) := by decide +kernel
theorem dX10_endQuestion_7 : decode cX10_endQuestion 7 = .ok (.iload_n 1, 1) := by decide +kernel
theorem dX10_endQuestion_8 : decode cX10_endQuestion 8 = .ok (.aload_n 0, 1) := by decide +kernel
theorem dX10_endQuestion_9 : decode cX10_endQuestion 9 = .ok (.getfield 25, 3) := by decide +kernel
theorem dX10_endQuestion_12 : decode cX10_endQuestion 12 = .ok (.arraylength, 1) := by decide +kernel
theorem dX10_endQuestion_13 : decode cX10_endQuestion 13 = .ok (.if_icmp .ge 57, 3) := by decide +kernel
theorem dX10_endQuestion_16 : decode cX10_endQuestion 16 = .ok (.aload_n 0, 1) := by decide +kernel
theorem dX10_endQuestion_17 : decode cX10_endQuestion 17 = .ok (.getfield 25, 3) := by decide +kernel
theorem dX10_endQuestion_20 : decode cX10_endQuestion 20 = .ok (.iload_n 1, 1) := by decide +kernel
theorem dX10_endQuestion_21 : decode cX10_endQuestion 21 = .ok (.baload, 1) := by decide +kernel
theorem dX10_endQuestion_22 : decode cX10_endQuestion 22 = .ok (.ifCond .eq 42, 3) := by decide +kernel
theorem dX10_endQuestion_25 : decode cX10_endQuestion 25 = .ok (.aload_n 0, 1) := by decide +kernel
theorem dX10_endQuestion_26 : decode cX10_endQuestion 26 = .ok (.getfield 46, 3) := by decide +kernel
theorem dX10_endQuestion_29 : decode cX10_endQuestion 29 = .ok (.ifCond .lt 35, 3) := by decide +kernel
theorem dX10_endQuestion_32 : decode cX10_endQuestion 32 = .ok (.aload_n 0, 1) := by decide +kernel
theorem dX10_endQuestion_33 : decode cX10_endQuestion 33 = .ok (.getfield 46, 3) := by decide +kernel
theorem dX10_endQuestion_36 : decode cX10_endQuestion 36 = .ok (.aload_n 0, 1) := by decide +kernel
theorem dX10_endQuestion_37 : decode cX10_endQuestion 37 = .ok (.getfield 29, 3) := by decide +kernel
theorem dX10_endQuestion_40 : decode cX10_endQuestion 40 = .ok (.arraylength, 1) := by decide +kernel
theorem dX10_endQuestion_41 : decode cX10_endQuestion 41 = .ok (.if_icmp .ge 23, 3) := by decide +kernel
theorem dX10_endQuestion_44 : decode cX10_endQuestion 44 = .ok (.aload_n 0, 1) := by decide +kernel
theorem dX10_endQuestion_45 : decode cX10_endQuestion 45 = .ok (.getfield 29, 3) := by decide +kernel
theorem dX10_endQuestion_48 : decode cX10_endQuestion 48 = .ok (.aload_n 0, 1) := by decide +kernel
theorem dX10_endQuestion_49 : decode cX10_endQuestion 49 = .ok (.getfield 46, 3) := by decide +kernel
theorem dX10_endQuestion_52 : decode cX10_endQuestion 52 = .ok (.iload_n 1, 1) := by decide +kernel
theorem dX10_endQuestion_53 : decode cX10_endQuestion 53 = .ok (.iastore, 1) := by decide +kernel
theorem dX10_endQuestion_54 : decode cX10_endQuestion 54 = .ok (.aload_n 0, 1) := by decide +kernel
theorem dX10_endQuestion_55 : decode cX10_endQuestion 55 = .ok (.dup, 1) := by decide +kernel
theorem dX10_endQuestion_56 : decode cX10_endQuestion 56 = .ok (.getfield 46, 3) := by decide +kernel
theorem dX10_endQuestion_59 : decode cX10_endQuestion 59 = .ok (.iconst 1, 1) := by decide +kernel
theorem dX10_endQuestion_60 : decode cX10_endQuestion 60 = .ok (.iadd, 1) := by decide +kernel
theorem dX10_endQuestion_61 : decode cX10_endQuestion 61 = .ok (.putfield 46, 3) := by decide +kernel
theorem dX10_endQuestion_64 : decode cX10_endQuestion 64 = .ok (.iinc 1 1, 3) := by decide +kernel
theorem dX10_endQuestion_67 : decode cX10_endQuestion 67 = .ok (.goto (-60), 3) := by decide +kernel
theorem dX10_endQuestion_70 : decode cX10_endQuestion 70 = .ok (.aload_n 0, 1) := by decide +kernel
theorem dX10_endQuestion_71 : decode cX10_endQuestion 71 = .ok (.dup, 1) := by decide +kernel
theorem dX10_endQuestion_72 : decode cX10_endQuestion 72 = .ok (.getfield 49, 3) := by decide +kernel
theorem dX10_endQuestion_75 : decode cX10_endQuestion 75 = .ok (.iconst 1, 1) := by decide +kernel
theorem dX10_endQuestion_76 : decode cX10_endQuestion 76 = .ok (.iadd, 1) := by decide +kernel
theorem dX10_endQuestion_77 : decode cX10_endQuestion 77 = .ok (.putfield 49, 3) := by decide +kernel
theorem dX10_endQuestion_80 : decode cX10_endQuestion 80 = .ok (.aload_n 0, 1) := by decide +kernel
theorem dX10_endQuestion_81 : decode cX10_endQuestion 81 = .ok (.dup, 1) := by decide +kernel
theorem dX10_endQuestion_82 : decode cX10_endQuestion 82 = .ok (.getfield 52, 3) := by decide +kernel
theorem dX10_endQuestion_85 : decode cX10_endQuestion 85 = .ok (.aload_n 0, 1) := by decide +kernel
theorem dX10_endQuestion_86 : decode cX10_endQuestion 86 = .ok (.getfield 46, 3) := by decide +kernel
theorem dX10_endQuestion_89 : decode cX10_endQuestion 89 = .ok (.iadd, 1) := by decide +kernel
theorem dX10_endQuestion_90 : decode cX10_endQuestion 90 = .ok (.putfield 52, 3) := by decide +kernel
theorem dX10_endQuestion_93 : decode cX10_endQuestion 93 = .ok (.aload_n 0, 1) := by decide +kernel
theorem dX10_endQuestion_94 : decode cX10_endQuestion 94 = .ok (.getfield 46, 3) := by decide +kernel
theorem dX10_endQuestion_97 : decode cX10_endQuestion 97 = .ok (.ireturn, 1) := by decide +kernel
theorem dX10_foundCount_0 : decode cX10_foundCount 0 = .ok (.aload_n 0, 1) := by decide +kernel
theorem dX10_foundCount_1 : decode cX10_foundCount 1 = .ok (.getfield 46, 3) := by decide +kernel
theorem dX10_foundCount_4 : decode cX10_foundCount 4 = .ok (.ireturn, 1) := by decide +kernel
theorem dX10_foundFile_0 : decode cX10_foundFile 0 = .ok (.iload_n 1, 1) := by decide +kernel
theorem dX10_foundFile_1 : decode cX10_foundFile 1 = .ok (.ifCond .lt 21, 3) := by decide +kernel
theorem dX10_foundFile_4 : decode cX10_foundFile 4 = .ok (.iload_n 1, 1) := by decide +kernel
theorem dX10_foundFile_5 : decode cX10_foundFile 5 = .ok (.aload_n 0, 1) := by decide +kernel
theorem dX10_foundFile_6 : decode cX10_foundFile 6 = .ok (.getfield 29, 3) := by decide +kernel
theorem dX10_foundFile_9 : decode cX10_foundFile 9 = .ok (.arraylength, 1) := by decide +kernel
theorem dX10_foundFile_10 : decode cX10_foundFile 10 = .ok (.if_icmp .ge 12, 3) := by decide +kernel
theorem dX10_foundFile_13 : decode cX10_foundFile 13 = .ok (.aload_n 0, 1) := by decide +kernel
theorem dX10_foundFile_14 : decode cX10_foundFile 14 = .ok (.getfield 29, 3) := by decide +kernel
theorem dX10_foundFile_17 : decode cX10_foundFile 17 = .ok (.iload_n 1, 1) := by decide +kernel
theorem dX10_foundFile_18 : decode cX10_foundFile 18 = .ok (.iaload, 1) := by decide +kernel
theorem dX10_foundFile_19 : decode cX10_foundFile 19 = .ok (.goto 4, 3) := by decide +kernel
theorem dX10_foundFile_22 : decode cX10_foundFile 22 = .ok (.iconst 0, 1) := by decide +kernel
theorem dX10_foundFile_23 : decode cX10_foundFile 23 = .ok (.ireturn, 1) := by decide +kernel
theorem dX10_meanFiles_0 : decode cX10_meanFiles 0 = .ok (.aload_n 0, 1) := by decide +kernel
theorem dX10_meanFiles_1 : decode cX10_meanFiles 1 = .ok (.getfield 49, 3) := by decide +kernel
theorem dX10_meanFiles_4 : decode cX10_meanFiles 4 = .ok (.ifCond .ne 7, 3) := by decide +kernel
theorem dX10_meanFiles_7 : decode cX10_meanFiles 7 = .ok (.dconst 0, 1) := by decide +kernel
theorem dX10_meanFiles_8 : decode cX10_meanFiles 8 = .ok (.goto 14, 3) := by decide +kernel
theorem dX10_meanFiles_11 : decode cX10_meanFiles 11 = .ok (.aload_n 0, 1) := by decide +kernel
theorem dX10_meanFiles_12 : decode cX10_meanFiles 12 = .ok (.getfield 52, 3) := by decide +kernel
theorem dX10_meanFiles_15 : decode cX10_meanFiles 15 = .ok (.i2d, 1) := by decide +kernel
theorem dX10_meanFiles_16 : decode cX10_meanFiles 16 = .ok (.aload_n 0, 1) := by decide +kernel
theorem dX10_meanFiles_17 : decode cX10_meanFiles 17 = .ok (.getfield 49, 3) := by decide +kernel
theorem dX10_meanFiles_20 : decode cX10_meanFiles 20 = .ok (.i2d, 1) := by decide +kernel
theorem dX10_meanFiles_21 : decode cX10_meanFiles 21 = .ok (.ddiv, 1) := by decide +kernel
theorem dX10_meanFiles_22 : decode cX10_meanFiles 22 = .ok (.dreturn, 1) := by decide +kernel
theorem dX11_init_0 : decode cX11_init 0 = .ok (.aload_n 0, 1) := by decide +kernel
theorem dX11_init_1 : decode cX11_init 1 = .ok (.invokespecial 1, 3) := by decide +kernel
theorem dX11_init_4 : decode cX11_init 4 = .ok (.aload_n 0, 1) := by decide +kernel
theorem dX11_init_5 : decode cX11_init 5 = .ok (.bipush 6, 2) := by decide +kernel
theorem dX11_init_7 : decode cX11_init 7 = .ok (.anewarray 9, 3) := by decide +kernel
theorem dX11_init_10 : decode cX11_init 10 = .ok (.putfield 11, 3) := by decide +kernel
theorem dX11_init_13 : decode cX11_init 13 = .ok (.aload_n 0, 1) := by decide +kernel
theorem dX11_init_14 : decode cX11_init 14 = .ok (.iconst 5, 1) := by decide +kernel
theorem dX11_init_15 : decode cX11_init 15 = .ok (.anewarray 15, 3) := by decide +kernel
theorem dX11_init_18 : decode cX11_init 18 = .ok (.putfield 17, 3) := by decide +kernel
theorem dX11_init_21 : decode cX11_init 21 = .ok (.aload_n 0, 1) := by decide +kernel
theorem dX11_init_22 : decode cX11_init 22 = .ok (.bipush 20, 2) := by decide +kernel
theorem dX11_init_24 : decode cX11_init 24 = .ok (.anewarray 21, 3) := by decide +kernel
theorem dX11_init_27 : decode cX11_init 27 = .ok (.putfield 23, 3) := by decide +kernel
theorem dX11_init_30 : decode cX11_init 30 = .ok (.aload_n 0, 1) := by decide +kernel
theorem dX11_init_31 : decode cX11_init 31 = .ok (.new 27, 3) := by decide +kernel
theorem dX11_init_34 : decode cX11_init 34 = .ok (.dup, 1) := by decide +kernel
theorem dX11_init_35 : decode cX11_init 35 = .ok (.invokespecial 29, 3) := by decide +kernel
theorem dX11_init_38 : decode cX11_init 38 = .ok (.putfield 30, 3) := by decide +kernel
theorem dX11_init_41 : decode cX11_init 41 = .ok (.aload_n 0, 1) := by decide +kernel
theorem dX11_init_42 : decode cX11_init 42 = .ok (.new 34, 3) := by decide +kernel
theorem dX11_init_45 : decode cX11_init 45 = .ok (.dup, 1) := by decide +kernel
theorem dX11_init_46 : decode cX11_init 46 = .ok (.invokespecial 36, 3) := by decide +kernel
theorem dX11_init_49 : decode cX11_init 49 = .ok (.putfield 37, 3) := by decide +kernel
theorem dX11_init_52 : decode cX11_init 52 = .ok (.aload_n 0, 1) := by decide +kernel
theorem dX11_init_53 : decode cX11_init 53 = .ok (.new 41, 3) := by decide +kernel
theorem dX11_init_56 : decode cX11_init 56 = .ok (.dup, 1) := by decide +kernel
theorem dX11_init_57 : decode cX11_init 57 = .ok (.invokespecial 43, 3) := by decide +kernel
theorem dX11_init_60 : decode cX11_init 60 = .ok (.putfield 44, 3) := by decide +kernel
theorem dX11_init_63 : decode cX11_init 63 = .ok (.aload_n 0, 1) := by decide +kernel
theorem dX11_init_64 : decode cX11_init 64 = .ok (.new 48, 3) := by decide +kernel
theorem dX11_init_67 : decode cX11_init 67 = .ok (.dup, 1) := by decide +kernel
theorem dX11_init_68 : decode cX11_init 68 = .ok (.invokespecial 50, 3) := by decide +kernel
theorem dX11_init_71 : decode cX11_init 71 = .ok (.putfield 51, 3) := by decide +kernel
theorem dX11_init_74 : decode cX11_init 74 = .ok (.aload_n 0, 1) := by decide +kernel
theorem dX11_init_75 : decode cX11_init 75 = .ok (.bipush 10, 2) := by decide +kernel
theorem dX11_init_77 : decode cX11_init 77 = .ok (.newarray .int, 2) := by decide +kernel
theorem dX11_init_79 : decode cX11_init 79 = .ok (.putfield 55, 3) := by decide +kernel
theorem dX11_init_82 : decode cX11_init 82 = .ok (.return_, 1) := by decide +kernel
theorem dX11_addUser_0 : decode cX11_addUser 0 = .ok (.iload_n 1, 1) := by decide +kernel
theorem dX11_addUser_1 : decode cX11_addUser 1 = .ok (.ifCond .lt 10, 3) := by decide +kernel
theorem dX11_addUser_4 : decode cX11_addUser 4 = .ok (.iload_n 1, 1) := by decide +kernel
theorem dX11_addUser_5 : decode cX11_addUser 5 = .ok (.sipush 9999, 3) := by decide +kernel
theorem dX11_addUser_8 : decode cX11_addUser 8 = .ok (.if_icmp .le 13, 3) := by decide +kernel
theorem dX11_addUser_11 : decode cX11_addUser 11 = .ok (.new 59, 3) := by decide +kernel
theorem dX11_addUser_14 : decode cX11_addUser 14 = .ok (.dup, 1) := by decide +kernel
theorem dX11_addUser_15 : decode cX11_addUser 15 = .ok (.ldc 61, 2) := by decide +kernel
theorem dX11_addUser_17 : decode cX11_addUser 17 = .ok (.invokespecial 63, 3) := by decide +kernel
theorem dX11_addUser_20 : decode cX11_addUser 20 = .ok (.athrow, 1) := by decide +kernel
theorem dX11_addUser_21 : decode cX11_addUser 21 = .ok (.aload_n 0, 1) := by decide +kernel
theorem dX11_addUser_22 : decode cX11_addUser 22 = .ok (.getfield 66, 3) := by decide +kernel
theorem dX11_addUser_25 : decode cX11_addUser 25 = .ok (.ifCond .lt 15, 3) := by decide +kernel
theorem dX11_addUser_28 : decode cX11_addUser 28 = .ok (.aload_n 0, 1) := by decide +kernel
theorem dX11_addUser_29 : decode cX11_addUser 29 = .ok (.getfield 66, 3) := by decide +kernel
theorem dX11_addUser_32 : decode cX11_addUser 32 = .ok (.aload_n 0, 1) := by decide +kernel
theorem dX11_addUser_33 : decode cX11_addUser 33 = .ok (.getfield 11, 3) := by decide +kernel
theorem dX11_addUser_36 : decode cX11_addUser 36 = .ok (.arraylength, 1) := by decide +kernel
theorem dX11_addUser_37 : decode cX11_addUser 37 = .ok (.if_icmp .lt 13, 3) := by decide +kernel
theorem dX11_addUser_40 : decode cX11_addUser 40 = .ok (.new 70, 3) := by decide +kernel
theorem dX11_addUser_43 : decode cX11_addUser 43 = .ok (.dup, 1) := by decide +kernel
theorem dX11_addUser_44 : decode cX11_addUser 44 = .ok (.ldc 72, 2) := by decide +kernel
theorem dX11_addUser_46 : decode cX11_addUser 46 = .ok (.invokespecial 74, 3) := by decide +kernel
theorem dX11_addUser_49 : decode cX11_addUser 49 = .ok (.athrow, 1) := by decide +kernel
theorem dX11_addUser_50 : decode cX11_addUser 50 = .ok (.aload_n 0, 1) := by decide +kernel
theorem dX11_addUser_51 : decode cX11_addUser 51 = .ok (.getfield 11, 3) := by decide +kernel
theorem dX11_addUser_54 : decode cX11_addUser 54 = .ok (.aload_n 0, 1) := by decide +kernel
theorem dX11_addUser_55 : decode cX11_addUser 55 = .ok (.getfield 66, 3) := by decide +kernel
theorem dX11_addUser_58 : decode cX11_addUser 58 = .ok (.new 9, 3) := by decide +kernel
theorem dX11_addUser_61 : decode cX11_addUser 61 = .ok (.dup, 1) := by decide +kernel
theorem dX11_addUser_62 : decode cX11_addUser 62 = .ok (.aload_n 0, 1) := by decide +kernel
theorem dX11_addUser_63 : decode cX11_addUser 63 = .ok (.getfield 66, 3) := by decide +kernel
theorem dX11_addUser_66 : decode cX11_addUser 66 = .ok (.iload_n 1, 1) := by decide +kernel
theorem dX11_addUser_67 : decode cX11_addUser 67 = .ok (.invokespecial 75, 3) := by decide +kernel
theorem dX11_addUser_70 : decode cX11_addUser 70 = .ok (.aastore, 1) := by decide +kernel
theorem dX11_addUser_71 : decode cX11_addUser 71 = .ok (.aload_n 0, 1) := by decide +kernel
theorem dX11_addUser_72 : decode cX11_addUser 72 = .ok (.dup, 1) := by decide +kernel
theorem dX11_addUser_73 : decode cX11_addUser 73 = .ok (.getfield 66, 3) := by decide +kernel
theorem dX11_addUser_76 : decode cX11_addUser 76 = .ok (.iconst 1, 1) := by decide +kernel
theorem dX11_addUser_77 : decode cX11_addUser 77 = .ok (.iadd, 1) := by decide +kernel
theorem dX11_addUser_78 : decode cX11_addUser 78 = .ok (.putfield 66, 3) := by decide +kernel
theorem dX11_addUser_81 : decode cX11_addUser 81 = .ok (.aload_n 0, 1) := by decide +kernel
theorem dX11_addUser_82 : decode cX11_addUser 82 = .ok (.getfield 66, 3) := by decide +kernel
theorem dX11_addUser_85 : decode cX11_addUser 85 = .ok (.iconst 1, 1) := by decide +kernel
theorem dX11_addUser_86 : decode cX11_addUser 86 = .ok (.isub, 1) := by decide +kernel
theorem dX11_addUser_87 : decode cX11_addUser 87 = .ok (.ireturn, 1) := by decide +kernel
theorem dX11_addGroup_0 : decode cX11_addGroup 0 = .ok (.aload_n 0, 1) := by decide +kernel
theorem dX11_addGroup_1 : decode cX11_addGroup 1 = .ok (.iload_n 1, 1) := by decide +kernel
theorem dX11_addGroup_2 : decode cX11_addGroup 2 = .ok (.invokevirtual 78, 3) := by decide +kernel
theorem dX11_addGroup_5 : decode cX11_addGroup 5 = .ok (.pop, 1) := by decide +kernel
theorem dX11_addGroup_6 : decode cX11_addGroup 6 = .ok (.iload_n 2, 1) := by decide +kernel
theorem dX11_addGroup_7 : decode cX11_addGroup 7 = .ok (.iconst 1, 1) := by decide +kernel
theorem dX11_addGroup_8 : decode cX11_addGroup 8 = .ok (.if_icmp .lt 9, 3) := by decide +kernel
theorem dX11_addGroup_11 : decode cX11_addGroup 11 = .ok (.iload_n 2, 1) := by decide +kernel
theorem dX11_addGroup_12 : decode cX11_addGroup 12 = .ok (.bipush 40, 2) := by decide +kernel
theorem dX11_addGroup_14 : decode cX11_addGroup 14 = .ok (.if_icmp .le 13, 3) := by decide +kernel
theorem dX11_addGroup_17 : decode cX11_addGroup 17 = .ok (.new 59, 3) := by decide +kernel
theorem dX11_addGroup_20 : decode cX11_addGroup 20 = .ok (.dup, 1) := by decide +kernel
theorem dX11_addGroup_21 : decode cX11_addGroup 21 = .ok (.ldc 82, 2) := by decide +kernel
theorem dX11_addGroup_23 : decode cX11_addGroup 23 = .ok (.invokespecial 63, 3) := by decide +kernel
theorem dX11_addGroup_26 : decode cX11_addGroup 26 = .ok (.athrow, 1) := by decide +kernel
theorem dX11_addGroup_27 : decode cX11_addGroup 27 = .ok (.aload_n 0, 1) := by decide +kernel
theorem dX11_addGroup_28 : decode cX11_addGroup 28 = .ok (.getfield 84, 3) := by decide +kernel
theorem dX11_addGroup_31 : decode cX11_addGroup 31 = .ok (.ifCond .lt 15, 3) := by decide +kernel
theorem dX11_addGroup_34 : decode cX11_addGroup 34 = .ok (.aload_n 0, 1) := by decide +kernel
theorem dX11_addGroup_35 : decode cX11_addGroup 35 = .ok (.getfield 84, 3) := by decide +kernel
theorem dX11_addGroup_38 : decode cX11_addGroup 38 = .ok (.aload_n 0, 1) := by decide +kernel
theorem dX11_addGroup_39 : decode cX11_addGroup 39 = .ok (.getfield 17, 3) := by decide +kernel
theorem dX11_addGroup_42 : decode cX11_addGroup 42 = .ok (.arraylength, 1) := by decide +kernel
theorem dX11_addGroup_43 : decode cX11_addGroup 43 = .ok (.if_icmp .lt 13, 3) := by decide +kernel
theorem dX11_addGroup_46 : decode cX11_addGroup 46 = .ok (.new 70, 3) := by decide +kernel
theorem dX11_addGroup_49 : decode cX11_addGroup 49 = .ok (.dup, 1) := by decide +kernel
theorem dX11_addGroup_50 : decode cX11_addGroup 50 = .ok (.ldc 87, 2) := by decide +kernel
theorem dX11_addGroup_52 : decode cX11_addGroup 52 = .ok (.invokespecial 74, 3) := by decide +kernel
theorem dX11_addGroup_55 : decode cX11_addGroup 55 = .ok (.athrow, 1) := by decide +kernel
theorem dX11_addGroup_56 : decode cX11_addGroup 56 = .ok (.new 15, 3) := by decide +kernel
theorem dX11_addGroup_59 : decode cX11_addGroup 59 = .ok (.dup, 1) := by decide +kernel
theorem dX11_addGroup_60 : decode cX11_addGroup 60 = .ok (.aload_n 0, 1) := by decide +kernel
theorem dX11_addGroup_61 : decode cX11_addGroup 61 = .ok (.getfield 84, 3) := by decide +kernel
theorem dX11_addGroup_64 : decode cX11_addGroup 64 = .ok (.iload_n 1, 1) := by decide +kernel
theorem dX11_addGroup_65 : decode cX11_addGroup 65 = .ok (.iload_n 2, 1) := by decide +kernel
theorem dX11_addGroup_66 : decode cX11_addGroup 66 = .ok (.invokespecial 89, 3) := by decide +kernel
theorem dX11_addGroup_69 : decode cX11_addGroup 69 = .ok (.astore_n 3, 1) := by decide +kernel
theorem dX11_addGroup_70 : decode cX11_addGroup 70 = .ok (.aload_n 0, 1) := by decide +kernel
theorem dX11_addGroup_71 : decode cX11_addGroup 71 = .ok (.getfield 17, 3) := by decide +kernel
theorem dX11_addGroup_74 : decode cX11_addGroup 74 = .ok (.aload_n 0, 1) := by decide +kernel
theorem dX11_addGroup_75 : decode cX11_addGroup 75 = .ok (.getfield 84, 3) := by decide +kernel
theorem dX11_addGroup_78 : decode cX11_addGroup 78 = .ok (.aload_n 3, 1) := by decide +kernel
theorem dX11_addGroup_79 : decode cX11_addGroup 79 = .ok (.aastore, 1) := by decide +kernel
theorem dX11_addGroup_80 : decode cX11_addGroup 80 = .ok (.aload_n 0, 1) := by decide +kernel
theorem dX11_addGroup_81 : decode cX11_addGroup 81 = .ok (.dup, 1) := by decide +kernel
theorem dX11_addGroup_82 : decode cX11_addGroup 82 = .ok (.getfield 84, 3) := by decide +kernel
theorem dX11_addGroup_85 : decode cX11_addGroup 85 = .ok (.iconst 1, 1) := by decide +kernel
theorem dX11_addGroup_86 : decode cX11_addGroup 86 = .ok (.iadd, 1) := by decide +kernel
theorem dX11_addGroup_87 : decode cX11_addGroup 87 = .ok (.putfield 84, 3) := by decide +kernel
theorem dX11_addGroup_90 : decode cX11_addGroup 90 = .ok (.aload_n 3, 1) := by decide +kernel
theorem dX11_addGroup_91 : decode cX11_addGroup 91 = .ok (.iload_n 1, 1) := by decide +kernel
theorem dX11_addGroup_92 : decode cX11_addGroup 92 = .ok (.invokevirtual 92, 3) := by decide +kernel
theorem dX11_addGroup_95 : decode cX11_addGroup 95 = .ok (.aload_n 0, 1) := by decide +kernel
theorem dX11_addGroup_96 : decode cX11_addGroup 96 = .ok (.getfield 37, 3) := by decide +kernel
theorem dX11_addGroup_99 : decode cX11_addGroup 99 = .ok (.aload_n 3, 1) := by decide +kernel
theorem dX11_addGroup_100 : decode cX11_addGroup 100 = .ok (.getfield 96, 3) := by decide +kernel
theorem dX11_addGroup_103 : decode cX11_addGroup 103 = .ok (.iload_n 1, 1) := by decide +kernel
theorem dX11_addGroup_104 : decode cX11_addGroup 104 = .ok (.invokevirtual 99, 3) := by decide +kernel
theorem dX11_addGroup_107 : decode cX11_addGroup 107 = .ok (.aload_n 3, 1) := by decide +kernel
theorem dX11_addGroup_108 : decode cX11_addGroup 108 = .ok (.getfield 96, 3) := by decide +kernel
theorem dX11_addGroup_111 : decode cX11_addGroup 111 = .ok (.ireturn, 1) := by decide +kernel
theorem dX11_join_0 : decode cX11_join 0 = .ok (.aload_n 0, 1) := by decide +kernel
theorem dX11_join_1 : decode cX11_join 1 = .ok (.iload_n 1, 1) := by decide +kernel
theorem dX11_join_2 : decode cX11_join 2 = .ok (.invokevirtual 102, 3) := by decide +kernel
theorem dX11_join_5 : decode cX11_join 5 = .ok (.astore_n 3, 1) := by decide +kernel
theorem dX11_join_6 : decode cX11_join 6 = .ok (.aload_n 0, 1) := by decide +kernel
theorem dX11_join_7 : decode cX11_join 7 = .ok (.iload_n 2, 1) := by decide +kernel
theorem dX11_join_8 : decode cX11_join 8 = .ok (.invokevirtual 78, 3) := by decide +kernel
theorem dX11_join_11 : decode cX11_join 11 = .ok (.pop, 1) := by decide +kernel
theorem dX11_join_12 : decode cX11_join 12 = .ok (.aload_n 3, 1) := by decide +kernel
theorem dX11_join_13 : decode cX11_join 13 = .ok (.iload_n 2, 1) := by decide +kernel
theorem dX11_join_14 : decode cX11_join 14 = .ok (.invokevirtual 106, 3) := by decide +kernel
theorem dX11_join_17 : decode cX11_join 17 = .ok (.ifCond .eq 13, 3) := by decide +kernel
theorem dX11_join_20 : decode cX11_join 20 = .ok (.new 70, 3) := by decide +kernel
theorem dX11_join_23 : decode cX11_join 23 = .ok (.dup, 1) := by decide +kernel
theorem dX11_join_24 : decode cX11_join 24 = .ok (.ldc 110, 2) := by decide +kernel
theorem dX11_join_26 : decode cX11_join 26 = .ok (.invokespecial 74, 3) := by decide +kernel
theorem dX11_join_29 : decode cX11_join 29 = .ok (.athrow, 1) := by decide +kernel
theorem dX11_join_30 : decode cX11_join 30 = .ok (.aload_n 0, 1) := by decide +kernel
theorem dX11_join_31 : decode cX11_join 31 = .ok (.invokevirtual 112, 3) := by decide +kernel
theorem dX11_join_34 : decode cX11_join 34 = .ok (.aload_n 3, 1) := by decide +kernel
theorem dX11_join_35 : decode cX11_join 35 = .ok (.iload_n 2, 1) := by decide +kernel
theorem dX11_join_36 : decode cX11_join 36 = .ok (.invokevirtual 92, 3) := by decide +kernel
theorem dX11_join_39 : decode cX11_join 39 = .ok (.aload_n 0, 1) := by decide +kernel
theorem dX11_join_40 : decode cX11_join 40 = .ok (.getfield 37, 3) := by decide +kernel
theorem dX11_join_43 : decode cX11_join 43 = .ok (.iload_n 1, 1) := by decide +kernel
theorem dX11_join_44 : decode cX11_join 44 = .ok (.iload_n 2, 1) := by decide +kernel
theorem dX11_join_45 : decode cX11_join 45 = .ok (.invokevirtual 99, 3) := by decide +kernel
theorem dX11_join_48 : decode cX11_join 48 = .ok (.aload_n 0, 1) := by decide +kernel
theorem dX11_join_49 : decode cX11_join 49 = .ok (.getfield 30, 3) := by decide +kernel
theorem dX11_join_52 : decode cX11_join 52 = .ok (.bipush 100, 2) := by decide +kernel
theorem dX11_join_54 : decode cX11_join 54 = .ok (.iload_n 1, 1) := by decide +kernel
theorem dX11_join_55 : decode cX11_join 55 = .ok (.iadd, 1) := by decide +kernel
theorem dX11_join_56 : decode cX11_join 56 = .ok (.iload_n 2, 1) := by decide +kernel
theorem dX11_join_57 : decode cX11_join 57 = .ok (.invokestatic 115, 3) := by decide +kernel
theorem dX11_join_60 : decode cX11_join 60 = .ok (.invokevirtual 121, 3) := by decide +kernel
theorem dX11_join_63 : decode cX11_join 63 = .ok (.aload_n 3, 1) := by decide +kernel
theorem dX11_join_64 : decode cX11_join 64 = .ok (.getfield 124, 3) := by decide +kernel
theorem dX11_join_67 : decode cX11_join 67 = .ok (.ireturn, 1) := by decide +kernel
theorem dX11_leave_0 : decode cX11_leave 0 = .ok (.aload_n 0, 1) := by decide +kernel
theorem dX11_leave_1 : decode cX11_leave 1 = .ok (.iload_n 1, 1) := by decide +kernel
theorem dX11_leave_2 : decode cX11_leave 2 = .ok (.invokevirtual 102, 3) := by decide +kernel
theorem dX11_leave_5 : decode cX11_leave 5 = .ok (.astore 4, 2) := by decide +kernel
theorem dX11_leave_7 : decode cX11_leave 7 = .ok (.aload 4, 2) := by decide +kernel
theorem dX11_leave_9 : decode cX11_leave 9 = .ok (.iload_n 2, 1) := by decide +kernel
theorem dX11_leave_10 : decode cX11_leave 10 = .ok (.invokevirtual 106, 3) := by decide +kernel
theorem dX11_leave_13 : decode cX11_leave 13 = .ok (.ifCond .ne 13, 3) := by decide +kernel
theorem dX11_leave_16 : decode cX11_leave 16 = .ok (.new 127, 3) := by decide +kernel
theorem dX11_leave_19 : decode cX11_leave 19 = .ok (.dup, 1) := by decide +kernel
theorem dX11_leave_20 : decode cX11_leave 20 = .ok (.ldc 129, 2) := by decide +kernel
theorem dX11_leave_22 : decode cX11_leave 22 = .ok (.invokespecial 131, 3) := by decide +kernel
theorem dX11_leave_25 : decode cX11_leave 25 = .ok (.athrow, 1) := by decide +kernel
theorem dX11_leave_26 : decode cX11_leave 26 = .ok (.iload_n 2, 1) := by decide +kernel
theorem dX11_leave_27 : decode cX11_leave 27 = .ok (.aload 4, 2) := by decide +kernel
theorem dX11_leave_29 : decode cX11_leave 29 = .ok (.getfield 132, 3) := by decide +kernel
theorem dX11_leave_32 : decode cX11_leave 32 = .ok (.if_icmp .ne 13, 3) := by decide +kernel
theorem dX11_leave_35 : decode cX11_leave 35 = .ok (.new 59, 3) := by decide +kernel
theorem dX11_leave_38 : decode cX11_leave 38 = .ok (.dup, 1) := by decide +kernel
theorem dX11_leave_39 : decode cX11_leave 39 = .ok (.ldc 135, 2) := by decide +kernel
theorem dX11_leave_41 : decode cX11_leave 41 = .ok (.invokespecial 63, 3) := by decide +kernel
theorem dX11_leave_44 : decode cX11_leave 44 = .ok (.athrow, 1) := by decide +kernel
theorem dX11_leave_45 : decode cX11_leave 45 = .ok (.aload_n 0, 1) := by decide +kernel
theorem dX11_leave_46 : decode cX11_leave 46 = .ok (.invokevirtual 112, 3) := by decide +kernel
theorem dX11_leave_49 : decode cX11_leave 49 = .ok (.aload 4, 2) := by decide +kernel
theorem dX11_leave_51 : decode cX11_leave 51 = .ok (.iload_n 2, 1) := by decide +kernel
theorem dX11_leave_52 : decode cX11_leave 52 = .ok (.invokevirtual 137, 3) := by decide +kernel
theorem dX11_leave_55 : decode cX11_leave 55 = .ok (.aload_n 0, 1) := by decide +kernel
theorem dX11_leave_56 : decode cX11_leave 56 = .ok (.getfield 37, 3) := by decide +kernel
theorem dX11_leave_59 : decode cX11_leave 59 = .ok (.iload_n 1, 1) := by decide +kernel
theorem dX11_leave_60 : decode cX11_leave 60 = .ok (.iload_n 2, 1) := by decide +kernel
theorem dX11_leave_61 : decode cX11_leave 61 = .ok (.invokevirtual 140, 3) := by decide +kernel
theorem dX11_leave_64 : decode cX11_leave 64 = .ok (.aload_n 0, 1) := by decide +kernel
theorem dX11_leave_65 : decode cX11_leave 65 = .ok (.getfield 30, 3) := by decide +kernel
theorem dX11_leave_68 : decode cX11_leave 68 = .ok (.sipush 200, 3) := by decide +kernel
theorem dX11_leave_71 : decode cX11_leave 71 = .ok (.iload_n 1, 1) := by decide +kernel
theorem dX11_leave_72 : decode cX11_leave 72 = .ok (.iadd, 1) := by decide +kernel
theorem dX11_leave_73 : decode cX11_leave 73 = .ok (.iload_n 2, 1) := by decide +kernel
theorem dX11_leave_74 : decode cX11_leave 74 = .ok (.invokestatic 115, 3) := by decide +kernel
theorem dX11_leave_77 : decode cX11_leave 77 = .ok (.invokevirtual 121, 3) := by decide +kernel
theorem dX11_leave_80 : decode cX11_leave 80 = .ok (.iload_n 3, 1) := by decide +kernel
theorem dX11_leave_81 : decode cX11_leave 81 = .ok (.ifCond .eq 12, 3) := by decide +kernel
theorem dX11_leave_84 : decode cX11_leave 84 = .ok (.aload_n 0, 1) := by decide +kernel
theorem dX11_leave_85 : decode cX11_leave 85 = .ok (.aload 4, 2) := by decide +kernel
theorem dX11_leave_87 : decode cX11_leave 87 = .ok (.invokevirtual 143, 3) := by decide +kernel
theorem dX11_leave_90 : decode cX11_leave 90 = .ok (.goto 4, 3) := by decide +kernel
theorem dX11_leave_93 : decode cX11_leave 93 = .ok (.iconst 0, 1) := by decide +kernel
theorem dX11_leave_94 : decode cX11_leave 94 = .ok (.ireturn, 1) := by decide +kernel
theorem dX11_isMember_0 : decode cX11_isMember 0 = .ok (.aload_n 0, 1) := by decide +kernel
theorem dX11_isMember_1 : decode cX11_isMember 1 = .ok (.iload_n 1, 1) := by decide +kernel
theorem dX11_isMember_2 : decode cX11_isMember 2 = .ok (.invokevirtual 102, 3) := by decide +kernel
theorem dX11_isMember_5 : decode cX11_isMember 5 = .ok (.astore_n 3, 1) := by decide +kernel
theorem dX11_isMember_6 : decode cX11_isMember 6 = .ok (.aload_n 0, 1) := by decide +kernel
theorem dX11_isMember_7 : decode cX11_isMember 7 = .ok (.iload_n 2, 1) := by decide +kernel
theorem dX11_isMember_8 : decode cX11_isMember 8 = .ok (.invokevirtual 78, 3) := by decide +kernel
theorem dX11_isMember_11 : decode cX11_isMember 11 = .ok (.pop, 1) := by decide +kernel
theorem dX11_isMember_12 : decode cX11_isMember 12 = .ok (.aload_n 3, 1) := by decide +kernel
theorem dX11_isMember_13 : decode cX11_isMember 13 = .ok (.iload_n 2, 1) := by decide +kernel
theorem dX11_isMember_14 : decode cX11_isMember 14 = .ok (.invokevirtual 106, 3) := by decide +kernel
theorem dX11_isMember_17 : decode cX11_isMember 17 = .ok (.ireturn, 1) := by decide +kernel
theorem dX11_epoch_0 : decode cX11_epoch 0 = .ok (.aload_n 0, 1) := by decide +kernel
theorem dX11_epoch_1 : decode cX11_epoch 1 = .ok (.iload_n 1, 1) := by decide +kernel
theorem dX11_epoch_2 : decode cX11_epoch 2 = .ok (.invokevirtual 102, 3) := by decide +kernel
theorem dX11_epoch_5 : decode cX11_epoch 5 = .ok (.getfield 147, 3) := by decide +kernel
theorem dX11_epoch_8 : decode cX11_epoch 8 = .ok (.ireturn, 1) := by decide +kernel
theorem dX11_known_0 : decode cX11_known 0 = .ok (.aload_n 0, 1) := by decide +kernel
theorem dX11_known_1 : decode cX11_known 1 = .ok (.iload_n 1, 1) := by decide +kernel
theorem dX11_known_2 : decode cX11_known 2 = .ok (.invokevirtual 102, 3) := by decide +kernel
theorem dX11_known_5 : decode cX11_known 5 = .ok (.astore_n 3, 1) := by decide +kernel
theorem dX11_known_6 : decode cX11_known 6 = .ok (.aload_n 0, 1) := by decide +kernel
theorem dX11_known_7 : decode cX11_known 7 = .ok (.iload_n 2, 1) := by decide +kernel
theorem dX11_known_8 : decode cX11_known 8 = .ok (.invokevirtual 78, 3) := by decide +kernel
theorem dX11_known_11 : decode cX11_known 11 = .ok (.pop, 1) := by decide +kernel
theorem dX11_known_12 : decode cX11_known 12 = .ok (.aload_n 3, 1) := by decide +kernel
theorem dX11_known_13 : decode cX11_known 13 = .ok (.iload_n 2, 1) := by decide +kernel
theorem dX11_known_14 : decode cX11_known 14 = .ok (.invokevirtual 150, 3) := by decide +kernel
theorem dX11_known_17 : decode cX11_known 17 = .ok (.ireturn, 1) := by decide +kernel
theorem dX11_addFile_0 : decode cX11_addFile 0 = .ok (.aload_n 0, 1) := by decide +kernel
theorem dX11_addFile_1 : decode cX11_addFile 1 = .ok (.iload_n 1, 1) := by decide +kernel
theorem dX11_addFile_2 : decode cX11_addFile 2 = .ok (.invokevirtual 102, 3) := by decide +kernel
theorem dX11_addFile_5 : decode cX11_addFile 5 = .ok (.astore_n 3, 1) := by decide +kernel
theorem dX11_addFile_6 : decode cX11_addFile 6 = .ok (.aload_n 0, 1) := by decide +kernel
theorem dX11_addFile_7 : decode cX11_addFile 7 = .ok (.iload_n 2, 1) := by decide +kernel
theorem dX11_addFile_8 : decode cX11_addFile 8 = .ok (.invokevirtual 78, 3) := by decide +kernel
theorem dX11_addFile_11 : decode cX11_addFile 11 = .ok (.pop, 1) := by decide +kernel
theorem dX11_addFile_12 : decode cX11_addFile 12 = .ok (.aload_n 0, 1) := by decide +kernel
theorem dX11_addFile_13 : decode cX11_addFile 13 = .ok (.aload_n 3, 1) := by decide +kernel
theorem dX11_addFile_14 : decode cX11_addFile 14 = .ok (.iload_n 2, 1) := by decide +kernel
theorem dX11_addFile_15 : decode cX11_addFile 15 = .ok (.invokevirtual 154, 3) := by decide +kernel
theorem dX11_addFile_18 : decode cX11_addFile 18 = .ok (.aload_n 0, 1) := by decide +kernel
theorem dX11_addFile_19 : decode cX11_addFile 19 = .ok (.getfield 158, 3) := by decide +kernel
theorem dX11_addFile_22 : decode cX11_addFile 22 = .ok (.ifCond .lt 15, 3) := by decide +kernel
theorem dX11_addFile_25 : decode cX11_addFile 25 = .ok (.aload_n 0, 1) := by decide +kernel
theorem dX11_addFile_26 : decode cX11_addFile 26 = .ok (.getfield 158, 3) := by decide +kernel
theorem dX11_addFile_29 : decode cX11_addFile 29 = .ok (.aload_n 0, 1) := by decide +kernel
theorem dX11_addFile_30 : decode cX11_addFile 30 = .ok (.getfield 23, 3) := by decide +kernel
theorem dX11_addFile_33 : decode cX11_addFile 33 = .ok (.arraylength, 1) := by decide +kernel
theorem dX11_addFile_34 : decode cX11_addFile 34 = .ok (.if_icmp .lt 13, 3) := by decide +kernel
theorem dX11_addFile_37 : decode cX11_addFile 37 = .ok (.new 70, 3) := by decide +kernel
theorem dX11_addFile_40 : decode cX11_addFile 40 = .ok (.dup, 1) := by decide +kernel
theorem dX11_addFile_41 : decode cX11_addFile 41 = .ok (.ldc 161, 2) := by decide +kernel
theorem dX11_addFile_43 : decode cX11_addFile 43 = .ok (.invokespecial 74, 3) := by decide +kernel
theorem dX11_addFile_46 : decode cX11_addFile 46 = .ok (.athrow, 1) := by decide +kernel
theorem dX11_addFile_47 : decode cX11_addFile 47 = .ok (.aload_n 0, 1) := by decide +kernel
theorem dX11_addFile_48 : decode cX11_addFile 48 = .ok (.getfield 23, 3) := by decide +kernel
theorem dX11_addFile_51 : decode cX11_addFile 51 = .ok (.aload_n 0, 1) := by decide +kernel
theorem dX11_addFile_52 : decode cX11_addFile 52 = .ok (.getfield 158, 3) := by decide +kernel
theorem dX11_addFile_55 : decode cX11_addFile 55 = .ok (.new 21, 3) := by decide +kernel
theorem dX11_addFile_58 : decode cX11_addFile 58 = .ok (.dup, 1) := by decide +kernel
theorem dX11_addFile_59 : decode cX11_addFile 59 = .ok (.aload_n 0, 1) := by decide +kernel
theorem dX11_addFile_60 : decode cX11_addFile 60 = .ok (.getfield 158, 3) := by decide +kernel
theorem dX11_addFile_63 : decode cX11_addFile 63 = .ok (.aload_n 3, 1) := by decide +kernel
theorem dX11_addFile_64 : decode cX11_addFile 64 = .ok (.invokespecial 163, 3) := by decide +kernel
theorem dX11_addFile_67 : decode cX11_addFile 67 = .ok (.aastore, 1) := by decide +kernel
theorem dX11_addFile_68 : decode cX11_addFile 68 = .ok (.aload_n 0, 1) := by decide +kernel
theorem dX11_addFile_69 : decode cX11_addFile 69 = .ok (.dup, 1) := by decide +kernel
theorem dX11_addFile_70 : decode cX11_addFile 70 = .ok (.getfield 158, 3) := by decide +kernel
theorem dX11_addFile_73 : decode cX11_addFile 73 = .ok (.iconst 1, 1) := by decide +kernel
theorem dX11_addFile_74 : decode cX11_addFile 74 = .ok (.iadd, 1) := by decide +kernel
theorem dX11_addFile_75 : decode cX11_addFile 75 = .ok (.putfield 158, 3) := by decide +kernel
theorem dX11_addFile_78 : decode cX11_addFile 78 = .ok (.aload_n 0, 1) := by decide +kernel
theorem dX11_addFile_79 : decode cX11_addFile 79 = .ok (.getfield 158, 3) := by decide +kernel
theorem dX11_addFile_82 : decode cX11_addFile 82 = .ok (.iconst 1, 1) := by decide +kernel
theorem dX11_addFile_83 : decode cX11_addFile 83 = .ok (.isub, 1) := by decide +kernel
theorem dX11_addFile_84 : decode cX11_addFile 84 = .ok (.ireturn, 1) := by decide +kernel
theorem dX11_write_0 : decode cX11_write 0 = .ok (.aload_n 0, 1) := by decide +kernel
theorem dX11_write_1 : decode cX11_write 1 = .ok (.iload_n 1, 1) := by decide +kernel
theorem dX11_write_2 : decode cX11_write 2 = .ok (.invokevirtual 78, 3) := by decide +kernel
theorem dX11_write_5 : decode cX11_write 5 = .ok (.astore 5, 2) := by decide +kernel
theorem dX11_write_7 : decode cX11_write 7 = .ok (.aload_n 0, 1) := by decide +kernel
theorem dX11_write_8 : decode cX11_write 8 = .ok (.iload_n 2, 1) := by decide +kernel
theorem dX11_write_9 : decode cX11_write 9 = .ok (.invokevirtual 166, 3) := by decide +kernel
theorem dX11_write_12 : decode cX11_write 12 = .ok (.astore 6, 2) := by decide +kernel
theorem dX11_write_14 : decode cX11_write 14 = .ok (.aload_n 0, 1) := by decide +kernel
theorem dX11_write_15 : decode cX11_write 15 = .ok (.iload_n 3, 1) := by decide +kernel
theorem dX11_write_16 : decode cX11_write 16 = .ok (.invokevirtual 170, 3) := by decide +kernel
theorem dX11_write_19 : decode cX11_write 19 = .ok (.aload_n 0, 1) := by decide +kernel
theorem dX11_write_20 : decode cX11_write 20 = .ok (.aload 6, 2) := by decide +kernel
theorem dX11_write_22 : decode cX11_write 22 = .ok (.getfield 173, 3) := by decide +kernel
theorem dX11_write_25 : decode cX11_write 25 = .ok (.iload_n 1, 1) := by decide +kernel
theorem dX11_write_26 : decode cX11_write 26 = .ok (.invokevirtual 154, 3) := by decide +kernel
theorem dX11_write_29 : decode cX11_write 29 = .ok (.aload 5, 2) := by decide +kernel
theorem dX11_write_31 : decode cX11_write 31 = .ok (.getfield 177, 3) := by decide +kernel
theorem dX11_write_34 : decode cX11_write 34 = .ok (.ifCond .ne 13, 3) := by decide +kernel
theorem dX11_write_37 : decode cX11_write 37 = .ok (.aload_n 0, 1) := by decide +kernel
theorem dX11_write_38 : decode cX11_write 38 = .ok (.aload 6, 2) := by decide +kernel
theorem dX11_write_40 : decode cX11_write 40 = .ok (.iload_n 3, 1) := by decide +kernel
theorem dX11_write_41 : decode cX11_write 41 = .ok (.invokevirtual 181, 3) := by decide +kernel
theorem dX11_write_44 : decode cX11_write 44 = .ok (.ifCond .ne 13, 3) := by decide +kernel
theorem dX11_write_47 : decode cX11_write 47 = .ok (.new 70, 3) := by decide +kernel
theorem dX11_write_50 : decode cX11_write 50 = .ok (.dup, 1) := by decide +kernel
theorem dX11_write_51 : decode cX11_write 51 = .ok (.ldc 185, 2) := by decide +kernel
theorem dX11_write_53 : decode cX11_write 53 = .ok (.invokespecial 74, 3) := by decide +kernel
theorem dX11_write_56 : decode cX11_write 56 = .ok (.athrow, 1) := by decide +kernel
theorem dX11_write_57 : decode cX11_write 57 = .ok (.aload_n 0, 1) := by decide +kernel
theorem dX11_write_58 : decode cX11_write 58 = .ok (.aload 6, 2) := by decide +kernel
theorem dX11_write_60 : decode cX11_write 60 = .ok (.iload_n 3, 1) := by decide +kernel
theorem dX11_write_61 : decode cX11_write 61 = .ok (.iload 4, 2) := by decide +kernel
theorem dX11_write_63 : decode cX11_write 63 = .ok (.invokevirtual 187, 3) := by decide +kernel
theorem dX11_write_66 : decode cX11_write 66 = .ok (.ireturn, 1) := by decide +kernel
theorem dX11_read_0 : decode cX11_read 0 = .ok (.aload_n 0, 1) := by decide +kernel
theorem dX11_read_1 : decode cX11_read 1 = .ok (.iload_n 1, 1) := by decide +kernel
theorem dX11_read_2 : decode cX11_read 2 = .ok (.invokevirtual 78, 3) := by decide +kernel
theorem dX11_read_5 : decode cX11_read 5 = .ok (.pop, 1) := by decide +kernel
theorem dX11_read_6 : decode cX11_read 6 = .ok (.aload_n 0, 1) := by decide +kernel
theorem dX11_read_7 : decode cX11_read 7 = .ok (.iload_n 2, 1) := by decide +kernel
theorem dX11_read_8 : decode cX11_read 8 = .ok (.invokevirtual 166, 3) := by decide +kernel
theorem dX11_read_11 : decode cX11_read 11 = .ok (.astore 4, 2) := by decide +kernel
theorem dX11_read_13 : decode cX11_read 13 = .ok (.aload_n 0, 1) := by decide +kernel
theorem dX11_read_14 : decode cX11_read 14 = .ok (.iload_n 2, 1) := by decide +kernel
theorem dX11_read_15 : decode cX11_read 15 = .ok (.iload_n 3, 1) := by decide +kernel
theorem dX11_read_16 : decode cX11_read 16 = .ok (.invokevirtual 191, 3) := by decide +kernel
theorem dX11_read_19 : decode cX11_read 19 = .ok (.astore 5, 2) := by decide +kernel
theorem dX11_read_21 : decode cX11_read 21 = .ok (.aload 4, 2) := by decide +kernel
theorem dX11_read_23 : decode cX11_read 23 = .ok (.getfield 195, 3) := by decide +kernel
theorem dX11_read_26 : decode cX11_read 26 = .ok (.ifCond .ne 11, 3) := by decide +kernel
theorem dX11_read_29 : decode cX11_read 29 = .ok (.aload 4, 2) := by decide +kernel
theorem dX11_read_31 : decode cX11_read 31 = .ok (.invokevirtual 198, 3) := by decide +kernel
theorem dX11_read_34 : decode cX11_read 34 = .ok (.ifCond .eq 13, 3) := by decide +kernel
theorem dX11_read_37 : decode cX11_read 37 = .ok (.new 70, 3) := by decide +kernel
theorem dX11_read_40 : decode cX11_read 40 = .ok (.dup, 1) := by decide +kernel
theorem dX11_read_41 : decode cX11_read 41 = .ok (.ldc 202, 2) := by decide +kernel
theorem dX11_read_43 : decode cX11_read 43 = .ok (.invokespecial 74, 3) := by decide +kernel
theorem dX11_read_46 : decode cX11_read 46 = .ok (.athrow, 1) := by decide +kernel
theorem dX11_read_47 : decode cX11_read 47 = .ok (.aload_n 0, 1) := by decide +kernel
theorem dX11_read_48 : decode cX11_read 48 = .ok (.iload_n 1, 1) := by decide +kernel
theorem dX11_read_49 : decode cX11_read 49 = .ok (.aload 4, 2) := by decide +kernel
theorem dX11_read_51 : decode cX11_read 51 = .ok (.aload 5, 2) := by decide +kernel
theorem dX11_read_53 : decode cX11_read 53 = .ok (.invokevirtual 204, 3) := by decide +kernel
theorem dX11_read_56 : decode cX11_read 56 = .ok (.ifCond .ne 13, 3) := by decide +kernel
theorem dX11_read_59 : decode cX11_read 59 = .ok (.new 208, 3) := by decide +kernel
theorem dX11_read_62 : decode cX11_read 62 = .ok (.dup, 1) := by decide +kernel
theorem dX11_read_63 : decode cX11_read 63 = .ok (.ldc 210, 2) := by decide +kernel
theorem dX11_read_65 : decode cX11_read 65 = .ok (.invokespecial 212, 3) := by decide +kernel
theorem dX11_read_68 : decode cX11_read 68 = .ok (.athrow, 1) := by decide +kernel
theorem dX11_read_69 : decode cX11_read 69 = .ok (.aload 5, 2) := by decide +kernel
theorem dX11_read_71 : decode cX11_read 71 = .ok (.invokevirtual 213, 3) := by decide +kernel
theorem dX11_read_74 : decode cX11_read 74 = .ok (.ireturn, 1) := by decide +kernel
theorem dX11_canRead_0 : decode cX11_canRead 0 = .ok (.aload_n 0, 1) := by decide +kernel
theorem dX11_canRead_1 : decode cX11_canRead 1 = .ok (.iload_n 1, 1) := by decide +kernel
theorem dX11_canRead_2 : decode cX11_canRead 2 = .ok (.invokevirtual 78, 3) := by decide +kernel
theorem dX11_canRead_5 : decode cX11_canRead 5 = .ok (.pop, 1) := by decide +kernel
theorem dX11_canRead_6 : decode cX11_canRead 6 = .ok (.aload_n 0, 1) := by decide +kernel
theorem dX11_canRead_7 : decode cX11_canRead 7 = .ok (.iload_n 2, 1) := by decide +kernel
theorem dX11_canRead_8 : decode cX11_canRead 8 = .ok (.invokevirtual 166, 3) := by decide +kernel
theorem dX11_canRead_11 : decode cX11_canRead 11 = .ok (.astore 4, 2) := by decide +kernel
theorem dX11_canRead_13 : decode cX11_canRead 13 = .ok (.aload_n 0, 1) := by decide +kernel
theorem dX11_canRead_14 : decode cX11_canRead 14 = .ok (.iload_n 1, 1) := by decide +kernel
theorem dX11_canRead_15 : decode cX11_canRead 15 = .ok (.aload 4, 2) := by decide +kernel
theorem dX11_canRead_17 : decode cX11_canRead 17 = .ok (.aload_n 0, 1) := by decide +kernel
theorem dX11_canRead_18 : decode cX11_canRead 18 = .ok (.iload_n 2, 1) := by decide +kernel
theorem dX11_canRead_19 : decode cX11_canRead 19 = .ok (.iload_n 3, 1) := by decide +kernel
theorem dX11_canRead_20 : decode cX11_canRead 20 = .ok (.invokevirtual 191, 3) := by decide +kernel
theorem dX11_canRead_23 : decode cX11_canRead 23 = .ok (.invokevirtual 204, 3) := by decide +kernel
theorem dX11_canRead_26 : decode cX11_canRead 26 = .ok (.ireturn, 1) := by decide +kernel
theorem dX11_canReadByGrants_0 : decode cX11_canReadByGrants 0 = .ok (.aload_n 0, 1) := by decide +kernel
theorem dX11_canReadByGrants_1 : decode cX11_canReadByGrants 1 = .ok (.iload_n 1, 1) := by decide +kernel
theorem dX11_canReadByGrants_2 : decode cX11_canReadByGrants 2 = .ok (.invokevirtual 78, 3) := by decide +kernel
theorem dX11_canReadByGrants_5 : decode cX11_canReadByGrants 5 = .ok (.pop, 1) := by decide +kernel
theorem dX11_canReadByGrants_6 : decode cX11_canReadByGrants 6 = .ok (.aload_n 0, 1) := by decide +kernel
theorem dX11_canReadByGrants_7 : decode cX11_canReadByGrants 7 = .ok (.iload_n 2, 1) := by decide +kernel
theorem dX11_canReadByGrants_8 : decode cX11_canReadByGrants 8 = .ok (.invokevirtual 166, 3) := by decide +kernel
theorem dX11_canReadByGrants_11 : decode cX11_canReadByGrants 11 = .ok (.astore 4, 2) := by decide +kernel
theorem dX11_canReadByGrants_13 : decode cX11_canReadByGrants 13 = .ok (.aload_n 0, 1) := by decide +kernel
theorem dX11_canReadByGrants_14 : decode cX11_canReadByGrants 14 = .ok (.iload_n 2, 1) := by decide +kernel
theorem dX11_canReadByGrants_15 : decode cX11_canReadByGrants 15 = .ok (.iload_n 3, 1) := by decide +kernel
theorem dX11_canReadByGrants_16 : decode cX11_canReadByGrants 16 = .ok (.invokevirtual 191, 3) := by decide +kernel
theorem dX11_canReadByGrants_19 : decode cX11_canReadByGrants 19 = .ok (.astore 5, 2) := by decide +kernel
theorem dX11_canReadByGrants_21 : decode cX11_canReadByGrants 21 = .ok (.aload_n 0, 1) := by decide +kernel
theorem dX11_canReadByGrants_22 : decode cX11_canReadByGrants 22 = .ok (.getfield 37, 3) := by decide +kernel
theorem dX11_canReadByGrants_25 : decode cX11_canReadByGrants 25 = .ok (.invokevirtual 219, 3) := by decide +kernel
theorem dX11_canReadByGrants_28 : decode cX11_canReadByGrants 28 = .ok (.aload_n 0, 1) := by decide +kernel
theorem dX11_canReadByGrants_29 : decode cX11_canReadByGrants 29 = .ok (.getfield 37, 3) := by decide +kernel
theorem dX11_canReadByGrants_32 : decode cX11_canReadByGrants 32 = .ok (.aload 4, 2) := by decide +kernel
theorem dX11_canReadByGrants_34 : decode cX11_canReadByGrants 34 = .ok (.getfield 173, 3) := by decide +kernel
theorem dX11_canReadByGrants_37 : decode cX11_canReadByGrants 37 = .ok (.getfield 96, 3) := by decide +kernel
theorem dX11_canReadByGrants_40 : decode cX11_canReadByGrants 40 = .ok (.iload_n 1, 1) := by decide +kernel
theorem dX11_canReadByGrants_41 : decode cX11_canReadByGrants 41 = .ok (.aload 5, 2) := by decide +kernel
theorem dX11_canReadByGrants_43 : decode cX11_canReadByGrants 43 = .ok (.getfield 222, 3) := by decide +kernel
theorem dX11_canReadByGrants_46 : decode cX11_canReadByGrants 46 = .ok (.invokevirtual 225, 3) := by decide +kernel
theorem dX11_canReadByGrants_49 : decode cX11_canReadByGrants 49 = .ok (.ireturn, 1) := by decide +kernel
theorem dX11_cipher_0 : decode cX11_cipher 0 = .ok (.aload_n 0, 1) := by decide +kernel
theorem dX11_cipher_1 : decode cX11_cipher 1 = .ok (.iload_n 1, 1) := by decide +kernel
theorem dX11_cipher_2 : decode cX11_cipher 2 = .ok (.iload_n 2, 1) := by decide +kernel
theorem dX11_cipher_3 : decode cX11_cipher 3 = .ok (.invokevirtual 191, 3) := by decide +kernel
theorem dX11_cipher_6 : decode cX11_cipher 6 = .ok (.getfield 229, 3) := by decide +kernel
theorem dX11_cipher_9 : decode cX11_cipher 9 = .ok (.ireturn, 1) := by decide +kernel
theorem dX11_version_0 : decode cX11_version 0 = .ok (.aload_n 0, 1) := by decide +kernel
theorem dX11_version_1 : decode cX11_version 1 = .ok (.iload_n 1, 1) := by decide +kernel
theorem dX11_version_2 : decode cX11_version 2 = .ok (.iload_n 2, 1) := by decide +kernel
theorem dX11_version_3 : decode cX11_version 3 = .ok (.invokevirtual 191, 3) := by decide +kernel
theorem dX11_version_6 : decode cX11_version 6 = .ok (.getfield 232, 3) := by decide +kernel
theorem dX11_version_9 : decode cX11_version 9 = .ok (.ireturn, 1) := by decide +kernel
theorem dX11_writes_0 : decode cX11_writes 0 = .ok (.aload_n 0, 1) := by decide +kernel
theorem dX11_writes_1 : decode cX11_writes 1 = .ok (.iload_n 1, 1) := by decide +kernel
theorem dX11_writes_2 : decode cX11_writes 2 = .ok (.invokevirtual 166, 3) := by decide +kernel
theorem dX11_writes_5 : decode cX11_writes 5 = .ok (.astore_n 3, 1) := by decide +kernel
theorem dX11_writes_6 : decode cX11_writes 6 = .ok (.aload_n 0, 1) := by decide +kernel
theorem dX11_writes_7 : decode cX11_writes 7 = .ok (.iload_n 2, 1) := by decide +kernel
theorem dX11_writes_8 : decode cX11_writes 8 = .ok (.invokevirtual 170, 3) := by decide +kernel
theorem dX11_writes_11 : decode cX11_writes 11 = .ok (.aload_n 3, 1) := by decide +kernel
theorem dX11_writes_12 : decode cX11_writes 12 = .ok (.iload_n 2, 1) := by decide +kernel
theorem dX11_writes_13 : decode cX11_writes 13 = .ok (.invokevirtual 235, 3) := by decide +kernel
theorem dX11_writes_16 : decode cX11_writes 16 = .ok (.ireturn, 1) := by decide +kernel
theorem dX11_mark_0 : decode cX11_mark 0 = .ok (.aload_n 0, 1) := by decide +kernel
theorem dX11_mark_1 : decode cX11_mark 1 = .ok (.iload_n 1, 1) := by decide +kernel
theorem dX11_mark_2 : decode cX11_mark 2 = .ok (.invokevirtual 166, 3) := by decide +kernel
theorem dX11_mark_5 : decode cX11_mark 5 = .ok (.getfield 238, 3) := by decide +kernel
theorem dX11_mark_8 : decode cX11_mark 8 = .ok (.ireturn, 1) := by decide +kernel
theorem dX11_spoil_0 : decode cX11_spoil 0 = .ok (.aload_n 0, 1) := by decide +kernel
theorem dX11_spoil_1 : decode cX11_spoil 1 = .ok (.iload_n 1, 1) := by decide +kernel
theorem dX11_spoil_2 : decode cX11_spoil 2 = .ok (.iload_n 2, 1) := by decide +kernel
theorem dX11_spoil_3 : decode cX11_spoil 3 = .ok (.invokevirtual 191, 3) := by decide +kernel
theorem dX11_spoil_6 : decode cX11_spoil 6 = .ok (.astore 4, 2) := by decide +kernel
theorem dX11_spoil_8 : decode cX11_spoil 8 = .ok (.aload 4, 2) := by decide +kernel
theorem dX11_spoil_10 : decode cX11_spoil 10 = .ok (.dup, 1) := by decide +kernel
theorem dX11_spoil_11 : decode cX11_spoil 11 = .ok (.getfield 229, 3) := by decide +kernel
theorem dX11_spoil_14 : decode cX11_spoil 14 = .ok (.iload_n 3, 1) := by decide +kernel
theorem dX11_spoil_15 : decode cX11_spoil 15 = .ok (.ixor, 1) := by decide +kernel
theorem dX11_spoil_16 : decode cX11_spoil 16 = .ok (.putfield 229, 3) := by decide +kernel
theorem dX11_spoil_19 : decode cX11_spoil 19 = .ok (.aload 4, 2) := by decide +kernel
theorem dX11_spoil_21 : decode cX11_spoil 21 = .ok (.getfield 229, 3) := by decide +kernel
theorem dX11_spoil_24 : decode cX11_spoil 24 = .ok (.ireturn, 1) := by decide +kernel
theorem dX11_status_0 : decode cX11_status 0 = .ok (.aload_n 0, 1) := by decide +kernel
theorem dX11_status_1 : decode cX11_status 1 = .ok (.iload_n 1, 1) := by decide +kernel
theorem dX11_status_2 : decode cX11_status 2 = .ok (.invokevirtual 166, 3) := by decide +kernel
theorem dX11_status_5 : decode cX11_status 5 = .ok (.astore_n 2, 1) := by decide +kernel
theorem dX11_status_6 : decode cX11_status 6 = .ok (.aload_n 2, 1) := by decide +kernel
theorem dX11_status_7 : decode cX11_status 7 = .ok (.getfield 195, 3) := by decide +kernel
theorem dX11_status_10 : decode cX11_status 10 = .ok (.ifCond .eq 6, 3) := by decide +kernel
theorem dX11_status_13 : decode cX11_status 13 = .ok (.bipush 120, 2) := by decide +kernel
theorem dX11_status_15 : decode cX11_status 15 = .ok (.ireturn, 1) := by decide +kernel
theorem dX11_status_16 : decode cX11_status 16 = .ok (.aload_n 2, 1) := by decide +kernel
theorem dX11_status_17 : decode cX11_status 17 = .ok (.invokevirtual 198, 3) := by decide +kernel
theorem dX11_status_20 : decode cX11_status 20 = .ok (.ifCond .eq 8, 3) := by decide +kernel
theorem dX11_status_23 : decode cX11_status 23 = .ok (.bipush 115, 2) := by decide +kernel
theorem dX11_status_25 : decode cX11_status 25 = .ok (.goto 5, 3) := by decide +kernel
theorem dX11_status_28 : decode cX11_status 28 = .ok (.bipush 111, 2) := by decide +kernel
theorem dX11_status_30 : decode cX11_status 30 = .ok (.ireturn, 1) := by decide +kernel
theorem dX11_throwAway_0 : decode cX11_throwAway 0 = .ok (.aload_n 0, 1) := by decide +kernel
theorem dX11_throwAway_1 : decode cX11_throwAway 1 = .ok (.iload_n 1, 1) := by decide +kernel
theorem dX11_throwAway_2 : decode cX11_throwAway 2 = .ok (.invokevirtual 78, 3) := by decide +kernel
theorem dX11_throwAway_5 : decode cX11_throwAway 5 = .ok (.pop, 1) := by decide +kernel
theorem dX11_throwAway_6 : decode cX11_throwAway 6 = .ok (.aload_n 0, 1) := by decide +kernel
theorem dX11_throwAway_7 : decode cX11_throwAway 7 = .ok (.iload_n 2, 1) := by decide +kernel
theorem dX11_throwAway_8 : decode cX11_throwAway 8 = .ok (.invokevirtual 166, 3) := by decide +kernel
theorem dX11_throwAway_11 : decode cX11_throwAway 11 = .ok (.astore_n 3, 1) := by decide +kernel
theorem dX11_throwAway_12 : decode cX11_throwAway 12 = .ok (.iload_n 1, 1) := by decide +kernel
theorem dX11_throwAway_13 : decode cX11_throwAway 13 = .ok (.aload_n 3, 1) := by decide +kernel
theorem dX11_throwAway_14 : decode cX11_throwAway 14 = .ok (.getfield 173, 3) := by decide +kernel
theorem dX11_throwAway_17 : decode cX11_throwAway 17 = .ok (.getfield 132, 3) := by decide +kernel
theorem dX11_throwAway_20 : decode cX11_throwAway 20 = .ok (.if_icmp .eq 13, 3) := by decide +kernel
theorem dX11_throwAway_23 : decode cX11_throwAway 23 = .ok (.new 208, 3) := by decide +kernel
theorem dX11_throwAway_26 : decode cX11_throwAway 26 = .ok (.dup, 1) := by decide +kernel
theorem dX11_throwAway_27 : decode cX11_throwAway 27 = .ok (.ldc 241, 2) := by decide +kernel
theorem dX11_throwAway_29 : decode cX11_throwAway 29 = .ok (.invokespecial 212, 3) := by decide +kernel
theorem dX11_throwAway_32 : decode cX11_throwAway 32 = .ok (.athrow, 1) := by decide +kernel
theorem dX11_throwAway_33 : decode cX11_throwAway 33 = .ok (.aload_n 3, 1) := by decide +kernel
theorem dX11_throwAway_34 : decode cX11_throwAway 34 = .ok (.getfield 195, 3) := by decide +kernel
theorem dX11_throwAway_37 : decode cX11_throwAway 37 = .ok (.ifCond .ne 13, 3) := by decide +kernel
theorem dX11_throwAway_40 : decode cX11_throwAway 40 = .ok (.aload_n 0, 1) := by decide +kernel
theorem dX11_throwAway_41 : decode cX11_throwAway 41 = .ok (.getfield 30, 3) := by decide +kernel
theorem dX11_throwAway_44 : decode cX11_throwAway 44 = .ok (.invokevirtual 243, 3) := by decide +kernel
theorem dX11_throwAway_47 : decode cX11_throwAway 47 = .ok (.ifCond .eq 13, 3) := by decide +kernel
theorem dX11_throwAway_50 : decode cX11_throwAway 50 = .ok (.new 70, 3) := by decide +kernel
theorem dX11_throwAway_53 : decode cX11_throwAway 53 = .ok (.dup, 1) := by decide +kernel
theorem dX11_throwAway_54 : decode cX11_throwAway 54 = .ok (.ldc 246, 2) := by decide +kernel
theorem dX11_throwAway_56 : decode cX11_throwAway 56 = .ok (.invokespecial 74, 3) := by decide +kernel
theorem dX11_throwAway_59 : decode cX11_throwAway 59 = .ok (.athrow, 1) := by decide +kernel
theorem dX11_throwAway_60 : decode cX11_throwAway 60 = .ok (.aload_n 3, 1) := by decide +kernel
theorem dX11_throwAway_61 : decode cX11_throwAway 61 = .ok (.iconst 1, 1) := by decide +kernel
theorem dX11_throwAway_62 : decode cX11_throwAway 62 = .ok (.putfield 195, 3) := by decide +kernel
theorem dX11_throwAway_65 : decode cX11_throwAway 65 = .ok (.aload_n 0, 1) := by decide +kernel
theorem dX11_throwAway_66 : decode cX11_throwAway 66 = .ok (.getfield 30, 3) := by decide +kernel
theorem dX11_throwAway_69 : decode cX11_throwAway 69 = .ok (.sipush 300, 3) := by decide +kernel
theorem dX11_throwAway_72 : decode cX11_throwAway 72 = .ok (.iload_n 2, 1) := by decide +kernel
theorem dX11_throwAway_73 : decode cX11_throwAway 73 = .ok (.invokestatic 115, 3) := by decide +kernel
theorem dX11_throwAway_76 : decode cX11_throwAway 76 = .ok (.invokevirtual 121, 3) := by decide +kernel
theorem dX11_throwAway_79 : decode cX11_throwAway 79 = .ok (.aload_n 3, 1) := by decide +kernel
theorem dX11_throwAway_80 : decode cX11_throwAway 80 = .ok (.invokevirtual 248, 3) := by decide +kernel
theorem dX11_throwAway_83 : decode cX11_throwAway 83 = .ok (.ireturn, 1) := by decide +kernel
theorem dX11_purge_0 : decode cX11_purge 0 = .ok (.iconst 0, 1) := by decide +kernel
theorem dX11_purge_1 : decode cX11_purge 1 = .ok (.istore_n 1, 1) := by decide +kernel
theorem dX11_purge_2 : decode cX11_purge 2 = .ok (.iconst 0, 1) := by decide +kernel
theorem dX11_purge_3 : decode cX11_purge 3 = .ok (.istore_n 2, 1) := by decide +kernel
theorem dX11_purge_4 : decode cX11_purge 4 = .ok (.iload_n 2, 1) := by decide +kernel
theorem dX11_purge_5 : decode cX11_purge 5 = .ok (.aload_n 0, 1) := by decide +kernel
theorem dX11_purge_6 : decode cX11_purge 6 = .ok (.getfield 158, 3) := by decide +kernel
theorem dX11_purge_9 : decode cX11_purge 9 = .ok (.if_icmp .ge 43, 3) := by decide +kernel
theorem dX11_purge_12 : decode cX11_purge 12 = .ok (.iload_n 2, 1) := by decide +kernel
theorem dX11_purge_13 : decode cX11_purge 13 = .ok (.aload_n 0, 1) := by decide +kernel
theorem dX11_purge_14 : decode cX11_purge 14 = .ok (.getfield 23, 3) := by decide +kernel
theorem dX11_purge_17 : decode cX11_purge 17 = .ok (.arraylength, 1) := by decide +kernel
theorem dX11_purge_18 : decode cX11_purge 18 = .ok (.if_icmp .ge 34, 3) := by decide +kernel
theorem dX11_purge_21 : decode cX11_purge 21 = .ok (.aload_n 0, 1) := by decide +kernel
theorem dX11_purge_22 : decode cX11_purge 22 = .ok (.getfield 23, 3) := by decide +kernel
theorem dX11_purge_25 : decode cX11_purge 25 = .ok (.iload_n 2, 1) := by decide +kernel
theorem dX11_purge_26 : decode cX11_purge 26 = .ok (.aaload, 1) := by decide +kernel
theorem dX11_purge_27 : decode cX11_purge 27 = .ok (.astore_n 3, 1) := by decide +kernel
theorem dX11_purge_28 : decode cX11_purge 28 = .ok (.aload_n 3, 1) := by decide +kernel
theorem dX11_purge_29 : decode cX11_purge 29 = .ok (.ifnull 17, 3) := by decide +kernel
theorem dX11_purge_32 : decode cX11_purge 32 = .ok (.aload_n 3, 1) := by decide +kernel
theorem dX11_purge_33 : decode cX11_purge 33 = .ok (.getfield 195, 3) := by decide +kernel
theorem dX11_purge_36 : decode cX11_purge 36 = .ok (.ifCond .eq 10, 3) := by decide +kernel
theorem dX11_purge_39 : decode cX11_purge 39 = .ok (.iload_n 1, 1) := by decide +kernel
theorem dX11_purge_40 : decode cX11_purge 40 = .ok (.aload_n 3, 1) := by decide +kernel
theorem dX11_purge_41 : decode cX11_purge 41 = .ok (.invokevirtual 251, 3) := by decide +kernel
theorem dX11_purge_44 : decode cX11_purge 44 = .ok (.iadd, 1) := by decide +kernel
theorem dX11_purge_45 : decode cX11_purge 45 = .ok (.istore_n 1, 1) := by decide +kernel
theorem dX11_purge_46 : decode cX11_purge 46 = .ok (.iinc 2 1, 3) := by decide +kernel
theorem dX11_purge_49 : decode cX11_purge 49 = .ok (.goto (-45), 3) := by decide +kernel
theorem dX11_purge_52 : decode cX11_purge 52 = .ok (.iload_n 1, 1) := by decide +kernel
theorem dX11_purge_53 : decode cX11_purge 53 = .ok (.ireturn, 1) := by decide +kernel
theorem dX11_parts_0 : decode cX11_parts 0 = .ok (.aload_n 0, 1) := by decide +kernel
theorem dX11_parts_1 : decode cX11_parts 1 = .ok (.aload_n 0, 1) := by decide +kernel
theorem dX11_parts_2 : decode cX11_parts 2 = .ok (.iload_n 1, 1) := by decide +kernel
theorem dX11_parts_3 : decode cX11_parts 3 = .ok (.invokevirtual 102, 3) := by decide +kernel
theorem dX11_parts_6 : decode cX11_parts 6 = .ok (.invokevirtual 254, 3) := by decide +kernel
theorem dX11_parts_9 : decode cX11_parts 9 = .ok (.ireturn, 1) := by decide +kernel
theorem dX11_tell_0 : decode cX11_tell 0 = .ok (.aload_n 0, 1) := by decide +kernel
theorem dX11_tell_1 : decode cX11_tell 1 = .ok (.iload_n 1, 1) := by decide +kernel
theorem dX11_tell_2 : decode cX11_tell 2 = .ok (.invokevirtual 78, 3) := by decide +kernel
theorem dX11_tell_5 : decode cX11_tell 5 = .ok (.pop, 1) := by decide +kernel
theorem dX11_tell_6 : decode cX11_tell 6 = .ok (.aload_n 0, 1) := by decide +kernel
theorem dX11_tell_7 : decode cX11_tell 7 = .ok (.iload_n 2, 1) := by decide +kernel
theorem dX11_tell_8 : decode cX11_tell 8 = .ok (.invokevirtual 166, 3) := by decide +kernel
theorem dX11_tell_11 : decode cX11_tell 11 = .ok (.astore 4, 2) := by decide +kernel
theorem dX11_tell_13 : decode cX11_tell 13 = .ok (.aload_n 0, 1) := by decide +kernel
theorem dX11_tell_14 : decode cX11_tell 14 = .ok (.iload_n 3, 1) := by decide +kernel
theorem dX11_tell_15 : decode cX11_tell 15 = .ok (.invokevirtual 257, 3) := by decide +kernel
theorem dX11_tell_18 : decode cX11_tell 18 = .ok (.aload_n 0, 1) := by decide +kernel
theorem dX11_tell_19 : decode cX11_tell 19 = .ok (.aload 4, 2) := by decide +kernel
theorem dX11_tell_21 : decode cX11_tell 21 = .ok (.getfield 173, 3) := by decide +kernel
theorem dX11_tell_24 : decode cX11_tell 24 = .ok (.iload_n 1, 1) := by decide +kernel
theorem dX11_tell_25 : decode cX11_tell 25 = .ok (.invokevirtual 154, 3) := by decide +kernel
theorem dX11_tell_28 : decode cX11_tell 28 = .ok (.aload 4, 2) := by decide +kernel
theorem dX11_tell_30 : decode cX11_tell 30 = .ok (.getfield 173, 3) := by decide +kernel
theorem dX11_tell_33 : decode cX11_tell 33 = .ok (.aload 4, 2) := by decide +kernel
theorem dX11_tell_35 : decode cX11_tell 35 = .ok (.getfield 173, 3) := by decide +kernel
theorem dX11_tell_38 : decode cX11_tell 38 = .ok (.getfield 147, 3) := by decide +kernel
theorem dX11_tell_41 : decode cX11_tell 41 = .ok (.iload_n 3, 1) := by decide +kernel
theorem dX11_tell_42 : decode cX11_tell 42 = .ok (.invokevirtual 260, 3) := by decide +kernel
theorem dX11_tell_45 : decode cX11_tell 45 = .ok (.istore 5, 2) := by decide +kernel
theorem dX11_tell_47 : decode cX11_tell 47 = .ok (.aload_n 0, 1) := by decide +kernel
theorem dX11_tell_48 : decode cX11_tell 48 = .ok (.getfield 44, 3) := by decide +kernel
theorem dX11_tell_51 : decode cX11_tell 51 = .ok (.iload 5, 2) := by decide +kernel
theorem dX11_tell_53 : decode cX11_tell 53 = .ok (.iload_n 2, 1) := by decide +kernel
theorem dX11_tell_54 : decode cX11_tell 54 = .ok (.invokevirtual 263, 3) := by decide +kernel
theorem dX11_tell_57 : decode cX11_tell 57 = .ok (.ifCond .ne 34, 3) := by decide +kernel
theorem dX11_tell_60 : decode cX11_tell 60 = .ok (.aload_n 0, 1) := by decide +kernel
theorem dX11_tell_61 : decode cX11_tell 61 = .ok (.getfield 44, 3) := by decide +kernel
theorem dX11_tell_64 : decode cX11_tell 64 = .ok (.invokevirtual 267, 3) := by decide +kernel
theorem dX11_tell_67 : decode cX11_tell 67 = .ok (.ifCond .eq 14, 3) := by decide +kernel
theorem dX11_tell_70 : decode cX11_tell 70 = .ok (.new 70, 3) := by decide +kernel
theorem dX11_tell_73 : decode cX11_tell 73 = .ok (.dup, 1) := by decide +kernel
theorem dX11_tell_74 : decode cX11_tell 74 = .ok (.ldc_w 268, 3) := by decide +kernel
theorem dX11_tell_77 : decode cX11_tell 77 = .ok (.invokespecial 74, 3) := by decide +kernel
theorem dX11_tell_80 : decode cX11_tell 80 = .ok (.athrow, 1) := by decide +kernel
theorem dX11_tell_81 : decode cX11_tell 81 = .ok (.aload_n 0, 1) := by decide +kernel
theorem dX11_tell_82 : decode cX11_tell 82 = .ok (.getfield 44, 3) := by decide +kernel
theorem dX11_tell_85 : decode cX11_tell 85 = .ok (.iload 5, 2) := by decide +kernel
theorem dX11_tell_87 : decode cX11_tell 87 = .ok (.iload_n 2, 1) := by decide +kernel
theorem dX11_tell_88 : decode cX11_tell 88 = .ok (.invokevirtual 270, 3) := by decide +kernel
theorem dX11_tell_91 : decode cX11_tell 91 = .ok (.aload_n 0, 1) := by decide +kernel
theorem dX11_tell_92 : decode cX11_tell 92 = .ok (.getfield 44, 3) := by decide +kernel
theorem dX11_tell_95 : decode cX11_tell 95 = .ok (.invokevirtual 273, 3) := by decide +kernel
theorem dX11_tell_98 : decode cX11_tell 98 = .ok (.ireturn, 1) := by decide +kernel
theorem dX11_ask_0 : decode cX11_ask 0 = .ok (.aload_n 0, 1) := by decide +kernel
theorem dX11_ask_1 : decode cX11_ask 1 = .ok (.iload_n 1, 1) := by decide +kernel
theorem dX11_ask_2 : decode cX11_ask 2 = .ok (.invokevirtual 78, 3) := by decide +kernel
theorem dX11_ask_5 : decode cX11_ask 5 = .ok (.pop, 1) := by decide +kernel
theorem dX11_ask_6 : decode cX11_ask 6 = .ok (.aload_n 0, 1) := by decide +kernel
theorem dX11_ask_7 : decode cX11_ask 7 = .ok (.iload_n 2, 1) := by decide +kernel
theorem dX11_ask_8 : decode cX11_ask 8 = .ok (.invokevirtual 102, 3) := by decide +kernel
theorem dX11_ask_11 : decode cX11_ask 11 = .ok (.astore 4, 2) := by decide +kernel
theorem dX11_ask_13 : decode cX11_ask 13 = .ok (.aload_n 0, 1) := by decide +kernel
theorem dX11_ask_14 : decode cX11_ask 14 = .ok (.iload_n 3, 1) := by decide +kernel
theorem dX11_ask_15 : decode cX11_ask 15 = .ok (.invokevirtual 257, 3) := by decide +kernel
theorem dX11_ask_18 : decode cX11_ask 18 = .ok (.aload 4, 2) := by decide +kernel
theorem dX11_ask_20 : decode cX11_ask 20 = .ok (.iload_n 1, 1) := by decide +kernel
theorem dX11_ask_21 : decode cX11_ask 21 = .ok (.invokevirtual 150, 3) := by decide +kernel
theorem dX11_ask_24 : decode cX11_ask 24 = .ok (.istore 5, 2) := by decide +kernel
theorem dX11_ask_26 : decode cX11_ask 26 = .ok (.iload 5, 2) := by decide +kernel
theorem dX11_ask_28 : decode cX11_ask 28 = .ok (.ifCond .ge 14, 3) := by decide +kernel
theorem dX11_ask_31 : decode cX11_ask 31 = .ok (.new 208, 3) := by decide +kernel
theorem dX11_ask_34 : decode cX11_ask 34 = .ok (.dup, 1) := by decide +kernel
theorem dX11_ask_35 : decode cX11_ask 35 = .ok (.ldc_w 276, 3) := by decide +kernel
theorem dX11_ask_38 : decode cX11_ask 38 = .ok (.invokespecial 212, 3) := by decide +kernel
theorem dX11_ask_41 : decode cX11_ask 41 = .ok (.athrow, 1) := by decide +kernel
theorem dX11_ask_42 : decode cX11_ask 42 = .ok (.aload_n 0, 1) := by decide +kernel
theorem dX11_ask_43 : decode cX11_ask 43 = .ok (.getfield 44, 3) := by decide +kernel
theorem dX11_ask_46 : decode cX11_ask 46 = .ok (.invokevirtual 278, 3) := by decide +kernel
theorem dX11_ask_49 : decode cX11_ask 49 = .ok (.iconst 0, 1) := by decide +kernel
theorem dX11_ask_50 : decode cX11_ask 50 = .ok (.istore 6, 2) := by decide +kernel
theorem dX11_ask_52 : decode cX11_ask 52 = .ok (.iload 6, 2) := by decide +kernel
theorem dX11_ask_54 : decode cX11_ask 54 = .ok (.iload 5, 2) := by decide +kernel
theorem dX11_ask_56 : decode cX11_ask 56 = .ok (.if_icmp .gt 32, 3) := by decide +kernel
theorem dX11_ask_59 : decode cX11_ask 59 = .ok (.iload 6, 2) := by decide +kernel
theorem dX11_ask_61 : decode cX11_ask 61 = .ok (.sipush 517, 3) := by decide +kernel
theorem dX11_ask_64 : decode cX11_ask 64 = .ok (.if_icmp .gt 24, 3) := by decide +kernel
theorem dX11_ask_67 : decode cX11_ask 67 = .ok (.aload_n 0, 1) := by decide +kernel
theorem dX11_ask_68 : decode cX11_ask 68 = .ok (.getfield 44, 3) := by decide +kernel
theorem dX11_ask_71 : decode cX11_ask 71 = .ok (.aload 4, 2) := by decide +kernel
theorem dX11_ask_73 : decode cX11_ask 73 = .ok (.iload 6, 2) := by decide +kernel
theorem dX11_ask_75 : decode cX11_ask 75 = .ok (.iload_n 3, 1) := by decide +kernel
theorem dX11_ask_76 : decode cX11_ask 76 = .ok (.invokevirtual 260, 3) := by decide +kernel
theorem dX11_ask_79 : decode cX11_ask 79 = .ok (.invokevirtual 281, 3) := by decide +kernel
theorem dX11_ask_82 : decode cX11_ask 82 = .ok (.iinc 6 1, 3) := by decide +kernel
theorem dX11_ask_85 : decode cX11_ask 85 = .ok (.goto (-33), 3) := by decide +kernel
theorem dX11_ask_88 : decode cX11_ask 88 = .ok (.aload_n 0, 1) := by decide +kernel
theorem dX11_ask_89 : decode cX11_ask 89 = .ok (.getfield 44, 3) := by decide +kernel
theorem dX11_ask_92 : decode cX11_ask 92 = .ok (.invokevirtual 284, 3) := by decide +kernel
theorem dX11_ask_95 : decode cX11_ask 95 = .ok (.ireturn, 1) := by decide +kernel
theorem dX11_foundAt_0 : decode cX11_foundAt 0 = .ok (.iload_n 1, 1) := by decide +kernel
theorem dX11_foundAt_1 : decode cX11_foundAt 1 = .ok (.ifCond .lt 14, 3) := by decide +kernel
theorem dX11_foundAt_4 : decode cX11_foundAt 4 = .ok (.iload_n 1, 1) := by decide +kernel
theorem dX11_foundAt_5 : decode cX11_foundAt 5 = .ok (.aload_n 0, 1) := by decide +kernel
theorem dX11_foundAt_6 : decode cX11_foundAt 6 = .ok (.getfield 44, 3) := by decide +kernel
theorem dX11_foundAt_9 : decode cX11_foundAt 9 = .ok (.invokevirtual 287, 3) := by decide +kernel
theorem dX11_foundAt_12 : decode cX11_foundAt 12 = .ok (.if_icmp .lt 14, 3) := by decide +kernel
theorem dX11_foundAt_15 : decode cX11_foundAt 15 = .ok (.new 290, 3) := by decide +kernel
theorem dX11_foundAt_18 : decode cX11_foundAt 18 = .ok (.dup, 1) := by decide +kernel
theorem dX11_foundAt_19 : decode cX11_foundAt 19 = .ok (.ldc_w 292, 3) := by decide +kernel
theorem dX11_foundAt_22 : decode cX11_foundAt 22 = .ok (.invokespecial 294, 3) := by decide +kernel
theorem dX11_foundAt_25 : decode cX11_foundAt 25 = .ok (.athrow, 1) := by decide +kernel
theorem dX11_foundAt_26 : decode cX11_foundAt 26 = .ok (.aload_n 0, 1) := by decide +kernel
theorem dX11_foundAt_27 : decode cX11_foundAt 27 = .ok (.getfield 44, 3) := by decide +kernel
theorem dX11_foundAt_30 : decode cX11_foundAt 30 = .ok (.iload_n 1, 1) := by decide +kernel
theorem dX11_foundAt_31 : decode cX11_foundAt 31 = .ok (.invokevirtual 295, 3) := by decide +kernel
theorem dX11_foundAt_34 : decode cX11_foundAt 34 = .ok (.ireturn, 1) := by decide +kernel
theorem dX11_shown_0 : decode cX11_shown 0 = .ok (.iload_n 1, 1) := by decide +kernel
theorem dX11_shown_1 : decode cX11_shown 1 = .ok (.bipush 110, 2) := by decide +kernel
theorem dX11_shown_3 : decode cX11_shown 3 = .ok (.if_icmp .ne 11, 3) := by decide +kernel
theorem dX11_shown_6 : decode cX11_shown 6 = .ok (.aload_n 0, 1) := by decide +kernel
theorem dX11_shown_7 : decode cX11_shown 7 = .ok (.getfield 44, 3) := by decide +kernel
theorem dX11_shown_10 : decode cX11_shown 10 = .ok (.getfield 298, 3) := by decide +kernel
theorem dX11_shown_13 : decode cX11_shown 13 = .ok (.ireturn, 1) := by decide +kernel
theorem dX11_shown_14 : decode cX11_shown 14 = .ok (.iload_n 1, 1) := by decide +kernel
theorem dX11_shown_15 : decode cX11_shown 15 = .ok (.bipush 114, 2) := by decide +kernel
theorem dX11_shown_17 : decode cX11_shown 17 = .ok (.if_icmp .ne 11, 3) := by decide +kernel
theorem dX11_shown_20 : decode cX11_shown 20 = .ok (.aload_n 0, 1) := by decide +kernel
theorem dX11_shown_21 : decode cX11_shown 21 = .ok (.getfield 44, 3) := by decide +kernel
theorem dX11_shown_24 : decode cX11_shown 24 = .ok (.getfield 301, 3) := by decide +kernel
theorem dX11_shown_27 : decode cX11_shown 27 = .ok (.ireturn, 1) := by decide +kernel
theorem dX11_shown_28 : decode cX11_shown 28 = .ok (.iload_n 1, 1) := by decide +kernel
theorem dX11_shown_29 : decode cX11_shown 29 = .ok (.bipush 102, 2) := by decide +kernel
theorem dX11_shown_31 : decode cX11_shown 31 = .ok (.if_icmp .ne 11, 3) := by decide +kernel
theorem dX11_shown_34 : decode cX11_shown 34 = .ok (.aload_n 0, 1) := by decide +kernel
theorem dX11_shown_35 : decode cX11_shown 35 = .ok (.getfield 44, 3) := by decide +kernel
theorem dX11_shown_38 : decode cX11_shown 38 = .ok (.getfield 304, 3) := by decide +kernel
theorem dX11_shown_41 : decode cX11_shown 41 = .ok (.ireturn, 1) := by decide +kernel
theorem dX11_shown_42 : decode cX11_shown 42 = .ok (.new 59, 3) := by decide +kernel
theorem dX11_shown_45 : decode cX11_shown 45 = .ok (.dup, 1) := by decide +kernel
theorem dX11_shown_46 : decode cX11_shown 46 = .ok (.ldc_w 307, 3) := by decide +kernel
theorem dX11_shown_49 : decode cX11_shown 49 = .ok (.invokespecial 63, 3) := by decide +kernel
theorem dX11_shown_52 : decode cX11_shown 52 = .ok (.athrow, 1) := by decide +kernel
theorem dX11_leaves_0 : decode cX11_leaves 0 = .ok (.aload_n 0, 1) := by decide +kernel
theorem dX11_leaves_1 : decode cX11_leaves 1 = .ok (.getfield 30, 3) := by decide +kernel
theorem dX11_leaves_4 : decode cX11_leaves 4 = .ok (.invokevirtual 309, 3) := by decide +kernel
theorem dX11_leaves_7 : decode cX11_leaves 7 = .ok (.ireturn, 1) := by decide +kernel
theorem dX11_leaf_0 : decode cX11_leaf 0 = .ok (.iload_n 1, 1) := by decide +kernel
theorem dX11_leaf_1 : decode cX11_leaf 1 = .ok (.ifCond .lt 14, 3) := by decide +kernel
theorem dX11_leaf_4 : decode cX11_leaf 4 = .ok (.iload_n 1, 1) := by decide +kernel
theorem dX11_leaf_5 : decode cX11_leaf 5 = .ok (.aload_n 0, 1) := by decide +kernel
theorem dX11_leaf_6 : decode cX11_leaf 6 = .ok (.getfield 30, 3) := by decide +kernel
theorem dX11_leaf_9 : decode cX11_leaf 9 = .ok (.invokevirtual 309, 3) := by decide +kernel
theorem dX11_leaf_12 : decode cX11_leaf 12 = .ok (.if_icmp .lt 14, 3) := by decide +kernel
theorem dX11_leaf_15 : decode cX11_leaf 15 = .ok (.new 290, 3) := by decide +kernel
theorem dX11_leaf_18 : decode cX11_leaf 18 = .ok (.dup, 1) := by decide +kernel
theorem dX11_leaf_19 : decode cX11_leaf 19 = .ok (.ldc_w 312, 3) := by decide +kernel
theorem dX11_leaf_22 : decode cX11_leaf 22 = .ok (.invokespecial 294, 3) := by decide +kernel
theorem dX11_leaf_25 : decode cX11_leaf 25 = .ok (.athrow, 1) := by decide +kernel
theorem dX11_leaf_26 : decode cX11_leaf 26 = .ok (.aload_n 0, 1) := by decide +kernel
theorem dX11_leaf_27 : decode cX11_leaf 27 = .ok (.getfield 30, 3) := by decide +kernel
theorem dX11_leaf_30 : decode cX11_leaf 30 = .ok (.iload_n 1, 1) := by decide +kernel
theorem dX11_leaf_31 : decode cX11_leaf 31 = .ok (.invokevirtual 314, 3) := by decide +kernel
theorem dX11_leaf_34 : decode cX11_leaf 34 = .ok (.ireturn, 1) := by decide +kernel
theorem dX11_root_0 : decode cX11_root 0 = .ok (.aload_n 0, 1) := by decide +kernel
theorem dX11_root_1 : decode cX11_root 1 = .ok (.iload_n 1, 1) := by decide +kernel
theorem dX11_root_2 : decode cX11_root 2 = .ok (.invokevirtual 317, 3) := by decide +kernel
theorem dX11_root_5 : decode cX11_root 5 = .ok (.aload_n 0, 1) := by decide +kernel
theorem dX11_root_6 : decode cX11_root 6 = .ok (.getfield 30, 3) := by decide +kernel
theorem dX11_root_9 : decode cX11_root 9 = .ok (.iload_n 1, 1) := by decide +kernel
theorem dX11_root_10 : decode cX11_root 10 = .ok (.invokevirtual 320, 3) := by decide +kernel
theorem dX11_root_13 : decode cX11_root 13 = .ok (.ireturn, 1) := by decide +kernel
theorem dX11_proofLength_0 : decode cX11_proofLength 0 = .ok (.aload_n 0, 1) := by decide +kernel
theorem dX11_proofLength_1 : decode cX11_proofLength 1 = .ok (.iload_n 1, 1) := by decide +kernel
theorem dX11_proofLength_2 : decode cX11_proofLength 2 = .ok (.iload_n 2, 1) := by decide +kernel
theorem dX11_proofLength_3 : decode cX11_proofLength 3 = .ok (.invokevirtual 323, 3) := by decide +kernel
theorem dX11_proofLength_6 : decode cX11_proofLength 6 = .ok (.aload_n 0, 1) := by decide +kernel
theorem dX11_proofLength_7 : decode cX11_proofLength 7 = .ok (.getfield 30, 3) := by decide +kernel
theorem dX11_proofLength_10 : decode cX11_proofLength 10 = .ok (.iload_n 1, 1) := by decide +kernel
theorem dX11_proofLength_11 : decode cX11_proofLength 11 = .ok (.iload_n 2, 1) := by decide +kernel
theorem dX11_proofLength_12 : decode cX11_proofLength 12 = .ok (.invokevirtual 326, 3) := by decide +kernel
theorem dX11_proofLength_15 : decode cX11_proofLength 15 = .ok (.ireturn, 1) := by decide +kernel
theorem dX11_proofAt_0 : decode cX11_proofAt 0 = .ok (.aload_n 0, 1) := by decide +kernel
theorem dX11_proofAt_1 : decode cX11_proofAt 1 = .ok (.iload_n 1, 1) := by decide +kernel
theorem dX11_proofAt_2 : decode cX11_proofAt 2 = .ok (.iload_n 2, 1) := by decide +kernel
theorem dX11_proofAt_3 : decode cX11_proofAt 3 = .ok (.invokevirtual 323, 3) := by decide +kernel
theorem dX11_proofAt_6 : decode cX11_proofAt 6 = .ok (.aload_n 0, 1) := by decide +kernel
theorem dX11_proofAt_7 : decode cX11_proofAt 7 = .ok (.aload_n 0, 1) := by decide +kernel
theorem dX11_proofAt_8 : decode cX11_proofAt 8 = .ok (.getfield 30, 3) := by decide +kernel
theorem dX11_proofAt_11 : decode cX11_proofAt 11 = .ok (.iload_n 1, 1) := by decide +kernel
theorem dX11_proofAt_12 : decode cX11_proofAt 12 = .ok (.iload_n 2, 1) := by decide +kernel
theorem dX11_proofAt_13 : decode cX11_proofAt 13 = .ok (.invokevirtual 326, 3) := by decide +kernel
theorem dX11_proofAt_16 : decode cX11_proofAt 16 = .ok (.iload_n 3, 1) := by decide +kernel
theorem dX11_proofAt_17 : decode cX11_proofAt 17 = .ok (.invokevirtual 329, 3) := by decide +kernel
theorem dX11_proofAt_20 : decode cX11_proofAt 20 = .ok (.ireturn, 1) := by decide +kernel
theorem dX11_prefixLength_0 : decode cX11_prefixLength 0 = .ok (.aload_n 0, 1) := by decide +kernel
theorem dX11_prefixLength_1 : decode cX11_prefixLength 1 = .ok (.iload_n 1, 1) := by decide +kernel
theorem dX11_prefixLength_2 : decode cX11_prefixLength 2 = .ok (.iload_n 2, 1) := by decide +kernel
theorem dX11_prefixLength_3 : decode cX11_prefixLength 3 = .ok (.invokevirtual 332, 3) := by decide +kernel
theorem dX11_prefixLength_6 : decode cX11_prefixLength 6 = .ok (.aload_n 0, 1) := by decide +kernel
theorem dX11_prefixLength_7 : decode cX11_prefixLength 7 = .ok (.getfield 30, 3) := by decide +kernel
theorem dX11_prefixLength_10 : decode cX11_prefixLength 10 = .ok (.iload_n 1, 1) := by decide +kernel
theorem dX11_prefixLength_11 : decode cX11_prefixLength 11 = .ok (.iload_n 2, 1) := by decide +kernel
theorem dX11_prefixLength_12 : decode cX11_prefixLength 12 = .ok (.invokevirtual 335, 3) := by decide +kernel
theorem dX11_prefixLength_15 : decode cX11_prefixLength 15 = .ok (.ireturn, 1) := by decide +kernel
theorem dX11_prefixAt_0 : decode cX11_prefixAt 0 = .ok (.aload_n 0, 1) := by decide +kernel
theorem dX11_prefixAt_1 : decode cX11_prefixAt 1 = .ok (.iload_n 1, 1) := by decide +kernel
theorem dX11_prefixAt_2 : decode cX11_prefixAt 2 = .ok (.iload_n 2, 1) := by decide +kernel
theorem dX11_prefixAt_3 : decode cX11_prefixAt 3 = .ok (.invokevirtual 332, 3) := by decide +kernel
theorem dX11_prefixAt_6 : decode cX11_prefixAt 6 = .ok (.aload_n 0, 1) := by decide +kernel
theorem dX11_prefixAt_7 : decode cX11_prefixAt 7 = .ok (.aload_n 0, 1) := by decide +kernel
theorem dX11_prefixAt_8 : decode cX11_prefixAt 8 = .ok (.getfield 30, 3) := by decide +kernel
theorem dX11_prefixAt_11 : decode cX11_prefixAt 11 = .ok (.iload_n 1, 1) := by decide +kernel
theorem dX11_prefixAt_12 : decode cX11_prefixAt 12 = .ok (.iload_n 2, 1) := by decide +kernel
theorem dX11_prefixAt_13 : decode cX11_prefixAt 13 = .ok (.invokevirtual 335, 3) := by decide +kernel
theorem dX11_prefixAt_16 : decode cX11_prefixAt 16 = .ok (.iload_n 3, 1) := by decide +kernel
theorem dX11_prefixAt_17 : decode cX11_prefixAt 17 = .ok (.invokevirtual 329, 3) := by decide +kernel
theorem dX11_prefixAt_20 : decode cX11_prefixAt 20 = .ok (.ireturn, 1) := by decide +kernel
theorem dX11_forget_0 : decode cX11_forget 0 = .ok (.aload_n 0, 1) := by decide +kernel
theorem dX11_forget_1 : decode cX11_forget 1 = .ok (.iload_n 1, 1) := by decide +kernel
theorem dX11_forget_2 : decode cX11_forget 2 = .ok (.invokevirtual 317, 3) := by decide +kernel
theorem dX11_forget_5 : decode cX11_forget 5 = .ok (.aload_n 0, 1) := by decide +kernel
theorem dX11_forget_6 : decode cX11_forget 6 = .ok (.getfield 30, 3) := by decide +kernel
theorem dX11_forget_9 : decode cX11_forget 9 = .ok (.iload_n 1, 1) := by decide +kernel
theorem dX11_forget_10 : decode cX11_forget 10 = .ok (.invokevirtual 338, 3) := by decide +kernel
theorem dX11_forget_13 : decode cX11_forget 13 = .ok (.ireturn, 1) := by decide +kernel
theorem dX11_show_0 : decode cX11_show 0 = .ok (.aload_n 0, 1) := by decide +kernel
theorem dX11_show_1 : decode cX11_show 1 = .ok (.iload_n 1, 1) := by decide +kernel
theorem dX11_show_2 : decode cX11_show 2 = .ok (.invokevirtual 78, 3) := by decide +kernel
theorem dX11_show_5 : decode cX11_show 5 = .ok (.astore_n 3, 1) := by decide +kernel
theorem dX11_show_6 : decode cX11_show 6 = .ok (.aload_n 0, 1) := by decide +kernel
theorem dX11_show_7 : decode cX11_show 7 = .ok (.iload_n 2, 1) := by decide +kernel
theorem dX11_show_8 : decode cX11_show 8 = .ok (.invokevirtual 317, 3) := by decide +kernel
theorem dX11_show_11 : decode cX11_show 11 = .ok (.iload_n 2, 1) := by decide +kernel
theorem dX11_show_12 : decode cX11_show 12 = .ok (.aload_n 3, 1) := by decide +kernel
theorem dX11_show_13 : decode cX11_show 13 = .ok (.getfield 341, 3) := by decide +kernel
theorem dX11_show_16 : decode cX11_show 16 = .ok (.if_icmp .lt 11, 3) := by decide +kernel
theorem dX11_show_19 : decode cX11_show 19 = .ok (.aload_n 0, 1) := by decide +kernel
theorem dX11_show_20 : decode cX11_show 20 = .ok (.aload_n 3, 1) := by decide +kernel
theorem dX11_show_21 : decode cX11_show 21 = .ok (.invokevirtual 344, 3) := by decide +kernel
theorem dX11_show_24 : decode cX11_show 24 = .ok (.ifCond .ne 16, 3) := by decide +kernel
theorem dX11_show_27 : decode cX11_show 27 = .ok (.aload_n 3, 1) := by decide +kernel
theorem dX11_show_28 : decode cX11_show 28 = .ok (.dup, 1) := by decide +kernel
theorem dX11_show_29 : decode cX11_show 29 = .ok (.getfield 348, 3) := by decide +kernel
theorem dX11_show_32 : decode cX11_show 32 = .ok (.iconst 1, 1) := by decide +kernel
theorem dX11_show_33 : decode cX11_show 33 = .ok (.iadd, 1) := by decide +kernel
theorem dX11_show_34 : decode cX11_show 34 = .ok (.putfield 348, 3) := by decide +kernel
theorem dX11_show_37 : decode cX11_show 37 = .ok (.bipush 97, 2) := by decide +kernel
theorem dX11_show_39 : decode cX11_show 39 = .ok (.ireturn, 1) := by decide +kernel
theorem dX11_show_40 : decode cX11_show 40 = .ok (.aload_n 3, 1) := by decide +kernel
theorem dX11_show_41 : decode cX11_show 41 = .ok (.iload_n 2, 1) := by decide +kernel
theorem dX11_show_42 : decode cX11_show 42 = .ok (.putfield 341, 3) := by decide +kernel
theorem dX11_show_45 : decode cX11_show 45 = .ok (.aload_n 3, 1) := by decide +kernel
theorem dX11_show_46 : decode cX11_show 46 = .ok (.aload_n 0, 1) := by decide +kernel
theorem dX11_show_47 : decode cX11_show 47 = .ok (.getfield 30, 3) := by decide +kernel
theorem dX11_show_50 : decode cX11_show 50 = .ok (.iload_n 2, 1) := by decide +kernel
theorem dX11_show_51 : decode cX11_show 51 = .ok (.invokevirtual 320, 3) := by decide +kernel
theorem dX11_show_54 : decode cX11_show 54 = .ok (.putfield 351, 3) := by decide +kernel
theorem dX11_show_57 : decode cX11_show 57 = .ok (.bipush 107, 2) := by decide +kernel
theorem dX11_show_59 : decode cX11_show 59 = .ok (.ireturn, 1) := by decide +kernel
theorem dX11_meet_0 : decode cX11_meet 0 = .ok (.aload_n 0, 1) := by decide +kernel
theorem dX11_meet_1 : decode cX11_meet 1 = .ok (.iload_n 1, 1) := by decide +kernel
theorem dX11_meet_2 : decode cX11_meet 2 = .ok (.invokevirtual 78, 3) := by decide +kernel
theorem dX11_meet_5 : decode cX11_meet 5 = .ok (.astore_n 3, 1) := by decide +kernel
theorem dX11_meet_6 : decode cX11_meet 6 = .ok (.aload_n 0, 1) := by decide +kernel
theorem dX11_meet_7 : decode cX11_meet 7 = .ok (.iload_n 2, 1) := by decide +kernel
theorem dX11_meet_8 : decode cX11_meet 8 = .ok (.invokevirtual 78, 3) := by decide +kernel
theorem dX11_meet_11 : decode cX11_meet 11 = .ok (.astore 4, 2) := by decide +kernel
theorem dX11_meet_13 : decode cX11_meet 13 = .ok (.iload_n 1, 1) := by decide +kernel
theorem dX11_meet_14 : decode cX11_meet 14 = .ok (.iload_n 2, 1) := by decide +kernel
theorem dX11_meet_15 : decode cX11_meet 15 = .ok (.if_icmp .ne 14, 3) := by decide +kernel
theorem dX11_meet_18 : decode cX11_meet 18 = .ok (.new 59, 3) := by decide +kernel
theorem dX11_meet_21 : decode cX11_meet 21 = .ok (.dup, 1) := by decide +kernel
theorem dX11_meet_22 : decode cX11_meet 22 = .ok (.ldc_w 354, 3) := by decide +kernel
theorem dX11_meet_25 : decode cX11_meet 25 = .ok (.invokespecial 63, 3) := by decide +kernel
theorem dX11_meet_28 : decode cX11_meet 28 = .ok (.athrow, 1) := by decide +kernel
theorem dX11_meet_29 : decode cX11_meet 29 = .ok (.aload_n 3, 1) := by decide +kernel
theorem dX11_meet_30 : decode cX11_meet 30 = .ok (.getfield 341, 3) := by decide +kernel
theorem dX11_meet_33 : decode cX11_meet 33 = .ok (.aload 4, 2) := by decide +kernel
theorem dX11_meet_35 : decode cX11_meet 35 = .ok (.getfield 341, 3) := by decide +kernel
theorem dX11_meet_38 : decode cX11_meet 38 = .ok (.if_icmp .ne 19, 3) := by decide +kernel
theorem dX11_meet_41 : decode cX11_meet 41 = .ok (.aload_n 3, 1) := by decide +kernel
theorem dX11_meet_42 : decode cX11_meet 42 = .ok (.getfield 351, 3) := by decide +kernel
theorem dX11_meet_45 : decode cX11_meet 45 = .ok (.aload 4, 2) := by decide +kernel
theorem dX11_meet_47 : decode cX11_meet 47 = .ok (.getfield 351, 3) := by decide +kernel
theorem dX11_meet_50 : decode cX11_meet 50 = .ok (.if_icmp .ne 7, 3) := by decide +kernel
theorem dX11_meet_53 : decode cX11_meet 53 = .ok (.iconst 1, 1) := by decide +kernel
theorem dX11_meet_54 : decode cX11_meet 54 = .ok (.goto 4, 3) := by decide +kernel
theorem dX11_meet_57 : decode cX11_meet 57 = .ok (.iconst 0, 1) := by decide +kernel
theorem dX11_meet_58 : decode cX11_meet 58 = .ok (.istore 5, 2) := by decide +kernel
theorem dX11_meet_60 : decode cX11_meet 60 = .ok (.iload 5, 2) := by decide +kernel
theorem dX11_meet_62 : decode cX11_meet 62 = .ok (.ifCond .ne 20, 3) := by decide +kernel
theorem dX11_meet_65 : decode cX11_meet 65 = .ok (.aload_n 0, 1) := by decide +kernel
theorem dX11_meet_66 : decode cX11_meet 66 = .ok (.aload_n 3, 1) := by decide +kernel
theorem dX11_meet_67 : decode cX11_meet 67 = .ok (.invokevirtual 344, 3) := by decide +kernel
theorem dX11_meet_70 : decode cX11_meet 70 = .ok (.ifCond .eq 15, 3) := by decide +kernel
theorem dX11_meet_73 : decode cX11_meet 73 = .ok (.aload_n 0, 1) := by decide +kernel
theorem dX11_meet_74 : decode cX11_meet 74 = .ok (.aload 4, 2) := by decide +kernel
theorem dX11_meet_76 : decode cX11_meet 76 = .ok (.invokevirtual 344, 3) := by decide +kernel
theorem dX11_meet_79 : decode cX11_meet 79 = .ok (.ifCond .eq 6, 3) := by decide +kernel
theorem dX11_meet_82 : decode cX11_meet 82 = .ok (.bipush 107, 2) := by decide +kernel
theorem dX11_meet_84 : decode cX11_meet 84 = .ok (.ireturn, 1) := by decide +kernel
theorem dX11_meet_85 : decode cX11_meet 85 = .ok (.aload_n 3, 1) := by decide +kernel
theorem dX11_meet_86 : decode cX11_meet 86 = .ok (.dup, 1) := by decide +kernel
theorem dX11_meet_87 : decode cX11_meet 87 = .ok (.getfield 348, 3) := by decide +kernel
theorem dX11_meet_90 : decode cX11_meet 90 = .ok (.iconst 1, 1) := by decide +kernel
theorem dX11_meet_91 : decode cX11_meet 91 = .ok (.iadd, 1) := by decide +kernel
theorem dX11_meet_92 : decode cX11_meet 92 = .ok (.putfield 348, 3) := by decide +kernel
theorem dX11_meet_95 : decode cX11_meet 95 = .ok (.aload 4, 2) := by decide +kernel
theorem dX11_meet_97 : decode cX11_meet 97 = .ok (.dup, 1) := by decide +kernel
theorem dX11_meet_98 : decode cX11_meet 98 = .ok (.getfield 348, 3) := by decide +kernel
theorem dX11_meet_101 : decode cX11_meet 101 = .ok (.iconst 1, 1) := by decide +kernel
theorem dX11_meet_102 : decode cX11_meet 102 = .ok (.iadd, 1) := by decide +kernel
theorem dX11_meet_103 : decode cX11_meet 103 = .ok (.putfield 348, 3) := by decide +kernel
theorem dX11_meet_106 : decode cX11_meet 106 = .ok (.bipush 97, 2) := by decide +kernel
theorem dX11_meet_108 : decode cX11_meet 108 = .ok (.ireturn, 1) := by decide +kernel
theorem dX11_head_0 : decode cX11_head 0 = .ok (.aload_n 0, 1) := by decide +kernel
theorem dX11_head_1 : decode cX11_head 1 = .ok (.iload_n 1, 1) := by decide +kernel
theorem dX11_head_2 : decode cX11_head 2 = .ok (.invokevirtual 78, 3) := by decide +kernel
theorem dX11_head_5 : decode cX11_head 5 = .ok (.getfield 341, 3) := by decide +kernel
theorem dX11_head_8 : decode cX11_head 8 = .ok (.ireturn, 1) := by decide +kernel
theorem dX11_alarms_0 : decode cX11_alarms 0 = .ok (.aload_n 0, 1) := by decide +kernel
theorem dX11_alarms_1 : decode cX11_alarms 1 = .ok (.iload_n 1, 1) := by decide +kernel
theorem dX11_alarms_2 : decode cX11_alarms 2 = .ok (.invokevirtual 78, 3) := by decide +kernel
theorem dX11_alarms_5 : decode cX11_alarms 5 = .ok (.getfield 348, 3) := by decide +kernel
theorem dX11_alarms_8 : decode cX11_alarms 8 = .ok (.ireturn, 1) := by decide +kernel
theorem dX11_split_0 : decode cX11_split 0 = .ok (.aload_n 0, 1) := by decide +kernel
theorem dX11_split_1 : decode cX11_split 1 = .ok (.iload_n 1, 1) := by decide +kernel
theorem dX11_split_2 : decode cX11_split 2 = .ok (.invokevirtual 78, 3) := by decide +kernel
theorem dX11_split_5 : decode cX11_split 5 = .ok (.astore 4, 2) := by decide +kernel
theorem dX11_split_7 : decode cX11_split 7 = .ok (.iload_n 2, 1) := by decide +kernel
theorem dX11_split_8 : decode cX11_split 8 = .ok (.iconst 1, 1) := by decide +kernel
theorem dX11_split_9 : decode cX11_split 9 = .ok (.if_icmp .lt 19, 3) := by decide +kernel
theorem dX11_split_12 : decode cX11_split 12 = .ok (.iload_n 2, 1) := by decide +kernel
theorem dX11_split_13 : decode cX11_split 13 = .ok (.bipush 8, 2) := by decide +kernel
theorem dX11_split_15 : decode cX11_split 15 = .ok (.if_icmp .gt 13, 3) := by decide +kernel
theorem dX11_split_18 : decode cX11_split 18 = .ok (.iload_n 3, 1) := by decide +kernel
theorem dX11_split_19 : decode cX11_split 19 = .ok (.iconst 1, 1) := by decide +kernel
theorem dX11_split_20 : decode cX11_split 20 = .ok (.if_icmp .lt 8, 3) := by decide +kernel
theorem dX11_split_23 : decode cX11_split 23 = .ok (.iload_n 3, 1) := by decide +kernel
theorem dX11_split_24 : decode cX11_split 24 = .ok (.iload_n 2, 1) := by decide +kernel
theorem dX11_split_25 : decode cX11_split 25 = .ok (.if_icmp .le 14, 3) := by decide +kernel
theorem dX11_split_28 : decode cX11_split 28 = .ok (.new 59, 3) := by decide +kernel
theorem dX11_split_31 : decode cX11_split 31 = .ok (.dup, 1) := by decide +kernel
theorem dX11_split_32 : decode cX11_split 32 = .ok (.ldc_w 356, 3) := by decide +kernel
theorem dX11_split_35 : decode cX11_split 35 = .ok (.invokespecial 63, 3) := by decide +kernel
theorem dX11_split_38 : decode cX11_split 38 = .ok (.athrow, 1) := by decide +kernel
theorem dX11_split_39 : decode cX11_split 39 = .ok (.aload 4, 2) := by decide +kernel
theorem dX11_split_41 : decode cX11_split 41 = .ok (.getfield 358, 3) := by decide +kernel
theorem dX11_split_44 : decode cX11_split 44 = .ok (.istore 5, 2) := by decide +kernel
theorem dX11_split_46 : decode cX11_split 46 = .ok (.aload 4, 2) := by decide +kernel
theorem dX11_split_48 : decode cX11_split 48 = .ok (.iload_n 2, 1) := by decide +kernel
theorem dX11_split_49 : decode cX11_split 49 = .ok (.putfield 361, 3) := by decide +kernel
theorem dX11_split_52 : decode cX11_split 52 = .ok (.aload 4, 2) := by decide +kernel
theorem dX11_split_54 : decode cX11_split 54 = .ok (.iload_n 3, 1) := by decide +kernel
theorem dX11_split_55 : decode cX11_split 55 = .ok (.putfield 358, 3) := by decide +kernel
theorem dX11_split_58 : decode cX11_split 58 = .ok (.iload 5, 2) := by decide +kernel
theorem dX11_split_60 : decode cX11_split 60 = .ok (.ireturn, 1) := by decide +kernel
theorem dX11_share_0 : decode cX11_share 0 = .ok (.aload_n 0, 1) := by decide +kernel
theorem dX11_share_1 : decode cX11_share 1 = .ok (.iload_n 1, 1) := by decide +kernel
theorem dX11_share_2 : decode cX11_share 2 = .ok (.invokevirtual 78, 3) := by decide +kernel
theorem dX11_share_5 : decode cX11_share 5 = .ok (.astore_n 3, 1) := by decide +kernel
theorem dX11_share_6 : decode cX11_share 6 = .ok (.aload_n 3, 1) := by decide +kernel
theorem dX11_share_7 : decode cX11_share 7 = .ok (.getfield 361, 3) := by decide +kernel
theorem dX11_share_10 : decode cX11_share 10 = .ok (.ifCond .ne 14, 3) := by decide +kernel
theorem dX11_share_13 : decode cX11_share 13 = .ok (.new 70, 3) := by decide +kernel
theorem dX11_share_16 : decode cX11_share 16 = .ok (.dup, 1) := by decide +kernel
theorem dX11_share_17 : decode cX11_share 17 = .ok (.ldc_w 364, 3) := by decide +kernel
theorem dX11_share_20 : decode cX11_share 20 = .ok (.invokespecial 74, 3) := by decide +kernel
theorem dX11_share_23 : decode cX11_share 23 = .ok (.athrow, 1) := by decide +kernel
theorem dX11_share_24 : decode cX11_share 24 = .ok (.iload_n 2, 1) := by decide +kernel
theorem dX11_share_25 : decode cX11_share 25 = .ok (.iconst 1, 1) := by decide +kernel
theorem dX11_share_26 : decode cX11_share 26 = .ok (.if_icmp .lt 11, 3) := by decide +kernel
theorem dX11_share_29 : decode cX11_share 29 = .ok (.iload_n 2, 1) := by decide +kernel
theorem dX11_share_30 : decode cX11_share 30 = .ok (.aload_n 3, 1) := by decide +kernel
theorem dX11_share_31 : decode cX11_share 31 = .ok (.getfield 361, 3) := by decide +kernel
theorem dX11_share_34 : decode cX11_share 34 = .ok (.if_icmp .le 14, 3) := by decide +kernel
theorem dX11_share_37 : decode cX11_share 37 = .ok (.new 290, 3) := by decide +kernel
theorem dX11_share_40 : decode cX11_share 40 = .ok (.dup, 1) := by decide +kernel
theorem dX11_share_41 : decode cX11_share 41 = .ok (.ldc_w 366, 3) := by decide +kernel
theorem dX11_share_44 : decode cX11_share 44 = .ok (.invokespecial 294, 3) := by decide +kernel
theorem dX11_share_47 : decode cX11_share 47 = .ok (.athrow, 1) := by decide +kernel
theorem dX11_share_48 : decode cX11_share 48 = .ok (.aload_n 3, 1) := by decide +kernel
theorem dX11_share_49 : decode cX11_share 49 = .ok (.getfield 368, 3) := by decide +kernel
theorem dX11_share_52 : decode cX11_share 52 = .ok (.iload_n 1, 1) := by decide +kernel
theorem dX11_share_53 : decode cX11_share 53 = .ok (.aload_n 3, 1) := by decide +kernel
theorem dX11_share_54 : decode cX11_share 54 = .ok (.getfield 358, 3) := by decide +kernel
theorem dX11_share_57 : decode cX11_share 57 = .ok (.iload_n 2, 1) := by decide +kernel
theorem dX11_share_58 : decode cX11_share 58 = .ok (.invokestatic 371, 3) := by decide +kernel
theorem dX11_share_61 : decode cX11_share 61 = .ok (.ireturn, 1) := by decide +kernel
theorem dX11_collect_0 : decode cX11_collect 0 = .ok (.iload_n 1, 1) := by decide +kernel
theorem dX11_collect_1 : decode cX11_collect 1 = .ok (.iconst 1, 1) := by decide +kernel
theorem dX11_collect_2 : decode cX11_collect 2 = .ok (.if_icmp .lt 20, 3) := by decide +kernel
theorem dX11_collect_5 : decode cX11_collect 5 = .ok (.iload_n 1, 1) := by decide +kernel
theorem dX11_collect_6 : decode cX11_collect 6 = .ok (.bipush 8, 2) := by decide +kernel
theorem dX11_collect_8 : decode cX11_collect 8 = .ok (.if_icmp .gt 14, 3) := by decide +kernel
theorem dX11_collect_11 : decode cX11_collect 11 = .ok (.iload_n 2, 1) := by decide +kernel
theorem dX11_collect_12 : decode cX11_collect 12 = .ok (.ifCond .lt 10, 3) := by decide +kernel
theorem dX11_collect_15 : decode cX11_collect 15 = .ok (.iload_n 2, 1) := by decide +kernel
theorem dX11_collect_16 : decode cX11_collect 16 = .ok (.ldc_w 375, 3) := by decide +kernel
theorem dX11_collect_19 : decode cX11_collect 19 = .ok (.if_icmp .lt 14, 3) := by decide +kernel
theorem dX11_collect_22 : decode cX11_collect 22 = .ok (.new 59, 3) := by decide +kernel
theorem dX11_collect_25 : decode cX11_collect 25 = .ok (.dup, 1) := by decide +kernel
theorem dX11_collect_26 : decode cX11_collect 26 = .ok (.ldc_w 356, 3) := by decide +kernel
theorem dX11_collect_29 : decode cX11_collect 29 = .ok (.invokespecial 63, 3) := by decide +kernel
theorem dX11_collect_32 : decode cX11_collect 32 = .ok (.athrow, 1) := by decide +kernel
theorem dX11_collect_33 : decode cX11_collect 33 = .ok (.aload_n 0, 1) := by decide +kernel
theorem dX11_collect_34 : decode cX11_collect 34 = .ok (.getfield 51, 3) := by decide +kernel
theorem dX11_collect_37 : decode cX11_collect 37 = .ok (.iload_n 1, 1) := by decide +kernel
theorem dX11_collect_38 : decode cX11_collect 38 = .ok (.iload_n 2, 1) := by decide +kernel
theorem dX11_collect_39 : decode cX11_collect 39 = .ok (.invokevirtual 376, 3) := by decide +kernel
theorem dX11_collect_42 : decode cX11_collect 42 = .ok (.aload_n 0, 1) := by decide +kernel
theorem dX11_collect_43 : decode cX11_collect 43 = .ok (.getfield 51, 3) := by decide +kernel
theorem dX11_collect_46 : decode cX11_collect 46 = .ok (.invokevirtual 377, 3) := by decide +kernel
theorem dX11_collect_49 : decode cX11_collect 49 = .ok (.ireturn, 1) := by decide +kernel
theorem dX11_recovered_0 : decode cX11_recovered 0 = .ok (.aload_n 0, 1) := by decide +kernel
theorem dX11_recovered_1 : decode cX11_recovered 1 = .ok (.getfield 51, 3) := by decide +kernel
theorem dX11_recovered_4 : decode cX11_recovered 4 = .ok (.invokevirtual 377, 3) := by decide +kernel
theorem dX11_recovered_7 : decode cX11_recovered 7 = .ok (.ifCond .ne 14, 3) := by decide +kernel
theorem dX11_recovered_10 : decode cX11_recovered 10 = .ok (.new 70, 3) := by decide +kernel
theorem dX11_recovered_13 : decode cX11_recovered 13 = .ok (.dup, 1) := by decide +kernel
theorem dX11_recovered_14 : decode cX11_recovered 14 = .ok (.ldc_w 378, 3) := by decide +kernel
theorem dX11_recovered_17 : decode cX11_recovered 17 = .ok (.invokespecial 74, 3) := by decide +kernel
theorem dX11_recovered_20 : decode cX11_recovered 20 = .ok (.athrow, 1) := by decide +kernel
theorem dX11_recovered_21 : decode cX11_recovered 21 = .ok (.aload_n 0, 1) := by decide +kernel
theorem dX11_recovered_22 : decode cX11_recovered 22 = .ok (.getfield 51, 3) := by decide +kernel
theorem dX11_recovered_25 : decode cX11_recovered 25 = .ok (.invokevirtual 380, 3) := by decide +kernel
theorem dX11_recovered_28 : decode cX11_recovered 28 = .ok (.ireturn, 1) := by decide +kernel
theorem dX11_drop_0 : decode cX11_drop 0 = .ok (.aload_n 0, 1) := by decide +kernel
theorem dX11_drop_1 : decode cX11_drop 1 = .ok (.getfield 51, 3) := by decide +kernel
theorem dX11_drop_4 : decode cX11_drop 4 = .ok (.invokevirtual 383, 3) := by decide +kernel
theorem dX11_drop_7 : decode cX11_drop 7 = .ok (.ireturn, 1) := by decide +kernel
theorem dX11_goAway_0 : decode cX11_goAway 0 = .ok (.aload_n 0, 1) := by decide +kernel
theorem dX11_goAway_1 : decode cX11_goAway 1 = .ok (.iload_n 1, 1) := by decide +kernel
theorem dX11_goAway_2 : decode cX11_goAway 2 = .ok (.invokevirtual 78, 3) := by decide +kernel
theorem dX11_goAway_5 : decode cX11_goAway 5 = .ok (.astore_n 2, 1) := by decide +kernel
theorem dX11_goAway_6 : decode cX11_goAway 6 = .ok (.aload_n 2, 1) := by decide +kernel
theorem dX11_goAway_7 : decode cX11_goAway 7 = .ok (.getfield 177, 3) := by decide +kernel
theorem dX11_goAway_10 : decode cX11_goAway 10 = .ok (.ifCond .eq 14, 3) := by decide +kernel
theorem dX11_goAway_13 : decode cX11_goAway 13 = .ok (.new 70, 3) := by decide +kernel
theorem dX11_goAway_16 : decode cX11_goAway 16 = .ok (.dup, 1) := by decide +kernel
theorem dX11_goAway_17 : decode cX11_goAway 17 = .ok (.ldc_w 386, 3) := by decide +kernel
theorem dX11_goAway_20 : decode cX11_goAway 20 = .ok (.invokespecial 74, 3) := by decide +kernel
theorem dX11_goAway_23 : decode cX11_goAway 23 = .ok (.athrow, 1) := by decide +kernel
theorem dX11_goAway_24 : decode cX11_goAway 24 = .ok (.aload_n 2, 1) := by decide +kernel
theorem dX11_goAway_25 : decode cX11_goAway 25 = .ok (.iconst 1, 1) := by decide +kernel
theorem dX11_goAway_26 : decode cX11_goAway 26 = .ok (.putfield 177, 3) := by decide +kernel
theorem dX11_goAway_29 : decode cX11_goAway 29 = .ok (.aload_n 0, 1) := by decide +kernel
theorem dX11_goAway_30 : decode cX11_goAway 30 = .ok (.invokevirtual 388, 3) := by decide +kernel
theorem dX11_goAway_33 : decode cX11_goAway 33 = .ok (.ireturn, 1) := by decide +kernel
theorem dX11_draft_0 : decode cX11_draft 0 = .ok (.aload_n 0, 1) := by decide +kernel
theorem dX11_draft_1 : decode cX11_draft 1 = .ok (.iload_n 1, 1) := by decide +kernel
theorem dX11_draft_2 : decode cX11_draft 2 = .ok (.invokevirtual 78, 3) := by decide +kernel
theorem dX11_draft_5 : decode cX11_draft 5 = .ok (.astore 5, 2) := by decide +kernel
theorem dX11_draft_7 : decode cX11_draft 7 = .ok (.aload_n 0, 1) := by decide +kernel
theorem dX11_draft_8 : decode cX11_draft 8 = .ok (.iload_n 2, 1) := by decide +kernel
theorem dX11_draft_9 : decode cX11_draft 9 = .ok (.invokevirtual 166, 3) := by decide +kernel
theorem dX11_draft_12 : decode cX11_draft 12 = .ok (.astore 6, 2) := by decide +kernel
theorem dX11_draft_14 : decode cX11_draft 14 = .ok (.aload_n 0, 1) := by decide +kernel
theorem dX11_draft_15 : decode cX11_draft 15 = .ok (.iload_n 3, 1) := by decide +kernel
theorem dX11_draft_16 : decode cX11_draft 16 = .ok (.invokevirtual 170, 3) := by decide +kernel
theorem dX11_draft_19 : decode cX11_draft 19 = .ok (.bipush 8, 2) := by decide +kernel
theorem dX11_draft_21 : decode cX11_draft 21 = .ok (.iload_n 2, 1) := by decide +kernel
theorem dX11_draft_22 : decode cX11_draft 22 = .ok (.imul, 1) := by decide +kernel
theorem dX11_draft_23 : decode cX11_draft 23 = .ok (.iload_n 3, 1) := by decide +kernel
theorem dX11_draft_24 : decode cX11_draft 24 = .ok (.iadd, 1) := by decide +kernel
theorem dX11_draft_25 : decode cX11_draft 25 = .ok (.istore 7, 2) := by decide +kernel
theorem dX11_draft_27 : decode cX11_draft 27 = .ok (.aload 5, 2) := by decide +kernel
theorem dX11_draft_29 : decode cX11_draft 29 = .ok (.getfield 177, 3) := by decide +kernel
theorem dX11_draft_32 : decode cX11_draft 32 = .ok (.ifCond .eq 16, 3) := by decide +kernel
theorem dX11_draft_35 : decode cX11_draft 35 = .ok (.aload 5, 2) := by decide +kernel
theorem dX11_draft_37 : decode cX11_draft 37 = .ok (.getfield 391, 3) := by decide +kernel
theorem dX11_draft_40 : decode cX11_draft 40 = .ok (.iload 7, 2) := by decide +kernel
theorem dX11_draft_42 : decode cX11_draft 42 = .ok (.invokevirtual 395, 3) := by decide +kernel
theorem dX11_draft_45 : decode cX11_draft 45 = .ok (.ifCond .ne 14, 3) := by decide +kernel
theorem dX11_draft_48 : decode cX11_draft 48 = .ok (.new 70, 3) := by decide +kernel
theorem dX11_draft_51 : decode cX11_draft 51 = .ok (.dup, 1) := by decide +kernel
theorem dX11_draft_52 : decode cX11_draft 52 = .ok (.ldc_w 400, 3) := by decide +kernel
theorem dX11_draft_55 : decode cX11_draft 55 = .ok (.invokespecial 74, 3) := by decide +kernel
theorem dX11_draft_58 : decode cX11_draft 58 = .ok (.athrow, 1) := by decide +kernel
theorem dX11_draft_59 : decode cX11_draft 59 = .ok (.aload 5, 2) := by decide +kernel
theorem dX11_draft_61 : decode cX11_draft 61 = .ok (.getfield 391, 3) := by decide +kernel
theorem dX11_draft_64 : decode cX11_draft 64 = .ok (.iload 7, 2) := by decide +kernel
theorem dX11_draft_66 : decode cX11_draft 66 = .ok (.iload 4, 2) := by decide +kernel
theorem dX11_draft_68 : decode cX11_draft 68 = .ok (.aload 6, 2) := by decide +kernel
theorem dX11_draft_70 : decode cX11_draft 70 = .ok (.iload_n 3, 1) := by decide +kernel
theorem dX11_draft_71 : decode cX11_draft 71 = .ok (.invokevirtual 235, 3) := by decide +kernel
theorem dX11_draft_74 : decode cX11_draft 74 = .ok (.invokevirtual 402, 3) := by decide +kernel
theorem dX11_draft_77 : decode cX11_draft 77 = .ok (.aload 5, 2) := by decide +kernel
theorem dX11_draft_79 : decode cX11_draft 79 = .ok (.getfield 391, 3) := by decide +kernel
theorem dX11_draft_82 : decode cX11_draft 82 = .ok (.invokevirtual 404, 3) := by decide +kernel
theorem dX11_draft_85 : decode cX11_draft 85 = .ok (.ireturn, 1) := by decide +kernel
theorem dX11_comeBack_0 : decode cX11_comeBack 0 = .ok (.aload_n 0, 1) := by decide +kernel
theorem dX11_comeBack_1 : decode cX11_comeBack 1 = .ok (.iload_n 1, 1) := by decide +kernel
theorem dX11_comeBack_2 : decode cX11_comeBack 2 = .ok (.invokevirtual 78, 3) := by decide +kernel
theorem dX11_comeBack_5 : decode cX11_comeBack 5 = .ok (.astore_n 2, 1) := by decide +kernel
theorem dX11_comeBack_6 : decode cX11_comeBack 6 = .ok (.aload_n 2, 1) := by decide +kernel
theorem dX11_comeBack_7 : decode cX11_comeBack 7 = .ok (.getfield 177, 3) := by decide +kernel
theorem dX11_comeBack_10 : decode cX11_comeBack 10 = .ok (.ifCond .ne 14, 3) := by decide +kernel
theorem dX11_comeBack_13 : decode cX11_comeBack 13 = .ok (.new 70, 3) := by decide +kernel
theorem dX11_comeBack_16 : decode cX11_comeBack 16 = .ok (.dup, 1) := by decide +kernel
theorem dX11_comeBack_17 : decode cX11_comeBack 17 = .ok (.ldc_w 405, 3) := by decide +kernel
theorem dX11_comeBack_20 : decode cX11_comeBack 20 = .ok (.invokespecial 74, 3) := by decide +kernel
theorem dX11_comeBack_23 : decode cX11_comeBack 23 = .ok (.athrow, 1) := by decide +kernel
theorem dX11_comeBack_24 : decode cX11_comeBack 24 = .ok (.aload_n 2, 1) := by decide +kernel
theorem dX11_comeBack_25 : decode cX11_comeBack 25 = .ok (.iconst 0, 1) := by decide +kernel
theorem dX11_comeBack_26 : decode cX11_comeBack 26 = .ok (.putfield 177, 3) := by decide +kernel
theorem dX11_comeBack_29 : decode cX11_comeBack 29 = .ok (.aload_n 0, 1) := by decide +kernel
theorem dX11_comeBack_30 : decode cX11_comeBack 30 = .ok (.iconst 0, 1) := by decide +kernel
theorem dX11_comeBack_31 : decode cX11_comeBack 31 = .ok (.putfield 407, 3) := by decide +kernel
theorem dX11_comeBack_34 : decode cX11_comeBack 34 = .ok (.iconst 0, 1) := by decide +kernel
theorem dX11_comeBack_35 : decode cX11_comeBack 35 = .ok (.istore_n 3, 1) := by decide +kernel
theorem dX11_comeBack_36 : decode cX11_comeBack 36 = .ok (.aload_n 2, 1) := by decide +kernel
theorem dX11_comeBack_37 : decode cX11_comeBack 37 = .ok (.getfield 391, 3) := by decide +kernel
theorem dX11_comeBack_40 : decode cX11_comeBack 40 = .ok (.invokevirtual 404, 3) := by decide +kernel
theorem dX11_comeBack_43 : decode cX11_comeBack 43 = .ok (.istore 4, 2) := by decide +kernel
theorem dX11_comeBack_45 : decode cX11_comeBack 45 = .ok (.iconst 0, 1) := by decide +kernel
theorem dX11_comeBack_46 : decode cX11_comeBack 46 = .ok (.istore 5, 2) := by decide +kernel
theorem dX11_comeBack_48 : decode cX11_comeBack 48 = .ok (.iload 5, 2) := by decide +kernel
theorem dX11_comeBack_50 : decode cX11_comeBack 50 = .ok (.iload 4, 2) := by decide +kernel
theorem dX11_comeBack_52 : decode cX11_comeBack 52 = .ok (.if_icmp .ge 45, 3) := by decide +kernel
theorem dX11_comeBack_55 : decode cX11_comeBack 55 = .ok (.iload 5, 2) := by decide +kernel
theorem dX11_comeBack_57 : decode cX11_comeBack 57 = .ok (.bipush 10, 2) := by decide +kernel
theorem dX11_comeBack_59 : decode cX11_comeBack 59 = .ok (.if_icmp .ge 38, 3) := by decide +kernel
theorem dX11_comeBack_62 : decode cX11_comeBack 62 = .ok (.aload_n 0, 1) := by decide +kernel
theorem dX11_comeBack_63 : decode cX11_comeBack 63 = .ok (.aload_n 2, 1) := by decide +kernel
theorem dX11_comeBack_64 : decode cX11_comeBack 64 = .ok (.iload 5, 2) := by decide +kernel
theorem dX11_comeBack_66 : decode cX11_comeBack 66 = .ok (.invokevirtual 410, 3) := by decide +kernel
theorem dX11_comeBack_69 : decode cX11_comeBack 69 = .ok (.ifCond .eq 9, 3) := by decide +kernel
theorem dX11_comeBack_72 : decode cX11_comeBack 72 = .ok (.iinc 3 1, 3) := by decide +kernel
theorem dX11_comeBack_75 : decode cX11_comeBack 75 = .ok (.goto 16, 3) := by decide +kernel
theorem dX11_comeBack_78 : decode cX11_comeBack 78 = .ok (.aload_n 0, 1) := by decide +kernel
theorem dX11_comeBack_79 : decode cX11_comeBack 79 = .ok (.aload_n 2, 1) := by decide +kernel
theorem dX11_comeBack_80 : decode cX11_comeBack 80 = .ok (.getfield 391, 3) := by decide +kernel
theorem dX11_comeBack_83 : decode cX11_comeBack 83 = .ok (.iload 5, 2) := by decide +kernel
theorem dX11_comeBack_85 : decode cX11_comeBack 85 = .ok (.invokevirtual 414, 3) := by decide +kernel
theorem dX11_comeBack_88 : decode cX11_comeBack 88 = .ok (.invokevirtual 417, 3) := by decide +kernel
theorem dX11_comeBack_91 : decode cX11_comeBack 91 = .ok (.iinc 5 1, 3) := by decide +kernel
theorem dX11_comeBack_94 : decode cX11_comeBack 94 = .ok (.goto (-46), 3) := by decide +kernel
theorem dX11_comeBack_97 : decode cX11_comeBack 97 = .ok (.aload_n 2, 1) := by decide +kernel
theorem dX11_comeBack_98 : decode cX11_comeBack 98 = .ok (.getfield 391, 3) := by decide +kernel
theorem dX11_comeBack_101 : decode cX11_comeBack 101 = .ok (.invokevirtual 420, 3) := by decide +kernel
theorem dX11_comeBack_104 : decode cX11_comeBack 104 = .ok (.iload_n 3, 1) := by decide +kernel
theorem dX11_comeBack_105 : decode cX11_comeBack 105 = .ok (.ireturn, 1) := by decide +kernel
theorem dX11_conflicts_0 : decode cX11_conflicts 0 = .ok (.aload_n 0, 1) := by decide +kernel
theorem dX11_conflicts_1 : decode cX11_conflicts 1 = .ok (.getfield 407, 3) := by decide +kernel
theorem dX11_conflicts_4 : decode cX11_conflicts 4 = .ok (.ireturn, 1) := by decide +kernel
theorem dX11_conflictAt_0 : decode cX11_conflictAt 0 = .ok (.iload_n 1, 1) := by decide +kernel
theorem dX11_conflictAt_1 : decode cX11_conflictAt 1 = .ok (.ifCond .lt 20, 3) := by decide +kernel
theorem dX11_conflictAt_4 : decode cX11_conflictAt 4 = .ok (.iload_n 1, 1) := by decide +kernel
theorem dX11_conflictAt_5 : decode cX11_conflictAt 5 = .ok (.aload_n 0, 1) := by decide +kernel
theorem dX11_conflictAt_6 : decode cX11_conflictAt 6 = .ok (.getfield 407, 3) := by decide +kernel
theorem dX11_conflictAt_9 : decode cX11_conflictAt 9 = .ok (.if_icmp .ge 12, 3) := by decide +kernel
theorem dX11_conflictAt_12 : decode cX11_conflictAt 12 = .ok (.iload_n 1, 1) := by decide +kernel
theorem dX11_conflictAt_13 : decode cX11_conflictAt 13 = .ok (.aload_n 0, 1) := by decide +kernel
theorem dX11_conflictAt_14 : decode cX11_conflictAt 14 = .ok (.getfield 55, 3) := by decide +kernel
theorem dX11_conflictAt_17 : decode cX11_conflictAt 17 = .ok (.arraylength, 1) := by decide +kernel
theorem dX11_conflictAt_18 : decode cX11_conflictAt 18 = .ok (.if_icmp .lt 14, 3) := by decide +kernel
theorem dX11_conflictAt_21 : decode cX11_conflictAt 21 = .ok (.new 290, 3) := by decide +kernel
theorem dX11_conflictAt_24 : decode cX11_conflictAt 24 = .ok (.dup, 1) := by decide +kernel
theorem dX11_conflictAt_25 : decode cX11_conflictAt 25 = .ok (.ldc_w 422, 3) := by decide +kernel
theorem dX11_conflictAt_28 : decode cX11_conflictAt 28 = .ok (.invokespecial 294, 3) := by decide +kernel
theorem dX11_conflictAt_31 : decode cX11_conflictAt 31 = .ok (.athrow, 1) := by decide +kernel
theorem dX11_conflictAt_32 : decode cX11_conflictAt 32 = .ok (.aload_n 0, 1) := by decide +kernel
theorem dX11_conflictAt_33 : decode cX11_conflictAt 33 = .ok (.getfield 55, 3) := by decide +kernel
theorem dX11_conflictAt_36 : decode cX11_conflictAt 36 = .ok (.iload_n 1, 1) := by decide +kernel
theorem dX11_conflictAt_37 : decode cX11_conflictAt 37 = .ok (.iaload, 1) := by decide +kernel
theorem dX11_conflictAt_38 : decode cX11_conflictAt 38 = .ok (.ireturn, 1) := by decide +kernel
theorem dX11_load_0 : decode cX11_load 0 = .ok (.aload_n 0, 1) := by decide +kernel
theorem dX11_load_1 : decode cX11_load 1 = .ok (.aload_n 0, 1) := by decide +kernel
theorem dX11_load_2 : decode cX11_load 2 = .ok (.iload_n 1, 1) := by decide +kernel
theorem dX11_load_3 : decode cX11_load 3 = .ok (.invokevirtual 102, 3) := by decide +kernel
theorem dX11_load_6 : decode cX11_load 6 = .ok (.invokevirtual 424, 3) := by decide +kernel
theorem dX11_load_9 : decode cX11_load 9 = .ok (.freturn, 1) := by decide +kernel
theorem dX11_loadBits_0 : decode cX11_loadBits 0 = .ok (.aload_n 0, 1) := by decide +kernel
theorem dX11_loadBits_1 : decode cX11_loadBits 1 = .ok (.aload_n 0, 1) := by decide +kernel
theorem dX11_loadBits_2 : decode cX11_loadBits 2 = .ok (.iload_n 1, 1) := by decide +kernel
theorem dX11_loadBits_3 : decode cX11_loadBits 3 = .ok (.invokevirtual 102, 3) := by decide +kernel
theorem dX11_loadBits_6 : decode cX11_loadBits 6 = .ok (.invokevirtual 424, 3) := by decide +kernel
theorem dX11_loadBits_9 : decode cX11_loadBits 9 = .ok (.invokestatic 428, 3) := by decide +kernel
theorem dX11_loadBits_12 : decode cX11_loadBits 12 = .ok (.ireturn, 1) := by decide +kernel
theorem dX11_meanTold_0 : decode cX11_meanTold 0 = .ok (.aload_n 0, 1) := by decide +kernel
theorem dX11_meanTold_1 : decode cX11_meanTold 1 = .ok (.getfield 44, 3) := by decide +kernel
theorem dX11_meanTold_4 : decode cX11_meanTold 4 = .ok (.getfield 432, 3) := by decide +kernel
theorem dX11_meanTold_7 : decode cX11_meanTold 7 = .ok (.ifCond .ne 14, 3) := by decide +kernel
theorem dX11_meanTold_10 : decode cX11_meanTold 10 = .ok (.new 435, 3) := by decide +kernel
theorem dX11_meanTold_13 : decode cX11_meanTold 13 = .ok (.dup, 1) := by decide +kernel
theorem dX11_meanTold_14 : decode cX11_meanTold 14 = .ok (.ldc_w 437, 3) := by decide +kernel
theorem dX11_meanTold_17 : decode cX11_meanTold 17 = .ok (.invokespecial 439, 3) := by decide +kernel
theorem dX11_meanTold_20 : decode cX11_meanTold 20 = .ok (.athrow, 1) := by decide +kernel
theorem dX11_meanTold_21 : decode cX11_meanTold 21 = .ok (.aload_n 0, 1) := by decide +kernel
theorem dX11_meanTold_22 : decode cX11_meanTold 22 = .ok (.getfield 44, 3) := by decide +kernel
theorem dX11_meanTold_25 : decode cX11_meanTold 25 = .ok (.invokevirtual 440, 3) := by decide +kernel
theorem dX11_meanTold_28 : decode cX11_meanTold 28 = .ok (.dreturn, 1) := by decide +kernel
theorem dX11_meanToldBits_0 : decode cX11_meanToldBits 0 = .ok (.aload_n 0, 1) := by decide +kernel
theorem dX11_meanToldBits_1 : decode cX11_meanToldBits 1 = .ok (.getfield 44, 3) := by decide +kernel
theorem dX11_meanToldBits_4 : decode cX11_meanToldBits 4 = .ok (.getfield 432, 3) := by decide +kernel
theorem dX11_meanToldBits_7 : decode cX11_meanToldBits 7 = .ok (.ifCond .ne 14, 3) := by decide +kernel
theorem dX11_meanToldBits_10 : decode cX11_meanToldBits 10 = .ok (.new 435, 3) := by decide +kernel
theorem dX11_meanToldBits_13 : decode cX11_meanToldBits 13 = .ok (.dup, 1) := by decide +kernel
theorem dX11_meanToldBits_14 : decode cX11_meanToldBits 14 = .ok (.ldc_w 437, 3) := by decide +kernel
theorem dX11_meanToldBits_17 : decode cX11_meanToldBits 17 = .ok (.invokespecial 439, 3) := by decide +kernel
theorem dX11_meanToldBits_20 : decode cX11_meanToldBits 20 = .ok (.athrow, 1) := by decide +kernel
theorem dX11_meanToldBits_21 : decode cX11_meanToldBits 21 = .ok (.aload_n 0, 1) := by decide +kernel
theorem dX11_meanToldBits_22 : decode cX11_meanToldBits 22 = .ok (.getfield 44, 3) := by decide +kernel
theorem dX11_meanToldBits_25 : decode cX11_meanToldBits 25 = .ok (.invokevirtual 440, 3) := by decide +kernel
theorem dX11_meanToldBits_28 : decode cX11_meanToldBits 28 = .ok (.invokestatic 444, 3) := by decide +kernel
theorem dX11_meanToldBits_31 : decode cX11_meanToldBits 31 = .ok (.lreturn, 1) := by decide +kernel
theorem dX11_isSound_0 : decode cX11_isSound 0 = .ok (.aload_n 0, 1) := by decide +kernel
theorem dX11_isSound_1 : decode cX11_isSound 1 = .ok (.getfield 37, 3) := by decide +kernel
theorem dX11_isSound_4 : decode cX11_isSound 4 = .ok (.invokevirtual 219, 3) := by decide +kernel
theorem dX11_isSound_7 : decode cX11_isSound 7 = .ok (.iconst 0, 1) := by decide +kernel
theorem dX11_isSound_8 : decode cX11_isSound 8 = .ok (.istore_n 1, 1) := by decide +kernel
theorem dX11_isSound_9 : decode cX11_isSound 9 = .ok (.iload_n 1, 1) := by decide +kernel
theorem dX11_isSound_10 : decode cX11_isSound 10 = .ok (.aload_n 0, 1) := by decide +kernel
theorem dX11_isSound_11 : decode cX11_isSound 11 = .ok (.getfield 158, 3) := by decide +kernel
theorem dX11_isSound_14 : decode cX11_isSound 14 = .ok (.if_icmp .ge 39, 3) := by decide +kernel
theorem dX11_isSound_17 : decode cX11_isSound 17 = .ok (.iload_n 1, 1) := by decide +kernel
theorem dX11_isSound_18 : decode cX11_isSound 18 = .ok (.aload_n 0, 1) := by decide +kernel
theorem dX11_isSound_19 : decode cX11_isSound 19 = .ok (.getfield 23, 3) := by decide +kernel
theorem dX11_isSound_22 : decode cX11_isSound 22 = .ok (.arraylength, 1) := by decide +kernel
theorem dX11_isSound_23 : decode cX11_isSound 23 = .ok (.if_icmp .ge 30, 3) := by decide +kernel
theorem dX11_isSound_26 : decode cX11_isSound 26 = .ok (.aload_n 0, 1) := by decide +kernel
theorem dX11_isSound_27 : decode cX11_isSound 27 = .ok (.getfield 23, 3) := by decide +kernel
theorem dX11_isSound_30 : decode cX11_isSound 30 = .ok (.iload_n 1, 1) := by decide +kernel
theorem dX11_isSound_31 : decode cX11_isSound 31 = .ok (.aaload, 1) := by decide +kernel
theorem dX11_isSound_32 : decode cX11_isSound 32 = .ok (.astore_n 2, 1) := by decide +kernel
theorem dX11_isSound_33 : decode cX11_isSound 33 = .ok (.aload_n 2, 1) := by decide +kernel
theorem dX11_isSound_34 : decode cX11_isSound 34 = .ok (.ifnull 13, 3) := by decide +kernel
theorem dX11_isSound_37 : decode cX11_isSound 37 = .ok (.aload_n 0, 1) := by decide +kernel
theorem dX11_isSound_38 : decode cX11_isSound 38 = .ok (.aload_n 2, 1) := by decide +kernel
theorem dX11_isSound_39 : decode cX11_isSound 39 = .ok (.invokevirtual 448, 3) := by decide +kernel
theorem dX11_isSound_42 : decode cX11_isSound 42 = .ok (.ifCond .ne 5, 3) := by decide +kernel
theorem dX11_isSound_45 : decode cX11_isSound 45 = .ok (.iconst 0, 1) := by decide +kernel
theorem dX11_isSound_46 : decode cX11_isSound 46 = .ok (.ireturn, 1) := by decide +kernel
theorem dX11_isSound_47 : decode cX11_isSound 47 = .ok (.iinc 1 1, 3) := by decide +kernel
theorem dX11_isSound_50 : decode cX11_isSound 50 = .ok (.goto (-41), 3) := by decide +kernel
theorem dX11_isSound_53 : decode cX11_isSound 53 = .ok (.iconst 1, 1) := by decide +kernel
theorem dX11_isSound_54 : decode cX11_isSound 54 = .ok (.ireturn, 1) := by decide +kernel
theorem dX11_needUser_0 : decode cX11_needUser 0 = .ok (.iload_n 1, 1) := by decide +kernel
theorem dX11_needUser_1 : decode cX11_needUser 1 = .ok (.ifCond .lt 20, 3) := by decide +kernel
theorem dX11_needUser_4 : decode cX11_needUser 4 = .ok (.iload_n 1, 1) := by decide +kernel
theorem dX11_needUser_5 : decode cX11_needUser 5 = .ok (.aload_n 0, 1) := by decide +kernel
theorem dX11_needUser_6 : decode cX11_needUser 6 = .ok (.getfield 66, 3) := by decide +kernel
theorem dX11_needUser_9 : decode cX11_needUser 9 = .ok (.if_icmp .ge 12, 3) := by decide +kernel
theorem dX11_needUser_12 : decode cX11_needUser 12 = .ok (.iload_n 1, 1) := by decide +kernel
theorem dX11_needUser_13 : decode cX11_needUser 13 = .ok (.aload_n 0, 1) := by decide +kernel
theorem dX11_needUser_14 : decode cX11_needUser 14 = .ok (.getfield 11, 3) := by decide +kernel
theorem dX11_needUser_17 : decode cX11_needUser 17 = .ok (.arraylength, 1) := by decide +kernel
theorem dX11_needUser_18 : decode cX11_needUser 18 = .ok (.if_icmp .lt 14, 3) := by decide +kernel
theorem dX11_needUser_21 : decode cX11_needUser 21 = .ok (.new 127, 3) := by decide +kernel
theorem dX11_needUser_24 : decode cX11_needUser 24 = .ok (.dup, 1) := by decide +kernel
theorem dX11_needUser_25 : decode cX11_needUser 25 = .ok (.ldc_w 452, 3) := by decide +kernel
theorem dX11_needUser_28 : decode cX11_needUser 28 = .ok (.invokespecial 131, 3) := by decide +kernel
theorem dX11_needUser_31 : decode cX11_needUser 31 = .ok (.athrow, 1) := by decide +kernel
theorem dX11_needUser_32 : decode cX11_needUser 32 = .ok (.aload_n 0, 1) := by decide +kernel
theorem dX11_needUser_33 : decode cX11_needUser 33 = .ok (.getfield 11, 3) := by decide +kernel
theorem dX11_needUser_36 : decode cX11_needUser 36 = .ok (.iload_n 1, 1) := by decide +kernel
theorem dX11_needUser_37 : decode cX11_needUser 37 = .ok (.aaload, 1) := by decide +kernel
theorem dX11_needUser_38 : decode cX11_needUser 38 = .ok (.astore_n 2, 1) := by decide +kernel
theorem dX11_needUser_39 : decode cX11_needUser 39 = .ok (.aload_n 2, 1) := by decide +kernel
theorem dX11_needUser_40 : decode cX11_needUser 40 = .ok (.ifnonnull 14, 3) := by decide +kernel
theorem dX11_needUser_43 : decode cX11_needUser 43 = .ok (.new 127, 3) := by decide +kernel
theorem dX11_needUser_46 : decode cX11_needUser 46 = .ok (.dup, 1) := by decide +kernel
theorem dX11_needUser_47 : decode cX11_needUser 47 = .ok (.ldc_w 452, 3) := by decide +kernel
theorem dX11_needUser_50 : decode cX11_needUser 50 = .ok (.invokespecial 131, 3) := by decide +kernel
theorem dX11_needUser_53 : decode cX11_needUser 53 = .ok (.athrow, 1) := by decide +kernel
theorem dX11_needUser_54 : decode cX11_needUser 54 = .ok (.aload_n 2, 1) := by decide +kernel
theorem dX11_needUser_55 : decode cX11_needUser 55 = .ok (.areturn, 1) := by decide +kernel
theorem dX11_needGroup_0 : decode cX11_needGroup 0 = .ok (.iload_n 1, 1) := by decide +kernel
theorem dX11_needGroup_1 : decode cX11_needGroup 1 = .ok (.ifCond .lt 20, 3) := by decide +kernel
theorem dX11_needGroup_4 : decode cX11_needGroup 4 = .ok (.iload_n 1, 1) := by decide +kernel
theorem dX11_needGroup_5 : decode cX11_needGroup 5 = .ok (.aload_n 0, 1) := by decide +kernel
theorem dX11_needGroup_6 : decode cX11_needGroup 6 = .ok (.getfield 84, 3) := by decide +kernel
theorem dX11_needGroup_9 : decode cX11_needGroup 9 = .ok (.if_icmp .ge 12, 3) := by decide +kernel
theorem dX11_needGroup_12 : decode cX11_needGroup 12 = .ok (.iload_n 1, 1) := by decide +kernel
theorem dX11_needGroup_13 : decode cX11_needGroup 13 = .ok (.aload_n 0, 1) := by decide +kernel
theorem dX11_needGroup_14 : decode cX11_needGroup 14 = .ok (.getfield 17, 3) := by decide +kernel
theorem dX11_needGroup_17 : decode cX11_needGroup 17 = .ok (.arraylength, 1) := by decide +kernel
theorem dX11_needGroup_18 : decode cX11_needGroup 18 = .ok (.if_icmp .lt 14, 3) := by decide +kernel
theorem dX11_needGroup_21 : decode cX11_needGroup 21 = .ok (.new 127, 3) := by decide +kernel
theorem dX11_needGroup_24 : decode cX11_needGroup 24 = .ok (.dup, 1) := by decide +kernel
theorem dX11_needGroup_25 : decode cX11_needGroup 25 = .ok (.ldc_w 454, 3) := by decide +kernel
theorem dX11_needGroup_28 : decode cX11_needGroup 28 = .ok (.invokespecial 131, 3) := by decide +kernel
theorem dX11_needGroup_31 : decode cX11_needGroup 31 = .ok (.athrow, 1) := by decide +kernel
theorem dX11_needGroup_32 : decode cX11_needGroup 32 = .ok (.aload_n 0, 1) := by decide +kernel
theorem dX11_needGroup_33 : decode cX11_needGroup 33 = .ok (.getfield 17, 3) := by decide +kernel
theorem dX11_needGroup_36 : decode cX11_needGroup 36 = .ok (.iload_n 1, 1) := by decide +kernel
theorem dX11_needGroup_37 : decode cX11_needGroup 37 = .ok (.aaload, 1) := by decide +kernel
theorem dX11_needGroup_38 : decode cX11_needGroup 38 = .ok (.astore_n 2, 1) := by decide +kernel
theorem dX11_needGroup_39 : decode cX11_needGroup 39 = .ok (.aload_n 2, 1) := by decide +kernel
theorem dX11_needGroup_40 : decode cX11_needGroup 40 = .ok (.ifnonnull 14, 3) := by decide +kernel
theorem dX11_needGroup_43 : decode cX11_needGroup 43 = .ok (.new 127, 3) := by decide +kernel
theorem dX11_needGroup_46 : decode cX11_needGroup 46 = .ok (.dup, 1) := by decide +kernel
theorem dX11_needGroup_47 : decode cX11_needGroup 47 = .ok (.ldc_w 454, 3) := by decide +kernel
theorem dX11_needGroup_50 : decode cX11_needGroup 50 = .ok (.invokespecial 131, 3) := by decide +kernel
theorem dX11_needGroup_53 : decode cX11_needGroup 53 = .ok (.athrow, 1) := by decide +kernel
theorem dX11_needGroup_54 : decode cX11_needGroup 54 = .ok (.aload_n 2, 1) := by decide +kernel
theorem dX11_needGroup_55 : decode cX11_needGroup 55 = .ok (.areturn, 1) := by decide +kernel
theorem dX11_needFile_0 : decode cX11_needFile 0 = .ok (.iload_n 1, 1) := by decide +kernel
theorem dX11_needFile_1 : decode cX11_needFile 1 = .ok (.ifCond .lt 20, 3) := by decide +kernel
theorem dX11_needFile_4 : decode cX11_needFile 4 = .ok (.iload_n 1, 1) := by decide +kernel
theorem dX11_needFile_5 : decode cX11_needFile 5 = .ok (.aload_n 0, 1) := by decide +kernel
theorem dX11_needFile_6 : decode cX11_needFile 6 = .ok (.getfield 158, 3) := by decide +kernel
theorem dX11_needFile_9 : decode cX11_needFile 9 = .ok (.if_icmp .ge 12, 3) := by decide +kernel
theorem dX11_needFile_12 : decode cX11_needFile 12 = .ok (.iload_n 1, 1) := by decide +kernel
theorem dX11_needFile_13 : decode cX11_needFile 13 = .ok (.aload_n 0, 1) := by decide +kernel
theorem dX11_needFile_14 : decode cX11_needFile 14 = .ok (.getfield 23, 3) := by decide +kernel
theorem dX11_needFile_17 : decode cX11_needFile 17 = .ok (.arraylength, 1) := by decide +kernel
theorem dX11_needFile_18 : decode cX11_needFile 18 = .ok (.if_icmp .lt 14, 3) := by decide +kernel
theorem dX11_needFile_21 : decode cX11_needFile 21 = .ok (.new 127, 3) := by decide +kernel
theorem dX11_needFile_24 : decode cX11_needFile 24 = .ok (.dup, 1) := by decide +kernel
theorem dX11_needFile_25 : decode cX11_needFile 25 = .ok (.ldc_w 292, 3) := by decide +kernel
theorem dX11_needFile_28 : decode cX11_needFile 28 = .ok (.invokespecial 131, 3) := by decide +kernel
theorem dX11_needFile_31 : decode cX11_needFile 31 = .ok (.athrow, 1) := by decide +kernel
theorem dX11_needFile_32 : decode cX11_needFile 32 = .ok (.aload_n 0, 1) := by decide +kernel
theorem dX11_needFile_33 : decode cX11_needFile 33 = .ok (.getfield 23, 3) := by decide +kernel
theorem dX11_needFile_36 : decode cX11_needFile 36 = .ok (.iload_n 1, 1) := by decide +kernel
theorem dX11_needFile_37 : decode cX11_needFile 37 = .ok (.aaload, 1) := by decide +kernel
theorem dX11_needFile_38 : decode cX11_needFile 38 = .ok (.astore_n 2, 1) := by decide +kernel
theorem dX11_needFile_39 : decode cX11_needFile 39 = .ok (.aload_n 2, 1) := by decide +kernel
theorem dX11_needFile_40 : decode cX11_needFile 40 = .ok (.ifnonnull 14, 3) := by decide +kernel
theorem dX11_needFile_43 : decode cX11_needFile 43 = .ok (.new 127, 3) := by decide +kernel
theorem dX11_needFile_46 : decode cX11_needFile 46 = .ok (.dup, 1) := by decide +kernel
theorem dX11_needFile_47 : decode cX11_needFile 47 = .ok (.ldc_w 292, 3) := by decide +kernel
theorem dX11_needFile_50 : decode cX11_needFile 50 = .ok (.invokespecial 131, 3) := by decide +kernel
theorem dX11_needFile_53 : decode cX11_needFile 53 = .ok (.athrow, 1) := by decide +kernel
theorem dX11_needFile_54 : decode cX11_needFile 54 = .ok (.aload_n 2, 1) := by decide +kernel
theorem dX11_needFile_55 : decode cX11_needFile 55 = .ok (.areturn, 1) := by decide +kernel
theorem dX11_needPartNumber_0 : decode cX11_needPartNumber 0 = .ok (.iload_n 1, 1) := by decide +kernel
theorem dX11_needPartNumber_1 : decode cX11_needPartNumber 1 = .ok (.ifCond .lt 9, 3) := by decide +kernel
theorem dX11_needPartNumber_4 : decode cX11_needPartNumber 4 = .ok (.iload_n 1, 1) := by decide +kernel
theorem dX11_needPartNumber_5 : decode cX11_needPartNumber 5 = .ok (.bipush 8, 2) := by decide +kernel
theorem dX11_needPartNumber_7 : decode cX11_needPartNumber 7 = .ok (.if_icmp .lt 14, 3) := by decide +kernel
theorem dX11_needPartNumber_10 : decode cX11_needPartNumber 10 = .ok (.new 59, 3) := by decide +kernel
theorem dX11_needPartNumber_13 : decode cX11_needPartNumber 13 = .ok (.dup, 1) := by decide +kernel
theorem dX11_needPartNumber_14 : decode cX11_needPartNumber 14 = .ok (.ldc_w 456, 3) := by decide +kernel
theorem dX11_needPartNumber_17 : decode cX11_needPartNumber 17 = .ok (.invokespecial 63, 3) := by decide +kernel
theorem dX11_needPartNumber_20 : decode cX11_needPartNumber 20 = .ok (.athrow, 1) := by decide +kernel
theorem dX11_needPartNumber_21 : decode cX11_needPartNumber 21 = .ok (.return_, 1) := by decide +kernel
theorem dX11_needPart_0 : decode cX11_needPart 0 = .ok (.aload_n 0, 1) := by decide +kernel
theorem dX11_needPart_1 : decode cX11_needPart 1 = .ok (.iload_n 1, 1) := by decide +kernel
theorem dX11_needPart_2 : decode cX11_needPart 2 = .ok (.invokevirtual 166, 3) := by decide +kernel
theorem dX11_needPart_5 : decode cX11_needPart 5 = .ok (.astore_n 3, 1) := by decide +kernel
theorem dX11_needPart_6 : decode cX11_needPart 6 = .ok (.aload_n 0, 1) := by decide +kernel
theorem dX11_needPart_7 : decode cX11_needPart 7 = .ok (.iload_n 2, 1) := by decide +kernel
theorem dX11_needPart_8 : decode cX11_needPart 8 = .ok (.invokevirtual 170, 3) := by decide +kernel
theorem dX11_needPart_11 : decode cX11_needPart 11 = .ok (.aload_n 3, 1) := by decide +kernel
theorem dX11_needPart_12 : decode cX11_needPart 12 = .ok (.iload_n 2, 1) := by decide +kernel
theorem dX11_needPart_13 : decode cX11_needPart 13 = .ok (.invokevirtual 458, 3) := by decide +kernel
theorem dX11_needPart_16 : decode cX11_needPart 16 = .ok (.astore 4, 2) := by decide +kernel
theorem dX11_needPart_18 : decode cX11_needPart 18 = .ok (.aload 4, 2) := by decide +kernel
theorem dX11_needPart_20 : decode cX11_needPart 20 = .ok (.ifnonnull 14, 3) := by decide +kernel
theorem dX11_needPart_23 : decode cX11_needPart 23 = .ok (.new 127, 3) := by decide +kernel
theorem dX11_needPart_26 : decode cX11_needPart 26 = .ok (.dup, 1) := by decide +kernel
theorem dX11_needPart_27 : decode cX11_needPart 27 = .ok (.ldc_w 462, 3) := by decide +kernel
theorem dX11_needPart_30 : decode cX11_needPart 30 = .ok (.invokespecial 131, 3) := by decide +kernel
theorem dX11_needPart_33 : decode cX11_needPart 33 = .ok (.athrow, 1) := by decide +kernel
theorem dX11_needPart_34 : decode cX11_needPart 34 = .ok (.aload 4, 2) := by decide +kernel
theorem dX11_needPart_36 : decode cX11_needPart 36 = .ok (.areturn, 1) := by decide +kernel
theorem dX11_needMember_0 : decode cX11_needMember 0 = .ok (.aload_n 1, 1) := by decide +kernel
theorem dX11_needMember_1 : decode cX11_needMember 1 = .ok (.iload_n 2, 1) := by decide +kernel
theorem dX11_needMember_2 : decode cX11_needMember 2 = .ok (.invokevirtual 106, 3) := by decide +kernel
theorem dX11_needMember_5 : decode cX11_needMember 5 = .ok (.ifCond .ne 13, 3) := by decide +kernel
theorem dX11_needMember_8 : decode cX11_needMember 8 = .ok (.new 208, 3) := by decide +kernel
theorem dX11_needMember_11 : decode cX11_needMember 11 = .ok (.dup, 1) := by decide +kernel
theorem dX11_needMember_12 : decode cX11_needMember 12 = .ok (.ldc 129, 2) := by decide +kernel
theorem dX11_needMember_14 : decode cX11_needMember 14 = .ok (.invokespecial 212, 3) := by decide +kernel
theorem dX11_needMember_17 : decode cX11_needMember 17 = .ok (.athrow, 1) := by decide +kernel
theorem dX11_needMember_18 : decode cX11_needMember 18 = .ok (.return_, 1) := by decide +kernel
theorem dX11_needWord_0 : decode cX11_needWord 0 = .ok (.iload_n 1, 1) := by decide +kernel
theorem dX11_needWord_1 : decode cX11_needWord 1 = .ok (.ifCond .lt 9, 3) := by decide +kernel
theorem dX11_needWord_4 : decode cX11_needWord 4 = .ok (.iload_n 1, 1) := by decide +kernel
theorem dX11_needWord_5 : decode cX11_needWord 5 = .ok (.bipush 99, 2) := by decide +kernel
theorem dX11_needWord_7 : decode cX11_needWord 7 = .ok (.if_icmp .le 14, 3) := by decide +kernel
theorem dX11_needWord_10 : decode cX11_needWord 10 = .ok (.new 59, 3) := by decide +kernel
theorem dX11_needWord_13 : decode cX11_needWord 13 = .ok (.dup, 1) := by decide +kernel
theorem dX11_needWord_14 : decode cX11_needWord 14 = .ok (.ldc_w 464, 3) := by decide +kernel
theorem dX11_needWord_17 : decode cX11_needWord 17 = .ok (.invokespecial 63, 3) := by decide +kernel
theorem dX11_needWord_20 : decode cX11_needWord 20 = .ok (.athrow, 1) := by decide +kernel
theorem dX11_needWord_21 : decode cX11_needWord 21 = .ok (.return_, 1) := by decide +kernel
theorem dX11_needRoomForComingAndGoing_0 : decode cX11_needRoomForComingAndGoing 0 = .ok (.aload_n 0, 1) := by decide +kernel
theorem dX11_needRoomForComingAndGoing_1 : decode cX11_needRoomForComingAndGoing 1 = .ok (.getfield 30, 3) := by decide +kernel
theorem dX11_needRoomForComingAndGoing_4 : decode cX11_needRoomForComingAndGoing 4 = .ok (.invokevirtual 243, 3) := by decide +kernel
theorem dX11_needRoomForComingAndGoing_7 : decode cX11_needRoomForComingAndGoing 7 = .ok (.ifCond .ne 13, 3) := by decide +kernel
theorem dX11_needRoomForComingAndGoing_10 : decode cX11_needRoomForComingAndGoing 10 = .ok (.aload_n 0, 1) := by decide +kernel
theorem dX11_needRoomForComingAndGoing_11 : decode cX11_needRoomForComingAndGoing 11 = .ok (.getfield 37, 3) := by decide +kernel
theorem dX11_needRoomForComingAndGoing_14 : decode cX11_needRoomForComingAndGoing 14 = .ok (.invokevirtual 466, 3) := by decide +kernel
theorem dX11_needRoomForComingAndGoing_17 : decode cX11_needRoomForComingAndGoing 17 = .ok (.ifCond .eq 14, 3) := by decide +kernel
theorem dX11_needRoomForComingAndGoing_20 : decode cX11_needRoomForComingAndGoing 20 = .ok (.new 70, 3) := by decide +kernel
theorem dX11_needRoomForComingAndGoing_23 : decode cX11_needRoomForComingAndGoing 23 = .ok (.dup, 1) := by decide +kernel
theorem dX11_needRoomForComingAndGoing_24 : decode cX11_needRoomForComingAndGoing 24 = .ok (.ldc_w 467, 3) := by decide +kernel
theorem dX11_needRoomForComingAndGoing_27 : decode cX11_needRoomForComingAndGoing 27 = .ok (.invokespecial 74, 3) := by decide +kernel
theorem dX11_needRoomForComingAndGoing_30 : decode cX11_needRoomForComingAndGoing 30 = .ok (.athrow, 1) := by decide +kernel
theorem dX11_needRoomForComingAndGoing_31 : decode cX11_needRoomForComingAndGoing 31 = .ok (.return_, 1) := by decide +kernel
theorem dX11_needLeaves_0 : decode cX11_needLeaves 0 = .ok (.iload_n 1, 1) := by decide +kernel
theorem dX11_needLeaves_1 : decode cX11_needLeaves 1 = .ok (.ifCond .lt 14, 3) := by decide +kernel
theorem dX11_needLeaves_4 : decode cX11_needLeaves 4 = .ok (.iload_n 1, 1) := by decide +kernel
theorem dX11_needLeaves_5 : decode cX11_needLeaves 5 = .ok (.aload_n 0, 1) := by decide +kernel
theorem dX11_needLeaves_6 : decode cX11_needLeaves 6 = .ok (.getfield 30, 3) := by decide +kernel
theorem dX11_needLeaves_9 : decode cX11_needLeaves 9 = .ok (.invokevirtual 309, 3) := by decide +kernel
theorem dX11_needLeaves_12 : decode cX11_needLeaves 12 = .ok (.if_icmp .le 14, 3) := by decide +kernel
theorem dX11_needLeaves_15 : decode cX11_needLeaves 15 = .ok (.new 59, 3) := by decide +kernel
theorem dX11_needLeaves_18 : decode cX11_needLeaves 18 = .ok (.dup, 1) := by decide +kernel
theorem dX11_needLeaves_19 : decode cX11_needLeaves 19 = .ok (.ldc_w 469, 3) := by decide +kernel
theorem dX11_needLeaves_22 : decode cX11_needLeaves 22 = .ok (.invokespecial 63, 3) := by decide +kernel
theorem dX11_needLeaves_25 : decode cX11_needLeaves 25 = .ok (.athrow, 1) := by decide +kernel
theorem dX11_needLeaves_26 : decode cX11_needLeaves 26 = .ok (.return_, 1) := by decide +kernel
theorem dX11_needLeafAmong_0 : decode cX11_needLeafAmong 0 = .ok (.aload_n 0, 1) := by decide +kernel
theorem dX11_needLeafAmong_1 : decode cX11_needLeafAmong 1 = .ok (.iload_n 1, 1) := by decide +kernel
theorem dX11_needLeafAmong_2 : decode cX11_needLeafAmong 2 = .ok (.invokevirtual 317, 3) := by decide +kernel
theorem dX11_needLeafAmong_5 : decode cX11_needLeafAmong 5 = .ok (.iload_n 2, 1) := by decide +kernel
theorem dX11_needLeafAmong_6 : decode cX11_needLeafAmong 6 = .ok (.ifCond .lt 8, 3) := by decide +kernel
theorem dX11_needLeafAmong_9 : decode cX11_needLeafAmong 9 = .ok (.iload_n 2, 1) := by decide +kernel
theorem dX11_needLeafAmong_10 : decode cX11_needLeafAmong 10 = .ok (.iload_n 1, 1) := by decide +kernel
theorem dX11_needLeafAmong_11 : decode cX11_needLeafAmong 11 = .ok (.if_icmp .lt 14, 3) := by decide +kernel
theorem dX11_needLeafAmong_14 : decode cX11_needLeafAmong 14 = .ok (.new 290, 3) := by decide +kernel
theorem dX11_needLeafAmong_17 : decode cX11_needLeafAmong 17 = .ok (.dup, 1) := by decide +kernel
theorem dX11_needLeafAmong_18 : decode cX11_needLeafAmong 18 = .ok (.ldc_w 471, 3) := by decide +kernel
theorem dX11_needLeafAmong_21 : decode cX11_needLeafAmong 21 = .ok (.invokespecial 294, 3) := by decide +kernel
theorem dX11_needLeafAmong_24 : decode cX11_needLeafAmong 24 = .ok (.athrow, 1) := by decide +kernel
theorem dX11_needLeafAmong_25 : decode cX11_needLeafAmong 25 = .ok (.return_, 1) := by decide +kernel
theorem dX11_needPrefix_0 : decode cX11_needPrefix 0 = .ok (.aload_n 0, 1) := by decide +kernel
theorem dX11_needPrefix_1 : decode cX11_needPrefix 1 = .ok (.iload_n 2, 1) := by decide +kernel
theorem dX11_needPrefix_2 : decode cX11_needPrefix 2 = .ok (.invokevirtual 317, 3) := by decide +kernel
theorem dX11_needPrefix_5 : decode cX11_needPrefix 5 = .ok (.iload_n 1, 1) := by decide +kernel
theorem dX11_needPrefix_6 : decode cX11_needPrefix 6 = .ok (.iconst 1, 1) := by decide +kernel
theorem dX11_needPrefix_7 : decode cX11_needPrefix 7 = .ok (.if_icmp .lt 8, 3) := by decide +kernel
theorem dX11_needPrefix_10 : decode cX11_needPrefix 10 = .ok (.iload_n 1, 1) := by decide +kernel
theorem dX11_needPrefix_11 : decode cX11_needPrefix 11 = .ok (.iload_n 2, 1) := by decide +kernel
theorem dX11_needPrefix_12 : decode cX11_needPrefix 12 = .ok (.if_icmp .le 14, 3) := by decide +kernel
theorem dX11_needPrefix_15 : decode cX11_needPrefix 15 = .ok (.new 59, 3) := by decide +kernel
theorem dX11_needPrefix_18 : decode cX11_needPrefix 18 = .ok (.dup, 1) := by decide +kernel
theorem dX11_needPrefix_19 : decode cX11_needPrefix 19 = .ok (.ldc_w 473, 3) := by decide +kernel
theorem dX11_needPrefix_22 : decode cX11_needPrefix 22 = .ok (.invokespecial 63, 3) := by decide +kernel
theorem dX11_needPrefix_25 : decode cX11_needPrefix 25 = .ok (.athrow, 1) := by decide +kernel
theorem dX11_needPrefix_26 : decode cX11_needPrefix 26 = .ok (.return_, 1) := by decide +kernel
theorem dX11_isKeyKnown_0 : decode cX11_isKeyKnown 0 = .ok (.aload_n 3, 1) := by decide +kernel
theorem dX11_isKeyKnown_1 : decode cX11_isKeyKnown 1 = .ok (.getfield 475, 3) := by decide +kernel
theorem dX11_isKeyKnown_4 : decode cX11_isKeyKnown 4 = .ok (.aload_n 2, 1) := by decide +kernel
theorem dX11_isKeyKnown_5 : decode cX11_isKeyKnown 5 = .ok (.getfield 173, 3) := by decide +kernel
theorem dX11_isKeyKnown_8 : decode cX11_isKeyKnown 8 = .ok (.iload_n 1, 1) := by decide +kernel
theorem dX11_isKeyKnown_9 : decode cX11_isKeyKnown 9 = .ok (.invokevirtual 150, 3) := by decide +kernel
theorem dX11_isKeyKnown_12 : decode cX11_isKeyKnown 12 = .ok (.if_icmp .gt 7, 3) := by decide +kernel
theorem dX11_isKeyKnown_15 : decode cX11_isKeyKnown 15 = .ok (.iconst 1, 1) := by decide +kernel
theorem dX11_isKeyKnown_16 : decode cX11_isKeyKnown 16 = .ok (.goto 4, 3) := by decide +kernel
theorem dX11_isKeyKnown_19 : decode cX11_isKeyKnown 19 = .ok (.iconst 0, 1) := by decide +kernel
theorem dX11_isKeyKnown_20 : decode cX11_isKeyKnown 20 = .ok (.ireturn, 1) := by decide +kernel
theorem dX11_turnFilesOf_0 : decode cX11_turnFilesOf 0 = .ok (.iconst 0, 1) := by decide +kernel
theorem dX11_turnFilesOf_1 : decode cX11_turnFilesOf 1 = .ok (.istore_n 2, 1) := by decide +kernel
theorem dX11_turnFilesOf_2 : decode cX11_turnFilesOf 2 = .ok (.iconst 0, 1) := by decide +kernel
theorem dX11_turnFilesOf_3 : decode cX11_turnFilesOf 3 = .ok (.istore_n 3, 1) := by decide +kernel
theorem dX11_turnFilesOf_4 : decode cX11_turnFilesOf 4 = .ok (.iload_n 3, 1) := by decide +kernel
theorem dX11_turnFilesOf_5 : decode cX11_turnFilesOf 5 = .ok (.aload_n 0, 1) := by decide +kernel
theorem dX11_turnFilesOf_6 : decode cX11_turnFilesOf 6 = .ok (.getfield 158, 3) := by decide +kernel
theorem dX11_turnFilesOf_9 : decode cX11_turnFilesOf 9 = .ok (.if_icmp .ge 77, 3) := by decide +kernel
theorem dX11_turnFilesOf_12 : decode cX11_turnFilesOf 12 = .ok (.iload_n 3, 1) := by decide +kernel
theorem dX11_turnFilesOf_13 : decode cX11_turnFilesOf 13 = .ok (.aload_n 0, 1) := by decide +kernel
theorem dX11_turnFilesOf_14 : decode cX11_turnFilesOf 14 = .ok (.getfield 23, 3) := by decide +kernel
theorem dX11_turnFilesOf_17 : decode cX11_turnFilesOf 17 = .ok (.arraylength, 1) := by decide +kernel
theorem dX11_turnFilesOf_18 : decode cX11_turnFilesOf 18 = .ok (.if_icmp .ge 68, 3) := by decide +kernel
theorem dX11_turnFilesOf_21 : decode cX11_turnFilesOf 21 = .ok (.aload_n 0, 1) := by decide +kernel
theorem dX11_turnFilesOf_22 : decode cX11_turnFilesOf 22 = .ok (.getfield 23, 3) := by decide +kernel
theorem dX11_turnFilesOf_25 : decode cX11_turnFilesOf 25 = .ok (.iload_n 3, 1) := by decide +kernel
theorem dX11_turnFilesOf_26 : decode cX11_turnFilesOf 26 = .ok (.aaload, 1) := by decide +kernel
theorem dX11_turnFilesOf_27 : decode cX11_turnFilesOf 27 = .ok (.astore 4, 2) := by decide +kernel
theorem dX11_turnFilesOf_29 : decode cX11_turnFilesOf 29 = .ok (.aload 4, 2) := by decide +kernel
theorem dX11_turnFilesOf_31 : decode cX11_turnFilesOf 31 = .ok (.ifnull 49, 3) := by decide +kernel
theorem dX11_turnFilesOf_34 : decode cX11_turnFilesOf 34 = .ok (.aload 4, 2) := by decide +kernel
theorem dX11_turnFilesOf_36 : decode cX11_turnFilesOf 36 = .ok (.getfield 173, 3) := by decide +kernel
theorem dX11_turnFilesOf_39 : decode cX11_turnFilesOf 39 = .ok (.getfield 96, 3) := by decide +kernel
theorem dX11_turnFilesOf_42 : decode cX11_turnFilesOf 42 = .ok (.aload_n 1, 1) := by decide +kernel
theorem dX11_turnFilesOf_43 : decode cX11_turnFilesOf 43 = .ok (.getfield 96, 3) := by decide +kernel
theorem dX11_turnFilesOf_46 : decode cX11_turnFilesOf 46 = .ok (.if_icmp .ne 34, 3) := by decide +kernel
theorem dX11_turnFilesOf_49 : decode cX11_turnFilesOf 49 = .ok (.aload 4, 2) := by decide +kernel
theorem dX11_turnFilesOf_51 : decode cX11_turnFilesOf 51 = .ok (.getfield 195, 3) := by decide +kernel
theorem dX11_turnFilesOf_54 : decode cX11_turnFilesOf 54 = .ok (.ifCond .ne 26, 3) := by decide +kernel
theorem dX11_turnFilesOf_57 : decode cX11_turnFilesOf 57 = .ok (.aload 4, 2) := by decide +kernel
theorem dX11_turnFilesOf_59 : decode cX11_turnFilesOf 59 = .ok (.invokevirtual 198, 3) := by decide +kernel
theorem dX11_turnFilesOf_62 : decode cX11_turnFilesOf 62 = .ok (.ifCond .ne 18, 3) := by decide +kernel
theorem dX11_turnFilesOf_65 : decode cX11_turnFilesOf 65 = .ok (.iload_n 2, 1) := by decide +kernel
theorem dX11_turnFilesOf_66 : decode cX11_turnFilesOf 66 = .ok (.aload 4, 2) := by decide +kernel
theorem dX11_turnFilesOf_68 : decode cX11_turnFilesOf 68 = .ok (.aload_n 0, 1) := by decide +kernel
theorem dX11_turnFilesOf_69 : decode cX11_turnFilesOf 69 = .ok (.getfield 37, 3) := by decide +kernel
theorem dX11_turnFilesOf_72 : decode cX11_turnFilesOf 72 = .ok (.invokevirtual 476, 3) := by decide +kernel
theorem dX11_turnFilesOf_75 : decode cX11_turnFilesOf 75 = .ok (.invokevirtual 478, 3) := by decide +kernel
theorem dX11_turnFilesOf_78 : decode cX11_turnFilesOf 78 = .ok (.iadd, 1) := by decide +kernel
theorem dX11_turnFilesOf_79 : decode cX11_turnFilesOf 79 = .ok (.istore_n 2, 1) := by decide +kernel
theorem dX11_turnFilesOf_80 : decode cX11_turnFilesOf 80 = .ok (.iinc 3 1, 3) := by decide +kernel
theorem dX11_turnFilesOf_83 : decode cX11_turnFilesOf 83 = .ok (.goto (-79), 3) := by decide +kernel
theorem dX11_turnFilesOf_86 : decode cX11_turnFilesOf 86 = .ok (.iload_n 2, 1) := by decide +kernel
theorem dX11_turnFilesOf_87 : decode cX11_turnFilesOf 87 = .ok (.ireturn, 1) := by decide +kernel
theorem dX11_partsOf_0 : decode cX11_partsOf 0 = .ok (.iconst 0, 1) := by decide +kernel
theorem dX11_partsOf_1 : decode cX11_partsOf 1 = .ok (.istore_n 2, 1) := by decide +kernel
theorem dX11_partsOf_2 : decode cX11_partsOf 2 = .ok (.iconst 0, 1) := by decide +kernel
theorem dX11_partsOf_3 : decode cX11_partsOf 3 = .ok (.istore_n 3, 1) := by decide +kernel
theorem dX11_partsOf_4 : decode cX11_partsOf 4 = .ok (.iload_n 3, 1) := by decide +kernel
theorem dX11_partsOf_5 : decode cX11_partsOf 5 = .ok (.aload_n 0, 1) := by decide +kernel
theorem dX11_partsOf_6 : decode cX11_partsOf 6 = .ok (.getfield 158, 3) := by decide +kernel
theorem dX11_partsOf_9 : decode cX11_partsOf 9 = .ok (.if_icmp .ge 54, 3) := by decide +kernel
theorem dX11_partsOf_12 : decode cX11_partsOf 12 = .ok (.iload_n 3, 1) := by decide +kernel
theorem dX11_partsOf_13 : decode cX11_partsOf 13 = .ok (.aload_n 0, 1) := by decide +kernel
theorem dX11_partsOf_14 : decode cX11_partsOf 14 = .ok (.getfield 23, 3) := by decide +kernel
theorem dX11_partsOf_17 : decode cX11_partsOf 17 = .ok (.arraylength, 1) := by decide +kernel
theorem dX11_partsOf_18 : decode cX11_partsOf 18 = .ok (.if_icmp .ge 45, 3) := by decide +kernel
theorem dX11_partsOf_21 : decode cX11_partsOf 21 = .ok (.aload_n 0, 1) := by decide +kernel
theorem dX11_partsOf_22 : decode cX11_partsOf 22 = .ok (.getfield 23, 3) := by decide +kernel
theorem dX11_partsOf_25 : decode cX11_partsOf 25 = .ok (.iload_n 3, 1) := by decide +kernel
theorem dX11_partsOf_26 : decode cX11_partsOf 26 = .ok (.aaload, 1) := by decide +kernel
theorem dX11_partsOf_27 : decode cX11_partsOf 27 = .ok (.astore 4, 2) := by decide +kernel
theorem dX11_partsOf_29 : decode cX11_partsOf 29 = .ok (.aload 4, 2) := by decide +kernel
theorem dX11_partsOf_31 : decode cX11_partsOf 31 = .ok (.ifnull 26, 3) := by decide +kernel
theorem dX11_partsOf_34 : decode cX11_partsOf 34 = .ok (.aload 4, 2) := by decide +kernel
theorem dX11_partsOf_36 : decode cX11_partsOf 36 = .ok (.getfield 173, 3) := by decide +kernel
theorem dX11_partsOf_39 : decode cX11_partsOf 39 = .ok (.getfield 96, 3) := by decide +kernel
theorem dX11_partsOf_42 : decode cX11_partsOf 42 = .ok (.aload_n 1, 1) := by decide +kernel
theorem dX11_partsOf_43 : decode cX11_partsOf 43 = .ok (.getfield 96, 3) := by decide +kernel
theorem dX11_partsOf_46 : decode cX11_partsOf 46 = .ok (.if_icmp .ne 11, 3) := by decide +kernel
theorem dX11_partsOf_49 : decode cX11_partsOf 49 = .ok (.iload_n 2, 1) := by decide +kernel
theorem dX11_partsOf_50 : decode cX11_partsOf 50 = .ok (.aload 4, 2) := by decide +kernel
theorem dX11_partsOf_52 : decode cX11_partsOf 52 = .ok (.invokevirtual 248, 3) := by decide +kernel
theorem dX11_partsOf_55 : decode cX11_partsOf 55 = .ok (.iadd, 1) := by decide +kernel
theorem dX11_partsOf_56 : decode cX11_partsOf 56 = .ok (.istore_n 2, 1) := by decide +kernel
theorem dX11_partsOf_57 : decode cX11_partsOf 57 = .ok (.iinc 3 1, 3) := by decide +kernel
theorem dX11_partsOf_60 : decode cX11_partsOf 60 = .ok (.goto (-56), 3) := by decide +kernel
theorem dX11_partsOf_63 : decode cX11_partsOf 63 = .ok (.iload_n 2, 1) := by decide +kernel
theorem dX11_partsOf_64 : decode cX11_partsOf 64 = .ok (.ireturn, 1) := by decide +kernel
theorem dX11_isOpenForWriting_0 : decode cX11_isOpenForWriting 0 = .ok (.aload_n 1, 1) := by decide +kernel
theorem dX11_isOpenForWriting_1 : decode cX11_isOpenForWriting 1 = .ok (.getfield 195, 3) := by decide +kernel
theorem dX11_isOpenForWriting_4 : decode cX11_isOpenForWriting 4 = .ok (.ifCond .ne 20, 3) := by decide +kernel
theorem dX11_isOpenForWriting_7 : decode cX11_isOpenForWriting 7 = .ok (.aload_n 1, 1) := by decide +kernel
theorem dX11_isOpenForWriting_8 : decode cX11_isOpenForWriting 8 = .ok (.invokevirtual 198, 3) := by decide +kernel
theorem dX11_isOpenForWriting_11 : decode cX11_isOpenForWriting 11 = .ok (.ifCond .ne 13, 3) := by decide +kernel
theorem dX11_isOpenForWriting_14 : decode cX11_isOpenForWriting 14 = .ok (.aload_n 0, 1) := by decide +kernel
theorem dX11_isOpenForWriting_15 : decode cX11_isOpenForWriting 15 = .ok (.getfield 30, 3) := by decide +kernel
theorem dX11_isOpenForWriting_18 : decode cX11_isOpenForWriting 18 = .ok (.invokevirtual 243, 3) := by decide +kernel
theorem dX11_isOpenForWriting_21 : decode cX11_isOpenForWriting 21 = .ok (.ifCond .eq 5, 3) := by decide +kernel
theorem dX11_isOpenForWriting_24 : decode cX11_isOpenForWriting 24 = .ok (.iconst 0, 1) := by decide +kernel
theorem dX11_isOpenForWriting_25 : decode cX11_isOpenForWriting 25 = .ok (.ireturn, 1) := by decide +kernel
theorem dX11_isOpenForWriting_26 : decode cX11_isOpenForWriting 26 = .ok (.aload_n 1, 1) := by decide +kernel
theorem dX11_isOpenForWriting_27 : decode cX11_isOpenForWriting 27 = .ok (.iload_n 2, 1) := by decide +kernel
theorem dX11_isOpenForWriting_28 : decode cX11_isOpenForWriting 28 = .ok (.invokevirtual 458, 3) := by decide +kernel
theorem dX11_isOpenForWriting_31 : decode cX11_isOpenForWriting 31 = .ok (.ifnonnull 21, 3) := by decide +kernel
theorem dX11_isOpenForWriting_34 : decode cX11_isOpenForWriting 34 = .ok (.aload_n 0, 1) := by decide +kernel
theorem dX11_isOpenForWriting_35 : decode cX11_isOpenForWriting 35 = .ok (.aload_n 1, 1) := by decide +kernel
theorem dX11_isOpenForWriting_36 : decode cX11_isOpenForWriting 36 = .ok (.getfield 173, 3) := by decide +kernel
theorem dX11_isOpenForWriting_39 : decode cX11_isOpenForWriting 39 = .ok (.invokevirtual 254, 3) := by decide +kernel
theorem dX11_isOpenForWriting_42 : decode cX11_isOpenForWriting 42 = .ok (.aload_n 1, 1) := by decide +kernel
theorem dX11_isOpenForWriting_43 : decode cX11_isOpenForWriting 43 = .ok (.getfield 173, 3) := by decide +kernel
theorem dX11_isOpenForWriting_46 : decode cX11_isOpenForWriting 46 = .ok (.getfield 481, 3) := by decide +kernel
theorem dX11_isOpenForWriting_49 : decode cX11_isOpenForWriting 49 = .ok (.if_icmp .ge 7, 3) := by decide +kernel
theorem dX11_isOpenForWriting_52 : decode cX11_isOpenForWriting 52 = .ok (.iconst 1, 1) := by decide +kernel
theorem dX11_isOpenForWriting_53 : decode cX11_isOpenForWriting 53 = .ok (.goto 4, 3) := by decide +kernel
theorem dX11_isOpenForWriting_56 : decode cX11_isOpenForWriting 56 = .ok (.iconst 0, 1) := by decide +kernel
theorem dX11_isOpenForWriting_57 : decode cX11_isOpenForWriting 57 = .ok (.ireturn, 1) := by decide +kernel
theorem dX11_put_0 : decode cX11_put 0 = .ok (.aload_n 1, 1) := by decide +kernel
theorem dX11_put_1 : decode cX11_put 1 = .ok (.iload_n 2, 1) := by decide +kernel
theorem dX11_put_2 : decode cX11_put 2 = .ok (.iload_n 3, 1) := by decide +kernel
theorem dX11_put_3 : decode cX11_put 3 = .ok (.aload_n 0, 1) := by decide +kernel
theorem dX11_put_4 : decode cX11_put 4 = .ok (.getfield 37, 3) := by decide +kernel
theorem dX11_put_7 : decode cX11_put 7 = .ok (.invokevirtual 476, 3) := by decide +kernel
theorem dX11_put_10 : decode cX11_put 10 = .ok (.invokevirtual 484, 3) := by decide +kernel
theorem dX11_put_13 : decode cX11_put 13 = .ok (.istore 4, 2) := by decide +kernel
theorem dX11_put_15 : decode cX11_put 15 = .ok (.aload_n 0, 1) := by decide +kernel
theorem dX11_put_16 : decode cX11_put 16 = .ok (.getfield 30, 3) := by decide +kernel
theorem dX11_put_19 : decode cX11_put 19 = .ok (.bipush 8, 2) := by decide +kernel
theorem dX11_put_21 : decode cX11_put 21 = .ok (.aload_n 1, 1) := by decide +kernel
theorem dX11_put_22 : decode cX11_put 22 = .ok (.getfield 487, 3) := by decide +kernel
theorem dX11_put_25 : decode cX11_put 25 = .ok (.imul, 1) := by decide +kernel
theorem dX11_put_26 : decode cX11_put 26 = .ok (.iload_n 2, 1) := by decide +kernel
theorem dX11_put_27 : decode cX11_put 27 = .ok (.iadd, 1) := by decide +kernel
theorem dX11_put_28 : decode cX11_put 28 = .ok (.iload 4, 2) := by decide +kernel
theorem dX11_put_30 : decode cX11_put 30 = .ok (.invokestatic 115, 3) := by decide +kernel
theorem dX11_put_33 : decode cX11_put 33 = .ok (.invokevirtual 121, 3) := by decide +kernel
theorem dX11_put_36 : decode cX11_put 36 = .ok (.aload_n 1, 1) := by decide +kernel
theorem dX11_put_37 : decode cX11_put 37 = .ok (.getfield 488, 3) := by decide +kernel
theorem dX11_put_40 : decode cX11_put 40 = .ok (.ireturn, 1) := by decide +kernel
theorem dX11_isHeadInLog_0 : decode cX11_isHeadInLog 0 = .ok (.aload_n 1, 1) := by decide +kernel
theorem dX11_isHeadInLog_1 : decode cX11_isHeadInLog 1 = .ok (.getfield 341, 3) := by decide +kernel
theorem dX11_isHeadInLog_4 : decode cX11_isHeadInLog 4 = .ok (.aload_n 0, 1) := by decide +kernel
theorem dX11_isHeadInLog_5 : decode cX11_isHeadInLog 5 = .ok (.getfield 30, 3) := by decide +kernel
theorem dX11_isHeadInLog_8 : decode cX11_isHeadInLog 8 = .ok (.invokevirtual 309, 3) := by decide +kernel
theorem dX11_isHeadInLog_11 : decode cX11_isHeadInLog 11 = .ok (.if_icmp .gt 25, 3) := by decide +kernel
theorem dX11_isHeadInLog_14 : decode cX11_isHeadInLog 14 = .ok (.aload_n 0, 1) := by decide +kernel
theorem dX11_isHeadInLog_15 : decode cX11_isHeadInLog 15 = .ok (.getfield 30, 3) := by decide +kernel
theorem dX11_isHeadInLog_18 : decode cX11_isHeadInLog 18 = .ok (.aload_n 1, 1) := by decide +kernel
theorem dX11_isHeadInLog_19 : decode cX11_isHeadInLog 19 = .ok (.getfield 341, 3) := by decide +kernel
theorem dX11_isHeadInLog_22 : decode cX11_isHeadInLog 22 = .ok (.invokevirtual 320, 3) := by decide +kernel
theorem dX11_isHeadInLog_25 : decode cX11_isHeadInLog 25 = .ok (.aload_n 1, 1) := by decide +kernel
theorem dX11_isHeadInLog_26 : decode cX11_isHeadInLog 26 = .ok (.getfield 351, 3) := by decide +kernel
theorem dX11_isHeadInLog_29 : decode cX11_isHeadInLog 29 = .ok (.if_icmp .ne 7, 3) := by decide +kernel
theorem dX11_isHeadInLog_32 : decode cX11_isHeadInLog 32 = .ok (.iconst 1, 1) := by decide +kernel
theorem dX11_isHeadInLog_33 : decode cX11_isHeadInLog 33 = .ok (.goto 4, 3) := by decide +kernel
theorem dX11_isHeadInLog_36 : decode cX11_isHeadInLog 36 = .ok (.iconst 0, 1) := by decide +kernel
theorem dX11_isHeadInLog_37 : decode cX11_isHeadInLog 37 = .ok (.ireturn, 1) := by decide +kernel
theorem dX11_proofNumber_0 : decode cX11_proofNumber 0 = .ok (.iload_n 2, 1) := by decide +kernel
theorem dX11_proofNumber_1 : decode cX11_proofNumber 1 = .ok (.ifCond .lt 8, 3) := by decide +kernel
theorem dX11_proofNumber_4 : decode cX11_proofNumber 4 = .ok (.iload_n 2, 1) := by decide +kernel
theorem dX11_proofNumber_5 : decode cX11_proofNumber 5 = .ok (.iload_n 1, 1) := by decide +kernel
theorem dX11_proofNumber_6 : decode cX11_proofNumber 6 = .ok (.if_icmp .lt 14, 3) := by decide +kernel
theorem dX11_proofNumber_9 : decode cX11_proofNumber 9 = .ok (.new 290, 3) := by decide +kernel
theorem dX11_proofNumber_12 : decode cX11_proofNumber 12 = .ok (.dup, 1) := by decide +kernel
theorem dX11_proofNumber_13 : decode cX11_proofNumber 13 = .ok (.ldc_w 489, 3) := by decide +kernel
theorem dX11_proofNumber_16 : decode cX11_proofNumber 16 = .ok (.invokespecial 294, 3) := by decide +kernel
theorem dX11_proofNumber_19 : decode cX11_proofNumber 19 = .ok (.athrow, 1) := by decide +kernel
theorem dX11_proofNumber_20 : decode cX11_proofNumber 20 = .ok (.aload_n 0, 1) := by decide +kernel
theorem dX11_proofNumber_21 : decode cX11_proofNumber 21 = .ok (.getfield 30, 3) := by decide +kernel
theorem dX11_proofNumber_24 : decode cX11_proofNumber 24 = .ok (.iload_n 2, 1) := by decide +kernel
theorem dX11_proofNumber_25 : decode cX11_proofNumber 25 = .ok (.invokevirtual 491, 3) := by decide +kernel
theorem dX11_proofNumber_28 : decode cX11_proofNumber 28 = .ok (.ireturn, 1) := by decide +kernel
theorem dX11_usersAway_0 : decode cX11_usersAway 0 = .ok (.iconst 0, 1) := by decide +kernel
theorem dX11_usersAway_1 : decode cX11_usersAway 1 = .ok (.istore_n 1, 1) := by decide +kernel
theorem dX11_usersAway_2 : decode cX11_usersAway 2 = .ok (.iconst 0, 1) := by decide +kernel
theorem dX11_usersAway_3 : decode cX11_usersAway 3 = .ok (.istore_n 2, 1) := by decide +kernel
theorem dX11_usersAway_4 : decode cX11_usersAway 4 = .ok (.iload_n 2, 1) := by decide +kernel
theorem dX11_usersAway_5 : decode cX11_usersAway 5 = .ok (.aload_n 0, 1) := by decide +kernel
theorem dX11_usersAway_6 : decode cX11_usersAway 6 = .ok (.getfield 66, 3) := by decide +kernel
theorem dX11_usersAway_9 : decode cX11_usersAway 9 = .ok (.if_icmp .ge 39, 3) := by decide +kernel
theorem dX11_usersAway_12 : decode cX11_usersAway 12 = .ok (.iload_n 2, 1) := by decide +kernel
theorem dX11_usersAway_13 : decode cX11_usersAway 13 = .ok (.aload_n 0, 1) := by decide +kernel
theorem dX11_usersAway_14 : decode cX11_usersAway 14 = .ok (.getfield 11, 3) := by decide +kernel
theorem dX11_usersAway_17 : decode cX11_usersAway 17 = .ok (.arraylength, 1) := by decide +kernel
theorem dX11_usersAway_18 : decode cX11_usersAway 18 = .ok (.if_icmp .ge 30, 3) := by decide +kernel
theorem dX11_usersAway_21 : decode cX11_usersAway 21 = .ok (.aload_n 0, 1) := by decide +kernel
theorem dX11_usersAway_22 : decode cX11_usersAway 22 = .ok (.getfield 11, 3) := by decide +kernel
theorem dX11_usersAway_25 : decode cX11_usersAway 25 = .ok (.iload_n 2, 1) := by decide +kernel
theorem dX11_usersAway_26 : decode cX11_usersAway 26 = .ok (.aaload, 1) := by decide +kernel
theorem dX11_usersAway_27 : decode cX11_usersAway 27 = .ok (.astore_n 3, 1) := by decide +kernel
theorem dX11_usersAway_28 : decode cX11_usersAway 28 = .ok (.aload_n 3, 1) := by decide +kernel
theorem dX11_usersAway_29 : decode cX11_usersAway 29 = .ok (.ifnull 13, 3) := by decide +kernel
theorem dX11_usersAway_32 : decode cX11_usersAway 32 = .ok (.aload_n 3, 1) := by decide +kernel
theorem dX11_usersAway_33 : decode cX11_usersAway 33 = .ok (.getfield 177, 3) := by decide +kernel
theorem dX11_usersAway_36 : decode cX11_usersAway 36 = .ok (.ifCond .eq 6, 3) := by decide +kernel
theorem dX11_usersAway_39 : decode cX11_usersAway 39 = .ok (.iinc 1 1, 3) := by decide +kernel
theorem dX11_usersAway_42 : decode cX11_usersAway 42 = .ok (.iinc 2 1, 3) := by decide +kernel
theorem dX11_usersAway_45 : decode cX11_usersAway 45 = .ok (.goto (-41), 3) := by decide +kernel
theorem dX11_usersAway_48 : decode cX11_usersAway 48 = .ok (.iload_n 1, 1) := by decide +kernel
theorem dX11_usersAway_49 : decode cX11_usersAway 49 = .ok (.ireturn, 1) := by decide +kernel
theorem dX11_becomesWrite_0 : decode cX11_becomesWrite 0 = .ok (.aload_n 1, 1) := by decide +kernel
theorem dX11_becomesWrite_1 : decode cX11_becomesWrite 1 = .ok (.getfield 391, 3) := by decide +kernel
theorem dX11_becomesWrite_4 : decode cX11_becomesWrite 4 = .ok (.iload_n 2, 1) := by decide +kernel
theorem dX11_becomesWrite_5 : decode cX11_becomesWrite 5 = .ok (.invokevirtual 414, 3) := by decide +kernel
theorem dX11_becomesWrite_8 : decode cX11_becomesWrite 8 = .ok (.istore_n 3, 1) := by decide +kernel
theorem dX11_becomesWrite_9 : decode cX11_becomesWrite 9 = .ok (.iload_n 3, 1) := by decide +kernel
theorem dX11_becomesWrite_10 : decode cX11_becomesWrite 10 = .ok (.bipush 8, 2) := by decide +kernel
theorem dX11_becomesWrite_12 : decode cX11_becomesWrite 12 = .ok (.irem, 1) := by decide +kernel
theorem dX11_becomesWrite_13 : decode cX11_becomesWrite 13 = .ok (.istore 4, 2) := by decide +kernel
theorem dX11_becomesWrite_15 : decode cX11_becomesWrite 15 = .ok (.aload_n 0, 1) := by decide +kernel
theorem dX11_becomesWrite_16 : decode cX11_becomesWrite 16 = .ok (.iload_n 3, 1) := by decide +kernel
theorem dX11_becomesWrite_17 : decode cX11_becomesWrite 17 = .ok (.bipush 8, 2) := by decide +kernel
theorem dX11_becomesWrite_19 : decode cX11_becomesWrite 19 = .ok (.idiv, 1) := by decide +kernel
theorem dX11_becomesWrite_20 : decode cX11_becomesWrite 20 = .ok (.invokevirtual 166, 3) := by decide +kernel
theorem dX11_becomesWrite_23 : decode cX11_becomesWrite 23 = .ok (.astore 5, 2) := by decide +kernel
theorem dX11_becomesWrite_25 : decode cX11_becomesWrite 25 = .ok (.aload 5, 2) := by decide +kernel
theorem dX11_becomesWrite_27 : decode cX11_becomesWrite 27 = .ok (.getfield 173, 3) := by decide +kernel
theorem dX11_becomesWrite_30 : decode cX11_becomesWrite 30 = .ok (.aload_n 1, 1) := by decide +kernel
theorem dX11_becomesWrite_31 : decode cX11_becomesWrite 31 = .ok (.getfield 494, 3) := by decide +kernel
theorem dX11_becomesWrite_34 : decode cX11_becomesWrite 34 = .ok (.invokevirtual 106, 3) := by decide +kernel
theorem dX11_becomesWrite_37 : decode cX11_becomesWrite 37 = .ok (.ifCond .eq 32, 3) := by decide +kernel
theorem dX11_becomesWrite_40 : decode cX11_becomesWrite 40 = .ok (.aload_n 0, 1) := by decide +kernel
theorem dX11_becomesWrite_41 : decode cX11_becomesWrite 41 = .ok (.aload 5, 2) := by decide +kernel
theorem dX11_becomesWrite_43 : decode cX11_becomesWrite 43 = .ok (.iload 4, 2) := by decide +kernel
theorem dX11_becomesWrite_45 : decode cX11_becomesWrite 45 = .ok (.invokevirtual 181, 3) := by decide +kernel
theorem dX11_becomesWrite_48 : decode cX11_becomesWrite 48 = .ok (.ifCond .eq 21, 3) := by decide +kernel
theorem dX11_becomesWrite_51 : decode cX11_becomesWrite 51 = .ok (.aload 5, 2) := by decide +kernel
theorem dX11_becomesWrite_53 : decode cX11_becomesWrite 53 = .ok (.iload 4, 2) := by decide +kernel
theorem dX11_becomesWrite_55 : decode cX11_becomesWrite 55 = .ok (.invokevirtual 235, 3) := by decide +kernel
theorem dX11_becomesWrite_58 : decode cX11_becomesWrite 58 = .ok (.aload_n 1, 1) := by decide +kernel
theorem dX11_becomesWrite_59 : decode cX11_becomesWrite 59 = .ok (.getfield 391, 3) := by decide +kernel
theorem dX11_becomesWrite_62 : decode cX11_becomesWrite 62 = .ok (.iload_n 2, 1) := by decide +kernel
theorem dX11_becomesWrite_63 : decode cX11_becomesWrite 63 = .ok (.invokevirtual 495, 3) := by decide +kernel
theorem dX11_becomesWrite_66 : decode cX11_becomesWrite 66 = .ok (.if_icmp .eq 5, 3) := by decide +kernel
theorem dX11_becomesWrite_69 : decode cX11_becomesWrite 69 = .ok (.iconst 0, 1) := by decide +kernel
theorem dX11_becomesWrite_70 : decode cX11_becomesWrite 70 = .ok (.ireturn, 1) := by decide +kernel
theorem dX11_becomesWrite_71 : decode cX11_becomesWrite 71 = .ok (.aload_n 0, 1) := by decide +kernel
theorem dX11_becomesWrite_72 : decode cX11_becomesWrite 72 = .ok (.aload 5, 2) := by decide +kernel
theorem dX11_becomesWrite_74 : decode cX11_becomesWrite 74 = .ok (.iload 4, 2) := by decide +kernel
theorem dX11_becomesWrite_76 : decode cX11_becomesWrite 76 = .ok (.aload_n 1, 1) := by decide +kernel
theorem dX11_becomesWrite_77 : decode cX11_becomesWrite 77 = .ok (.getfield 391, 3) := by decide +kernel
theorem dX11_becomesWrite_80 : decode cX11_becomesWrite 80 = .ok (.iload_n 2, 1) := by decide +kernel
theorem dX11_becomesWrite_81 : decode cX11_becomesWrite 81 = .ok (.invokevirtual 498, 3) := by decide +kernel
theorem dX11_becomesWrite_84 : decode cX11_becomesWrite 84 = .ok (.invokevirtual 187, 3) := by decide +kernel
theorem dX11_becomesWrite_87 : decode cX11_becomesWrite 87 = .ok (.pop, 1) := by decide +kernel
theorem dX11_becomesWrite_88 : decode cX11_becomesWrite 88 = .ok (.iconst 1, 1) := by decide +kernel
theorem dX11_becomesWrite_89 : decode cX11_becomesWrite 89 = .ok (.ireturn, 1) := by decide +kernel
theorem dX11_noteConflict_0 : decode cX11_noteConflict 0 = .ok (.aload_n 0, 1) := by decide +kernel
theorem dX11_noteConflict_1 : decode cX11_noteConflict 1 = .ok (.getfield 407, 3) := by decide +kernel
theorem dX11_noteConflict_4 : decode cX11_noteConflict 4 = .ok (.ifCond .lt 35, 3) := by decide +kernel
theorem dX11_noteConflict_7 : decode cX11_noteConflict 7 = .ok (.aload_n 0, 1) := by decide +kernel
theorem dX11_noteConflict_8 : decode cX11_noteConflict 8 = .ok (.getfield 407, 3) := by decide +kernel
theorem dX11_noteConflict_11 : decode cX11_noteConflict 11 = .ok (.aload_n 0, 1) := by decide +kernel
theorem dX11_noteConflict_12 : decode cX11_noteConflict 12 = .ok (.getfield 55, 3) := by decide +kernel
theorem dX11_noteConflict_15 : decode cX11_noteConflict 15 = .ok (.arraylength, 1) := by decide +kernel
theorem dX11_noteConflict_16 : decode cX11_noteConflict 16 = .ok (.if_icmp .ge 23, 3) := by decide +kernel
theorem dX11_noteConflict_19 : decode cX11_noteConflict 19 = .ok (.aload_n 0, 1) := by decide +kernel
theorem dX11_noteConflict_20 : decode cX11_noteConflict 20 = .ok (.getfield 55, 3) := by decide +kernel
theorem dX11_noteConflict_23 : decode cX11_noteConflict 23 = .ok (.aload_n 0, 1) := by decide +kernel
theorem dX11_noteConflict_24 : decode cX11_noteConflict 24 = .ok (.getfield 407, 3) := by decide +kernel
theorem dX11_noteConflict_27 : decode cX11_noteConflict 27 = .ok (.iload_n 1, 1) := by decide +kernel
theorem dX11_noteConflict_28 : decode cX11_noteConflict 28 = .ok (.iastore, 1) := by decide +kernel
theorem dX11_noteConflict_29 : decode cX11_noteConflict 29 = .ok (.aload_n 0, 1) := by decide +kernel
theorem dX11_noteConflict_30 : decode cX11_noteConflict 30 = .ok (.dup, 1) := by decide +kernel
theorem dX11_noteConflict_31 : decode cX11_noteConflict 31 = .ok (.getfield 407, 3) := by decide +kernel
theorem dX11_noteConflict_34 : decode cX11_noteConflict 34 = .ok (.iconst 1, 1) := by decide +kernel
theorem dX11_noteConflict_35 : decode cX11_noteConflict 35 = .ok (.iadd, 1) := by decide +kernel
theorem dX11_noteConflict_36 : decode cX11_noteConflict 36 = .ok (.putfield 407, 3) := by decide +kernel
theorem dX11_noteConflict_39 : decode cX11_noteConflict 39 = .ok (.return_, 1) := by decide +kernel
theorem dX11_usedShare_0 : decode cX11_usedShare 0 = .ok (.aload_n 1, 1) := by decide +kernel
theorem dX11_usedShare_1 : decode cX11_usedShare 1 = .ok (.getfield 481, 3) := by decide +kernel
theorem dX11_usedShare_4 : decode cX11_usedShare 4 = .ok (.ifCond .le 18, 3) := by decide +kernel
theorem dX11_usedShare_7 : decode cX11_usedShare 7 = .ok (.aload_n 0, 1) := by decide +kernel
theorem dX11_usedShare_8 : decode cX11_usedShare 8 = .ok (.aload_n 1, 1) := by decide +kernel
theorem dX11_usedShare_9 : decode cX11_usedShare 9 = .ok (.invokevirtual 254, 3) := by decide +kernel
theorem dX11_usedShare_12 : decode cX11_usedShare 12 = .ok (.i2f, 1) := by decide +kernel
theorem dX11_usedShare_13 : decode cX11_usedShare 13 = .ok (.aload_n 1, 1) := by decide +kernel
theorem dX11_usedShare_14 : decode cX11_usedShare 14 = .ok (.getfield 481, 3) := by decide +kernel
theorem dX11_usedShare_17 : decode cX11_usedShare 17 = .ok (.i2f, 1) := by decide +kernel
theorem dX11_usedShare_18 : decode cX11_usedShare 18 = .ok (.fdiv, 1) := by decide +kernel
theorem dX11_usedShare_19 : decode cX11_usedShare 19 = .ok (.goto 4, 3) := by decide +kernel
theorem dX11_usedShare_22 : decode cX11_usedShare 22 = .ok (.fconst 0, 1) := by decide +kernel
theorem dX11_usedShare_23 : decode cX11_usedShare 23 = .ok (.freturn, 1) := by decide +kernel
theorem dX11_isFileSound_0 : decode cX11_isFileSound 0 = .ok (.aload_n 1, 1) := by decide +kernel
theorem dX11_isFileSound_1 : decode cX11_isFileSound 1 = .ok (.getfield 195, 3) := by decide +kernel
theorem dX11_isFileSound_4 : decode cX11_isFileSound 4 = .ok (.ifCond .ne 14, 3) := by decide +kernel
theorem dX11_isFileSound_7 : decode cX11_isFileSound 7 = .ok (.aload_n 1, 1) := by decide +kernel
theorem dX11_isFileSound_8 : decode cX11_isFileSound 8 = .ok (.invokevirtual 198, 3) := by decide +kernel
theorem dX11_isFileSound_11 : decode cX11_isFileSound 11 = .ok (.ifCond .ne 7, 3) := by decide +kernel
theorem dX11_isFileSound_14 : decode cX11_isFileSound 14 = .ok (.iconst 1, 1) := by decide +kernel
theorem dX11_isFileSound_15 : decode cX11_isFileSound 15 = .ok (.goto 4, 3) := by decide +kernel
theorem dX11_isFileSound_18 : decode cX11_isFileSound 18 = .ok (.iconst 0, 1) := by decide +kernel
theorem dX11_isFileSound_19 : decode cX11_isFileSound 19 = .ok (.istore_n 2, 1) := by decide +kernel
theorem dX11_isFileSound_20 : decode cX11_isFileSound 20 = .ok (.iconst 0, 1) := by decide +kernel
theorem dX11_isFileSound_21 : decode cX11_isFileSound 21 = .ok (.istore_n 3, 1) := by decide +kernel
theorem dX11_isFileSound_22 : decode cX11_isFileSound 22 = .ok (.iload_n 3, 1) := by decide +kernel
theorem dX11_isFileSound_23 : decode cX11_isFileSound 23 = .ok (.bipush 8, 2) := by decide +kernel
theorem dX11_isFileSound_25 : decode cX11_isFileSound 25 = .ok (.if_icmp .ge 52, 3) := by decide +kernel
theorem dX11_isFileSound_28 : decode cX11_isFileSound 28 = .ok (.aload_n 1, 1) := by decide +kernel
theorem dX11_isFileSound_29 : decode cX11_isFileSound 29 = .ok (.iload_n 3, 1) := by decide +kernel
theorem dX11_isFileSound_30 : decode cX11_isFileSound 30 = .ok (.invokevirtual 458, 3) := by decide +kernel
theorem dX11_isFileSound_33 : decode cX11_isFileSound 33 = .ok (.astore 4, 2) := by decide +kernel
theorem dX11_isFileSound_35 : decode cX11_isFileSound 35 = .ok (.aload 4, 2) := by decide +kernel
theorem dX11_isFileSound_37 : decode cX11_isFileSound 37 = .ok (.ifnull 34, 3) := by decide +kernel
theorem dX11_isFileSound_40 : decode cX11_isFileSound 40 = .ok (.iload_n 2, 1) := by decide +kernel
theorem dX11_isFileSound_41 : decode cX11_isFileSound 41 = .ok (.ifCond .eq 18, 3) := by decide +kernel
theorem dX11_isFileSound_44 : decode cX11_isFileSound 44 = .ok (.aload 4, 2) := by decide +kernel
theorem dX11_isFileSound_46 : decode cX11_isFileSound 46 = .ok (.invokevirtual 213, 3) := by decide +kernel
theorem dX11_isFileSound_49 : decode cX11_isFileSound 49 = .ok (.aload 4, 2) := by decide +kernel
theorem dX11_isFileSound_51 : decode cX11_isFileSound 51 = .ok (.getfield 501, 3) := by decide +kernel
theorem dX11_isFileSound_54 : decode cX11_isFileSound 54 = .ok (.if_icmp .eq 5, 3) := by decide +kernel
theorem dX11_isFileSound_57 : decode cX11_isFileSound 57 = .ok (.iconst 0, 1) := by decide +kernel
theorem dX11_isFileSound_58 : decode cX11_isFileSound 58 = .ok (.ireturn, 1) := by decide +kernel
theorem dX11_isFileSound_59 : decode cX11_isFileSound 59 = .ok (.aload_n 0, 1) := by decide +kernel
theorem dX11_isFileSound_60 : decode cX11_isFileSound 60 = .ok (.aload_n 1, 1) := by decide +kernel
theorem dX11_isFileSound_61 : decode cX11_isFileSound 61 = .ok (.aload 4, 2) := by decide +kernel
theorem dX11_isFileSound_63 : decode cX11_isFileSound 63 = .ok (.invokevirtual 504, 3) := by decide +kernel
theorem dX11_isFileSound_66 : decode cX11_isFileSound 66 = .ok (.ifCond .ne 5, 3) := by decide +kernel
theorem dX11_isFileSound_69 : decode cX11_isFileSound 69 = .ok (.iconst 0, 1) := by decide +kernel
theorem dX11_isFileSound_70 : decode cX11_isFileSound 70 = .ok (.ireturn, 1) := by decide +kernel
theorem dX11_isFileSound_71 : decode cX11_isFileSound 71 = .ok (.iinc 3 1, 3) := by decide +kernel
theorem dX11_isFileSound_74 : decode cX11_isFileSound 74 = .ok (.goto (-52), 3) := by decide +kernel
theorem dX11_isFileSound_77 : decode cX11_isFileSound 77 = .ok (.iconst 1, 1) := by decide +kernel
theorem dX11_isFileSound_78 : decode cX11_isFileSound 78 = .ok (.ireturn, 1) := by decide +kernel
theorem dX11_doBothWaysAgree_0 : decode cX11_doBothWaysAgree 0 = .ok (.iconst 0, 1) := by decide +kernel
theorem dX11_doBothWaysAgree_1 : decode cX11_doBothWaysAgree 1 = .ok (.istore_n 3, 1) := by decide +kernel
theorem dX11_doBothWaysAgree_2 : decode cX11_doBothWaysAgree 2 = .ok (.iload_n 3, 1) := by decide +kernel
theorem dX11_doBothWaysAgree_3 : decode cX11_doBothWaysAgree 3 = .ok (.aload_n 0, 1) := by decide +kernel
theorem dX11_doBothWaysAgree_4 : decode cX11_doBothWaysAgree 4 = .ok (.getfield 66, 3) := by decide +kernel
theorem dX11_doBothWaysAgree_7 : decode cX11_doBothWaysAgree 7 = .ok (.if_icmp .ge 44, 3) := by decide +kernel
theorem dX11_doBothWaysAgree_10 : decode cX11_doBothWaysAgree 10 = .ok (.aload_n 0, 1) := by decide +kernel
theorem dX11_doBothWaysAgree_11 : decode cX11_doBothWaysAgree 11 = .ok (.getfield 37, 3) := by decide +kernel
theorem dX11_doBothWaysAgree_14 : decode cX11_doBothWaysAgree 14 = .ok (.aload_n 1, 1) := by decide +kernel
theorem dX11_doBothWaysAgree_15 : decode cX11_doBothWaysAgree 15 = .ok (.getfield 173, 3) := by decide +kernel
theorem dX11_doBothWaysAgree_18 : decode cX11_doBothWaysAgree 18 = .ok (.getfield 96, 3) := by decide +kernel
theorem dX11_doBothWaysAgree_21 : decode cX11_doBothWaysAgree 21 = .ok (.iload_n 3, 1) := by decide +kernel
theorem dX11_doBothWaysAgree_22 : decode cX11_doBothWaysAgree 22 = .ok (.aload_n 2, 1) := by decide +kernel
theorem dX11_doBothWaysAgree_23 : decode cX11_doBothWaysAgree 23 = .ok (.getfield 222, 3) := by decide +kernel
theorem dX11_doBothWaysAgree_26 : decode cX11_doBothWaysAgree 26 = .ok (.invokevirtual 225, 3) := by decide +kernel
theorem dX11_doBothWaysAgree_29 : decode cX11_doBothWaysAgree 29 = .ok (.istore 4, 2) := by decide +kernel
theorem dX11_doBothWaysAgree_31 : decode cX11_doBothWaysAgree 31 = .ok (.aload_n 0, 1) := by decide +kernel
theorem dX11_doBothWaysAgree_32 : decode cX11_doBothWaysAgree 32 = .ok (.iload_n 3, 1) := by decide +kernel
theorem dX11_doBothWaysAgree_33 : decode cX11_doBothWaysAgree 33 = .ok (.aload_n 1, 1) := by decide +kernel
theorem dX11_doBothWaysAgree_34 : decode cX11_doBothWaysAgree 34 = .ok (.aload_n 2, 1) := by decide +kernel
theorem dX11_doBothWaysAgree_35 : decode cX11_doBothWaysAgree 35 = .ok (.invokevirtual 204, 3) := by decide +kernel
theorem dX11_doBothWaysAgree_38 : decode cX11_doBothWaysAgree 38 = .ok (.iload 4, 2) := by decide +kernel
theorem dX11_doBothWaysAgree_40 : decode cX11_doBothWaysAgree 40 = .ok (.if_icmp .eq 5, 3) := by decide +kernel
theorem dX11_doBothWaysAgree_43 : decode cX11_doBothWaysAgree 43 = .ok (.iconst 0, 1) := by decide +kernel
theorem dX11_doBothWaysAgree_44 : decode cX11_doBothWaysAgree 44 = .ok (.ireturn, 1) := by decide +kernel
theorem dX11_doBothWaysAgree_45 : decode cX11_doBothWaysAgree 45 = .ok (.iinc 3 1, 3) := by decide +kernel
theorem dX11_doBothWaysAgree_48 : decode cX11_doBothWaysAgree 48 = .ok (.goto (-46), 3) := by decide +kernel
theorem dX11_doBothWaysAgree_51 : decode cX11_doBothWaysAgree 51 = .ok (.iconst 1, 1) := by decide +kernel
theorem dX11_doBothWaysAgree_52 : decode cX11_doBothWaysAgree 52 = .ok (.ireturn, 1) := by decide +kernel
theorem dX11_bitsOfFloat_0 : decode cX11_bitsOfFloat 0 = .ok (.fload_n 0, 1) := by decide +kernel
theorem dX11_bitsOfFloat_1 : decode cX11_bitsOfFloat 1 = .ok (.fconst 0, 1) := by decide +kernel
theorem dX11_bitsOfFloat_2 : decode cX11_bitsOfFloat 2 = .ok (.fcmp .l, 1) := by decide +kernel
theorem dX11_bitsOfFloat_3 : decode cX11_bitsOfFloat 3 = .ok (.ifCond .gt 5, 3) := by decide +kernel
theorem dX11_bitsOfFloat_6 : decode cX11_bitsOfFloat 6 = .ok (.iconst 0, 1) := by decide +kernel
theorem dX11_bitsOfFloat_7 : decode cX11_bitsOfFloat 7 = .ok (.ireturn, 1) := by decide +kernel
theorem dX11_bitsOfFloat_8 : decode cX11_bitsOfFloat 8 = .ok (.fload_n 0, 1) := by decide +kernel
theorem dX11_bitsOfFloat_9 : decode cX11_bitsOfFloat 9 = .ok (.fstore_n 1, 1) := by decide +kernel
theorem dX11_bitsOfFloat_10 : decode cX11_bitsOfFloat 10 = .ok (.bipush 127, 2) := by decide +kernel
theorem dX11_bitsOfFloat_12 : decode cX11_bitsOfFloat 12 = .ok (.istore_n 2, 1) := by decide +kernel
theorem dX11_bitsOfFloat_13 : decode cX11_bitsOfFloat 13 = .ok (.iconst 0, 1) := by decide +kernel
theorem dX11_bitsOfFloat_14 : decode cX11_bitsOfFloat 14 = .ok (.istore_n 3, 1) := by decide +kernel
theorem dX11_bitsOfFloat_15 : decode cX11_bitsOfFloat 15 = .ok (.iload_n 3, 1) := by decide +kernel
theorem dX11_bitsOfFloat_16 : decode cX11_bitsOfFloat 16 = .ok (.bipush 127, 2) := by decide +kernel
theorem dX11_bitsOfFloat_18 : decode cX11_bitsOfFloat 18 = .ok (.if_icmp .ge 22, 3) := by decide +kernel
theorem dX11_bitsOfFloat_21 : decode cX11_bitsOfFloat 21 = .ok (.fload_n 1, 1) := by decide +kernel
theorem dX11_bitsOfFloat_22 : decode cX11_bitsOfFloat 22 = .ok (.fconst 2, 1) := by decide +kernel
theorem dX11_bitsOfFloat_23 : decode cX11_bitsOfFloat 23 = .ok (.fcmp .l, 1) := by decide +kernel
theorem dX11_bitsOfFloat_24 : decode cX11_bitsOfFloat 24 = .ok (.ifCond .lt 16, 3) := by decide +kernel
theorem dX11_bitsOfFloat_27 : decode cX11_bitsOfFloat 27 = .ok (.fload_n 1, 1) := by decide +kernel
theorem dX11_bitsOfFloat_28 : decode cX11_bitsOfFloat 28 = .ok (.fconst 2, 1) := by decide +kernel
theorem dX11_bitsOfFloat_29 : decode cX11_bitsOfFloat 29 = .ok (.fdiv, 1) := by decide +kernel
theorem dX11_bitsOfFloat_30 : decode cX11_bitsOfFloat 30 = .ok (.fstore_n 1, 1) := by decide +kernel
theorem dX11_bitsOfFloat_31 : decode cX11_bitsOfFloat 31 = .ok (.iinc 2 1, 3) := by decide +kernel
theorem dX11_bitsOfFloat_34 : decode cX11_bitsOfFloat 34 = .ok (.iinc 3 1, 3) := by decide +kernel
theorem dX11_bitsOfFloat_37 : decode cX11_bitsOfFloat 37 = .ok (.goto (-22), 3) := by decide +kernel
theorem dX11_bitsOfFloat_40 : decode cX11_bitsOfFloat 40 = .ok (.iconst 0, 1) := by decide +kernel
theorem dX11_bitsOfFloat_41 : decode cX11_bitsOfFloat 41 = .ok (.istore_n 3, 1) := by decide +kernel
theorem dX11_bitsOfFloat_42 : decode cX11_bitsOfFloat 42 = .ok (.iload_n 3, 1) := by decide +kernel
theorem dX11_bitsOfFloat_43 : decode cX11_bitsOfFloat 43 = .ok (.bipush 126, 2) := by decide +kernel
theorem dX11_bitsOfFloat_45 : decode cX11_bitsOfFloat 45 = .ok (.if_icmp .ge 22, 3) := by decide +kernel
theorem dX11_bitsOfFloat_48 : decode cX11_bitsOfFloat 48 = .ok (.fload_n 1, 1) := by decide +kernel
theorem dX11_bitsOfFloat_49 : decode cX11_bitsOfFloat 49 = .ok (.fconst 1, 1) := by decide +kernel
theorem dX11_bitsOfFloat_50 : decode cX11_bitsOfFloat 50 = .ok (.fcmp .g, 1) := by decide +kernel
theorem dX11_bitsOfFloat_51 : decode cX11_bitsOfFloat 51 = .ok (.ifCond .ge 16, 3) := by decide +kernel
theorem dX11_bitsOfFloat_54 : decode cX11_bitsOfFloat 54 = .ok (.fload_n 1, 1) := by decide +kernel
theorem dX11_bitsOfFloat_55 : decode cX11_bitsOfFloat 55 = .ok (.fconst 2, 1) := by decide +kernel
theorem dX11_bitsOfFloat_56 : decode cX11_bitsOfFloat 56 = .ok (.fmul, 1) := by decide +kernel
theorem dX11_bitsOfFloat_57 : decode cX11_bitsOfFloat 57 = .ok (.fstore_n 1, 1) := by decide +kernel
theorem dX11_bitsOfFloat_58 : decode cX11_bitsOfFloat 58 = .ok (.iinc 2 (-1), 3) := by decide +kernel
theorem dX11_bitsOfFloat_61 : decode cX11_bitsOfFloat 61 = .ok (.iinc 3 1, 3) := by decide +kernel
theorem dX11_bitsOfFloat_64 : decode cX11_bitsOfFloat 64 = .ok (.goto (-22), 3) := by decide +kernel
theorem dX11_bitsOfFloat_67 : decode cX11_bitsOfFloat 67 = .ok (.fload_n 1, 1) := by decide +kernel
theorem dX11_bitsOfFloat_68 : decode cX11_bitsOfFloat 68 = .ok (.fconst 1, 1) := by decide +kernel
theorem dX11_bitsOfFloat_69 : decode cX11_bitsOfFloat 69 = .ok (.fsub, 1) := by decide +kernel
theorem dX11_bitsOfFloat_70 : decode cX11_bitsOfFloat 70 = .ok (.ldc_w 508, 3) := by decide +kernel
theorem dX11_bitsOfFloat_73 : decode cX11_bitsOfFloat 73 = .ok (.fmul, 1) := by decide +kernel
theorem dX11_bitsOfFloat_74 : decode cX11_bitsOfFloat 74 = .ok (.f2i, 1) := by decide +kernel
theorem dX11_bitsOfFloat_75 : decode cX11_bitsOfFloat 75 = .ok (.istore_n 3, 1) := by decide +kernel
theorem dX11_bitsOfFloat_76 : decode cX11_bitsOfFloat 76 = .ok (.iload_n 2, 1) := by decide +kernel
theorem dX11_bitsOfFloat_77 : decode cX11_bitsOfFloat 77 = .ok (.bipush 23, 2) := by decide +kernel
theorem dX11_bitsOfFloat_79 : decode cX11_bitsOfFloat 79 = .ok (.ishl, 1) := by decide +kernel
theorem dX11_bitsOfFloat_80 : decode cX11_bitsOfFloat 80 = .ok (.iload_n 3, 1) := by decide +kernel
theorem dX11_bitsOfFloat_81 : decode cX11_bitsOfFloat 81 = .ok (.ior, 1) := by decide +kernel
theorem dX11_bitsOfFloat_82 : decode cX11_bitsOfFloat 82 = .ok (.ireturn, 1) := by decide +kernel
theorem dX11_bitsOfDouble_0 : decode cX11_bitsOfDouble 0 = .ok (.dload_n 0, 1) := by decide +kernel
theorem dX11_bitsOfDouble_1 : decode cX11_bitsOfDouble 1 = .ok (.dconst 0, 1) := by decide +kernel
theorem dX11_bitsOfDouble_2 : decode cX11_bitsOfDouble 2 = .ok (.dcmp .l, 1) := by decide +kernel
theorem dX11_bitsOfDouble_3 : decode cX11_bitsOfDouble 3 = .ok (.ifCond .gt 5, 3) := by decide +kernel
theorem dX11_bitsOfDouble_6 : decode cX11_bitsOfDouble 6 = .ok (.lconst 0, 1) := by decide +kernel
theorem dX11_bitsOfDouble_7 : decode cX11_bitsOfDouble 7 = .ok (.lreturn, 1) := by decide +kernel
theorem dX11_bitsOfDouble_8 : decode cX11_bitsOfDouble 8 = .ok (.dload_n 0, 1) := by decide +kernel
theorem dX11_bitsOfDouble_9 : decode cX11_bitsOfDouble 9 = .ok (.dstore_n 2, 1) := by decide +kernel
theorem dX11_bitsOfDouble_10 : decode cX11_bitsOfDouble 10 = .ok (.ldc2_w 509, 3) := by decide +kernel
theorem dX11_bitsOfDouble_13 : decode cX11_bitsOfDouble 13 = .ok (.lstore 4, 2) := by decide +kernel
theorem dX11_bitsOfDouble_15 : decode cX11_bitsOfDouble 15 = .ok (.iconst 0, 1) := by decide +kernel
theorem dX11_bitsOfDouble_16 : decode cX11_bitsOfDouble 16 = .ok (.istore 6, 2) := by decide +kernel
theorem dX11_bitsOfDouble_18 : decode cX11_bitsOfDouble 18 = .ok (.iload 6, 2) := by decide +kernel
theorem dX11_bitsOfDouble_20 : decode cX11_bitsOfDouble 20 = .ok (.sipush 1023, 3) := by decide +kernel
theorem dX11_bitsOfDouble_23 : decode cX11_bitsOfDouble 23 = .ok (.if_icmp .ge 29, 3) := by decide +kernel
theorem dX11_bitsOfDouble_26 : decode cX11_bitsOfDouble 26 = .ok (.dload_n 2, 1) := by decide +kernel
theorem dX11_bitsOfDouble_27 : decode cX11_bitsOfDouble 27 = .ok (.ldc2_w 511, 3) := by decide +kernel
theorem dX11_bitsOfDouble_30 : decode cX11_bitsOfDouble 30 = .ok (.dcmp .l, 1) := by decide +kernel
theorem dX11_bitsOfDouble_31 : decode cX11_bitsOfDouble 31 = .ok (.ifCond .lt 21, 3) := by decide +kernel
theorem dX11_bitsOfDouble_34 : decode cX11_bitsOfDouble 34 = .ok (.dload_n 2, 1) := by decide +kernel
theorem dX11_bitsOfDouble_35 : decode cX11_bitsOfDouble 35 = .ok (.ldc2_w 511, 3) := by decide +kernel
theorem dX11_bitsOfDouble_38 : decode cX11_bitsOfDouble 38 = .ok (.ddiv, 1) := by decide +kernel
theorem dX11_bitsOfDouble_39 : decode cX11_bitsOfDouble 39 = .ok (.dstore_n 2, 1) := by decide +kernel
theorem dX11_bitsOfDouble_40 : decode cX11_bitsOfDouble 40 = .ok (.lload 4, 2) := by decide +kernel
theorem dX11_bitsOfDouble_42 : decode cX11_bitsOfDouble 42 = .ok (.lconst 1, 1) := by decide +kernel
theorem dX11_bitsOfDouble_43 : decode cX11_bitsOfDouble 43 = .ok (.ladd, 1) := by decide +kernel
theorem dX11_bitsOfDouble_44 : decode cX11_bitsOfDouble 44 = .ok (.lstore 4, 2) := by decide +kernel
theorem dX11_bitsOfDouble_46 : decode cX11_bitsOfDouble 46 = .ok (.iinc 6 1, 3) := by decide +kernel
theorem dX11_bitsOfDouble_49 : decode cX11_bitsOfDouble 49 = .ok (.goto (-31), 3) := by decide +kernel
theorem dX11_bitsOfDouble_52 : decode cX11_bitsOfDouble 52 = .ok (.iconst 0, 1) := by decide +kernel
theorem dX11_bitsOfDouble_53 : decode cX11_bitsOfDouble 53 = .ok (.istore 6, 2) := by decide +kernel
theorem dX11_bitsOfDouble_55 : decode cX11_bitsOfDouble 55 = .ok (.iload 6, 2) := by decide +kernel
theorem dX11_bitsOfDouble_57 : decode cX11_bitsOfDouble 57 = .ok (.sipush 1022, 3) := by decide +kernel
theorem dX11_bitsOfDouble_60 : decode cX11_bitsOfDouble 60 = .ok (.if_icmp .ge 27, 3) := by decide +kernel
theorem dX11_bitsOfDouble_63 : decode cX11_bitsOfDouble 63 = .ok (.dload_n 2, 1) := by decide +kernel
theorem dX11_bitsOfDouble_64 : decode cX11_bitsOfDouble 64 = .ok (.dconst 1, 1) := by decide +kernel
theorem dX11_bitsOfDouble_65 : decode cX11_bitsOfDouble 65 = .ok (.dcmp .g, 1) := by decide +kernel
theorem dX11_bitsOfDouble_66 : decode cX11_bitsOfDouble 66 = .ok (.ifCond .ge 21, 3) := by decide +kernel
theorem dX11_bitsOfDouble_69 : decode cX11_bitsOfDouble 69 = .ok (.dload_n 2, 1) := by decide +kernel
theorem dX11_bitsOfDouble_70 : decode cX11_bitsOfDouble 70 = .ok (.ldc2_w 511, 3) := by decide +kernel
theorem dX11_bitsOfDouble_73 : decode cX11_bitsOfDouble 73 = .ok (.dmul, 1) := by decide +kernel
theorem dX11_bitsOfDouble_74 : decode cX11_bitsOfDouble 74 = .ok (.dstore_n 2, 1) := by decide +kernel
theorem dX11_bitsOfDouble_75 : decode cX11_bitsOfDouble 75 = .ok (.lload 4, 2) := by decide +kernel
theorem dX11_bitsOfDouble_77 : decode cX11_bitsOfDouble 77 = .ok (.lconst 1, 1) := by decide +kernel
theorem dX11_bitsOfDouble_78 : decode cX11_bitsOfDouble 78 = .ok (.lsub, 1) := by decide +kernel
theorem dX11_bitsOfDouble_79 : decode cX11_bitsOfDouble 79 = .ok (.lstore 4, 2) := by decide +kernel
theorem dX11_bitsOfDouble_81 : decode cX11_bitsOfDouble 81 = .ok (.iinc 6 1, 3) := by decide +kernel
theorem dX11_bitsOfDouble_84 : decode cX11_bitsOfDouble 84 = .ok (.goto (-29), 3) := by decide +kernel
theorem dX11_bitsOfDouble_87 : decode cX11_bitsOfDouble 87 = .ok (.dload_n 2, 1) := by decide +kernel
theorem dX11_bitsOfDouble_88 : decode cX11_bitsOfDouble 88 = .ok (.dconst 1, 1) := by decide +kernel
theorem dX11_bitsOfDouble_89 : decode cX11_bitsOfDouble 89 = .ok (.dsub, 1) := by decide +kernel
theorem dX11_bitsOfDouble_90 : decode cX11_bitsOfDouble 90 = .ok (.ldc2_w 513, 3) := by decide +kernel
theorem dX11_bitsOfDouble_93 : decode cX11_bitsOfDouble 93 = .ok (.dmul, 1) := by decide +kernel
theorem dX11_bitsOfDouble_94 : decode cX11_bitsOfDouble 94 = .ok (.d2l, 1) := by decide +kernel
theorem dX11_bitsOfDouble_95 : decode cX11_bitsOfDouble 95 = .ok (.lstore 6, 2) := by decide +kernel
theorem dX11_bitsOfDouble_97 : decode cX11_bitsOfDouble 97 = .ok (.lload 4, 2) := by decide +kernel
theorem dX11_bitsOfDouble_99 : decode cX11_bitsOfDouble 99 = .ok (.bipush 52, 2) := by decide +kernel
theorem dX11_bitsOfDouble_101 : decode cX11_bitsOfDouble 101 = .ok (.lshl, 1) := by decide +kernel
theorem dX11_bitsOfDouble_102 : decode cX11_bitsOfDouble 102 = .ok (.lload 6, 2) := by decide +kernel
theorem dX11_bitsOfDouble_104 : decode cX11_bitsOfDouble 104 = .ok (.lor, 1) := by decide +kernel
theorem dX11_bitsOfDouble_105 : decode cX11_bitsOfDouble 105 = .ok (.lreturn, 1) := by decide +kernel
theorem dX12_thrown_0 : decode cX12_thrown 0 = .ok (.aload_n 0, 1) := by decide +kernel
theorem dX12_thrown_1 : decode cX12_thrown 1 = .ok (.getfield 1, 3) := by decide +kernel
theorem dX12_thrown_4 : decode cX12_thrown 4 = .ok (.ireturn, 1) := by decide +kernel
theorem dX12_isWrong_0 : decode cX12_isWrong 0 = .ok (.aload_n 0, 1) := by decide +kernel
theorem dX12_isWrong_1 : decode cX12_isWrong 1 = .ok (.iload_n 1, 1) := by decide +kernel
theorem dX12_isWrong_2 : decode cX12_isWrong 2 = .ok (.putfield 1, 3) := by decide +kernel
theorem dX12_isWrong_5 : decode cX12_isWrong 5 = .ok (.iload_n 1, 1) := by decide +kernel
theorem dX12_isWrong_6 : decode cX12_isWrong 6 = .ok (.ifCond .le 7, 3) := by decide +kernel
theorem dX12_isWrong_9 : decode cX12_isWrong 9 = .ok (.iconst 1, 1) := by decide +kernel
theorem dX12_isWrong_10 : decode cX12_isWrong 10 = .ok (.goto 4, 3) := by decide +kernel
theorem dX12_isWrong_13 : decode cX12_isWrong 13 = .ok (.iconst 0, 1) := by decide +kernel
theorem dX12_isWrong_14 : decode cX12_isWrong 14 = .ok (.ireturn, 1) := by decide +kernel
theorem dX12_isBetween_0 : decode cX12_isBetween 0 = .ok (.iload_n 1, 1) := by decide +kernel
theorem dX12_isBetween_1 : decode cX12_isBetween 1 = .ok (.iload_n 0, 1) := by decide +kernel
theorem dX12_isBetween_2 : decode cX12_isBetween 2 = .ok (.if_icmp .gt 12, 3) := by decide +kernel
theorem dX12_isBetween_5 : decode cX12_isBetween 5 = .ok (.iload_n 0, 1) := by decide +kernel
theorem dX12_isBetween_6 : decode cX12_isBetween 6 = .ok (.iload_n 2, 1) := by decide +kernel
theorem dX12_isBetween_7 : decode cX12_isBetween 7 = .ok (.if_icmp .gt 7, 3) := by decide +kernel
theorem dX12_isBetween_10 : decode cX12_isBetween 10 = .ok (.iconst 1, 1) := by decide +kernel
theorem dX12_isBetween_11 : decode cX12_isBetween 11 = .ok (.goto 4, 3) := by decide +kernel
theorem dX12_isBetween_14 : decode cX12_isBetween 14 = .ok (.iconst 0, 1) := by decide +kernel
theorem dX12_isBetween_15 : decode cX12_isBetween 15 = .ok (.ireturn, 1) := by decide +kernel
theorem dX12_seals_0 : decode cX12_seals 0 = .ok (.iload_n 0, 1) := by decide +kernel
theorem dX12_seals_1 : decode cX12_seals 1 = .ok (.istore_n 2, 1) := by decide +kernel
theorem dX12_seals_2 : decode cX12_seals 2 = .ok (.iconst 0, 1) := by decide +kernel
theorem dX12_seals_3 : decode cX12_seals 3 = .ok (.istore_n 3, 1) := by decide +kernel
theorem dX12_seals_4 : decode cX12_seals 4 = .ok (.iload_n 3, 1) := by decide +kernel
theorem dX12_seals_5 : decode cX12_seals 5 = .ok (.iconst 4, 1) := by decide +kernel
theorem dX12_seals_6 : decode cX12_seals 6 = .ok (.if_icmp .ge 33, 3) := by decide +kernel
theorem dX12_seals_9 : decode cX12_seals 9 = .ok (.iload_n 2, 1) := by decide +kernel
theorem dX12_seals_10 : decode cX12_seals 10 = .ok (.iload_n 1, 1) := by decide +kernel
theorem dX12_seals_11 : decode cX12_seals 11 = .ok (.iload_n 3, 1) := by decide +kernel
theorem dX12_seals_12 : decode cX12_seals 12 = .ok (.ldc 7, 2) := by decide +kernel
theorem dX12_seals_14 : decode cX12_seals 14 = .ok (.imul, 1) := by decide +kernel
theorem dX12_seals_15 : decode cX12_seals 15 = .ok (.iadd, 1) := by decide +kernel
theorem dX12_seals_16 : decode cX12_seals 16 = .ok (.ixor, 1) := by decide +kernel
theorem dX12_seals_17 : decode cX12_seals 17 = .ok (.istore_n 2, 1) := by decide +kernel
theorem dX12_seals_18 : decode cX12_seals 18 = .ok (.iload_n 2, 1) := by decide +kernel
theorem dX12_seals_19 : decode cX12_seals 19 = .ok (.iconst 5, 1) := by decide +kernel
theorem dX12_seals_20 : decode cX12_seals 20 = .ok (.ishl, 1) := by decide +kernel
theorem dX12_seals_21 : decode cX12_seals 21 = .ok (.iload_n 2, 1) := by decide +kernel
theorem dX12_seals_22 : decode cX12_seals 22 = .ok (.bipush 27, 2) := by decide +kernel
theorem dX12_seals_24 : decode cX12_seals 24 = .ok (.iushr, 1) := by decide +kernel
theorem dX12_seals_25 : decode cX12_seals 25 = .ok (.ior, 1) := by decide +kernel
theorem dX12_seals_26 : decode cX12_seals 26 = .ok (.istore_n 2, 1) := by decide +kernel
theorem dX12_seals_27 : decode cX12_seals 27 = .ok (.iconst 5, 1) := by decide +kernel
theorem dX12_seals_28 : decode cX12_seals 28 = .ok (.iload_n 2, 1) := by decide +kernel
theorem dX12_seals_29 : decode cX12_seals 29 = .ok (.imul, 1) := by decide +kernel
theorem dX12_seals_30 : decode cX12_seals 30 = .ok (.iconst 3, 1) := by decide +kernel
theorem dX12_seals_31 : decode cX12_seals 31 = .ok (.iadd, 1) := by decide +kernel
theorem dX12_seals_32 : decode cX12_seals 32 = .ok (.istore_n 2, 1) := by decide +kernel
theorem dX12_seals_33 : decode cX12_seals 33 = .ok (.iinc 3 1, 3) := by decide +kernel
theorem dX12_seals_36 : decode cX12_seals 36 = .ok (.goto (-32), 3) := by decide +kernel
theorem dX12_seals_39 : decode cX12_seals 39 = .ok (.iload_n 2, 1) := by decide +kernel
theorem dX12_seals_40 : decode cX12_seals 40 = .ok (.ireturn, 1) := by decide +kernel
theorem dX12_opens_0 : decode cX12_opens 0 = .ok (.iload_n 0, 1) := by decide +kernel
theorem dX12_opens_1 : decode cX12_opens 1 = .ok (.istore_n 2, 1) := by decide +kernel
theorem dX12_opens_2 : decode cX12_opens 2 = .ok (.iconst 3, 1) := by decide +kernel
theorem dX12_opens_3 : decode cX12_opens 3 = .ok (.istore_n 3, 1) := by decide +kernel
theorem dX12_opens_4 : decode cX12_opens 4 = .ok (.iload_n 3, 1) := by decide +kernel
theorem dX12_opens_5 : decode cX12_opens 5 = .ok (.ifCond .lt 34, 3) := by decide +kernel
theorem dX12_opens_8 : decode cX12_opens 8 = .ok (.iload_n 2, 1) := by decide +kernel
theorem dX12_opens_9 : decode cX12_opens 9 = .ok (.iconst 3, 1) := by decide +kernel
theorem dX12_opens_10 : decode cX12_opens 10 = .ok (.isub, 1) := by decide +kernel
theorem dX12_opens_11 : decode cX12_opens 11 = .ok (.ldc 8, 2) := by decide +kernel
theorem dX12_opens_13 : decode cX12_opens 13 = .ok (.imul, 1) := by decide +kernel
theorem dX12_opens_14 : decode cX12_opens 14 = .ok (.istore_n 2, 1) := by decide +kernel
theorem dX12_opens_15 : decode cX12_opens 15 = .ok (.iload_n 2, 1) := by decide +kernel
theorem dX12_opens_16 : decode cX12_opens 16 = .ok (.iconst 5, 1) := by decide +kernel
theorem dX12_opens_17 : decode cX12_opens 17 = .ok (.iushr, 1) := by decide +kernel
theorem dX12_opens_18 : decode cX12_opens 18 = .ok (.iload_n 2, 1) := by decide +kernel
theorem dX12_opens_19 : decode cX12_opens 19 = .ok (.bipush 27, 2) := by decide +kernel
theorem dX12_opens_21 : decode cX12_opens 21 = .ok (.ishl, 1) := by decide +kernel
theorem dX12_opens_22 : decode cX12_opens 22 = .ok (.ior, 1) := by decide +kernel
theorem dX12_opens_23 : decode cX12_opens 23 = .ok (.istore_n 2, 1) := by decide +kernel
theorem dX12_opens_24 : decode cX12_opens 24 = .ok (.iload_n 2, 1) := by decide +kernel
theorem dX12_opens_25 : decode cX12_opens 25 = .ok (.iload_n 1, 1) := by decide +kernel
theorem dX12_opens_26 : decode cX12_opens 26 = .ok (.iload_n 3, 1) := by decide +kernel
theorem dX12_opens_27 : decode cX12_opens 27 = .ok (.ldc 7, 2) := by decide +kernel
theorem dX12_opens_29 : decode cX12_opens 29 = .ok (.imul, 1) := by decide +kernel
theorem dX12_opens_30 : decode cX12_opens 30 = .ok (.iadd, 1) := by decide +kernel
theorem dX12_opens_31 : decode cX12_opens 31 = .ok (.ixor, 1) := by decide +kernel
theorem dX12_opens_32 : decode cX12_opens 32 = .ok (.istore_n 2, 1) := by decide +kernel
theorem dX12_opens_33 : decode cX12_opens 33 = .ok (.iinc 3 (-1), 3) := by decide +kernel
theorem dX12_opens_36 : decode cX12_opens 36 = .ok (.goto (-32), 3) := by decide +kernel
theorem dX12_opens_39 : decode cX12_opens 39 = .ok (.iload_n 2, 1) := by decide +kernel
theorem dX12_opens_40 : decode cX12_opens 40 = .ok (.ireturn, 1) := by decide +kernel
theorem dX12_mix_0 : decode cX12_mix 0 = .ok (.iload_n 0, 1) := by decide +kernel
theorem dX12_mix_1 : decode cX12_mix 1 = .ok (.iload_n 1, 1) := by decide +kernel
theorem dX12_mix_2 : decode cX12_mix 2 = .ok (.invokestatic 9, 3) := by decide +kernel
theorem dX12_mix_5 : decode cX12_mix 5 = .ok (.iload_n 0, 1) := by decide +kernel
theorem dX12_mix_6 : decode cX12_mix 6 = .ok (.ixor, 1) := by decide +kernel
theorem dX12_mix_7 : decode cX12_mix 7 = .ok (.ireturn, 1) := by decide +kernel
theorem dX12_init_0 : decode cX12_init 0 = .ok (.aload_n 0, 1) := by decide +kernel
theorem dX12_init_1 : decode cX12_init 1 = .ok (.invokespecial 13, 3) := by decide +kernel
theorem dX12_init_4 : decode cX12_init 4 = .ok (.aload_n 0, 1) := by decide +kernel
theorem dX12_init_5 : decode cX12_init 5 = .ok (.bipush 6, 2) := by decide +kernel
theorem dX12_init_7 : decode cX12_init 7 = .ok (.newarray .int, 2) := by decide +kernel
theorem dX12_init_9 : decode cX12_init 9 = .ok (.putfield 19, 3) := by decide +kernel
theorem dX12_init_12 : decode cX12_init 12 = .ok (.aload_n 0, 1) := by decide +kernel
theorem dX12_init_13 : decode cX12_init 13 = .ok (.bipush 6, 2) := by decide +kernel
theorem dX12_init_15 : decode cX12_init 15 = .ok (.newarray .int, 2) := by decide +kernel
theorem dX12_init_17 : decode cX12_init 17 = .ok (.putfield 23, 3) := by decide +kernel
theorem dX12_init_20 : decode cX12_init 20 = .ok (.aload_n 0, 1) := by decide +kernel
theorem dX12_init_21 : decode cX12_init 21 = .ok (.bipush 6, 2) := by decide +kernel
theorem dX12_init_23 : decode cX12_init 23 = .ok (.newarray .int, 2) := by decide +kernel
theorem dX12_init_25 : decode cX12_init 25 = .ok (.putfield 26, 3) := by decide +kernel
theorem dX12_init_28 : decode cX12_init 28 = .ok (.aload_n 0, 1) := by decide +kernel
theorem dX12_init_29 : decode cX12_init 29 = .ok (.bipush 6, 2) := by decide +kernel
theorem dX12_init_31 : decode cX12_init 31 = .ok (.newarray .int, 2) := by decide +kernel
theorem dX12_init_33 : decode cX12_init 33 = .ok (.putfield 29, 3) := by decide +kernel
theorem dX12_init_36 : decode cX12_init 36 = .ok (.aload_n 0, 1) := by decide +kernel
theorem dX12_init_37 : decode cX12_init 37 = .ok (.bipush 6, 2) := by decide +kernel
theorem dX12_init_39 : decode cX12_init 39 = .ok (.newarray .int, 2) := by decide +kernel
theorem dX12_init_41 : decode cX12_init 41 = .ok (.putfield 32, 3) := by decide +kernel
theorem dX12_init_44 : decode cX12_init 44 = .ok (.aload_n 0, 1) := by decide +kernel
theorem dX12_init_45 : decode cX12_init 45 = .ok (.bipush 6, 2) := by decide +kernel
theorem dX12_init_47 : decode cX12_init 47 = .ok (.newarray .int, 2) := by decide +kernel
theorem dX12_init_49 : decode cX12_init 49 = .ok (.putfield 35, 3) := by decide +kernel
theorem dX12_init_52 : decode cX12_init 52 = .ok (.aload_n 0, 1) := by decide +kernel
theorem dX12_init_53 : decode cX12_init 53 = .ok (.bipush 6, 2) := by decide +kernel
theorem dX12_init_55 : decode cX12_init 55 = .ok (.newarray .boolean, 2) := by decide +kernel
theorem dX12_init_57 : decode cX12_init 57 = .ok (.putfield 38, 3) := by decide +kernel
theorem dX12_init_60 : decode cX12_init 60 = .ok (.aload_n 0, 1) := by decide +kernel
theorem dX12_init_61 : decode cX12_init 61 = .ok (.iconst 5, 1) := by decide +kernel
theorem dX12_init_62 : decode cX12_init 62 = .ok (.newarray .int, 2) := by decide +kernel
theorem dX12_init_64 : decode cX12_init 64 = .ok (.putfield 42, 3) := by decide +kernel
theorem dX12_init_67 : decode cX12_init 67 = .ok (.aload_n 0, 1) := by decide +kernel
theorem dX12_init_68 : decode cX12_init 68 = .ok (.iconst 5, 1) := by decide +kernel
theorem dX12_init_69 : decode cX12_init 69 = .ok (.newarray .int, 2) := by decide +kernel
theorem dX12_init_71 : decode cX12_init 71 = .ok (.putfield 45, 3) := by decide +kernel
theorem dX12_init_74 : decode cX12_init 74 = .ok (.aload_n 0, 1) := by decide +kernel
theorem dX12_init_75 : decode cX12_init 75 = .ok (.iconst 5, 1) := by decide +kernel
theorem dX12_init_76 : decode cX12_init 76 = .ok (.newarray .int, 2) := by decide +kernel
theorem dX12_init_78 : decode cX12_init 78 = .ok (.putfield 48, 3) := by decide +kernel
theorem dX12_init_81 : decode cX12_init 81 = .ok (.aload_n 0, 1) := by decide +kernel
theorem dX12_init_82 : decode cX12_init 82 = .ok (.iconst 5, 1) := by decide +kernel
theorem dX12_init_83 : decode cX12_init 83 = .ok (.bipush 6, 2) := by decide +kernel
theorem dX12_init_85 : decode cX12_init 85 = .ok (.multianewarray 51 2, 4) := by decide +kernel
theorem dX12_init_89 : decode cX12_init 89 = .ok (.putfield 53, 3) := by decide +kernel
theorem dX12_init_92 : decode cX12_init 92 = .ok (.aload_n 0, 1) := by decide +kernel
theorem dX12_init_93 : decode cX12_init 93 = .ok (.iconst 5, 1) := by decide +kernel
theorem dX12_init_94 : decode cX12_init 94 = .ok (.bipush 6, 2) := by decide +kernel
theorem dX12_init_96 : decode cX12_init 96 = .ok (.multianewarray 56 2, 4) := by decide +kernel
theorem dX12_init_100 : decode cX12_init 100 = .ok (.putfield 58, 3) := by decide +kernel
theorem dX12_init_103 : decode cX12_init 103 = .ok (.aload_n 0, 1) := by decide +kernel
theorem dX12_init_104 : decode cX12_init 104 = .ok (.bipush 20, 2) := by decide +kernel
theorem dX12_init_106 : decode cX12_init 106 = .ok (.newarray .int, 2) := by decide +kernel
theorem dX12_init_108 : decode cX12_init 108 = .ok (.putfield 61, 3) := by decide +kernel
theorem dX12_init_111 : decode cX12_init 111 = .ok (.aload_n 0, 1) := by decide +kernel
theorem dX12_init_112 : decode cX12_init 112 = .ok (.bipush 20, 2) := by decide +kernel
theorem dX12_init_114 : decode cX12_init 114 = .ok (.newarray .int, 2) := by decide +kernel
theorem dX12_init_116 : decode cX12_init 116 = .ok (.putfield 64, 3) := by decide +kernel
theorem dX12_init_119 : decode cX12_init 119 = .ok (.aload_n 0, 1) := by decide +kernel
theorem dX12_init_120 : decode cX12_init 120 = .ok (.bipush 20, 2) := by decide +kernel
theorem dX12_init_122 : decode cX12_init 122 = .ok (.newarray .int, 2) := by decide +kernel
theorem dX12_init_124 : decode cX12_init 124 = .ok (.putfield 67, 3) := by decide +kernel
theorem dX12_init_127 : decode cX12_init 127 = .ok (.aload_n 0, 1) := by decide +kernel
theorem dX12_init_128 : decode cX12_init 128 = .ok (.bipush 20, 2) := by decide +kernel
theorem dX12_init_130 : decode cX12_init 130 = .ok (.bipush 8, 2) := by decide +kernel
theorem dX12_init_132 : decode cX12_init 132 = .ok (.multianewarray 56 2, 4) := by decide +kernel
theorem dX12_init_136 : decode cX12_init 136 = .ok (.putfield 70, 3) := by decide +kernel
theorem dX12_init_139 : decode cX12_init 139 = .ok (.aload_n 0, 1) := by decide +kernel
theorem dX12_init_140 : decode cX12_init 140 = .ok (.bipush 20, 2) := by decide +kernel
theorem dX12_init_142 : decode cX12_init 142 = .ok (.bipush 8, 2) := by decide +kernel
theorem dX12_init_144 : decode cX12_init 144 = .ok (.multianewarray 56 2, 4) := by decide +kernel
theorem dX12_init_148 : decode cX12_init 148 = .ok (.putfield 73, 3) := by decide +kernel
theorem dX12_init_151 : decode cX12_init 151 = .ok (.aload_n 0, 1) := by decide +kernel
theorem dX12_init_152 : decode cX12_init 152 = .ok (.bipush 20, 2) := by decide +kernel
theorem dX12_init_154 : decode cX12_init 154 = .ok (.bipush 8, 2) := by decide +kernel
theorem dX12_init_156 : decode cX12_init 156 = .ok (.multianewarray 56 2, 4) := by decide +kernel
theorem dX12_init_160 : decode cX12_init 160 = .ok (.putfield 76, 3) := by decide +kernel
theorem dX12_init_163 : decode cX12_init 163 = .ok (.aload_n 0, 1) := by decide +kernel
theorem dX12_init_164 : decode cX12_init 164 = .ok (.bipush 20, 2) := by decide +kernel
theorem dX12_init_166 : decode cX12_init 166 = .ok (.bipush 8, 2) := by decide +kernel
theorem dX12_init_168 : decode cX12_init 168 = .ok (.multianewarray 56 2, 4) := by decide +kernel
theorem dX12_init_172 : decode cX12_init 172 = .ok (.putfield 79, 3) := by decide +kernel
theorem dX12_init_175 : decode cX12_init 175 = .ok (.aload_n 0, 1) := by decide +kernel
theorem dX12_init_176 : decode cX12_init 176 = .ok (.bipush 20, 2) := by decide +kernel
theorem dX12_init_178 : decode cX12_init 178 = .ok (.bipush 8, 2) := by decide +kernel
theorem dX12_init_180 : decode cX12_init 180 = .ok (.multianewarray 56 2, 4) := by decide +kernel
theorem dX12_init_184 : decode cX12_init 184 = .ok (.putfield 82, 3) := by decide +kernel
theorem dX12_init_187 : decode cX12_init 187 = .ok (.aload_n 0, 1) := by decide +kernel
theorem dX12_init_188 : decode cX12_init 188 = .ok (.bipush 20, 2) := by decide +kernel
theorem dX12_init_190 : decode cX12_init 190 = .ok (.newarray .boolean, 2) := by decide +kernel
theorem dX12_init_192 : decode cX12_init 192 = .ok (.putfield 85, 3) := by decide +kernel
theorem dX12_init_195 : decode cX12_init 195 = .ok (.aload_n 0, 1) := by decide +kernel
theorem dX12_init_196 : decode cX12_init 196 = .ok (.bipush 60, 2) := by decide +kernel
theorem dX12_init_198 : decode cX12_init 198 = .ok (.newarray .int, 2) := by decide +kernel
theorem dX12_init_200 : decode cX12_init 200 = .ok (.putfield 88, 3) := by decide +kernel
theorem dX12_init_203 : decode cX12_init 203 = .ok (.aload_n 0, 1) := by decide +kernel
theorem dX12_init_204 : decode cX12_init 204 = .ok (.bipush 60, 2) := by decide +kernel
theorem dX12_init_206 : decode cX12_init 206 = .ok (.newarray .int, 2) := by decide +kernel
theorem dX12_init_208 : decode cX12_init 208 = .ok (.putfield 91, 3) := by decide +kernel
theorem dX12_init_211 : decode cX12_init 211 = .ok (.aload_n 0, 1) := by decide +kernel
theorem dX12_init_212 : decode cX12_init 212 = .ok (.bipush 64, 2) := by decide +kernel
theorem dX12_init_214 : decode cX12_init 214 = .ok (.newarray .int, 2) := by decide +kernel
theorem dX12_init_216 : decode cX12_init 216 = .ok (.putfield 94, 3) := by decide +kernel
theorem dX12_init_219 : decode cX12_init 219 = .ok (.aload_n 0, 1) := by decide +kernel
theorem dX12_init_220 : decode cX12_init 220 = .ok (.bipush 20, 2) := by decide +kernel
theorem dX12_init_222 : decode cX12_init 222 = .ok (.newarray .boolean, 2) := by decide +kernel
theorem dX12_init_224 : decode cX12_init 224 = .ok (.putfield 97, 3) := by decide +kernel
theorem dX12_init_227 : decode cX12_init 227 = .ok (.aload_n 0, 1) := by decide +kernel
theorem dX12_init_228 : decode cX12_init 228 = .ok (.sipush 300, 3) := by decide +kernel
theorem dX12_init_231 : decode cX12_init 231 = .ok (.newarray .int, 2) := by decide +kernel
theorem dX12_init_233 : decode cX12_init 233 = .ok (.putfield 100, 3) := by decide +kernel
theorem dX12_init_236 : decode cX12_init 236 = .ok (.aload_n 0, 1) := by decide +kernel
theorem dX12_init_237 : decode cX12_init 237 = .ok (.bipush 9, 2) := by decide +kernel
theorem dX12_init_239 : decode cX12_init 239 = .ok (.newarray .int, 2) := by decide +kernel
theorem dX12_init_241 : decode cX12_init 241 = .ok (.putfield 103, 3) := by decide +kernel
theorem dX12_init_244 : decode cX12_init 244 = .ok (.aload_n 0, 1) := by decide +kernel
theorem dX12_init_245 : decode cX12_init 245 = .ok (.bipush 6, 2) := by decide +kernel
theorem dX12_init_247 : decode cX12_init 247 = .ok (.bipush 10, 2) := by decide +kernel
theorem dX12_init_249 : decode cX12_init 249 = .ok (.multianewarray 56 2, 4) := by decide +kernel
theorem dX12_init_253 : decode cX12_init 253 = .ok (.putfield 106, 3) := by decide +kernel
theorem dX12_init_256 : decode cX12_init 256 = .ok (.aload_n 0, 1) := by decide +kernel
theorem dX12_init_257 : decode cX12_init 257 = .ok (.bipush 6, 2) := by decide +kernel
theorem dX12_init_259 : decode cX12_init 259 = .ok (.bipush 10, 2) := by decide +kernel
theorem dX12_init_261 : decode cX12_init 261 = .ok (.multianewarray 56 2, 4) := by decide +kernel
theorem dX12_init_265 : decode cX12_init 265 = .ok (.putfield 109, 3) := by decide +kernel
theorem dX12_init_268 : decode cX12_init 268 = .ok (.aload_n 0, 1) := by decide +kernel
theorem dX12_init_269 : decode cX12_init 269 = .ok (.bipush 6, 2) := by decide +kernel
theorem dX12_init_271 : decode cX12_init 271 = .ok (.bipush 10, 2) := by decide +kernel
theorem dX12_init_273 : decode cX12_init 273 = .ok (.multianewarray 56 2, 4) := by decide +kernel
theorem dX12_init_277 : decode cX12_init 277 = .ok (.putfield 112, 3) := by decide +kernel
theorem dX12_init_280 : decode cX12_init 280 = .ok (.aload_n 0, 1) := by decide +kernel
theorem dX12_init_281 : decode cX12_init 281 = .ok (.bipush 6, 2) := by decide +kernel
theorem dX12_init_283 : decode cX12_init 283 = .ok (.newarray .int, 2) := by decide +kernel
theorem dX12_init_285 : decode cX12_init 285 = .ok (.putfield 115, 3) := by decide +kernel
theorem dX12_init_288 : decode cX12_init 288 = .ok (.aload_n 0, 1) := by decide +kernel
theorem dX12_init_289 : decode cX12_init 289 = .ok (.bipush 10, 2) := by decide +kernel
theorem dX12_init_291 : decode cX12_init 291 = .ok (.newarray .int, 2) := by decide +kernel
theorem dX12_init_293 : decode cX12_init 293 = .ok (.putfield 118, 3) := by decide +kernel
theorem dX12_init_296 : decode cX12_init 296 = .ok (.iconst 0, 1) := by decide +kernel
theorem dX12_init_297 : decode cX12_init 297 = .ok (.istore_n 1, 1) := by decide +kernel
theorem dX12_init_298 : decode cX12_init 298 = .ok (.iload_n 1, 1) := by decide +kernel
theorem dX12_init_299 : decode cX12_init 299 = .ok (.bipush 8, 2) := by decide +kernel
theorem dX12_init_301 : decode cX12_init 301 = .ok (.if_icmp .gt 16, 3) := by decide +kernel
theorem dX12_init_304 : decode cX12_init 304 = .ok (.aload_n 0, 1) := by decide +kernel
theorem dX12_init_305 : decode cX12_init 305 = .ok (.getfield 103, 3) := by decide +kernel
theorem dX12_init_308 : decode cX12_init 308 = .ok (.iload_n 1, 1) := by decide +kernel
theorem dX12_init_309 : decode cX12_init 309 = .ok (.iconst (-1), 1) := by decide +kernel
theorem dX12_init_310 : decode cX12_init 310 = .ok (.iastore, 1) := by decide +kernel
theorem dX12_init_311 : decode cX12_init 311 = .ok (.iinc 1 1, 3) := by decide +kernel
theorem dX12_init_314 : decode cX12_init 314 = .ok (.goto (-16), 3) := by decide +kernel
theorem dX12_init_317 : decode cX12_init 317 = .ok (.return_, 1) := by decide +kernel
theorem dX12_isUser_0 : decode cX12_isUser 0 = .ok (.iload_n 1, 1) := by decide +kernel
theorem dX12_isUser_1 : decode cX12_isUser 1 = .ok (.iconst 0, 1) := by decide +kernel
theorem dX12_isUser_2 : decode cX12_isUser 2 = .ok (.aload_n 0, 1) := by decide +kernel
theorem dX12_isUser_3 : decode cX12_isUser 3 = .ok (.getfield 121, 3) := by decide +kernel
theorem dX12_isUser_6 : decode cX12_isUser 6 = .ok (.iconst 1, 1) := by decide +kernel
theorem dX12_isUser_7 : decode cX12_isUser 7 = .ok (.isub, 1) := by decide +kernel
theorem dX12_isUser_8 : decode cX12_isUser 8 = .ok (.invokestatic 124, 3) := by decide +kernel
theorem dX12_isUser_11 : decode cX12_isUser 11 = .ok (.ireturn, 1) := by decide +kernel
theorem dX12_isGroup_0 : decode cX12_isGroup 0 = .ok (.iload_n 1, 1) := by decide +kernel
theorem dX12_isGroup_1 : decode cX12_isGroup 1 = .ok (.iconst 0, 1) := by decide +kernel
theorem dX12_isGroup_2 : decode cX12_isGroup 2 = .ok (.aload_n 0, 1) := by decide +kernel
theorem dX12_isGroup_3 : decode cX12_isGroup 3 = .ok (.getfield 128, 3) := by decide +kernel
theorem dX12_isGroup_6 : decode cX12_isGroup 6 = .ok (.iconst 1, 1) := by decide +kernel
theorem dX12_isGroup_7 : decode cX12_isGroup 7 = .ok (.isub, 1) := by decide +kernel
theorem dX12_isGroup_8 : decode cX12_isGroup 8 = .ok (.invokestatic 124, 3) := by decide +kernel
theorem dX12_isGroup_11 : decode cX12_isGroup 11 = .ok (.ireturn, 1) := by decide +kernel
theorem dX12_isFile_0 : decode cX12_isFile 0 = .ok (.iload_n 1, 1) := by decide +kernel
theorem dX12_isFile_1 : decode cX12_isFile 1 = .ok (.iconst 0, 1) := by decide +kernel
theorem dX12_isFile_2 : decode cX12_isFile 2 = .ok (.aload_n 0, 1) := by decide +kernel
theorem dX12_isFile_3 : decode cX12_isFile 3 = .ok (.getfield 131, 3) := by decide +kernel
theorem dX12_isFile_6 : decode cX12_isFile 6 = .ok (.iconst 1, 1) := by decide +kernel
theorem dX12_isFile_7 : decode cX12_isFile 7 = .ok (.isub, 1) := by decide +kernel
theorem dX12_isFile_8 : decode cX12_isFile 8 = .ok (.invokestatic 124, 3) := by decide +kernel
theorem dX12_isFile_11 : decode cX12_isFile 11 = .ok (.ireturn, 1) := by decide +kernel
theorem dX12_isPart_0 : decode cX12_isPart 0 = .ok (.iload_n 0, 1) := by decide +kernel
theorem dX12_isPart_1 : decode cX12_isPart 1 = .ok (.iconst 0, 1) := by decide +kernel
theorem dX12_isPart_2 : decode cX12_isPart 2 = .ok (.bipush 7, 2) := by decide +kernel
theorem dX12_isPart_4 : decode cX12_isPart 4 = .ok (.invokestatic 124, 3) := by decide +kernel
theorem dX12_isPart_7 : decode cX12_isPart 7 = .ok (.ireturn, 1) := by decide +kernel
theorem dX12_addUser_0 : decode cX12_addUser 0 = .ok (.aload_n 0, 1) := by decide +kernel
theorem dX12_addUser_1 : decode cX12_addUser 1 = .ok (.iload_n 1, 1) := by decide +kernel
theorem dX12_addUser_2 : decode cX12_addUser 2 = .ok (.iconst 0, 1) := by decide +kernel
theorem dX12_addUser_3 : decode cX12_addUser 3 = .ok (.sipush 9999, 3) := by decide +kernel
theorem dX12_addUser_6 : decode cX12_addUser 6 = .ok (.invokestatic 124, 3) := by decide +kernel
theorem dX12_addUser_9 : decode cX12_addUser 9 = .ok (.ifCond .ne 7, 3) := by decide +kernel
theorem dX12_addUser_12 : decode cX12_addUser 12 = .ok (.iconst 1, 1) := by decide +kernel
theorem dX12_addUser_13 : decode cX12_addUser 13 = .ok (.goto 17, 3) := by decide +kernel
theorem dX12_addUser_16 : decode cX12_addUser 16 = .ok (.aload_n 0, 1) := by decide +kernel
theorem dX12_addUser_17 : decode cX12_addUser 17 = .ok (.getfield 121, 3) := by decide +kernel
theorem dX12_addUser_20 : decode cX12_addUser 20 = .ok (.bipush 6, 2) := by decide +kernel
theorem dX12_addUser_22 : decode cX12_addUser 22 = .ok (.if_icmp .ne 7, 3) := by decide +kernel
theorem dX12_addUser_25 : decode cX12_addUser 25 = .ok (.iconst 2, 1) := by decide +kernel
theorem dX12_addUser_26 : decode cX12_addUser 26 = .ok (.goto 4, 3) := by decide +kernel
theorem dX12_addUser_29 : decode cX12_addUser 29 = .ok (.iconst 0, 1) := by decide +kernel
theorem dX12_addUser_30 : decode cX12_addUser 30 = .ok (.invokevirtual 134, 3) := by decide +kernel
theorem dX12_addUser_33 : decode cX12_addUser 33 = .ok (.ifCond .eq 5, 3) := by decide +kernel
theorem dX12_addUser_36 : decode cX12_addUser 36 = .ok (.iconst 0, 1) := by decide +kernel
theorem dX12_addUser_37 : decode cX12_addUser 37 = .ok (.ireturn, 1) := by decide +kernel
theorem dX12_addUser_38 : decode cX12_addUser 38 = .ok (.aload_n 0, 1) := by decide +kernel
theorem dX12_addUser_39 : decode cX12_addUser 39 = .ok (.getfield 19, 3) := by decide +kernel
theorem dX12_addUser_42 : decode cX12_addUser 42 = .ok (.aload_n 0, 1) := by decide +kernel
theorem dX12_addUser_43 : decode cX12_addUser 43 = .ok (.getfield 121, 3) := by decide +kernel
theorem dX12_addUser_46 : decode cX12_addUser 46 = .ok (.iload_n 1, 1) := by decide +kernel
theorem dX12_addUser_47 : decode cX12_addUser 47 = .ok (.iastore, 1) := by decide +kernel
theorem dX12_addUser_48 : decode cX12_addUser 48 = .ok (.aload_n 0, 1) := by decide +kernel
theorem dX12_addUser_49 : decode cX12_addUser 49 = .ok (.dup, 1) := by decide +kernel
theorem dX12_addUser_50 : decode cX12_addUser 50 = .ok (.getfield 121, 3) := by decide +kernel
theorem dX12_addUser_53 : decode cX12_addUser 53 = .ok (.iconst 1, 1) := by decide +kernel
theorem dX12_addUser_54 : decode cX12_addUser 54 = .ok (.iadd, 1) := by decide +kernel
theorem dX12_addUser_55 : decode cX12_addUser 55 = .ok (.putfield 121, 3) := by decide +kernel
theorem dX12_addUser_58 : decode cX12_addUser 58 = .ok (.aload_n 0, 1) := by decide +kernel
theorem dX12_addUser_59 : decode cX12_addUser 59 = .ok (.getfield 121, 3) := by decide +kernel
theorem dX12_addUser_62 : decode cX12_addUser 62 = .ok (.iconst 1, 1) := by decide +kernel
theorem dX12_addUser_63 : decode cX12_addUser 63 = .ok (.isub, 1) := by decide +kernel
theorem dX12_addUser_64 : decode cX12_addUser 64 = .ok (.ireturn, 1) := by decide +kernel
theorem dX12_addGroup_0 : decode cX12_addGroup 0 = .ok (.aload_n 0, 1) := by decide +kernel
theorem dX12_addGroup_1 : decode cX12_addGroup 1 = .ok (.aload_n 0, 1) := by decide +kernel
theorem dX12_addGroup_2 : decode cX12_addGroup 2 = .ok (.iload_n 1, 1) := by decide +kernel
theorem dX12_addGroup_3 : decode cX12_addGroup 3 = .ok (.invokevirtual 138, 3) := by decide +kernel
theorem dX12_addGroup_6 : decode cX12_addGroup 6 = .ok (.ifCond .ne 7, 3) := by decide +kernel
theorem dX12_addGroup_9 : decode cX12_addGroup 9 = .ok (.iconst 1, 1) := by decide +kernel
theorem dX12_addGroup_10 : decode cX12_addGroup 10 = .ok (.goto 30, 3) := by decide +kernel
theorem dX12_addGroup_13 : decode cX12_addGroup 13 = .ok (.iload_n 2, 1) := by decide +kernel
theorem dX12_addGroup_14 : decode cX12_addGroup 14 = .ok (.iconst 1, 1) := by decide +kernel
theorem dX12_addGroup_15 : decode cX12_addGroup 15 = .ok (.bipush 40, 2) := by decide +kernel
theorem dX12_addGroup_17 : decode cX12_addGroup 17 = .ok (.invokestatic 124, 3) := by decide +kernel
theorem dX12_addGroup_20 : decode cX12_addGroup 20 = .ok (.ifCond .ne 7, 3) := by decide +kernel
theorem dX12_addGroup_23 : decode cX12_addGroup 23 = .ok (.iconst 2, 1) := by decide +kernel
theorem dX12_addGroup_24 : decode cX12_addGroup 24 = .ok (.goto 16, 3) := by decide +kernel
theorem dX12_addGroup_27 : decode cX12_addGroup 27 = .ok (.aload_n 0, 1) := by decide +kernel
theorem dX12_addGroup_28 : decode cX12_addGroup 28 = .ok (.getfield 128, 3) := by decide +kernel
theorem dX12_addGroup_31 : decode cX12_addGroup 31 = .ok (.iconst 5, 1) := by decide +kernel
theorem dX12_addGroup_32 : decode cX12_addGroup 32 = .ok (.if_icmp .ne 7, 3) := by decide +kernel
theorem dX12_addGroup_35 : decode cX12_addGroup 35 = .ok (.iconst 3, 1) := by decide +kernel
theorem dX12_addGroup_36 : decode cX12_addGroup 36 = .ok (.goto 4, 3) := by decide +kernel
theorem dX12_addGroup_39 : decode cX12_addGroup 39 = .ok (.iconst 0, 1) := by decide +kernel
theorem dX12_addGroup_40 : decode cX12_addGroup 40 = .ok (.invokevirtual 134, 3) := by decide +kernel
theorem dX12_addGroup_43 : decode cX12_addGroup 43 = .ok (.ifCond .eq 5, 3) := by decide +kernel
theorem dX12_addGroup_46 : decode cX12_addGroup 46 = .ok (.iconst 0, 1) := by decide +kernel
theorem dX12_addGroup_47 : decode cX12_addGroup 47 = .ok (.ireturn, 1) := by decide +kernel
theorem dX12_addGroup_48 : decode cX12_addGroup 48 = .ok (.aload_n 0, 1) := by decide +kernel
theorem dX12_addGroup_49 : decode cX12_addGroup 49 = .ok (.getfield 42, 3) := by decide +kernel
theorem dX12_addGroup_52 : decode cX12_addGroup 52 = .ok (.aload_n 0, 1) := by decide +kernel
theorem dX12_addGroup_53 : decode cX12_addGroup 53 = .ok (.getfield 128, 3) := by decide +kernel
theorem dX12_addGroup_56 : decode cX12_addGroup 56 = .ok (.iload_n 1, 1) := by decide +kernel
theorem dX12_addGroup_57 : decode cX12_addGroup 57 = .ok (.iastore, 1) := by decide +kernel
theorem dX12_addGroup_58 : decode cX12_addGroup 58 = .ok (.aload_n 0, 1) := by decide +kernel
theorem dX12_addGroup_59 : decode cX12_addGroup 59 = .ok (.getfield 45, 3) := by decide +kernel
theorem dX12_addGroup_62 : decode cX12_addGroup 62 = .ok (.aload_n 0, 1) := by decide +kernel
theorem dX12_addGroup_63 : decode cX12_addGroup 63 = .ok (.getfield 128, 3) := by decide +kernel
theorem dX12_addGroup_66 : decode cX12_addGroup 66 = .ok (.iload_n 2, 1) := by decide +kernel
theorem dX12_addGroup_67 : decode cX12_addGroup 67 = .ok (.iastore, 1) := by decide +kernel
theorem dX12_addGroup_68 : decode cX12_addGroup 68 = .ok (.iconst 0, 1) := by decide +kernel
theorem dX12_addGroup_69 : decode cX12_addGroup 69 = .ok (.istore_n 3, 1) := by decide +kernel
theorem dX12_addGroup_70 : decode cX12_addGroup 70 = .ok (.iload_n 3, 1) := by decide +kernel
theorem dX12_addGroup_71 : decode cX12_addGroup 71 = .ok (.bipush 6, 2) := by decide +kernel
theorem dX12_addGroup_73 : decode cX12_addGroup 73 = .ok (.if_icmp .ge 21, 3) := by decide +kernel
theorem dX12_addGroup_76 : decode cX12_addGroup 76 = .ok (.aload_n 0, 1) := by decide +kernel
theorem dX12_addGroup_77 : decode cX12_addGroup 77 = .ok (.getfield 58, 3) := by decide +kernel
theorem dX12_addGroup_80 : decode cX12_addGroup 80 = .ok (.aload_n 0, 1) := by decide +kernel
theorem dX12_addGroup_81 : decode cX12_addGroup 81 = .ok (.getfield 128, 3) := by decide +kernel
theorem dX12_addGroup_84 : decode cX12_addGroup 84 = .ok (.aaload, 1) := by decide +kernel
theorem dX12_addGroup_85 : decode cX12_addGroup 85 = .ok (.iload_n 3, 1) := by decide +kernel
theorem dX12_addGroup_86 : decode cX12_addGroup 86 = .ok (.iconst (-1), 1) := by decide +kernel
theorem dX12_addGroup_87 : decode cX12_addGroup 87 = .ok (.iastore, 1) := by decide +kernel
theorem dX12_addGroup_88 : decode cX12_addGroup 88 = .ok (.iinc 3 1, 3) := by decide +kernel
theorem dX12_addGroup_91 : decode cX12_addGroup 91 = .ok (.goto (-21), 3) := by decide +kernel
theorem dX12_addGroup_94 : decode cX12_addGroup 94 = .ok (.aload_n 0, 1) := by decide +kernel
theorem dX12_addGroup_95 : decode cX12_addGroup 95 = .ok (.getfield 53, 3) := by decide +kernel
theorem dX12_addGroup_98 : decode cX12_addGroup 98 = .ok (.aload_n 0, 1) := by decide +kernel
theorem dX12_addGroup_99 : decode cX12_addGroup 99 = .ok (.getfield 128, 3) := by decide +kernel
theorem dX12_addGroup_102 : decode cX12_addGroup 102 = .ok (.aaload, 1) := by decide +kernel
theorem dX12_addGroup_103 : decode cX12_addGroup 103 = .ok (.iload_n 1, 1) := by decide +kernel
theorem dX12_addGroup_104 : decode cX12_addGroup 104 = .ok (.iconst 1, 1) := by decide +kernel
theorem dX12_addGroup_105 : decode cX12_addGroup 105 = .ok (.bastore, 1) := by decide +kernel
theorem dX12_addGroup_106 : decode cX12_addGroup 106 = .ok (.aload_n 0, 1) := by decide +kernel
theorem dX12_addGroup_107 : decode cX12_addGroup 107 = .ok (.dup, 1) := by decide +kernel
theorem dX12_addGroup_108 : decode cX12_addGroup 108 = .ok (.getfield 128, 3) := by decide +kernel
theorem dX12_addGroup_111 : decode cX12_addGroup 111 = .ok (.iconst 1, 1) := by decide +kernel
theorem dX12_addGroup_112 : decode cX12_addGroup 112 = .ok (.iadd, 1) := by decide +kernel
theorem dX12_addGroup_113 : decode cX12_addGroup 113 = .ok (.putfield 128, 3) := by decide +kernel
theorem dX12_addGroup_116 : decode cX12_addGroup 116 = .ok (.aload_n 0, 1) := by decide +kernel
theorem dX12_addGroup_117 : decode cX12_addGroup 117 = .ok (.getfield 128, 3) := by decide +kernel
theorem dX12_addGroup_120 : decode cX12_addGroup 120 = .ok (.iconst 1, 1) := by decide +kernel
theorem dX12_addGroup_121 : decode cX12_addGroup 121 = .ok (.isub, 1) := by decide +kernel
theorem dX12_addGroup_122 : decode cX12_addGroup 122 = .ok (.ireturn, 1) := by decide +kernel
theorem dX12_isFull_0 : decode cX12_isFull 0 = .ok (.aload_n 0, 1) := by decide +kernel
theorem dX12_isFull_1 : decode cX12_isFull 1 = .ok (.getfield 141, 3) := by decide +kernel
theorem dX12_isFull_4 : decode cX12_isFull 4 = .ok (.sipush 300, 3) := by decide +kernel
theorem dX12_isFull_7 : decode cX12_isFull 7 = .ok (.if_icmp .ne 7, 3) := by decide +kernel
theorem dX12_isFull_10 : decode cX12_isFull 10 = .ok (.iconst 1, 1) := by decide +kernel
theorem dX12_isFull_11 : decode cX12_isFull 11 = .ok (.goto 4, 3) := by decide +kernel
theorem dX12_isFull_14 : decode cX12_isFull 14 = .ok (.iconst 0, 1) := by decide +kernel
theorem dX12_isFull_15 : decode cX12_isFull 15 = .ok (.ireturn, 1) := by decide +kernel
theorem dX12_adds_0 : decode cX12_adds 0 = .ok (.aload_n 0, 1) := by decide +kernel
theorem dX12_adds_1 : decode cX12_adds 1 = .ok (.getfield 100, 3) := by decide +kernel
theorem dX12_adds_4 : decode cX12_adds 4 = .ok (.aload_n 0, 1) := by decide +kernel
theorem dX12_adds_5 : decode cX12_adds 5 = .ok (.getfield 141, 3) := by decide +kernel
theorem dX12_adds_8 : decode cX12_adds 8 = .ok (.iload_n 1, 1) := by decide +kernel
theorem dX12_adds_9 : decode cX12_adds 9 = .ok (.iastore, 1) := by decide +kernel
theorem dX12_adds_10 : decode cX12_adds 10 = .ok (.aload_n 0, 1) := by decide +kernel
theorem dX12_adds_11 : decode cX12_adds 11 = .ok (.dup, 1) := by decide +kernel
theorem dX12_adds_12 : decode cX12_adds 12 = .ok (.getfield 141, 3) := by decide +kernel
theorem dX12_adds_15 : decode cX12_adds 15 = .ok (.iconst 1, 1) := by decide +kernel
theorem dX12_adds_16 : decode cX12_adds 16 = .ok (.iadd, 1) := by decide +kernel
theorem dX12_adds_17 : decode cX12_adds 17 = .ok (.putfield 141, 3) := by decide +kernel
theorem dX12_adds_20 : decode cX12_adds 20 = .ok (.return_, 1) := by decide +kernel
theorem dX12_join_0 : decode cX12_join 0 = .ok (.aload_n 0, 1) := by decide +kernel
theorem dX12_join_1 : decode cX12_join 1 = .ok (.aload_n 0, 1) := by decide +kernel
theorem dX12_join_2 : decode cX12_join 2 = .ok (.iload_n 1, 1) := by decide +kernel
theorem dX12_join_3 : decode cX12_join 3 = .ok (.invokevirtual 144, 3) := by decide +kernel
theorem dX12_join_6 : decode cX12_join 6 = .ok (.ifCond .eq 11, 3) := by decide +kernel
theorem dX12_join_9 : decode cX12_join 9 = .ok (.aload_n 0, 1) := by decide +kernel
theorem dX12_join_10 : decode cX12_join 10 = .ok (.iload_n 2, 1) := by decide +kernel
theorem dX12_join_11 : decode cX12_join 11 = .ok (.invokevirtual 138, 3) := by decide +kernel
theorem dX12_join_14 : decode cX12_join 14 = .ok (.ifCond .ne 7, 3) := by decide +kernel
theorem dX12_join_17 : decode cX12_join 17 = .ok (.iconst 1, 1) := by decide +kernel
theorem dX12_join_18 : decode cX12_join 18 = .ok (.goto 26, 3) := by decide +kernel
theorem dX12_join_21 : decode cX12_join 21 = .ok (.aload_n 0, 1) := by decide +kernel
theorem dX12_join_22 : decode cX12_join 22 = .ok (.getfield 53, 3) := by decide +kernel
theorem dX12_join_25 : decode cX12_join 25 = .ok (.iload_n 1, 1) := by decide +kernel
theorem dX12_join_26 : decode cX12_join 26 = .ok (.aaload, 1) := by decide +kernel
theorem dX12_join_27 : decode cX12_join 27 = .ok (.iload_n 2, 1) := by decide +kernel
theorem dX12_join_28 : decode cX12_join 28 = .ok (.baload, 1) := by decide +kernel
theorem dX12_join_29 : decode cX12_join 29 = .ok (.ifCond .ne 10, 3) := by decide +kernel
theorem dX12_join_32 : decode cX12_join 32 = .ok (.aload_n 0, 1) := by decide +kernel
theorem dX12_join_33 : decode cX12_join 33 = .ok (.invokevirtual 147, 3) := by decide +kernel
theorem dX12_join_36 : decode cX12_join 36 = .ok (.ifCond .eq 7, 3) := by decide +kernel
theorem dX12_join_39 : decode cX12_join 39 = .ok (.iconst 2, 1) := by decide +kernel
theorem dX12_join_40 : decode cX12_join 40 = .ok (.goto 4, 3) := by decide +kernel
theorem dX12_join_43 : decode cX12_join 43 = .ok (.iconst 0, 1) := by decide +kernel
theorem dX12_join_44 : decode cX12_join 44 = .ok (.invokevirtual 134, 3) := by decide +kernel
theorem dX12_join_47 : decode cX12_join 47 = .ok (.ifCond .eq 5, 3) := by decide +kernel
theorem dX12_join_50 : decode cX12_join 50 = .ok (.iconst 0, 1) := by decide +kernel
theorem dX12_join_51 : decode cX12_join 51 = .ok (.ireturn, 1) := by decide +kernel
theorem dX12_join_52 : decode cX12_join 52 = .ok (.aload_n 0, 1) := by decide +kernel
theorem dX12_join_53 : decode cX12_join 53 = .ok (.getfield 53, 3) := by decide +kernel
theorem dX12_join_56 : decode cX12_join 56 = .ok (.iload_n 1, 1) := by decide +kernel
theorem dX12_join_57 : decode cX12_join 57 = .ok (.aaload, 1) := by decide +kernel
theorem dX12_join_58 : decode cX12_join 58 = .ok (.iload_n 2, 1) := by decide +kernel
theorem dX12_join_59 : decode cX12_join 59 = .ok (.iconst 1, 1) := by decide +kernel
theorem dX12_join_60 : decode cX12_join 60 = .ok (.bastore, 1) := by decide +kernel
theorem dX12_join_61 : decode cX12_join 61 = .ok (.aload_n 0, 1) := by decide +kernel
theorem dX12_join_62 : decode cX12_join 62 = .ok (.bipush 100, 2) := by decide +kernel
theorem dX12_join_64 : decode cX12_join 64 = .ok (.iload_n 1, 1) := by decide +kernel
theorem dX12_join_65 : decode cX12_join 65 = .ok (.iadd, 1) := by decide +kernel
theorem dX12_join_66 : decode cX12_join 66 = .ok (.iload_n 2, 1) := by decide +kernel
theorem dX12_join_67 : decode cX12_join 67 = .ok (.invokestatic 151, 3) := by decide +kernel
theorem dX12_join_70 : decode cX12_join 70 = .ok (.invokevirtual 154, 3) := by decide +kernel
theorem dX12_join_73 : decode cX12_join 73 = .ok (.iconst 0, 1) := by decide +kernel
theorem dX12_join_74 : decode cX12_join 74 = .ok (.istore_n 3, 1) := by decide +kernel
theorem dX12_join_75 : decode cX12_join 75 = .ok (.iconst 0, 1) := by decide +kernel
theorem dX12_join_76 : decode cX12_join 76 = .ok (.istore 4, 2) := by decide +kernel
theorem dX12_join_78 : decode cX12_join 78 = .ok (.iload 4, 2) := by decide +kernel
theorem dX12_join_80 : decode cX12_join 80 = .ok (.bipush 6, 2) := by decide +kernel
theorem dX12_join_82 : decode cX12_join 82 = .ok (.if_icmp .ge 29, 3) := by decide +kernel
theorem dX12_join_85 : decode cX12_join 85 = .ok (.iload_n 3, 1) := by decide +kernel
theorem dX12_join_86 : decode cX12_join 86 = .ok (.aload_n 0, 1) := by decide +kernel
theorem dX12_join_87 : decode cX12_join 87 = .ok (.getfield 53, 3) := by decide +kernel
theorem dX12_join_90 : decode cX12_join 90 = .ok (.iload_n 1, 1) := by decide +kernel
theorem dX12_join_91 : decode cX12_join 91 = .ok (.aaload, 1) := by decide +kernel
theorem dX12_join_92 : decode cX12_join 92 = .ok (.iload 4, 2) := by decide +kernel
theorem dX12_join_94 : decode cX12_join 94 = .ok (.baload, 1) := by decide +kernel
theorem dX12_join_95 : decode cX12_join 95 = .ok (.ifCond .eq 7, 3) := by decide +kernel
theorem dX12_join_98 : decode cX12_join 98 = .ok (.iconst 1, 1) := by decide +kernel
theorem dX12_join_99 : decode cX12_join 99 = .ok (.goto 4, 3) := by decide +kernel
theorem dX12_join_102 : decode cX12_join 102 = .ok (.iconst 0, 1) := by decide +kernel
theorem dX12_join_103 : decode cX12_join 103 = .ok (.iadd, 1) := by decide +kernel
theorem dX12_join_104 : decode cX12_join 104 = .ok (.istore_n 3, 1) := by decide +kernel
theorem dX12_join_105 : decode cX12_join 105 = .ok (.iinc 4 1, 3) := by decide +kernel
theorem dX12_join_108 : decode cX12_join 108 = .ok (.goto (-30), 3) := by decide +kernel
theorem dX12_join_111 : decode cX12_join 111 = .ok (.iload_n 3, 1) := by decide +kernel
theorem dX12_join_112 : decode cX12_join 112 = .ok (.ireturn, 1) := by decide +kernel
theorem dX12_leave_0 : decode cX12_leave 0 = .ok (.aload_n 0, 1) := by decide +kernel
theorem dX12_leave_1 : decode cX12_leave 1 = .ok (.aload_n 0, 1) := by decide +kernel
theorem dX12_leave_2 : decode cX12_leave 2 = .ok (.iload_n 1, 1) := by decide +kernel
theorem dX12_leave_3 : decode cX12_leave 3 = .ok (.invokevirtual 144, 3) := by decide +kernel
theorem dX12_leave_6 : decode cX12_leave 6 = .ok (.ifCond .eq 22, 3) := by decide +kernel
theorem dX12_leave_9 : decode cX12_leave 9 = .ok (.aload_n 0, 1) := by decide +kernel
theorem dX12_leave_10 : decode cX12_leave 10 = .ok (.iload_n 2, 1) := by decide +kernel
theorem dX12_leave_11 : decode cX12_leave 11 = .ok (.invokevirtual 138, 3) := by decide +kernel
theorem dX12_leave_14 : decode cX12_leave 14 = .ok (.ifCond .eq 14, 3) := by decide +kernel
theorem dX12_leave_17 : decode cX12_leave 17 = .ok (.aload_n 0, 1) := by decide +kernel
theorem dX12_leave_18 : decode cX12_leave 18 = .ok (.getfield 53, 3) := by decide +kernel
theorem dX12_leave_21 : decode cX12_leave 21 = .ok (.iload_n 1, 1) := by decide +kernel
theorem dX12_leave_22 : decode cX12_leave 22 = .ok (.aaload, 1) := by decide +kernel
theorem dX12_leave_23 : decode cX12_leave 23 = .ok (.iload_n 2, 1) := by decide +kernel
theorem dX12_leave_24 : decode cX12_leave 24 = .ok (.baload, 1) := by decide +kernel
theorem dX12_leave_25 : decode cX12_leave 25 = .ok (.ifCond .ne 7, 3) := by decide +kernel
theorem dX12_leave_28 : decode cX12_leave 28 = .ok (.iconst 1, 1) := by decide +kernel
theorem dX12_leave_29 : decode cX12_leave 29 = .ok (.goto 29, 3) := by decide +kernel
theorem dX12_leave_32 : decode cX12_leave 32 = .ok (.aload_n 0, 1) := by decide +kernel
theorem dX12_leave_33 : decode cX12_leave 33 = .ok (.getfield 42, 3) := by decide +kernel
theorem dX12_leave_36 : decode cX12_leave 36 = .ok (.iload_n 1, 1) := by decide +kernel
theorem dX12_leave_37 : decode cX12_leave 37 = .ok (.iaload, 1) := by decide +kernel
theorem dX12_leave_38 : decode cX12_leave 38 = .ok (.iload_n 2, 1) := by decide +kernel
theorem dX12_leave_39 : decode cX12_leave 39 = .ok (.if_icmp .ne 7, 3) := by decide +kernel
theorem dX12_leave_42 : decode cX12_leave 42 = .ok (.iconst 2, 1) := by decide +kernel
theorem dX12_leave_43 : decode cX12_leave 43 = .ok (.goto 15, 3) := by decide +kernel
theorem dX12_leave_46 : decode cX12_leave 46 = .ok (.aload_n 0, 1) := by decide +kernel
theorem dX12_leave_47 : decode cX12_leave 47 = .ok (.invokevirtual 147, 3) := by decide +kernel
theorem dX12_leave_50 : decode cX12_leave 50 = .ok (.ifCond .eq 7, 3) := by decide +kernel
theorem dX12_leave_53 : decode cX12_leave 53 = .ok (.iconst 3, 1) := by decide +kernel
theorem dX12_leave_54 : decode cX12_leave 54 = .ok (.goto 4, 3) := by decide +kernel
theorem dX12_leave_57 : decode cX12_leave 57 = .ok (.iconst 0, 1) := by decide +kernel
theorem dX12_leave_58 : decode cX12_leave 58 = .ok (.invokevirtual 134, 3) := by decide +kernel
theorem dX12_leave_61 : decode cX12_leave 61 = .ok (.ifCond .eq 5, 3) := by decide +kernel
theorem dX12_leave_64 : decode cX12_leave 64 = .ok (.iconst 0, 1) := by decide +kernel
theorem dX12_leave_65 : decode cX12_leave 65 = .ok (.ireturn, 1) := by decide +kernel
theorem dX12_leave_66 : decode cX12_leave 66 = .ok (.aload_n 0, 1) := by decide +kernel
theorem dX12_leave_67 : decode cX12_leave 67 = .ok (.getfield 58, 3) := by decide +kernel
theorem dX12_leave_70 : decode cX12_leave 70 = .ok (.iload_n 1, 1) := by decide +kernel
theorem dX12_leave_71 : decode cX12_leave 71 = .ok (.aaload, 1) := by decide +kernel
theorem dX12_leave_72 : decode cX12_leave 72 = .ok (.iload_n 2, 1) := by decide +kernel
theorem dX12_leave_73 : decode cX12_leave 73 = .ok (.aload_n 0, 1) := by decide +kernel
theorem dX12_leave_74 : decode cX12_leave 74 = .ok (.getfield 48, 3) := by decide +kernel
theorem dX12_leave_77 : decode cX12_leave 77 = .ok (.iload_n 1, 1) := by decide +kernel
theorem dX12_leave_78 : decode cX12_leave 78 = .ok (.iaload, 1) := by decide +kernel
theorem dX12_leave_79 : decode cX12_leave 79 = .ok (.iastore, 1) := by decide +kernel
theorem dX12_leave_80 : decode cX12_leave 80 = .ok (.aload_n 0, 1) := by decide +kernel
theorem dX12_leave_81 : decode cX12_leave 81 = .ok (.getfield 53, 3) := by decide +kernel
theorem dX12_leave_84 : decode cX12_leave 84 = .ok (.iload_n 1, 1) := by decide +kernel
theorem dX12_leave_85 : decode cX12_leave 85 = .ok (.aaload, 1) := by decide +kernel
theorem dX12_leave_86 : decode cX12_leave 86 = .ok (.iload_n 2, 1) := by decide +kernel
theorem dX12_leave_87 : decode cX12_leave 87 = .ok (.iconst 0, 1) := by decide +kernel
theorem dX12_leave_88 : decode cX12_leave 88 = .ok (.bastore, 1) := by decide +kernel
theorem dX12_leave_89 : decode cX12_leave 89 = .ok (.aload_n 0, 1) := by decide +kernel
theorem dX12_leave_90 : decode cX12_leave 90 = .ok (.getfield 48, 3) := by decide +kernel
theorem dX12_leave_93 : decode cX12_leave 93 = .ok (.iload_n 1, 1) := by decide +kernel
theorem dX12_leave_94 : decode cX12_leave 94 = .ok (.dup2, 1) := by decide +kernel
theorem dX12_leave_95 : decode cX12_leave 95 = .ok (.iaload, 1) := by decide +kernel
theorem dX12_leave_96 : decode cX12_leave 96 = .ok (.iconst 1, 1) := by decide +kernel
theorem dX12_leave_97 : decode cX12_leave 97 = .ok (.iadd, 1) := by decide +kernel
theorem dX12_leave_98 : decode cX12_leave 98 = .ok (.iastore, 1) := by decide +kernel
theorem dX12_leave_99 : decode cX12_leave 99 = .ok (.aload_n 0, 1) := by decide +kernel
theorem dX12_leave_100 : decode cX12_leave 100 = .ok (.sipush 200, 3) := by decide +kernel
theorem dX12_leave_103 : decode cX12_leave 103 = .ok (.iload_n 1, 1) := by decide +kernel
theorem dX12_leave_104 : decode cX12_leave 104 = .ok (.iadd, 1) := by decide +kernel
theorem dX12_leave_105 : decode cX12_leave 105 = .ok (.iload_n 2, 1) := by decide +kernel
theorem dX12_leave_106 : decode cX12_leave 106 = .ok (.invokestatic 151, 3) := by decide +kernel
theorem dX12_leave_109 : decode cX12_leave 109 = .ok (.invokevirtual 154, 3) := by decide +kernel
theorem dX12_leave_112 : decode cX12_leave 112 = .ok (.iconst 0, 1) := by decide +kernel
theorem dX12_leave_113 : decode cX12_leave 113 = .ok (.istore 4, 2) := by decide +kernel
theorem dX12_leave_115 : decode cX12_leave 115 = .ok (.iconst 0, 1) := by decide +kernel
theorem dX12_leave_116 : decode cX12_leave 116 = .ok (.istore 5, 2) := by decide +kernel
theorem dX12_leave_118 : decode cX12_leave 118 = .ok (.iload_n 3, 1) := by decide +kernel
theorem dX12_leave_119 : decode cX12_leave 119 = .ok (.ifCond .eq 123, 3) := by decide +kernel
theorem dX12_leave_122 : decode cX12_leave 122 = .ok (.iload 5, 2) := by decide +kernel
theorem dX12_leave_124 : decode cX12_leave 124 = .ok (.aload_n 0, 1) := by decide +kernel
theorem dX12_leave_125 : decode cX12_leave 125 = .ok (.getfield 131, 3) := by decide +kernel
theorem dX12_leave_128 : decode cX12_leave 128 = .ok (.if_icmp .ge 114, 3) := by decide +kernel
theorem dX12_leave_131 : decode cX12_leave 131 = .ok (.aload_n 0, 1) := by decide +kernel
theorem dX12_leave_132 : decode cX12_leave 132 = .ok (.getfield 61, 3) := by decide +kernel
theorem dX12_leave_135 : decode cX12_leave 135 = .ok (.iload 5, 2) := by decide +kernel
theorem dX12_leave_137 : decode cX12_leave 137 = .ok (.iaload, 1) := by decide +kernel
theorem dX12_leave_138 : decode cX12_leave 138 = .ok (.iload_n 1, 1) := by decide +kernel
theorem dX12_leave_139 : decode cX12_leave 139 = .ok (.if_icmp .ne 97, 3) := by decide +kernel
theorem dX12_leave_142 : decode cX12_leave 142 = .ok (.aload_n 0, 1) := by decide +kernel
theorem dX12_leave_143 : decode cX12_leave 143 = .ok (.getfield 85, 3) := by decide +kernel
theorem dX12_leave_146 : decode cX12_leave 146 = .ok (.iload 5, 2) := by decide +kernel
theorem dX12_leave_148 : decode cX12_leave 148 = .ok (.baload, 1) := by decide +kernel
theorem dX12_leave_149 : decode cX12_leave 149 = .ok (.ifCond .ne 87, 3) := by decide +kernel
theorem dX12_leave_152 : decode cX12_leave 152 = .ok (.aload_n 0, 1) := by decide +kernel
theorem dX12_leave_153 : decode cX12_leave 153 = .ok (.iload 5, 2) := by decide +kernel
theorem dX12_leave_155 : decode cX12_leave 155 = .ok (.invokevirtual 158, 3) := by decide +kernel
theorem dX12_leave_158 : decode cX12_leave 158 = .ok (.ifCond .eq 6, 3) := by decide +kernel
theorem dX12_leave_161 : decode cX12_leave 161 = .ok (.goto 75, 3) := by decide +kernel
theorem dX12_leave_164 : decode cX12_leave 164 = .ok (.aload_n 0, 1) := by decide +kernel
theorem dX12_leave_165 : decode cX12_leave 165 = .ok (.iload 5, 2) := by decide +kernel
theorem dX12_leave_167 : decode cX12_leave 167 = .ok (.invokevirtual 161, 3) := by decide +kernel
theorem dX12_leave_170 : decode cX12_leave 170 = .ok (.iconst 0, 1) := by decide +kernel
theorem dX12_leave_171 : decode cX12_leave 171 = .ok (.istore 6, 2) := by decide +kernel
theorem dX12_leave_173 : decode cX12_leave 173 = .ok (.iload 6, 2) := by decide +kernel
theorem dX12_leave_175 : decode cX12_leave 175 = .ok (.bipush 8, 2) := by decide +kernel
theorem dX12_leave_177 : decode cX12_leave 177 = .ok (.if_icmp .ge 46, 3) := by decide +kernel
theorem dX12_leave_180 : decode cX12_leave 180 = .ok (.aload_n 0, 1) := by decide +kernel
theorem dX12_leave_181 : decode cX12_leave 181 = .ok (.getfield 76, 3) := by decide +kernel
theorem dX12_leave_184 : decode cX12_leave 184 = .ok (.iload 5, 2) := by decide +kernel
theorem dX12_leave_186 : decode cX12_leave 186 = .ok (.aaload, 1) := by decide +kernel
theorem dX12_leave_187 : decode cX12_leave 187 = .ok (.iload 6, 2) := by decide +kernel
theorem dX12_leave_189 : decode cX12_leave 189 = .ok (.iaload, 1) := by decide +kernel
theorem dX12_leave_190 : decode cX12_leave 190 = .ok (.ifCond .ne 6, 3) := by decide +kernel
theorem dX12_leave_193 : decode cX12_leave 193 = .ok (.goto 24, 3) := by decide +kernel
theorem dX12_leave_196 : decode cX12_leave 196 = .ok (.aload_n 0, 1) := by decide +kernel
theorem dX12_leave_197 : decode cX12_leave 197 = .ok (.iload 5, 2) := by decide +kernel
theorem dX12_leave_199 : decode cX12_leave 199 = .ok (.iload 6, 2) := by decide +kernel
theorem dX12_leave_201 : decode cX12_leave 201 = .ok (.aload_n 0, 1) := by decide +kernel
theorem dX12_leave_202 : decode cX12_leave 202 = .ok (.getfield 82, 3) := by decide +kernel
theorem dX12_leave_205 : decode cX12_leave 205 = .ok (.iload 5, 2) := by decide +kernel
theorem dX12_leave_207 : decode cX12_leave 207 = .ok (.aaload, 1) := by decide +kernel
theorem dX12_leave_208 : decode cX12_leave 208 = .ok (.iload 6, 2) := by decide +kernel
theorem dX12_leave_210 : decode cX12_leave 210 = .ok (.iaload, 1) := by decide +kernel
theorem dX12_leave_211 : decode cX12_leave 211 = .ok (.invokevirtual 164, 3) := by decide +kernel
theorem dX12_leave_214 : decode cX12_leave 214 = .ok (.iinc 4 1, 3) := by decide +kernel
theorem dX12_leave_217 : decode cX12_leave 217 = .ok (.iinc 6 1, 3) := by decide +kernel
theorem dX12_leave_220 : decode cX12_leave 220 = .ok (.goto (-47), 3) := by decide +kernel
theorem dX12_leave_223 : decode cX12_leave 223 = .ok (.aload_n 0, 1) := by decide +kernel
theorem dX12_leave_224 : decode cX12_leave 224 = .ok (.getfield 67, 3) := by decide +kernel
theorem dX12_leave_227 : decode cX12_leave 227 = .ok (.iload 5, 2) := by decide +kernel
theorem dX12_leave_229 : decode cX12_leave 229 = .ok (.aload_n 0, 1) := by decide +kernel
theorem dX12_leave_230 : decode cX12_leave 230 = .ok (.iload 5, 2) := by decide +kernel
theorem dX12_leave_232 : decode cX12_leave 232 = .ok (.invokevirtual 168, 3) := by decide +kernel
theorem dX12_leave_235 : decode cX12_leave 235 = .ok (.iastore, 1) := by decide +kernel
theorem dX12_leave_236 : decode cX12_leave 236 = .ok (.iinc 5 1, 3) := by decide +kernel
theorem dX12_leave_239 : decode cX12_leave 239 = .ok (.goto (-121), 3) := by decide +kernel
theorem dX12_leave_242 : decode cX12_leave 242 = .ok (.iload 4, 2) := by decide +kernel
theorem dX12_leave_244 : decode cX12_leave 244 = .ok (.ireturn, 1) := by decide +kernel
theorem dX12_isMember_0 : decode cX12_isMember 0 = .ok (.aload_n 0, 1) := by decide +kernel
theorem dX12_isMember_1 : decode cX12_isMember 1 = .ok (.aload_n 0, 1) := by decide +kernel
theorem dX12_isMember_2 : decode cX12_isMember 2 = .ok (.iload_n 1, 1) := by decide +kernel
theorem dX12_isMember_3 : decode cX12_isMember 3 = .ok (.invokevirtual 144, 3) := by decide +kernel
theorem dX12_isMember_6 : decode cX12_isMember 6 = .ok (.ifCond .eq 15, 3) := by decide +kernel
theorem dX12_isMember_9 : decode cX12_isMember 9 = .ok (.aload_n 0, 1) := by decide +kernel
theorem dX12_isMember_10 : decode cX12_isMember 10 = .ok (.iload_n 2, 1) := by decide +kernel
theorem dX12_isMember_11 : decode cX12_isMember 11 = .ok (.invokevirtual 138, 3) := by decide +kernel
theorem dX12_isMember_14 : decode cX12_isMember 14 = .ok (.ifCond .eq 7, 3) := by decide +kernel
theorem dX12_isMember_17 : decode cX12_isMember 17 = .ok (.iconst 0, 1) := by decide +kernel
theorem dX12_isMember_18 : decode cX12_isMember 18 = .ok (.goto 4, 3) := by decide +kernel
theorem dX12_isMember_21 : decode cX12_isMember 21 = .ok (.iconst 1, 1) := by decide +kernel
theorem dX12_isMember_22 : decode cX12_isMember 22 = .ok (.invokevirtual 134, 3) := by decide +kernel
theorem dX12_isMember_25 : decode cX12_isMember 25 = .ok (.ifCond .ne 18, 3) := by decide +kernel
theorem dX12_isMember_28 : decode cX12_isMember 28 = .ok (.aload_n 0, 1) := by decide +kernel
theorem dX12_isMember_29 : decode cX12_isMember 29 = .ok (.getfield 53, 3) := by decide +kernel
theorem dX12_isMember_32 : decode cX12_isMember 32 = .ok (.iload_n 1, 1) := by decide +kernel
theorem dX12_isMember_33 : decode cX12_isMember 33 = .ok (.aaload, 1) := by decide +kernel
theorem dX12_isMember_34 : decode cX12_isMember 34 = .ok (.iload_n 2, 1) := by decide +kernel
theorem dX12_isMember_35 : decode cX12_isMember 35 = .ok (.baload, 1) := by decide +kernel
theorem dX12_isMember_36 : decode cX12_isMember 36 = .ok (.ifCond .eq 7, 3) := by decide +kernel
theorem dX12_isMember_39 : decode cX12_isMember 39 = .ok (.iconst 1, 1) := by decide +kernel
theorem dX12_isMember_40 : decode cX12_isMember 40 = .ok (.goto 4, 3) := by decide +kernel
theorem dX12_isMember_43 : decode cX12_isMember 43 = .ok (.iconst 0, 1) := by decide +kernel
theorem dX12_isMember_44 : decode cX12_isMember 44 = .ok (.ireturn, 1) := by decide +kernel
theorem dX12_epoch_0 : decode cX12_epoch 0 = .ok (.aload_n 0, 1) := by decide +kernel
theorem dX12_epoch_1 : decode cX12_epoch 1 = .ok (.aload_n 0, 1) := by decide +kernel
theorem dX12_epoch_2 : decode cX12_epoch 2 = .ok (.iload_n 1, 1) := by decide +kernel
theorem dX12_epoch_3 : decode cX12_epoch 3 = .ok (.invokevirtual 144, 3) := by decide +kernel
theorem dX12_epoch_6 : decode cX12_epoch 6 = .ok (.ifCond .eq 7, 3) := by decide +kernel
theorem dX12_epoch_9 : decode cX12_epoch 9 = .ok (.iconst 0, 1) := by decide +kernel
theorem dX12_epoch_10 : decode cX12_epoch 10 = .ok (.goto 4, 3) := by decide +kernel
theorem dX12_epoch_13 : decode cX12_epoch 13 = .ok (.iconst 1, 1) := by decide +kernel
theorem dX12_epoch_14 : decode cX12_epoch 14 = .ok (.invokevirtual 134, 3) := by decide +kernel
theorem dX12_epoch_17 : decode cX12_epoch 17 = .ok (.ifCond .eq 7, 3) := by decide +kernel
theorem dX12_epoch_20 : decode cX12_epoch 20 = .ok (.iconst 0, 1) := by decide +kernel
theorem dX12_epoch_21 : decode cX12_epoch 21 = .ok (.goto 9, 3) := by decide +kernel
theorem dX12_epoch_24 : decode cX12_epoch 24 = .ok (.aload_n 0, 1) := by decide +kernel
theorem dX12_epoch_25 : decode cX12_epoch 25 = .ok (.getfield 48, 3) := by decide +kernel
theorem dX12_epoch_28 : decode cX12_epoch 28 = .ok (.iload_n 1, 1) := by decide +kernel
theorem dX12_epoch_29 : decode cX12_epoch 29 = .ok (.iaload, 1) := by decide +kernel
theorem dX12_epoch_30 : decode cX12_epoch 30 = .ok (.ireturn, 1) := by decide +kernel
theorem dX12_latest_0 : decode cX12_latest 0 = .ok (.aload_n 0, 1) := by decide +kernel
theorem dX12_latest_1 : decode cX12_latest 1 = .ok (.getfield 53, 3) := by decide +kernel
theorem dX12_latest_4 : decode cX12_latest 4 = .ok (.iload_n 1, 1) := by decide +kernel
theorem dX12_latest_5 : decode cX12_latest 5 = .ok (.aaload, 1) := by decide +kernel
theorem dX12_latest_6 : decode cX12_latest 6 = .ok (.iload_n 2, 1) := by decide +kernel
theorem dX12_latest_7 : decode cX12_latest 7 = .ok (.baload, 1) := by decide +kernel
theorem dX12_latest_8 : decode cX12_latest 8 = .ok (.ifCond .eq 12, 3) := by decide +kernel
theorem dX12_latest_11 : decode cX12_latest 11 = .ok (.aload_n 0, 1) := by decide +kernel
theorem dX12_latest_12 : decode cX12_latest 12 = .ok (.getfield 48, 3) := by decide +kernel
theorem dX12_latest_15 : decode cX12_latest 15 = .ok (.iload_n 1, 1) := by decide +kernel
theorem dX12_latest_16 : decode cX12_latest 16 = .ok (.iaload, 1) := by decide +kernel
theorem dX12_latest_17 : decode cX12_latest 17 = .ok (.goto 11, 3) := by decide +kernel
theorem dX12_latest_20 : decode cX12_latest 20 = .ok (.aload_n 0, 1) := by decide +kernel
theorem dX12_latest_21 : decode cX12_latest 21 = .ok (.getfield 58, 3) := by decide +kernel
theorem dX12_latest_24 : decode cX12_latest 24 = .ok (.iload_n 1, 1) := by decide +kernel
theorem dX12_latest_25 : decode cX12_latest 25 = .ok (.aaload, 1) := by decide +kernel
theorem dX12_latest_26 : decode cX12_latest 26 = .ok (.iload_n 2, 1) := by decide +kernel
theorem dX12_latest_27 : decode cX12_latest 27 = .ok (.iaload, 1) := by decide +kernel
theorem dX12_latest_28 : decode cX12_latest 28 = .ok (.ireturn, 1) := by decide +kernel
theorem dX12_known_0 : decode cX12_known 0 = .ok (.aload_n 0, 1) := by decide +kernel
theorem dX12_known_1 : decode cX12_known 1 = .ok (.aload_n 0, 1) := by decide +kernel
theorem dX12_known_2 : decode cX12_known 2 = .ok (.iload_n 1, 1) := by decide +kernel
theorem dX12_known_3 : decode cX12_known 3 = .ok (.invokevirtual 144, 3) := by decide +kernel
theorem dX12_known_6 : decode cX12_known 6 = .ok (.ifCond .eq 15, 3) := by decide +kernel
theorem dX12_known_9 : decode cX12_known 9 = .ok (.aload_n 0, 1) := by decide +kernel
theorem dX12_known_10 : decode cX12_known 10 = .ok (.iload_n 2, 1) := by decide +kernel
theorem dX12_known_11 : decode cX12_known 11 = .ok (.invokevirtual 138, 3) := by decide +kernel
theorem dX12_known_14 : decode cX12_known 14 = .ok (.ifCond .eq 7, 3) := by decide +kernel
theorem dX12_known_17 : decode cX12_known 17 = .ok (.iconst 0, 1) := by decide +kernel
theorem dX12_known_18 : decode cX12_known 18 = .ok (.goto 4, 3) := by decide +kernel
theorem dX12_known_21 : decode cX12_known 21 = .ok (.iconst 1, 1) := by decide +kernel
theorem dX12_known_22 : decode cX12_known 22 = .ok (.invokevirtual 134, 3) := by decide +kernel
theorem dX12_known_25 : decode cX12_known 25 = .ok (.ifCond .eq 7, 3) := by decide +kernel
theorem dX12_known_28 : decode cX12_known 28 = .ok (.iconst 0, 1) := by decide +kernel
theorem dX12_known_29 : decode cX12_known 29 = .ok (.goto 9, 3) := by decide +kernel
theorem dX12_known_32 : decode cX12_known 32 = .ok (.aload_n 0, 1) := by decide +kernel
theorem dX12_known_33 : decode cX12_known 33 = .ok (.iload_n 1, 1) := by decide +kernel
theorem dX12_known_34 : decode cX12_known 34 = .ok (.iload_n 2, 1) := by decide +kernel
theorem dX12_known_35 : decode cX12_known 35 = .ok (.invokevirtual 172, 3) := by decide +kernel
theorem dX12_known_38 : decode cX12_known 38 = .ok (.ireturn, 1) := by decide +kernel
theorem dX12_addFile_0 : decode cX12_addFile 0 = .ok (.aload_n 0, 1) := by decide +kernel
theorem dX12_addFile_1 : decode cX12_addFile 1 = .ok (.aload_n 0, 1) := by decide +kernel
theorem dX12_addFile_2 : decode cX12_addFile 2 = .ok (.iload_n 1, 1) := by decide +kernel
theorem dX12_addFile_3 : decode cX12_addFile 3 = .ok (.invokevirtual 144, 3) := by decide +kernel
theorem dX12_addFile_6 : decode cX12_addFile 6 = .ok (.ifCond .eq 11, 3) := by decide +kernel
theorem dX12_addFile_9 : decode cX12_addFile 9 = .ok (.aload_n 0, 1) := by decide +kernel
theorem dX12_addFile_10 : decode cX12_addFile 10 = .ok (.iload_n 2, 1) := by decide +kernel
theorem dX12_addFile_11 : decode cX12_addFile 11 = .ok (.invokevirtual 138, 3) := by decide +kernel
theorem dX12_addFile_14 : decode cX12_addFile 14 = .ok (.ifCond .ne 7, 3) := by decide +kernel
theorem dX12_addFile_17 : decode cX12_addFile 17 = .ok (.iconst 1, 1) := by decide +kernel
theorem dX12_addFile_18 : decode cX12_addFile 18 = .ok (.goto 32, 3) := by decide +kernel
theorem dX12_addFile_21 : decode cX12_addFile 21 = .ok (.aload_n 0, 1) := by decide +kernel
theorem dX12_addFile_22 : decode cX12_addFile 22 = .ok (.getfield 53, 3) := by decide +kernel
theorem dX12_addFile_25 : decode cX12_addFile 25 = .ok (.iload_n 1, 1) := by decide +kernel
theorem dX12_addFile_26 : decode cX12_addFile 26 = .ok (.aaload, 1) := by decide +kernel
theorem dX12_addFile_27 : decode cX12_addFile 27 = .ok (.iload_n 2, 1) := by decide +kernel
theorem dX12_addFile_28 : decode cX12_addFile 28 = .ok (.baload, 1) := by decide +kernel
theorem dX12_addFile_29 : decode cX12_addFile 29 = .ok (.ifCond .ne 7, 3) := by decide +kernel
theorem dX12_addFile_32 : decode cX12_addFile 32 = .ok (.iconst 2, 1) := by decide +kernel
theorem dX12_addFile_33 : decode cX12_addFile 33 = .ok (.goto 17, 3) := by decide +kernel
theorem dX12_addFile_36 : decode cX12_addFile 36 = .ok (.aload_n 0, 1) := by decide +kernel
theorem dX12_addFile_37 : decode cX12_addFile 37 = .ok (.getfield 131, 3) := by decide +kernel
theorem dX12_addFile_40 : decode cX12_addFile 40 = .ok (.bipush 20, 2) := by decide +kernel
theorem dX12_addFile_42 : decode cX12_addFile 42 = .ok (.if_icmp .ne 7, 3) := by decide +kernel
theorem dX12_addFile_45 : decode cX12_addFile 45 = .ok (.iconst 3, 1) := by decide +kernel
theorem dX12_addFile_46 : decode cX12_addFile 46 = .ok (.goto 4, 3) := by decide +kernel
theorem dX12_addFile_49 : decode cX12_addFile 49 = .ok (.iconst 0, 1) := by decide +kernel
theorem dX12_addFile_50 : decode cX12_addFile 50 = .ok (.invokevirtual 134, 3) := by decide +kernel
theorem dX12_addFile_53 : decode cX12_addFile 53 = .ok (.ifCond .eq 5, 3) := by decide +kernel
theorem dX12_addFile_56 : decode cX12_addFile 56 = .ok (.iconst 0, 1) := by decide +kernel
theorem dX12_addFile_57 : decode cX12_addFile 57 = .ok (.ireturn, 1) := by decide +kernel
theorem dX12_addFile_58 : decode cX12_addFile 58 = .ok (.aload_n 0, 1) := by decide +kernel
theorem dX12_addFile_59 : decode cX12_addFile 59 = .ok (.getfield 61, 3) := by decide +kernel
theorem dX12_addFile_62 : decode cX12_addFile 62 = .ok (.aload_n 0, 1) := by decide +kernel
theorem dX12_addFile_63 : decode cX12_addFile 63 = .ok (.getfield 131, 3) := by decide +kernel
theorem dX12_addFile_66 : decode cX12_addFile 66 = .ok (.iload_n 1, 1) := by decide +kernel
theorem dX12_addFile_67 : decode cX12_addFile 67 = .ok (.iastore, 1) := by decide +kernel
theorem dX12_addFile_68 : decode cX12_addFile 68 = .ok (.aload_n 0, 1) := by decide +kernel
theorem dX12_addFile_69 : decode cX12_addFile 69 = .ok (.getfield 70, 3) := by decide +kernel
theorem dX12_addFile_72 : decode cX12_addFile 72 = .ok (.aload_n 0, 1) := by decide +kernel
theorem dX12_addFile_73 : decode cX12_addFile 73 = .ok (.getfield 131, 3) := by decide +kernel
theorem dX12_addFile_76 : decode cX12_addFile 76 = .ok (.aaload, 1) := by decide +kernel
theorem dX12_addFile_77 : decode cX12_addFile 77 = .ok (.iconst 0, 1) := by decide +kernel
theorem dX12_addFile_78 : decode cX12_addFile 78 = .ok (.aload_n 0, 1) := by decide +kernel
theorem dX12_addFile_79 : decode cX12_addFile 79 = .ok (.getfield 48, 3) := by decide +kernel
theorem dX12_addFile_82 : decode cX12_addFile 82 = .ok (.iload_n 1, 1) := by decide +kernel
theorem dX12_addFile_83 : decode cX12_addFile 83 = .ok (.iaload, 1) := by decide +kernel
theorem dX12_addFile_84 : decode cX12_addFile 84 = .ok (.iastore, 1) := by decide +kernel
theorem dX12_addFile_85 : decode cX12_addFile 85 = .ok (.aload_n 0, 1) := by decide +kernel
theorem dX12_addFile_86 : decode cX12_addFile 86 = .ok (.getfield 67, 3) := by decide +kernel
theorem dX12_addFile_89 : decode cX12_addFile 89 = .ok (.aload_n 0, 1) := by decide +kernel
theorem dX12_addFile_90 : decode cX12_addFile 90 = .ok (.getfield 131, 3) := by decide +kernel
theorem dX12_addFile_93 : decode cX12_addFile 93 = .ok (.bipush 6, 2) := by decide +kernel
theorem dX12_addFile_95 : decode cX12_addFile 95 = .ok (.aload_n 0, 1) := by decide +kernel
theorem dX12_addFile_96 : decode cX12_addFile 96 = .ok (.getfield 131, 3) := by decide +kernel
theorem dX12_addFile_99 : decode cX12_addFile 99 = .ok (.invokestatic 151, 3) := by decide +kernel
theorem dX12_addFile_102 : decode cX12_addFile 102 = .ok (.iastore, 1) := by decide +kernel
theorem dX12_addFile_103 : decode cX12_addFile 103 = .ok (.aload_n 0, 1) := by decide +kernel
theorem dX12_addFile_104 : decode cX12_addFile 104 = .ok (.dup, 1) := by decide +kernel
theorem dX12_addFile_105 : decode cX12_addFile 105 = .ok (.getfield 131, 3) := by decide +kernel
theorem dX12_addFile_108 : decode cX12_addFile 108 = .ok (.iconst 1, 1) := by decide +kernel
theorem dX12_addFile_109 : decode cX12_addFile 109 = .ok (.iadd, 1) := by decide +kernel
theorem dX12_addFile_110 : decode cX12_addFile 110 = .ok (.putfield 131, 3) := by decide +kernel
theorem dX12_addFile_113 : decode cX12_addFile 113 = .ok (.aload_n 0, 1) := by decide +kernel
theorem dX12_addFile_114 : decode cX12_addFile 114 = .ok (.getfield 131, 3) := by decide +kernel
theorem dX12_addFile_117 : decode cX12_addFile 117 = .ok (.iconst 1, 1) := by decide +kernel
theorem dX12_addFile_118 : decode cX12_addFile 118 = .ok (.isub, 1) := by decide +kernel
theorem dX12_addFile_119 : decode cX12_addFile 119 = .ok (.ireturn, 1) := by decide +kernel
theorem dX12_turns_0 : decode cX12_turns 0 = .ok (.aload_n 0, 1) := by decide +kernel
theorem dX12_turns_1 : decode cX12_turns 1 = .ok (.getfield 64, 3) := by decide +kernel
theorem dX12_turns_4 : decode cX12_turns 4 = .ok (.iload_n 1, 1) := by decide +kernel
theorem dX12_turns_5 : decode cX12_turns 5 = .ok (.dup2, 1) := by decide +kernel
theorem dX12_turns_6 : decode cX12_turns 6 = .ok (.iaload, 1) := by decide +kernel
theorem dX12_turns_7 : decode cX12_turns 7 = .ok (.iconst 1, 1) := by decide +kernel
theorem dX12_turns_8 : decode cX12_turns 8 = .ok (.iadd, 1) := by decide +kernel
theorem dX12_turns_9 : decode cX12_turns 9 = .ok (.iastore, 1) := by decide +kernel
theorem dX12_turns_10 : decode cX12_turns 10 = .ok (.aload_n 0, 1) := by decide +kernel
theorem dX12_turns_11 : decode cX12_turns 11 = .ok (.getfield 64, 3) := by decide +kernel
theorem dX12_turns_14 : decode cX12_turns 14 = .ok (.iload_n 1, 1) := by decide +kernel
theorem dX12_turns_15 : decode cX12_turns 15 = .ok (.iaload, 1) := by decide +kernel
theorem dX12_turns_16 : decode cX12_turns 16 = .ok (.aload_n 0, 1) := by decide +kernel
theorem dX12_turns_17 : decode cX12_turns 17 = .ok (.getfield 70, 3) := by decide +kernel
theorem dX12_turns_20 : decode cX12_turns 20 = .ok (.iload_n 1, 1) := by decide +kernel
theorem dX12_turns_21 : decode cX12_turns 21 = .ok (.aaload, 1) := by decide +kernel
theorem dX12_turns_22 : decode cX12_turns 22 = .ok (.arraylength, 1) := by decide +kernel
theorem dX12_turns_23 : decode cX12_turns 23 = .ok (.if_icmp .ne 50, 3) := by decide +kernel
theorem dX12_turns_26 : decode cX12_turns 26 = .ok (.iconst 2, 1) := by decide +kernel
theorem dX12_turns_27 : decode cX12_turns 27 = .ok (.aload_n 0, 1) := by decide +kernel
theorem dX12_turns_28 : decode cX12_turns 28 = .ok (.getfield 64, 3) := by decide +kernel
theorem dX12_turns_31 : decode cX12_turns 31 = .ok (.iload_n 1, 1) := by decide +kernel
theorem dX12_turns_32 : decode cX12_turns 32 = .ok (.iaload, 1) := by decide +kernel
theorem dX12_turns_33 : decode cX12_turns 33 = .ok (.imul, 1) := by decide +kernel
theorem dX12_turns_34 : decode cX12_turns 34 = .ok (.newarray .int, 2) := by decide +kernel
theorem dX12_turns_36 : decode cX12_turns 36 = .ok (.astore_n 2, 1) := by decide +kernel
theorem dX12_turns_37 : decode cX12_turns 37 = .ok (.iconst 0, 1) := by decide +kernel
theorem dX12_turns_38 : decode cX12_turns 38 = .ok (.istore_n 3, 1) := by decide +kernel
theorem dX12_turns_39 : decode cX12_turns 39 = .ok (.iload_n 3, 1) := by decide +kernel
theorem dX12_turns_40 : decode cX12_turns 40 = .ok (.aload_n 0, 1) := by decide +kernel
theorem dX12_turns_41 : decode cX12_turns 41 = .ok (.getfield 64, 3) := by decide +kernel
theorem dX12_turns_44 : decode cX12_turns 44 = .ok (.iload_n 1, 1) := by decide +kernel
theorem dX12_turns_45 : decode cX12_turns 45 = .ok (.iaload, 1) := by decide +kernel
theorem dX12_turns_46 : decode cX12_turns 46 = .ok (.if_icmp .ge 20, 3) := by decide +kernel
theorem dX12_turns_49 : decode cX12_turns 49 = .ok (.aload_n 2, 1) := by decide +kernel
theorem dX12_turns_50 : decode cX12_turns 50 = .ok (.iload_n 3, 1) := by decide +kernel
theorem dX12_turns_51 : decode cX12_turns 51 = .ok (.aload_n 0, 1) := by decide +kernel
theorem dX12_turns_52 : decode cX12_turns 52 = .ok (.getfield 70, 3) := by decide +kernel
theorem dX12_turns_55 : decode cX12_turns 55 = .ok (.iload_n 1, 1) := by decide +kernel
theorem dX12_turns_56 : decode cX12_turns 56 = .ok (.aaload, 1) := by decide +kernel
theorem dX12_turns_57 : decode cX12_turns 57 = .ok (.iload_n 3, 1) := by decide +kernel
theorem dX12_turns_58 : decode cX12_turns 58 = .ok (.iaload, 1) := by decide +kernel
theorem dX12_turns_59 : decode cX12_turns 59 = .ok (.iastore, 1) := by decide +kernel
theorem dX12_turns_60 : decode cX12_turns 60 = .ok (.iinc 3 1, 3) := by decide +kernel
theorem dX12_turns_63 : decode cX12_turns 63 = .ok (.goto (-24), 3) := by decide +kernel
theorem dX12_turns_66 : decode cX12_turns 66 = .ok (.aload_n 0, 1) := by decide +kernel
theorem dX12_turns_67 : decode cX12_turns 67 = .ok (.getfield 70, 3) := by decide +kernel
theorem dX12_turns_70 : decode cX12_turns 70 = .ok (.iload_n 1, 1) := by decide +kernel
theorem dX12_turns_71 : decode cX12_turns 71 = .ok (.aload_n 2, 1) := by decide +kernel
theorem dX12_turns_72 : decode cX12_turns 72 = .ok (.aastore, 1) := by decide +kernel
theorem dX12_turns_73 : decode cX12_turns 73 = .ok (.aload_n 0, 1) := by decide +kernel
theorem dX12_turns_74 : decode cX12_turns 74 = .ok (.getfield 70, 3) := by decide +kernel
theorem dX12_turns_77 : decode cX12_turns 77 = .ok (.iload_n 1, 1) := by decide +kernel
theorem dX12_turns_78 : decode cX12_turns 78 = .ok (.aaload, 1) := by decide +kernel
theorem dX12_turns_79 : decode cX12_turns 79 = .ok (.aload_n 0, 1) := by decide +kernel
theorem dX12_turns_80 : decode cX12_turns 80 = .ok (.getfield 64, 3) := by decide +kernel
theorem dX12_turns_83 : decode cX12_turns 83 = .ok (.iload_n 1, 1) := by decide +kernel
theorem dX12_turns_84 : decode cX12_turns 84 = .ok (.iaload, 1) := by decide +kernel
theorem dX12_turns_85 : decode cX12_turns 85 = .ok (.aload_n 0, 1) := by decide +kernel
theorem dX12_turns_86 : decode cX12_turns 86 = .ok (.getfield 48, 3) := by decide +kernel
theorem dX12_turns_89 : decode cX12_turns 89 = .ok (.aload_n 0, 1) := by decide +kernel
theorem dX12_turns_90 : decode cX12_turns 90 = .ok (.getfield 61, 3) := by decide +kernel
theorem dX12_turns_93 : decode cX12_turns 93 = .ok (.iload_n 1, 1) := by decide +kernel
theorem dX12_turns_94 : decode cX12_turns 94 = .ok (.iaload, 1) := by decide +kernel
theorem dX12_turns_95 : decode cX12_turns 95 = .ok (.iaload, 1) := by decide +kernel
theorem dX12_turns_96 : decode cX12_turns 96 = .ok (.iastore, 1) := by decide +kernel
theorem dX12_turns_97 : decode cX12_turns 97 = .ok (.return_, 1) := by decide +kernel
theorem dX12_keyOf_0 : decode cX12_keyOf 0 = .ok (.iconst 4, 1) := by decide +kernel
theorem dX12_keyOf_1 : decode cX12_keyOf 1 = .ok (.iload_n 0, 1) := by decide +kernel
theorem dX12_keyOf_2 : decode cX12_keyOf 2 = .ok (.invokestatic 151, 3) := by decide +kernel
theorem dX12_keyOf_5 : decode cX12_keyOf 5 = .ok (.iload_n 1, 1) := by decide +kernel
theorem dX12_keyOf_6 : decode cX12_keyOf 6 = .ok (.invokestatic 151, 3) := by decide +kernel
theorem dX12_keyOf_9 : decode cX12_keyOf 9 = .ok (.iload_n 2, 1) := by decide +kernel
theorem dX12_keyOf_10 : decode cX12_keyOf 10 = .ok (.invokestatic 151, 3) := by decide +kernel
theorem dX12_keyOf_13 : decode cX12_keyOf 13 = .ok (.ireturn, 1) := by decide +kernel
theorem dX12_lays_0 : decode cX12_lays 0 = .ok (.aload_n 0, 1) := by decide +kernel
theorem dX12_lays_1 : decode cX12_lays 1 = .ok (.getfield 82, 3) := by decide +kernel
theorem dX12_lays_4 : decode cX12_lays 4 = .ok (.iload_n 1, 1) := by decide +kernel
theorem dX12_lays_5 : decode cX12_lays 5 = .ok (.aaload, 1) := by decide +kernel
theorem dX12_lays_6 : decode cX12_lays 6 = .ok (.iload_n 2, 1) := by decide +kernel
theorem dX12_lays_7 : decode cX12_lays 7 = .ok (.iload_n 3, 1) := by decide +kernel
theorem dX12_lays_8 : decode cX12_lays 8 = .ok (.iastore, 1) := by decide +kernel
theorem dX12_lays_9 : decode cX12_lays 9 = .ok (.aload_n 0, 1) := by decide +kernel
theorem dX12_lays_10 : decode cX12_lays 10 = .ok (.getfield 73, 3) := by decide +kernel
theorem dX12_lays_13 : decode cX12_lays 13 = .ok (.iload_n 1, 1) := by decide +kernel
theorem dX12_lays_14 : decode cX12_lays 14 = .ok (.aaload, 1) := by decide +kernel
theorem dX12_lays_15 : decode cX12_lays 15 = .ok (.iload_n 2, 1) := by decide +kernel
theorem dX12_lays_16 : decode cX12_lays 16 = .ok (.aload_n 0, 1) := by decide +kernel
theorem dX12_lays_17 : decode cX12_lays 17 = .ok (.getfield 64, 3) := by decide +kernel
theorem dX12_lays_20 : decode cX12_lays 20 = .ok (.iload_n 1, 1) := by decide +kernel
theorem dX12_lays_21 : decode cX12_lays 21 = .ok (.iaload, 1) := by decide +kernel
theorem dX12_lays_22 : decode cX12_lays 22 = .ok (.iastore, 1) := by decide +kernel
theorem dX12_lays_23 : decode cX12_lays 23 = .ok (.aload_n 0, 1) := by decide +kernel
theorem dX12_lays_24 : decode cX12_lays 24 = .ok (.getfield 79, 3) := by decide +kernel
theorem dX12_lays_27 : decode cX12_lays 27 = .ok (.iload_n 1, 1) := by decide +kernel
theorem dX12_lays_28 : decode cX12_lays 28 = .ok (.aaload, 1) := by decide +kernel
theorem dX12_lays_29 : decode cX12_lays 29 = .ok (.iload_n 2, 1) := by decide +kernel
theorem dX12_lays_30 : decode cX12_lays 30 = .ok (.iload_n 3, 1) := by decide +kernel
theorem dX12_lays_31 : decode cX12_lays 31 = .ok (.iload_n 1, 1) := by decide +kernel
theorem dX12_lays_32 : decode cX12_lays 32 = .ok (.aload_n 0, 1) := by decide +kernel
theorem dX12_lays_33 : decode cX12_lays 33 = .ok (.getfield 64, 3) := by decide +kernel
theorem dX12_lays_36 : decode cX12_lays 36 = .ok (.iload_n 1, 1) := by decide +kernel
theorem dX12_lays_37 : decode cX12_lays 37 = .ok (.iaload, 1) := by decide +kernel
theorem dX12_lays_38 : decode cX12_lays 38 = .ok (.iload_n 2, 1) := by decide +kernel
theorem dX12_lays_39 : decode cX12_lays 39 = .ok (.invokestatic 175, 3) := by decide +kernel
theorem dX12_lays_42 : decode cX12_lays 42 = .ok (.invokestatic 9, 3) := by decide +kernel
theorem dX12_lays_45 : decode cX12_lays 45 = .ok (.iastore, 1) := by decide +kernel
theorem dX12_lays_46 : decode cX12_lays 46 = .ok (.return_, 1) := by decide +kernel
theorem dX12_markOf_0 : decode cX12_markOf 0 = .ok (.bipush 6, 2) := by decide +kernel
theorem dX12_markOf_2 : decode cX12_markOf 2 = .ok (.iload_n 1, 1) := by decide +kernel
theorem dX12_markOf_3 : decode cX12_markOf 3 = .ok (.invokestatic 151, 3) := by decide +kernel
theorem dX12_markOf_6 : decode cX12_markOf 6 = .ok (.istore_n 2, 1) := by decide +kernel
theorem dX12_markOf_7 : decode cX12_markOf 7 = .ok (.iconst 0, 1) := by decide +kernel
theorem dX12_markOf_8 : decode cX12_markOf 8 = .ok (.istore_n 3, 1) := by decide +kernel
theorem dX12_markOf_9 : decode cX12_markOf 9 = .ok (.iload_n 3, 1) := by decide +kernel
theorem dX12_markOf_10 : decode cX12_markOf 10 = .ok (.bipush 8, 2) := by decide +kernel
theorem dX12_markOf_12 : decode cX12_markOf 12 = .ok (.if_icmp .ge 39, 3) := by decide +kernel
theorem dX12_markOf_15 : decode cX12_markOf 15 = .ok (.aload_n 0, 1) := by decide +kernel
theorem dX12_markOf_16 : decode cX12_markOf 16 = .ok (.getfield 76, 3) := by decide +kernel
theorem dX12_markOf_19 : decode cX12_markOf 19 = .ok (.iload_n 1, 1) := by decide +kernel
theorem dX12_markOf_20 : decode cX12_markOf 20 = .ok (.aaload, 1) := by decide +kernel
theorem dX12_markOf_21 : decode cX12_markOf 21 = .ok (.iload_n 3, 1) := by decide +kernel
theorem dX12_markOf_22 : decode cX12_markOf 22 = .ok (.iaload, 1) := by decide +kernel
theorem dX12_markOf_23 : decode cX12_markOf 23 = .ok (.ifCond .le 20, 3) := by decide +kernel
theorem dX12_markOf_26 : decode cX12_markOf 26 = .ok (.iload_n 2, 1) := by decide +kernel
theorem dX12_markOf_27 : decode cX12_markOf 27 = .ok (.aload_n 0, 1) := by decide +kernel
theorem dX12_markOf_28 : decode cX12_markOf 28 = .ok (.getfield 79, 3) := by decide +kernel
theorem dX12_markOf_31 : decode cX12_markOf 31 = .ok (.iload_n 1, 1) := by decide +kernel
theorem dX12_markOf_32 : decode cX12_markOf 32 = .ok (.aaload, 1) := by decide +kernel
theorem dX12_markOf_33 : decode cX12_markOf 33 = .ok (.iload_n 3, 1) := by decide +kernel
theorem dX12_markOf_34 : decode cX12_markOf 34 = .ok (.iaload, 1) := by decide +kernel
theorem dX12_markOf_35 : decode cX12_markOf 35 = .ok (.iload_n 3, 1) := by decide +kernel
theorem dX12_markOf_36 : decode cX12_markOf 36 = .ok (.ixor, 1) := by decide +kernel
theorem dX12_markOf_37 : decode cX12_markOf 37 = .ok (.invokestatic 151, 3) := by decide +kernel
theorem dX12_markOf_40 : decode cX12_markOf 40 = .ok (.goto 4, 3) := by decide +kernel
theorem dX12_markOf_43 : decode cX12_markOf 43 = .ok (.iload_n 2, 1) := by decide +kernel
theorem dX12_markOf_44 : decode cX12_markOf 44 = .ok (.istore_n 2, 1) := by decide +kernel
theorem dX12_markOf_45 : decode cX12_markOf 45 = .ok (.iinc 3 1, 3) := by decide +kernel
theorem dX12_markOf_48 : decode cX12_markOf 48 = .ok (.goto (-39), 3) := by decide +kernel
theorem dX12_markOf_51 : decode cX12_markOf 51 = .ok (.iload_n 2, 1) := by decide +kernel
theorem dX12_markOf_52 : decode cX12_markOf 52 = .ok (.ireturn, 1) := by decide +kernel
theorem dX12_isSpoiled_0 : decode cX12_isSpoiled 0 = .ok (.aload_n 0, 1) := by decide +kernel
theorem dX12_isSpoiled_1 : decode cX12_isSpoiled 1 = .ok (.getfield 67, 3) := by decide +kernel
theorem dX12_isSpoiled_4 : decode cX12_isSpoiled 4 = .ok (.iload_n 1, 1) := by decide +kernel
theorem dX12_isSpoiled_5 : decode cX12_isSpoiled 5 = .ok (.iaload, 1) := by decide +kernel
theorem dX12_isSpoiled_6 : decode cX12_isSpoiled 6 = .ok (.aload_n 0, 1) := by decide +kernel
theorem dX12_isSpoiled_7 : decode cX12_isSpoiled 7 = .ok (.iload_n 1, 1) := by decide +kernel
theorem dX12_isSpoiled_8 : decode cX12_isSpoiled 8 = .ok (.invokevirtual 168, 3) := by decide +kernel
theorem dX12_isSpoiled_11 : decode cX12_isSpoiled 11 = .ok (.if_icmp .eq 7, 3) := by decide +kernel
theorem dX12_isSpoiled_14 : decode cX12_isSpoiled 14 = .ok (.iconst 1, 1) := by decide +kernel
theorem dX12_isSpoiled_15 : decode cX12_isSpoiled 15 = .ok (.goto 4, 3) := by decide +kernel
theorem dX12_isSpoiled_18 : decode cX12_isSpoiled 18 = .ok (.iconst 0, 1) := by decide +kernel
theorem dX12_isSpoiled_19 : decode cX12_isSpoiled 19 = .ok (.ireturn, 1) := by decide +kernel
theorem dX12_partsOf_0 : decode cX12_partsOf 0 = .ok (.iconst 0, 1) := by decide +kernel
theorem dX12_partsOf_1 : decode cX12_partsOf 1 = .ok (.istore_n 2, 1) := by decide +kernel
theorem dX12_partsOf_2 : decode cX12_partsOf 2 = .ok (.iconst 0, 1) := by decide +kernel
theorem dX12_partsOf_3 : decode cX12_partsOf 3 = .ok (.istore_n 3, 1) := by decide +kernel
theorem dX12_partsOf_4 : decode cX12_partsOf 4 = .ok (.iload_n 3, 1) := by decide +kernel
theorem dX12_partsOf_5 : decode cX12_partsOf 5 = .ok (.bipush 8, 2) := by decide +kernel
theorem dX12_partsOf_7 : decode cX12_partsOf 7 = .ok (.if_icmp .ge 28, 3) := by decide +kernel
theorem dX12_partsOf_10 : decode cX12_partsOf 10 = .ok (.iload_n 2, 1) := by decide +kernel
theorem dX12_partsOf_11 : decode cX12_partsOf 11 = .ok (.aload_n 0, 1) := by decide +kernel
theorem dX12_partsOf_12 : decode cX12_partsOf 12 = .ok (.getfield 76, 3) := by decide +kernel
theorem dX12_partsOf_15 : decode cX12_partsOf 15 = .ok (.iload_n 1, 1) := by decide +kernel
theorem dX12_partsOf_16 : decode cX12_partsOf 16 = .ok (.aaload, 1) := by decide +kernel
theorem dX12_partsOf_17 : decode cX12_partsOf 17 = .ok (.iload_n 3, 1) := by decide +kernel
theorem dX12_partsOf_18 : decode cX12_partsOf 18 = .ok (.iaload, 1) := by decide +kernel
theorem dX12_partsOf_19 : decode cX12_partsOf 19 = .ok (.ifCond .le 7, 3) := by decide +kernel
theorem dX12_partsOf_22 : decode cX12_partsOf 22 = .ok (.iconst 1, 1) := by decide +kernel
theorem dX12_partsOf_23 : decode cX12_partsOf 23 = .ok (.goto 4, 3) := by decide +kernel
theorem dX12_partsOf_26 : decode cX12_partsOf 26 = .ok (.iconst 0, 1) := by decide +kernel
theorem dX12_partsOf_27 : decode cX12_partsOf 27 = .ok (.iadd, 1) := by decide +kernel
theorem dX12_partsOf_28 : decode cX12_partsOf 28 = .ok (.istore_n 2, 1) := by decide +kernel
theorem dX12_partsOf_29 : decode cX12_partsOf 29 = .ok (.iinc 3 1, 3) := by decide +kernel
theorem dX12_partsOf_32 : decode cX12_partsOf 32 = .ok (.goto (-28), 3) := by decide +kernel
theorem dX12_partsOf_35 : decode cX12_partsOf 35 = .ok (.iload_n 2, 1) := by decide +kernel
theorem dX12_partsOf_36 : decode cX12_partsOf 36 = .ok (.ireturn, 1) := by decide +kernel
theorem dX12_partsIn_0 : decode cX12_partsIn 0 = .ok (.iconst 0, 1) := by decide +kernel
theorem dX12_partsIn_1 : decode cX12_partsIn 1 = .ok (.istore_n 2, 1) := by decide +kernel
theorem dX12_partsIn_2 : decode cX12_partsIn 2 = .ok (.iconst 0, 1) := by decide +kernel
theorem dX12_partsIn_3 : decode cX12_partsIn 3 = .ok (.istore_n 3, 1) := by decide +kernel
theorem dX12_partsIn_4 : decode cX12_partsIn 4 = .ok (.iload_n 3, 1) := by decide +kernel
theorem dX12_partsIn_5 : decode cX12_partsIn 5 = .ok (.aload_n 0, 1) := by decide +kernel
theorem dX12_partsIn_6 : decode cX12_partsIn 6 = .ok (.getfield 131, 3) := by decide +kernel
theorem dX12_partsIn_9 : decode cX12_partsIn 9 = .ok (.if_icmp .ge 31, 3) := by decide +kernel
theorem dX12_partsIn_12 : decode cX12_partsIn 12 = .ok (.iload_n 2, 1) := by decide +kernel
theorem dX12_partsIn_13 : decode cX12_partsIn 13 = .ok (.aload_n 0, 1) := by decide +kernel
theorem dX12_partsIn_14 : decode cX12_partsIn 14 = .ok (.getfield 61, 3) := by decide +kernel
theorem dX12_partsIn_17 : decode cX12_partsIn 17 = .ok (.iload_n 3, 1) := by decide +kernel
theorem dX12_partsIn_18 : decode cX12_partsIn 18 = .ok (.iaload, 1) := by decide +kernel
theorem dX12_partsIn_19 : decode cX12_partsIn 19 = .ok (.iload_n 1, 1) := by decide +kernel
theorem dX12_partsIn_20 : decode cX12_partsIn 20 = .ok (.if_icmp .ne 11, 3) := by decide +kernel
theorem dX12_partsIn_23 : decode cX12_partsIn 23 = .ok (.aload_n 0, 1) := by decide +kernel
theorem dX12_partsIn_24 : decode cX12_partsIn 24 = .ok (.iload_n 3, 1) := by decide +kernel
theorem dX12_partsIn_25 : decode cX12_partsIn 25 = .ok (.invokevirtual 179, 3) := by decide +kernel
theorem dX12_partsIn_28 : decode cX12_partsIn 28 = .ok (.goto 4, 3) := by decide +kernel
theorem dX12_partsIn_31 : decode cX12_partsIn 31 = .ok (.iconst 0, 1) := by decide +kernel
theorem dX12_partsIn_32 : decode cX12_partsIn 32 = .ok (.iadd, 1) := by decide +kernel
theorem dX12_partsIn_33 : decode cX12_partsIn 33 = .ok (.istore_n 2, 1) := by decide +kernel
theorem dX12_partsIn_34 : decode cX12_partsIn 34 = .ok (.iinc 3 1, 3) := by decide +kernel
theorem dX12_partsIn_37 : decode cX12_partsIn 37 = .ok (.goto (-33), 3) := by decide +kernel
theorem dX12_partsIn_40 : decode cX12_partsIn 40 = .ok (.iload_n 2, 1) := by decide +kernel
theorem dX12_partsIn_41 : decode cX12_partsIn 41 = .ok (.ireturn, 1) := by decide +kernel
theorem dX12_cannotWrite_0 : decode cX12_cannotWrite 0 = .ok (.aload_n 0, 1) := by decide +kernel
theorem dX12_cannotWrite_1 : decode cX12_cannotWrite 1 = .ok (.getfield 61, 3) := by decide +kernel
theorem dX12_cannotWrite_4 : decode cX12_cannotWrite 4 = .ok (.iload_n 2, 1) := by decide +kernel
theorem dX12_cannotWrite_5 : decode cX12_cannotWrite 5 = .ok (.iaload, 1) := by decide +kernel
theorem dX12_cannotWrite_6 : decode cX12_cannotWrite 6 = .ok (.istore 4, 2) := by decide +kernel
theorem dX12_cannotWrite_8 : decode cX12_cannotWrite 8 = .ok (.aload_n 0, 1) := by decide +kernel
theorem dX12_cannotWrite_9 : decode cX12_cannotWrite 9 = .ok (.getfield 53, 3) := by decide +kernel
theorem dX12_cannotWrite_12 : decode cX12_cannotWrite 12 = .ok (.iload 4, 2) := by decide +kernel
theorem dX12_cannotWrite_14 : decode cX12_cannotWrite 14 = .ok (.aaload, 1) := by decide +kernel
theorem dX12_cannotWrite_15 : decode cX12_cannotWrite 15 = .ok (.iload_n 1, 1) := by decide +kernel
theorem dX12_cannotWrite_16 : decode cX12_cannotWrite 16 = .ok (.baload, 1) := by decide +kernel
theorem dX12_cannotWrite_17 : decode cX12_cannotWrite 17 = .ok (.ifCond .ne 5, 3) := by decide +kernel
theorem dX12_cannotWrite_20 : decode cX12_cannotWrite 20 = .ok (.iconst 3, 1) := by decide +kernel
theorem dX12_cannotWrite_21 : decode cX12_cannotWrite 21 = .ok (.ireturn, 1) := by decide +kernel
theorem dX12_cannotWrite_22 : decode cX12_cannotWrite 22 = .ok (.aload_n 0, 1) := by decide +kernel
theorem dX12_cannotWrite_23 : decode cX12_cannotWrite 23 = .ok (.getfield 76, 3) := by decide +kernel
theorem dX12_cannotWrite_26 : decode cX12_cannotWrite 26 = .ok (.iload_n 2, 1) := by decide +kernel
theorem dX12_cannotWrite_27 : decode cX12_cannotWrite 27 = .ok (.aaload, 1) := by decide +kernel
theorem dX12_cannotWrite_28 : decode cX12_cannotWrite 28 = .ok (.iload_n 3, 1) := by decide +kernel
theorem dX12_cannotWrite_29 : decode cX12_cannotWrite 29 = .ok (.iaload, 1) := by decide +kernel
theorem dX12_cannotWrite_30 : decode cX12_cannotWrite 30 = .ok (.ifCond .ne 23, 3) := by decide +kernel
theorem dX12_cannotWrite_33 : decode cX12_cannotWrite 33 = .ok (.aload_n 0, 1) := by decide +kernel
theorem dX12_cannotWrite_34 : decode cX12_cannotWrite 34 = .ok (.iload 4, 2) := by decide +kernel
theorem dX12_cannotWrite_36 : decode cX12_cannotWrite 36 = .ok (.invokevirtual 182, 3) := by decide +kernel
theorem dX12_cannotWrite_39 : decode cX12_cannotWrite 39 = .ok (.aload_n 0, 1) := by decide +kernel
theorem dX12_cannotWrite_40 : decode cX12_cannotWrite 40 = .ok (.getfield 45, 3) := by decide +kernel
theorem dX12_cannotWrite_43 : decode cX12_cannotWrite 43 = .ok (.iload 4, 2) := by decide +kernel
theorem dX12_cannotWrite_45 : decode cX12_cannotWrite 45 = .ok (.iaload, 1) := by decide +kernel
theorem dX12_cannotWrite_46 : decode cX12_cannotWrite 46 = .ok (.if_icmp .lt 7, 3) := by decide +kernel
theorem dX12_cannotWrite_49 : decode cX12_cannotWrite 49 = .ok (.iconst 1, 1) := by decide +kernel
theorem dX12_cannotWrite_50 : decode cX12_cannotWrite 50 = .ok (.goto 4, 3) := by decide +kernel
theorem dX12_cannotWrite_53 : decode cX12_cannotWrite 53 = .ok (.iconst 0, 1) := by decide +kernel
theorem dX12_cannotWrite_54 : decode cX12_cannotWrite 54 = .ok (.istore 5, 2) := by decide +kernel
theorem dX12_cannotWrite_56 : decode cX12_cannotWrite 56 = .ok (.aload_n 0, 1) := by decide +kernel
theorem dX12_cannotWrite_57 : decode cX12_cannotWrite 57 = .ok (.getfield 38, 3) := by decide +kernel
theorem dX12_cannotWrite_60 : decode cX12_cannotWrite 60 = .ok (.iload_n 1, 1) := by decide +kernel
theorem dX12_cannotWrite_61 : decode cX12_cannotWrite 61 = .ok (.baload, 1) := by decide +kernel
theorem dX12_cannotWrite_62 : decode cX12_cannotWrite 62 = .ok (.ifCond .ne 32, 3) := by decide +kernel
theorem dX12_cannotWrite_65 : decode cX12_cannotWrite 65 = .ok (.aload_n 0, 1) := by decide +kernel
theorem dX12_cannotWrite_66 : decode cX12_cannotWrite 66 = .ok (.getfield 85, 3) := by decide +kernel
theorem dX12_cannotWrite_69 : decode cX12_cannotWrite 69 = .ok (.iload_n 2, 1) := by decide +kernel
theorem dX12_cannotWrite_70 : decode cX12_cannotWrite 70 = .ok (.baload, 1) := by decide +kernel
theorem dX12_cannotWrite_71 : decode cX12_cannotWrite 71 = .ok (.ifCond .ne 23, 3) := by decide +kernel
theorem dX12_cannotWrite_74 : decode cX12_cannotWrite 74 = .ok (.aload_n 0, 1) := by decide +kernel
theorem dX12_cannotWrite_75 : decode cX12_cannotWrite 75 = .ok (.iload_n 2, 1) := by decide +kernel
theorem dX12_cannotWrite_76 : decode cX12_cannotWrite 76 = .ok (.invokevirtual 158, 3) := by decide +kernel
theorem dX12_cannotWrite_79 : decode cX12_cannotWrite 79 = .ok (.ifCond .ne 15, 3) := by decide +kernel
theorem dX12_cannotWrite_82 : decode cX12_cannotWrite 82 = .ok (.iload 5, 2) := by decide +kernel
theorem dX12_cannotWrite_84 : decode cX12_cannotWrite 84 = .ok (.ifCond .ne 10, 3) := by decide +kernel
theorem dX12_cannotWrite_87 : decode cX12_cannotWrite 87 = .ok (.aload_n 0, 1) := by decide +kernel
theorem dX12_cannotWrite_88 : decode cX12_cannotWrite 88 = .ok (.invokevirtual 147, 3) := by decide +kernel
theorem dX12_cannotWrite_91 : decode cX12_cannotWrite 91 = .ok (.ifCond .eq 7, 3) := by decide +kernel
theorem dX12_cannotWrite_94 : decode cX12_cannotWrite 94 = .ok (.iconst 4, 1) := by decide +kernel
theorem dX12_cannotWrite_95 : decode cX12_cannotWrite 95 = .ok (.goto 4, 3) := by decide +kernel
theorem dX12_cannotWrite_98 : decode cX12_cannotWrite 98 = .ok (.iconst 0, 1) := by decide +kernel
theorem dX12_cannotWrite_99 : decode cX12_cannotWrite 99 = .ok (.ireturn, 1) := by decide +kernel
theorem dX12_puts_0 : decode cX12_puts 0 = .ok (.aload_n 0, 1) := by decide +kernel
theorem dX12_puts_1 : decode cX12_puts 1 = .ok (.getfield 70, 3) := by decide +kernel
theorem dX12_puts_4 : decode cX12_puts 4 = .ok (.iload_n 1, 1) := by decide +kernel
theorem dX12_puts_5 : decode cX12_puts 5 = .ok (.aaload, 1) := by decide +kernel
theorem dX12_puts_6 : decode cX12_puts 6 = .ok (.aload_n 0, 1) := by decide +kernel
theorem dX12_puts_7 : decode cX12_puts 7 = .ok (.getfield 64, 3) := by decide +kernel
theorem dX12_puts_10 : decode cX12_puts 10 = .ok (.iload_n 1, 1) := by decide +kernel
theorem dX12_puts_11 : decode cX12_puts 11 = .ok (.iaload, 1) := by decide +kernel
theorem dX12_puts_12 : decode cX12_puts 12 = .ok (.iaload, 1) := by decide +kernel
theorem dX12_puts_13 : decode cX12_puts 13 = .ok (.aload_n 0, 1) := by decide +kernel
theorem dX12_puts_14 : decode cX12_puts 14 = .ok (.getfield 48, 3) := by decide +kernel
theorem dX12_puts_17 : decode cX12_puts 17 = .ok (.aload_n 0, 1) := by decide +kernel
theorem dX12_puts_18 : decode cX12_puts 18 = .ok (.getfield 61, 3) := by decide +kernel
theorem dX12_puts_21 : decode cX12_puts 21 = .ok (.iload_n 1, 1) := by decide +kernel
theorem dX12_puts_22 : decode cX12_puts 22 = .ok (.iaload, 1) := by decide +kernel
theorem dX12_puts_23 : decode cX12_puts 23 = .ok (.iaload, 1) := by decide +kernel
theorem dX12_puts_24 : decode cX12_puts 24 = .ok (.if_icmp .eq 8, 3) := by decide +kernel
theorem dX12_puts_27 : decode cX12_puts 27 = .ok (.aload_n 0, 1) := by decide +kernel
theorem dX12_puts_28 : decode cX12_puts 28 = .ok (.iload_n 1, 1) := by decide +kernel
theorem dX12_puts_29 : decode cX12_puts 29 = .ok (.invokevirtual 161, 3) := by decide +kernel
theorem dX12_puts_32 : decode cX12_puts 32 = .ok (.aload_n 0, 1) := by decide +kernel
theorem dX12_puts_33 : decode cX12_puts 33 = .ok (.getfield 76, 3) := by decide +kernel
theorem dX12_puts_36 : decode cX12_puts 36 = .ok (.iload_n 1, 1) := by decide +kernel
theorem dX12_puts_37 : decode cX12_puts 37 = .ok (.aaload, 1) := by decide +kernel
theorem dX12_puts_38 : decode cX12_puts 38 = .ok (.iload_n 2, 1) := by decide +kernel
theorem dX12_puts_39 : decode cX12_puts 39 = .ok (.dup2, 1) := by decide +kernel
theorem dX12_puts_40 : decode cX12_puts 40 = .ok (.iaload, 1) := by decide +kernel
theorem dX12_puts_41 : decode cX12_puts 41 = .ok (.iconst 1, 1) := by decide +kernel
theorem dX12_puts_42 : decode cX12_puts 42 = .ok (.iadd, 1) := by decide +kernel
theorem dX12_puts_43 : decode cX12_puts 43 = .ok (.iastore, 1) := by decide +kernel
theorem dX12_puts_44 : decode cX12_puts 44 = .ok (.aload_n 0, 1) := by decide +kernel
theorem dX12_puts_45 : decode cX12_puts 45 = .ok (.iload_n 1, 1) := by decide +kernel
theorem dX12_puts_46 : decode cX12_puts 46 = .ok (.iload_n 2, 1) := by decide +kernel
theorem dX12_puts_47 : decode cX12_puts 47 = .ok (.iload_n 3, 1) := by decide +kernel
theorem dX12_puts_48 : decode cX12_puts 48 = .ok (.invokevirtual 164, 3) := by decide +kernel
theorem dX12_puts_51 : decode cX12_puts 51 = .ok (.aload_n 0, 1) := by decide +kernel
theorem dX12_puts_52 : decode cX12_puts 52 = .ok (.getfield 67, 3) := by decide +kernel
theorem dX12_puts_55 : decode cX12_puts 55 = .ok (.iload_n 1, 1) := by decide +kernel
theorem dX12_puts_56 : decode cX12_puts 56 = .ok (.aload_n 0, 1) := by decide +kernel
theorem dX12_puts_57 : decode cX12_puts 57 = .ok (.iload_n 1, 1) := by decide +kernel
theorem dX12_puts_58 : decode cX12_puts 58 = .ok (.invokevirtual 168, 3) := by decide +kernel
theorem dX12_puts_61 : decode cX12_puts 61 = .ok (.iastore, 1) := by decide +kernel
theorem dX12_puts_62 : decode cX12_puts 62 = .ok (.aload_n 0, 1) := by decide +kernel
theorem dX12_puts_63 : decode cX12_puts 63 = .ok (.bipush 8, 2) := by decide +kernel
theorem dX12_puts_65 : decode cX12_puts 65 = .ok (.iload_n 1, 1) := by decide +kernel
theorem dX12_puts_66 : decode cX12_puts 66 = .ok (.imul, 1) := by decide +kernel
theorem dX12_puts_67 : decode cX12_puts 67 = .ok (.iload_n 2, 1) := by decide +kernel
theorem dX12_puts_68 : decode cX12_puts 68 = .ok (.iadd, 1) := by decide +kernel
theorem dX12_puts_69 : decode cX12_puts 69 = .ok (.aload_n 0, 1) := by decide +kernel
theorem dX12_puts_70 : decode cX12_puts 70 = .ok (.getfield 79, 3) := by decide +kernel
theorem dX12_puts_73 : decode cX12_puts 73 = .ok (.iload_n 1, 1) := by decide +kernel
theorem dX12_puts_74 : decode cX12_puts 74 = .ok (.aaload, 1) := by decide +kernel
theorem dX12_puts_75 : decode cX12_puts 75 = .ok (.iload_n 2, 1) := by decide +kernel
theorem dX12_puts_76 : decode cX12_puts 76 = .ok (.iaload, 1) := by decide +kernel
theorem dX12_puts_77 : decode cX12_puts 77 = .ok (.invokestatic 151, 3) := by decide +kernel
theorem dX12_puts_80 : decode cX12_puts 80 = .ok (.invokevirtual 154, 3) := by decide +kernel
theorem dX12_puts_83 : decode cX12_puts 83 = .ok (.aload_n 0, 1) := by decide +kernel
theorem dX12_puts_84 : decode cX12_puts 84 = .ok (.getfield 64, 3) := by decide +kernel
theorem dX12_puts_87 : decode cX12_puts 87 = .ok (.iload_n 1, 1) := by decide +kernel
theorem dX12_puts_88 : decode cX12_puts 88 = .ok (.iaload, 1) := by decide +kernel
theorem dX12_puts_89 : decode cX12_puts 89 = .ok (.ireturn, 1) := by decide +kernel
theorem dX12_write_0 : decode cX12_write 0 = .ok (.aload_n 0, 1) := by decide +kernel
theorem dX12_write_1 : decode cX12_write 1 = .ok (.aload_n 0, 1) := by decide +kernel
theorem dX12_write_2 : decode cX12_write 2 = .ok (.iload_n 1, 1) := by decide +kernel
theorem dX12_write_3 : decode cX12_write 3 = .ok (.invokevirtual 138, 3) := by decide +kernel
theorem dX12_write_6 : decode cX12_write 6 = .ok (.ifCond .eq 11, 3) := by decide +kernel
theorem dX12_write_9 : decode cX12_write 9 = .ok (.aload_n 0, 1) := by decide +kernel
theorem dX12_write_10 : decode cX12_write 10 = .ok (.iload_n 2, 1) := by decide +kernel
theorem dX12_write_11 : decode cX12_write 11 = .ok (.invokevirtual 185, 3) := by decide +kernel
theorem dX12_write_14 : decode cX12_write 14 = .ok (.ifCond .ne 7, 3) := by decide +kernel
theorem dX12_write_17 : decode cX12_write 17 = .ok (.iconst 1, 1) := by decide +kernel
theorem dX12_write_18 : decode cX12_write 18 = .ok (.goto 21, 3) := by decide +kernel
theorem dX12_write_21 : decode cX12_write 21 = .ok (.iload_n 3, 1) := by decide +kernel
theorem dX12_write_22 : decode cX12_write 22 = .ok (.invokestatic 188, 3) := by decide +kernel
theorem dX12_write_25 : decode cX12_write 25 = .ok (.ifCond .ne 7, 3) := by decide +kernel
theorem dX12_write_28 : decode cX12_write 28 = .ok (.iconst 2, 1) := by decide +kernel
theorem dX12_write_29 : decode cX12_write 29 = .ok (.goto 10, 3) := by decide +kernel
theorem dX12_write_32 : decode cX12_write 32 = .ok (.aload_n 0, 1) := by decide +kernel
theorem dX12_write_33 : decode cX12_write 33 = .ok (.iload_n 1, 1) := by decide +kernel
theorem dX12_write_34 : decode cX12_write 34 = .ok (.iload_n 2, 1) := by decide +kernel
theorem dX12_write_35 : decode cX12_write 35 = .ok (.iload_n 3, 1) := by decide +kernel
theorem dX12_write_36 : decode cX12_write 36 = .ok (.invokevirtual 191, 3) := by decide +kernel
theorem dX12_write_39 : decode cX12_write 39 = .ok (.invokevirtual 134, 3) := by decide +kernel
theorem dX12_write_42 : decode cX12_write 42 = .ok (.ifCond .eq 5, 3) := by decide +kernel
theorem dX12_write_45 : decode cX12_write 45 = .ok (.iconst 0, 1) := by decide +kernel
theorem dX12_write_46 : decode cX12_write 46 = .ok (.ireturn, 1) := by decide +kernel
theorem dX12_write_47 : decode cX12_write 47 = .ok (.aload_n 0, 1) := by decide +kernel
theorem dX12_write_48 : decode cX12_write 48 = .ok (.iload_n 2, 1) := by decide +kernel
theorem dX12_write_49 : decode cX12_write 49 = .ok (.iload_n 3, 1) := by decide +kernel
theorem dX12_write_50 : decode cX12_write 50 = .ok (.iload 4, 2) := by decide +kernel
theorem dX12_write_52 : decode cX12_write 52 = .ok (.invokevirtual 194, 3) := by decide +kernel
theorem dX12_write_55 : decode cX12_write 55 = .ok (.ireturn, 1) := by decide +kernel
theorem dX12_isNotThere_0 : decode cX12_isNotThere 0 = .ok (.aload_n 0, 1) := by decide +kernel
theorem dX12_isNotThere_1 : decode cX12_isNotThere 1 = .ok (.iload_n 1, 1) := by decide +kernel
theorem dX12_isNotThere_2 : decode cX12_isNotThere 2 = .ok (.ifCond .eq 11, 3) := by decide +kernel
theorem dX12_isNotThere_5 : decode cX12_isNotThere 5 = .ok (.aload_n 0, 1) := by decide +kernel
theorem dX12_isNotThere_6 : decode cX12_isNotThere 6 = .ok (.iload_n 2, 1) := by decide +kernel
theorem dX12_isNotThere_7 : decode cX12_isNotThere 7 = .ok (.invokevirtual 185, 3) := by decide +kernel
theorem dX12_isNotThere_10 : decode cX12_isNotThere 10 = .ok (.ifCond .ne 7, 3) := by decide +kernel
theorem dX12_isNotThere_13 : decode cX12_isNotThere 13 = .ok (.iconst 1, 1) := by decide +kernel
theorem dX12_isNotThere_14 : decode cX12_isNotThere 14 = .ok (.goto 30, 3) := by decide +kernel
theorem dX12_isNotThere_17 : decode cX12_isNotThere 17 = .ok (.iload_n 3, 1) := by decide +kernel
theorem dX12_isNotThere_18 : decode cX12_isNotThere 18 = .ok (.invokestatic 188, 3) := by decide +kernel
theorem dX12_isNotThere_21 : decode cX12_isNotThere 21 = .ok (.ifCond .ne 7, 3) := by decide +kernel
theorem dX12_isNotThere_24 : decode cX12_isNotThere 24 = .ok (.iconst 2, 1) := by decide +kernel
theorem dX12_isNotThere_25 : decode cX12_isNotThere 25 = .ok (.goto 19, 3) := by decide +kernel
theorem dX12_isNotThere_28 : decode cX12_isNotThere 28 = .ok (.aload_n 0, 1) := by decide +kernel
theorem dX12_isNotThere_29 : decode cX12_isNotThere 29 = .ok (.getfield 76, 3) := by decide +kernel
theorem dX12_isNotThere_32 : decode cX12_isNotThere 32 = .ok (.iload_n 2, 1) := by decide +kernel
theorem dX12_isNotThere_33 : decode cX12_isNotThere 33 = .ok (.aaload, 1) := by decide +kernel
theorem dX12_isNotThere_34 : decode cX12_isNotThere 34 = .ok (.iload_n 3, 1) := by decide +kernel
theorem dX12_isNotThere_35 : decode cX12_isNotThere 35 = .ok (.iaload, 1) := by decide +kernel
theorem dX12_isNotThere_36 : decode cX12_isNotThere 36 = .ok (.ifCond .ne 7, 3) := by decide +kernel
theorem dX12_isNotThere_39 : decode cX12_isNotThere 39 = .ok (.iconst 1, 1) := by decide +kernel
theorem dX12_isNotThere_40 : decode cX12_isNotThere 40 = .ok (.goto 4, 3) := by decide +kernel
theorem dX12_isNotThere_43 : decode cX12_isNotThere 43 = .ok (.iconst 0, 1) := by decide +kernel
theorem dX12_isNotThere_44 : decode cX12_isNotThere 44 = .ok (.invokevirtual 134, 3) := by decide +kernel
theorem dX12_isNotThere_47 : decode cX12_isNotThere 47 = .ok (.ireturn, 1) := by decide +kernel
theorem dX12_reads_0 : decode cX12_reads 0 = .ok (.aload_n 0, 1) := by decide +kernel
theorem dX12_reads_1 : decode cX12_reads 1 = .ok (.getfield 70, 3) := by decide +kernel
theorem dX12_reads_4 : decode cX12_reads 4 = .ok (.iload_n 2, 1) := by decide +kernel
theorem dX12_reads_5 : decode cX12_reads 5 = .ok (.aaload, 1) := by decide +kernel
theorem dX12_reads_6 : decode cX12_reads 6 = .ok (.aload_n 0, 1) := by decide +kernel
theorem dX12_reads_7 : decode cX12_reads 7 = .ok (.getfield 73, 3) := by decide +kernel
theorem dX12_reads_10 : decode cX12_reads 10 = .ok (.iload_n 2, 1) := by decide +kernel
theorem dX12_reads_11 : decode cX12_reads 11 = .ok (.aaload, 1) := by decide +kernel
theorem dX12_reads_12 : decode cX12_reads 12 = .ok (.iload_n 3, 1) := by decide +kernel
theorem dX12_reads_13 : decode cX12_reads 13 = .ok (.iaload, 1) := by decide +kernel
theorem dX12_reads_14 : decode cX12_reads 14 = .ok (.iaload, 1) := by decide +kernel
theorem dX12_reads_15 : decode cX12_reads 15 = .ok (.aload_n 0, 1) := by decide +kernel
theorem dX12_reads_16 : decode cX12_reads 16 = .ok (.aload_n 0, 1) := by decide +kernel
theorem dX12_reads_17 : decode cX12_reads 17 = .ok (.getfield 61, 3) := by decide +kernel
theorem dX12_reads_20 : decode cX12_reads 20 = .ok (.iload_n 2, 1) := by decide +kernel
theorem dX12_reads_21 : decode cX12_reads 21 = .ok (.iaload, 1) := by decide +kernel
theorem dX12_reads_22 : decode cX12_reads 22 = .ok (.iload_n 1, 1) := by decide +kernel
theorem dX12_reads_23 : decode cX12_reads 23 = .ok (.invokevirtual 172, 3) := by decide +kernel
theorem dX12_reads_26 : decode cX12_reads 26 = .ok (.if_icmp .gt 7, 3) := by decide +kernel
theorem dX12_reads_29 : decode cX12_reads 29 = .ok (.iconst 1, 1) := by decide +kernel
theorem dX12_reads_30 : decode cX12_reads 30 = .ok (.goto 4, 3) := by decide +kernel
theorem dX12_reads_33 : decode cX12_reads 33 = .ok (.iconst 0, 1) := by decide +kernel
theorem dX12_reads_34 : decode cX12_reads 34 = .ok (.ireturn, 1) := by decide +kernel
theorem dX12_read_0 : decode cX12_read 0 = .ok (.aload_n 0, 1) := by decide +kernel
theorem dX12_read_1 : decode cX12_read 1 = .ok (.aload_n 0, 1) := by decide +kernel
theorem dX12_read_2 : decode cX12_read 2 = .ok (.iload_n 1, 1) := by decide +kernel
theorem dX12_read_3 : decode cX12_read 3 = .ok (.invokevirtual 138, 3) := by decide +kernel
theorem dX12_read_6 : decode cX12_read 6 = .ok (.iload_n 2, 1) := by decide +kernel
theorem dX12_read_7 : decode cX12_read 7 = .ok (.iload_n 3, 1) := by decide +kernel
theorem dX12_read_8 : decode cX12_read 8 = .ok (.invokevirtual 197, 3) := by decide +kernel
theorem dX12_read_11 : decode cX12_read 11 = .ok (.ifCond .eq 5, 3) := by decide +kernel
theorem dX12_read_14 : decode cX12_read 14 = .ok (.iconst 0, 1) := by decide +kernel
theorem dX12_read_15 : decode cX12_read 15 = .ok (.ireturn, 1) := by decide +kernel
theorem dX12_read_16 : decode cX12_read 16 = .ok (.aload_n 0, 1) := by decide +kernel
theorem dX12_read_17 : decode cX12_read 17 = .ok (.aload_n 0, 1) := by decide +kernel
theorem dX12_read_18 : decode cX12_read 18 = .ok (.getfield 85, 3) := by decide +kernel
theorem dX12_read_21 : decode cX12_read 21 = .ok (.iload_n 2, 1) := by decide +kernel
theorem dX12_read_22 : decode cX12_read 22 = .ok (.baload, 1) := by decide +kernel
theorem dX12_read_23 : decode cX12_read 23 = .ok (.ifCond .ne 11, 3) := by decide +kernel
theorem dX12_read_26 : decode cX12_read 26 = .ok (.aload_n 0, 1) := by decide +kernel
theorem dX12_read_27 : decode cX12_read 27 = .ok (.iload_n 2, 1) := by decide +kernel
theorem dX12_read_28 : decode cX12_read 28 = .ok (.invokevirtual 158, 3) := by decide +kernel
theorem dX12_read_31 : decode cX12_read 31 = .ok (.ifCond .eq 7, 3) := by decide +kernel
theorem dX12_read_34 : decode cX12_read 34 = .ok (.iconst 3, 1) := by decide +kernel
theorem dX12_read_35 : decode cX12_read 35 = .ok (.goto 18, 3) := by decide +kernel
theorem dX12_read_38 : decode cX12_read 38 = .ok (.aload_n 0, 1) := by decide +kernel
theorem dX12_read_39 : decode cX12_read 39 = .ok (.iload_n 1, 1) := by decide +kernel
theorem dX12_read_40 : decode cX12_read 40 = .ok (.iload_n 2, 1) := by decide +kernel
theorem dX12_read_41 : decode cX12_read 41 = .ok (.iload_n 3, 1) := by decide +kernel
theorem dX12_read_42 : decode cX12_read 42 = .ok (.invokevirtual 201, 3) := by decide +kernel
theorem dX12_read_45 : decode cX12_read 45 = .ok (.ifCond .eq 7, 3) := by decide +kernel
theorem dX12_read_48 : decode cX12_read 48 = .ok (.iconst 0, 1) := by decide +kernel
theorem dX12_read_49 : decode cX12_read 49 = .ok (.goto 4, 3) := by decide +kernel
theorem dX12_read_52 : decode cX12_read 52 = .ok (.iconst 4, 1) := by decide +kernel
theorem dX12_read_53 : decode cX12_read 53 = .ok (.invokevirtual 134, 3) := by decide +kernel
theorem dX12_read_56 : decode cX12_read 56 = .ok (.ifCond .eq 5, 3) := by decide +kernel
theorem dX12_read_59 : decode cX12_read 59 = .ok (.iconst 0, 1) := by decide +kernel
theorem dX12_read_60 : decode cX12_read 60 = .ok (.ireturn, 1) := by decide +kernel
theorem dX12_read_61 : decode cX12_read 61 = .ok (.aload_n 0, 1) := by decide +kernel
theorem dX12_read_62 : decode cX12_read 62 = .ok (.getfield 79, 3) := by decide +kernel
theorem dX12_read_65 : decode cX12_read 65 = .ok (.iload_n 2, 1) := by decide +kernel
theorem dX12_read_66 : decode cX12_read 66 = .ok (.aaload, 1) := by decide +kernel
theorem dX12_read_67 : decode cX12_read 67 = .ok (.iload_n 3, 1) := by decide +kernel
theorem dX12_read_68 : decode cX12_read 68 = .ok (.iaload, 1) := by decide +kernel
theorem dX12_read_69 : decode cX12_read 69 = .ok (.iload_n 2, 1) := by decide +kernel
theorem dX12_read_70 : decode cX12_read 70 = .ok (.aload_n 0, 1) := by decide +kernel
theorem dX12_read_71 : decode cX12_read 71 = .ok (.getfield 73, 3) := by decide +kernel
theorem dX12_read_74 : decode cX12_read 74 = .ok (.iload_n 2, 1) := by decide +kernel
theorem dX12_read_75 : decode cX12_read 75 = .ok (.aaload, 1) := by decide +kernel
theorem dX12_read_76 : decode cX12_read 76 = .ok (.iload_n 3, 1) := by decide +kernel
theorem dX12_read_77 : decode cX12_read 77 = .ok (.iaload, 1) := by decide +kernel
theorem dX12_read_78 : decode cX12_read 78 = .ok (.iload_n 3, 1) := by decide +kernel
theorem dX12_read_79 : decode cX12_read 79 = .ok (.invokestatic 175, 3) := by decide +kernel
theorem dX12_read_82 : decode cX12_read 82 = .ok (.invokestatic 204, 3) := by decide +kernel
theorem dX12_read_85 : decode cX12_read 85 = .ok (.ireturn, 1) := by decide +kernel
theorem dX12_canRead_0 : decode cX12_canRead 0 = .ok (.aload_n 0, 1) := by decide +kernel
theorem dX12_canRead_1 : decode cX12_canRead 1 = .ok (.aload_n 0, 1) := by decide +kernel
theorem dX12_canRead_2 : decode cX12_canRead 2 = .ok (.iload_n 1, 1) := by decide +kernel
theorem dX12_canRead_3 : decode cX12_canRead 3 = .ok (.invokevirtual 138, 3) := by decide +kernel
theorem dX12_canRead_6 : decode cX12_canRead 6 = .ok (.iload_n 2, 1) := by decide +kernel
theorem dX12_canRead_7 : decode cX12_canRead 7 = .ok (.iload_n 3, 1) := by decide +kernel
theorem dX12_canRead_8 : decode cX12_canRead 8 = .ok (.invokevirtual 197, 3) := by decide +kernel
theorem dX12_canRead_11 : decode cX12_canRead 11 = .ok (.ifCond .ne 17, 3) := by decide +kernel
theorem dX12_canRead_14 : decode cX12_canRead 14 = .ok (.aload_n 0, 1) := by decide +kernel
theorem dX12_canRead_15 : decode cX12_canRead 15 = .ok (.iload_n 1, 1) := by decide +kernel
theorem dX12_canRead_16 : decode cX12_canRead 16 = .ok (.iload_n 2, 1) := by decide +kernel
theorem dX12_canRead_17 : decode cX12_canRead 17 = .ok (.iload_n 3, 1) := by decide +kernel
theorem dX12_canRead_18 : decode cX12_canRead 18 = .ok (.invokevirtual 201, 3) := by decide +kernel
theorem dX12_canRead_21 : decode cX12_canRead 21 = .ok (.ifCond .eq 7, 3) := by decide +kernel
theorem dX12_canRead_24 : decode cX12_canRead 24 = .ok (.iconst 1, 1) := by decide +kernel
theorem dX12_canRead_25 : decode cX12_canRead 25 = .ok (.goto 4, 3) := by decide +kernel
theorem dX12_canRead_28 : decode cX12_canRead 28 = .ok (.iconst 0, 1) := by decide +kernel
theorem dX12_canRead_29 : decode cX12_canRead 29 = .ok (.ireturn, 1) := by decide +kernel
theorem dX12_canReadByGrants_0 : decode cX12_canReadByGrants 0 = .ok (.aload_n 0, 1) := by decide +kernel
theorem dX12_canReadByGrants_1 : decode cX12_canReadByGrants 1 = .ok (.iload_n 1, 1) := by decide +kernel
theorem dX12_canReadByGrants_2 : decode cX12_canReadByGrants 2 = .ok (.iload_n 2, 1) := by decide +kernel
theorem dX12_canReadByGrants_3 : decode cX12_canReadByGrants 3 = .ok (.iload_n 3, 1) := by decide +kernel
theorem dX12_canReadByGrants_4 : decode cX12_canReadByGrants 4 = .ok (.invokevirtual 207, 3) := by decide +kernel
theorem dX12_canReadByGrants_7 : decode cX12_canReadByGrants 7 = .ok (.ireturn, 1) := by decide +kernel
theorem dX12_cipher_0 : decode cX12_cipher 0 = .ok (.aload_n 0, 1) := by decide +kernel
theorem dX12_cipher_1 : decode cX12_cipher 1 = .ok (.iconst 1, 1) := by decide +kernel
theorem dX12_cipher_2 : decode cX12_cipher 2 = .ok (.iload_n 1, 1) := by decide +kernel
theorem dX12_cipher_3 : decode cX12_cipher 3 = .ok (.iload_n 2, 1) := by decide +kernel
theorem dX12_cipher_4 : decode cX12_cipher 4 = .ok (.invokevirtual 197, 3) := by decide +kernel
theorem dX12_cipher_7 : decode cX12_cipher 7 = .ok (.ifCond .eq 7, 3) := by decide +kernel
theorem dX12_cipher_10 : decode cX12_cipher 10 = .ok (.iconst 0, 1) := by decide +kernel
theorem dX12_cipher_11 : decode cX12_cipher 11 = .ok (.goto 11, 3) := by decide +kernel
theorem dX12_cipher_14 : decode cX12_cipher 14 = .ok (.aload_n 0, 1) := by decide +kernel
theorem dX12_cipher_15 : decode cX12_cipher 15 = .ok (.getfield 79, 3) := by decide +kernel
theorem dX12_cipher_18 : decode cX12_cipher 18 = .ok (.iload_n 1, 1) := by decide +kernel
theorem dX12_cipher_19 : decode cX12_cipher 19 = .ok (.aaload, 1) := by decide +kernel
theorem dX12_cipher_20 : decode cX12_cipher 20 = .ok (.iload_n 2, 1) := by decide +kernel
theorem dX12_cipher_21 : decode cX12_cipher 21 = .ok (.iaload, 1) := by decide +kernel
theorem dX12_cipher_22 : decode cX12_cipher 22 = .ok (.ireturn, 1) := by decide +kernel
theorem dX12_version_0 : decode cX12_version 0 = .ok (.aload_n 0, 1) := by decide +kernel
theorem dX12_version_1 : decode cX12_version 1 = .ok (.iconst 1, 1) := by decide +kernel
theorem dX12_version_2 : decode cX12_version 2 = .ok (.iload_n 1, 1) := by decide +kernel
theorem dX12_version_3 : decode cX12_version 3 = .ok (.iload_n 2, 1) := by decide +kernel
theorem dX12_version_4 : decode cX12_version 4 = .ok (.invokevirtual 197, 3) := by decide +kernel
theorem dX12_version_7 : decode cX12_version 7 = .ok (.ifCond .eq 7, 3) := by decide +kernel
theorem dX12_version_10 : decode cX12_version 10 = .ok (.iconst 0, 1) := by decide +kernel
theorem dX12_version_11 : decode cX12_version 11 = .ok (.goto 11, 3) := by decide +kernel
theorem dX12_version_14 : decode cX12_version 14 = .ok (.aload_n 0, 1) := by decide +kernel
theorem dX12_version_15 : decode cX12_version 15 = .ok (.getfield 73, 3) := by decide +kernel
theorem dX12_version_18 : decode cX12_version 18 = .ok (.iload_n 1, 1) := by decide +kernel
theorem dX12_version_19 : decode cX12_version 19 = .ok (.aaload, 1) := by decide +kernel
theorem dX12_version_20 : decode cX12_version 20 = .ok (.iload_n 2, 1) := by decide +kernel
theorem dX12_version_21 : decode cX12_version 21 = .ok (.iaload, 1) := by decide +kernel
theorem dX12_version_22 : decode cX12_version 22 = .ok (.ireturn, 1) := by decide +kernel
theorem dX12_writes_0 : decode cX12_writes 0 = .ok (.aload_n 0, 1) := by decide +kernel
theorem dX12_writes_1 : decode cX12_writes 1 = .ok (.aload_n 0, 1) := by decide +kernel
theorem dX12_writes_2 : decode cX12_writes 2 = .ok (.iload_n 1, 1) := by decide +kernel
theorem dX12_writes_3 : decode cX12_writes 3 = .ok (.invokevirtual 185, 3) := by decide +kernel
theorem dX12_writes_6 : decode cX12_writes 6 = .ok (.ifCond .ne 7, 3) := by decide +kernel
theorem dX12_writes_9 : decode cX12_writes 9 = .ok (.iconst 1, 1) := by decide +kernel
theorem dX12_writes_10 : decode cX12_writes 10 = .ok (.goto 15, 3) := by decide +kernel
theorem dX12_writes_13 : decode cX12_writes 13 = .ok (.iload_n 2, 1) := by decide +kernel
theorem dX12_writes_14 : decode cX12_writes 14 = .ok (.invokestatic 188, 3) := by decide +kernel
theorem dX12_writes_17 : decode cX12_writes 17 = .ok (.ifCond .eq 7, 3) := by decide +kernel
theorem dX12_writes_20 : decode cX12_writes 20 = .ok (.iconst 0, 1) := by decide +kernel
theorem dX12_writes_21 : decode cX12_writes 21 = .ok (.goto 4, 3) := by decide +kernel
theorem dX12_writes_24 : decode cX12_writes 24 = .ok (.iconst 2, 1) := by decide +kernel
theorem dX12_writes_25 : decode cX12_writes 25 = .ok (.invokevirtual 134, 3) := by decide +kernel
theorem dX12_writes_28 : decode cX12_writes 28 = .ok (.ifCond .eq 7, 3) := by decide +kernel
theorem dX12_writes_31 : decode cX12_writes 31 = .ok (.iconst 0, 1) := by decide +kernel
theorem dX12_writes_32 : decode cX12_writes 32 = .ok (.goto 11, 3) := by decide +kernel
theorem dX12_writes_35 : decode cX12_writes 35 = .ok (.aload_n 0, 1) := by decide +kernel
theorem dX12_writes_36 : decode cX12_writes 36 = .ok (.getfield 76, 3) := by decide +kernel
theorem dX12_writes_39 : decode cX12_writes 39 = .ok (.iload_n 1, 1) := by decide +kernel
theorem dX12_writes_40 : decode cX12_writes 40 = .ok (.aaload, 1) := by decide +kernel
theorem dX12_writes_41 : decode cX12_writes 41 = .ok (.iload_n 2, 1) := by decide +kernel
theorem dX12_writes_42 : decode cX12_writes 42 = .ok (.iaload, 1) := by decide +kernel
theorem dX12_writes_43 : decode cX12_writes 43 = .ok (.ireturn, 1) := by decide +kernel
theorem dX12_mark_0 : decode cX12_mark 0 = .ok (.aload_n 0, 1) := by decide +kernel
theorem dX12_mark_1 : decode cX12_mark 1 = .ok (.aload_n 0, 1) := by decide +kernel
theorem dX12_mark_2 : decode cX12_mark 2 = .ok (.iload_n 1, 1) := by decide +kernel
theorem dX12_mark_3 : decode cX12_mark 3 = .ok (.invokevirtual 185, 3) := by decide +kernel
theorem dX12_mark_6 : decode cX12_mark 6 = .ok (.ifCond .eq 7, 3) := by decide +kernel
theorem dX12_mark_9 : decode cX12_mark 9 = .ok (.iconst 0, 1) := by decide +kernel
theorem dX12_mark_10 : decode cX12_mark 10 = .ok (.goto 4, 3) := by decide +kernel
theorem dX12_mark_13 : decode cX12_mark 13 = .ok (.iconst 1, 1) := by decide +kernel
theorem dX12_mark_14 : decode cX12_mark 14 = .ok (.invokevirtual 134, 3) := by decide +kernel
theorem dX12_mark_17 : decode cX12_mark 17 = .ok (.ifCond .eq 7, 3) := by decide +kernel
theorem dX12_mark_20 : decode cX12_mark 20 = .ok (.iconst 0, 1) := by decide +kernel
theorem dX12_mark_21 : decode cX12_mark 21 = .ok (.goto 9, 3) := by decide +kernel
theorem dX12_mark_24 : decode cX12_mark 24 = .ok (.aload_n 0, 1) := by decide +kernel
theorem dX12_mark_25 : decode cX12_mark 25 = .ok (.getfield 67, 3) := by decide +kernel
theorem dX12_mark_28 : decode cX12_mark 28 = .ok (.iload_n 1, 1) := by decide +kernel
theorem dX12_mark_29 : decode cX12_mark 29 = .ok (.iaload, 1) := by decide +kernel
theorem dX12_mark_30 : decode cX12_mark 30 = .ok (.ireturn, 1) := by decide +kernel
theorem dX12_spoil_0 : decode cX12_spoil 0 = .ok (.aload_n 0, 1) := by decide +kernel
theorem dX12_spoil_1 : decode cX12_spoil 1 = .ok (.iconst 1, 1) := by decide +kernel
theorem dX12_spoil_2 : decode cX12_spoil 2 = .ok (.iload_n 1, 1) := by decide +kernel
theorem dX12_spoil_3 : decode cX12_spoil 3 = .ok (.iload_n 2, 1) := by decide +kernel
theorem dX12_spoil_4 : decode cX12_spoil 4 = .ok (.invokevirtual 197, 3) := by decide +kernel
theorem dX12_spoil_7 : decode cX12_spoil 7 = .ok (.ifCond .eq 5, 3) := by decide +kernel
theorem dX12_spoil_10 : decode cX12_spoil 10 = .ok (.iconst 0, 1) := by decide +kernel
theorem dX12_spoil_11 : decode cX12_spoil 11 = .ok (.ireturn, 1) := by decide +kernel
theorem dX12_spoil_12 : decode cX12_spoil 12 = .ok (.aload_n 0, 1) := by decide +kernel
theorem dX12_spoil_13 : decode cX12_spoil 13 = .ok (.getfield 79, 3) := by decide +kernel
theorem dX12_spoil_16 : decode cX12_spoil 16 = .ok (.iload_n 1, 1) := by decide +kernel
theorem dX12_spoil_17 : decode cX12_spoil 17 = .ok (.aaload, 1) := by decide +kernel
theorem dX12_spoil_18 : decode cX12_spoil 18 = .ok (.iload_n 2, 1) := by decide +kernel
theorem dX12_spoil_19 : decode cX12_spoil 19 = .ok (.dup2, 1) := by decide +kernel
theorem dX12_spoil_20 : decode cX12_spoil 20 = .ok (.iaload, 1) := by decide +kernel
theorem dX12_spoil_21 : decode cX12_spoil 21 = .ok (.iload_n 3, 1) := by decide +kernel
theorem dX12_spoil_22 : decode cX12_spoil 22 = .ok (.ixor, 1) := by decide +kernel
theorem dX12_spoil_23 : decode cX12_spoil 23 = .ok (.iastore, 1) := by decide +kernel
theorem dX12_spoil_24 : decode cX12_spoil 24 = .ok (.aload_n 0, 1) := by decide +kernel
theorem dX12_spoil_25 : decode cX12_spoil 25 = .ok (.getfield 79, 3) := by decide +kernel
theorem dX12_spoil_28 : decode cX12_spoil 28 = .ok (.iload_n 1, 1) := by decide +kernel
theorem dX12_spoil_29 : decode cX12_spoil 29 = .ok (.aaload, 1) := by decide +kernel
theorem dX12_spoil_30 : decode cX12_spoil 30 = .ok (.iload_n 2, 1) := by decide +kernel
theorem dX12_spoil_31 : decode cX12_spoil 31 = .ok (.iaload, 1) := by decide +kernel
theorem dX12_spoil_32 : decode cX12_spoil 32 = .ok (.ireturn, 1) := by decide +kernel
theorem dX12_status_0 : decode cX12_status 0 = .ok (.aload_n 0, 1) := by decide +kernel
theorem dX12_status_1 : decode cX12_status 1 = .ok (.aload_n 0, 1) := by decide +kernel
theorem dX12_status_2 : decode cX12_status 2 = .ok (.iload_n 1, 1) := by decide +kernel
theorem dX12_status_3 : decode cX12_status 3 = .ok (.invokevirtual 185, 3) := by decide +kernel
theorem dX12_status_6 : decode cX12_status 6 = .ok (.ifCond .eq 7, 3) := by decide +kernel
theorem dX12_status_9 : decode cX12_status 9 = .ok (.iconst 0, 1) := by decide +kernel
theorem dX12_status_10 : decode cX12_status 10 = .ok (.goto 4, 3) := by decide +kernel
theorem dX12_status_13 : decode cX12_status 13 = .ok (.iconst 1, 1) := by decide +kernel
theorem dX12_status_14 : decode cX12_status 14 = .ok (.invokevirtual 134, 3) := by decide +kernel
theorem dX12_status_17 : decode cX12_status 17 = .ok (.ifCond .eq 5, 3) := by decide +kernel
theorem dX12_status_20 : decode cX12_status 20 = .ok (.iconst 0, 1) := by decide +kernel
theorem dX12_status_21 : decode cX12_status 21 = .ok (.ireturn, 1) := by decide +kernel
theorem dX12_status_22 : decode cX12_status 22 = .ok (.aload_n 0, 1) := by decide +kernel
theorem dX12_status_23 : decode cX12_status 23 = .ok (.getfield 85, 3) := by decide +kernel
theorem dX12_status_26 : decode cX12_status 26 = .ok (.iload_n 1, 1) := by decide +kernel
theorem dX12_status_27 : decode cX12_status 27 = .ok (.baload, 1) := by decide +kernel
theorem dX12_status_28 : decode cX12_status 28 = .ok (.ifCond .eq 8, 3) := by decide +kernel
theorem dX12_status_31 : decode cX12_status 31 = .ok (.bipush 120, 2) := by decide +kernel
theorem dX12_status_33 : decode cX12_status 33 = .ok (.goto 18, 3) := by decide +kernel
theorem dX12_status_36 : decode cX12_status 36 = .ok (.aload_n 0, 1) := by decide +kernel
theorem dX12_status_37 : decode cX12_status 37 = .ok (.iload_n 1, 1) := by decide +kernel
theorem dX12_status_38 : decode cX12_status 38 = .ok (.invokevirtual 158, 3) := by decide +kernel
theorem dX12_status_41 : decode cX12_status 41 = .ok (.ifCond .eq 8, 3) := by decide +kernel
theorem dX12_status_44 : decode cX12_status 44 = .ok (.bipush 115, 2) := by decide +kernel
theorem dX12_status_46 : decode cX12_status 46 = .ok (.goto 5, 3) := by decide +kernel
theorem dX12_status_49 : decode cX12_status 49 = .ok (.bipush 111, 2) := by decide +kernel
theorem dX12_status_51 : decode cX12_status 51 = .ok (.ireturn, 1) := by decide +kernel
theorem dX12_throwAway_0 : decode cX12_throwAway 0 = .ok (.aload_n 0, 1) := by decide +kernel
theorem dX12_throwAway_1 : decode cX12_throwAway 1 = .ok (.aload_n 0, 1) := by decide +kernel
theorem dX12_throwAway_2 : decode cX12_throwAway 2 = .ok (.iload_n 1, 1) := by decide +kernel
theorem dX12_throwAway_3 : decode cX12_throwAway 3 = .ok (.invokevirtual 138, 3) := by decide +kernel
theorem dX12_throwAway_6 : decode cX12_throwAway 6 = .ok (.ifCond .eq 11, 3) := by decide +kernel
theorem dX12_throwAway_9 : decode cX12_throwAway 9 = .ok (.aload_n 0, 1) := by decide +kernel
theorem dX12_throwAway_10 : decode cX12_throwAway 10 = .ok (.iload_n 2, 1) := by decide +kernel
theorem dX12_throwAway_11 : decode cX12_throwAway 11 = .ok (.invokevirtual 185, 3) := by decide +kernel
theorem dX12_throwAway_14 : decode cX12_throwAway 14 = .ok (.ifCond .ne 7, 3) := by decide +kernel
theorem dX12_throwAway_17 : decode cX12_throwAway 17 = .ok (.iconst 1, 1) := by decide +kernel
theorem dX12_throwAway_18 : decode cX12_throwAway 18 = .ok (.goto 43, 3) := by decide +kernel
theorem dX12_throwAway_21 : decode cX12_throwAway 21 = .ok (.aload_n 0, 1) := by decide +kernel
theorem dX12_throwAway_22 : decode cX12_throwAway 22 = .ok (.getfield 42, 3) := by decide +kernel
theorem dX12_throwAway_25 : decode cX12_throwAway 25 = .ok (.aload_n 0, 1) := by decide +kernel
theorem dX12_throwAway_26 : decode cX12_throwAway 26 = .ok (.getfield 61, 3) := by decide +kernel
theorem dX12_throwAway_29 : decode cX12_throwAway 29 = .ok (.iload_n 2, 1) := by decide +kernel
theorem dX12_throwAway_30 : decode cX12_throwAway 30 = .ok (.iaload, 1) := by decide +kernel
theorem dX12_throwAway_31 : decode cX12_throwAway 31 = .ok (.iaload, 1) := by decide +kernel
theorem dX12_throwAway_32 : decode cX12_throwAway 32 = .ok (.iload_n 1, 1) := by decide +kernel
theorem dX12_throwAway_33 : decode cX12_throwAway 33 = .ok (.if_icmp .eq 7, 3) := by decide +kernel
theorem dX12_throwAway_36 : decode cX12_throwAway 36 = .ok (.iconst 2, 1) := by decide +kernel
theorem dX12_throwAway_37 : decode cX12_throwAway 37 = .ok (.goto 24, 3) := by decide +kernel
theorem dX12_throwAway_40 : decode cX12_throwAway 40 = .ok (.aload_n 0, 1) := by decide +kernel
theorem dX12_throwAway_41 : decode cX12_throwAway 41 = .ok (.getfield 85, 3) := by decide +kernel
theorem dX12_throwAway_44 : decode cX12_throwAway 44 = .ok (.iload_n 2, 1) := by decide +kernel
theorem dX12_throwAway_45 : decode cX12_throwAway 45 = .ok (.baload, 1) := by decide +kernel
theorem dX12_throwAway_46 : decode cX12_throwAway 46 = .ok (.ifCond .ne 10, 3) := by decide +kernel
theorem dX12_throwAway_49 : decode cX12_throwAway 49 = .ok (.aload_n 0, 1) := by decide +kernel
theorem dX12_throwAway_50 : decode cX12_throwAway 50 = .ok (.invokevirtual 147, 3) := by decide +kernel
theorem dX12_throwAway_53 : decode cX12_throwAway 53 = .ok (.ifCond .eq 7, 3) := by decide +kernel
theorem dX12_throwAway_56 : decode cX12_throwAway 56 = .ok (.iconst 3, 1) := by decide +kernel
theorem dX12_throwAway_57 : decode cX12_throwAway 57 = .ok (.goto 4, 3) := by decide +kernel
theorem dX12_throwAway_60 : decode cX12_throwAway 60 = .ok (.iconst 0, 1) := by decide +kernel
theorem dX12_throwAway_61 : decode cX12_throwAway 61 = .ok (.invokevirtual 134, 3) := by decide +kernel
theorem dX12_throwAway_64 : decode cX12_throwAway 64 = .ok (.ifCond .eq 5, 3) := by decide +kernel
theorem dX12_throwAway_67 : decode cX12_throwAway 67 = .ok (.iconst 0, 1) := by decide +kernel
theorem dX12_throwAway_68 : decode cX12_throwAway 68 = .ok (.ireturn, 1) := by decide +kernel
theorem dX12_throwAway_69 : decode cX12_throwAway 69 = .ok (.aload_n 0, 1) := by decide +kernel
theorem dX12_throwAway_70 : decode cX12_throwAway 70 = .ok (.getfield 85, 3) := by decide +kernel
theorem dX12_throwAway_73 : decode cX12_throwAway 73 = .ok (.iload_n 2, 1) := by decide +kernel
theorem dX12_throwAway_74 : decode cX12_throwAway 74 = .ok (.iconst 1, 1) := by decide +kernel
theorem dX12_throwAway_75 : decode cX12_throwAway 75 = .ok (.bastore, 1) := by decide +kernel
theorem dX12_throwAway_76 : decode cX12_throwAway 76 = .ok (.aload_n 0, 1) := by decide +kernel
theorem dX12_throwAway_77 : decode cX12_throwAway 77 = .ok (.sipush 300, 3) := by decide +kernel
theorem dX12_throwAway_80 : decode cX12_throwAway 80 = .ok (.iload_n 2, 1) := by decide +kernel
theorem dX12_throwAway_81 : decode cX12_throwAway 81 = .ok (.invokestatic 151, 3) := by decide +kernel
theorem dX12_throwAway_84 : decode cX12_throwAway 84 = .ok (.invokevirtual 154, 3) := by decide +kernel
theorem dX12_throwAway_87 : decode cX12_throwAway 87 = .ok (.aload_n 0, 1) := by decide +kernel
theorem dX12_throwAway_88 : decode cX12_throwAway 88 = .ok (.iload_n 2, 1) := by decide +kernel
theorem dX12_throwAway_89 : decode cX12_throwAway 89 = .ok (.invokevirtual 179, 3) := by decide +kernel
theorem dX12_throwAway_92 : decode cX12_throwAway 92 = .ok (.ireturn, 1) := by decide +kernel
theorem dX12_purge_0 : decode cX12_purge 0 = .ok (.aload_n 0, 1) := by decide +kernel
theorem dX12_purge_1 : decode cX12_purge 1 = .ok (.iconst 0, 1) := by decide +kernel
theorem dX12_purge_2 : decode cX12_purge 2 = .ok (.putfield 1, 3) := by decide +kernel
theorem dX12_purge_5 : decode cX12_purge 5 = .ok (.iconst 0, 1) := by decide +kernel
theorem dX12_purge_6 : decode cX12_purge 6 = .ok (.istore_n 1, 1) := by decide +kernel
theorem dX12_purge_7 : decode cX12_purge 7 = .ok (.iconst 0, 1) := by decide +kernel
theorem dX12_purge_8 : decode cX12_purge 8 = .ok (.istore_n 2, 1) := by decide +kernel
theorem dX12_purge_9 : decode cX12_purge 9 = .ok (.iload_n 2, 1) := by decide +kernel
theorem dX12_purge_10 : decode cX12_purge 10 = .ok (.aload_n 0, 1) := by decide +kernel
theorem dX12_purge_11 : decode cX12_purge 11 = .ok (.getfield 131, 3) := by decide +kernel
theorem dX12_purge_14 : decode cX12_purge 14 = .ok (.if_icmp .ge 62, 3) := by decide +kernel
theorem dX12_purge_17 : decode cX12_purge 17 = .ok (.iload_n 1, 1) := by decide +kernel
theorem dX12_purge_18 : decode cX12_purge 18 = .ok (.aload_n 0, 1) := by decide +kernel
theorem dX12_purge_19 : decode cX12_purge 19 = .ok (.getfield 85, 3) := by decide +kernel
theorem dX12_purge_22 : decode cX12_purge 22 = .ok (.iload_n 2, 1) := by decide +kernel
theorem dX12_purge_23 : decode cX12_purge 23 = .ok (.baload, 1) := by decide +kernel
theorem dX12_purge_24 : decode cX12_purge 24 = .ok (.ifCond .eq 11, 3) := by decide +kernel
theorem dX12_purge_27 : decode cX12_purge 27 = .ok (.aload_n 0, 1) := by decide +kernel
theorem dX12_purge_28 : decode cX12_purge 28 = .ok (.iload_n 2, 1) := by decide +kernel
theorem dX12_purge_29 : decode cX12_purge 29 = .ok (.invokevirtual 179, 3) := by decide +kernel
theorem dX12_purge_32 : decode cX12_purge 32 = .ok (.goto 4, 3) := by decide +kernel
theorem dX12_purge_35 : decode cX12_purge 35 = .ok (.iconst 0, 1) := by decide +kernel
theorem dX12_purge_36 : decode cX12_purge 36 = .ok (.iadd, 1) := by decide +kernel
theorem dX12_purge_37 : decode cX12_purge 37 = .ok (.istore_n 1, 1) := by decide +kernel
theorem dX12_purge_38 : decode cX12_purge 38 = .ok (.iconst 0, 1) := by decide +kernel
theorem dX12_purge_39 : decode cX12_purge 39 = .ok (.istore_n 3, 1) := by decide +kernel
theorem dX12_purge_40 : decode cX12_purge 40 = .ok (.aload_n 0, 1) := by decide +kernel
theorem dX12_purge_41 : decode cX12_purge 41 = .ok (.getfield 85, 3) := by decide +kernel
theorem dX12_purge_44 : decode cX12_purge 44 = .ok (.iload_n 2, 1) := by decide +kernel
theorem dX12_purge_45 : decode cX12_purge 45 = .ok (.baload, 1) := by decide +kernel
theorem dX12_purge_46 : decode cX12_purge 46 = .ok (.ifCond .eq 24, 3) := by decide +kernel
theorem dX12_purge_49 : decode cX12_purge 49 = .ok (.iload_n 3, 1) := by decide +kernel
theorem dX12_purge_50 : decode cX12_purge 50 = .ok (.bipush 8, 2) := by decide +kernel
theorem dX12_purge_52 : decode cX12_purge 52 = .ok (.if_icmp .ge 18, 3) := by decide +kernel
theorem dX12_purge_55 : decode cX12_purge 55 = .ok (.aload_n 0, 1) := by decide +kernel
theorem dX12_purge_56 : decode cX12_purge 56 = .ok (.getfield 76, 3) := by decide +kernel
theorem dX12_purge_59 : decode cX12_purge 59 = .ok (.iload_n 2, 1) := by decide +kernel
theorem dX12_purge_60 : decode cX12_purge 60 = .ok (.aaload, 1) := by decide +kernel
theorem dX12_purge_61 : decode cX12_purge 61 = .ok (.iload_n 3, 1) := by decide +kernel
theorem dX12_purge_62 : decode cX12_purge 62 = .ok (.iconst 0, 1) := by decide +kernel
theorem dX12_purge_63 : decode cX12_purge 63 = .ok (.iastore, 1) := by decide +kernel
theorem dX12_purge_64 : decode cX12_purge 64 = .ok (.iinc 3 1, 3) := by decide +kernel
theorem dX12_purge_67 : decode cX12_purge 67 = .ok (.goto (-27), 3) := by decide +kernel
theorem dX12_purge_70 : decode cX12_purge 70 = .ok (.iinc 2 1, 3) := by decide +kernel
theorem dX12_purge_73 : decode cX12_purge 73 = .ok (.goto (-64), 3) := by decide +kernel
theorem dX12_purge_76 : decode cX12_purge 76 = .ok (.iload_n 1, 1) := by decide +kernel
theorem dX12_purge_77 : decode cX12_purge 77 = .ok (.ireturn, 1) := by decide +kernel
theorem dX12_parts_0 : decode cX12_parts 0 = .ok (.aload_n 0, 1) := by decide +kernel
theorem dX12_parts_1 : decode cX12_parts 1 = .ok (.aload_n 0, 1) := by decide +kernel
theorem dX12_parts_2 : decode cX12_parts 2 = .ok (.iload_n 1, 1) := by decide +kernel
theorem dX12_parts_3 : decode cX12_parts 3 = .ok (.invokevirtual 144, 3) := by decide +kernel
theorem dX12_parts_6 : decode cX12_parts 6 = .ok (.ifCond .eq 7, 3) := by decide +kernel
theorem dX12_parts_9 : decode cX12_parts 9 = .ok (.iconst 0, 1) := by decide +kernel
theorem dX12_parts_10 : decode cX12_parts 10 = .ok (.goto 4, 3) := by decide +kernel
theorem dX12_parts_13 : decode cX12_parts 13 = .ok (.iconst 1, 1) := by decide +kernel
theorem dX12_parts_14 : decode cX12_parts 14 = .ok (.invokevirtual 134, 3) := by decide +kernel
theorem dX12_parts_17 : decode cX12_parts 17 = .ok (.ifCond .eq 7, 3) := by decide +kernel
theorem dX12_parts_20 : decode cX12_parts 20 = .ok (.iconst 0, 1) := by decide +kernel
theorem dX12_parts_21 : decode cX12_parts 21 = .ok (.goto 8, 3) := by decide +kernel
theorem dX12_parts_24 : decode cX12_parts 24 = .ok (.aload_n 0, 1) := by decide +kernel
theorem dX12_parts_25 : decode cX12_parts 25 = .ok (.iload_n 1, 1) := by decide +kernel
theorem dX12_parts_26 : decode cX12_parts 26 = .ok (.invokevirtual 182, 3) := by decide +kernel
theorem dX12_parts_29 : decode cX12_parts 29 = .ok (.ireturn, 1) := by decide +kernel
theorem dX12_token_0 : decode cX12_token 0 = .ok (.iconst 2, 1) := by decide +kernel
theorem dX12_token_1 : decode cX12_token 1 = .ok (.iload_n 0, 1) := by decide +kernel
theorem dX12_token_2 : decode cX12_token 2 = .ok (.invokestatic 151, 3) := by decide +kernel
theorem dX12_token_5 : decode cX12_token 5 = .ok (.iload_n 1, 1) := by decide +kernel
theorem dX12_token_6 : decode cX12_token 6 = .ok (.invokestatic 151, 3) := by decide +kernel
theorem dX12_token_9 : decode cX12_token 9 = .ok (.iload_n 2, 1) := by decide +kernel
theorem dX12_token_10 : decode cX12_token 10 = .ok (.invokestatic 151, 3) := by decide +kernel
theorem dX12_token_13 : decode cX12_token 13 = .ok (.ireturn, 1) := by decide +kernel
theorem dX12_isKept_0 : decode cX12_isKept 0 = .ok (.iconst 0, 1) := by decide +kernel
theorem dX12_isKept_1 : decode cX12_isKept 1 = .ok (.istore_n 3, 1) := by decide +kernel
theorem dX12_isKept_2 : decode cX12_isKept 2 = .ok (.iconst 0, 1) := by decide +kernel
theorem dX12_isKept_3 : decode cX12_isKept 3 = .ok (.istore 4, 2) := by decide +kernel
theorem dX12_isKept_5 : decode cX12_isKept 5 = .ok (.iload 4, 2) := by decide +kernel
theorem dX12_isKept_7 : decode cX12_isKept 7 = .ok (.aload_n 0, 1) := by decide +kernel
theorem dX12_isKept_8 : decode cX12_isKept 8 = .ok (.getfield 210, 3) := by decide +kernel
theorem dX12_isKept_11 : decode cX12_isKept 11 = .ok (.if_icmp .ge 39, 3) := by decide +kernel
theorem dX12_isKept_14 : decode cX12_isKept 14 = .ok (.iload_n 3, 1) := by decide +kernel
theorem dX12_isKept_15 : decode cX12_isKept 15 = .ok (.aload_n 0, 1) := by decide +kernel
theorem dX12_isKept_16 : decode cX12_isKept 16 = .ok (.getfield 88, 3) := by decide +kernel
theorem dX12_isKept_19 : decode cX12_isKept 19 = .ok (.iload 4, 2) := by decide +kernel
theorem dX12_isKept_21 : decode cX12_isKept 21 = .ok (.iaload, 1) := by decide +kernel
theorem dX12_isKept_22 : decode cX12_isKept 22 = .ok (.iload_n 1, 1) := by decide +kernel
theorem dX12_isKept_23 : decode cX12_isKept 23 = .ok (.if_icmp .ne 18, 3) := by decide +kernel
theorem dX12_isKept_26 : decode cX12_isKept 26 = .ok (.aload_n 0, 1) := by decide +kernel
theorem dX12_isKept_27 : decode cX12_isKept 27 = .ok (.getfield 91, 3) := by decide +kernel
theorem dX12_isKept_30 : decode cX12_isKept 30 = .ok (.iload 4, 2) := by decide +kernel
theorem dX12_isKept_32 : decode cX12_isKept 32 = .ok (.iaload, 1) := by decide +kernel
theorem dX12_isKept_33 : decode cX12_isKept 33 = .ok (.iload_n 2, 1) := by decide +kernel
theorem dX12_isKept_34 : decode cX12_isKept 34 = .ok (.if_icmp .ne 7, 3) := by decide +kernel
theorem dX12_isKept_37 : decode cX12_isKept 37 = .ok (.iconst 1, 1) := by decide +kernel
theorem dX12_isKept_38 : decode cX12_isKept 38 = .ok (.goto 4, 3) := by decide +kernel
theorem dX12_isKept_41 : decode cX12_isKept 41 = .ok (.iconst 0, 1) := by decide +kernel
theorem dX12_isKept_42 : decode cX12_isKept 42 = .ok (.ior, 1) := by decide +kernel
theorem dX12_isKept_43 : decode cX12_isKept 43 = .ok (.istore_n 3, 1) := by decide +kernel
theorem dX12_isKept_44 : decode cX12_isKept 44 = .ok (.iinc 4 1, 3) := by decide +kernel
theorem dX12_isKept_47 : decode cX12_isKept 47 = .ok (.goto (-42), 3) := by decide +kernel
theorem dX12_isKept_50 : decode cX12_isKept 50 = .ok (.iload_n 3, 1) := by decide +kernel
theorem dX12_isKept_51 : decode cX12_isKept 51 = .ok (.ireturn, 1) := by decide +kernel
theorem dX12_tell_0 : decode cX12_tell 0 = .ok (.aload_n 0, 1) := by decide +kernel
theorem dX12_tell_1 : decode cX12_tell 1 = .ok (.aload_n 0, 1) := by decide +kernel
theorem dX12_tell_2 : decode cX12_tell 2 = .ok (.iload_n 1, 1) := by decide +kernel
theorem dX12_tell_3 : decode cX12_tell 3 = .ok (.invokevirtual 138, 3) := by decide +kernel
theorem dX12_tell_6 : decode cX12_tell 6 = .ok (.ifCond .eq 11, 3) := by decide +kernel
theorem dX12_tell_9 : decode cX12_tell 9 = .ok (.aload_n 0, 1) := by decide +kernel
theorem dX12_tell_10 : decode cX12_tell 10 = .ok (.iload_n 2, 1) := by decide +kernel
theorem dX12_tell_11 : decode cX12_tell 11 = .ok (.invokevirtual 185, 3) := by decide +kernel
theorem dX12_tell_14 : decode cX12_tell 14 = .ok (.ifCond .ne 7, 3) := by decide +kernel
theorem dX12_tell_17 : decode cX12_tell 17 = .ok (.iconst 1, 1) := by decide +kernel
theorem dX12_tell_18 : decode cX12_tell 18 = .ok (.goto 38, 3) := by decide +kernel
theorem dX12_tell_21 : decode cX12_tell 21 = .ok (.iload_n 3, 1) := by decide +kernel
theorem dX12_tell_22 : decode cX12_tell 22 = .ok (.iconst 0, 1) := by decide +kernel
theorem dX12_tell_23 : decode cX12_tell 23 = .ok (.bipush 99, 2) := by decide +kernel
theorem dX12_tell_25 : decode cX12_tell 25 = .ok (.invokestatic 124, 3) := by decide +kernel
theorem dX12_tell_28 : decode cX12_tell 28 = .ok (.ifCond .ne 7, 3) := by decide +kernel
theorem dX12_tell_31 : decode cX12_tell 31 = .ok (.iconst 2, 1) := by decide +kernel
theorem dX12_tell_32 : decode cX12_tell 32 = .ok (.goto 24, 3) := by decide +kernel
theorem dX12_tell_35 : decode cX12_tell 35 = .ok (.aload_n 0, 1) := by decide +kernel
theorem dX12_tell_36 : decode cX12_tell 36 = .ok (.getfield 53, 3) := by decide +kernel
theorem dX12_tell_39 : decode cX12_tell 39 = .ok (.aload_n 0, 1) := by decide +kernel
theorem dX12_tell_40 : decode cX12_tell 40 = .ok (.getfield 61, 3) := by decide +kernel
theorem dX12_tell_43 : decode cX12_tell 43 = .ok (.iload_n 2, 1) := by decide +kernel
theorem dX12_tell_44 : decode cX12_tell 44 = .ok (.iaload, 1) := by decide +kernel
theorem dX12_tell_45 : decode cX12_tell 45 = .ok (.aaload, 1) := by decide +kernel
theorem dX12_tell_46 : decode cX12_tell 46 = .ok (.iload_n 1, 1) := by decide +kernel
theorem dX12_tell_47 : decode cX12_tell 47 = .ok (.baload, 1) := by decide +kernel
theorem dX12_tell_48 : decode cX12_tell 48 = .ok (.ifCond .ne 7, 3) := by decide +kernel
theorem dX12_tell_51 : decode cX12_tell 51 = .ok (.iconst 3, 1) := by decide +kernel
theorem dX12_tell_52 : decode cX12_tell 52 = .ok (.goto 4, 3) := by decide +kernel
theorem dX12_tell_55 : decode cX12_tell 55 = .ok (.iconst 0, 1) := by decide +kernel
theorem dX12_tell_56 : decode cX12_tell 56 = .ok (.invokevirtual 134, 3) := by decide +kernel
theorem dX12_tell_59 : decode cX12_tell 59 = .ok (.ifCond .eq 5, 3) := by decide +kernel
theorem dX12_tell_62 : decode cX12_tell 62 = .ok (.iconst 0, 1) := by decide +kernel
theorem dX12_tell_63 : decode cX12_tell 63 = .ok (.ireturn, 1) := by decide +kernel
theorem dX12_tell_64 : decode cX12_tell 64 = .ok (.aload_n 0, 1) := by decide +kernel
theorem dX12_tell_65 : decode cX12_tell 65 = .ok (.getfield 61, 3) := by decide +kernel
theorem dX12_tell_68 : decode cX12_tell 68 = .ok (.iload_n 2, 1) := by decide +kernel
theorem dX12_tell_69 : decode cX12_tell 69 = .ok (.iaload, 1) := by decide +kernel
theorem dX12_tell_70 : decode cX12_tell 70 = .ok (.aload_n 0, 1) := by decide +kernel
theorem dX12_tell_71 : decode cX12_tell 71 = .ok (.getfield 48, 3) := by decide +kernel
theorem dX12_tell_74 : decode cX12_tell 74 = .ok (.aload_n 0, 1) := by decide +kernel
theorem dX12_tell_75 : decode cX12_tell 75 = .ok (.getfield 61, 3) := by decide +kernel
theorem dX12_tell_78 : decode cX12_tell 78 = .ok (.iload_n 2, 1) := by decide +kernel
theorem dX12_tell_79 : decode cX12_tell 79 = .ok (.iaload, 1) := by decide +kernel
theorem dX12_tell_80 : decode cX12_tell 80 = .ok (.iaload, 1) := by decide +kernel
theorem dX12_tell_81 : decode cX12_tell 81 = .ok (.iload_n 3, 1) := by decide +kernel
theorem dX12_tell_82 : decode cX12_tell 82 = .ok (.invokestatic 213, 3) := by decide +kernel
theorem dX12_tell_85 : decode cX12_tell 85 = .ok (.istore 4, 2) := by decide +kernel
theorem dX12_tell_87 : decode cX12_tell 87 = .ok (.aload_n 0, 1) := by decide +kernel
theorem dX12_tell_88 : decode cX12_tell 88 = .ok (.iload 4, 2) := by decide +kernel
theorem dX12_tell_90 : decode cX12_tell 90 = .ok (.iload_n 2, 1) := by decide +kernel
theorem dX12_tell_91 : decode cX12_tell 91 = .ok (.invokevirtual 216, 3) := by decide +kernel
theorem dX12_tell_94 : decode cX12_tell 94 = .ok (.ifCond .eq 8, 3) := by decide +kernel
theorem dX12_tell_97 : decode cX12_tell 97 = .ok (.aload_n 0, 1) := by decide +kernel
theorem dX12_tell_98 : decode cX12_tell 98 = .ok (.getfield 210, 3) := by decide +kernel
theorem dX12_tell_101 : decode cX12_tell 101 = .ok (.ireturn, 1) := by decide +kernel
theorem dX12_tell_102 : decode cX12_tell 102 = .ok (.aload_n 0, 1) := by decide +kernel
theorem dX12_tell_103 : decode cX12_tell 103 = .ok (.aload_n 0, 1) := by decide +kernel
theorem dX12_tell_104 : decode cX12_tell 104 = .ok (.getfield 210, 3) := by decide +kernel
theorem dX12_tell_107 : decode cX12_tell 107 = .ok (.bipush 60, 2) := by decide +kernel
theorem dX12_tell_109 : decode cX12_tell 109 = .ok (.if_icmp .ne 7, 3) := by decide +kernel
theorem dX12_tell_112 : decode cX12_tell 112 = .ok (.iconst 4, 1) := by decide +kernel
theorem dX12_tell_113 : decode cX12_tell 113 = .ok (.goto 4, 3) := by decide +kernel
theorem dX12_tell_116 : decode cX12_tell 116 = .ok (.iconst 0, 1) := by decide +kernel
theorem dX12_tell_117 : decode cX12_tell 117 = .ok (.invokevirtual 134, 3) := by decide +kernel
theorem dX12_tell_120 : decode cX12_tell 120 = .ok (.ifCond .eq 5, 3) := by decide +kernel
theorem dX12_tell_123 : decode cX12_tell 123 = .ok (.iconst 0, 1) := by decide +kernel
theorem dX12_tell_124 : decode cX12_tell 124 = .ok (.ireturn, 1) := by decide +kernel
theorem dX12_tell_125 : decode cX12_tell 125 = .ok (.aload_n 0, 1) := by decide +kernel
theorem dX12_tell_126 : decode cX12_tell 126 = .ok (.getfield 88, 3) := by decide +kernel
theorem dX12_tell_129 : decode cX12_tell 129 = .ok (.aload_n 0, 1) := by decide +kernel
theorem dX12_tell_130 : decode cX12_tell 130 = .ok (.getfield 210, 3) := by decide +kernel
theorem dX12_tell_133 : decode cX12_tell 133 = .ok (.iload 4, 2) := by decide +kernel
theorem dX12_tell_135 : decode cX12_tell 135 = .ok (.iastore, 1) := by decide +kernel
theorem dX12_tell_136 : decode cX12_tell 136 = .ok (.aload_n 0, 1) := by decide +kernel
theorem dX12_tell_137 : decode cX12_tell 137 = .ok (.getfield 91, 3) := by decide +kernel
theorem dX12_tell_140 : decode cX12_tell 140 = .ok (.aload_n 0, 1) := by decide +kernel
theorem dX12_tell_141 : decode cX12_tell 141 = .ok (.getfield 210, 3) := by decide +kernel
theorem dX12_tell_144 : decode cX12_tell 144 = .ok (.iload_n 2, 1) := by decide +kernel
theorem dX12_tell_145 : decode cX12_tell 145 = .ok (.iastore, 1) := by decide +kernel
theorem dX12_tell_146 : decode cX12_tell 146 = .ok (.aload_n 0, 1) := by decide +kernel
theorem dX12_tell_147 : decode cX12_tell 147 = .ok (.dup, 1) := by decide +kernel
theorem dX12_tell_148 : decode cX12_tell 148 = .ok (.getfield 210, 3) := by decide +kernel
theorem dX12_tell_151 : decode cX12_tell 151 = .ok (.iconst 1, 1) := by decide +kernel
theorem dX12_tell_152 : decode cX12_tell 152 = .ok (.iadd, 1) := by decide +kernel
theorem dX12_tell_153 : decode cX12_tell 153 = .ok (.putfield 210, 3) := by decide +kernel
theorem dX12_tell_156 : decode cX12_tell 156 = .ok (.aload_n 0, 1) := by decide +kernel
theorem dX12_tell_157 : decode cX12_tell 157 = .ok (.getfield 210, 3) := by decide +kernel
theorem dX12_tell_160 : decode cX12_tell 160 = .ok (.ireturn, 1) := by decide +kernel
theorem dX12_shows_0 : decode cX12_shows 0 = .ok (.iconst 0, 1) := by decide +kernel
theorem dX12_shows_1 : decode cX12_shows 1 = .ok (.istore_n 2, 1) := by decide +kernel
theorem dX12_shows_2 : decode cX12_shows 2 = .ok (.iconst 0, 1) := by decide +kernel
theorem dX12_shows_3 : decode cX12_shows 3 = .ok (.istore_n 3, 1) := by decide +kernel
theorem dX12_shows_4 : decode cX12_shows 4 = .ok (.iload_n 3, 1) := by decide +kernel
theorem dX12_shows_5 : decode cX12_shows 5 = .ok (.aload_n 0, 1) := by decide +kernel
theorem dX12_shows_6 : decode cX12_shows 6 = .ok (.getfield 220, 3) := by decide +kernel
theorem dX12_shows_9 : decode cX12_shows 9 = .ok (.if_icmp .ge 27, 3) := by decide +kernel
theorem dX12_shows_12 : decode cX12_shows 12 = .ok (.iload_n 2, 1) := by decide +kernel
theorem dX12_shows_13 : decode cX12_shows 13 = .ok (.aload_n 0, 1) := by decide +kernel
theorem dX12_shows_14 : decode cX12_shows 14 = .ok (.getfield 94, 3) := by decide +kernel
theorem dX12_shows_17 : decode cX12_shows 17 = .ok (.iload_n 3, 1) := by decide +kernel
theorem dX12_shows_18 : decode cX12_shows 18 = .ok (.iaload, 1) := by decide +kernel
theorem dX12_shows_19 : decode cX12_shows 19 = .ok (.iload_n 1, 1) := by decide +kernel
theorem dX12_shows_20 : decode cX12_shows 20 = .ok (.if_icmp .ne 7, 3) := by decide +kernel
theorem dX12_shows_23 : decode cX12_shows 23 = .ok (.iconst 1, 1) := by decide +kernel
theorem dX12_shows_24 : decode cX12_shows 24 = .ok (.goto 4, 3) := by decide +kernel
theorem dX12_shows_27 : decode cX12_shows 27 = .ok (.iconst 0, 1) := by decide +kernel
theorem dX12_shows_28 : decode cX12_shows 28 = .ok (.ior, 1) := by decide +kernel
theorem dX12_shows_29 : decode cX12_shows 29 = .ok (.istore_n 2, 1) := by decide +kernel
theorem dX12_shows_30 : decode cX12_shows 30 = .ok (.iinc 3 1, 3) := by decide +kernel
theorem dX12_shows_33 : decode cX12_shows 33 = .ok (.goto (-29), 3) := by decide +kernel
theorem dX12_shows_36 : decode cX12_shows 36 = .ok (.aload_n 0, 1) := by decide +kernel
theorem dX12_shows_37 : decode cX12_shows 37 = .ok (.dup, 1) := by decide +kernel
theorem dX12_shows_38 : decode cX12_shows 38 = .ok (.getfield 223, 3) := by decide +kernel
theorem dX12_shows_41 : decode cX12_shows 41 = .ok (.iload_n 2, 1) := by decide +kernel
theorem dX12_shows_42 : decode cX12_shows 42 = .ok (.ifCond .eq 7, 3) := by decide +kernel
theorem dX12_shows_45 : decode cX12_shows 45 = .ok (.iconst 0, 1) := by decide +kernel
theorem dX12_shows_46 : decode cX12_shows 46 = .ok (.goto 4, 3) := by decide +kernel
theorem dX12_shows_49 : decode cX12_shows 49 = .ok (.iconst 1, 1) := by decide +kernel
theorem dX12_shows_50 : decode cX12_shows 50 = .ok (.iadd, 1) := by decide +kernel
theorem dX12_shows_51 : decode cX12_shows 51 = .ok (.putfield 223, 3) := by decide +kernel
theorem dX12_shows_54 : decode cX12_shows 54 = .ok (.aload_n 0, 1) := by decide +kernel
theorem dX12_shows_55 : decode cX12_shows 55 = .ok (.dup, 1) := by decide +kernel
theorem dX12_shows_56 : decode cX12_shows 56 = .ok (.getfield 226, 3) := by decide +kernel
theorem dX12_shows_59 : decode cX12_shows 59 = .ok (.iload_n 2, 1) := by decide +kernel
theorem dX12_shows_60 : decode cX12_shows 60 = .ok (.ifCond .eq 7, 3) := by decide +kernel
theorem dX12_shows_63 : decode cX12_shows 63 = .ok (.iconst 1, 1) := by decide +kernel
theorem dX12_shows_64 : decode cX12_shows 64 = .ok (.goto 4, 3) := by decide +kernel
theorem dX12_shows_67 : decode cX12_shows 67 = .ok (.iconst 0, 1) := by decide +kernel
theorem dX12_shows_68 : decode cX12_shows 68 = .ok (.iadd, 1) := by decide +kernel
theorem dX12_shows_69 : decode cX12_shows 69 = .ok (.putfield 226, 3) := by decide +kernel
theorem dX12_shows_72 : decode cX12_shows 72 = .ok (.iload_n 2, 1) := by decide +kernel
theorem dX12_shows_73 : decode cX12_shows 73 = .ok (.ifCond .eq 4, 3) := by decide +kernel
theorem dX12_shows_76 : decode cX12_shows 76 = .ok (.return_, 1) := by decide +kernel
theorem dX12_shows_77 : decode cX12_shows 77 = .ok (.aload_n 0, 1) := by decide +kernel
theorem dX12_shows_78 : decode cX12_shows 78 = .ok (.getfield 220, 3) := by decide +kernel
theorem dX12_shows_81 : decode cX12_shows 81 = .ok (.aload_n 0, 1) := by decide +kernel
theorem dX12_shows_82 : decode cX12_shows 82 = .ok (.getfield 94, 3) := by decide +kernel
theorem dX12_shows_85 : decode cX12_shows 85 = .ok (.arraylength, 1) := by decide +kernel
theorem dX12_shows_86 : decode cX12_shows 86 = .ok (.if_icmp .ne 46, 3) := by decide +kernel
theorem dX12_shows_89 : decode cX12_shows 89 = .ok (.iconst 2, 1) := by decide +kernel
theorem dX12_shows_90 : decode cX12_shows 90 = .ok (.aload_n 0, 1) := by decide +kernel
theorem dX12_shows_91 : decode cX12_shows 91 = .ok (.getfield 220, 3) := by decide +kernel
theorem dX12_shows_94 : decode cX12_shows 94 = .ok (.imul, 1) := by decide +kernel
theorem dX12_shows_95 : decode cX12_shows 95 = .ok (.newarray .int, 2) := by decide +kernel
theorem dX12_shows_97 : decode cX12_shows 97 = .ok (.astore_n 3, 1) := by decide +kernel
theorem dX12_shows_98 : decode cX12_shows 98 = .ok (.iconst 0, 1) := by decide +kernel
theorem dX12_shows_99 : decode cX12_shows 99 = .ok (.istore 4, 2) := by decide +kernel
theorem dX12_shows_101 : decode cX12_shows 101 = .ok (.iload 4, 2) := by decide +kernel
theorem dX12_shows_103 : decode cX12_shows 103 = .ok (.aload_n 0, 1) := by decide +kernel
theorem dX12_shows_104 : decode cX12_shows 104 = .ok (.getfield 220, 3) := by decide +kernel
theorem dX12_shows_107 : decode cX12_shows 107 = .ok (.if_icmp .ge 20, 3) := by decide +kernel
theorem dX12_shows_110 : decode cX12_shows 110 = .ok (.aload_n 3, 1) := by decide +kernel
theorem dX12_shows_111 : decode cX12_shows 111 = .ok (.iload 4, 2) := by decide +kernel
theorem dX12_shows_113 : decode cX12_shows 113 = .ok (.aload_n 0, 1) := by decide +kernel
theorem dX12_shows_114 : decode cX12_shows 114 = .ok (.getfield 94, 3) := by decide +kernel
theorem dX12_shows_117 : decode cX12_shows 117 = .ok (.iload 4, 2) := by decide +kernel
theorem dX12_shows_119 : decode cX12_shows 119 = .ok (.iaload, 1) := by decide +kernel
theorem dX12_shows_120 : decode cX12_shows 120 = .ok (.iastore, 1) := by decide +kernel
theorem dX12_shows_121 : decode cX12_shows 121 = .ok (.iinc 4 1, 3) := by decide +kernel
theorem dX12_shows_124 : decode cX12_shows 124 = .ok (.goto (-23), 3) := by decide +kernel
theorem dX12_shows_127 : decode cX12_shows 127 = .ok (.aload_n 0, 1) := by decide +kernel
theorem dX12_shows_128 : decode cX12_shows 128 = .ok (.aload_n 3, 1) := by decide +kernel
theorem dX12_shows_129 : decode cX12_shows 129 = .ok (.putfield 94, 3) := by decide +kernel
theorem dX12_shows_132 : decode cX12_shows 132 = .ok (.aload_n 0, 1) := by decide +kernel
theorem dX12_shows_133 : decode cX12_shows 133 = .ok (.getfield 94, 3) := by decide +kernel
theorem dX12_shows_136 : decode cX12_shows 136 = .ok (.aload_n 0, 1) := by decide +kernel
theorem dX12_shows_137 : decode cX12_shows 137 = .ok (.getfield 220, 3) := by decide +kernel
theorem dX12_shows_140 : decode cX12_shows 140 = .ok (.iload_n 1, 1) := by decide +kernel
theorem dX12_shows_141 : decode cX12_shows 141 = .ok (.iastore, 1) := by decide +kernel
theorem dX12_shows_142 : decode cX12_shows 142 = .ok (.aload_n 0, 1) := by decide +kernel
theorem dX12_shows_143 : decode cX12_shows 143 = .ok (.dup, 1) := by decide +kernel
theorem dX12_shows_144 : decode cX12_shows 144 = .ok (.getfield 220, 3) := by decide +kernel
theorem dX12_shows_147 : decode cX12_shows 147 = .ok (.iconst 1, 1) := by decide +kernel
theorem dX12_shows_148 : decode cX12_shows 148 = .ok (.iadd, 1) := by decide +kernel
theorem dX12_shows_149 : decode cX12_shows 149 = .ok (.putfield 220, 3) := by decide +kernel
theorem dX12_shows_152 : decode cX12_shows 152 = .ok (.return_, 1) := by decide +kernel
theorem dX12_ask_0 : decode cX12_ask 0 = .ok (.aload_n 0, 1) := by decide +kernel
theorem dX12_ask_1 : decode cX12_ask 1 = .ok (.aload_n 0, 1) := by decide +kernel
theorem dX12_ask_2 : decode cX12_ask 2 = .ok (.iload_n 1, 1) := by decide +kernel
theorem dX12_ask_3 : decode cX12_ask 3 = .ok (.invokevirtual 138, 3) := by decide +kernel
theorem dX12_ask_6 : decode cX12_ask 6 = .ok (.ifCond .eq 11, 3) := by decide +kernel
theorem dX12_ask_9 : decode cX12_ask 9 = .ok (.aload_n 0, 1) := by decide +kernel
theorem dX12_ask_10 : decode cX12_ask 10 = .ok (.iload_n 2, 1) := by decide +kernel
theorem dX12_ask_11 : decode cX12_ask 11 = .ok (.invokevirtual 144, 3) := by decide +kernel
theorem dX12_ask_14 : decode cX12_ask 14 = .ok (.ifCond .ne 7, 3) := by decide +kernel
theorem dX12_ask_17 : decode cX12_ask 17 = .ok (.iconst 1, 1) := by decide +kernel
theorem dX12_ask_18 : decode cX12_ask 18 = .ok (.goto 31, 3) := by decide +kernel
theorem dX12_ask_21 : decode cX12_ask 21 = .ok (.iload_n 3, 1) := by decide +kernel
theorem dX12_ask_22 : decode cX12_ask 22 = .ok (.iconst 0, 1) := by decide +kernel
theorem dX12_ask_23 : decode cX12_ask 23 = .ok (.bipush 99, 2) := by decide +kernel
theorem dX12_ask_25 : decode cX12_ask 25 = .ok (.invokestatic 124, 3) := by decide +kernel
theorem dX12_ask_28 : decode cX12_ask 28 = .ok (.ifCond .ne 7, 3) := by decide +kernel
theorem dX12_ask_31 : decode cX12_ask 31 = .ok (.iconst 2, 1) := by decide +kernel
theorem dX12_ask_32 : decode cX12_ask 32 = .ok (.goto 17, 3) := by decide +kernel
theorem dX12_ask_35 : decode cX12_ask 35 = .ok (.aload_n 0, 1) := by decide +kernel
theorem dX12_ask_36 : decode cX12_ask 36 = .ok (.iload_n 2, 1) := by decide +kernel
theorem dX12_ask_37 : decode cX12_ask 37 = .ok (.iload_n 1, 1) := by decide +kernel
theorem dX12_ask_38 : decode cX12_ask 38 = .ok (.invokevirtual 172, 3) := by decide +kernel
theorem dX12_ask_41 : decode cX12_ask 41 = .ok (.ifCond .ge 7, 3) := by decide +kernel
theorem dX12_ask_44 : decode cX12_ask 44 = .ok (.iconst 3, 1) := by decide +kernel
theorem dX12_ask_45 : decode cX12_ask 45 = .ok (.goto 4, 3) := by decide +kernel
theorem dX12_ask_48 : decode cX12_ask 48 = .ok (.iconst 0, 1) := by decide +kernel
theorem dX12_ask_49 : decode cX12_ask 49 = .ok (.invokevirtual 134, 3) := by decide +kernel
theorem dX12_ask_52 : decode cX12_ask 52 = .ok (.ifCond .eq 5, 3) := by decide +kernel
theorem dX12_ask_55 : decode cX12_ask 55 = .ok (.iconst 0, 1) := by decide +kernel
theorem dX12_ask_56 : decode cX12_ask 56 = .ok (.ireturn, 1) := by decide +kernel
theorem dX12_ask_57 : decode cX12_ask 57 = .ok (.iconst 0, 1) := by decide +kernel
theorem dX12_ask_58 : decode cX12_ask 58 = .ok (.istore 4, 2) := by decide +kernel
theorem dX12_ask_60 : decode cX12_ask 60 = .ok (.iload 4, 2) := by decide +kernel
theorem dX12_ask_62 : decode cX12_ask 62 = .ok (.bipush 20, 2) := by decide +kernel
theorem dX12_ask_64 : decode cX12_ask 64 = .ok (.if_icmp .ge 17, 3) := by decide +kernel
theorem dX12_ask_67 : decode cX12_ask 67 = .ok (.aload_n 0, 1) := by decide +kernel
theorem dX12_ask_68 : decode cX12_ask 68 = .ok (.getfield 97, 3) := by decide +kernel
theorem dX12_ask_71 : decode cX12_ask 71 = .ok (.iload 4, 2) := by decide +kernel
theorem dX12_ask_73 : decode cX12_ask 73 = .ok (.iconst 0, 1) := by decide +kernel
theorem dX12_ask_74 : decode cX12_ask 74 = .ok (.bastore, 1) := by decide +kernel
theorem dX12_ask_75 : decode cX12_ask 75 = .ok (.iinc 4 1, 3) := by decide +kernel
theorem dX12_ask_78 : decode cX12_ask 78 = .ok (.goto (-18), 3) := by decide +kernel
theorem dX12_ask_81 : decode cX12_ask 81 = .ok (.iconst 0, 1) := by decide +kernel
theorem dX12_ask_82 : decode cX12_ask 82 = .ok (.istore 4, 2) := by decide +kernel
theorem dX12_ask_84 : decode cX12_ask 84 = .ok (.iload 4, 2) := by decide +kernel
theorem dX12_ask_86 : decode cX12_ask 86 = .ok (.aload_n 0, 1) := by decide +kernel
theorem dX12_ask_87 : decode cX12_ask 87 = .ok (.iload_n 2, 1) := by decide +kernel
theorem dX12_ask_88 : decode cX12_ask 88 = .ok (.iload_n 1, 1) := by decide +kernel
theorem dX12_ask_89 : decode cX12_ask 89 = .ok (.invokevirtual 172, 3) := by decide +kernel
theorem dX12_ask_92 : decode cX12_ask 92 = .ok (.if_icmp .gt 74, 3) := by decide +kernel
theorem dX12_ask_95 : decode cX12_ask 95 = .ok (.iload_n 2, 1) := by decide +kernel
theorem dX12_ask_96 : decode cX12_ask 96 = .ok (.iload 4, 2) := by decide +kernel
theorem dX12_ask_98 : decode cX12_ask 98 = .ok (.iload_n 3, 1) := by decide +kernel
theorem dX12_ask_99 : decode cX12_ask 99 = .ok (.invokestatic 213, 3) := by decide +kernel
theorem dX12_ask_102 : decode cX12_ask 102 = .ok (.istore 5, 2) := by decide +kernel
theorem dX12_ask_104 : decode cX12_ask 104 = .ok (.aload_n 0, 1) := by decide +kernel
theorem dX12_ask_105 : decode cX12_ask 105 = .ok (.iload 5, 2) := by decide +kernel
theorem dX12_ask_107 : decode cX12_ask 107 = .ok (.invokevirtual 229, 3) := by decide +kernel
theorem dX12_ask_110 : decode cX12_ask 110 = .ok (.iconst 0, 1) := by decide +kernel
theorem dX12_ask_111 : decode cX12_ask 111 = .ok (.istore 6, 2) := by decide +kernel
theorem dX12_ask_113 : decode cX12_ask 113 = .ok (.iload 6, 2) := by decide +kernel
theorem dX12_ask_115 : decode cX12_ask 115 = .ok (.aload_n 0, 1) := by decide +kernel
theorem dX12_ask_116 : decode cX12_ask 116 = .ok (.getfield 210, 3) := by decide +kernel
theorem dX12_ask_119 : decode cX12_ask 119 = .ok (.if_icmp .ge 41, 3) := by decide +kernel
theorem dX12_ask_122 : decode cX12_ask 122 = .ok (.aload_n 0, 1) := by decide +kernel
theorem dX12_ask_123 : decode cX12_ask 123 = .ok (.getfield 97, 3) := by decide +kernel
theorem dX12_ask_126 : decode cX12_ask 126 = .ok (.aload_n 0, 1) := by decide +kernel
theorem dX12_ask_127 : decode cX12_ask 127 = .ok (.getfield 91, 3) := by decide +kernel
theorem dX12_ask_130 : decode cX12_ask 130 = .ok (.iload 6, 2) := by decide +kernel
theorem dX12_ask_132 : decode cX12_ask 132 = .ok (.iaload, 1) := by decide +kernel
theorem dX12_ask_133 : decode cX12_ask 133 = .ok (.dup2, 1) := by decide +kernel
theorem dX12_ask_134 : decode cX12_ask 134 = .ok (.baload, 1) := by decide +kernel
theorem dX12_ask_135 : decode cX12_ask 135 = .ok (.aload_n 0, 1) := by decide +kernel
theorem dX12_ask_136 : decode cX12_ask 136 = .ok (.getfield 88, 3) := by decide +kernel
theorem dX12_ask_139 : decode cX12_ask 139 = .ok (.iload 6, 2) := by decide +kernel
theorem dX12_ask_141 : decode cX12_ask 141 = .ok (.iaload, 1) := by decide +kernel
theorem dX12_ask_142 : decode cX12_ask 142 = .ok (.iload 5, 2) := by decide +kernel
theorem dX12_ask_144 : decode cX12_ask 144 = .ok (.if_icmp .ne 7, 3) := by decide +kernel
theorem dX12_ask_147 : decode cX12_ask 147 = .ok (.iconst 1, 1) := by decide +kernel
theorem dX12_ask_148 : decode cX12_ask 148 = .ok (.goto 4, 3) := by decide +kernel
theorem dX12_ask_151 : decode cX12_ask 151 = .ok (.iconst 0, 1) := by decide +kernel
theorem dX12_ask_152 : decode cX12_ask 152 = .ok (.ior, 1) := by decide +kernel
theorem dX12_ask_153 : decode cX12_ask 153 = .ok (.bastore, 1) := by decide +kernel
theorem dX12_ask_154 : decode cX12_ask 154 = .ok (.iinc 6 1, 3) := by decide +kernel
theorem dX12_ask_157 : decode cX12_ask 157 = .ok (.goto (-44), 3) := by decide +kernel
theorem dX12_ask_160 : decode cX12_ask 160 = .ok (.iinc 4 1, 3) := by decide +kernel
theorem dX12_ask_163 : decode cX12_ask 163 = .ok (.goto (-79), 3) := by decide +kernel
theorem dX12_ask_166 : decode cX12_ask 166 = .ok (.iconst 0, 1) := by decide +kernel
theorem dX12_ask_167 : decode cX12_ask 167 = .ok (.istore 4, 2) := by decide +kernel
theorem dX12_ask_169 : decode cX12_ask 169 = .ok (.iconst 0, 1) := by decide +kernel
theorem dX12_ask_170 : decode cX12_ask 170 = .ok (.istore 5, 2) := by decide +kernel
theorem dX12_ask_172 : decode cX12_ask 172 = .ok (.iload 5, 2) := by decide +kernel
theorem dX12_ask_174 : decode cX12_ask 174 = .ok (.bipush 20, 2) := by decide +kernel
theorem dX12_ask_176 : decode cX12_ask 176 = .ok (.if_icmp .ge 29, 3) := by decide +kernel
theorem dX12_ask_179 : decode cX12_ask 179 = .ok (.iload 4, 2) := by decide +kernel
theorem dX12_ask_181 : decode cX12_ask 181 = .ok (.aload_n 0, 1) := by decide +kernel
theorem dX12_ask_182 : decode cX12_ask 182 = .ok (.getfield 97, 3) := by decide +kernel
theorem dX12_ask_185 : decode cX12_ask 185 = .ok (.iload 5, 2) := by decide +kernel
theorem dX12_ask_187 : decode cX12_ask 187 = .ok (.baload, 1) := by decide +kernel
theorem dX12_ask_188 : decode cX12_ask 188 = .ok (.ifCond .eq 7, 3) := by decide +kernel
theorem dX12_ask_191 : decode cX12_ask 191 = .ok (.iconst 1, 1) := by decide +kernel
theorem dX12_ask_192 : decode cX12_ask 192 = .ok (.goto 4, 3) := by decide +kernel
theorem dX12_ask_195 : decode cX12_ask 195 = .ok (.iconst 0, 1) := by decide +kernel
theorem dX12_ask_196 : decode cX12_ask 196 = .ok (.iadd, 1) := by decide +kernel
theorem dX12_ask_197 : decode cX12_ask 197 = .ok (.istore 4, 2) := by decide +kernel
theorem dX12_ask_199 : decode cX12_ask 199 = .ok (.iinc 5 1, 3) := by decide +kernel
theorem dX12_ask_202 : decode cX12_ask 202 = .ok (.goto (-30), 3) := by decide +kernel
theorem dX12_ask_205 : decode cX12_ask 205 = .ok (.aload_n 0, 1) := by decide +kernel
theorem dX12_ask_206 : decode cX12_ask 206 = .ok (.dup, 1) := by decide +kernel
theorem dX12_ask_207 : decode cX12_ask 207 = .ok (.getfield 232, 3) := by decide +kernel
theorem dX12_ask_210 : decode cX12_ask 210 = .ok (.iload 4, 2) := by decide +kernel
theorem dX12_ask_212 : decode cX12_ask 212 = .ok (.iadd, 1) := by decide +kernel
theorem dX12_ask_213 : decode cX12_ask 213 = .ok (.putfield 232, 3) := by decide +kernel
theorem dX12_ask_216 : decode cX12_ask 216 = .ok (.aload_n 0, 1) := by decide +kernel
theorem dX12_ask_217 : decode cX12_ask 217 = .ok (.dup, 1) := by decide +kernel
theorem dX12_ask_218 : decode cX12_ask 218 = .ok (.getfield 235, 3) := by decide +kernel
theorem dX12_ask_221 : decode cX12_ask 221 = .ok (.iconst 1, 1) := by decide +kernel
theorem dX12_ask_222 : decode cX12_ask 222 = .ok (.iadd, 1) := by decide +kernel
theorem dX12_ask_223 : decode cX12_ask 223 = .ok (.putfield 235, 3) := by decide +kernel
theorem dX12_ask_226 : decode cX12_ask 226 = .ok (.iload 4, 2) := by decide +kernel
theorem dX12_ask_228 : decode cX12_ask 228 = .ok (.ireturn, 1) := by decide +kernel
theorem dX12_foundAt_0 : decode cX12_foundAt 0 = .ok (.iload_n 1, 1) := by decide +kernel
theorem dX12_foundAt_1 : decode cX12_foundAt 1 = .ok (.istore_n 2, 1) := by decide +kernel
theorem dX12_foundAt_2 : decode cX12_foundAt 2 = .ok (.iconst (-1), 1) := by decide +kernel
theorem dX12_foundAt_3 : decode cX12_foundAt 3 = .ok (.istore_n 3, 1) := by decide +kernel
theorem dX12_foundAt_4 : decode cX12_foundAt 4 = .ok (.iconst 0, 1) := by decide +kernel
theorem dX12_foundAt_5 : decode cX12_foundAt 5 = .ok (.istore 4, 2) := by decide +kernel
theorem dX12_foundAt_7 : decode cX12_foundAt 7 = .ok (.iload_n 1, 1) := by decide +kernel
theorem dX12_foundAt_8 : decode cX12_foundAt 8 = .ok (.ifCond .lt 55, 3) := by decide +kernel
theorem dX12_foundAt_11 : decode cX12_foundAt 11 = .ok (.iload_n 3, 1) := by decide +kernel
theorem dX12_foundAt_12 : decode cX12_foundAt 12 = .ok (.ifCond .ge 51, 3) := by decide +kernel
theorem dX12_foundAt_15 : decode cX12_foundAt 15 = .ok (.iload 4, 2) := by decide +kernel
theorem dX12_foundAt_17 : decode cX12_foundAt 17 = .ok (.bipush 20, 2) := by decide +kernel
theorem dX12_foundAt_19 : decode cX12_foundAt 19 = .ok (.if_icmp .ge 44, 3) := by decide +kernel
theorem dX12_foundAt_22 : decode cX12_foundAt 22 = .ok (.aload_n 0, 1) := by decide +kernel
theorem dX12_foundAt_23 : decode cX12_foundAt 23 = .ok (.getfield 97, 3) := by decide +kernel
theorem dX12_foundAt_26 : decode cX12_foundAt 26 = .ok (.iload 4, 2) := by decide +kernel
theorem dX12_foundAt_28 : decode cX12_foundAt 28 = .ok (.baload, 1) := by decide +kernel
theorem dX12_foundAt_29 : decode cX12_foundAt 29 = .ok (.ifCond .eq 10, 3) := by decide +kernel
theorem dX12_foundAt_32 : decode cX12_foundAt 32 = .ok (.iload_n 2, 1) := by decide +kernel
theorem dX12_foundAt_33 : decode cX12_foundAt 33 = .ok (.ifCond .ne 6, 3) := by decide +kernel
theorem dX12_foundAt_36 : decode cX12_foundAt 36 = .ok (.iload 4, 2) := by decide +kernel
theorem dX12_foundAt_38 : decode cX12_foundAt 38 = .ok (.istore_n 3, 1) := by decide +kernel
theorem dX12_foundAt_39 : decode cX12_foundAt 39 = .ok (.iload_n 2, 1) := by decide +kernel
theorem dX12_foundAt_40 : decode cX12_foundAt 40 = .ok (.aload_n 0, 1) := by decide +kernel
theorem dX12_foundAt_41 : decode cX12_foundAt 41 = .ok (.getfield 97, 3) := by decide +kernel
theorem dX12_foundAt_44 : decode cX12_foundAt 44 = .ok (.iload 4, 2) := by decide +kernel
theorem dX12_foundAt_46 : decode cX12_foundAt 46 = .ok (.baload, 1) := by decide +kernel
theorem dX12_foundAt_47 : decode cX12_foundAt 47 = .ok (.ifCond .eq 7, 3) := by decide +kernel
theorem dX12_foundAt_50 : decode cX12_foundAt 50 = .ok (.iconst 1, 1) := by decide +kernel
theorem dX12_foundAt_51 : decode cX12_foundAt 51 = .ok (.goto 4, 3) := by decide +kernel
theorem dX12_foundAt_54 : decode cX12_foundAt 54 = .ok (.iconst 0, 1) := by decide +kernel
theorem dX12_foundAt_55 : decode cX12_foundAt 55 = .ok (.isub, 1) := by decide +kernel
theorem dX12_foundAt_56 : decode cX12_foundAt 56 = .ok (.istore_n 2, 1) := by decide +kernel
theorem dX12_foundAt_57 : decode cX12_foundAt 57 = .ok (.iinc 4 1, 3) := by decide +kernel
theorem dX12_foundAt_60 : decode cX12_foundAt 60 = .ok (.goto (-53), 3) := by decide +kernel
theorem dX12_foundAt_63 : decode cX12_foundAt 63 = .ok (.aload_n 0, 1) := by decide +kernel
theorem dX12_foundAt_64 : decode cX12_foundAt 64 = .ok (.iload_n 3, 1) := by decide +kernel
theorem dX12_foundAt_65 : decode cX12_foundAt 65 = .ok (.ifCond .ge 7, 3) := by decide +kernel
theorem dX12_foundAt_68 : decode cX12_foundAt 68 = .ok (.iconst 1, 1) := by decide +kernel
theorem dX12_foundAt_69 : decode cX12_foundAt 69 = .ok (.goto 4, 3) := by decide +kernel
theorem dX12_foundAt_72 : decode cX12_foundAt 72 = .ok (.iconst 0, 1) := by decide +kernel
theorem dX12_foundAt_73 : decode cX12_foundAt 73 = .ok (.invokevirtual 134, 3) := by decide +kernel
theorem dX12_foundAt_76 : decode cX12_foundAt 76 = .ok (.ifCond .eq 7, 3) := by decide +kernel
theorem dX12_foundAt_79 : decode cX12_foundAt 79 = .ok (.iconst 0, 1) := by decide +kernel
theorem dX12_foundAt_80 : decode cX12_foundAt 80 = .ok (.goto 4, 3) := by decide +kernel
theorem dX12_foundAt_83 : decode cX12_foundAt 83 = .ok (.iload_n 3, 1) := by decide +kernel
theorem dX12_foundAt_84 : decode cX12_foundAt 84 = .ok (.ireturn, 1) := by decide +kernel
theorem dX12_shown_0 : decode cX12_shown 0 = .ok (.aload_n 0, 1) := by decide +kernel
theorem dX12_shown_1 : decode cX12_shown 1 = .ok (.iload_n 1, 1) := by decide +kernel
theorem dX12_shown_2 : decode cX12_shown 2 = .ok (.bipush 110, 2) := by decide +kernel
theorem dX12_shown_4 : decode cX12_shown 4 = .ok (.if_icmp .eq 15, 3) := by decide +kernel
theorem dX12_shown_7 : decode cX12_shown 7 = .ok (.iload_n 1, 1) := by decide +kernel
theorem dX12_shown_8 : decode cX12_shown 8 = .ok (.bipush 114, 2) := by decide +kernel
theorem dX12_shown_10 : decode cX12_shown 10 = .ok (.if_icmp .eq 9, 3) := by decide +kernel
theorem dX12_shown_13 : decode cX12_shown 13 = .ok (.iload_n 1, 1) := by decide +kernel
theorem dX12_shown_14 : decode cX12_shown 14 = .ok (.bipush 102, 2) := by decide +kernel
theorem dX12_shown_16 : decode cX12_shown 16 = .ok (.if_icmp .ne 7, 3) := by decide +kernel
theorem dX12_shown_19 : decode cX12_shown 19 = .ok (.iconst 0, 1) := by decide +kernel
theorem dX12_shown_20 : decode cX12_shown 20 = .ok (.goto 4, 3) := by decide +kernel
theorem dX12_shown_23 : decode cX12_shown 23 = .ok (.iconst 1, 1) := by decide +kernel
theorem dX12_shown_24 : decode cX12_shown 24 = .ok (.invokevirtual 134, 3) := by decide +kernel
theorem dX12_shown_27 : decode cX12_shown 27 = .ok (.ifCond .eq 7, 3) := by decide +kernel
theorem dX12_shown_30 : decode cX12_shown 30 = .ok (.iconst 0, 1) := by decide +kernel
theorem dX12_shown_31 : decode cX12_shown 31 = .ok (.goto 33, 3) := by decide +kernel
theorem dX12_shown_34 : decode cX12_shown 34 = .ok (.iload_n 1, 1) := by decide +kernel
theorem dX12_shown_35 : decode cX12_shown 35 = .ok (.bipush 110, 2) := by decide +kernel
theorem dX12_shown_37 : decode cX12_shown 37 = .ok (.if_icmp .ne 10, 3) := by decide +kernel
theorem dX12_shown_40 : decode cX12_shown 40 = .ok (.aload_n 0, 1) := by decide +kernel
theorem dX12_shown_41 : decode cX12_shown 41 = .ok (.getfield 223, 3) := by decide +kernel
theorem dX12_shown_44 : decode cX12_shown 44 = .ok (.goto 20, 3) := by decide +kernel
theorem dX12_shown_47 : decode cX12_shown 47 = .ok (.iload_n 1, 1) := by decide +kernel
theorem dX12_shown_48 : decode cX12_shown 48 = .ok (.bipush 114, 2) := by decide +kernel
theorem dX12_shown_50 : decode cX12_shown 50 = .ok (.if_icmp .ne 10, 3) := by decide +kernel
theorem dX12_shown_53 : decode cX12_shown 53 = .ok (.aload_n 0, 1) := by decide +kernel
theorem dX12_shown_54 : decode cX12_shown 54 = .ok (.getfield 226, 3) := by decide +kernel
theorem dX12_shown_57 : decode cX12_shown 57 = .ok (.goto 7, 3) := by decide +kernel
theorem dX12_shown_60 : decode cX12_shown 60 = .ok (.aload_n 0, 1) := by decide +kernel
theorem dX12_shown_61 : decode cX12_shown 61 = .ok (.getfield 232, 3) := by decide +kernel
theorem dX12_shown_64 : decode cX12_shown 64 = .ok (.ireturn, 1) := by decide +kernel
theorem dX12_leaves_0 : decode cX12_leaves 0 = .ok (.aload_n 0, 1) := by decide +kernel
theorem dX12_leaves_1 : decode cX12_leaves 1 = .ok (.iconst 0, 1) := by decide +kernel
theorem dX12_leaves_2 : decode cX12_leaves 2 = .ok (.putfield 1, 3) := by decide +kernel
theorem dX12_leaves_5 : decode cX12_leaves 5 = .ok (.aload_n 0, 1) := by decide +kernel
theorem dX12_leaves_6 : decode cX12_leaves 6 = .ok (.getfield 141, 3) := by decide +kernel
theorem dX12_leaves_9 : decode cX12_leaves 9 = .ok (.ireturn, 1) := by decide +kernel
theorem dX12_leaf_0 : decode cX12_leaf 0 = .ok (.aload_n 0, 1) := by decide +kernel
theorem dX12_leaf_1 : decode cX12_leaf 1 = .ok (.iload_n 1, 1) := by decide +kernel
theorem dX12_leaf_2 : decode cX12_leaf 2 = .ok (.iconst 0, 1) := by decide +kernel
theorem dX12_leaf_3 : decode cX12_leaf 3 = .ok (.aload_n 0, 1) := by decide +kernel
theorem dX12_leaf_4 : decode cX12_leaf 4 = .ok (.getfield 141, 3) := by decide +kernel
theorem dX12_leaf_7 : decode cX12_leaf 7 = .ok (.iconst 1, 1) := by decide +kernel
theorem dX12_leaf_8 : decode cX12_leaf 8 = .ok (.isub, 1) := by decide +kernel
theorem dX12_leaf_9 : decode cX12_leaf 9 = .ok (.invokestatic 124, 3) := by decide +kernel
theorem dX12_leaf_12 : decode cX12_leaf 12 = .ok (.ifCond .eq 7, 3) := by decide +kernel
theorem dX12_leaf_15 : decode cX12_leaf 15 = .ok (.iconst 0, 1) := by decide +kernel
theorem dX12_leaf_16 : decode cX12_leaf 16 = .ok (.goto 4, 3) := by decide +kernel
theorem dX12_leaf_19 : decode cX12_leaf 19 = .ok (.iconst 1, 1) := by decide +kernel
theorem dX12_leaf_20 : decode cX12_leaf 20 = .ok (.invokevirtual 134, 3) := by decide +kernel
theorem dX12_leaf_23 : decode cX12_leaf 23 = .ok (.ifCond .eq 7, 3) := by decide +kernel
theorem dX12_leaf_26 : decode cX12_leaf 26 = .ok (.iconst 0, 1) := by decide +kernel
theorem dX12_leaf_27 : decode cX12_leaf 27 = .ok (.goto 9, 3) := by decide +kernel
theorem dX12_leaf_30 : decode cX12_leaf 30 = .ok (.aload_n 0, 1) := by decide +kernel
theorem dX12_leaf_31 : decode cX12_leaf 31 = .ok (.getfield 100, 3) := by decide +kernel
theorem dX12_leaf_34 : decode cX12_leaf 34 = .ok (.iload_n 1, 1) := by decide +kernel
theorem dX12_leaf_35 : decode cX12_leaf 35 = .ok (.iaload, 1) := by decide +kernel
theorem dX12_leaf_36 : decode cX12_leaf 36 = .ok (.ireturn, 1) := by decide +kernel
theorem dX12_half_0 : decode cX12_half 0 = .ok (.iconst 1, 1) := by decide +kernel
theorem dX12_half_1 : decode cX12_half 1 = .ok (.istore_n 1, 1) := by decide +kernel
theorem dX12_half_2 : decode cX12_half 2 = .ok (.iconst 2, 1) := by decide +kernel
theorem dX12_half_3 : decode cX12_half 3 = .ok (.iload_n 1, 1) := by decide +kernel
theorem dX12_half_4 : decode cX12_half 4 = .ok (.imul, 1) := by decide +kernel
theorem dX12_half_5 : decode cX12_half 5 = .ok (.iload_n 0, 1) := by decide +kernel
theorem dX12_half_6 : decode cX12_half 6 = .ok (.if_icmp .ge 10, 3) := by decide +kernel
theorem dX12_half_9 : decode cX12_half 9 = .ok (.iload_n 1, 1) := by decide +kernel
theorem dX12_half_10 : decode cX12_half 10 = .ok (.iconst 2, 1) := by decide +kernel
theorem dX12_half_11 : decode cX12_half 11 = .ok (.imul, 1) := by decide +kernel
theorem dX12_half_12 : decode cX12_half 12 = .ok (.istore_n 1, 1) := by decide +kernel
theorem dX12_half_13 : decode cX12_half 13 = .ok (.goto (-11), 3) := by decide +kernel
theorem dX12_half_16 : decode cX12_half 16 = .ok (.iload_n 1, 1) := by decide +kernel
theorem dX12_half_17 : decode cX12_half 17 = .ok (.ireturn, 1) := by decide +kernel
theorem dX12_rootOf_0 : decode cX12_rootOf 0 = .ok (.iload_n 2, 1) := by decide +kernel
theorem dX12_rootOf_1 : decode cX12_rootOf 1 = .ok (.ifCond .ne 5, 3) := by decide +kernel
theorem dX12_rootOf_4 : decode cX12_rootOf 4 = .ok (.iconst 0, 1) := by decide +kernel
theorem dX12_rootOf_5 : decode cX12_rootOf 5 = .ok (.ireturn, 1) := by decide +kernel
theorem dX12_rootOf_6 : decode cX12_rootOf 6 = .ok (.iload_n 2, 1) := by decide +kernel
theorem dX12_rootOf_7 : decode cX12_rootOf 7 = .ok (.iconst 1, 1) := by decide +kernel
theorem dX12_rootOf_8 : decode cX12_rootOf 8 = .ok (.if_icmp .ne 15, 3) := by decide +kernel
theorem dX12_rootOf_11 : decode cX12_rootOf 11 = .ok (.bipush 8, 2) := by decide +kernel
theorem dX12_rootOf_13 : decode cX12_rootOf 13 = .ok (.aload_n 0, 1) := by decide +kernel
theorem dX12_rootOf_14 : decode cX12_rootOf 14 = .ok (.getfield 100, 3) := by decide +kernel
theorem dX12_rootOf_17 : decode cX12_rootOf 17 = .ok (.iload_n 1, 1) := by decide +kernel
theorem dX12_rootOf_18 : decode cX12_rootOf 18 = .ok (.iaload, 1) := by decide +kernel
theorem dX12_rootOf_19 : decode cX12_rootOf 19 = .ok (.invokestatic 151, 3) := by decide +kernel
theorem dX12_rootOf_22 : decode cX12_rootOf 22 = .ok (.ireturn, 1) := by decide +kernel
theorem dX12_rootOf_23 : decode cX12_rootOf 23 = .ok (.iload_n 2, 1) := by decide +kernel
theorem dX12_rootOf_24 : decode cX12_rootOf 24 = .ok (.invokestatic 238, 3) := by decide +kernel
theorem dX12_rootOf_27 : decode cX12_rootOf 27 = .ok (.istore_n 3, 1) := by decide +kernel
theorem dX12_rootOf_28 : decode cX12_rootOf 28 = .ok (.bipush 9, 2) := by decide +kernel
theorem dX12_rootOf_30 : decode cX12_rootOf 30 = .ok (.aload_n 0, 1) := by decide +kernel
theorem dX12_rootOf_31 : decode cX12_rootOf 31 = .ok (.iload_n 1, 1) := by decide +kernel
theorem dX12_rootOf_32 : decode cX12_rootOf 32 = .ok (.iload_n 3, 1) := by decide +kernel
theorem dX12_rootOf_33 : decode cX12_rootOf 33 = .ok (.invokevirtual 241, 3) := by decide +kernel
theorem dX12_rootOf_36 : decode cX12_rootOf 36 = .ok (.invokestatic 151, 3) := by decide +kernel
theorem dX12_rootOf_39 : decode cX12_rootOf 39 = .ok (.aload_n 0, 1) := by decide +kernel
theorem dX12_rootOf_40 : decode cX12_rootOf 40 = .ok (.iload_n 1, 1) := by decide +kernel
theorem dX12_rootOf_41 : decode cX12_rootOf 41 = .ok (.iload_n 3, 1) := by decide +kernel
theorem dX12_rootOf_42 : decode cX12_rootOf 42 = .ok (.iadd, 1) := by decide +kernel
theorem dX12_rootOf_43 : decode cX12_rootOf 43 = .ok (.iload_n 2, 1) := by decide +kernel
theorem dX12_rootOf_44 : decode cX12_rootOf 44 = .ok (.iload_n 3, 1) := by decide +kernel
theorem dX12_rootOf_45 : decode cX12_rootOf 45 = .ok (.isub, 1) := by decide +kernel
theorem dX12_rootOf_46 : decode cX12_rootOf 46 = .ok (.invokevirtual 241, 3) := by decide +kernel
theorem dX12_rootOf_49 : decode cX12_rootOf 49 = .ok (.invokestatic 151, 3) := by decide +kernel
theorem dX12_rootOf_52 : decode cX12_rootOf 52 = .ok (.ireturn, 1) := by decide +kernel
theorem dX12_root_0 : decode cX12_root 0 = .ok (.aload_n 0, 1) := by decide +kernel
theorem dX12_root_1 : decode cX12_root 1 = .ok (.iload_n 1, 1) := by decide +kernel
theorem dX12_root_2 : decode cX12_root 2 = .ok (.iconst 0, 1) := by decide +kernel
theorem dX12_root_3 : decode cX12_root 3 = .ok (.aload_n 0, 1) := by decide +kernel
theorem dX12_root_4 : decode cX12_root 4 = .ok (.getfield 141, 3) := by decide +kernel
theorem dX12_root_7 : decode cX12_root 7 = .ok (.invokestatic 124, 3) := by decide +kernel
theorem dX12_root_10 : decode cX12_root 10 = .ok (.ifCond .eq 7, 3) := by decide +kernel
theorem dX12_root_13 : decode cX12_root 13 = .ok (.iconst 0, 1) := by decide +kernel
theorem dX12_root_14 : decode cX12_root 14 = .ok (.goto 4, 3) := by decide +kernel
theorem dX12_root_17 : decode cX12_root 17 = .ok (.iconst 1, 1) := by decide +kernel
theorem dX12_root_18 : decode cX12_root 18 = .ok (.invokevirtual 134, 3) := by decide +kernel
theorem dX12_root_21 : decode cX12_root 21 = .ok (.ifCond .eq 7, 3) := by decide +kernel
theorem dX12_root_24 : decode cX12_root 24 = .ok (.iconst 0, 1) := by decide +kernel
theorem dX12_root_25 : decode cX12_root 25 = .ok (.goto 9, 3) := by decide +kernel
theorem dX12_root_28 : decode cX12_root 28 = .ok (.aload_n 0, 1) := by decide +kernel
theorem dX12_root_29 : decode cX12_root 29 = .ok (.iconst 0, 1) := by decide +kernel
theorem dX12_root_30 : decode cX12_root 30 = .ok (.iload_n 1, 1) := by decide +kernel
theorem dX12_root_31 : decode cX12_root 31 = .ok (.invokevirtual 241, 3) := by decide +kernel
theorem dX12_root_34 : decode cX12_root 34 = .ok (.ireturn, 1) := by decide +kernel
theorem dX12_depth_0 : decode cX12_depth 0 = .ok (.iload_n 0, 1) := by decide +kernel
theorem dX12_depth_1 : decode cX12_depth 1 = .ok (.iconst 1, 1) := by decide +kernel
theorem dX12_depth_2 : decode cX12_depth 2 = .ok (.if_icmp .ne 5, 3) := by decide +kernel
theorem dX12_depth_5 : decode cX12_depth 5 = .ok (.iconst 0, 1) := by decide +kernel
theorem dX12_depth_6 : decode cX12_depth 6 = .ok (.ireturn, 1) := by decide +kernel
theorem dX12_depth_7 : decode cX12_depth 7 = .ok (.iload_n 0, 1) := by decide +kernel
theorem dX12_depth_8 : decode cX12_depth 8 = .ok (.invokestatic 238, 3) := by decide +kernel
theorem dX12_depth_11 : decode cX12_depth 11 = .ok (.istore_n 2, 1) := by decide +kernel
theorem dX12_depth_12 : decode cX12_depth 12 = .ok (.iconst 1, 1) := by decide +kernel
theorem dX12_depth_13 : decode cX12_depth 13 = .ok (.iload_n 1, 1) := by decide +kernel
theorem dX12_depth_14 : decode cX12_depth 14 = .ok (.iload_n 2, 1) := by decide +kernel
theorem dX12_depth_15 : decode cX12_depth 15 = .ok (.if_icmp .ge 11, 3) := by decide +kernel
theorem dX12_depth_18 : decode cX12_depth 18 = .ok (.iload_n 2, 1) := by decide +kernel
theorem dX12_depth_19 : decode cX12_depth 19 = .ok (.iload_n 1, 1) := by decide +kernel
theorem dX12_depth_20 : decode cX12_depth 20 = .ok (.invokestatic 244, 3) := by decide +kernel
theorem dX12_depth_23 : decode cX12_depth 23 = .ok (.goto 12, 3) := by decide +kernel
theorem dX12_depth_26 : decode cX12_depth 26 = .ok (.iload_n 0, 1) := by decide +kernel
theorem dX12_depth_27 : decode cX12_depth 27 = .ok (.iload_n 2, 1) := by decide +kernel
theorem dX12_depth_28 : decode cX12_depth 28 = .ok (.isub, 1) := by decide +kernel
theorem dX12_depth_29 : decode cX12_depth 29 = .ok (.iload_n 1, 1) := by decide +kernel
theorem dX12_depth_30 : decode cX12_depth 30 = .ok (.iload_n 2, 1) := by decide +kernel
theorem dX12_depth_31 : decode cX12_depth 31 = .ok (.isub, 1) := by decide +kernel
theorem dX12_depth_32 : decode cX12_depth 32 = .ok (.invokestatic 244, 3) := by decide +kernel
theorem dX12_depth_35 : decode cX12_depth 35 = .ok (.iadd, 1) := by decide +kernel
theorem dX12_depth_36 : decode cX12_depth 36 = .ok (.ireturn, 1) := by decide +kernel
theorem dX12_proofOf_0 : decode cX12_proofOf 0 = .ok (.iload_n 2, 1) := by decide +kernel
theorem dX12_proofOf_1 : decode cX12_proofOf 1 = .ok (.invokestatic 238, 3) := by decide +kernel
theorem dX12_proofOf_4 : decode cX12_proofOf 4 = .ok (.istore 5, 2) := by decide +kernel
theorem dX12_proofOf_6 : decode cX12_proofOf 6 = .ok (.iload_n 3, 1) := by decide +kernel
theorem dX12_proofOf_7 : decode cX12_proofOf 7 = .ok (.iload 5, 2) := by decide +kernel
theorem dX12_proofOf_9 : decode cX12_proofOf 9 = .ok (.if_icmp .ge 7, 3) := by decide +kernel
theorem dX12_proofOf_12 : decode cX12_proofOf 12 = .ok (.iconst 1, 1) := by decide +kernel
theorem dX12_proofOf_13 : decode cX12_proofOf 13 = .ok (.goto 4, 3) := by decide +kernel
theorem dX12_proofOf_16 : decode cX12_proofOf 16 = .ok (.iconst 0, 1) := by decide +kernel
theorem dX12_proofOf_17 : decode cX12_proofOf 17 = .ok (.istore 6, 2) := by decide +kernel
theorem dX12_proofOf_19 : decode cX12_proofOf 19 = .ok (.iload 6, 2) := by decide +kernel
theorem dX12_proofOf_21 : decode cX12_proofOf 21 = .ok (.ifCond .eq 12, 3) := by decide +kernel
theorem dX12_proofOf_24 : decode cX12_proofOf 24 = .ok (.iload 5, 2) := by decide +kernel
theorem dX12_proofOf_26 : decode cX12_proofOf 26 = .ok (.iload_n 3, 1) := by decide +kernel
theorem dX12_proofOf_27 : decode cX12_proofOf 27 = .ok (.invokestatic 244, 3) := by decide +kernel
theorem dX12_proofOf_30 : decode cX12_proofOf 30 = .ok (.goto 14, 3) := by decide +kernel
theorem dX12_proofOf_33 : decode cX12_proofOf 33 = .ok (.iload_n 2, 1) := by decide +kernel
theorem dX12_proofOf_34 : decode cX12_proofOf 34 = .ok (.iload 5, 2) := by decide +kernel
theorem dX12_proofOf_36 : decode cX12_proofOf 36 = .ok (.isub, 1) := by decide +kernel
theorem dX12_proofOf_37 : decode cX12_proofOf 37 = .ok (.iload_n 3, 1) := by decide +kernel
theorem dX12_proofOf_38 : decode cX12_proofOf 38 = .ok (.iload 5, 2) := by decide +kernel
theorem dX12_proofOf_40 : decode cX12_proofOf 40 = .ok (.isub, 1) := by decide +kernel
theorem dX12_proofOf_41 : decode cX12_proofOf 41 = .ok (.invokestatic 244, 3) := by decide +kernel
theorem dX12_proofOf_44 : decode cX12_proofOf 44 = .ok (.istore 7, 2) := by decide +kernel
theorem dX12_proofOf_46 : decode cX12_proofOf 46 = .ok (.iload 4, 2) := by decide +kernel
theorem dX12_proofOf_48 : decode cX12_proofOf 48 = .ok (.iload 7, 2) := by decide +kernel
theorem dX12_proofOf_50 : decode cX12_proofOf 50 = .ok (.if_icmp .ne 31, 3) := by decide +kernel
theorem dX12_proofOf_53 : decode cX12_proofOf 53 = .ok (.iload 6, 2) := by decide +kernel
theorem dX12_proofOf_55 : decode cX12_proofOf 55 = .ok (.ifCond .eq 18, 3) := by decide +kernel
theorem dX12_proofOf_58 : decode cX12_proofOf 58 = .ok (.aload_n 0, 1) := by decide +kernel
theorem dX12_proofOf_59 : decode cX12_proofOf 59 = .ok (.iload_n 1, 1) := by decide +kernel
theorem dX12_proofOf_60 : decode cX12_proofOf 60 = .ok (.iload 5, 2) := by decide +kernel
theorem dX12_proofOf_62 : decode cX12_proofOf 62 = .ok (.iadd, 1) := by decide +kernel
theorem dX12_proofOf_63 : decode cX12_proofOf 63 = .ok (.iload_n 2, 1) := by decide +kernel
theorem dX12_proofOf_64 : decode cX12_proofOf 64 = .ok (.iload 5, 2) := by decide +kernel
theorem dX12_proofOf_66 : decode cX12_proofOf 66 = .ok (.isub, 1) := by decide +kernel
theorem dX12_proofOf_67 : decode cX12_proofOf 67 = .ok (.invokevirtual 241, 3) := by decide +kernel
theorem dX12_proofOf_70 : decode cX12_proofOf 70 = .ok (.goto 10, 3) := by decide +kernel
theorem dX12_proofOf_73 : decode cX12_proofOf 73 = .ok (.aload_n 0, 1) := by decide +kernel
theorem dX12_proofOf_74 : decode cX12_proofOf 74 = .ok (.iload_n 1, 1) := by decide +kernel
theorem dX12_proofOf_75 : decode cX12_proofOf 75 = .ok (.iload 5, 2) := by decide +kernel
theorem dX12_proofOf_77 : decode cX12_proofOf 77 = .ok (.invokevirtual 241, 3) := by decide +kernel
theorem dX12_proofOf_80 : decode cX12_proofOf 80 = .ok (.ireturn, 1) := by decide +kernel
theorem dX12_proofOf_81 : decode cX12_proofOf 81 = .ok (.iload 6, 2) := by decide +kernel
theorem dX12_proofOf_83 : decode cX12_proofOf 83 = .ok (.ifCond .eq 16, 3) := by decide +kernel
theorem dX12_proofOf_86 : decode cX12_proofOf 86 = .ok (.aload_n 0, 1) := by decide +kernel
theorem dX12_proofOf_87 : decode cX12_proofOf 87 = .ok (.iload_n 1, 1) := by decide +kernel
theorem dX12_proofOf_88 : decode cX12_proofOf 88 = .ok (.iload 5, 2) := by decide +kernel
theorem dX12_proofOf_90 : decode cX12_proofOf 90 = .ok (.iload_n 3, 1) := by decide +kernel
theorem dX12_proofOf_91 : decode cX12_proofOf 91 = .ok (.iload 4, 2) := by decide +kernel
theorem dX12_proofOf_93 : decode cX12_proofOf 93 = .ok (.invokevirtual 247, 3) := by decide +kernel
theorem dX12_proofOf_96 : decode cX12_proofOf 96 = .ok (.goto 21, 3) := by decide +kernel
theorem dX12_proofOf_99 : decode cX12_proofOf 99 = .ok (.aload_n 0, 1) := by decide +kernel
theorem dX12_proofOf_100 : decode cX12_proofOf 100 = .ok (.iload_n 1, 1) := by decide +kernel
theorem dX12_proofOf_101 : decode cX12_proofOf 101 = .ok (.iload 5, 2) := by decide +kernel
theorem dX12_proofOf_103 : decode cX12_proofOf 103 = .ok (.iadd, 1) := by decide +kernel
theorem dX12_proofOf_104 : decode cX12_proofOf 104 = .ok (.iload_n 2, 1) := by decide +kernel
theorem dX12_proofOf_105 : decode cX12_proofOf 105 = .ok (.iload 5, 2) := by decide +kernel
theorem dX12_proofOf_107 : decode cX12_proofOf 107 = .ok (.isub, 1) := by decide +kernel
theorem dX12_proofOf_108 : decode cX12_proofOf 108 = .ok (.iload_n 3, 1) := by decide +kernel
theorem dX12_proofOf_109 : decode cX12_proofOf 109 = .ok (.iload 5, 2) := by decide +kernel
theorem dX12_proofOf_111 : decode cX12_proofOf 111 = .ok (.isub, 1) := by decide +kernel
theorem dX12_proofOf_112 : decode cX12_proofOf 112 = .ok (.iload 4, 2) := by decide +kernel
theorem dX12_proofOf_114 : decode cX12_proofOf 114 = .ok (.invokevirtual 247, 3) := by decide +kernel
theorem dX12_proofOf_117 : decode cX12_proofOf 117 = .ok (.ireturn, 1) := by decide +kernel
theorem dX12_isNoLeaf_0 : decode cX12_isNoLeaf 0 = .ok (.aload_n 0, 1) := by decide +kernel
theorem dX12_isNoLeaf_1 : decode cX12_isNoLeaf 1 = .ok (.iload_n 1, 1) := by decide +kernel
theorem dX12_isNoLeaf_2 : decode cX12_isNoLeaf 2 = .ok (.iconst 0, 1) := by decide +kernel
theorem dX12_isNoLeaf_3 : decode cX12_isNoLeaf 3 = .ok (.aload_n 0, 1) := by decide +kernel
theorem dX12_isNoLeaf_4 : decode cX12_isNoLeaf 4 = .ok (.getfield 141, 3) := by decide +kernel
theorem dX12_isNoLeaf_7 : decode cX12_isNoLeaf 7 = .ok (.invokestatic 124, 3) := by decide +kernel
theorem dX12_isNoLeaf_10 : decode cX12_isNoLeaf 10 = .ok (.ifCond .ne 7, 3) := by decide +kernel
theorem dX12_isNoLeaf_13 : decode cX12_isNoLeaf 13 = .ok (.iconst 1, 1) := by decide +kernel
theorem dX12_isNoLeaf_14 : decode cX12_isNoLeaf 14 = .ok (.goto 19, 3) := by decide +kernel
theorem dX12_isNoLeaf_17 : decode cX12_isNoLeaf 17 = .ok (.iload_n 2, 1) := by decide +kernel
theorem dX12_isNoLeaf_18 : decode cX12_isNoLeaf 18 = .ok (.iconst 0, 1) := by decide +kernel
theorem dX12_isNoLeaf_19 : decode cX12_isNoLeaf 19 = .ok (.iload_n 1, 1) := by decide +kernel
theorem dX12_isNoLeaf_20 : decode cX12_isNoLeaf 20 = .ok (.iconst 1, 1) := by decide +kernel
theorem dX12_isNoLeaf_21 : decode cX12_isNoLeaf 21 = .ok (.isub, 1) := by decide +kernel
theorem dX12_isNoLeaf_22 : decode cX12_isNoLeaf 22 = .ok (.invokestatic 124, 3) := by decide +kernel
theorem dX12_isNoLeaf_25 : decode cX12_isNoLeaf 25 = .ok (.ifCond .eq 7, 3) := by decide +kernel
theorem dX12_isNoLeaf_28 : decode cX12_isNoLeaf 28 = .ok (.iconst 0, 1) := by decide +kernel
theorem dX12_isNoLeaf_29 : decode cX12_isNoLeaf 29 = .ok (.goto 4, 3) := by decide +kernel
theorem dX12_isNoLeaf_32 : decode cX12_isNoLeaf 32 = .ok (.iconst 2, 1) := by decide +kernel
theorem dX12_isNoLeaf_33 : decode cX12_isNoLeaf 33 = .ok (.invokevirtual 134, 3) := by decide +kernel
theorem dX12_isNoLeaf_36 : decode cX12_isNoLeaf 36 = .ok (.ireturn, 1) := by decide +kernel
theorem dX12_proofLength_0 : decode cX12_proofLength 0 = .ok (.aload_n 0, 1) := by decide +kernel
theorem dX12_proofLength_1 : decode cX12_proofLength 1 = .ok (.iload_n 1, 1) := by decide +kernel
theorem dX12_proofLength_2 : decode cX12_proofLength 2 = .ok (.iload_n 2, 1) := by decide +kernel
theorem dX12_proofLength_3 : decode cX12_proofLength 3 = .ok (.invokevirtual 251, 3) := by decide +kernel
theorem dX12_proofLength_6 : decode cX12_proofLength 6 = .ok (.ifCond .eq 7, 3) := by decide +kernel
theorem dX12_proofLength_9 : decode cX12_proofLength 9 = .ok (.iconst 0, 1) := by decide +kernel
theorem dX12_proofLength_10 : decode cX12_proofLength 10 = .ok (.goto 8, 3) := by decide +kernel
theorem dX12_proofLength_13 : decode cX12_proofLength 13 = .ok (.iload_n 1, 1) := by decide +kernel
theorem dX12_proofLength_14 : decode cX12_proofLength 14 = .ok (.iload_n 2, 1) := by decide +kernel
theorem dX12_proofLength_15 : decode cX12_proofLength 15 = .ok (.invokestatic 244, 3) := by decide +kernel
theorem dX12_proofLength_18 : decode cX12_proofLength 18 = .ok (.ireturn, 1) := by decide +kernel
theorem dX12_proofAt_0 : decode cX12_proofAt 0 = .ok (.aload_n 0, 1) := by decide +kernel
theorem dX12_proofAt_1 : decode cX12_proofAt 1 = .ok (.iload_n 1, 1) := by decide +kernel
theorem dX12_proofAt_2 : decode cX12_proofAt 2 = .ok (.iload_n 2, 1) := by decide +kernel
theorem dX12_proofAt_3 : decode cX12_proofAt 3 = .ok (.invokevirtual 251, 3) := by decide +kernel
theorem dX12_proofAt_6 : decode cX12_proofAt 6 = .ok (.ifCond .ne 30, 3) := by decide +kernel
theorem dX12_proofAt_9 : decode cX12_proofAt 9 = .ok (.aload_n 0, 1) := by decide +kernel
theorem dX12_proofAt_10 : decode cX12_proofAt 10 = .ok (.iload_n 3, 1) := by decide +kernel
theorem dX12_proofAt_11 : decode cX12_proofAt 11 = .ok (.iconst 0, 1) := by decide +kernel
theorem dX12_proofAt_12 : decode cX12_proofAt 12 = .ok (.iload_n 1, 1) := by decide +kernel
theorem dX12_proofAt_13 : decode cX12_proofAt 13 = .ok (.iload_n 2, 1) := by decide +kernel
theorem dX12_proofAt_14 : decode cX12_proofAt 14 = .ok (.invokestatic 244, 3) := by decide +kernel
theorem dX12_proofAt_17 : decode cX12_proofAt 17 = .ok (.iconst 1, 1) := by decide +kernel
theorem dX12_proofAt_18 : decode cX12_proofAt 18 = .ok (.isub, 1) := by decide +kernel
theorem dX12_proofAt_19 : decode cX12_proofAt 19 = .ok (.invokestatic 124, 3) := by decide +kernel
theorem dX12_proofAt_22 : decode cX12_proofAt 22 = .ok (.ifCond .eq 7, 3) := by decide +kernel
theorem dX12_proofAt_25 : decode cX12_proofAt 25 = .ok (.iconst 0, 1) := by decide +kernel
theorem dX12_proofAt_26 : decode cX12_proofAt 26 = .ok (.goto 4, 3) := by decide +kernel
theorem dX12_proofAt_29 : decode cX12_proofAt 29 = .ok (.iconst 2, 1) := by decide +kernel
theorem dX12_proofAt_30 : decode cX12_proofAt 30 = .ok (.invokevirtual 134, 3) := by decide +kernel
theorem dX12_proofAt_33 : decode cX12_proofAt 33 = .ok (.ifCond .eq 5, 3) := by decide +kernel
theorem dX12_proofAt_36 : decode cX12_proofAt 36 = .ok (.iconst 0, 1) := by decide +kernel
theorem dX12_proofAt_37 : decode cX12_proofAt 37 = .ok (.ireturn, 1) := by decide +kernel
theorem dX12_proofAt_38 : decode cX12_proofAt 38 = .ok (.aload_n 0, 1) := by decide +kernel
theorem dX12_proofAt_39 : decode cX12_proofAt 39 = .ok (.iconst 0, 1) := by decide +kernel
theorem dX12_proofAt_40 : decode cX12_proofAt 40 = .ok (.iload_n 1, 1) := by decide +kernel
theorem dX12_proofAt_41 : decode cX12_proofAt 41 = .ok (.iload_n 2, 1) := by decide +kernel
theorem dX12_proofAt_42 : decode cX12_proofAt 42 = .ok (.iload_n 3, 1) := by decide +kernel
theorem dX12_proofAt_43 : decode cX12_proofAt 43 = .ok (.invokevirtual 247, 3) := by decide +kernel
theorem dX12_proofAt_46 : decode cX12_proofAt 46 = .ok (.ireturn, 1) := by decide +kernel
theorem dX12_prefixMany_0 : decode cX12_prefixMany 0 = .ok (.iload_n 0, 1) := by decide +kernel
theorem dX12_prefixMany_1 : decode cX12_prefixMany 1 = .ok (.iload_n 1, 1) := by decide +kernel
theorem dX12_prefixMany_2 : decode cX12_prefixMany 2 = .ok (.if_icmp .ne 13, 3) := by decide +kernel
theorem dX12_prefixMany_5 : decode cX12_prefixMany 5 = .ok (.iload_n 2, 1) := by decide +kernel
theorem dX12_prefixMany_6 : decode cX12_prefixMany 6 = .ok (.ifCond .eq 7, 3) := by decide +kernel
theorem dX12_prefixMany_9 : decode cX12_prefixMany 9 = .ok (.iconst 0, 1) := by decide +kernel
theorem dX12_prefixMany_10 : decode cX12_prefixMany 10 = .ok (.goto 4, 3) := by decide +kernel
theorem dX12_prefixMany_13 : decode cX12_prefixMany 13 = .ok (.iconst 1, 1) := by decide +kernel
theorem dX12_prefixMany_14 : decode cX12_prefixMany 14 = .ok (.ireturn, 1) := by decide +kernel
theorem dX12_prefixMany_15 : decode cX12_prefixMany 15 = .ok (.iload_n 1, 1) := by decide +kernel
theorem dX12_prefixMany_16 : decode cX12_prefixMany 16 = .ok (.invokestatic 238, 3) := by decide +kernel
theorem dX12_prefixMany_19 : decode cX12_prefixMany 19 = .ok (.istore_n 3, 1) := by decide +kernel
theorem dX12_prefixMany_20 : decode cX12_prefixMany 20 = .ok (.iconst 1, 1) := by decide +kernel
theorem dX12_prefixMany_21 : decode cX12_prefixMany 21 = .ok (.iload_n 0, 1) := by decide +kernel
theorem dX12_prefixMany_22 : decode cX12_prefixMany 22 = .ok (.iload_n 3, 1) := by decide +kernel
theorem dX12_prefixMany_23 : decode cX12_prefixMany 23 = .ok (.if_icmp .gt 12, 3) := by decide +kernel
theorem dX12_prefixMany_26 : decode cX12_prefixMany 26 = .ok (.iload_n 0, 1) := by decide +kernel
theorem dX12_prefixMany_27 : decode cX12_prefixMany 27 = .ok (.iload_n 3, 1) := by decide +kernel
theorem dX12_prefixMany_28 : decode cX12_prefixMany 28 = .ok (.iload_n 2, 1) := by decide +kernel
theorem dX12_prefixMany_29 : decode cX12_prefixMany 29 = .ok (.invokestatic 254, 3) := by decide +kernel
theorem dX12_prefixMany_32 : decode cX12_prefixMany 32 = .ok (.goto 13, 3) := by decide +kernel
theorem dX12_prefixMany_35 : decode cX12_prefixMany 35 = .ok (.iload_n 0, 1) := by decide +kernel
theorem dX12_prefixMany_36 : decode cX12_prefixMany 36 = .ok (.iload_n 3, 1) := by decide +kernel
theorem dX12_prefixMany_37 : decode cX12_prefixMany 37 = .ok (.isub, 1) := by decide +kernel
theorem dX12_prefixMany_38 : decode cX12_prefixMany 38 = .ok (.iload_n 1, 1) := by decide +kernel
theorem dX12_prefixMany_39 : decode cX12_prefixMany 39 = .ok (.iload_n 3, 1) := by decide +kernel
theorem dX12_prefixMany_40 : decode cX12_prefixMany 40 = .ok (.isub, 1) := by decide +kernel
theorem dX12_prefixMany_41 : decode cX12_prefixMany 41 = .ok (.iconst 0, 1) := by decide +kernel
theorem dX12_prefixMany_42 : decode cX12_prefixMany 42 = .ok (.invokestatic 254, 3) := by decide +kernel
theorem dX12_prefixMany_45 : decode cX12_prefixMany 45 = .ok (.iadd, 1) := by decide +kernel
theorem dX12_prefixMany_46 : decode cX12_prefixMany 46 = .ok (.ireturn, 1) := by decide +kernel
theorem dX12_prefixOf_0 : decode cX12_prefixOf 0 = .ok (.iload_n 2, 1) := by decide +kernel
theorem dX12_prefixOf_1 : decode cX12_prefixOf 1 = .ok (.iload_n 3, 1) := by decide +kernel
theorem dX12_prefixOf_2 : decode cX12_prefixOf 2 = .ok (.if_icmp .ne 10, 3) := by decide +kernel
theorem dX12_prefixOf_5 : decode cX12_prefixOf 5 = .ok (.aload_n 0, 1) := by decide +kernel
theorem dX12_prefixOf_6 : decode cX12_prefixOf 6 = .ok (.iload_n 1, 1) := by decide +kernel
theorem dX12_prefixOf_7 : decode cX12_prefixOf 7 = .ok (.iload_n 3, 1) := by decide +kernel
theorem dX12_prefixOf_8 : decode cX12_prefixOf 8 = .ok (.invokevirtual 241, 3) := by decide +kernel
theorem dX12_prefixOf_11 : decode cX12_prefixOf 11 = .ok (.ireturn, 1) := by decide +kernel
theorem dX12_prefixOf_12 : decode cX12_prefixOf 12 = .ok (.iload_n 3, 1) := by decide +kernel
theorem dX12_prefixOf_13 : decode cX12_prefixOf 13 = .ok (.invokestatic 238, 3) := by decide +kernel
theorem dX12_prefixOf_16 : decode cX12_prefixOf 16 = .ok (.istore 6, 2) := by decide +kernel
theorem dX12_prefixOf_18 : decode cX12_prefixOf 18 = .ok (.iload_n 2, 1) := by decide +kernel
theorem dX12_prefixOf_19 : decode cX12_prefixOf 19 = .ok (.iload 6, 2) := by decide +kernel
theorem dX12_prefixOf_21 : decode cX12_prefixOf 21 = .ok (.if_icmp .gt 7, 3) := by decide +kernel
theorem dX12_prefixOf_24 : decode cX12_prefixOf 24 = .ok (.iconst 1, 1) := by decide +kernel
theorem dX12_prefixOf_25 : decode cX12_prefixOf 25 = .ok (.goto 4, 3) := by decide +kernel
theorem dX12_prefixOf_28 : decode cX12_prefixOf 28 = .ok (.iconst 0, 1) := by decide +kernel
theorem dX12_prefixOf_29 : decode cX12_prefixOf 29 = .ok (.istore 7, 2) := by decide +kernel
theorem dX12_prefixOf_31 : decode cX12_prefixOf 31 = .ok (.iload 7, 2) := by decide +kernel
theorem dX12_prefixOf_33 : decode cX12_prefixOf 33 = .ok (.ifCond .eq 14, 3) := by decide +kernel
theorem dX12_prefixOf_36 : decode cX12_prefixOf 36 = .ok (.iload_n 2, 1) := by decide +kernel
theorem dX12_prefixOf_37 : decode cX12_prefixOf 37 = .ok (.iload 6, 2) := by decide +kernel
theorem dX12_prefixOf_39 : decode cX12_prefixOf 39 = .ok (.iload 4, 2) := by decide +kernel
theorem dX12_prefixOf_41 : decode cX12_prefixOf 41 = .ok (.invokestatic 254, 3) := by decide +kernel
theorem dX12_prefixOf_44 : decode cX12_prefixOf 44 = .ok (.goto 15, 3) := by decide +kernel
theorem dX12_prefixOf_47 : decode cX12_prefixOf 47 = .ok (.iload_n 2, 1) := by decide +kernel
theorem dX12_prefixOf_48 : decode cX12_prefixOf 48 = .ok (.iload 6, 2) := by decide +kernel
theorem dX12_prefixOf_50 : decode cX12_prefixOf 50 = .ok (.isub, 1) := by decide +kernel
theorem dX12_prefixOf_51 : decode cX12_prefixOf 51 = .ok (.iload_n 3, 1) := by decide +kernel
theorem dX12_prefixOf_52 : decode cX12_prefixOf 52 = .ok (.iload 6, 2) := by decide +kernel
theorem dX12_prefixOf_54 : decode cX12_prefixOf 54 = .ok (.isub, 1) := by decide +kernel
theorem dX12_prefixOf_55 : decode cX12_prefixOf 55 = .ok (.iconst 0, 1) := by decide +kernel
theorem dX12_prefixOf_56 : decode cX12_prefixOf 56 = .ok (.invokestatic 254, 3) := by decide +kernel
theorem dX12_prefixOf_59 : decode cX12_prefixOf 59 = .ok (.istore 8, 2) := by decide +kernel
theorem dX12_prefixOf_61 : decode cX12_prefixOf 61 = .ok (.iload 5, 2) := by decide +kernel
theorem dX12_prefixOf_63 : decode cX12_prefixOf 63 = .ok (.iload 8, 2) := by decide +kernel
theorem dX12_prefixOf_65 : decode cX12_prefixOf 65 = .ok (.if_icmp .ne 31, 3) := by decide +kernel
theorem dX12_prefixOf_68 : decode cX12_prefixOf 68 = .ok (.iload 7, 2) := by decide +kernel
theorem dX12_prefixOf_70 : decode cX12_prefixOf 70 = .ok (.ifCond .eq 18, 3) := by decide +kernel
theorem dX12_prefixOf_73 : decode cX12_prefixOf 73 = .ok (.aload_n 0, 1) := by decide +kernel
theorem dX12_prefixOf_74 : decode cX12_prefixOf 74 = .ok (.iload_n 1, 1) := by decide +kernel
theorem dX12_prefixOf_75 : decode cX12_prefixOf 75 = .ok (.iload 6, 2) := by decide +kernel
theorem dX12_prefixOf_77 : decode cX12_prefixOf 77 = .ok (.iadd, 1) := by decide +kernel
theorem dX12_prefixOf_78 : decode cX12_prefixOf 78 = .ok (.iload_n 3, 1) := by decide +kernel
theorem dX12_prefixOf_79 : decode cX12_prefixOf 79 = .ok (.iload 6, 2) := by decide +kernel
theorem dX12_prefixOf_81 : decode cX12_prefixOf 81 = .ok (.isub, 1) := by decide +kernel
theorem dX12_prefixOf_82 : decode cX12_prefixOf 82 = .ok (.invokevirtual 241, 3) := by decide +kernel
theorem dX12_prefixOf_85 : decode cX12_prefixOf 85 = .ok (.goto 10, 3) := by decide +kernel
theorem dX12_prefixOf_88 : decode cX12_prefixOf 88 = .ok (.aload_n 0, 1) := by decide +kernel
theorem dX12_prefixOf_89 : decode cX12_prefixOf 89 = .ok (.iload_n 1, 1) := by decide +kernel
theorem dX12_prefixOf_90 : decode cX12_prefixOf 90 = .ok (.iload 6, 2) := by decide +kernel
theorem dX12_prefixOf_92 : decode cX12_prefixOf 92 = .ok (.invokevirtual 241, 3) := by decide +kernel
theorem dX12_prefixOf_95 : decode cX12_prefixOf 95 = .ok (.ireturn, 1) := by decide +kernel
theorem dX12_prefixOf_96 : decode cX12_prefixOf 96 = .ok (.iload 7, 2) := by decide +kernel
theorem dX12_prefixOf_98 : decode cX12_prefixOf 98 = .ok (.ifCond .eq 18, 3) := by decide +kernel
theorem dX12_prefixOf_101 : decode cX12_prefixOf 101 = .ok (.aload_n 0, 1) := by decide +kernel
theorem dX12_prefixOf_102 : decode cX12_prefixOf 102 = .ok (.iload_n 1, 1) := by decide +kernel
theorem dX12_prefixOf_103 : decode cX12_prefixOf 103 = .ok (.iload_n 2, 1) := by decide +kernel
theorem dX12_prefixOf_104 : decode cX12_prefixOf 104 = .ok (.iload 6, 2) := by decide +kernel
theorem dX12_prefixOf_106 : decode cX12_prefixOf 106 = .ok (.iload 4, 2) := by decide +kernel
theorem dX12_prefixOf_108 : decode cX12_prefixOf 108 = .ok (.iload 5, 2) := by decide +kernel
theorem dX12_prefixOf_110 : decode cX12_prefixOf 110 = .ok (.invokevirtual 258, 3) := by decide +kernel
theorem dX12_prefixOf_113 : decode cX12_prefixOf 113 = .ok (.goto 22, 3) := by decide +kernel
theorem dX12_prefixOf_116 : decode cX12_prefixOf 116 = .ok (.aload_n 0, 1) := by decide +kernel
theorem dX12_prefixOf_117 : decode cX12_prefixOf 117 = .ok (.iload_n 1, 1) := by decide +kernel
theorem dX12_prefixOf_118 : decode cX12_prefixOf 118 = .ok (.iload 6, 2) := by decide +kernel
theorem dX12_prefixOf_120 : decode cX12_prefixOf 120 = .ok (.iadd, 1) := by decide +kernel
theorem dX12_prefixOf_121 : decode cX12_prefixOf 121 = .ok (.iload_n 2, 1) := by decide +kernel
theorem dX12_prefixOf_122 : decode cX12_prefixOf 122 = .ok (.iload 6, 2) := by decide +kernel
theorem dX12_prefixOf_124 : decode cX12_prefixOf 124 = .ok (.isub, 1) := by decide +kernel
theorem dX12_prefixOf_125 : decode cX12_prefixOf 125 = .ok (.iload_n 3, 1) := by decide +kernel
theorem dX12_prefixOf_126 : decode cX12_prefixOf 126 = .ok (.iload 6, 2) := by decide +kernel
theorem dX12_prefixOf_128 : decode cX12_prefixOf 128 = .ok (.isub, 1) := by decide +kernel
theorem dX12_prefixOf_129 : decode cX12_prefixOf 129 = .ok (.iconst 0, 1) := by decide +kernel
theorem dX12_prefixOf_130 : decode cX12_prefixOf 130 = .ok (.iload 5, 2) := by decide +kernel
theorem dX12_prefixOf_132 : decode cX12_prefixOf 132 = .ok (.invokevirtual 258, 3) := by decide +kernel
theorem dX12_prefixOf_135 : decode cX12_prefixOf 135 = .ok (.ireturn, 1) := by decide +kernel
theorem dX12_isNoPrefix_0 : decode cX12_isNoPrefix 0 = .ok (.aload_n 0, 1) := by decide +kernel
theorem dX12_isNoPrefix_1 : decode cX12_isNoPrefix 1 = .ok (.iload_n 2, 1) := by decide +kernel
theorem dX12_isNoPrefix_2 : decode cX12_isNoPrefix 2 = .ok (.iconst 0, 1) := by decide +kernel
theorem dX12_isNoPrefix_3 : decode cX12_isNoPrefix 3 = .ok (.aload_n 0, 1) := by decide +kernel
theorem dX12_isNoPrefix_4 : decode cX12_isNoPrefix 4 = .ok (.getfield 141, 3) := by decide +kernel
theorem dX12_isNoPrefix_7 : decode cX12_isNoPrefix 7 = .ok (.invokestatic 124, 3) := by decide +kernel
theorem dX12_isNoPrefix_10 : decode cX12_isNoPrefix 10 = .ok (.ifCond .eq 16, 3) := by decide +kernel
theorem dX12_isNoPrefix_13 : decode cX12_isNoPrefix 13 = .ok (.iload_n 1, 1) := by decide +kernel
theorem dX12_isNoPrefix_14 : decode cX12_isNoPrefix 14 = .ok (.iconst 1, 1) := by decide +kernel
theorem dX12_isNoPrefix_15 : decode cX12_isNoPrefix 15 = .ok (.iload_n 2, 1) := by decide +kernel
theorem dX12_isNoPrefix_16 : decode cX12_isNoPrefix 16 = .ok (.invokestatic 124, 3) := by decide +kernel
theorem dX12_isNoPrefix_19 : decode cX12_isNoPrefix 19 = .ok (.ifCond .eq 7, 3) := by decide +kernel
theorem dX12_isNoPrefix_22 : decode cX12_isNoPrefix 22 = .ok (.iconst 0, 1) := by decide +kernel
theorem dX12_isNoPrefix_23 : decode cX12_isNoPrefix 23 = .ok (.goto 4, 3) := by decide +kernel
theorem dX12_isNoPrefix_26 : decode cX12_isNoPrefix 26 = .ok (.iconst 1, 1) := by decide +kernel
theorem dX12_isNoPrefix_27 : decode cX12_isNoPrefix 27 = .ok (.invokevirtual 134, 3) := by decide +kernel
theorem dX12_isNoPrefix_30 : decode cX12_isNoPrefix 30 = .ok (.ireturn, 1) := by decide +kernel
theorem dX12_prefixLength_0 : decode cX12_prefixLength 0 = .ok (.aload_n 0, 1) := by decide +kernel
theorem dX12_prefixLength_1 : decode cX12_prefixLength 1 = .ok (.iload_n 1, 1) := by decide +kernel
theorem dX12_prefixLength_2 : decode cX12_prefixLength 2 = .ok (.iload_n 2, 1) := by decide +kernel
theorem dX12_prefixLength_3 : decode cX12_prefixLength 3 = .ok (.invokevirtual 262, 3) := by decide +kernel
theorem dX12_prefixLength_6 : decode cX12_prefixLength 6 = .ok (.ifCond .eq 7, 3) := by decide +kernel
theorem dX12_prefixLength_9 : decode cX12_prefixLength 9 = .ok (.iconst 0, 1) := by decide +kernel
theorem dX12_prefixLength_10 : decode cX12_prefixLength 10 = .ok (.goto 9, 3) := by decide +kernel
theorem dX12_prefixLength_13 : decode cX12_prefixLength 13 = .ok (.iload_n 1, 1) := by decide +kernel
theorem dX12_prefixLength_14 : decode cX12_prefixLength 14 = .ok (.iload_n 2, 1) := by decide +kernel
theorem dX12_prefixLength_15 : decode cX12_prefixLength 15 = .ok (.iconst 1, 1) := by decide +kernel
theorem dX12_prefixLength_16 : decode cX12_prefixLength 16 = .ok (.invokestatic 254, 3) := by decide +kernel
theorem dX12_prefixLength_19 : decode cX12_prefixLength 19 = .ok (.ireturn, 1) := by decide +kernel
theorem dX12_prefixAt_0 : decode cX12_prefixAt 0 = .ok (.aload_n 0, 1) := by decide +kernel
theorem dX12_prefixAt_1 : decode cX12_prefixAt 1 = .ok (.iload_n 1, 1) := by decide +kernel
theorem dX12_prefixAt_2 : decode cX12_prefixAt 2 = .ok (.iload_n 2, 1) := by decide +kernel
theorem dX12_prefixAt_3 : decode cX12_prefixAt 3 = .ok (.invokevirtual 262, 3) := by decide +kernel
theorem dX12_prefixAt_6 : decode cX12_prefixAt 6 = .ok (.ifCond .ne 31, 3) := by decide +kernel
theorem dX12_prefixAt_9 : decode cX12_prefixAt 9 = .ok (.aload_n 0, 1) := by decide +kernel
theorem dX12_prefixAt_10 : decode cX12_prefixAt 10 = .ok (.iload_n 3, 1) := by decide +kernel
theorem dX12_prefixAt_11 : decode cX12_prefixAt 11 = .ok (.iconst 0, 1) := by decide +kernel
theorem dX12_prefixAt_12 : decode cX12_prefixAt 12 = .ok (.iload_n 1, 1) := by decide +kernel
theorem dX12_prefixAt_13 : decode cX12_prefixAt 13 = .ok (.iload_n 2, 1) := by decide +kernel
theorem dX12_prefixAt_14 : decode cX12_prefixAt 14 = .ok (.iconst 1, 1) := by decide +kernel
theorem dX12_prefixAt_15 : decode cX12_prefixAt 15 = .ok (.invokestatic 254, 3) := by decide +kernel
theorem dX12_prefixAt_18 : decode cX12_prefixAt 18 = .ok (.iconst 1, 1) := by decide +kernel
theorem dX12_prefixAt_19 : decode cX12_prefixAt 19 = .ok (.isub, 1) := by decide +kernel
theorem dX12_prefixAt_20 : decode cX12_prefixAt 20 = .ok (.invokestatic 124, 3) := by decide +kernel
theorem dX12_prefixAt_23 : decode cX12_prefixAt 23 = .ok (.ifCond .eq 7, 3) := by decide +kernel
theorem dX12_prefixAt_26 : decode cX12_prefixAt 26 = .ok (.iconst 0, 1) := by decide +kernel
theorem dX12_prefixAt_27 : decode cX12_prefixAt 27 = .ok (.goto 4, 3) := by decide +kernel
theorem dX12_prefixAt_30 : decode cX12_prefixAt 30 = .ok (.iconst 2, 1) := by decide +kernel
theorem dX12_prefixAt_31 : decode cX12_prefixAt 31 = .ok (.invokevirtual 134, 3) := by decide +kernel
theorem dX12_prefixAt_34 : decode cX12_prefixAt 34 = .ok (.ifCond .eq 5, 3) := by decide +kernel
theorem dX12_prefixAt_37 : decode cX12_prefixAt 37 = .ok (.iconst 0, 1) := by decide +kernel
theorem dX12_prefixAt_38 : decode cX12_prefixAt 38 = .ok (.ireturn, 1) := by decide +kernel
theorem dX12_prefixAt_39 : decode cX12_prefixAt 39 = .ok (.aload_n 0, 1) := by decide +kernel
theorem dX12_prefixAt_40 : decode cX12_prefixAt 40 = .ok (.iconst 0, 1) := by decide +kernel
theorem dX12_prefixAt_41 : decode cX12_prefixAt 41 = .ok (.iload_n 1, 1) := by decide +kernel
theorem dX12_prefixAt_42 : decode cX12_prefixAt 42 = .ok (.iload_n 2, 1) := by decide +kernel
theorem dX12_prefixAt_43 : decode cX12_prefixAt 43 = .ok (.iconst 1, 1) := by decide +kernel
theorem dX12_prefixAt_44 : decode cX12_prefixAt 44 = .ok (.iload_n 3, 1) := by decide +kernel
theorem dX12_prefixAt_45 : decode cX12_prefixAt 45 = .ok (.invokevirtual 258, 3) := by decide +kernel
theorem dX12_prefixAt_48 : decode cX12_prefixAt 48 = .ok (.ireturn, 1) := by decide +kernel
theorem dX12_forget_0 : decode cX12_forget 0 = .ok (.aload_n 0, 1) := by decide +kernel
theorem dX12_forget_1 : decode cX12_forget 1 = .ok (.iload_n 1, 1) := by decide +kernel
theorem dX12_forget_2 : decode cX12_forget 2 = .ok (.iconst 0, 1) := by decide +kernel
theorem dX12_forget_3 : decode cX12_forget 3 = .ok (.aload_n 0, 1) := by decide +kernel
theorem dX12_forget_4 : decode cX12_forget 4 = .ok (.getfield 141, 3) := by decide +kernel
theorem dX12_forget_7 : decode cX12_forget 7 = .ok (.invokestatic 124, 3) := by decide +kernel
theorem dX12_forget_10 : decode cX12_forget 10 = .ok (.ifCond .eq 7, 3) := by decide +kernel
theorem dX12_forget_13 : decode cX12_forget 13 = .ok (.iconst 0, 1) := by decide +kernel
theorem dX12_forget_14 : decode cX12_forget 14 = .ok (.goto 4, 3) := by decide +kernel
theorem dX12_forget_17 : decode cX12_forget 17 = .ok (.iconst 1, 1) := by decide +kernel
theorem dX12_forget_18 : decode cX12_forget 18 = .ok (.invokevirtual 134, 3) := by decide +kernel
theorem dX12_forget_21 : decode cX12_forget 21 = .ok (.ifCond .eq 5, 3) := by decide +kernel
theorem dX12_forget_24 : decode cX12_forget 24 = .ok (.iconst 0, 1) := by decide +kernel
theorem dX12_forget_25 : decode cX12_forget 25 = .ok (.ireturn, 1) := by decide +kernel
theorem dX12_forget_26 : decode cX12_forget 26 = .ok (.aload_n 0, 1) := by decide +kernel
theorem dX12_forget_27 : decode cX12_forget 27 = .ok (.getfield 141, 3) := by decide +kernel
theorem dX12_forget_30 : decode cX12_forget 30 = .ok (.iload_n 1, 1) := by decide +kernel
theorem dX12_forget_31 : decode cX12_forget 31 = .ok (.isub, 1) := by decide +kernel
theorem dX12_forget_32 : decode cX12_forget 32 = .ok (.istore_n 2, 1) := by decide +kernel
theorem dX12_forget_33 : decode cX12_forget 33 = .ok (.aload_n 0, 1) := by decide +kernel
theorem dX12_forget_34 : decode cX12_forget 34 = .ok (.iload_n 1, 1) := by decide +kernel
theorem dX12_forget_35 : decode cX12_forget 35 = .ok (.putfield 141, 3) := by decide +kernel
theorem dX12_forget_38 : decode cX12_forget 38 = .ok (.iload_n 2, 1) := by decide +kernel
theorem dX12_forget_39 : decode cX12_forget 39 = .ok (.ireturn, 1) := by decide +kernel
theorem dX12_isShown_0 : decode cX12_isShown 0 = .ok (.aload_n 0, 1) := by decide +kernel
theorem dX12_isShown_1 : decode cX12_isShown 1 = .ok (.getfield 23, 3) := by decide +kernel
theorem dX12_isShown_4 : decode cX12_isShown 4 = .ok (.iload_n 1, 1) := by decide +kernel
theorem dX12_isShown_5 : decode cX12_isShown 5 = .ok (.iaload, 1) := by decide +kernel
theorem dX12_isShown_6 : decode cX12_isShown 6 = .ok (.aload_n 0, 1) := by decide +kernel
theorem dX12_isShown_7 : decode cX12_isShown 7 = .ok (.getfield 141, 3) := by decide +kernel
theorem dX12_isShown_10 : decode cX12_isShown 10 = .ok (.if_icmp .gt 27, 3) := by decide +kernel
theorem dX12_isShown_13 : decode cX12_isShown 13 = .ok (.aload_n 0, 1) := by decide +kernel
theorem dX12_isShown_14 : decode cX12_isShown 14 = .ok (.iconst 0, 1) := by decide +kernel
theorem dX12_isShown_15 : decode cX12_isShown 15 = .ok (.aload_n 0, 1) := by decide +kernel
theorem dX12_isShown_16 : decode cX12_isShown 16 = .ok (.getfield 23, 3) := by decide +kernel
theorem dX12_isShown_19 : decode cX12_isShown 19 = .ok (.iload_n 1, 1) := by decide +kernel
theorem dX12_isShown_20 : decode cX12_isShown 20 = .ok (.iaload, 1) := by decide +kernel
theorem dX12_isShown_21 : decode cX12_isShown 21 = .ok (.invokevirtual 241, 3) := by decide +kernel
theorem dX12_isShown_24 : decode cX12_isShown 24 = .ok (.aload_n 0, 1) := by decide +kernel
theorem dX12_isShown_25 : decode cX12_isShown 25 = .ok (.getfield 26, 3) := by decide +kernel
theorem dX12_isShown_28 : decode cX12_isShown 28 = .ok (.iload_n 1, 1) := by decide +kernel
theorem dX12_isShown_29 : decode cX12_isShown 29 = .ok (.iaload, 1) := by decide +kernel
theorem dX12_isShown_30 : decode cX12_isShown 30 = .ok (.if_icmp .ne 7, 3) := by decide +kernel
theorem dX12_isShown_33 : decode cX12_isShown 33 = .ok (.iconst 1, 1) := by decide +kernel
theorem dX12_isShown_34 : decode cX12_isShown 34 = .ok (.goto 4, 3) := by decide +kernel
theorem dX12_isShown_37 : decode cX12_isShown 37 = .ok (.iconst 0, 1) := by decide +kernel
theorem dX12_isShown_38 : decode cX12_isShown 38 = .ok (.ireturn, 1) := by decide +kernel
theorem dX12_show_0 : decode cX12_show 0 = .ok (.aload_n 0, 1) := by decide +kernel
theorem dX12_show_1 : decode cX12_show 1 = .ok (.aload_n 0, 1) := by decide +kernel
theorem dX12_show_2 : decode cX12_show 2 = .ok (.iload_n 1, 1) := by decide +kernel
theorem dX12_show_3 : decode cX12_show 3 = .ok (.invokevirtual 138, 3) := by decide +kernel
theorem dX12_show_6 : decode cX12_show 6 = .ok (.ifCond .ne 7, 3) := by decide +kernel
theorem dX12_show_9 : decode cX12_show 9 = .ok (.iconst 1, 1) := by decide +kernel
theorem dX12_show_10 : decode cX12_show 10 = .ok (.goto 20, 3) := by decide +kernel
theorem dX12_show_13 : decode cX12_show 13 = .ok (.iload_n 2, 1) := by decide +kernel
theorem dX12_show_14 : decode cX12_show 14 = .ok (.iconst 0, 1) := by decide +kernel
theorem dX12_show_15 : decode cX12_show 15 = .ok (.aload_n 0, 1) := by decide +kernel
theorem dX12_show_16 : decode cX12_show 16 = .ok (.getfield 141, 3) := by decide +kernel
theorem dX12_show_19 : decode cX12_show 19 = .ok (.invokestatic 124, 3) := by decide +kernel
theorem dX12_show_22 : decode cX12_show 22 = .ok (.ifCond .eq 7, 3) := by decide +kernel
theorem dX12_show_25 : decode cX12_show 25 = .ok (.iconst 0, 1) := by decide +kernel
theorem dX12_show_26 : decode cX12_show 26 = .ok (.goto 4, 3) := by decide +kernel
theorem dX12_show_29 : decode cX12_show 29 = .ok (.iconst 2, 1) := by decide +kernel
theorem dX12_show_30 : decode cX12_show 30 = .ok (.invokevirtual 134, 3) := by decide +kernel
theorem dX12_show_33 : decode cX12_show 33 = .ok (.ifCond .eq 5, 3) := by decide +kernel
theorem dX12_show_36 : decode cX12_show 36 = .ok (.iconst 0, 1) := by decide +kernel
theorem dX12_show_37 : decode cX12_show 37 = .ok (.ireturn, 1) := by decide +kernel
theorem dX12_show_38 : decode cX12_show 38 = .ok (.iload_n 2, 1) := by decide +kernel
theorem dX12_show_39 : decode cX12_show 39 = .ok (.aload_n 0, 1) := by decide +kernel
theorem dX12_show_40 : decode cX12_show 40 = .ok (.getfield 23, 3) := by decide +kernel
theorem dX12_show_43 : decode cX12_show 43 = .ok (.iload_n 1, 1) := by decide +kernel
theorem dX12_show_44 : decode cX12_show 44 = .ok (.iaload, 1) := by decide +kernel
theorem dX12_show_45 : decode cX12_show 45 = .ok (.if_icmp .lt 11, 3) := by decide +kernel
theorem dX12_show_48 : decode cX12_show 48 = .ok (.aload_n 0, 1) := by decide +kernel
theorem dX12_show_49 : decode cX12_show 49 = .ok (.iload_n 1, 1) := by decide +kernel
theorem dX12_show_50 : decode cX12_show 50 = .ok (.invokevirtual 265, 3) := by decide +kernel
theorem dX12_show_53 : decode cX12_show 53 = .ok (.ifCond .ne 16, 3) := by decide +kernel
theorem dX12_show_56 : decode cX12_show 56 = .ok (.aload_n 0, 1) := by decide +kernel
theorem dX12_show_57 : decode cX12_show 57 = .ok (.getfield 29, 3) := by decide +kernel
theorem dX12_show_60 : decode cX12_show 60 = .ok (.iload_n 1, 1) := by decide +kernel
theorem dX12_show_61 : decode cX12_show 61 = .ok (.dup2, 1) := by decide +kernel
theorem dX12_show_62 : decode cX12_show 62 = .ok (.iaload, 1) := by decide +kernel
theorem dX12_show_63 : decode cX12_show 63 = .ok (.iconst 1, 1) := by decide +kernel
theorem dX12_show_64 : decode cX12_show 64 = .ok (.iadd, 1) := by decide +kernel
theorem dX12_show_65 : decode cX12_show 65 = .ok (.iastore, 1) := by decide +kernel
theorem dX12_show_66 : decode cX12_show 66 = .ok (.bipush 97, 2) := by decide +kernel
theorem dX12_show_68 : decode cX12_show 68 = .ok (.ireturn, 1) := by decide +kernel
theorem dX12_show_69 : decode cX12_show 69 = .ok (.aload_n 0, 1) := by decide +kernel
theorem dX12_show_70 : decode cX12_show 70 = .ok (.getfield 23, 3) := by decide +kernel
theorem dX12_show_73 : decode cX12_show 73 = .ok (.iload_n 1, 1) := by decide +kernel
theorem dX12_show_74 : decode cX12_show 74 = .ok (.iload_n 2, 1) := by decide +kernel
theorem dX12_show_75 : decode cX12_show 75 = .ok (.iastore, 1) := by decide +kernel
theorem dX12_show_76 : decode cX12_show 76 = .ok (.aload_n 0, 1) := by decide +kernel
theorem dX12_show_77 : decode cX12_show 77 = .ok (.getfield 26, 3) := by decide +kernel
theorem dX12_show_80 : decode cX12_show 80 = .ok (.iload_n 1, 1) := by decide +kernel
theorem dX12_show_81 : decode cX12_show 81 = .ok (.aload_n 0, 1) := by decide +kernel
theorem dX12_show_82 : decode cX12_show 82 = .ok (.iconst 0, 1) := by decide +kernel
theorem dX12_show_83 : decode cX12_show 83 = .ok (.iload_n 2, 1) := by decide +kernel
theorem dX12_show_84 : decode cX12_show 84 = .ok (.invokevirtual 241, 3) := by decide +kernel
theorem dX12_show_87 : decode cX12_show 87 = .ok (.iastore, 1) := by decide +kernel
theorem dX12_show_88 : decode cX12_show 88 = .ok (.bipush 107, 2) := by decide +kernel
theorem dX12_show_90 : decode cX12_show 90 = .ok (.ireturn, 1) := by decide +kernel
theorem dX12_meet_0 : decode cX12_meet 0 = .ok (.aload_n 0, 1) := by decide +kernel
theorem dX12_meet_1 : decode cX12_meet 1 = .ok (.aload_n 0, 1) := by decide +kernel
theorem dX12_meet_2 : decode cX12_meet 2 = .ok (.iload_n 1, 1) := by decide +kernel
theorem dX12_meet_3 : decode cX12_meet 3 = .ok (.invokevirtual 138, 3) := by decide +kernel
theorem dX12_meet_6 : decode cX12_meet 6 = .ok (.ifCond .eq 11, 3) := by decide +kernel
theorem dX12_meet_9 : decode cX12_meet 9 = .ok (.aload_n 0, 1) := by decide +kernel
theorem dX12_meet_10 : decode cX12_meet 10 = .ok (.iload_n 2, 1) := by decide +kernel
theorem dX12_meet_11 : decode cX12_meet 11 = .ok (.invokevirtual 138, 3) := by decide +kernel
theorem dX12_meet_14 : decode cX12_meet 14 = .ok (.ifCond .ne 7, 3) := by decide +kernel
theorem dX12_meet_17 : decode cX12_meet 17 = .ok (.iconst 1, 1) := by decide +kernel
theorem dX12_meet_18 : decode cX12_meet 18 = .ok (.goto 13, 3) := by decide +kernel
theorem dX12_meet_21 : decode cX12_meet 21 = .ok (.iload_n 1, 1) := by decide +kernel
theorem dX12_meet_22 : decode cX12_meet 22 = .ok (.iload_n 2, 1) := by decide +kernel
theorem dX12_meet_23 : decode cX12_meet 23 = .ok (.if_icmp .ne 7, 3) := by decide +kernel
theorem dX12_meet_26 : decode cX12_meet 26 = .ok (.iconst 2, 1) := by decide +kernel
theorem dX12_meet_27 : decode cX12_meet 27 = .ok (.goto 4, 3) := by decide +kernel
theorem dX12_meet_30 : decode cX12_meet 30 = .ok (.iconst 0, 1) := by decide +kernel
theorem dX12_meet_31 : decode cX12_meet 31 = .ok (.invokevirtual 134, 3) := by decide +kernel
theorem dX12_meet_34 : decode cX12_meet 34 = .ok (.ifCond .eq 5, 3) := by decide +kernel
theorem dX12_meet_37 : decode cX12_meet 37 = .ok (.iconst 0, 1) := by decide +kernel
theorem dX12_meet_38 : decode cX12_meet 38 = .ok (.ireturn, 1) := by decide +kernel
theorem dX12_meet_39 : decode cX12_meet 39 = .ok (.aload_n 0, 1) := by decide +kernel
theorem dX12_meet_40 : decode cX12_meet 40 = .ok (.getfield 23, 3) := by decide +kernel
theorem dX12_meet_43 : decode cX12_meet 43 = .ok (.iload_n 1, 1) := by decide +kernel
theorem dX12_meet_44 : decode cX12_meet 44 = .ok (.iaload, 1) := by decide +kernel
theorem dX12_meet_45 : decode cX12_meet 45 = .ok (.aload_n 0, 1) := by decide +kernel
theorem dX12_meet_46 : decode cX12_meet 46 = .ok (.getfield 23, 3) := by decide +kernel
theorem dX12_meet_49 : decode cX12_meet 49 = .ok (.iload_n 2, 1) := by decide +kernel
theorem dX12_meet_50 : decode cX12_meet 50 = .ok (.iaload, 1) := by decide +kernel
theorem dX12_meet_51 : decode cX12_meet 51 = .ok (.if_icmp .ne 22, 3) := by decide +kernel
theorem dX12_meet_54 : decode cX12_meet 54 = .ok (.aload_n 0, 1) := by decide +kernel
theorem dX12_meet_55 : decode cX12_meet 55 = .ok (.getfield 26, 3) := by decide +kernel
theorem dX12_meet_58 : decode cX12_meet 58 = .ok (.iload_n 1, 1) := by decide +kernel
theorem dX12_meet_59 : decode cX12_meet 59 = .ok (.iaload, 1) := by decide +kernel
theorem dX12_meet_60 : decode cX12_meet 60 = .ok (.aload_n 0, 1) := by decide +kernel
theorem dX12_meet_61 : decode cX12_meet 61 = .ok (.getfield 26, 3) := by decide +kernel
theorem dX12_meet_64 : decode cX12_meet 64 = .ok (.iload_n 2, 1) := by decide +kernel
theorem dX12_meet_65 : decode cX12_meet 65 = .ok (.iaload, 1) := by decide +kernel
theorem dX12_meet_66 : decode cX12_meet 66 = .ok (.if_icmp .ne 7, 3) := by decide +kernel
theorem dX12_meet_69 : decode cX12_meet 69 = .ok (.iconst 1, 1) := by decide +kernel
theorem dX12_meet_70 : decode cX12_meet 70 = .ok (.goto 4, 3) := by decide +kernel
theorem dX12_meet_73 : decode cX12_meet 73 = .ok (.iconst 0, 1) := by decide +kernel
theorem dX12_meet_74 : decode cX12_meet 74 = .ok (.istore_n 3, 1) := by decide +kernel
theorem dX12_meet_75 : decode cX12_meet 75 = .ok (.iload_n 3, 1) := by decide +kernel
theorem dX12_meet_76 : decode cX12_meet 76 = .ok (.ifCond .ne 19, 3) := by decide +kernel
theorem dX12_meet_79 : decode cX12_meet 79 = .ok (.aload_n 0, 1) := by decide +kernel
theorem dX12_meet_80 : decode cX12_meet 80 = .ok (.iload_n 1, 1) := by decide +kernel
theorem dX12_meet_81 : decode cX12_meet 81 = .ok (.invokevirtual 265, 3) := by decide +kernel
theorem dX12_meet_84 : decode cX12_meet 84 = .ok (.ifCond .eq 14, 3) := by decide +kernel
theorem dX12_meet_87 : decode cX12_meet 87 = .ok (.aload_n 0, 1) := by decide +kernel
theorem dX12_meet_88 : decode cX12_meet 88 = .ok (.iload_n 2, 1) := by decide +kernel
theorem dX12_meet_89 : decode cX12_meet 89 = .ok (.invokevirtual 265, 3) := by decide +kernel
theorem dX12_meet_92 : decode cX12_meet 92 = .ok (.ifCond .eq 6, 3) := by decide +kernel
theorem dX12_meet_95 : decode cX12_meet 95 = .ok (.bipush 107, 2) := by decide +kernel
theorem dX12_meet_97 : decode cX12_meet 97 = .ok (.ireturn, 1) := by decide +kernel
theorem dX12_meet_98 : decode cX12_meet 98 = .ok (.aload_n 0, 1) := by decide +kernel
theorem dX12_meet_99 : decode cX12_meet 99 = .ok (.getfield 29, 3) := by decide +kernel
theorem dX12_meet_102 : decode cX12_meet 102 = .ok (.iload_n 1, 1) := by decide +kernel
theorem dX12_meet_103 : decode cX12_meet 103 = .ok (.dup2, 1) := by decide +kernel
theorem dX12_meet_104 : decode cX12_meet 104 = .ok (.iaload, 1) := by decide +kernel
theorem dX12_meet_105 : decode cX12_meet 105 = .ok (.iconst 1, 1) := by decide +kernel
theorem dX12_meet_106 : decode cX12_meet 106 = .ok (.iadd, 1) := by decide +kernel
theorem dX12_meet_107 : decode cX12_meet 107 = .ok (.iastore, 1) := by decide +kernel
theorem dX12_meet_108 : decode cX12_meet 108 = .ok (.aload_n 0, 1) := by decide +kernel
theorem dX12_meet_109 : decode cX12_meet 109 = .ok (.getfield 29, 3) := by decide +kernel
theorem dX12_meet_112 : decode cX12_meet 112 = .ok (.iload_n 2, 1) := by decide +kernel
theorem dX12_meet_113 : decode cX12_meet 113 = .ok (.dup2, 1) := by decide +kernel
theorem dX12_meet_114 : decode cX12_meet 114 = .ok (.iaload, 1) := by decide +kernel
theorem dX12_meet_115 : decode cX12_meet 115 = .ok (.iconst 1, 1) := by decide +kernel
theorem dX12_meet_116 : decode cX12_meet 116 = .ok (.iadd, 1) := by decide +kernel
theorem dX12_meet_117 : decode cX12_meet 117 = .ok (.iastore, 1) := by decide +kernel
theorem dX12_meet_118 : decode cX12_meet 118 = .ok (.bipush 97, 2) := by decide +kernel
theorem dX12_meet_120 : decode cX12_meet 120 = .ok (.ireturn, 1) := by decide +kernel
theorem dX12_head_0 : decode cX12_head 0 = .ok (.aload_n 0, 1) := by decide +kernel
theorem dX12_head_1 : decode cX12_head 1 = .ok (.aload_n 0, 1) := by decide +kernel
theorem dX12_head_2 : decode cX12_head 2 = .ok (.iload_n 1, 1) := by decide +kernel
theorem dX12_head_3 : decode cX12_head 3 = .ok (.invokevirtual 138, 3) := by decide +kernel
theorem dX12_head_6 : decode cX12_head 6 = .ok (.ifCond .eq 7, 3) := by decide +kernel
theorem dX12_head_9 : decode cX12_head 9 = .ok (.iconst 0, 1) := by decide +kernel
theorem dX12_head_10 : decode cX12_head 10 = .ok (.goto 4, 3) := by decide +kernel
theorem dX12_head_13 : decode cX12_head 13 = .ok (.iconst 1, 1) := by decide +kernel
theorem dX12_head_14 : decode cX12_head 14 = .ok (.invokevirtual 134, 3) := by decide +kernel
theorem dX12_head_17 : decode cX12_head 17 = .ok (.ifCond .eq 7, 3) := by decide +kernel
theorem dX12_head_20 : decode cX12_head 20 = .ok (.iconst 0, 1) := by decide +kernel
theorem dX12_head_21 : decode cX12_head 21 = .ok (.goto 9, 3) := by decide +kernel
theorem dX12_head_24 : decode cX12_head 24 = .ok (.aload_n 0, 1) := by decide +kernel
theorem dX12_head_25 : decode cX12_head 25 = .ok (.getfield 23, 3) := by decide +kernel
theorem dX12_head_28 : decode cX12_head 28 = .ok (.iload_n 1, 1) := by decide +kernel
theorem dX12_head_29 : decode cX12_head 29 = .ok (.iaload, 1) := by decide +kernel
theorem dX12_head_30 : decode cX12_head 30 = .ok (.ireturn, 1) := by decide +kernel
theorem dX12_alarms_0 : decode cX12_alarms 0 = .ok (.aload_n 0, 1) := by decide +kernel
theorem dX12_alarms_1 : decode cX12_alarms 1 = .ok (.aload_n 0, 1) := by decide +kernel
theorem dX12_alarms_2 : decode cX12_alarms 2 = .ok (.iload_n 1, 1) := by decide +kernel
theorem dX12_alarms_3 : decode cX12_alarms 3 = .ok (.invokevirtual 138, 3) := by decide +kernel
theorem dX12_alarms_6 : decode cX12_alarms 6 = .ok (.ifCond .eq 7, 3) := by decide +kernel
theorem dX12_alarms_9 : decode cX12_alarms 9 = .ok (.iconst 0, 1) := by decide +kernel
theorem dX12_alarms_10 : decode cX12_alarms 10 = .ok (.goto 4, 3) := by decide +kernel
theorem dX12_alarms_13 : decode cX12_alarms 13 = .ok (.iconst 1, 1) := by decide +kernel
theorem dX12_alarms_14 : decode cX12_alarms 14 = .ok (.invokevirtual 134, 3) := by decide +kernel
theorem dX12_alarms_17 : decode cX12_alarms 17 = .ok (.ifCond .eq 7, 3) := by decide +kernel
theorem dX12_alarms_20 : decode cX12_alarms 20 = .ok (.iconst 0, 1) := by decide +kernel
theorem dX12_alarms_21 : decode cX12_alarms 21 = .ok (.goto 9, 3) := by decide +kernel
theorem dX12_alarms_24 : decode cX12_alarms 24 = .ok (.aload_n 0, 1) := by decide +kernel
theorem dX12_alarms_25 : decode cX12_alarms 25 = .ok (.getfield 29, 3) := by decide +kernel
theorem dX12_alarms_28 : decode cX12_alarms 28 = .ok (.iload_n 1, 1) := by decide +kernel
theorem dX12_alarms_29 : decode cX12_alarms 29 = .ok (.iaload, 1) := by decide +kernel
theorem dX12_alarms_30 : decode cX12_alarms 30 = .ok (.ireturn, 1) := by decide +kernel
theorem dX12_split_0 : decode cX12_split 0 = .ok (.aload_n 0, 1) := by decide +kernel
theorem dX12_split_1 : decode cX12_split 1 = .ok (.aload_n 0, 1) := by decide +kernel
theorem dX12_split_2 : decode cX12_split 2 = .ok (.iload_n 1, 1) := by decide +kernel
theorem dX12_split_3 : decode cX12_split 3 = .ok (.invokevirtual 138, 3) := by decide +kernel
theorem dX12_split_6 : decode cX12_split 6 = .ok (.ifCond .ne 7, 3) := by decide +kernel
theorem dX12_split_9 : decode cX12_split 9 = .ok (.iconst 1, 1) := by decide +kernel
theorem dX12_split_10 : decode cX12_split 10 = .ok (.goto 27, 3) := by decide +kernel
theorem dX12_split_13 : decode cX12_split 13 = .ok (.iload_n 2, 1) := by decide +kernel
theorem dX12_split_14 : decode cX12_split 14 = .ok (.iconst 1, 1) := by decide +kernel
theorem dX12_split_15 : decode cX12_split 15 = .ok (.bipush 8, 2) := by decide +kernel
theorem dX12_split_17 : decode cX12_split 17 = .ok (.invokestatic 124, 3) := by decide +kernel
theorem dX12_split_20 : decode cX12_split 20 = .ok (.ifCond .eq 12, 3) := by decide +kernel
theorem dX12_split_23 : decode cX12_split 23 = .ok (.iload_n 3, 1) := by decide +kernel
theorem dX12_split_24 : decode cX12_split 24 = .ok (.iconst 1, 1) := by decide +kernel
theorem dX12_split_25 : decode cX12_split 25 = .ok (.iload_n 2, 1) := by decide +kernel
theorem dX12_split_26 : decode cX12_split 26 = .ok (.invokestatic 124, 3) := by decide +kernel
theorem dX12_split_29 : decode cX12_split 29 = .ok (.ifCond .ne 7, 3) := by decide +kernel
theorem dX12_split_32 : decode cX12_split 32 = .ok (.iconst 2, 1) := by decide +kernel
theorem dX12_split_33 : decode cX12_split 33 = .ok (.goto 4, 3) := by decide +kernel
theorem dX12_split_36 : decode cX12_split 36 = .ok (.iconst 0, 1) := by decide +kernel
theorem dX12_split_37 : decode cX12_split 37 = .ok (.invokevirtual 134, 3) := by decide +kernel
theorem dX12_split_40 : decode cX12_split 40 = .ok (.ifCond .eq 5, 3) := by decide +kernel
theorem dX12_split_43 : decode cX12_split 43 = .ok (.iconst 0, 1) := by decide +kernel
theorem dX12_split_44 : decode cX12_split 44 = .ok (.ireturn, 1) := by decide +kernel
theorem dX12_split_45 : decode cX12_split 45 = .ok (.aload_n 0, 1) := by decide +kernel
theorem dX12_split_46 : decode cX12_split 46 = .ok (.getfield 35, 3) := by decide +kernel
theorem dX12_split_49 : decode cX12_split 49 = .ok (.iload_n 1, 1) := by decide +kernel
theorem dX12_split_50 : decode cX12_split 50 = .ok (.iaload, 1) := by decide +kernel
theorem dX12_split_51 : decode cX12_split 51 = .ok (.istore 4, 2) := by decide +kernel
theorem dX12_split_53 : decode cX12_split 53 = .ok (.aload_n 0, 1) := by decide +kernel
theorem dX12_split_54 : decode cX12_split 54 = .ok (.getfield 32, 3) := by decide +kernel
theorem dX12_split_57 : decode cX12_split 57 = .ok (.iload_n 1, 1) := by decide +kernel
theorem dX12_split_58 : decode cX12_split 58 = .ok (.iload_n 2, 1) := by decide +kernel
theorem dX12_split_59 : decode cX12_split 59 = .ok (.iastore, 1) := by decide +kernel
theorem dX12_split_60 : decode cX12_split 60 = .ok (.aload_n 0, 1) := by decide +kernel
theorem dX12_split_61 : decode cX12_split 61 = .ok (.getfield 35, 3) := by decide +kernel
theorem dX12_split_64 : decode cX12_split 64 = .ok (.iload_n 1, 1) := by decide +kernel
theorem dX12_split_65 : decode cX12_split 65 = .ok (.iload_n 3, 1) := by decide +kernel
theorem dX12_split_66 : decode cX12_split 66 = .ok (.iastore, 1) := by decide +kernel
theorem dX12_split_67 : decode cX12_split 67 = .ok (.iload 4, 2) := by decide +kernel
theorem dX12_split_69 : decode cX12_split 69 = .ok (.ireturn, 1) := by decide +kernel
theorem dX12_share_0 : decode cX12_share 0 = .ok (.aload_n 0, 1) := by decide +kernel
theorem dX12_share_1 : decode cX12_share 1 = .ok (.aload_n 0, 1) := by decide +kernel
theorem dX12_share_2 : decode cX12_share 2 = .ok (.iload_n 1, 1) := by decide +kernel
theorem dX12_share_3 : decode cX12_share 3 = .ok (.invokevirtual 138, 3) := by decide +kernel
theorem dX12_share_6 : decode cX12_share 6 = .ok (.ifCond .ne 7, 3) := by decide +kernel
theorem dX12_share_9 : decode cX12_share 9 = .ok (.iconst 1, 1) := by decide +kernel
theorem dX12_share_10 : decode cX12_share 10 = .ok (.goto 35, 3) := by decide +kernel
theorem dX12_share_13 : decode cX12_share 13 = .ok (.aload_n 0, 1) := by decide +kernel
theorem dX12_share_14 : decode cX12_share 14 = .ok (.getfield 35, 3) := by decide +kernel
theorem dX12_share_17 : decode cX12_share 17 = .ok (.iload_n 1, 1) := by decide +kernel
theorem dX12_share_18 : decode cX12_share 18 = .ok (.iaload, 1) := by decide +kernel
theorem dX12_share_19 : decode cX12_share 19 = .ok (.ifCond .ne 7, 3) := by decide +kernel
theorem dX12_share_22 : decode cX12_share 22 = .ok (.iconst 2, 1) := by decide +kernel
theorem dX12_share_23 : decode cX12_share 23 = .ok (.goto 22, 3) := by decide +kernel
theorem dX12_share_26 : decode cX12_share 26 = .ok (.iload_n 2, 1) := by decide +kernel
theorem dX12_share_27 : decode cX12_share 27 = .ok (.iconst 1, 1) := by decide +kernel
theorem dX12_share_28 : decode cX12_share 28 = .ok (.aload_n 0, 1) := by decide +kernel
theorem dX12_share_29 : decode cX12_share 29 = .ok (.getfield 32, 3) := by decide +kernel
theorem dX12_share_32 : decode cX12_share 32 = .ok (.iload_n 1, 1) := by decide +kernel
theorem dX12_share_33 : decode cX12_share 33 = .ok (.iaload, 1) := by decide +kernel
theorem dX12_share_34 : decode cX12_share 34 = .ok (.invokestatic 124, 3) := by decide +kernel
theorem dX12_share_37 : decode cX12_share 37 = .ok (.ifCond .eq 7, 3) := by decide +kernel
theorem dX12_share_40 : decode cX12_share 40 = .ok (.iconst 0, 1) := by decide +kernel
theorem dX12_share_41 : decode cX12_share 41 = .ok (.goto 4, 3) := by decide +kernel
theorem dX12_share_44 : decode cX12_share 44 = .ok (.iconst 3, 1) := by decide +kernel
theorem dX12_share_45 : decode cX12_share 45 = .ok (.invokevirtual 134, 3) := by decide +kernel
theorem dX12_share_48 : decode cX12_share 48 = .ok (.ifCond .eq 5, 3) := by decide +kernel
theorem dX12_share_51 : decode cX12_share 51 = .ok (.iconst 0, 1) := by decide +kernel
theorem dX12_share_52 : decode cX12_share 52 = .ok (.ireturn, 1) := by decide +kernel
theorem dX12_share_53 : decode cX12_share 53 = .ok (.lconst 0, 1) := by decide +kernel
theorem dX12_share_54 : decode cX12_share 54 = .ok (.lstore_n 3, 1) := by decide +kernel
theorem dX12_share_55 : decode cX12_share 55 = .ok (.aload_n 0, 1) := by decide +kernel
theorem dX12_share_56 : decode cX12_share 56 = .ok (.getfield 35, 3) := by decide +kernel
theorem dX12_share_59 : decode cX12_share 59 = .ok (.iload_n 1, 1) := by decide +kernel
theorem dX12_share_60 : decode cX12_share 60 = .ok (.iaload, 1) := by decide +kernel
theorem dX12_share_61 : decode cX12_share 61 = .ok (.iconst 1, 1) := by decide +kernel
theorem dX12_share_62 : decode cX12_share 62 = .ok (.isub, 1) := by decide +kernel
theorem dX12_share_63 : decode cX12_share 63 = .ok (.istore 5, 2) := by decide +kernel
theorem dX12_share_65 : decode cX12_share 65 = .ok (.iload 5, 2) := by decide +kernel
theorem dX12_share_67 : decode cX12_share 67 = .ok (.ifCond .lt 55, 3) := by decide +kernel
theorem dX12_share_70 : decode cX12_share 70 = .ok (.iload 5, 2) := by decide +kernel
theorem dX12_share_72 : decode cX12_share 72 = .ok (.ifCond .ne 13, 3) := by decide +kernel
theorem dX12_share_75 : decode cX12_share 75 = .ok (.aload_n 0, 1) := by decide +kernel
theorem dX12_share_76 : decode cX12_share 76 = .ok (.getfield 19, 3) := by decide +kernel
theorem dX12_share_79 : decode cX12_share 79 = .ok (.iload_n 1, 1) := by decide +kernel
theorem dX12_share_80 : decode cX12_share 80 = .ok (.iaload, 1) := by decide +kernel
theorem dX12_share_81 : decode cX12_share 81 = .ok (.i2l, 1) := by decide +kernel
theorem dX12_share_82 : decode cX12_share 82 = .ok (.goto 20, 3) := by decide +kernel
theorem dX12_share_85 : decode cX12_share 85 = .ok (.iconst 3, 1) := by decide +kernel
theorem dX12_share_86 : decode cX12_share 86 = .ok (.iload_n 1, 1) := by decide +kernel
theorem dX12_share_87 : decode cX12_share 87 = .ok (.invokestatic 151, 3) := by decide +kernel
theorem dX12_share_90 : decode cX12_share 90 = .ok (.iload 5, 2) := by decide +kernel
theorem dX12_share_92 : decode cX12_share 92 = .ok (.invokestatic 151, 3) := by decide +kernel
theorem dX12_share_95 : decode cX12_share 95 = .ok (.ldc_w 268, 3) := by decide +kernel
theorem dX12_share_98 : decode cX12_share 98 = .ok (.invokestatic 269, 3) := by decide +kernel
theorem dX12_share_101 : decode cX12_share 101 = .ok (.i2l, 1) := by decide +kernel
theorem dX12_share_102 : decode cX12_share 102 = .ok (.lstore 6, 2) := by decide +kernel
theorem dX12_share_104 : decode cX12_share 104 = .ok (.lload_n 3, 1) := by decide +kernel
theorem dX12_share_105 : decode cX12_share 105 = .ok (.iload_n 2, 1) := by decide +kernel
theorem dX12_share_106 : decode cX12_share 106 = .ok (.i2l, 1) := by decide +kernel
theorem dX12_share_107 : decode cX12_share 107 = .ok (.lmul, 1) := by decide +kernel
theorem dX12_share_108 : decode cX12_share 108 = .ok (.lload 6, 2) := by decide +kernel
theorem dX12_share_110 : decode cX12_share 110 = .ok (.ladd, 1) := by decide +kernel
theorem dX12_share_111 : decode cX12_share 111 = .ok (.ldc2_w 274, 3) := by decide +kernel
theorem dX12_share_114 : decode cX12_share 114 = .ok (.lrem, 1) := by decide +kernel
theorem dX12_share_115 : decode cX12_share 115 = .ok (.lstore_n 3, 1) := by decide +kernel
theorem dX12_share_116 : decode cX12_share 116 = .ok (.iinc 5 (-1), 3) := by decide +kernel
theorem dX12_share_119 : decode cX12_share 119 = .ok (.goto (-54), 3) := by decide +kernel
theorem dX12_share_122 : decode cX12_share 122 = .ok (.lload_n 3, 1) := by decide +kernel
theorem dX12_share_123 : decode cX12_share 123 = .ok (.l2i, 1) := by decide +kernel
theorem dX12_share_124 : decode cX12_share 124 = .ok (.ireturn, 1) := by decide +kernel
theorem dX12_collected_0 : decode cX12_collected 0 = .ok (.iconst 0, 1) := by decide +kernel
theorem dX12_collected_1 : decode cX12_collected 1 = .ok (.istore_n 1, 1) := by decide +kernel
theorem dX12_collected_2 : decode cX12_collected 2 = .ok (.iconst 1, 1) := by decide +kernel
theorem dX12_collected_3 : decode cX12_collected 3 = .ok (.istore_n 2, 1) := by decide +kernel
theorem dX12_collected_4 : decode cX12_collected 4 = .ok (.iload_n 2, 1) := by decide +kernel
theorem dX12_collected_5 : decode cX12_collected 5 = .ok (.bipush 8, 2) := by decide +kernel
theorem dX12_collected_7 : decode cX12_collected 7 = .ok (.if_icmp .gt 26, 3) := by decide +kernel
theorem dX12_collected_10 : decode cX12_collected 10 = .ok (.iload_n 1, 1) := by decide +kernel
theorem dX12_collected_11 : decode cX12_collected 11 = .ok (.aload_n 0, 1) := by decide +kernel
theorem dX12_collected_12 : decode cX12_collected 12 = .ok (.getfield 103, 3) := by decide +kernel
theorem dX12_collected_15 : decode cX12_collected 15 = .ok (.iload_n 2, 1) := by decide +kernel
theorem dX12_collected_16 : decode cX12_collected 16 = .ok (.iaload, 1) := by decide +kernel
theorem dX12_collected_17 : decode cX12_collected 17 = .ok (.ifCond .lt 7, 3) := by decide +kernel
theorem dX12_collected_20 : decode cX12_collected 20 = .ok (.iconst 1, 1) := by decide +kernel
theorem dX12_collected_21 : decode cX12_collected 21 = .ok (.goto 4, 3) := by decide +kernel
theorem dX12_collected_24 : decode cX12_collected 24 = .ok (.iconst 0, 1) := by decide +kernel
theorem dX12_collected_25 : decode cX12_collected 25 = .ok (.iadd, 1) := by decide +kernel
theorem dX12_collected_26 : decode cX12_collected 26 = .ok (.istore_n 1, 1) := by decide +kernel
theorem dX12_collected_27 : decode cX12_collected 27 = .ok (.iinc 2 1, 3) := by decide +kernel
theorem dX12_collected_30 : decode cX12_collected 30 = .ok (.goto (-26), 3) := by decide +kernel
theorem dX12_collected_33 : decode cX12_collected 33 = .ok (.iload_n 1, 1) := by decide +kernel
theorem dX12_collected_34 : decode cX12_collected 34 = .ok (.ireturn, 1) := by decide +kernel
theorem dX12_collect_0 : decode cX12_collect 0 = .ok (.aload_n 0, 1) := by decide +kernel
theorem dX12_collect_1 : decode cX12_collect 1 = .ok (.iload_n 1, 1) := by decide +kernel
theorem dX12_collect_2 : decode cX12_collect 2 = .ok (.iconst 1, 1) := by decide +kernel
theorem dX12_collect_3 : decode cX12_collect 3 = .ok (.bipush 8, 2) := by decide +kernel
theorem dX12_collect_5 : decode cX12_collect 5 = .ok (.invokestatic 124, 3) := by decide +kernel
theorem dX12_collect_8 : decode cX12_collect 8 = .ok (.ifCond .eq 18, 3) := by decide +kernel
theorem dX12_collect_11 : decode cX12_collect 11 = .ok (.iload_n 2, 1) := by decide +kernel
theorem dX12_collect_12 : decode cX12_collect 12 = .ok (.iconst 0, 1) := by decide +kernel
theorem dX12_collect_13 : decode cX12_collect 13 = .ok (.ldc_w 276, 3) := by decide +kernel
theorem dX12_collect_16 : decode cX12_collect 16 = .ok (.invokestatic 124, 3) := by decide +kernel
theorem dX12_collect_19 : decode cX12_collect 19 = .ok (.ifCond .eq 7, 3) := by decide +kernel
theorem dX12_collect_22 : decode cX12_collect 22 = .ok (.iconst 0, 1) := by decide +kernel
theorem dX12_collect_23 : decode cX12_collect 23 = .ok (.goto 4, 3) := by decide +kernel
theorem dX12_collect_26 : decode cX12_collect 26 = .ok (.iconst 1, 1) := by decide +kernel
theorem dX12_collect_27 : decode cX12_collect 27 = .ok (.invokevirtual 134, 3) := by decide +kernel
theorem dX12_collect_30 : decode cX12_collect 30 = .ok (.ifCond .eq 5, 3) := by decide +kernel
theorem dX12_collect_33 : decode cX12_collect 33 = .ok (.iconst 0, 1) := by decide +kernel
theorem dX12_collect_34 : decode cX12_collect 34 = .ok (.ireturn, 1) := by decide +kernel
theorem dX12_collect_35 : decode cX12_collect 35 = .ok (.aload_n 0, 1) := by decide +kernel
theorem dX12_collect_36 : decode cX12_collect 36 = .ok (.getfield 103, 3) := by decide +kernel
theorem dX12_collect_39 : decode cX12_collect 39 = .ok (.iload_n 1, 1) := by decide +kernel
theorem dX12_collect_40 : decode cX12_collect 40 = .ok (.iload_n 2, 1) := by decide +kernel
theorem dX12_collect_41 : decode cX12_collect 41 = .ok (.iastore, 1) := by decide +kernel
theorem dX12_collect_42 : decode cX12_collect 42 = .ok (.aload_n 0, 1) := by decide +kernel
theorem dX12_collect_43 : decode cX12_collect 43 = .ok (.invokevirtual 277, 3) := by decide +kernel
theorem dX12_collect_46 : decode cX12_collect 46 = .ok (.ireturn, 1) := by decide +kernel
theorem dX12_power_0 : decode cX12_power 0 = .ok (.lconst 1, 1) := by decide +kernel
theorem dX12_power_1 : decode cX12_power 1 = .ok (.lstore_n 3, 1) := by decide +kernel
theorem dX12_power_2 : decode cX12_power 2 = .ok (.lload_n 0, 1) := by decide +kernel
theorem dX12_power_3 : decode cX12_power 3 = .ok (.lstore 5, 2) := by decide +kernel
theorem dX12_power_5 : decode cX12_power 5 = .ok (.iload_n 2, 1) := by decide +kernel
theorem dX12_power_6 : decode cX12_power 6 = .ok (.istore 7, 2) := by decide +kernel
theorem dX12_power_8 : decode cX12_power 8 = .ok (.iload 7, 2) := by decide +kernel
theorem dX12_power_10 : decode cX12_power 10 = .ok (.ifCond .le 44, 3) := by decide +kernel
theorem dX12_power_13 : decode cX12_power 13 = .ok (.iload 7, 2) := by decide +kernel
theorem dX12_power_15 : decode cX12_power 15 = .ok (.iconst 2, 1) := by decide +kernel
theorem dX12_power_16 : decode cX12_power 16 = .ok (.irem, 1) := by decide +kernel
theorem dX12_power_17 : decode cX12_power 17 = .ok (.iconst 1, 1) := by decide +kernel
theorem dX12_power_18 : decode cX12_power 18 = .ok (.if_icmp .ne 14, 3) := by decide +kernel
theorem dX12_power_21 : decode cX12_power 21 = .ok (.lload_n 3, 1) := by decide +kernel
theorem dX12_power_22 : decode cX12_power 22 = .ok (.lload 5, 2) := by decide +kernel
theorem dX12_power_24 : decode cX12_power 24 = .ok (.lmul, 1) := by decide +kernel
theorem dX12_power_25 : decode cX12_power 25 = .ok (.ldc2_w 274, 3) := by decide +kernel
theorem dX12_power_28 : decode cX12_power 28 = .ok (.lrem, 1) := by decide +kernel
theorem dX12_power_29 : decode cX12_power 29 = .ok (.goto 4, 3) := by decide +kernel
theorem dX12_power_32 : decode cX12_power 32 = .ok (.lload_n 3, 1) := by decide +kernel
theorem dX12_power_33 : decode cX12_power 33 = .ok (.lstore_n 3, 1) := by decide +kernel
theorem dX12_power_34 : decode cX12_power 34 = .ok (.lload 5, 2) := by decide +kernel
theorem dX12_power_36 : decode cX12_power 36 = .ok (.lload 5, 2) := by decide +kernel
theorem dX12_power_38 : decode cX12_power 38 = .ok (.lmul, 1) := by decide +kernel
theorem dX12_power_39 : decode cX12_power 39 = .ok (.ldc2_w 274, 3) := by decide +kernel
theorem dX12_power_42 : decode cX12_power 42 = .ok (.lrem, 1) := by decide +kernel
theorem dX12_power_43 : decode cX12_power 43 = .ok (.lstore 5, 2) := by decide +kernel
theorem dX12_power_45 : decode cX12_power 45 = .ok (.iload 7, 2) := by decide +kernel
theorem dX12_power_47 : decode cX12_power 47 = .ok (.iconst 2, 1) := by decide +kernel
theorem dX12_power_48 : decode cX12_power 48 = .ok (.idiv, 1) := by decide +kernel
theorem dX12_power_49 : decode cX12_power 49 = .ok (.istore 7, 2) := by decide +kernel
theorem dX12_power_51 : decode cX12_power 51 = .ok (.goto (-43), 3) := by decide +kernel
theorem dX12_power_54 : decode cX12_power 54 = .ok (.lload_n 3, 1) := by decide +kernel
theorem dX12_power_55 : decode cX12_power 55 = .ok (.lreturn, 1) := by decide +kernel
theorem dX12_recovered_0 : decode cX12_recovered 0 = .ok (.aload_n 0, 1) := by decide +kernel
theorem dX12_recovered_1 : decode cX12_recovered 1 = .ok (.aload_n 0, 1) := by decide +kernel
theorem dX12_recovered_2 : decode cX12_recovered 2 = .ok (.invokevirtual 277, 3) := by decide +kernel
theorem dX12_recovered_5 : decode cX12_recovered 5 = .ok (.ifCond .le 7, 3) := by decide +kernel
theorem dX12_recovered_8 : decode cX12_recovered 8 = .ok (.iconst 0, 1) := by decide +kernel
theorem dX12_recovered_9 : decode cX12_recovered 9 = .ok (.goto 4, 3) := by decide +kernel
theorem dX12_recovered_12 : decode cX12_recovered 12 = .ok (.iconst 1, 1) := by decide +kernel
theorem dX12_recovered_13 : decode cX12_recovered 13 = .ok (.invokevirtual 134, 3) := by decide +kernel
theorem dX12_recovered_16 : decode cX12_recovered 16 = .ok (.ifCond .eq 5, 3) := by decide +kernel
theorem dX12_recovered_19 : decode cX12_recovered 19 = .ok (.iconst 0, 1) := by decide +kernel
theorem dX12_recovered_20 : decode cX12_recovered 20 = .ok (.ireturn, 1) := by decide +kernel
theorem dX12_recovered_21 : decode cX12_recovered 21 = .ok (.lconst 0, 1) := by decide +kernel
theorem dX12_recovered_22 : decode cX12_recovered 22 = .ok (.lstore_n 1, 1) := by decide +kernel
theorem dX12_recovered_23 : decode cX12_recovered 23 = .ok (.iconst 1, 1) := by decide +kernel
theorem dX12_recovered_24 : decode cX12_recovered 24 = .ok (.istore_n 3, 1) := by decide +kernel
theorem dX12_recovered_25 : decode cX12_recovered 25 = .ok (.iload_n 3, 1) := by decide +kernel
theorem dX12_recovered_26 : decode cX12_recovered 26 = .ok (.bipush 8, 2) := by decide +kernel
theorem dX12_recovered_28 : decode cX12_recovered 28 = .ok (.if_icmp .gt 116, 3) := by decide +kernel
theorem dX12_recovered_31 : decode cX12_recovered 31 = .ok (.aload_n 0, 1) := by decide +kernel
theorem dX12_recovered_32 : decode cX12_recovered 32 = .ok (.getfield 103, 3) := by decide +kernel
theorem dX12_recovered_35 : decode cX12_recovered 35 = .ok (.iload_n 3, 1) := by decide +kernel
theorem dX12_recovered_36 : decode cX12_recovered 36 = .ok (.iaload, 1) := by decide +kernel
theorem dX12_recovered_37 : decode cX12_recovered 37 = .ok (.ifCond .ge 6, 3) := by decide +kernel
theorem dX12_recovered_40 : decode cX12_recovered 40 = .ok (.goto 98, 3) := by decide +kernel
theorem dX12_recovered_43 : decode cX12_recovered 43 = .ok (.aload_n 0, 1) := by decide +kernel
theorem dX12_recovered_44 : decode cX12_recovered 44 = .ok (.getfield 103, 3) := by decide +kernel
theorem dX12_recovered_47 : decode cX12_recovered 47 = .ok (.iload_n 3, 1) := by decide +kernel
theorem dX12_recovered_48 : decode cX12_recovered 48 = .ok (.iaload, 1) := by decide +kernel
theorem dX12_recovered_49 : decode cX12_recovered 49 = .ok (.i2l, 1) := by decide +kernel
theorem dX12_recovered_50 : decode cX12_recovered 50 = .ok (.lstore 4, 2) := by decide +kernel
theorem dX12_recovered_52 : decode cX12_recovered 52 = .ok (.lconst 1, 1) := by decide +kernel
theorem dX12_recovered_53 : decode cX12_recovered 53 = .ok (.lstore 6, 2) := by decide +kernel
theorem dX12_recovered_55 : decode cX12_recovered 55 = .ok (.iconst 1, 1) := by decide +kernel
theorem dX12_recovered_56 : decode cX12_recovered 56 = .ok (.istore 8, 2) := by decide +kernel
theorem dX12_recovered_58 : decode cX12_recovered 58 = .ok (.iload 8, 2) := by decide +kernel
theorem dX12_recovered_60 : decode cX12_recovered 60 = .ok (.bipush 8, 2) := by decide +kernel
theorem dX12_recovered_62 : decode cX12_recovered 62 = .ok (.if_icmp .gt 58, 3) := by decide +kernel
theorem dX12_recovered_65 : decode cX12_recovered 65 = .ok (.iload 8, 2) := by decide +kernel
theorem dX12_recovered_67 : decode cX12_recovered 67 = .ok (.iload_n 3, 1) := by decide +kernel
theorem dX12_recovered_68 : decode cX12_recovered 68 = .ok (.if_icmp .eq 46, 3) := by decide +kernel
theorem dX12_recovered_71 : decode cX12_recovered 71 = .ok (.aload_n 0, 1) := by decide +kernel
theorem dX12_recovered_72 : decode cX12_recovered 72 = .ok (.getfield 103, 3) := by decide +kernel
theorem dX12_recovered_75 : decode cX12_recovered 75 = .ok (.iload 8, 2) := by decide +kernel
theorem dX12_recovered_77 : decode cX12_recovered 77 = .ok (.iaload, 1) := by decide +kernel
theorem dX12_recovered_78 : decode cX12_recovered 78 = .ok (.ifCond .ge 6, 3) := by decide +kernel
theorem dX12_recovered_81 : decode cX12_recovered 81 = .ok (.goto 33, 3) := by decide +kernel
theorem dX12_recovered_84 : decode cX12_recovered 84 = .ok (.lload 4, 2) := by decide +kernel
theorem dX12_recovered_86 : decode cX12_recovered 86 = .ok (.iload 8, 2) := by decide +kernel
theorem dX12_recovered_88 : decode cX12_recovered 88 = .ok (.i2l, 1) := by decide +kernel
theorem dX12_recovered_89 : decode cX12_recovered 89 = .ok (.lmul, 1) := by decide +kernel
theorem dX12_recovered_90 : decode cX12_recovered 90 = .ok (.ldc2_w 274, 3) := by decide +kernel
theorem dX12_recovered_93 : decode cX12_recovered 93 = .ok (.lrem, 1) := by decide +kernel
theorem dX12_recovered_94 : decode cX12_recovered 94 = .ok (.lstore 4, 2) := by decide +kernel
theorem dX12_recovered_96 : decode cX12_recovered 96 = .ok (.lload 6, 2) := by decide +kernel
theorem dX12_recovered_98 : decode cX12_recovered 98 = .ok (.ldc_w 268, 3) := by decide +kernel
theorem dX12_recovered_101 : decode cX12_recovered 101 = .ok (.iload 8, 2) := by decide +kernel
theorem dX12_recovered_103 : decode cX12_recovered 103 = .ok (.iadd, 1) := by decide +kernel
theorem dX12_recovered_104 : decode cX12_recovered 104 = .ok (.iload_n 3, 1) := by decide +kernel
theorem dX12_recovered_105 : decode cX12_recovered 105 = .ok (.isub, 1) := by decide +kernel
theorem dX12_recovered_106 : decode cX12_recovered 106 = .ok (.i2l, 1) := by decide +kernel
theorem dX12_recovered_107 : decode cX12_recovered 107 = .ok (.lmul, 1) := by decide +kernel
theorem dX12_recovered_108 : decode cX12_recovered 108 = .ok (.ldc2_w 274, 3) := by decide +kernel
theorem dX12_recovered_111 : decode cX12_recovered 111 = .ok (.lrem, 1) := by decide +kernel
theorem dX12_recovered_112 : decode cX12_recovered 112 = .ok (.lstore 6, 2) := by decide +kernel
theorem dX12_recovered_114 : decode cX12_recovered 114 = .ok (.iinc 8 1, 3) := by decide +kernel
theorem dX12_recovered_117 : decode cX12_recovered 117 = .ok (.goto (-59), 3) := by decide +kernel
theorem dX12_recovered_120 : decode cX12_recovered 120 = .ok (.lload_n 1, 1) := by decide +kernel
theorem dX12_recovered_121 : decode cX12_recovered 121 = .ok (.lload 4, 2) := by decide +kernel
theorem dX12_recovered_123 : decode cX12_recovered 123 = .ok (.lload 6, 2) := by decide +kernel
theorem dX12_recovered_125 : decode cX12_recovered 125 = .ok (.ldc_w 281, 3) := by decide +kernel
theorem dX12_recovered_128 : decode cX12_recovered 128 = .ok (.invokestatic 282, 3) := by decide +kernel
theorem dX12_recovered_131 : decode cX12_recovered 131 = .ok (.lmul, 1) := by decide +kernel
theorem dX12_recovered_132 : decode cX12_recovered 132 = .ok (.ldc2_w 274, 3) := by decide +kernel
theorem dX12_recovered_135 : decode cX12_recovered 135 = .ok (.lrem, 1) := by decide +kernel
theorem dX12_recovered_136 : decode cX12_recovered 136 = .ok (.ladd, 1) := by decide +kernel
theorem dX12_recovered_137 : decode cX12_recovered 137 = .ok (.lstore_n 1, 1) := by decide +kernel
theorem dX12_recovered_138 : decode cX12_recovered 138 = .ok (.iinc 3 1, 3) := by decide +kernel
theorem dX12_recovered_141 : decode cX12_recovered 141 = .ok (.goto (-116), 3) := by decide +kernel
theorem dX12_recovered_144 : decode cX12_recovered 144 = .ok (.lload_n 1, 1) := by decide +kernel
theorem dX12_recovered_145 : decode cX12_recovered 145 = .ok (.ldc2_w 274, 3) := by decide +kernel
theorem dX12_recovered_148 : decode cX12_recovered 148 = .ok (.lrem, 1) := by decide +kernel
theorem dX12_recovered_149 : decode cX12_recovered 149 = .ok (.l2i, 1) := by decide +kernel
theorem dX12_recovered_150 : decode cX12_recovered 150 = .ok (.ireturn, 1) := by decide +kernel
theorem dX12_drop_0 : decode cX12_drop 0 = .ok (.aload_n 0, 1) := by decide +kernel
theorem dX12_drop_1 : decode cX12_drop 1 = .ok (.iconst 0, 1) := by decide +kernel
theorem dX12_drop_2 : decode cX12_drop 2 = .ok (.putfield 1, 3) := by decide +kernel
theorem dX12_drop_5 : decode cX12_drop 5 = .ok (.aload_n 0, 1) := by decide +kernel
theorem dX12_drop_6 : decode cX12_drop 6 = .ok (.invokevirtual 277, 3) := by decide +kernel
theorem dX12_drop_9 : decode cX12_drop 9 = .ok (.istore_n 1, 1) := by decide +kernel
theorem dX12_drop_10 : decode cX12_drop 10 = .ok (.iconst 1, 1) := by decide +kernel
theorem dX12_drop_11 : decode cX12_drop 11 = .ok (.istore_n 2, 1) := by decide +kernel
theorem dX12_drop_12 : decode cX12_drop 12 = .ok (.iload_n 2, 1) := by decide +kernel
theorem dX12_drop_13 : decode cX12_drop 13 = .ok (.bipush 8, 2) := by decide +kernel
theorem dX12_drop_15 : decode cX12_drop 15 = .ok (.if_icmp .gt 16, 3) := by decide +kernel
theorem dX12_drop_18 : decode cX12_drop 18 = .ok (.aload_n 0, 1) := by decide +kernel
theorem dX12_drop_19 : decode cX12_drop 19 = .ok (.getfield 103, 3) := by decide +kernel
theorem dX12_drop_22 : decode cX12_drop 22 = .ok (.iload_n 2, 1) := by decide +kernel
theorem dX12_drop_23 : decode cX12_drop 23 = .ok (.iconst (-1), 1) := by decide +kernel
theorem dX12_drop_24 : decode cX12_drop 24 = .ok (.iastore, 1) := by decide +kernel
theorem dX12_drop_25 : decode cX12_drop 25 = .ok (.iinc 2 1, 3) := by decide +kernel
theorem dX12_drop_28 : decode cX12_drop 28 = .ok (.goto (-16), 3) := by decide +kernel
theorem dX12_drop_31 : decode cX12_drop 31 = .ok (.iload_n 1, 1) := by decide +kernel
theorem dX12_drop_32 : decode cX12_drop 32 = .ok (.ireturn, 1) := by decide +kernel
theorem dX12_goAway_0 : decode cX12_goAway 0 = .ok (.aload_n 0, 1) := by decide +kernel
theorem dX12_goAway_1 : decode cX12_goAway 1 = .ok (.aload_n 0, 1) := by decide +kernel
theorem dX12_goAway_2 : decode cX12_goAway 2 = .ok (.iload_n 1, 1) := by decide +kernel
theorem dX12_goAway_3 : decode cX12_goAway 3 = .ok (.invokevirtual 138, 3) := by decide +kernel
theorem dX12_goAway_6 : decode cX12_goAway 6 = .ok (.ifCond .ne 7, 3) := by decide +kernel
theorem dX12_goAway_9 : decode cX12_goAway 9 = .ok (.iconst 1, 1) := by decide +kernel
theorem dX12_goAway_10 : decode cX12_goAway 10 = .ok (.goto 17, 3) := by decide +kernel
theorem dX12_goAway_13 : decode cX12_goAway 13 = .ok (.aload_n 0, 1) := by decide +kernel
theorem dX12_goAway_14 : decode cX12_goAway 14 = .ok (.getfield 38, 3) := by decide +kernel
theorem dX12_goAway_17 : decode cX12_goAway 17 = .ok (.iload_n 1, 1) := by decide +kernel
theorem dX12_goAway_18 : decode cX12_goAway 18 = .ok (.baload, 1) := by decide +kernel
theorem dX12_goAway_19 : decode cX12_goAway 19 = .ok (.ifCond .eq 7, 3) := by decide +kernel
theorem dX12_goAway_22 : decode cX12_goAway 22 = .ok (.iconst 2, 1) := by decide +kernel
theorem dX12_goAway_23 : decode cX12_goAway 23 = .ok (.goto 4, 3) := by decide +kernel
theorem dX12_goAway_26 : decode cX12_goAway 26 = .ok (.iconst 0, 1) := by decide +kernel
theorem dX12_goAway_27 : decode cX12_goAway 27 = .ok (.invokevirtual 134, 3) := by decide +kernel
theorem dX12_goAway_30 : decode cX12_goAway 30 = .ok (.ifCond .eq 5, 3) := by decide +kernel
theorem dX12_goAway_33 : decode cX12_goAway 33 = .ok (.iconst 0, 1) := by decide +kernel
theorem dX12_goAway_34 : decode cX12_goAway 34 = .ok (.ireturn, 1) := by decide +kernel
theorem dX12_goAway_35 : decode cX12_goAway 35 = .ok (.aload_n 0, 1) := by decide +kernel
theorem dX12_goAway_36 : decode cX12_goAway 36 = .ok (.getfield 38, 3) := by decide +kernel
theorem dX12_goAway_39 : decode cX12_goAway 39 = .ok (.iload_n 1, 1) := by decide +kernel
theorem dX12_goAway_40 : decode cX12_goAway 40 = .ok (.iconst 1, 1) := by decide +kernel
theorem dX12_goAway_41 : decode cX12_goAway 41 = .ok (.bastore, 1) := by decide +kernel
theorem dX12_goAway_42 : decode cX12_goAway 42 = .ok (.iconst 0, 1) := by decide +kernel
theorem dX12_goAway_43 : decode cX12_goAway 43 = .ok (.istore_n 2, 1) := by decide +kernel
theorem dX12_goAway_44 : decode cX12_goAway 44 = .ok (.iconst 0, 1) := by decide +kernel
theorem dX12_goAway_45 : decode cX12_goAway 45 = .ok (.istore_n 3, 1) := by decide +kernel
theorem dX12_goAway_46 : decode cX12_goAway 46 = .ok (.iload_n 3, 1) := by decide +kernel
theorem dX12_goAway_47 : decode cX12_goAway 47 = .ok (.aload_n 0, 1) := by decide +kernel
theorem dX12_goAway_48 : decode cX12_goAway 48 = .ok (.getfield 121, 3) := by decide +kernel
theorem dX12_goAway_51 : decode cX12_goAway 51 = .ok (.if_icmp .ge 26, 3) := by decide +kernel
theorem dX12_goAway_54 : decode cX12_goAway 54 = .ok (.iload_n 2, 1) := by decide +kernel
theorem dX12_goAway_55 : decode cX12_goAway 55 = .ok (.aload_n 0, 1) := by decide +kernel
theorem dX12_goAway_56 : decode cX12_goAway 56 = .ok (.getfield 38, 3) := by decide +kernel
theorem dX12_goAway_59 : decode cX12_goAway 59 = .ok (.iload_n 3, 1) := by decide +kernel
theorem dX12_goAway_60 : decode cX12_goAway 60 = .ok (.baload, 1) := by decide +kernel
theorem dX12_goAway_61 : decode cX12_goAway 61 = .ok (.ifCond .eq 7, 3) := by decide +kernel
theorem dX12_goAway_64 : decode cX12_goAway 64 = .ok (.iconst 1, 1) := by decide +kernel
theorem dX12_goAway_65 : decode cX12_goAway 65 = .ok (.goto 4, 3) := by decide +kernel
theorem dX12_goAway_68 : decode cX12_goAway 68 = .ok (.iconst 0, 1) := by decide +kernel
theorem dX12_goAway_69 : decode cX12_goAway 69 = .ok (.iadd, 1) := by decide +kernel
theorem dX12_goAway_70 : decode cX12_goAway 70 = .ok (.istore_n 2, 1) := by decide +kernel
theorem dX12_goAway_71 : decode cX12_goAway 71 = .ok (.iinc 3 1, 3) := by decide +kernel
theorem dX12_goAway_74 : decode cX12_goAway 74 = .ok (.goto (-28), 3) := by decide +kernel
theorem dX12_goAway_77 : decode cX12_goAway 77 = .ok (.iload_n 2, 1) := by decide +kernel
theorem dX12_goAway_78 : decode cX12_goAway 78 = .ok (.ireturn, 1) := by decide +kernel
theorem dX12_draft_0 : decode cX12_draft 0 = .ok (.aload_n 0, 1) := by decide +kernel
theorem dX12_draft_1 : decode cX12_draft 1 = .ok (.aload_n 0, 1) := by decide +kernel
theorem dX12_draft_2 : decode cX12_draft 2 = .ok (.iload_n 1, 1) := by decide +kernel
theorem dX12_draft_3 : decode cX12_draft 3 = .ok (.invokevirtual 138, 3) := by decide +kernel
theorem dX12_draft_6 : decode cX12_draft 6 = .ok (.ifCond .eq 11, 3) := by decide +kernel
theorem dX12_draft_9 : decode cX12_draft 9 = .ok (.aload_n 0, 1) := by decide +kernel
theorem dX12_draft_10 : decode cX12_draft 10 = .ok (.iload_n 2, 1) := by decide +kernel
theorem dX12_draft_11 : decode cX12_draft 11 = .ok (.invokevirtual 185, 3) := by decide +kernel
theorem dX12_draft_14 : decode cX12_draft 14 = .ok (.ifCond .ne 7, 3) := by decide +kernel
theorem dX12_draft_17 : decode cX12_draft 17 = .ok (.iconst 1, 1) := by decide +kernel
theorem dX12_draft_18 : decode cX12_draft 18 = .ok (.goto 15, 3) := by decide +kernel
theorem dX12_draft_21 : decode cX12_draft 21 = .ok (.iload_n 3, 1) := by decide +kernel
theorem dX12_draft_22 : decode cX12_draft 22 = .ok (.invokestatic 188, 3) := by decide +kernel
theorem dX12_draft_25 : decode cX12_draft 25 = .ok (.ifCond .ne 7, 3) := by decide +kernel
theorem dX12_draft_28 : decode cX12_draft 28 = .ok (.iconst 2, 1) := by decide +kernel
theorem dX12_draft_29 : decode cX12_draft 29 = .ok (.goto 4, 3) := by decide +kernel
theorem dX12_draft_32 : decode cX12_draft 32 = .ok (.iconst 0, 1) := by decide +kernel
theorem dX12_draft_33 : decode cX12_draft 33 = .ok (.invokevirtual 134, 3) := by decide +kernel
theorem dX12_draft_36 : decode cX12_draft 36 = .ok (.ifCond .eq 5, 3) := by decide +kernel
theorem dX12_draft_39 : decode cX12_draft 39 = .ok (.iconst 0, 1) := by decide +kernel
theorem dX12_draft_40 : decode cX12_draft 40 = .ok (.ireturn, 1) := by decide +kernel
theorem dX12_draft_41 : decode cX12_draft 41 = .ok (.aload_n 0, 1) := by decide +kernel
theorem dX12_draft_42 : decode cX12_draft 42 = .ok (.getfield 115, 3) := by decide +kernel
theorem dX12_draft_45 : decode cX12_draft 45 = .ok (.iload_n 1, 1) := by decide +kernel
theorem dX12_draft_46 : decode cX12_draft 46 = .ok (.iaload, 1) := by decide +kernel
theorem dX12_draft_47 : decode cX12_draft 47 = .ok (.istore 5, 2) := by decide +kernel
theorem dX12_draft_49 : decode cX12_draft 49 = .ok (.iconst 0, 1) := by decide +kernel
theorem dX12_draft_50 : decode cX12_draft 50 = .ok (.istore 6, 2) := by decide +kernel
theorem dX12_draft_52 : decode cX12_draft 52 = .ok (.iload 6, 2) := by decide +kernel
theorem dX12_draft_54 : decode cX12_draft 54 = .ok (.aload_n 0, 1) := by decide +kernel
theorem dX12_draft_55 : decode cX12_draft 55 = .ok (.getfield 115, 3) := by decide +kernel
theorem dX12_draft_58 : decode cX12_draft 58 = .ok (.iload_n 1, 1) := by decide +kernel
theorem dX12_draft_59 : decode cX12_draft 59 = .ok (.iaload, 1) := by decide +kernel
theorem dX12_draft_60 : decode cX12_draft 60 = .ok (.if_icmp .ge 36, 3) := by decide +kernel
theorem dX12_draft_63 : decode cX12_draft 63 = .ok (.aload_n 0, 1) := by decide +kernel
theorem dX12_draft_64 : decode cX12_draft 64 = .ok (.getfield 106, 3) := by decide +kernel
theorem dX12_draft_67 : decode cX12_draft 67 = .ok (.iload_n 1, 1) := by decide +kernel
theorem dX12_draft_68 : decode cX12_draft 68 = .ok (.aaload, 1) := by decide +kernel
theorem dX12_draft_69 : decode cX12_draft 69 = .ok (.iload 6, 2) := by decide +kernel
theorem dX12_draft_71 : decode cX12_draft 71 = .ok (.iaload, 1) := by decide +kernel
theorem dX12_draft_72 : decode cX12_draft 72 = .ok (.bipush 8, 2) := by decide +kernel
theorem dX12_draft_74 : decode cX12_draft 74 = .ok (.iload_n 2, 1) := by decide +kernel
theorem dX12_draft_75 : decode cX12_draft 75 = .ok (.imul, 1) := by decide +kernel
theorem dX12_draft_76 : decode cX12_draft 76 = .ok (.iload_n 3, 1) := by decide +kernel
theorem dX12_draft_77 : decode cX12_draft 77 = .ok (.iadd, 1) := by decide +kernel
theorem dX12_draft_78 : decode cX12_draft 78 = .ok (.if_icmp .ne 8, 3) := by decide +kernel
theorem dX12_draft_81 : decode cX12_draft 81 = .ok (.iload 6, 2) := by decide +kernel
theorem dX12_draft_83 : decode cX12_draft 83 = .ok (.goto 5, 3) := by decide +kernel
theorem dX12_draft_86 : decode cX12_draft 86 = .ok (.iload 5, 2) := by decide +kernel
theorem dX12_draft_88 : decode cX12_draft 88 = .ok (.istore 5, 2) := by decide +kernel
theorem dX12_draft_90 : decode cX12_draft 90 = .ok (.iinc 6 1, 3) := by decide +kernel
theorem dX12_draft_93 : decode cX12_draft 93 = .ok (.goto (-41), 3) := by decide +kernel
theorem dX12_draft_96 : decode cX12_draft 96 = .ok (.iload 5, 2) := by decide +kernel
theorem dX12_draft_98 : decode cX12_draft 98 = .ok (.aload_n 0, 1) := by decide +kernel
theorem dX12_draft_99 : decode cX12_draft 99 = .ok (.getfield 115, 3) := by decide +kernel
theorem dX12_draft_102 : decode cX12_draft 102 = .ok (.iload_n 1, 1) := by decide +kernel
theorem dX12_draft_103 : decode cX12_draft 103 = .ok (.iaload, 1) := by decide +kernel
theorem dX12_draft_104 : decode cX12_draft 104 = .ok (.if_icmp .ne 7, 3) := by decide +kernel
theorem dX12_draft_107 : decode cX12_draft 107 = .ok (.iconst 1, 1) := by decide +kernel
theorem dX12_draft_108 : decode cX12_draft 108 = .ok (.goto 4, 3) := by decide +kernel
theorem dX12_draft_111 : decode cX12_draft 111 = .ok (.iconst 0, 1) := by decide +kernel
theorem dX12_draft_112 : decode cX12_draft 112 = .ok (.istore 6, 2) := by decide +kernel
theorem dX12_draft_114 : decode cX12_draft 114 = .ok (.aload_n 0, 1) := by decide +kernel
theorem dX12_draft_115 : decode cX12_draft 115 = .ok (.aload_n 0, 1) := by decide +kernel
theorem dX12_draft_116 : decode cX12_draft 116 = .ok (.getfield 38, 3) := by decide +kernel
theorem dX12_draft_119 : decode cX12_draft 119 = .ok (.iload_n 1, 1) := by decide +kernel
theorem dX12_draft_120 : decode cX12_draft 120 = .ok (.baload, 1) := by decide +kernel
theorem dX12_draft_121 : decode cX12_draft 121 = .ok (.ifCond .eq 15, 3) := by decide +kernel
theorem dX12_draft_124 : decode cX12_draft 124 = .ok (.iload 6, 2) := by decide +kernel
theorem dX12_draft_126 : decode cX12_draft 126 = .ok (.ifCond .eq 14, 3) := by decide +kernel
theorem dX12_draft_129 : decode cX12_draft 129 = .ok (.iload 5, 2) := by decide +kernel
theorem dX12_draft_131 : decode cX12_draft 131 = .ok (.bipush 10, 2) := by decide +kernel
theorem dX12_draft_133 : decode cX12_draft 133 = .ok (.if_icmp .ne 7, 3) := by decide +kernel
theorem dX12_draft_136 : decode cX12_draft 136 = .ok (.iconst 3, 1) := by decide +kernel
theorem dX12_draft_137 : decode cX12_draft 137 = .ok (.goto 4, 3) := by decide +kernel
theorem dX12_draft_140 : decode cX12_draft 140 = .ok (.iconst 0, 1) := by decide +kernel
theorem dX12_draft_141 : decode cX12_draft 141 = .ok (.invokevirtual 134, 3) := by decide +kernel
theorem dX12_draft_144 : decode cX12_draft 144 = .ok (.ifCond .eq 5, 3) := by decide +kernel
theorem dX12_draft_147 : decode cX12_draft 147 = .ok (.iconst 0, 1) := by decide +kernel
theorem dX12_draft_148 : decode cX12_draft 148 = .ok (.ireturn, 1) := by decide +kernel
theorem dX12_draft_149 : decode cX12_draft 149 = .ok (.iload 6, 2) := by decide +kernel
theorem dX12_draft_151 : decode cX12_draft 151 = .ok (.ifCond .eq 8, 3) := by decide +kernel
theorem dX12_draft_154 : decode cX12_draft 154 = .ok (.iload 5, 2) := by decide +kernel
theorem dX12_draft_156 : decode cX12_draft 156 = .ok (.goto 11, 3) := by decide +kernel
theorem dX12_draft_159 : decode cX12_draft 159 = .ok (.aload_n 0, 1) := by decide +kernel
theorem dX12_draft_160 : decode cX12_draft 160 = .ok (.getfield 115, 3) := by decide +kernel
theorem dX12_draft_163 : decode cX12_draft 163 = .ok (.iload_n 1, 1) := by decide +kernel
theorem dX12_draft_164 : decode cX12_draft 164 = .ok (.iaload, 1) := by decide +kernel
theorem dX12_draft_165 : decode cX12_draft 165 = .ok (.iconst 1, 1) := by decide +kernel
theorem dX12_draft_166 : decode cX12_draft 166 = .ok (.isub, 1) := by decide +kernel
theorem dX12_draft_167 : decode cX12_draft 167 = .ok (.istore 7, 2) := by decide +kernel
theorem dX12_draft_169 : decode cX12_draft 169 = .ok (.iload 5, 2) := by decide +kernel
theorem dX12_draft_171 : decode cX12_draft 171 = .ok (.istore 8, 2) := by decide +kernel
theorem dX12_draft_173 : decode cX12_draft 173 = .ok (.iload 8, 2) := by decide +kernel
theorem dX12_draft_175 : decode cX12_draft 175 = .ok (.iload 7, 2) := by decide +kernel
theorem dX12_draft_177 : decode cX12_draft 177 = .ok (.if_icmp .ge 69, 3) := by decide +kernel
theorem dX12_draft_180 : decode cX12_draft 180 = .ok (.aload_n 0, 1) := by decide +kernel
theorem dX12_draft_181 : decode cX12_draft 181 = .ok (.getfield 106, 3) := by decide +kernel
theorem dX12_draft_184 : decode cX12_draft 184 = .ok (.iload_n 1, 1) := by decide +kernel
theorem dX12_draft_185 : decode cX12_draft 185 = .ok (.aaload, 1) := by decide +kernel
theorem dX12_draft_186 : decode cX12_draft 186 = .ok (.iload 8, 2) := by decide +kernel
theorem dX12_draft_188 : decode cX12_draft 188 = .ok (.aload_n 0, 1) := by decide +kernel
theorem dX12_draft_189 : decode cX12_draft 189 = .ok (.getfield 106, 3) := by decide +kernel
theorem dX12_draft_192 : decode cX12_draft 192 = .ok (.iload_n 1, 1) := by decide +kernel
theorem dX12_draft_193 : decode cX12_draft 193 = .ok (.aaload, 1) := by decide +kernel
theorem dX12_draft_194 : decode cX12_draft 194 = .ok (.iload 8, 2) := by decide +kernel
theorem dX12_draft_196 : decode cX12_draft 196 = .ok (.iconst 1, 1) := by decide +kernel
theorem dX12_draft_197 : decode cX12_draft 197 = .ok (.iadd, 1) := by decide +kernel
theorem dX12_draft_198 : decode cX12_draft 198 = .ok (.iaload, 1) := by decide +kernel
theorem dX12_draft_199 : decode cX12_draft 199 = .ok (.iastore, 1) := by decide +kernel
theorem dX12_draft_200 : decode cX12_draft 200 = .ok (.aload_n 0, 1) := by decide +kernel
theorem dX12_draft_201 : decode cX12_draft 201 = .ok (.getfield 109, 3) := by decide +kernel
theorem dX12_draft_204 : decode cX12_draft 204 = .ok (.iload_n 1, 1) := by decide +kernel
theorem dX12_draft_205 : decode cX12_draft 205 = .ok (.aaload, 1) := by decide +kernel
theorem dX12_draft_206 : decode cX12_draft 206 = .ok (.iload 8, 2) := by decide +kernel
theorem dX12_draft_208 : decode cX12_draft 208 = .ok (.aload_n 0, 1) := by decide +kernel
theorem dX12_draft_209 : decode cX12_draft 209 = .ok (.getfield 109, 3) := by decide +kernel
theorem dX12_draft_212 : decode cX12_draft 212 = .ok (.iload_n 1, 1) := by decide +kernel
theorem dX12_draft_213 : decode cX12_draft 213 = .ok (.aaload, 1) := by decide +kernel
theorem dX12_draft_214 : decode cX12_draft 214 = .ok (.iload 8, 2) := by decide +kernel
theorem dX12_draft_216 : decode cX12_draft 216 = .ok (.iconst 1, 1) := by decide +kernel
theorem dX12_draft_217 : decode cX12_draft 217 = .ok (.iadd, 1) := by decide +kernel
theorem dX12_draft_218 : decode cX12_draft 218 = .ok (.iaload, 1) := by decide +kernel
theorem dX12_draft_219 : decode cX12_draft 219 = .ok (.iastore, 1) := by decide +kernel
theorem dX12_draft_220 : decode cX12_draft 220 = .ok (.aload_n 0, 1) := by decide +kernel
theorem dX12_draft_221 : decode cX12_draft 221 = .ok (.getfield 112, 3) := by decide +kernel
theorem dX12_draft_224 : decode cX12_draft 224 = .ok (.iload_n 1, 1) := by decide +kernel
theorem dX12_draft_225 : decode cX12_draft 225 = .ok (.aaload, 1) := by decide +kernel
theorem dX12_draft_226 : decode cX12_draft 226 = .ok (.iload 8, 2) := by decide +kernel
theorem dX12_draft_228 : decode cX12_draft 228 = .ok (.aload_n 0, 1) := by decide +kernel
theorem dX12_draft_229 : decode cX12_draft 229 = .ok (.getfield 112, 3) := by decide +kernel
theorem dX12_draft_232 : decode cX12_draft 232 = .ok (.iload_n 1, 1) := by decide +kernel
theorem dX12_draft_233 : decode cX12_draft 233 = .ok (.aaload, 1) := by decide +kernel
theorem dX12_draft_234 : decode cX12_draft 234 = .ok (.iload 8, 2) := by decide +kernel
theorem dX12_draft_236 : decode cX12_draft 236 = .ok (.iconst 1, 1) := by decide +kernel
theorem dX12_draft_237 : decode cX12_draft 237 = .ok (.iadd, 1) := by decide +kernel
theorem dX12_draft_238 : decode cX12_draft 238 = .ok (.iaload, 1) := by decide +kernel
theorem dX12_draft_239 : decode cX12_draft 239 = .ok (.iastore, 1) := by decide +kernel
theorem dX12_draft_240 : decode cX12_draft 240 = .ok (.iinc 8 1, 3) := by decide +kernel
theorem dX12_draft_243 : decode cX12_draft 243 = .ok (.goto (-70), 3) := by decide +kernel
theorem dX12_draft_246 : decode cX12_draft 246 = .ok (.aload_n 0, 1) := by decide +kernel
theorem dX12_draft_247 : decode cX12_draft 247 = .ok (.getfield 106, 3) := by decide +kernel
theorem dX12_draft_250 : decode cX12_draft 250 = .ok (.iload_n 1, 1) := by decide +kernel
theorem dX12_draft_251 : decode cX12_draft 251 = .ok (.aaload, 1) := by decide +kernel
theorem dX12_draft_252 : decode cX12_draft 252 = .ok (.iload 7, 2) := by decide +kernel
theorem dX12_draft_254 : decode cX12_draft 254 = .ok (.bipush 8, 2) := by decide +kernel
theorem dX12_draft_256 : decode cX12_draft 256 = .ok (.iload_n 2, 1) := by decide +kernel
theorem dX12_draft_257 : decode cX12_draft 257 = .ok (.imul, 1) := by decide +kernel
theorem dX12_draft_258 : decode cX12_draft 258 = .ok (.iload_n 3, 1) := by decide +kernel
theorem dX12_draft_259 : decode cX12_draft 259 = .ok (.iadd, 1) := by decide +kernel
theorem dX12_draft_260 : decode cX12_draft 260 = .ok (.iastore, 1) := by decide +kernel
theorem dX12_draft_261 : decode cX12_draft 261 = .ok (.aload_n 0, 1) := by decide +kernel
theorem dX12_draft_262 : decode cX12_draft 262 = .ok (.getfield 109, 3) := by decide +kernel
theorem dX12_draft_265 : decode cX12_draft 265 = .ok (.iload_n 1, 1) := by decide +kernel
theorem dX12_draft_266 : decode cX12_draft 266 = .ok (.aaload, 1) := by decide +kernel
theorem dX12_draft_267 : decode cX12_draft 267 = .ok (.iload 7, 2) := by decide +kernel
theorem dX12_draft_269 : decode cX12_draft 269 = .ok (.iload 4, 2) := by decide +kernel
theorem dX12_draft_271 : decode cX12_draft 271 = .ok (.iastore, 1) := by decide +kernel
theorem dX12_draft_272 : decode cX12_draft 272 = .ok (.aload_n 0, 1) := by decide +kernel
theorem dX12_draft_273 : decode cX12_draft 273 = .ok (.getfield 112, 3) := by decide +kernel
theorem dX12_draft_276 : decode cX12_draft 276 = .ok (.iload_n 1, 1) := by decide +kernel
theorem dX12_draft_277 : decode cX12_draft 277 = .ok (.aaload, 1) := by decide +kernel
theorem dX12_draft_278 : decode cX12_draft 278 = .ok (.iload 7, 2) := by decide +kernel
theorem dX12_draft_280 : decode cX12_draft 280 = .ok (.aload_n 0, 1) := by decide +kernel
theorem dX12_draft_281 : decode cX12_draft 281 = .ok (.getfield 76, 3) := by decide +kernel
theorem dX12_draft_284 : decode cX12_draft 284 = .ok (.iload_n 2, 1) := by decide +kernel
theorem dX12_draft_285 : decode cX12_draft 285 = .ok (.aaload, 1) := by decide +kernel
theorem dX12_draft_286 : decode cX12_draft 286 = .ok (.iload_n 3, 1) := by decide +kernel
theorem dX12_draft_287 : decode cX12_draft 287 = .ok (.iaload, 1) := by decide +kernel
theorem dX12_draft_288 : decode cX12_draft 288 = .ok (.iastore, 1) := by decide +kernel
theorem dX12_draft_289 : decode cX12_draft 289 = .ok (.aload_n 0, 1) := by decide +kernel
theorem dX12_draft_290 : decode cX12_draft 290 = .ok (.getfield 115, 3) := by decide +kernel
theorem dX12_draft_293 : decode cX12_draft 293 = .ok (.iload_n 1, 1) := by decide +kernel
theorem dX12_draft_294 : decode cX12_draft 294 = .ok (.iload 7, 2) := by decide +kernel
theorem dX12_draft_296 : decode cX12_draft 296 = .ok (.iconst 1, 1) := by decide +kernel
theorem dX12_draft_297 : decode cX12_draft 297 = .ok (.iadd, 1) := by decide +kernel
theorem dX12_draft_298 : decode cX12_draft 298 = .ok (.iastore, 1) := by decide +kernel
theorem dX12_draft_299 : decode cX12_draft 299 = .ok (.aload_n 0, 1) := by decide +kernel
theorem dX12_draft_300 : decode cX12_draft 300 = .ok (.getfield 115, 3) := by decide +kernel
theorem dX12_draft_303 : decode cX12_draft 303 = .ok (.iload_n 1, 1) := by decide +kernel
theorem dX12_draft_304 : decode cX12_draft 304 = .ok (.iaload, 1) := by decide +kernel
theorem dX12_draft_305 : decode cX12_draft 305 = .ok (.ireturn, 1) := by decide +kernel
theorem dX12_comeBack_0 : decode cX12_comeBack 0 = .ok (.aload_n 0, 1) := by decide +kernel
theorem dX12_comeBack_1 : decode cX12_comeBack 1 = .ok (.aload_n 0, 1) := by decide +kernel
theorem dX12_comeBack_2 : decode cX12_comeBack 2 = .ok (.iload_n 1, 1) := by decide +kernel
theorem dX12_comeBack_3 : decode cX12_comeBack 3 = .ok (.invokevirtual 138, 3) := by decide +kernel
theorem dX12_comeBack_6 : decode cX12_comeBack 6 = .ok (.ifCond .ne 7, 3) := by decide +kernel
theorem dX12_comeBack_9 : decode cX12_comeBack 9 = .ok (.iconst 1, 1) := by decide +kernel
theorem dX12_comeBack_10 : decode cX12_comeBack 10 = .ok (.goto 17, 3) := by decide +kernel
theorem dX12_comeBack_13 : decode cX12_comeBack 13 = .ok (.aload_n 0, 1) := by decide +kernel
theorem dX12_comeBack_14 : decode cX12_comeBack 14 = .ok (.getfield 38, 3) := by decide +kernel
theorem dX12_comeBack_17 : decode cX12_comeBack 17 = .ok (.iload_n 1, 1) := by decide +kernel
theorem dX12_comeBack_18 : decode cX12_comeBack 18 = .ok (.baload, 1) := by decide +kernel
theorem dX12_comeBack_19 : decode cX12_comeBack 19 = .ok (.ifCond .eq 7, 3) := by decide +kernel
theorem dX12_comeBack_22 : decode cX12_comeBack 22 = .ok (.iconst 0, 1) := by decide +kernel
theorem dX12_comeBack_23 : decode cX12_comeBack 23 = .ok (.goto 4, 3) := by decide +kernel
theorem dX12_comeBack_26 : decode cX12_comeBack 26 = .ok (.iconst 2, 1) := by decide +kernel
theorem dX12_comeBack_27 : decode cX12_comeBack 27 = .ok (.invokevirtual 134, 3) := by decide +kernel
theorem dX12_comeBack_30 : decode cX12_comeBack 30 = .ok (.ifCond .eq 5, 3) := by decide +kernel
theorem dX12_comeBack_33 : decode cX12_comeBack 33 = .ok (.iconst 0, 1) := by decide +kernel
theorem dX12_comeBack_34 : decode cX12_comeBack 34 = .ok (.ireturn, 1) := by decide +kernel
theorem dX12_comeBack_35 : decode cX12_comeBack 35 = .ok (.aload_n 0, 1) := by decide +kernel
theorem dX12_comeBack_36 : decode cX12_comeBack 36 = .ok (.getfield 38, 3) := by decide +kernel
theorem dX12_comeBack_39 : decode cX12_comeBack 39 = .ok (.iload_n 1, 1) := by decide +kernel
theorem dX12_comeBack_40 : decode cX12_comeBack 40 = .ok (.iconst 0, 1) := by decide +kernel
theorem dX12_comeBack_41 : decode cX12_comeBack 41 = .ok (.bastore, 1) := by decide +kernel
theorem dX12_comeBack_42 : decode cX12_comeBack 42 = .ok (.aload_n 0, 1) := by decide +kernel
theorem dX12_comeBack_43 : decode cX12_comeBack 43 = .ok (.iconst 0, 1) := by decide +kernel
theorem dX12_comeBack_44 : decode cX12_comeBack 44 = .ok (.putfield 286, 3) := by decide +kernel
theorem dX12_comeBack_47 : decode cX12_comeBack 47 = .ok (.iconst 0, 1) := by decide +kernel
theorem dX12_comeBack_48 : decode cX12_comeBack 48 = .ok (.istore_n 2, 1) := by decide +kernel
theorem dX12_comeBack_49 : decode cX12_comeBack 49 = .ok (.iconst 0, 1) := by decide +kernel
theorem dX12_comeBack_50 : decode cX12_comeBack 50 = .ok (.istore_n 3, 1) := by decide +kernel
theorem dX12_comeBack_51 : decode cX12_comeBack 51 = .ok (.iload_n 3, 1) := by decide +kernel
theorem dX12_comeBack_52 : decode cX12_comeBack 52 = .ok (.aload_n 0, 1) := by decide +kernel
theorem dX12_comeBack_53 : decode cX12_comeBack 53 = .ok (.getfield 115, 3) := by decide +kernel
theorem dX12_comeBack_56 : decode cX12_comeBack 56 = .ok (.iload_n 1, 1) := by decide +kernel
theorem dX12_comeBack_57 : decode cX12_comeBack 57 = .ok (.iaload, 1) := by decide +kernel
theorem dX12_comeBack_58 : decode cX12_comeBack 58 = .ok (.if_icmp .ge 118, 3) := by decide +kernel
theorem dX12_comeBack_61 : decode cX12_comeBack 61 = .ok (.aload_n 0, 1) := by decide +kernel
theorem dX12_comeBack_62 : decode cX12_comeBack 62 = .ok (.getfield 106, 3) := by decide +kernel
theorem dX12_comeBack_65 : decode cX12_comeBack 65 = .ok (.iload_n 1, 1) := by decide +kernel
theorem dX12_comeBack_66 : decode cX12_comeBack 66 = .ok (.aaload, 1) := by decide +kernel
theorem dX12_comeBack_67 : decode cX12_comeBack 67 = .ok (.iload_n 3, 1) := by decide +kernel
theorem dX12_comeBack_68 : decode cX12_comeBack 68 = .ok (.iaload, 1) := by decide +kernel
theorem dX12_comeBack_69 : decode cX12_comeBack 69 = .ok (.bipush 8, 2) := by decide +kernel
theorem dX12_comeBack_71 : decode cX12_comeBack 71 = .ok (.idiv, 1) := by decide +kernel
theorem dX12_comeBack_72 : decode cX12_comeBack 72 = .ok (.istore 4, 2) := by decide +kernel
theorem dX12_comeBack_74 : decode cX12_comeBack 74 = .ok (.aload_n 0, 1) := by decide +kernel
theorem dX12_comeBack_75 : decode cX12_comeBack 75 = .ok (.getfield 106, 3) := by decide +kernel
theorem dX12_comeBack_78 : decode cX12_comeBack 78 = .ok (.iload_n 1, 1) := by decide +kernel
theorem dX12_comeBack_79 : decode cX12_comeBack 79 = .ok (.aaload, 1) := by decide +kernel
theorem dX12_comeBack_80 : decode cX12_comeBack 80 = .ok (.iload_n 3, 1) := by decide +kernel
theorem dX12_comeBack_81 : decode cX12_comeBack 81 = .ok (.iaload, 1) := by decide +kernel
theorem dX12_comeBack_82 : decode cX12_comeBack 82 = .ok (.bipush 8, 2) := by decide +kernel
theorem dX12_comeBack_84 : decode cX12_comeBack 84 = .ok (.irem, 1) := by decide +kernel
theorem dX12_comeBack_85 : decode cX12_comeBack 85 = .ok (.istore 5, 2) := by decide +kernel
theorem dX12_comeBack_87 : decode cX12_comeBack 87 = .ok (.aload_n 0, 1) := by decide +kernel
theorem dX12_comeBack_88 : decode cX12_comeBack 88 = .ok (.iload_n 1, 1) := by decide +kernel
theorem dX12_comeBack_89 : decode cX12_comeBack 89 = .ok (.iload 4, 2) := by decide +kernel
theorem dX12_comeBack_91 : decode cX12_comeBack 91 = .ok (.iload 5, 2) := by decide +kernel
theorem dX12_comeBack_93 : decode cX12_comeBack 93 = .ok (.invokevirtual 191, 3) := by decide +kernel
theorem dX12_comeBack_96 : decode cX12_comeBack 96 = .ok (.ifCond .ne 47, 3) := by decide +kernel
theorem dX12_comeBack_99 : decode cX12_comeBack 99 = .ok (.aload_n 0, 1) := by decide +kernel
theorem dX12_comeBack_100 : decode cX12_comeBack 100 = .ok (.getfield 76, 3) := by decide +kernel
theorem dX12_comeBack_103 : decode cX12_comeBack 103 = .ok (.iload 4, 2) := by decide +kernel
theorem dX12_comeBack_105 : decode cX12_comeBack 105 = .ok (.aaload, 1) := by decide +kernel
theorem dX12_comeBack_106 : decode cX12_comeBack 106 = .ok (.iload 5, 2) := by decide +kernel
theorem dX12_comeBack_108 : decode cX12_comeBack 108 = .ok (.iaload, 1) := by decide +kernel
theorem dX12_comeBack_109 : decode cX12_comeBack 109 = .ok (.aload_n 0, 1) := by decide +kernel
theorem dX12_comeBack_110 : decode cX12_comeBack 110 = .ok (.getfield 112, 3) := by decide +kernel
theorem dX12_comeBack_113 : decode cX12_comeBack 113 = .ok (.iload_n 1, 1) := by decide +kernel
theorem dX12_comeBack_114 : decode cX12_comeBack 114 = .ok (.aaload, 1) := by decide +kernel
theorem dX12_comeBack_115 : decode cX12_comeBack 115 = .ok (.iload_n 3, 1) := by decide +kernel
theorem dX12_comeBack_116 : decode cX12_comeBack 116 = .ok (.iaload, 1) := by decide +kernel
theorem dX12_comeBack_117 : decode cX12_comeBack 117 = .ok (.if_icmp .ne 26, 3) := by decide +kernel
theorem dX12_comeBack_120 : decode cX12_comeBack 120 = .ok (.aload_n 0, 1) := by decide +kernel
theorem dX12_comeBack_121 : decode cX12_comeBack 121 = .ok (.iload 4, 2) := by decide +kernel
theorem dX12_comeBack_123 : decode cX12_comeBack 123 = .ok (.iload 5, 2) := by decide +kernel
theorem dX12_comeBack_125 : decode cX12_comeBack 125 = .ok (.aload_n 0, 1) := by decide +kernel
theorem dX12_comeBack_126 : decode cX12_comeBack 126 = .ok (.getfield 109, 3) := by decide +kernel
theorem dX12_comeBack_129 : decode cX12_comeBack 129 = .ok (.iload_n 1, 1) := by decide +kernel
theorem dX12_comeBack_130 : decode cX12_comeBack 130 = .ok (.aaload, 1) := by decide +kernel
theorem dX12_comeBack_131 : decode cX12_comeBack 131 = .ok (.iload_n 3, 1) := by decide +kernel
theorem dX12_comeBack_132 : decode cX12_comeBack 132 = .ok (.iaload, 1) := by decide +kernel
theorem dX12_comeBack_133 : decode cX12_comeBack 133 = .ok (.invokevirtual 194, 3) := by decide +kernel
theorem dX12_comeBack_136 : decode cX12_comeBack 136 = .ok (.pop, 1) := by decide +kernel
theorem dX12_comeBack_137 : decode cX12_comeBack 137 = .ok (.iinc 2 1, 3) := by decide +kernel
theorem dX12_comeBack_140 : decode cX12_comeBack 140 = .ok (.goto 30, 3) := by decide +kernel
theorem dX12_comeBack_143 : decode cX12_comeBack 143 = .ok (.aload_n 0, 1) := by decide +kernel
theorem dX12_comeBack_144 : decode cX12_comeBack 144 = .ok (.getfield 118, 3) := by decide +kernel
theorem dX12_comeBack_147 : decode cX12_comeBack 147 = .ok (.aload_n 0, 1) := by decide +kernel
theorem dX12_comeBack_148 : decode cX12_comeBack 148 = .ok (.getfield 286, 3) := by decide +kernel
theorem dX12_comeBack_151 : decode cX12_comeBack 151 = .ok (.aload_n 0, 1) := by decide +kernel
theorem dX12_comeBack_152 : decode cX12_comeBack 152 = .ok (.getfield 106, 3) := by decide +kernel
theorem dX12_comeBack_155 : decode cX12_comeBack 155 = .ok (.iload_n 1, 1) := by decide +kernel
theorem dX12_comeBack_156 : decode cX12_comeBack 156 = .ok (.aaload, 1) := by decide +kernel
theorem dX12_comeBack_157 : decode cX12_comeBack 157 = .ok (.iload_n 3, 1) := by decide +kernel
theorem dX12_comeBack_158 : decode cX12_comeBack 158 = .ok (.iaload, 1) := by decide +kernel
theorem dX12_comeBack_159 : decode cX12_comeBack 159 = .ok (.iastore, 1) := by decide +kernel
theorem dX12_comeBack_160 : decode cX12_comeBack 160 = .ok (.aload_n 0, 1) := by decide +kernel
theorem dX12_comeBack_161 : decode cX12_comeBack 161 = .ok (.dup, 1) := by decide +kernel
theorem dX12_comeBack_162 : decode cX12_comeBack 162 = .ok (.getfield 286, 3) := by decide +kernel
theorem dX12_comeBack_165 : decode cX12_comeBack 165 = .ok (.iconst 1, 1) := by decide +kernel
theorem dX12_comeBack_166 : decode cX12_comeBack 166 = .ok (.iadd, 1) := by decide +kernel
theorem dX12_comeBack_167 : decode cX12_comeBack 167 = .ok (.putfield 286, 3) := by decide +kernel
theorem dX12_comeBack_170 : decode cX12_comeBack 170 = .ok (.iinc 3 1, 3) := by decide +kernel
theorem dX12_comeBack_173 : decode cX12_comeBack 173 = .ok (.goto (-122), 3) := by decide +kernel
theorem dX12_comeBack_176 : decode cX12_comeBack 176 = .ok (.aload_n 0, 1) := by decide +kernel
theorem dX12_comeBack_177 : decode cX12_comeBack 177 = .ok (.getfield 115, 3) := by decide +kernel
theorem dX12_comeBack_180 : decode cX12_comeBack 180 = .ok (.iload_n 1, 1) := by decide +kernel
theorem dX12_comeBack_181 : decode cX12_comeBack 181 = .ok (.iconst 0, 1) := by decide +kernel
theorem dX12_comeBack_182 : decode cX12_comeBack 182 = .ok (.iastore, 1) := by decide +kernel
theorem dX12_comeBack_183 : decode cX12_comeBack 183 = .ok (.iload_n 2, 1) := by decide +kernel
theorem dX12_comeBack_184 : decode cX12_comeBack 184 = .ok (.ireturn, 1) := by decide +kernel
theorem dX12_conflicts_0 : decode cX12_conflicts 0 = .ok (.aload_n 0, 1) := by decide +kernel
theorem dX12_conflicts_1 : decode cX12_conflicts 1 = .ok (.iconst 0, 1) := by decide +kernel
theorem dX12_conflicts_2 : decode cX12_conflicts 2 = .ok (.putfield 1, 3) := by decide +kernel
theorem dX12_conflicts_5 : decode cX12_conflicts 5 = .ok (.aload_n 0, 1) := by decide +kernel
theorem dX12_conflicts_6 : decode cX12_conflicts 6 = .ok (.getfield 286, 3) := by decide +kernel
theorem dX12_conflicts_9 : decode cX12_conflicts 9 = .ok (.ireturn, 1) := by decide +kernel
theorem dX12_conflictAt_0 : decode cX12_conflictAt 0 = .ok (.aload_n 0, 1) := by decide +kernel
theorem dX12_conflictAt_1 : decode cX12_conflictAt 1 = .ok (.iload_n 1, 1) := by decide +kernel
theorem dX12_conflictAt_2 : decode cX12_conflictAt 2 = .ok (.iconst 0, 1) := by decide +kernel
theorem dX12_conflictAt_3 : decode cX12_conflictAt 3 = .ok (.aload_n 0, 1) := by decide +kernel
theorem dX12_conflictAt_4 : decode cX12_conflictAt 4 = .ok (.getfield 286, 3) := by decide +kernel
theorem dX12_conflictAt_7 : decode cX12_conflictAt 7 = .ok (.iconst 1, 1) := by decide +kernel
theorem dX12_conflictAt_8 : decode cX12_conflictAt 8 = .ok (.isub, 1) := by decide +kernel
theorem dX12_conflictAt_9 : decode cX12_conflictAt 9 = .ok (.invokestatic 124, 3) := by decide +kernel
theorem dX12_conflictAt_12 : decode cX12_conflictAt 12 = .ok (.ifCond .eq 7, 3) := by decide +kernel
theorem dX12_conflictAt_15 : decode cX12_conflictAt 15 = .ok (.iconst 0, 1) := by decide +kernel
theorem dX12_conflictAt_16 : decode cX12_conflictAt 16 = .ok (.goto 4, 3) := by decide +kernel
theorem dX12_conflictAt_19 : decode cX12_conflictAt 19 = .ok (.iconst 1, 1) := by decide +kernel
theorem dX12_conflictAt_20 : decode cX12_conflictAt 20 = .ok (.invokevirtual 134, 3) := by decide +kernel
theorem dX12_conflictAt_23 : decode cX12_conflictAt 23 = .ok (.ifCond .eq 7, 3) := by decide +kernel
theorem dX12_conflictAt_26 : decode cX12_conflictAt 26 = .ok (.iconst 0, 1) := by decide +kernel
theorem dX12_conflictAt_27 : decode cX12_conflictAt 27 = .ok (.goto 9, 3) := by decide +kernel
theorem dX12_conflictAt_30 : decode cX12_conflictAt 30 = .ok (.aload_n 0, 1) := by decide +kernel
theorem dX12_conflictAt_31 : decode cX12_conflictAt 31 = .ok (.getfield 118, 3) := by decide +kernel
theorem dX12_conflictAt_34 : decode cX12_conflictAt 34 = .ok (.iload_n 1, 1) := by decide +kernel
theorem dX12_conflictAt_35 : decode cX12_conflictAt 35 = .ok (.iaload, 1) := by decide +kernel
theorem dX12_conflictAt_36 : decode cX12_conflictAt 36 = .ok (.ireturn, 1) := by decide +kernel
theorem dX12_load_0 : decode cX12_load 0 = .ok (.aload_n 0, 1) := by decide +kernel
theorem dX12_load_1 : decode cX12_load 1 = .ok (.aload_n 0, 1) := by decide +kernel
theorem dX12_load_2 : decode cX12_load 2 = .ok (.iload_n 1, 1) := by decide +kernel
theorem dX12_load_3 : decode cX12_load 3 = .ok (.invokevirtual 144, 3) := by decide +kernel
theorem dX12_load_6 : decode cX12_load 6 = .ok (.ifCond .eq 7, 3) := by decide +kernel
theorem dX12_load_9 : decode cX12_load 9 = .ok (.iconst 0, 1) := by decide +kernel
theorem dX12_load_10 : decode cX12_load 10 = .ok (.goto 4, 3) := by decide +kernel
theorem dX12_load_13 : decode cX12_load 13 = .ok (.iconst 1, 1) := by decide +kernel
theorem dX12_load_14 : decode cX12_load 14 = .ok (.invokevirtual 134, 3) := by decide +kernel
theorem dX12_load_17 : decode cX12_load 17 = .ok (.ifCond .eq 7, 3) := by decide +kernel
theorem dX12_load_20 : decode cX12_load 20 = .ok (.fconst 0, 1) := by decide +kernel
theorem dX12_load_21 : decode cX12_load 21 = .ok (.goto 17, 3) := by decide +kernel
theorem dX12_load_24 : decode cX12_load 24 = .ok (.aload_n 0, 1) := by decide +kernel
theorem dX12_load_25 : decode cX12_load 25 = .ok (.iload_n 1, 1) := by decide +kernel
theorem dX12_load_26 : decode cX12_load 26 = .ok (.invokevirtual 182, 3) := by decide +kernel
theorem dX12_load_29 : decode cX12_load 29 = .ok (.i2f, 1) := by decide +kernel
theorem dX12_load_30 : decode cX12_load 30 = .ok (.aload_n 0, 1) := by decide +kernel
theorem dX12_load_31 : decode cX12_load 31 = .ok (.getfield 45, 3) := by decide +kernel
theorem dX12_load_34 : decode cX12_load 34 = .ok (.iload_n 1, 1) := by decide +kernel
theorem dX12_load_35 : decode cX12_load 35 = .ok (.iaload, 1) := by decide +kernel
theorem dX12_load_36 : decode cX12_load 36 = .ok (.i2f, 1) := by decide +kernel
theorem dX12_load_37 : decode cX12_load 37 = .ok (.fdiv, 1) := by decide +kernel
theorem dX12_load_38 : decode cX12_load 38 = .ok (.freturn, 1) := by decide +kernel
theorem dX12_loadBits_0 : decode cX12_loadBits 0 = .ok (.aload_n 0, 1) := by decide +kernel
theorem dX12_loadBits_1 : decode cX12_loadBits 1 = .ok (.iload_n 1, 1) := by decide +kernel
theorem dX12_loadBits_2 : decode cX12_loadBits 2 = .ok (.invokevirtual 289, 3) := by decide +kernel
theorem dX12_loadBits_5 : decode cX12_loadBits 5 = .ok (.fstore_n 2, 1) := by decide +kernel
theorem dX12_loadBits_6 : decode cX12_loadBits 6 = .ok (.aload_n 0, 1) := by decide +kernel
theorem dX12_loadBits_7 : decode cX12_loadBits 7 = .ok (.getfield 1, 3) := by decide +kernel
theorem dX12_loadBits_10 : decode cX12_loadBits 10 = .ok (.ifCond .le 7, 3) := by decide +kernel
theorem dX12_loadBits_13 : decode cX12_loadBits 13 = .ok (.iconst 0, 1) := by decide +kernel
theorem dX12_loadBits_14 : decode cX12_loadBits 14 = .ok (.goto 7, 3) := by decide +kernel
theorem dX12_loadBits_17 : decode cX12_loadBits 17 = .ok (.fload_n 2, 1) := by decide +kernel
theorem dX12_loadBits_18 : decode cX12_loadBits 18 = .ok (.invokestatic 293, 3) := by decide +kernel
theorem dX12_loadBits_21 : decode cX12_loadBits 21 = .ok (.ireturn, 1) := by decide +kernel
theorem dX12_meanTold_0 : decode cX12_meanTold 0 = .ok (.aload_n 0, 1) := by decide +kernel
theorem dX12_meanTold_1 : decode cX12_meanTold 1 = .ok (.aload_n 0, 1) := by decide +kernel
theorem dX12_meanTold_2 : decode cX12_meanTold 2 = .ok (.getfield 235, 3) := by decide +kernel
theorem dX12_meanTold_5 : decode cX12_meanTold 5 = .ok (.ifCond .le 7, 3) := by decide +kernel
theorem dX12_meanTold_8 : decode cX12_meanTold 8 = .ok (.iconst 0, 1) := by decide +kernel
theorem dX12_meanTold_9 : decode cX12_meanTold 9 = .ok (.goto 4, 3) := by decide +kernel
theorem dX12_meanTold_12 : decode cX12_meanTold 12 = .ok (.iconst 1, 1) := by decide +kernel
theorem dX12_meanTold_13 : decode cX12_meanTold 13 = .ok (.invokevirtual 134, 3) := by decide +kernel
theorem dX12_meanTold_16 : decode cX12_meanTold 16 = .ok (.ifCond .eq 7, 3) := by decide +kernel
theorem dX12_meanTold_19 : decode cX12_meanTold 19 = .ok (.dconst 0, 1) := by decide +kernel
theorem dX12_meanTold_20 : decode cX12_meanTold 20 = .ok (.goto 14, 3) := by decide +kernel
theorem dX12_meanTold_23 : decode cX12_meanTold 23 = .ok (.aload_n 0, 1) := by decide +kernel
theorem dX12_meanTold_24 : decode cX12_meanTold 24 = .ok (.getfield 232, 3) := by decide +kernel
theorem dX12_meanTold_27 : decode cX12_meanTold 27 = .ok (.i2d, 1) := by decide +kernel
theorem dX12_meanTold_28 : decode cX12_meanTold 28 = .ok (.aload_n 0, 1) := by decide +kernel
theorem dX12_meanTold_29 : decode cX12_meanTold 29 = .ok (.getfield 235, 3) := by decide +kernel
theorem dX12_meanTold_32 : decode cX12_meanTold 32 = .ok (.i2d, 1) := by decide +kernel
theorem dX12_meanTold_33 : decode cX12_meanTold 33 = .ok (.ddiv, 1) := by decide +kernel
theorem dX12_meanTold_34 : decode cX12_meanTold 34 = .ok (.dreturn, 1) := by decide +kernel
theorem dX12_meanToldBits_0 : decode cX12_meanToldBits 0 = .ok (.aload_n 0, 1) := by decide +kernel
theorem dX12_meanToldBits_1 : decode cX12_meanToldBits 1 = .ok (.invokevirtual 299, 3) := by decide +kernel
theorem dX12_meanToldBits_4 : decode cX12_meanToldBits 4 = .ok (.dstore_n 1, 1) := by decide +kernel
theorem dX12_meanToldBits_5 : decode cX12_meanToldBits 5 = .ok (.aload_n 0, 1) := by decide +kernel
theorem dX12_meanToldBits_6 : decode cX12_meanToldBits 6 = .ok (.getfield 1, 3) := by decide +kernel
theorem dX12_meanToldBits_9 : decode cX12_meanToldBits 9 = .ok (.ifCond .le 7, 3) := by decide +kernel
theorem dX12_meanToldBits_12 : decode cX12_meanToldBits 12 = .ok (.lconst 0, 1) := by decide +kernel
theorem dX12_meanToldBits_13 : decode cX12_meanToldBits 13 = .ok (.goto 7, 3) := by decide +kernel
theorem dX12_meanToldBits_16 : decode cX12_meanToldBits 16 = .ok (.dload_n 1, 1) := by decide +kernel
theorem dX12_meanToldBits_17 : decode cX12_meanToldBits 17 = .ok (.invokestatic 303, 3) := by decide +kernel
theorem dX12_meanToldBits_20 : decode cX12_meanToldBits 20 = .ok (.lreturn, 1) := by decide +kernel
theorem dX12_isSound_0 : decode cX12_isSound 0 = .ok (.aload_n 0, 1) := by decide +kernel
theorem dX12_isSound_1 : decode cX12_isSound 1 = .ok (.iconst 0, 1) := by decide +kernel
theorem dX12_isSound_2 : decode cX12_isSound 2 = .ok (.putfield 1, 3) := by decide +kernel
theorem dX12_isSound_5 : decode cX12_isSound 5 = .ok (.iconst 1, 1) := by decide +kernel
theorem dX12_isSound_6 : decode cX12_isSound 6 = .ok (.istore_n 1, 1) := by decide +kernel
theorem dX12_isSound_7 : decode cX12_isSound 7 = .ok (.iconst 0, 1) := by decide +kernel
theorem dX12_isSound_8 : decode cX12_isSound 8 = .ok (.istore_n 2, 1) := by decide +kernel
theorem dX12_isSound_9 : decode cX12_isSound 9 = .ok (.iload_n 2, 1) := by decide +kernel
theorem dX12_isSound_10 : decode cX12_isSound 10 = .ok (.aload_n 0, 1) := by decide +kernel
theorem dX12_isSound_11 : decode cX12_isSound 11 = .ok (.getfield 131, 3) := by decide +kernel
theorem dX12_isSound_14 : decode cX12_isSound 14 = .ok (.if_icmp .ge 111, 3) := by decide +kernel
theorem dX12_isSound_17 : decode cX12_isSound 17 = .ok (.aload_n 0, 1) := by decide +kernel
theorem dX12_isSound_18 : decode cX12_isSound 18 = .ok (.getfield 85, 3) := by decide +kernel
theorem dX12_isSound_21 : decode cX12_isSound 21 = .ok (.iload_n 2, 1) := by decide +kernel
theorem dX12_isSound_22 : decode cX12_isSound 22 = .ok (.baload, 1) := by decide +kernel
theorem dX12_isSound_23 : decode cX12_isSound 23 = .ok (.ifCond .ne 15, 3) := by decide +kernel
theorem dX12_isSound_26 : decode cX12_isSound 26 = .ok (.aload_n 0, 1) := by decide +kernel
theorem dX12_isSound_27 : decode cX12_isSound 27 = .ok (.iload_n 2, 1) := by decide +kernel
theorem dX12_isSound_28 : decode cX12_isSound 28 = .ok (.invokevirtual 158, 3) := by decide +kernel
theorem dX12_isSound_31 : decode cX12_isSound 31 = .ok (.ifCond .ne 7, 3) := by decide +kernel
theorem dX12_isSound_34 : decode cX12_isSound 34 = .ok (.iconst 1, 1) := by decide +kernel
theorem dX12_isSound_35 : decode cX12_isSound 35 = .ok (.goto 4, 3) := by decide +kernel
theorem dX12_isSound_38 : decode cX12_isSound 38 = .ok (.iconst 0, 1) := by decide +kernel
theorem dX12_isSound_39 : decode cX12_isSound 39 = .ok (.istore_n 3, 1) := by decide +kernel
theorem dX12_isSound_40 : decode cX12_isSound 40 = .ok (.iconst 0, 1) := by decide +kernel
theorem dX12_isSound_41 : decode cX12_isSound 41 = .ok (.istore 4, 2) := by decide +kernel
theorem dX12_isSound_43 : decode cX12_isSound 43 = .ok (.iload_n 3, 1) := by decide +kernel
theorem dX12_isSound_44 : decode cX12_isSound 44 = .ok (.ifCond .eq 75, 3) := by decide +kernel
theorem dX12_isSound_47 : decode cX12_isSound 47 = .ok (.iload 4, 2) := by decide +kernel
theorem dX12_isSound_49 : decode cX12_isSound 49 = .ok (.bipush 8, 2) := by decide +kernel
theorem dX12_isSound_51 : decode cX12_isSound 51 = .ok (.if_icmp .ge 68, 3) := by decide +kernel
theorem dX12_isSound_54 : decode cX12_isSound 54 = .ok (.iload_n 1, 1) := by decide +kernel
theorem dX12_isSound_55 : decode cX12_isSound 55 = .ok (.aload_n 0, 1) := by decide +kernel
theorem dX12_isSound_56 : decode cX12_isSound 56 = .ok (.getfield 76, 3) := by decide +kernel
theorem dX12_isSound_59 : decode cX12_isSound 59 = .ok (.iload_n 2, 1) := by decide +kernel
theorem dX12_isSound_60 : decode cX12_isSound 60 = .ok (.aaload, 1) := by decide +kernel
theorem dX12_isSound_61 : decode cX12_isSound 61 = .ok (.iload 4, 2) := by decide +kernel
theorem dX12_isSound_63 : decode cX12_isSound 63 = .ok (.iaload, 1) := by decide +kernel
theorem dX12_isSound_64 : decode cX12_isSound 64 = .ok (.ifCond .eq 42, 3) := by decide +kernel
theorem dX12_isSound_67 : decode cX12_isSound 67 = .ok (.aload_n 0, 1) := by decide +kernel
theorem dX12_isSound_68 : decode cX12_isSound 68 = .ok (.getfield 79, 3) := by decide +kernel
theorem dX12_isSound_71 : decode cX12_isSound 71 = .ok (.iload_n 2, 1) := by decide +kernel
theorem dX12_isSound_72 : decode cX12_isSound 72 = .ok (.aaload, 1) := by decide +kernel
theorem dX12_isSound_73 : decode cX12_isSound 73 = .ok (.iload 4, 2) := by decide +kernel
theorem dX12_isSound_75 : decode cX12_isSound 75 = .ok (.iaload, 1) := by decide +kernel
theorem dX12_isSound_76 : decode cX12_isSound 76 = .ok (.iload_n 2, 1) := by decide +kernel
theorem dX12_isSound_77 : decode cX12_isSound 77 = .ok (.aload_n 0, 1) := by decide +kernel
theorem dX12_isSound_78 : decode cX12_isSound 78 = .ok (.getfield 73, 3) := by decide +kernel
theorem dX12_isSound_81 : decode cX12_isSound 81 = .ok (.iload_n 2, 1) := by decide +kernel
theorem dX12_isSound_82 : decode cX12_isSound 82 = .ok (.aaload, 1) := by decide +kernel
theorem dX12_isSound_83 : decode cX12_isSound 83 = .ok (.iload 4, 2) := by decide +kernel
theorem dX12_isSound_85 : decode cX12_isSound 85 = .ok (.iaload, 1) := by decide +kernel
theorem dX12_isSound_86 : decode cX12_isSound 86 = .ok (.iload 4, 2) := by decide +kernel
theorem dX12_isSound_88 : decode cX12_isSound 88 = .ok (.invokestatic 175, 3) := by decide +kernel
theorem dX12_isSound_91 : decode cX12_isSound 91 = .ok (.invokestatic 204, 3) := by decide +kernel
theorem dX12_isSound_94 : decode cX12_isSound 94 = .ok (.aload_n 0, 1) := by decide +kernel
theorem dX12_isSound_95 : decode cX12_isSound 95 = .ok (.getfield 82, 3) := by decide +kernel
theorem dX12_isSound_98 : decode cX12_isSound 98 = .ok (.iload_n 2, 1) := by decide +kernel
theorem dX12_isSound_99 : decode cX12_isSound 99 = .ok (.aaload, 1) := by decide +kernel
theorem dX12_isSound_100 : decode cX12_isSound 100 = .ok (.iload 4, 2) := by decide +kernel
theorem dX12_isSound_102 : decode cX12_isSound 102 = .ok (.iaload, 1) := by decide +kernel
theorem dX12_isSound_103 : decode cX12_isSound 103 = .ok (.if_icmp .ne 7, 3) := by decide +kernel
theorem dX12_isSound_106 : decode cX12_isSound 106 = .ok (.iconst 1, 1) := by decide +kernel
theorem dX12_isSound_107 : decode cX12_isSound 107 = .ok (.goto 4, 3) := by decide +kernel
theorem dX12_isSound_110 : decode cX12_isSound 110 = .ok (.iconst 0, 1) := by decide +kernel
theorem dX12_isSound_111 : decode cX12_isSound 111 = .ok (.iand, 1) := by decide +kernel
theorem dX12_isSound_112 : decode cX12_isSound 112 = .ok (.istore_n 1, 1) := by decide +kernel
theorem dX12_isSound_113 : decode cX12_isSound 113 = .ok (.iinc 4 1, 3) := by decide +kernel
theorem dX12_isSound_116 : decode cX12_isSound 116 = .ok (.goto (-73), 3) := by decide +kernel
theorem dX12_isSound_119 : decode cX12_isSound 119 = .ok (.iinc 2 1, 3) := by decide +kernel
theorem dX12_isSound_122 : decode cX12_isSound 122 = .ok (.goto (-113), 3) := by decide +kernel
theorem dX12_isSound_125 : decode cX12_isSound 125 = .ok (.iload_n 1, 1) := by decide +kernel
theorem dX12_isSound_126 : decode cX12_isSound 126 = .ok (.ireturn, 1) := by decide +kernel
theorem dJx00060_init_a7421_0 : decode cJx00060_init_a7421 0 = .ok (.aload_n 0, 1) := by decide +kernel
theorem dJx00060_init_a7421_1 : decode cJx00060_init_a7421 1 = .ok (.aload_n 1, 1) := by decide +kernel
theorem dJx00060_init_a7421_2 : decode cJx00060_init_a7421 2 = .ok (.invokespecial 7, 3) := by decide +kernel
theorem dJx00060_init_a7421_5 : decode cJx00060_init_a7421 5 = .ok (.return_, 1) := by decide +kernel
theorem dJxe99ae_isNaN_b9ae7_0 : decode cJxe99ae_isNaN_b9ae7 0 = .ok (.dload_n 0, 1) := by decide +kernel
theorem dJxe99ae_isNaN_b9ae7_1 : decode cJxe99ae_isNaN_b9ae7 1 = .ok (.dload_n 0, 1) := by decide +kernel
theorem dJxe99ae_isNaN_b9ae7_2 : decode cJxe99ae_isNaN_b9ae7 2 = .ok (.dcmp .l, 1) := by decide +kernel
theorem dJxe99ae_isNaN_b9ae7_3 : decode cJxe99ae_isNaN_b9ae7 3 = .ok (.ifCond .eq 7, 3) := by decide +kernel
theorem dJxe99ae_isNaN_b9ae7_6 : decode cJxe99ae_isNaN_b9ae7 6 = .ok (.iconst 1, 1) := by decide +kernel
theorem dJxe99ae_isNaN_b9ae7_7 : decode cJxe99ae_isNaN_b9ae7 7 = .ok (.goto 4, 3) := by decide +kernel
theorem dJxe99ae_isNaN_b9ae7_10 : decode cJxe99ae_isNaN_b9ae7 10 = .ok (.iconst 0, 1) := by decide +kernel
theorem dJxe99ae_isNaN_b9ae7_11 : decode cJxe99ae_isNaN_b9ae7 11 = .ok (.ireturn, 1) := by decide +kernel
theorem dJxe99ae_doubleToLongBits_ccdee_0 : decode cJxe99ae_doubleToLongBits_ccdee 0 = .ok (.dload_n 0, 1) := by decide +kernel
theorem dJxe99ae_doubleToLongBits_ccdee_1 : decode cJxe99ae_doubleToLongBits_ccdee 1 = .ok (.invokestatic 122, 3) := by decide +kernel
theorem dJxe99ae_doubleToLongBits_ccdee_4 : decode cJxe99ae_doubleToLongBits_ccdee 4 = .ok (.ifCond .ne 8, 3) := by decide +kernel
theorem dJxe99ae_doubleToLongBits_ccdee_7 : decode cJxe99ae_doubleToLongBits_ccdee 7 = .ok (.dload_n 0, 1) := by decide +kernel
theorem dJxe99ae_doubleToLongBits_ccdee_8 : decode cJxe99ae_doubleToLongBits_ccdee 8 = .ok (.invokestatic 134, 3) := by decide +kernel
theorem dJxe99ae_doubleToLongBits_ccdee_11 : decode cJxe99ae_doubleToLongBits_ccdee 11 = .ok (.lreturn, 1) := by decide +kernel
theorem dJxe99ae_doubleToLongBits_ccdee_12 : decode cJxe99ae_doubleToLongBits_ccdee 12 = .ok (.ldc2_w 137, 3) := by decide +kernel
theorem dJxe99ae_doubleToLongBits_ccdee_15 : decode cJxe99ae_doubleToLongBits_ccdee 15 = .ok (.lreturn, 1) := by decide +kernel
theorem dJxf58ca_isNaN_12338_0 : decode cJxf58ca_isNaN_12338 0 = .ok (.fload_n 0, 1) := by decide +kernel
theorem dJxf58ca_isNaN_12338_1 : decode cJxf58ca_isNaN_12338 1 = .ok (.fload_n 0, 1) := by decide +kernel
theorem dJxf58ca_isNaN_12338_2 : decode cJxf58ca_isNaN_12338 2 = .ok (.fcmp .l, 1) := by decide +kernel
theorem dJxf58ca_isNaN_12338_3 : decode cJxf58ca_isNaN_12338 3 = .ok (.ifCond .eq 7, 3) := by decide +kernel
theorem dJxf58ca_isNaN_12338_6 : decode cJxf58ca_isNaN_12338 6 = .ok (.iconst 1, 1) := by decide +kernel
theorem dJxf58ca_isNaN_12338_7 : decode cJxf58ca_isNaN_12338 7 = .ok (.goto 4, 3) := by decide +kernel
theorem dJxf58ca_isNaN_12338_10 : decode cJxf58ca_isNaN_12338 10 = .ok (.iconst 0, 1) := by decide +kernel
theorem dJxf58ca_isNaN_12338_11 : decode cJxf58ca_isNaN_12338 11 = .ok (.ireturn, 1) := by decide +kernel
theorem dJxf58ca_floatToIntBits_5c35a_0 : decode cJxf58ca_floatToIntBits_5c35a 0 = .ok (.fload_n 0, 1) := by decide +kernel
theorem dJxf58ca_floatToIntBits_5c35a_1 : decode cJxf58ca_floatToIntBits_5c35a 1 = .ok (.invokestatic 59, 3) := by decide +kernel
theorem dJxf58ca_floatToIntBits_5c35a_4 : decode cJxf58ca_floatToIntBits_5c35a 4 = .ok (.ifCond .ne 8, 3) := by decide +kernel
theorem dJxf58ca_floatToIntBits_5c35a_7 : decode cJxf58ca_floatToIntBits_5c35a 7 = .ok (.fload_n 0, 1) := by decide +kernel
theorem dJxf58ca_floatToIntBits_5c35a_8 : decode cJxf58ca_floatToIntBits_5c35a 8 = .ok (.invokestatic 74, 3) := by decide +kernel
theorem dJxf58ca_floatToIntBits_5c35a_11 : decode cJxf58ca_floatToIntBits_5c35a 11 = .ok (.ireturn, 1) := by decide +kernel
theorem dJxf58ca_floatToIntBits_5c35a_12 : decode cJxf58ca_floatToIntBits_5c35a 12 = .ok (.ldc 77, 2) := by decide +kernel
theorem dJxf58ca_floatToIntBits_5c35a_14 : decode cJxf58ca_floatToIntBits_5c35a 14 = .ok (.ireturn, 1) := by decide +kernel
theorem dJ9_floorMod_7cf53_0 : decode cJ9_floorMod_7cf53 0 = .ok (.iload_n 0, 1) := by decide +kernel
theorem dJ9_floorMod_7cf53_1 : decode cJ9_floorMod_7cf53 1 = .ok (.iload_n 1, 1) := by decide +kernel
theorem dJ9_floorMod_7cf53_2 : decode cJ9_floorMod_7cf53 2 = .ok (.irem, 1) := by decide +kernel
theorem dJ9_floorMod_7cf53_3 : decode cJ9_floorMod_7cf53 3 = .ok (.istore_n 2, 1) := by decide +kernel
theorem dJ9_floorMod_7cf53_4 : decode cJ9_floorMod_7cf53 4 = .ok (.iload_n 0, 1) := by decide +kernel
theorem dJ9_floorMod_7cf53_5 : decode cJ9_floorMod_7cf53 5 = .ok (.iload_n 1, 1) := by decide +kernel
theorem dJ9_floorMod_7cf53_6 : decode cJ9_floorMod_7cf53 6 = .ok (.ixor, 1) := by decide +kernel
theorem dJ9_floorMod_7cf53_7 : decode cJ9_floorMod_7cf53 7 = .ok (.ifCond .ge 11, 3) := by decide +kernel
theorem dJ9_floorMod_7cf53_10 : decode cJ9_floorMod_7cf53 10 = .ok (.iload_n 2, 1) := by decide +kernel
theorem dJ9_floorMod_7cf53_11 : decode cJ9_floorMod_7cf53 11 = .ok (.ifCond .eq 7, 3) := by decide +kernel
theorem dJ9_floorMod_7cf53_14 : decode cJ9_floorMod_7cf53 14 = .ok (.iload_n 2, 1) := by decide +kernel
theorem dJ9_floorMod_7cf53_15 : decode cJ9_floorMod_7cf53 15 = .ok (.iload_n 1, 1) := by decide +kernel
theorem dJ9_floorMod_7cf53_16 : decode cJ9_floorMod_7cf53 16 = .ok (.iadd, 1) := by decide +kernel
theorem dJ9_floorMod_7cf53_17 : decode cJ9_floorMod_7cf53 17 = .ok (.ireturn, 1) := by decide +kernel
theorem dJ9_floorMod_7cf53_18 : decode cJ9_floorMod_7cf53 18 = .ok (.iload_n 2, 1) := by decide +kernel
theorem dJ9_floorMod_7cf53_19 : decode cJ9_floorMod_7cf53 19 = .ok (.ireturn, 1) := by decide +kernel
theorem dL_addUser_0 : decode cL_addUser 0 = .ok (.aload_n 2, 1) := by decide +kernel
theorem dL_addUser_1 : decode cL_addUser 1 = .ok (.iconst 0, 1) := by decide +kernel
theorem dL_addUser_2 : decode cL_addUser 2 = .ok (.aload_n 0, 1) := by decide +kernel
theorem dL_addUser_3 : decode cL_addUser 3 = .ok (.iload_n 1, 1) := by decide +kernel
theorem dL_addUser_4 : decode cL_addUser 4 = .ok (.invokevirtual 7, 3) := by decide +kernel
theorem dL_addUser_7 : decode cL_addUser 7 = .ok (.i2l, 1) := by decide +kernel
theorem dL_addUser_8 : decode cL_addUser 8 = .ok (.lastore, 1) := by decide +kernel
theorem dL_addUser_9 : decode cL_addUser 9 = .ok (.goto 9, 3) := by decide +kernel
theorem dL_addUser_12 : decode cL_addUser 12 = .ok (.astore_n 3, 1) := by decide +kernel
theorem dL_addUser_13 : decode cL_addUser 13 = .ok (.iconst 1, 1) := by decide +kernel
theorem dL_addUser_14 : decode cL_addUser 14 = .ok (.ireturn, 1) := by decide +kernel
theorem dL_addUser_15 : decode cL_addUser 15 = .ok (.astore_n 3, 1) := by decide +kernel
theorem dL_addUser_16 : decode cL_addUser 16 = .ok (.iconst 2, 1) := by decide +kernel
theorem dL_addUser_17 : decode cL_addUser 17 = .ok (.ireturn, 1) := by decide +kernel
theorem dL_addUser_18 : decode cL_addUser 18 = .ok (.iconst 0, 1) := by decide +kernel
theorem dL_addUser_19 : decode cL_addUser 19 = .ok (.ireturn, 1) := by decide +kernel
theorem dL_addGroup_0 : decode cL_addGroup 0 = .ok (.aload_n 3, 1) := by decide +kernel
theorem dL_addGroup_1 : decode cL_addGroup 1 = .ok (.iconst 0, 1) := by decide +kernel
theorem dL_addGroup_2 : decode cL_addGroup 2 = .ok (.aload_n 0, 1) := by decide +kernel
theorem dL_addGroup_3 : decode cL_addGroup 3 = .ok (.iload_n 1, 1) := by decide +kernel
theorem dL_addGroup_4 : decode cL_addGroup 4 = .ok (.iload_n 2, 1) := by decide +kernel
theorem dL_addGroup_5 : decode cL_addGroup 5 = .ok (.invokevirtual 17, 3) := by decide +kernel
theorem dL_addGroup_8 : decode cL_addGroup 8 = .ok (.i2l, 1) := by decide +kernel
theorem dL_addGroup_9 : decode cL_addGroup 9 = .ok (.lastore, 1) := by decide +kernel
theorem dL_addGroup_10 : decode cL_addGroup 10 = .ok (.goto 15, 3) := by decide +kernel
theorem dL_addGroup_13 : decode cL_addGroup 13 = .ok (.astore 4, 2) := by decide +kernel
theorem dL_addGroup_15 : decode cL_addGroup 15 = .ok (.iconst 1, 1) := by decide +kernel
theorem dL_addGroup_16 : decode cL_addGroup 16 = .ok (.ireturn, 1) := by decide +kernel
theorem dL_addGroup_17 : decode cL_addGroup 17 = .ok (.astore 4, 2) := by decide +kernel
theorem dL_addGroup_19 : decode cL_addGroup 19 = .ok (.iconst 2, 1) := by decide +kernel
theorem dL_addGroup_20 : decode cL_addGroup 20 = .ok (.ireturn, 1) := by decide +kernel
theorem dL_addGroup_21 : decode cL_addGroup 21 = .ok (.astore 4, 2) := by decide +kernel
theorem dL_addGroup_23 : decode cL_addGroup 23 = .ok (.iconst 3, 1) := by decide +kernel
theorem dL_addGroup_24 : decode cL_addGroup 24 = .ok (.ireturn, 1) := by decide +kernel
theorem dL_addGroup_25 : decode cL_addGroup 25 = .ok (.iconst 0, 1) := by decide +kernel
theorem dL_addGroup_26 : decode cL_addGroup 26 = .ok (.ireturn, 1) := by decide +kernel
theorem dL_join_0 : decode cL_join 0 = .ok (.aload_n 3, 1) := by decide +kernel
theorem dL_join_1 : decode cL_join 1 = .ok (.iconst 0, 1) := by decide +kernel
theorem dL_join_2 : decode cL_join 2 = .ok (.aload_n 0, 1) := by decide +kernel
theorem dL_join_3 : decode cL_join 3 = .ok (.iload_n 1, 1) := by decide +kernel
theorem dL_join_4 : decode cL_join 4 = .ok (.iload_n 2, 1) := by decide +kernel
theorem dL_join_5 : decode cL_join 5 = .ok (.invokevirtual 23, 3) := by decide +kernel
theorem dL_join_8 : decode cL_join 8 = .ok (.i2l, 1) := by decide +kernel
theorem dL_join_9 : decode cL_join 9 = .ok (.lastore, 1) := by decide +kernel
theorem dL_join_10 : decode cL_join 10 = .ok (.goto 11, 3) := by decide +kernel
theorem dL_join_13 : decode cL_join 13 = .ok (.astore 4, 2) := by decide +kernel
theorem dL_join_15 : decode cL_join 15 = .ok (.iconst 1, 1) := by decide +kernel
theorem dL_join_16 : decode cL_join 16 = .ok (.ireturn, 1) := by decide +kernel
theorem dL_join_17 : decode cL_join 17 = .ok (.astore 4, 2) := by decide +kernel
theorem dL_join_19 : decode cL_join 19 = .ok (.iconst 2, 1) := by decide +kernel
theorem dL_join_20 : decode cL_join 20 = .ok (.ireturn, 1) := by decide +kernel
theorem dL_join_21 : decode cL_join 21 = .ok (.iconst 0, 1) := by decide +kernel
theorem dL_join_22 : decode cL_join 22 = .ok (.ireturn, 1) := by decide +kernel
theorem dL_leave_0 : decode cL_leave 0 = .ok (.aload 4, 2) := by decide +kernel
theorem dL_leave_2 : decode cL_leave 2 = .ok (.iconst 0, 1) := by decide +kernel
theorem dL_leave_3 : decode cL_leave 3 = .ok (.aload_n 0, 1) := by decide +kernel
theorem dL_leave_4 : decode cL_leave 4 = .ok (.iload_n 1, 1) := by decide +kernel
theorem dL_leave_5 : decode cL_leave 5 = .ok (.iload_n 2, 1) := by decide +kernel
theorem dL_leave_6 : decode cL_leave 6 = .ok (.iload_n 3, 1) := by decide +kernel
theorem dL_leave_7 : decode cL_leave 7 = .ok (.invokevirtual 26, 3) := by decide +kernel
theorem dL_leave_10 : decode cL_leave 10 = .ok (.i2l, 1) := by decide +kernel
theorem dL_leave_11 : decode cL_leave 11 = .ok (.lastore, 1) := by decide +kernel
theorem dL_leave_12 : decode cL_leave 12 = .ok (.goto 15, 3) := by decide +kernel
theorem dL_leave_15 : decode cL_leave 15 = .ok (.astore 5, 2) := by decide +kernel
theorem dL_leave_17 : decode cL_leave 17 = .ok (.iconst 1, 1) := by decide +kernel
theorem dL_leave_18 : decode cL_leave 18 = .ok (.ireturn, 1) := by decide +kernel
theorem dL_leave_19 : decode cL_leave 19 = .ok (.astore 5, 2) := by decide +kernel
theorem dL_leave_21 : decode cL_leave 21 = .ok (.iconst 2, 1) := by decide +kernel
theorem dL_leave_22 : decode cL_leave 22 = .ok (.ireturn, 1) := by decide +kernel
theorem dL_leave_23 : decode cL_leave 23 = .ok (.astore 5, 2) := by decide +kernel
theorem dL_leave_25 : decode cL_leave 25 = .ok (.iconst 3, 1) := by decide +kernel
theorem dL_leave_26 : decode cL_leave 26 = .ok (.ireturn, 1) := by decide +kernel
theorem dL_leave_27 : decode cL_leave 27 = .ok (.iconst 0, 1) := by decide +kernel
theorem dL_leave_28 : decode cL_leave 28 = .ok (.ireturn, 1) := by decide +kernel
theorem dL_isMember_0 : decode cL_isMember 0 = .ok (.aload_n 3, 1) := by decide +kernel
theorem dL_isMember_1 : decode cL_isMember 1 = .ok (.iconst 0, 1) := by decide +kernel
theorem dL_isMember_2 : decode cL_isMember 2 = .ok (.aload_n 0, 1) := by decide +kernel
theorem dL_isMember_3 : decode cL_isMember 3 = .ok (.iload_n 1, 1) := by decide +kernel
theorem dL_isMember_4 : decode cL_isMember 4 = .ok (.iload_n 2, 1) := by decide +kernel
theorem dL_isMember_5 : decode cL_isMember 5 = .ok (.invokevirtual 30, 3) := by decide +kernel
theorem dL_isMember_8 : decode cL_isMember 8 = .ok (.ifCond .eq 7, 3) := by decide +kernel
theorem dL_isMember_11 : decode cL_isMember 11 = .ok (.lconst 1, 1) := by decide +kernel
theorem dL_isMember_12 : decode cL_isMember 12 = .ok (.goto 4, 3) := by decide +kernel
theorem dL_isMember_15 : decode cL_isMember 15 = .ok (.lconst 0, 1) := by decide +kernel
theorem dL_isMember_16 : decode cL_isMember 16 = .ok (.lastore, 1) := by decide +kernel
theorem dL_isMember_17 : decode cL_isMember 17 = .ok (.goto 7, 3) := by decide +kernel
theorem dL_isMember_20 : decode cL_isMember 20 = .ok (.astore 4, 2) := by decide +kernel
theorem dL_isMember_22 : decode cL_isMember 22 = .ok (.iconst 1, 1) := by decide +kernel
theorem dL_isMember_23 : decode cL_isMember 23 = .ok (.ireturn, 1) := by decide +kernel
theorem dL_isMember_24 : decode cL_isMember 24 = .ok (.iconst 0, 1) := by decide +kernel
theorem dL_isMember_25 : decode cL_isMember 25 = .ok (.ireturn, 1) := by decide +kernel
theorem dL_epoch_0 : decode cL_epoch 0 = .ok (.aload_n 2, 1) := by decide +kernel
theorem dL_epoch_1 : decode cL_epoch 1 = .ok (.iconst 0, 1) := by decide +kernel
theorem dL_epoch_2 : decode cL_epoch 2 = .ok (.aload_n 0, 1) := by decide +kernel
theorem dL_epoch_3 : decode cL_epoch 3 = .ok (.iload_n 1, 1) := by decide +kernel
theorem dL_epoch_4 : decode cL_epoch 4 = .ok (.invokevirtual 34, 3) := by decide +kernel
theorem dL_epoch_7 : decode cL_epoch 7 = .ok (.i2l, 1) := by decide +kernel
theorem dL_epoch_8 : decode cL_epoch 8 = .ok (.lastore, 1) := by decide +kernel
theorem dL_epoch_9 : decode cL_epoch 9 = .ok (.goto 6, 3) := by decide +kernel
theorem dL_epoch_12 : decode cL_epoch 12 = .ok (.astore_n 3, 1) := by decide +kernel
theorem dL_epoch_13 : decode cL_epoch 13 = .ok (.iconst 1, 1) := by decide +kernel
theorem dL_epoch_14 : decode cL_epoch 14 = .ok (.ireturn, 1) := by decide +kernel
theorem dL_epoch_15 : decode cL_epoch 15 = .ok (.iconst 0, 1) := by decide +kernel
theorem dL_epoch_16 : decode cL_epoch 16 = .ok (.ireturn, 1) := by decide +kernel
theorem dL_known_0 : decode cL_known 0 = .ok (.aload_n 3, 1) := by decide +kernel
theorem dL_known_1 : decode cL_known 1 = .ok (.iconst 0, 1) := by decide +kernel
theorem dL_known_2 : decode cL_known 2 = .ok (.aload_n 0, 1) := by decide +kernel
theorem dL_known_3 : decode cL_known 3 = .ok (.iload_n 1, 1) := by decide +kernel
theorem dL_known_4 : decode cL_known 4 = .ok (.iload_n 2, 1) := by decide +kernel
theorem dL_known_5 : decode cL_known 5 = .ok (.invokevirtual 37, 3) := by decide +kernel
theorem dL_known_8 : decode cL_known 8 = .ok (.i2l, 1) := by decide +kernel
theorem dL_known_9 : decode cL_known 9 = .ok (.lastore, 1) := by decide +kernel
theorem dL_known_10 : decode cL_known 10 = .ok (.goto 7, 3) := by decide +kernel
theorem dL_known_13 : decode cL_known 13 = .ok (.astore 4, 2) := by decide +kernel
theorem dL_known_15 : decode cL_known 15 = .ok (.iconst 1, 1) := by decide +kernel
theorem dL_known_16 : decode cL_known 16 = .ok (.ireturn, 1) := by decide +kernel
theorem dL_known_17 : decode cL_known 17 = .ok (.iconst 0, 1) := by decide +kernel
theorem dL_known_18 : decode cL_known 18 = .ok (.ireturn, 1) := by decide +kernel
theorem dL_addFile_0 : decode cL_addFile 0 = .ok (.aload_n 3, 1) := by decide +kernel
theorem dL_addFile_1 : decode cL_addFile 1 = .ok (.iconst 0, 1) := by decide +kernel
theorem dL_addFile_2 : decode cL_addFile 2 = .ok (.aload_n 0, 1) := by decide +kernel
theorem dL_addFile_3 : decode cL_addFile 3 = .ok (.iload_n 1, 1) := by decide +kernel
theorem dL_addFile_4 : decode cL_addFile 4 = .ok (.iload_n 2, 1) := by decide +kernel
theorem dL_addFile_5 : decode cL_addFile 5 = .ok (.invokevirtual 40, 3) := by decide +kernel
theorem dL_addFile_8 : decode cL_addFile 8 = .ok (.i2l, 1) := by decide +kernel
theorem dL_addFile_9 : decode cL_addFile 9 = .ok (.lastore, 1) := by decide +kernel
theorem dL_addFile_10 : decode cL_addFile 10 = .ok (.goto 15, 3) := by decide +kernel
theorem dL_addFile_13 : decode cL_addFile 13 = .ok (.astore 4, 2) := by decide +kernel
theorem dL_addFile_15 : decode cL_addFile 15 = .ok (.iconst 1, 1) := by decide +kernel
theorem dL_addFile_16 : decode cL_addFile 16 = .ok (.ireturn, 1) := by decide +kernel
theorem dL_addFile_17 : decode cL_addFile 17 = .ok (.astore 4, 2) := by decide +kernel
theorem dL_addFile_19 : decode cL_addFile 19 = .ok (.iconst 2, 1) := by decide +kernel
theorem dL_addFile_20 : decode cL_addFile 20 = .ok (.ireturn, 1) := by decide +kernel
theorem dL_addFile_21 : decode cL_addFile 21 = .ok (.astore 4, 2) := by decide +kernel
theorem dL_addFile_23 : decode cL_addFile 23 = .ok (.iconst 3, 1) := by decide +kernel
theorem dL_addFile_24 : decode cL_addFile 24 = .ok (.ireturn, 1) := by decide +kernel
theorem dL_addFile_25 : decode cL_addFile 25 = .ok (.iconst 0, 1) := by decide +kernel
theorem dL_addFile_26 : decode cL_addFile 26 = .ok (.ireturn, 1) := by decide +kernel
theorem dL_write_0 : decode cL_write 0 = .ok (.aload 5, 2) := by decide +kernel
theorem dL_write_2 : decode cL_write 2 = .ok (.iconst 0, 1) := by decide +kernel
theorem dL_write_3 : decode cL_write 3 = .ok (.aload_n 0, 1) := by decide +kernel
theorem dL_write_4 : decode cL_write 4 = .ok (.iload_n 1, 1) := by decide +kernel
theorem dL_write_5 : decode cL_write 5 = .ok (.iload_n 2, 1) := by decide +kernel
theorem dL_write_6 : decode cL_write 6 = .ok (.iload_n 3, 1) := by decide +kernel
theorem dL_write_7 : decode cL_write 7 = .ok (.iload 4, 2) := by decide +kernel
theorem dL_write_9 : decode cL_write 9 = .ok (.invokevirtual 45, 3) := by decide +kernel
theorem dL_write_12 : decode cL_write 12 = .ok (.i2l, 1) := by decide +kernel
theorem dL_write_13 : decode cL_write 13 = .ok (.lastore, 1) := by decide +kernel
theorem dL_write_14 : decode cL_write 14 = .ok (.goto 19, 3) := by decide +kernel
theorem dL_write_17 : decode cL_write 17 = .ok (.astore 6, 2) := by decide +kernel
theorem dL_write_19 : decode cL_write 19 = .ok (.iconst 1, 1) := by decide +kernel
theorem dL_write_20 : decode cL_write 20 = .ok (.ireturn, 1) := by decide +kernel
theorem dL_write_21 : decode cL_write 21 = .ok (.astore 6, 2) := by decide +kernel
theorem dL_write_23 : decode cL_write 23 = .ok (.iconst 2, 1) := by decide +kernel
theorem dL_write_24 : decode cL_write 24 = .ok (.ireturn, 1) := by decide +kernel
theorem dL_write_25 : decode cL_write 25 = .ok (.astore 6, 2) := by decide +kernel
theorem dL_write_27 : decode cL_write 27 = .ok (.iconst 3, 1) := by decide +kernel
theorem dL_write_28 : decode cL_write 28 = .ok (.ireturn, 1) := by decide +kernel
theorem dL_write_29 : decode cL_write 29 = .ok (.astore 6, 2) := by decide +kernel
theorem dL_write_31 : decode cL_write 31 = .ok (.iconst 4, 1) := by decide +kernel
theorem dL_write_32 : decode cL_write 32 = .ok (.ireturn, 1) := by decide +kernel
theorem dL_write_33 : decode cL_write 33 = .ok (.iconst 0, 1) := by decide +kernel
theorem dL_write_34 : decode cL_write 34 = .ok (.ireturn, 1) := by decide +kernel
theorem dL_read_0 : decode cL_read 0 = .ok (.aload 4, 2) := by decide +kernel
theorem dL_read_2 : decode cL_read 2 = .ok (.iconst 0, 1) := by decide +kernel
theorem dL_read_3 : decode cL_read 3 = .ok (.aload_n 0, 1) := by decide +kernel
theorem dL_read_4 : decode cL_read 4 = .ok (.iload_n 1, 1) := by decide +kernel
theorem dL_read_5 : decode cL_read 5 = .ok (.iload_n 2, 1) := by decide +kernel
theorem dL_read_6 : decode cL_read 6 = .ok (.iload_n 3, 1) := by decide +kernel
theorem dL_read_7 : decode cL_read 7 = .ok (.invokevirtual 49, 3) := by decide +kernel
theorem dL_read_10 : decode cL_read 10 = .ok (.i2l, 1) := by decide +kernel
theorem dL_read_11 : decode cL_read 11 = .ok (.lastore, 1) := by decide +kernel
theorem dL_read_12 : decode cL_read 12 = .ok (.goto 19, 3) := by decide +kernel
theorem dL_read_15 : decode cL_read 15 = .ok (.astore 5, 2) := by decide +kernel
theorem dL_read_17 : decode cL_read 17 = .ok (.iconst 1, 1) := by decide +kernel
theorem dL_read_18 : decode cL_read 18 = .ok (.ireturn, 1) := by decide +kernel
theorem dL_read_19 : decode cL_read 19 = .ok (.astore 5, 2) := by decide +kernel
theorem dL_read_21 : decode cL_read 21 = .ok (.iconst 2, 1) := by decide +kernel
theorem dL_read_22 : decode cL_read 22 = .ok (.ireturn, 1) := by decide +kernel
theorem dL_read_23 : decode cL_read 23 = .ok (.astore 5, 2) := by decide +kernel
theorem dL_read_25 : decode cL_read 25 = .ok (.iconst 3, 1) := by decide +kernel
theorem dL_read_26 : decode cL_read 26 = .ok (.ireturn, 1) := by decide +kernel
theorem dL_read_27 : decode cL_read 27 = .ok (.astore 5, 2) := by decide +kernel
theorem dL_read_29 : decode cL_read 29 = .ok (.iconst 4, 1) := by decide +kernel
theorem dL_read_30 : decode cL_read 30 = .ok (.ireturn, 1) := by decide +kernel
theorem dL_read_31 : decode cL_read 31 = .ok (.iconst 0, 1) := by decide +kernel
theorem dL_read_32 : decode cL_read 32 = .ok (.ireturn, 1) := by decide +kernel
theorem dL_canRead_0 : decode cL_canRead 0 = .ok (.aload 4, 2) := by decide +kernel
theorem dL_canRead_2 : decode cL_canRead 2 = .ok (.iconst 0, 1) := by decide +kernel
theorem dL_canRead_3 : decode cL_canRead 3 = .ok (.aload_n 0, 1) := by decide +kernel
theorem dL_canRead_4 : decode cL_canRead 4 = .ok (.iload_n 1, 1) := by decide +kernel
theorem dL_canRead_5 : decode cL_canRead 5 = .ok (.iload_n 2, 1) := by decide +kernel
theorem dL_canRead_6 : decode cL_canRead 6 = .ok (.iload_n 3, 1) := by decide +kernel
theorem dL_canRead_7 : decode cL_canRead 7 = .ok (.invokevirtual 53, 3) := by decide +kernel
theorem dL_canRead_10 : decode cL_canRead 10 = .ok (.ifCond .eq 7, 3) := by decide +kernel
theorem dL_canRead_13 : decode cL_canRead 13 = .ok (.lconst 1, 1) := by decide +kernel
theorem dL_canRead_14 : decode cL_canRead 14 = .ok (.goto 4, 3) := by decide +kernel
theorem dL_canRead_17 : decode cL_canRead 17 = .ok (.lconst 0, 1) := by decide +kernel
theorem dL_canRead_18 : decode cL_canRead 18 = .ok (.lastore, 1) := by decide +kernel
theorem dL_canRead_19 : decode cL_canRead 19 = .ok (.goto 11, 3) := by decide +kernel
theorem dL_canRead_22 : decode cL_canRead 22 = .ok (.astore 5, 2) := by decide +kernel
theorem dL_canRead_24 : decode cL_canRead 24 = .ok (.iconst 1, 1) := by decide +kernel
theorem dL_canRead_25 : decode cL_canRead 25 = .ok (.ireturn, 1) := by decide +kernel
theorem dL_canRead_26 : decode cL_canRead 26 = .ok (.astore 5, 2) := by decide +kernel
theorem dL_canRead_28 : decode cL_canRead 28 = .ok (.iconst 2, 1) := by decide +kernel
theorem dL_canRead_29 : decode cL_canRead 29 = .ok (.ireturn, 1) := by decide +kernel
theorem dL_canRead_30 : decode cL_canRead 30 = .ok (.iconst 0, 1) := by decide +kernel
theorem dL_canRead_31 : decode cL_canRead 31 = .ok (.ireturn, 1) := by decide +kernel
theorem dL_canReadByGrants_0 : decode cL_canReadByGrants 0 = .ok (.aload 4, 2) := by decide +kernel
theorem dL_canReadByGrants_2 : decode cL_canReadByGrants 2 = .ok (.iconst 0, 1) := by decide +kernel
theorem dL_canReadByGrants_3 : decode cL_canReadByGrants 3 = .ok (.aload_n 0, 1) := by decide +kernel
theorem dL_canReadByGrants_4 : decode cL_canReadByGrants 4 = .ok (.iload_n 1, 1) := by decide +kernel
theorem dL_canReadByGrants_5 : decode cL_canReadByGrants 5 = .ok (.iload_n 2, 1) := by decide +kernel
theorem dL_canReadByGrants_6 : decode cL_canReadByGrants 6 = .ok (.iload_n 3, 1) := by decide +kernel
theorem dL_canReadByGrants_7 : decode cL_canReadByGrants 7 = .ok (.invokevirtual 57, 3) := by decide +kernel
theorem dL_canReadByGrants_10 : decode cL_canReadByGrants 10 = .ok (.ifCond .eq 7, 3) := by decide +kernel
theorem dL_canReadByGrants_13 : decode cL_canReadByGrants 13 = .ok (.lconst 1, 1) := by decide +kernel
theorem dL_canReadByGrants_14 : decode cL_canReadByGrants 14 = .ok (.goto 4, 3) := by decide +kernel
theorem dL_canReadByGrants_17 : decode cL_canReadByGrants 17 = .ok (.lconst 0, 1) := by decide +kernel
theorem dL_canReadByGrants_18 : decode cL_canReadByGrants 18 = .ok (.lastore, 1) := by decide +kernel
theorem dL_canReadByGrants_19 : decode cL_canReadByGrants 19 = .ok (.goto 11, 3) := by decide +kernel
theorem dL_canReadByGrants_22 : decode cL_canReadByGrants 22 = .ok (.astore 5, 2) := by decide +kernel
theorem dL_canReadByGrants_24 : decode cL_canReadByGrants 24 = .ok (.iconst 1, 1) := by decide +kernel
theorem dL_canReadByGrants_25 : decode cL_canReadByGrants 25 = .ok (.ireturn, 1) := by decide +kernel
theorem dL_canReadByGrants_26 : decode cL_canReadByGrants 26 = .ok (.astore 5, 2) := by decide +kernel
theorem dL_canReadByGrants_28 : decode cL_canReadByGrants 28 = .ok (.iconst 2, 1) := by decide +kernel
theorem dL_canReadByGrants_29 : decode cL_canReadByGrants 29 = .ok (.ireturn, 1) := by decide +kernel
theorem dL_canReadByGrants_30 : decode cL_canReadByGrants 30 = .ok (.iconst 0, 1) := by decide +kernel
theorem dL_canReadByGrants_31 : decode cL_canReadByGrants 31 = .ok (.ireturn, 1) := by decide +kernel
theorem dL_cipher_0 : decode cL_cipher 0 = .ok (.aload_n 3, 1) := by decide +kernel
theorem dL_cipher_1 : decode cL_cipher 1 = .ok (.iconst 0, 1) := by decide +kernel
theorem dL_cipher_2 : decode cL_cipher 2 = .ok (.aload_n 0, 1) := by decide +kernel
theorem dL_cipher_3 : decode cL_cipher 3 = .ok (.iload_n 1, 1) := by decide +kernel
theorem dL_cipher_4 : decode cL_cipher 4 = .ok (.iload_n 2, 1) := by decide +kernel
theorem dL_cipher_5 : decode cL_cipher 5 = .ok (.invokevirtual 60, 3) := by decide +kernel
theorem dL_cipher_8 : decode cL_cipher 8 = .ok (.i2l, 1) := by decide +kernel
theorem dL_cipher_9 : decode cL_cipher 9 = .ok (.lastore, 1) := by decide +kernel
theorem dL_cipher_10 : decode cL_cipher 10 = .ok (.goto 11, 3) := by decide +kernel
theorem dL_cipher_13 : decode cL_cipher 13 = .ok (.astore 4, 2) := by decide +kernel
theorem dL_cipher_15 : decode cL_cipher 15 = .ok (.iconst 1, 1) := by decide +kernel
theorem dL_cipher_16 : decode cL_cipher 16 = .ok (.ireturn, 1) := by decide +kernel
theorem dL_cipher_17 : decode cL_cipher 17 = .ok (.astore 4, 2) := by decide +kernel
theorem dL_cipher_19 : decode cL_cipher 19 = .ok (.iconst 2, 1) := by decide +kernel
theorem dL_cipher_20 : decode cL_cipher 20 = .ok (.ireturn, 1) := by decide +kernel
theorem dL_cipher_21 : decode cL_cipher 21 = .ok (.iconst 0, 1) := by decide +kernel
theorem dL_cipher_22 : decode cL_cipher 22 = .ok (.ireturn, 1) := by decide +kernel
theorem dL_version_0 : decode cL_version 0 = .ok (.aload_n 3, 1) := by decide +kernel
theorem dL_version_1 : decode cL_version 1 = .ok (.iconst 0, 1) := by decide +kernel
theorem dL_version_2 : decode cL_version 2 = .ok (.aload_n 0, 1) := by decide +kernel
theorem dL_version_3 : decode cL_version 3 = .ok (.iload_n 1, 1) := by decide +kernel
theorem dL_version_4 : decode cL_version 4 = .ok (.iload_n 2, 1) := by decide +kernel
theorem dL_version_5 : decode cL_version 5 = .ok (.invokevirtual 63, 3) := by decide +kernel
theorem dL_version_8 : decode cL_version 8 = .ok (.i2l, 1) := by decide +kernel
theorem dL_version_9 : decode cL_version 9 = .ok (.lastore, 1) := by decide +kernel
theorem dL_version_10 : decode cL_version 10 = .ok (.goto 11, 3) := by decide +kernel
theorem dL_version_13 : decode cL_version 13 = .ok (.astore 4, 2) := by decide +kernel
theorem dL_version_15 : decode cL_version 15 = .ok (.iconst 1, 1) := by decide +kernel
theorem dL_version_16 : decode cL_version 16 = .ok (.ireturn, 1) := by decide +kernel
theorem dL_version_17 : decode cL_version 17 = .ok (.astore 4, 2) := by decide +kernel
theorem dL_version_19 : decode cL_version 19 = .ok (.iconst 2, 1) := by decide +kernel
theorem dL_version_20 : decode cL_version 20 = .ok (.ireturn, 1) := by decide +kernel
theorem dL_version_21 : decode cL_version 21 = .ok (.iconst 0, 1) := by decide +kernel
theorem dL_version_22 : decode cL_version 22 = .ok (.ireturn, 1) := by decide +kernel
theorem dL_writes_0 : decode cL_writes 0 = .ok (.aload_n 3, 1) := by decide +kernel
theorem dL_writes_1 : decode cL_writes 1 = .ok (.iconst 0, 1) := by decide +kernel
theorem dL_writes_2 : decode cL_writes 2 = .ok (.aload_n 0, 1) := by decide +kernel
theorem dL_writes_3 : decode cL_writes 3 = .ok (.iload_n 1, 1) := by decide +kernel
theorem dL_writes_4 : decode cL_writes 4 = .ok (.iload_n 2, 1) := by decide +kernel
theorem dL_writes_5 : decode cL_writes 5 = .ok (.invokevirtual 66, 3) := by decide +kernel
theorem dL_writes_8 : decode cL_writes 8 = .ok (.i2l, 1) := by decide +kernel
theorem dL_writes_9 : decode cL_writes 9 = .ok (.lastore, 1) := by decide +kernel
theorem dL_writes_10 : decode cL_writes 10 = .ok (.goto 11, 3) := by decide +kernel
theorem dL_writes_13 : decode cL_writes 13 = .ok (.astore 4, 2) := by decide +kernel
theorem dL_writes_15 : decode cL_writes 15 = .ok (.iconst 1, 1) := by decide +kernel
theorem dL_writes_16 : decode cL_writes 16 = .ok (.ireturn, 1) := by decide +kernel
theorem dL_writes_17 : decode cL_writes 17 = .ok (.astore 4, 2) := by decide +kernel
theorem dL_writes_19 : decode cL_writes 19 = .ok (.iconst 2, 1) := by decide +kernel
theorem dL_writes_20 : decode cL_writes 20 = .ok (.ireturn, 1) := by decide +kernel
theorem dL_writes_21 : decode cL_writes 21 = .ok (.iconst 0, 1) := by decide +kernel
theorem dL_writes_22 : decode cL_writes 22 = .ok (.ireturn, 1) := by decide +kernel
theorem dL_mark_0 : decode cL_mark 0 = .ok (.aload_n 2, 1) := by decide +kernel
theorem dL_mark_1 : decode cL_mark 1 = .ok (.iconst 0, 1) := by decide +kernel
theorem dL_mark_2 : decode cL_mark 2 = .ok (.aload_n 0, 1) := by decide +kernel
theorem dL_mark_3 : decode cL_mark 3 = .ok (.iload_n 1, 1) := by decide +kernel
theorem dL_mark_4 : decode cL_mark 4 = .ok (.invokevirtual 69, 3) := by decide +kernel
theorem dL_mark_7 : decode cL_mark 7 = .ok (.i2l, 1) := by decide +kernel
theorem dL_mark_8 : decode cL_mark 8 = .ok (.lastore, 1) := by decide +kernel
theorem dL_mark_9 : decode cL_mark 9 = .ok (.goto 6, 3) := by decide +kernel
theorem dL_mark_12 : decode cL_mark 12 = .ok (.astore_n 3, 1) := by decide +kernel
theorem dL_mark_13 : decode cL_mark 13 = .ok (.iconst 1, 1) := by decide +kernel
theorem dL_mark_14 : decode cL_mark 14 = .ok (.ireturn, 1) := by decide +kernel
theorem dL_mark_15 : decode cL_mark 15 = .ok (.iconst 0, 1) := by decide +kernel
theorem dL_mark_16 : decode cL_mark 16 = .ok (.ireturn, 1) := by decide +kernel
theorem dL_spoil_0 : decode cL_spoil 0 = .ok (.aload 4, 2) := by decide +kernel
theorem dL_spoil_2 : decode cL_spoil 2 = .ok (.iconst 0, 1) := by decide +kernel
theorem dL_spoil_3 : decode cL_spoil 3 = .ok (.aload_n 0, 1) := by decide +kernel
theorem dL_spoil_4 : decode cL_spoil 4 = .ok (.iload_n 1, 1) := by decide +kernel
theorem dL_spoil_5 : decode cL_spoil 5 = .ok (.iload_n 2, 1) := by decide +kernel
theorem dL_spoil_6 : decode cL_spoil 6 = .ok (.iload_n 3, 1) := by decide +kernel
theorem dL_spoil_7 : decode cL_spoil 7 = .ok (.invokevirtual 72, 3) := by decide +kernel
theorem dL_spoil_10 : decode cL_spoil 10 = .ok (.i2l, 1) := by decide +kernel
theorem dL_spoil_11 : decode cL_spoil 11 = .ok (.lastore, 1) := by decide +kernel
theorem dL_spoil_12 : decode cL_spoil 12 = .ok (.goto 11, 3) := by decide +kernel
theorem dL_spoil_15 : decode cL_spoil 15 = .ok (.astore 5, 2) := by decide +kernel
theorem dL_spoil_17 : decode cL_spoil 17 = .ok (.iconst 1, 1) := by decide +kernel
theorem dL_spoil_18 : decode cL_spoil 18 = .ok (.ireturn, 1) := by decide +kernel
theorem dL_spoil_19 : decode cL_spoil 19 = .ok (.astore 5, 2) := by decide +kernel
theorem dL_spoil_21 : decode cL_spoil 21 = .ok (.iconst 2, 1) := by decide +kernel
theorem dL_spoil_22 : decode cL_spoil 22 = .ok (.ireturn, 1) := by decide +kernel
theorem dL_spoil_23 : decode cL_spoil 23 = .ok (.iconst 0, 1) := by decide +kernel
theorem dL_spoil_24 : decode cL_spoil 24 = .ok (.ireturn, 1) := by decide +kernel
theorem dL_status_0 : decode cL_status 0 = .ok (.aload_n 2, 1) := by decide +kernel
theorem dL_status_1 : decode cL_status 1 = .ok (.iconst 0, 1) := by decide +kernel
theorem dL_status_2 : decode cL_status 2 = .ok (.aload_n 0, 1) := by decide +kernel
theorem dL_status_3 : decode cL_status 3 = .ok (.iload_n 1, 1) := by decide +kernel
theorem dL_status_4 : decode cL_status 4 = .ok (.invokevirtual 75, 3) := by decide +kernel
theorem dL_status_7 : decode cL_status 7 = .ok (.i2l, 1) := by decide +kernel
theorem dL_status_8 : decode cL_status 8 = .ok (.lastore, 1) := by decide +kernel
theorem dL_status_9 : decode cL_status 9 = .ok (.goto 6, 3) := by decide +kernel
theorem dL_status_12 : decode cL_status 12 = .ok (.astore_n 3, 1) := by decide +kernel
theorem dL_status_13 : decode cL_status 13 = .ok (.iconst 1, 1) := by decide +kernel
theorem dL_status_14 : decode cL_status 14 = .ok (.ireturn, 1) := by decide +kernel
theorem dL_status_15 : decode cL_status 15 = .ok (.iconst 0, 1) := by decide +kernel
theorem dL_status_16 : decode cL_status 16 = .ok (.ireturn, 1) := by decide +kernel
theorem dL_throwAway_0 : decode cL_throwAway 0 = .ok (.aload_n 3, 1) := by decide +kernel
theorem dL_throwAway_1 : decode cL_throwAway 1 = .ok (.iconst 0, 1) := by decide +kernel
theorem dL_throwAway_2 : decode cL_throwAway 2 = .ok (.aload_n 0, 1) := by decide +kernel
theorem dL_throwAway_3 : decode cL_throwAway 3 = .ok (.iload_n 1, 1) := by decide +kernel
theorem dL_throwAway_4 : decode cL_throwAway 4 = .ok (.iload_n 2, 1) := by decide +kernel
theorem dL_throwAway_5 : decode cL_throwAway 5 = .ok (.invokevirtual 79, 3) := by decide +kernel
theorem dL_throwAway_8 : decode cL_throwAway 8 = .ok (.i2l, 1) := by decide +kernel
theorem dL_throwAway_9 : decode cL_throwAway 9 = .ok (.lastore, 1) := by decide +kernel
theorem dL_throwAway_10 : decode cL_throwAway 10 = .ok (.goto 15, 3) := by decide +kernel
theorem dL_throwAway_13 : decode cL_throwAway 13 = .ok (.astore 4, 2) := by decide +kernel
theorem dL_throwAway_15 : decode cL_throwAway 15 = .ok (.iconst 1, 1) := by decide +kernel
theorem dL_throwAway_16 : decode cL_throwAway 16 = .ok (.ireturn, 1) := by decide +kernel
theorem dL_throwAway_17 : decode cL_throwAway 17 = .ok (.astore 4, 2) := by decide +kernel
theorem dL_throwAway_19 : decode cL_throwAway 19 = .ok (.iconst 2, 1) := by decide +kernel
theorem dL_throwAway_20 : decode cL_throwAway 20 = .ok (.ireturn, 1) := by decide +kernel
theorem dL_throwAway_21 : decode cL_throwAway 21 = .ok (.astore 4, 2) := by decide +kernel
theorem dL_throwAway_23 : decode cL_throwAway 23 = .ok (.iconst 3, 1) := by decide +kernel
theorem dL_throwAway_24 : decode cL_throwAway 24 = .ok (.ireturn, 1) := by decide +kernel
theorem dL_throwAway_25 : decode cL_throwAway 25 = .ok (.iconst 0, 1) := by decide +kernel
theorem dL_throwAway_26 : decode cL_throwAway 26 = .ok (.ireturn, 1) := by decide +kernel
theorem dL_parts_0 : decode cL_parts 0 = .ok (.aload_n 2, 1) := by decide +kernel
theorem dL_parts_1 : decode cL_parts 1 = .ok (.iconst 0, 1) := by decide +kernel
theorem dL_parts_2 : decode cL_parts 2 = .ok (.aload_n 0, 1) := by decide +kernel
theorem dL_parts_3 : decode cL_parts 3 = .ok (.iload_n 1, 1) := by decide +kernel
theorem dL_parts_4 : decode cL_parts 4 = .ok (.invokevirtual 82, 3) := by decide +kernel
theorem dL_parts_7 : decode cL_parts 7 = .ok (.i2l, 1) := by decide +kernel
theorem dL_parts_8 : decode cL_parts 8 = .ok (.lastore, 1) := by decide +kernel
theorem dL_parts_9 : decode cL_parts 9 = .ok (.goto 6, 3) := by decide +kernel
theorem dL_parts_12 : decode cL_parts 12 = .ok (.astore_n 3, 1) := by decide +kernel
theorem dL_parts_13 : decode cL_parts 13 = .ok (.iconst 1, 1) := by decide +kernel
theorem dL_parts_14 : decode cL_parts 14 = .ok (.ireturn, 1) := by decide +kernel
theorem dL_parts_15 : decode cL_parts 15 = .ok (.iconst 0, 1) := by decide +kernel
theorem dL_parts_16 : decode cL_parts 16 = .ok (.ireturn, 1) := by decide +kernel
theorem dL_tell_0 : decode cL_tell 0 = .ok (.aload 4, 2) := by decide +kernel
theorem dL_tell_2 : decode cL_tell 2 = .ok (.iconst 0, 1) := by decide +kernel
theorem dL_tell_3 : decode cL_tell 3 = .ok (.aload_n 0, 1) := by decide +kernel
theorem dL_tell_4 : decode cL_tell 4 = .ok (.iload_n 1, 1) := by decide +kernel
theorem dL_tell_5 : decode cL_tell 5 = .ok (.iload_n 2, 1) := by decide +kernel
theorem dL_tell_6 : decode cL_tell 6 = .ok (.iload_n 3, 1) := by decide +kernel
theorem dL_tell_7 : decode cL_tell 7 = .ok (.invokevirtual 85, 3) := by decide +kernel
theorem dL_tell_10 : decode cL_tell 10 = .ok (.i2l, 1) := by decide +kernel
theorem dL_tell_11 : decode cL_tell 11 = .ok (.lastore, 1) := by decide +kernel
theorem dL_tell_12 : decode cL_tell 12 = .ok (.goto 19, 3) := by decide +kernel
theorem dL_tell_15 : decode cL_tell 15 = .ok (.astore 5, 2) := by decide +kernel
theorem dL_tell_17 : decode cL_tell 17 = .ok (.iconst 1, 1) := by decide +kernel
theorem dL_tell_18 : decode cL_tell 18 = .ok (.ireturn, 1) := by decide +kernel
theorem dL_tell_19 : decode cL_tell 19 = .ok (.astore 5, 2) := by decide +kernel
theorem dL_tell_21 : decode cL_tell 21 = .ok (.iconst 2, 1) := by decide +kernel
theorem dL_tell_22 : decode cL_tell 22 = .ok (.ireturn, 1) := by decide +kernel
theorem dL_tell_23 : decode cL_tell 23 = .ok (.astore 5, 2) := by decide +kernel
theorem dL_tell_25 : decode cL_tell 25 = .ok (.iconst 3, 1) := by decide +kernel
theorem dL_tell_26 : decode cL_tell 26 = .ok (.ireturn, 1) := by decide +kernel
theorem dL_tell_27 : decode cL_tell 27 = .ok (.astore 5, 2) := by decide +kernel
theorem dL_tell_29 : decode cL_tell 29 = .ok (.iconst 4, 1) := by decide +kernel
theorem dL_tell_30 : decode cL_tell 30 = .ok (.ireturn, 1) := by decide +kernel
theorem dL_tell_31 : decode cL_tell 31 = .ok (.iconst 0, 1) := by decide +kernel
theorem dL_tell_32 : decode cL_tell 32 = .ok (.ireturn, 1) := by decide +kernel
theorem dL_ask_0 : decode cL_ask 0 = .ok (.aload 4, 2) := by decide +kernel
theorem dL_ask_2 : decode cL_ask 2 = .ok (.iconst 0, 1) := by decide +kernel
theorem dL_ask_3 : decode cL_ask 3 = .ok (.aload_n 0, 1) := by decide +kernel
theorem dL_ask_4 : decode cL_ask 4 = .ok (.iload_n 1, 1) := by decide +kernel
theorem dL_ask_5 : decode cL_ask 5 = .ok (.iload_n 2, 1) := by decide +kernel
theorem dL_ask_6 : decode cL_ask 6 = .ok (.iload_n 3, 1) := by decide +kernel
theorem dL_ask_7 : decode cL_ask 7 = .ok (.invokevirtual 88, 3) := by decide +kernel
theorem dL_ask_10 : decode cL_ask 10 = .ok (.i2l, 1) := by decide +kernel
theorem dL_ask_11 : decode cL_ask 11 = .ok (.lastore, 1) := by decide +kernel
theorem dL_ask_12 : decode cL_ask 12 = .ok (.goto 15, 3) := by decide +kernel
theorem dL_ask_15 : decode cL_ask 15 = .ok (.astore 5, 2) := by decide +kernel
theorem dL_ask_17 : decode cL_ask 17 = .ok (.iconst 1, 1) := by decide +kernel
theorem dL_ask_18 : decode cL_ask 18 = .ok (.ireturn, 1) := by decide +kernel
theorem dL_ask_19 : decode cL_ask 19 = .ok (.astore 5, 2) := by decide +kernel
theorem dL_ask_21 : decode cL_ask 21 = .ok (.iconst 2, 1) := by decide +kernel
theorem dL_ask_22 : decode cL_ask 22 = .ok (.ireturn, 1) := by decide +kernel
theorem dL_ask_23 : decode cL_ask 23 = .ok (.astore 5, 2) := by decide +kernel
theorem dL_ask_25 : decode cL_ask 25 = .ok (.iconst 3, 1) := by decide +kernel
theorem dL_ask_26 : decode cL_ask 26 = .ok (.ireturn, 1) := by decide +kernel
theorem dL_ask_27 : decode cL_ask 27 = .ok (.iconst 0, 1) := by decide +kernel
theorem dL_ask_28 : decode cL_ask 28 = .ok (.ireturn, 1) := by decide +kernel
theorem dL_foundAt_0 : decode cL_foundAt 0 = .ok (.aload_n 2, 1) := by decide +kernel
theorem dL_foundAt_1 : decode cL_foundAt 1 = .ok (.iconst 0, 1) := by decide +kernel
theorem dL_foundAt_2 : decode cL_foundAt 2 = .ok (.aload_n 0, 1) := by decide +kernel
theorem dL_foundAt_3 : decode cL_foundAt 3 = .ok (.iload_n 1, 1) := by decide +kernel
theorem dL_foundAt_4 : decode cL_foundAt 4 = .ok (.invokevirtual 91, 3) := by decide +kernel
theorem dL_foundAt_7 : decode cL_foundAt 7 = .ok (.i2l, 1) := by decide +kernel
theorem dL_foundAt_8 : decode cL_foundAt 8 = .ok (.lastore, 1) := by decide +kernel
theorem dL_foundAt_9 : decode cL_foundAt 9 = .ok (.goto 6, 3) := by decide +kernel
theorem dL_foundAt_12 : decode cL_foundAt 12 = .ok (.astore_n 3, 1) := by decide +kernel
theorem dL_foundAt_13 : decode cL_foundAt 13 = .ok (.iconst 1, 1) := by decide +kernel
theorem dL_foundAt_14 : decode cL_foundAt 14 = .ok (.ireturn, 1) := by decide +kernel
theorem dL_foundAt_15 : decode cL_foundAt 15 = .ok (.iconst 0, 1) := by decide +kernel
theorem dL_foundAt_16 : decode cL_foundAt 16 = .ok (.ireturn, 1) := by decide +kernel
theorem dL_shown_0 : decode cL_shown 0 = .ok (.aload_n 2, 1) := by decide +kernel
theorem dL_shown_1 : decode cL_shown 1 = .ok (.iconst 0, 1) := by decide +kernel
theorem dL_shown_2 : decode cL_shown 2 = .ok (.aload_n 0, 1) := by decide +kernel
theorem dL_shown_3 : decode cL_shown 3 = .ok (.iload_n 1, 1) := by decide +kernel
theorem dL_shown_4 : decode cL_shown 4 = .ok (.invokevirtual 96, 3) := by decide +kernel
theorem dL_shown_7 : decode cL_shown 7 = .ok (.i2l, 1) := by decide +kernel
theorem dL_shown_8 : decode cL_shown 8 = .ok (.lastore, 1) := by decide +kernel
theorem dL_shown_9 : decode cL_shown 9 = .ok (.goto 6, 3) := by decide +kernel
theorem dL_shown_12 : decode cL_shown 12 = .ok (.astore_n 3, 1) := by decide +kernel
theorem dL_shown_13 : decode cL_shown 13 = .ok (.iconst 1, 1) := by decide +kernel
theorem dL_shown_14 : decode cL_shown 14 = .ok (.ireturn, 1) := by decide +kernel
theorem dL_shown_15 : decode cL_shown 15 = .ok (.iconst 0, 1) := by decide +kernel
theorem dL_shown_16 : decode cL_shown 16 = .ok (.ireturn, 1) := by decide +kernel
theorem dL_leaf_0 : decode cL_leaf 0 = .ok (.aload_n 2, 1) := by decide +kernel
theorem dL_leaf_1 : decode cL_leaf 1 = .ok (.iconst 0, 1) := by decide +kernel
theorem dL_leaf_2 : decode cL_leaf 2 = .ok (.aload_n 0, 1) := by decide +kernel
theorem dL_leaf_3 : decode cL_leaf 3 = .ok (.iload_n 1, 1) := by decide +kernel
theorem dL_leaf_4 : decode cL_leaf 4 = .ok (.invokevirtual 100, 3) := by decide +kernel
theorem dL_leaf_7 : decode cL_leaf 7 = .ok (.i2l, 1) := by decide +kernel
theorem dL_leaf_8 : decode cL_leaf 8 = .ok (.lastore, 1) := by decide +kernel
theorem dL_leaf_9 : decode cL_leaf 9 = .ok (.goto 6, 3) := by decide +kernel
theorem dL_leaf_12 : decode cL_leaf 12 = .ok (.astore_n 3, 1) := by decide +kernel
theorem dL_leaf_13 : decode cL_leaf 13 = .ok (.iconst 1, 1) := by decide +kernel
theorem dL_leaf_14 : decode cL_leaf 14 = .ok (.ireturn, 1) := by decide +kernel
theorem dL_leaf_15 : decode cL_leaf 15 = .ok (.iconst 0, 1) := by decide +kernel
theorem dL_leaf_16 : decode cL_leaf 16 = .ok (.ireturn, 1) := by decide +kernel
theorem dL_root_0 : decode cL_root 0 = .ok (.aload_n 2, 1) := by decide +kernel
theorem dL_root_1 : decode cL_root 1 = .ok (.iconst 0, 1) := by decide +kernel
theorem dL_root_2 : decode cL_root 2 = .ok (.aload_n 0, 1) := by decide +kernel
theorem dL_root_3 : decode cL_root 3 = .ok (.iload_n 1, 1) := by decide +kernel
theorem dL_root_4 : decode cL_root 4 = .ok (.invokevirtual 103, 3) := by decide +kernel
theorem dL_root_7 : decode cL_root 7 = .ok (.i2l, 1) := by decide +kernel
theorem dL_root_8 : decode cL_root 8 = .ok (.lastore, 1) := by decide +kernel
theorem dL_root_9 : decode cL_root 9 = .ok (.goto 6, 3) := by decide +kernel
theorem dL_root_12 : decode cL_root 12 = .ok (.astore_n 3, 1) := by decide +kernel
theorem dL_root_13 : decode cL_root 13 = .ok (.iconst 1, 1) := by decide +kernel
theorem dL_root_14 : decode cL_root 14 = .ok (.ireturn, 1) := by decide +kernel
theorem dL_root_15 : decode cL_root 15 = .ok (.iconst 0, 1) := by decide +kernel
theorem dL_root_16 : decode cL_root 16 = .ok (.ireturn, 1) := by decide +kernel
theorem dL_proofLength_0 : decode cL_proofLength 0 = .ok (.aload_n 3, 1) := by decide +kernel
theorem dL_proofLength_1 : decode cL_proofLength 1 = .ok (.iconst 0, 1) := by decide +kernel
theorem dL_proofLength_2 : decode cL_proofLength 2 = .ok (.aload_n 0, 1) := by decide +kernel
theorem dL_proofLength_3 : decode cL_proofLength 3 = .ok (.iload_n 1, 1) := by decide +kernel
theorem dL_proofLength_4 : decode cL_proofLength 4 = .ok (.iload_n 2, 1) := by decide +kernel
theorem dL_proofLength_5 : decode cL_proofLength 5 = .ok (.invokevirtual 106, 3) := by decide +kernel
theorem dL_proofLength_8 : decode cL_proofLength 8 = .ok (.i2l, 1) := by decide +kernel
theorem dL_proofLength_9 : decode cL_proofLength 9 = .ok (.lastore, 1) := by decide +kernel
theorem dL_proofLength_10 : decode cL_proofLength 10 = .ok (.goto 11, 3) := by decide +kernel
theorem dL_proofLength_13 : decode cL_proofLength 13 = .ok (.astore 4, 2) := by decide +kernel
theorem dL_proofLength_15 : decode cL_proofLength 15 = .ok (.iconst 1, 1) := by decide +kernel
theorem dL_proofLength_16 : decode cL_proofLength 16 = .ok (.ireturn, 1) := by decide +kernel
theorem dL_proofLength_17 : decode cL_proofLength 17 = .ok (.astore 4, 2) := by decide +kernel
theorem dL_proofLength_19 : decode cL_proofLength 19 = .ok (.iconst 2, 1) := by decide +kernel
theorem dL_proofLength_20 : decode cL_proofLength 20 = .ok (.ireturn, 1) := by decide +kernel
theorem dL_proofLength_21 : decode cL_proofLength 21 = .ok (.iconst 0, 1) := by decide +kernel
theorem dL_proofLength_22 : decode cL_proofLength 22 = .ok (.ireturn, 1) := by decide +kernel
theorem dL_proofAt_0 : decode cL_proofAt 0 = .ok (.aload 4, 2) := by decide +kernel
theorem dL_proofAt_2 : decode cL_proofAt 2 = .ok (.iconst 0, 1) := by decide +kernel
theorem dL_proofAt_3 : decode cL_proofAt 3 = .ok (.aload_n 0, 1) := by decide +kernel
theorem dL_proofAt_4 : decode cL_proofAt 4 = .ok (.iload_n 1, 1) := by decide +kernel
theorem dL_proofAt_5 : decode cL_proofAt 5 = .ok (.iload_n 2, 1) := by decide +kernel
theorem dL_proofAt_6 : decode cL_proofAt 6 = .ok (.iload_n 3, 1) := by decide +kernel
theorem dL_proofAt_7 : decode cL_proofAt 7 = .ok (.invokevirtual 109, 3) := by decide +kernel
theorem dL_proofAt_10 : decode cL_proofAt 10 = .ok (.i2l, 1) := by decide +kernel
theorem dL_proofAt_11 : decode cL_proofAt 11 = .ok (.lastore, 1) := by decide +kernel
theorem dL_proofAt_12 : decode cL_proofAt 12 = .ok (.goto 11, 3) := by decide +kernel
theorem dL_proofAt_15 : decode cL_proofAt 15 = .ok (.astore 5, 2) := by decide +kernel
theorem dL_proofAt_17 : decode cL_proofAt 17 = .ok (.iconst 1, 1) := by decide +kernel
theorem dL_proofAt_18 : decode cL_proofAt 18 = .ok (.ireturn, 1) := by decide +kernel
theorem dL_proofAt_19 : decode cL_proofAt 19 = .ok (.astore 5, 2) := by decide +kernel
theorem dL_proofAt_21 : decode cL_proofAt 21 = .ok (.iconst 2, 1) := by decide +kernel
theorem dL_proofAt_22 : decode cL_proofAt 22 = .ok (.ireturn, 1) := by decide +kernel
theorem dL_proofAt_23 : decode cL_proofAt 23 = .ok (.iconst 0, 1) := by decide +kernel
theorem dL_proofAt_24 : decode cL_proofAt 24 = .ok (.ireturn, 1) := by decide +kernel
theorem dL_prefixLength_0 : decode cL_prefixLength 0 = .ok (.aload_n 3, 1) := by decide +kernel
theorem dL_prefixLength_1 : decode cL_prefixLength 1 = .ok (.iconst 0, 1) := by decide +kernel
theorem dL_prefixLength_2 : decode cL_prefixLength 2 = .ok (.aload_n 0, 1) := by decide +kernel
theorem dL_prefixLength_3 : decode cL_prefixLength 3 = .ok (.iload_n 1, 1) := by decide +kernel
theorem dL_prefixLength_4 : decode cL_prefixLength 4 = .ok (.iload_n 2, 1) := by decide +kernel
theorem dL_prefixLength_5 : decode cL_prefixLength 5 = .ok (.invokevirtual 112, 3) := by decide +kernel
theorem dL_prefixLength_8 : decode cL_prefixLength 8 = .ok (.i2l, 1) := by decide +kernel
theorem dL_prefixLength_9 : decode cL_prefixLength 9 = .ok (.lastore, 1) := by decide +kernel
theorem dL_prefixLength_10 : decode cL_prefixLength 10 = .ok (.goto 7, 3) := by decide +kernel
theorem dL_prefixLength_13 : decode cL_prefixLength 13 = .ok (.astore 4, 2) := by decide +kernel
theorem dL_prefixLength_15 : decode cL_prefixLength 15 = .ok (.iconst 1, 1) := by decide +kernel
theorem dL_prefixLength_16 : decode cL_prefixLength 16 = .ok (.ireturn, 1) := by decide +kernel
theorem dL_prefixLength_17 : decode cL_prefixLength 17 = .ok (.iconst 0, 1) := by decide +kernel
theorem dL_prefixLength_18 : decode cL_prefixLength 18 = .ok (.ireturn, 1) := by decide +kernel
theorem dL_prefixAt_0 : decode cL_prefixAt 0 = .ok (.aload 4, 2) := by decide +kernel
theorem dL_prefixAt_2 : decode cL_prefixAt 2 = .ok (.iconst 0, 1) := by decide +kernel
theorem dL_prefixAt_3 : decode cL_prefixAt 3 = .ok (.aload_n 0, 1) := by decide +kernel
theorem dL_prefixAt_4 : decode cL_prefixAt 4 = .ok (.iload_n 1, 1) := by decide +kernel
theorem dL_prefixAt_5 : decode cL_prefixAt 5 = .ok (.iload_n 2, 1) := by decide +kernel
theorem dL_prefixAt_6 : decode cL_prefixAt 6 = .ok (.iload_n 3, 1) := by decide +kernel
theorem dL_prefixAt_7 : decode cL_prefixAt 7 = .ok (.invokevirtual 115, 3) := by decide +kernel
theorem dL_prefixAt_10 : decode cL_prefixAt 10 = .ok (.i2l, 1) := by decide +kernel
theorem dL_prefixAt_11 : decode cL_prefixAt 11 = .ok (.lastore, 1) := by decide +kernel
theorem dL_prefixAt_12 : decode cL_prefixAt 12 = .ok (.goto 11, 3) := by decide +kernel
theorem dL_prefixAt_15 : decode cL_prefixAt 15 = .ok (.astore 5, 2) := by decide +kernel
theorem dL_prefixAt_17 : decode cL_prefixAt 17 = .ok (.iconst 1, 1) := by decide +kernel
theorem dL_prefixAt_18 : decode cL_prefixAt 18 = .ok (.ireturn, 1) := by decide +kernel
theorem dL_prefixAt_19 : decode cL_prefixAt 19 = .ok (.astore 5, 2) := by decide +kernel
theorem dL_prefixAt_21 : decode cL_prefixAt 21 = .ok (.iconst 2, 1) := by decide +kernel
theorem dL_prefixAt_22 : decode cL_prefixAt 22 = .ok (.ireturn, 1) := by decide +kernel
theorem dL_prefixAt_23 : decode cL_prefixAt 23 = .ok (.iconst 0, 1) := by decide +kernel
theorem dL_prefixAt_24 : decode cL_prefixAt 24 = .ok (.ireturn, 1) := by decide +kernel
theorem dL_forget_0 : decode cL_forget 0 = .ok (.aload_n 2, 1) := by decide +kernel
theorem dL_forget_1 : decode cL_forget 1 = .ok (.iconst 0, 1) := by decide +kernel
theorem dL_forget_2 : decode cL_forget 2 = .ok (.aload_n 0, 1) := by decide +kernel
theorem dL_forget_3 : decode cL_forget 3 = .ok (.iload_n 1, 1) := by decide +kernel
theorem dL_forget_4 : decode cL_forget 4 = .ok (.invokevirtual 118, 3) := by decide +kernel
theorem dL_forget_7 : decode cL_forget 7 = .ok (.i2l, 1) := by decide +kernel
theorem dL_forget_8 : decode cL_forget 8 = .ok (.lastore, 1) := by decide +kernel
theorem dL_forget_9 : decode cL_forget 9 = .ok (.goto 6, 3) := by decide +kernel
theorem dL_forget_12 : decode cL_forget 12 = .ok (.astore_n 3, 1) := by decide +kernel
theorem dL_forget_13 : decode cL_forget 13 = .ok (.iconst 1, 1) := by decide +kernel
theorem dL_forget_14 : decode cL_forget 14 = .ok (.ireturn, 1) := by decide +kernel
theorem dL_forget_15 : decode cL_forget 15 = .ok (.iconst 0, 1) := by decide +kernel
theorem dL_forget_16 : decode cL_forget 16 = .ok (.ireturn, 1) := by decide +kernel
theorem dL_show_0 : decode cL_show 0 = .ok (.aload_n 3, 1) := by decide +kernel
theorem dL_show_1 : decode cL_show 1 = .ok (.iconst 0, 1) := by decide +kernel
theorem dL_show_2 : decode cL_show 2 = .ok (.aload_n 0, 1) := by decide +kernel
theorem dL_show_3 : decode cL_show 3 = .ok (.iload_n 1, 1) := by decide +kernel
theorem dL_show_4 : decode cL_show 4 = .ok (.iload_n 2, 1) := by decide +kernel
theorem dL_show_5 : decode cL_show 5 = .ok (.invokevirtual 121, 3) := by decide +kernel
theorem dL_show_8 : decode cL_show 8 = .ok (.i2l, 1) := by decide +kernel
theorem dL_show_9 : decode cL_show 9 = .ok (.lastore, 1) := by decide +kernel
theorem dL_show_10 : decode cL_show 10 = .ok (.goto 11, 3) := by decide +kernel
theorem dL_show_13 : decode cL_show 13 = .ok (.astore 4, 2) := by decide +kernel
theorem dL_show_15 : decode cL_show 15 = .ok (.iconst 1, 1) := by decide +kernel
theorem dL_show_16 : decode cL_show 16 = .ok (.ireturn, 1) := by decide +kernel
theorem dL_show_17 : decode cL_show 17 = .ok (.astore 4, 2) := by decide +kernel
theorem dL_show_19 : decode cL_show 19 = .ok (.iconst 2, 1) := by decide +kernel
theorem dL_show_20 : decode cL_show 20 = .ok (.ireturn, 1) := by decide +kernel
theorem dL_show_21 : decode cL_show 21 = .ok (.iconst 0, 1) := by decide +kernel
theorem dL_show_22 : decode cL_show 22 = .ok (.ireturn, 1) := by decide +kernel
theorem dL_meet_0 : decode cL_meet 0 = .ok (.aload_n 3, 1) := by decide +kernel
theorem dL_meet_1 : decode cL_meet 1 = .ok (.iconst 0, 1) := by decide +kernel
theorem dL_meet_2 : decode cL_meet 2 = .ok (.aload_n 0, 1) := by decide +kernel
theorem dL_meet_3 : decode cL_meet 3 = .ok (.iload_n 1, 1) := by decide +kernel
theorem dL_meet_4 : decode cL_meet 4 = .ok (.iload_n 2, 1) := by decide +kernel
theorem dL_meet_5 : decode cL_meet 5 = .ok (.invokevirtual 125, 3) := by decide +kernel
theorem dL_meet_8 : decode cL_meet 8 = .ok (.i2l, 1) := by decide +kernel
theorem dL_meet_9 : decode cL_meet 9 = .ok (.lastore, 1) := by decide +kernel
theorem dL_meet_10 : decode cL_meet 10 = .ok (.goto 11, 3) := by decide +kernel
theorem dL_meet_13 : decode cL_meet 13 = .ok (.astore 4, 2) := by decide +kernel
theorem dL_meet_15 : decode cL_meet 15 = .ok (.iconst 1, 1) := by decide +kernel
theorem dL_meet_16 : decode cL_meet 16 = .ok (.ireturn, 1) := by decide +kernel
theorem dL_meet_17 : decode cL_meet 17 = .ok (.astore 4, 2) := by decide +kernel
theorem dL_meet_19 : decode cL_meet 19 = .ok (.iconst 2, 1) := by decide +kernel
theorem dL_meet_20 : decode cL_meet 20 = .ok (.ireturn, 1) := by decide +kernel
theorem dL_meet_21 : decode cL_meet 21 = .ok (.iconst 0, 1) := by decide +kernel
theorem dL_meet_22 : decode cL_meet 22 = .ok (.ireturn, 1) := by decide +kernel
theorem dL_head_0 : decode cL_head 0 = .ok (.aload_n 2, 1) := by decide +kernel
theorem dL_head_1 : decode cL_head 1 = .ok (.iconst 0, 1) := by decide +kernel
theorem dL_head_2 : decode cL_head 2 = .ok (.aload_n 0, 1) := by decide +kernel
theorem dL_head_3 : decode cL_head 3 = .ok (.iload_n 1, 1) := by decide +kernel
theorem dL_head_4 : decode cL_head 4 = .ok (.invokevirtual 128, 3) := by decide +kernel
theorem dL_head_7 : decode cL_head 7 = .ok (.i2l, 1) := by decide +kernel
theorem dL_head_8 : decode cL_head 8 = .ok (.lastore, 1) := by decide +kernel
theorem dL_head_9 : decode cL_head 9 = .ok (.goto 6, 3) := by decide +kernel
theorem dL_head_12 : decode cL_head 12 = .ok (.astore_n 3, 1) := by decide +kernel
theorem dL_head_13 : decode cL_head 13 = .ok (.iconst 1, 1) := by decide +kernel
theorem dL_head_14 : decode cL_head 14 = .ok (.ireturn, 1) := by decide +kernel
theorem dL_head_15 : decode cL_head 15 = .ok (.iconst 0, 1) := by decide +kernel
theorem dL_head_16 : decode cL_head 16 = .ok (.ireturn, 1) := by decide +kernel
theorem dL_alarms_0 : decode cL_alarms 0 = .ok (.aload_n 2, 1) := by decide +kernel
theorem dL_alarms_1 : decode cL_alarms 1 = .ok (.iconst 0, 1) := by decide +kernel
theorem dL_alarms_2 : decode cL_alarms 2 = .ok (.aload_n 0, 1) := by decide +kernel
theorem dL_alarms_3 : decode cL_alarms 3 = .ok (.iload_n 1, 1) := by decide +kernel
theorem dL_alarms_4 : decode cL_alarms 4 = .ok (.invokevirtual 131, 3) := by decide +kernel
theorem dL_alarms_7 : decode cL_alarms 7 = .ok (.i2l, 1) := by decide +kernel
theorem dL_alarms_8 : decode cL_alarms 8 = .ok (.lastore, 1) := by decide +kernel
theorem dL_alarms_9 : decode cL_alarms 9 = .ok (.goto 6, 3) := by decide +kernel
theorem dL_alarms_12 : decode cL_alarms 12 = .ok (.astore_n 3, 1) := by decide +kernel
theorem dL_alarms_13 : decode cL_alarms 13 = .ok (.iconst 1, 1) := by decide +kernel
theorem dL_alarms_14 : decode cL_alarms 14 = .ok (.ireturn, 1) := by decide +kernel
theorem dL_alarms_15 : decode cL_alarms 15 = .ok (.iconst 0, 1) := by decide +kernel
theorem dL_alarms_16 : decode cL_alarms 16 = .ok (.ireturn, 1) := by decide +kernel
theorem dL_split_0 : decode cL_split 0 = .ok (.aload 4, 2) := by decide +kernel
theorem dL_split_2 : decode cL_split 2 = .ok (.iconst 0, 1) := by decide +kernel
theorem dL_split_3 : decode cL_split 3 = .ok (.aload_n 0, 1) := by decide +kernel
theorem dL_split_4 : decode cL_split 4 = .ok (.iload_n 1, 1) := by decide +kernel
theorem dL_split_5 : decode cL_split 5 = .ok (.iload_n 2, 1) := by decide +kernel
theorem dL_split_6 : decode cL_split 6 = .ok (.iload_n 3, 1) := by decide +kernel
theorem dL_split_7 : decode cL_split 7 = .ok (.invokevirtual 134, 3) := by decide +kernel
theorem dL_split_10 : decode cL_split 10 = .ok (.i2l, 1) := by decide +kernel
theorem dL_split_11 : decode cL_split 11 = .ok (.lastore, 1) := by decide +kernel
theorem dL_split_12 : decode cL_split 12 = .ok (.goto 11, 3) := by decide +kernel
theorem dL_split_15 : decode cL_split 15 = .ok (.astore 5, 2) := by decide +kernel
theorem dL_split_17 : decode cL_split 17 = .ok (.iconst 1, 1) := by decide +kernel
theorem dL_split_18 : decode cL_split 18 = .ok (.ireturn, 1) := by decide +kernel
theorem dL_split_19 : decode cL_split 19 = .ok (.astore 5, 2) := by decide +kernel
theorem dL_split_21 : decode cL_split 21 = .ok (.iconst 2, 1) := by decide +kernel
theorem dL_split_22 : decode cL_split 22 = .ok (.ireturn, 1) := by decide +kernel
theorem dL_split_23 : decode cL_split 23 = .ok (.iconst 0, 1) := by decide +kernel
theorem dL_split_24 : decode cL_split 24 = .ok (.ireturn, 1) := by decide +kernel
theorem dL_share_0 : decode cL_share 0 = .ok (.aload_n 3, 1) := by decide +kernel
theorem dL_share_1 : decode cL_share 1 = .ok (.iconst 0, 1) := by decide +kernel
theorem dL_share_2 : decode cL_share 2 = .ok (.aload_n 0, 1) := by decide +kernel
theorem dL_share_3 : decode cL_share 3 = .ok (.iload_n 1, 1) := by decide +kernel
theorem dL_share_4 : decode cL_share 4 = .ok (.iload_n 2, 1) := by decide +kernel
theorem dL_share_5 : decode cL_share 5 = .ok (.invokevirtual 137, 3) := by decide +kernel
theorem dL_share_8 : decode cL_share 8 = .ok (.i2l, 1) := by decide +kernel
theorem dL_share_9 : decode cL_share 9 = .ok (.lastore, 1) := by decide +kernel
theorem dL_share_10 : decode cL_share 10 = .ok (.goto 15, 3) := by decide +kernel
theorem dL_share_13 : decode cL_share 13 = .ok (.astore 4, 2) := by decide +kernel
theorem dL_share_15 : decode cL_share 15 = .ok (.iconst 1, 1) := by decide +kernel
theorem dL_share_16 : decode cL_share 16 = .ok (.ireturn, 1) := by decide +kernel
theorem dL_share_17 : decode cL_share 17 = .ok (.astore 4, 2) := by decide +kernel
theorem dL_share_19 : decode cL_share 19 = .ok (.iconst 2, 1) := by decide +kernel
theorem dL_share_20 : decode cL_share 20 = .ok (.ireturn, 1) := by decide +kernel
theorem dL_share_21 : decode cL_share 21 = .ok (.astore 4, 2) := by decide +kernel
theorem dL_share_23 : decode cL_share 23 = .ok (.iconst 3, 1) := by decide +kernel
theorem dL_share_24 : decode cL_share 24 = .ok (.ireturn, 1) := by decide +kernel
theorem dL_share_25 : decode cL_share 25 = .ok (.iconst 0, 1) := by decide +kernel
theorem dL_share_26 : decode cL_share 26 = .ok (.ireturn, 1) := by decide +kernel
theorem dL_collect_0 : decode cL_collect 0 = .ok (.aload_n 3, 1) := by decide +kernel
theorem dL_collect_1 : decode cL_collect 1 = .ok (.iconst 0, 1) := by decide +kernel
theorem dL_collect_2 : decode cL_collect 2 = .ok (.aload_n 0, 1) := by decide +kernel
theorem dL_collect_3 : decode cL_collect 3 = .ok (.iload_n 1, 1) := by decide +kernel
theorem dL_collect_4 : decode cL_collect 4 = .ok (.iload_n 2, 1) := by decide +kernel
theorem dL_collect_5 : decode cL_collect 5 = .ok (.invokevirtual 140, 3) := by decide +kernel
theorem dL_collect_8 : decode cL_collect 8 = .ok (.i2l, 1) := by decide +kernel
theorem dL_collect_9 : decode cL_collect 9 = .ok (.lastore, 1) := by decide +kernel
theorem dL_collect_10 : decode cL_collect 10 = .ok (.goto 7, 3) := by decide +kernel
theorem dL_collect_13 : decode cL_collect 13 = .ok (.astore 4, 2) := by decide +kernel
theorem dL_collect_15 : decode cL_collect 15 = .ok (.iconst 1, 1) := by decide +kernel
theorem dL_collect_16 : decode cL_collect 16 = .ok (.ireturn, 1) := by decide +kernel
theorem dL_collect_17 : decode cL_collect 17 = .ok (.iconst 0, 1) := by decide +kernel
theorem dL_collect_18 : decode cL_collect 18 = .ok (.ireturn, 1) := by decide +kernel
theorem dL_recovered_0 : decode cL_recovered 0 = .ok (.aload_n 1, 1) := by decide +kernel
theorem dL_recovered_1 : decode cL_recovered 1 = .ok (.iconst 0, 1) := by decide +kernel
theorem dL_recovered_2 : decode cL_recovered 2 = .ok (.aload_n 0, 1) := by decide +kernel
theorem dL_recovered_3 : decode cL_recovered 3 = .ok (.invokevirtual 143, 3) := by decide +kernel
theorem dL_recovered_6 : decode cL_recovered 6 = .ok (.i2l, 1) := by decide +kernel
theorem dL_recovered_7 : decode cL_recovered 7 = .ok (.lastore, 1) := by decide +kernel
theorem dL_recovered_8 : decode cL_recovered 8 = .ok (.goto 6, 3) := by decide +kernel
theorem dL_recovered_11 : decode cL_recovered 11 = .ok (.astore_n 2, 1) := by decide +kernel
theorem dL_recovered_12 : decode cL_recovered 12 = .ok (.iconst 1, 1) := by decide +kernel
theorem dL_recovered_13 : decode cL_recovered 13 = .ok (.ireturn, 1) := by decide +kernel
theorem dL_recovered_14 : decode cL_recovered 14 = .ok (.iconst 0, 1) := by decide +kernel
theorem dL_recovered_15 : decode cL_recovered 15 = .ok (.ireturn, 1) := by decide +kernel
theorem dL_goAway_0 : decode cL_goAway 0 = .ok (.aload_n 2, 1) := by decide +kernel
theorem dL_goAway_1 : decode cL_goAway 1 = .ok (.iconst 0, 1) := by decide +kernel
theorem dL_goAway_2 : decode cL_goAway 2 = .ok (.aload_n 0, 1) := by decide +kernel
theorem dL_goAway_3 : decode cL_goAway 3 = .ok (.iload_n 1, 1) := by decide +kernel
theorem dL_goAway_4 : decode cL_goAway 4 = .ok (.invokevirtual 147, 3) := by decide +kernel
theorem dL_goAway_7 : decode cL_goAway 7 = .ok (.i2l, 1) := by decide +kernel
theorem dL_goAway_8 : decode cL_goAway 8 = .ok (.lastore, 1) := by decide +kernel
theorem dL_goAway_9 : decode cL_goAway 9 = .ok (.goto 9, 3) := by decide +kernel
theorem dL_goAway_12 : decode cL_goAway 12 = .ok (.astore_n 3, 1) := by decide +kernel
theorem dL_goAway_13 : decode cL_goAway 13 = .ok (.iconst 1, 1) := by decide +kernel
theorem dL_goAway_14 : decode cL_goAway 14 = .ok (.ireturn, 1) := by decide +kernel
theorem dL_goAway_15 : decode cL_goAway 15 = .ok (.astore_n 3, 1) := by decide +kernel
theorem dL_goAway_16 : decode cL_goAway 16 = .ok (.iconst 2, 1) := by decide +kernel
theorem dL_goAway_17 : decode cL_goAway 17 = .ok (.ireturn, 1) := by decide +kernel
theorem dL_goAway_18 : decode cL_goAway 18 = .ok (.iconst 0, 1) := by decide +kernel
theorem dL_goAway_19 : decode cL_goAway 19 = .ok (.ireturn, 1) := by decide +kernel
theorem dL_draft_0 : decode cL_draft 0 = .ok (.aload 5, 2) := by decide +kernel
theorem dL_draft_2 : decode cL_draft 2 = .ok (.iconst 0, 1) := by decide +kernel
theorem dL_draft_3 : decode cL_draft 3 = .ok (.aload_n 0, 1) := by decide +kernel
theorem dL_draft_4 : decode cL_draft 4 = .ok (.iload_n 1, 1) := by decide +kernel
theorem dL_draft_5 : decode cL_draft 5 = .ok (.iload_n 2, 1) := by decide +kernel
theorem dL_draft_6 : decode cL_draft 6 = .ok (.iload_n 3, 1) := by decide +kernel
theorem dL_draft_7 : decode cL_draft 7 = .ok (.iload 4, 2) := by decide +kernel
theorem dL_draft_9 : decode cL_draft 9 = .ok (.invokevirtual 150, 3) := by decide +kernel
theorem dL_draft_12 : decode cL_draft 12 = .ok (.i2l, 1) := by decide +kernel
theorem dL_draft_13 : decode cL_draft 13 = .ok (.lastore, 1) := by decide +kernel
theorem dL_draft_14 : decode cL_draft 14 = .ok (.goto 15, 3) := by decide +kernel
theorem dL_draft_17 : decode cL_draft 17 = .ok (.astore 6, 2) := by decide +kernel
theorem dL_draft_19 : decode cL_draft 19 = .ok (.iconst 1, 1) := by decide +kernel
theorem dL_draft_20 : decode cL_draft 20 = .ok (.ireturn, 1) := by decide +kernel
theorem dL_draft_21 : decode cL_draft 21 = .ok (.astore 6, 2) := by decide +kernel
theorem dL_draft_23 : decode cL_draft 23 = .ok (.iconst 2, 1) := by decide +kernel
theorem dL_draft_24 : decode cL_draft 24 = .ok (.ireturn, 1) := by decide +kernel
theorem dL_draft_25 : decode cL_draft 25 = .ok (.astore 6, 2) := by decide +kernel
theorem dL_draft_27 : decode cL_draft 27 = .ok (.iconst 3, 1) := by decide +kernel
theorem dL_draft_28 : decode cL_draft 28 = .ok (.ireturn, 1) := by decide +kernel
theorem dL_draft_29 : decode cL_draft 29 = .ok (.iconst 0, 1) := by decide +kernel
theorem dL_draft_30 : decode cL_draft 30 = .ok (.ireturn, 1) := by decide +kernel
theorem dL_comeBack_0 : decode cL_comeBack 0 = .ok (.aload_n 2, 1) := by decide +kernel
theorem dL_comeBack_1 : decode cL_comeBack 1 = .ok (.iconst 0, 1) := by decide +kernel
theorem dL_comeBack_2 : decode cL_comeBack 2 = .ok (.aload_n 0, 1) := by decide +kernel
theorem dL_comeBack_3 : decode cL_comeBack 3 = .ok (.iload_n 1, 1) := by decide +kernel
theorem dL_comeBack_4 : decode cL_comeBack 4 = .ok (.invokevirtual 153, 3) := by decide +kernel
theorem dL_comeBack_7 : decode cL_comeBack 7 = .ok (.i2l, 1) := by decide +kernel
theorem dL_comeBack_8 : decode cL_comeBack 8 = .ok (.lastore, 1) := by decide +kernel
theorem dL_comeBack_9 : decode cL_comeBack 9 = .ok (.goto 9, 3) := by decide +kernel
theorem dL_comeBack_12 : decode cL_comeBack 12 = .ok (.astore_n 3, 1) := by decide +kernel
theorem dL_comeBack_13 : decode cL_comeBack 13 = .ok (.iconst 1, 1) := by decide +kernel
theorem dL_comeBack_14 : decode cL_comeBack 14 = .ok (.ireturn, 1) := by decide +kernel
theorem dL_comeBack_15 : decode cL_comeBack 15 = .ok (.astore_n 3, 1) := by decide +kernel
theorem dL_comeBack_16 : decode cL_comeBack 16 = .ok (.iconst 2, 1) := by decide +kernel
theorem dL_comeBack_17 : decode cL_comeBack 17 = .ok (.ireturn, 1) := by decide +kernel
theorem dL_comeBack_18 : decode cL_comeBack 18 = .ok (.iconst 0, 1) := by decide +kernel
theorem dL_comeBack_19 : decode cL_comeBack 19 = .ok (.ireturn, 1) := by decide +kernel
theorem dL_conflictAt_0 : decode cL_conflictAt 0 = .ok (.aload_n 2, 1) := by decide +kernel
theorem dL_conflictAt_1 : decode cL_conflictAt 1 = .ok (.iconst 0, 1) := by decide +kernel
theorem dL_conflictAt_2 : decode cL_conflictAt 2 = .ok (.aload_n 0, 1) := by decide +kernel
theorem dL_conflictAt_3 : decode cL_conflictAt 3 = .ok (.iload_n 1, 1) := by decide +kernel
theorem dL_conflictAt_4 : decode cL_conflictAt 4 = .ok (.invokevirtual 156, 3) := by decide +kernel
theorem dL_conflictAt_7 : decode cL_conflictAt 7 = .ok (.i2l, 1) := by decide +kernel
theorem dL_conflictAt_8 : decode cL_conflictAt 8 = .ok (.lastore, 1) := by decide +kernel
theorem dL_conflictAt_9 : decode cL_conflictAt 9 = .ok (.goto 6, 3) := by decide +kernel
theorem dL_conflictAt_12 : decode cL_conflictAt 12 = .ok (.astore_n 3, 1) := by decide +kernel
theorem dL_conflictAt_13 : decode cL_conflictAt 13 = .ok (.iconst 1, 1) := by decide +kernel
theorem dL_conflictAt_14 : decode cL_conflictAt 14 = .ok (.ireturn, 1) := by decide +kernel
theorem dL_conflictAt_15 : decode cL_conflictAt 15 = .ok (.iconst 0, 1) := by decide +kernel
theorem dL_conflictAt_16 : decode cL_conflictAt 16 = .ok (.ireturn, 1) := by decide +kernel
theorem dL_load_0 : decode cL_load 0 = .ok (.aload_n 2, 1) := by decide +kernel
theorem dL_load_1 : decode cL_load 1 = .ok (.iconst 0, 1) := by decide +kernel
theorem dL_load_2 : decode cL_load 2 = .ok (.aload_n 0, 1) := by decide +kernel
theorem dL_load_3 : decode cL_load 3 = .ok (.iload_n 1, 1) := by decide +kernel
theorem dL_load_4 : decode cL_load 4 = .ok (.invokevirtual 159, 3) := by decide +kernel
theorem dL_load_7 : decode cL_load 7 = .ok (.f2d, 1) := by decide +kernel
theorem dL_load_8 : decode cL_load 8 = .ok (.dastore, 1) := by decide +kernel
theorem dL_load_9 : decode cL_load 9 = .ok (.goto 6, 3) := by decide +kernel
theorem dL_load_12 : decode cL_load 12 = .ok (.astore_n 3, 1) := by decide +kernel
theorem dL_load_13 : decode cL_load 13 = .ok (.iconst 1, 1) := by decide +kernel
theorem dL_load_14 : decode cL_load 14 = .ok (.ireturn, 1) := by decide +kernel
theorem dL_load_15 : decode cL_load 15 = .ok (.iconst 0, 1) := by decide +kernel
theorem dL_load_16 : decode cL_load 16 = .ok (.ireturn, 1) := by decide +kernel
theorem dL_loadBits_0 : decode cL_loadBits 0 = .ok (.aload_n 2, 1) := by decide +kernel
theorem dL_loadBits_1 : decode cL_loadBits 1 = .ok (.iconst 0, 1) := by decide +kernel
theorem dL_loadBits_2 : decode cL_loadBits 2 = .ok (.aload_n 0, 1) := by decide +kernel
theorem dL_loadBits_3 : decode cL_loadBits 3 = .ok (.iload_n 1, 1) := by decide +kernel
theorem dL_loadBits_4 : decode cL_loadBits 4 = .ok (.invokevirtual 163, 3) := by decide +kernel
theorem dL_loadBits_7 : decode cL_loadBits 7 = .ok (.i2l, 1) := by decide +kernel
theorem dL_loadBits_8 : decode cL_loadBits 8 = .ok (.lastore, 1) := by decide +kernel
theorem dL_loadBits_9 : decode cL_loadBits 9 = .ok (.goto 6, 3) := by decide +kernel
theorem dL_loadBits_12 : decode cL_loadBits 12 = .ok (.astore_n 3, 1) := by decide +kernel
theorem dL_loadBits_13 : decode cL_loadBits 13 = .ok (.iconst 1, 1) := by decide +kernel
theorem dL_loadBits_14 : decode cL_loadBits 14 = .ok (.ireturn, 1) := by decide +kernel
theorem dL_loadBits_15 : decode cL_loadBits 15 = .ok (.iconst 0, 1) := by decide +kernel
theorem dL_loadBits_16 : decode cL_loadBits 16 = .ok (.ireturn, 1) := by decide +kernel
theorem dL_meanTold_0 : decode cL_meanTold 0 = .ok (.aload_n 1, 1) := by decide +kernel
theorem dL_meanTold_1 : decode cL_meanTold 1 = .ok (.iconst 0, 1) := by decide +kernel
theorem dL_meanTold_2 : decode cL_meanTold 2 = .ok (.aload_n 0, 1) := by decide +kernel
theorem dL_meanTold_3 : decode cL_meanTold 3 = .ok (.invokevirtual 166, 3) := by decide +kernel
theorem dL_meanTold_6 : decode cL_meanTold 6 = .ok (.dastore, 1) := by decide +kernel
theorem dL_meanTold_7 : decode cL_meanTold 7 = .ok (.goto 6, 3) := by decide +kernel
theorem dL_meanTold_10 : decode cL_meanTold 10 = .ok (.astore_n 2, 1) := by decide +kernel
theorem dL_meanTold_11 : decode cL_meanTold 11 = .ok (.iconst 1, 1) := by decide +kernel
theorem dL_meanTold_12 : decode cL_meanTold 12 = .ok (.ireturn, 1) := by decide +kernel
theorem dL_meanTold_13 : decode cL_meanTold 13 = .ok (.iconst 0, 1) := by decide +kernel
theorem dL_meanTold_14 : decode cL_meanTold 14 = .ok (.ireturn, 1) := by decide +kernel
theorem dL_meanToldBits_0 : decode cL_meanToldBits 0 = .ok (.aload_n 1, 1) := by decide +kernel
theorem dL_meanToldBits_1 : decode cL_meanToldBits 1 = .ok (.iconst 0, 1) := by decide +kernel
theorem dL_meanToldBits_2 : decode cL_meanToldBits 2 = .ok (.aload_n 0, 1) := by decide +kernel
theorem dL_meanToldBits_3 : decode cL_meanToldBits 3 = .ok (.invokevirtual 172, 3) := by decide +kernel
theorem dL_meanToldBits_6 : decode cL_meanToldBits 6 = .ok (.lastore, 1) := by decide +kernel
theorem dL_meanToldBits_7 : decode cL_meanToldBits 7 = .ok (.goto 6, 3) := by decide +kernel
theorem dL_meanToldBits_10 : decode cL_meanToldBits 10 = .ok (.astore_n 2, 1) := by decide +kernel
theorem dL_meanToldBits_11 : decode cL_meanToldBits 11 = .ok (.iconst 1, 1) := by decide +kernel
theorem dL_meanToldBits_12 : decode cL_meanToldBits 12 = .ok (.ireturn, 1) := by decide +kernel
theorem dL_meanToldBits_13 : decode cL_meanToldBits 13 = .ok (.iconst 0, 1) := by decide +kernel
theorem dL_meanToldBits_14 : decode cL_meanToldBits 14 = .ok (.ireturn, 1) := by decide +kernel
theorem dL_law_0 : decode cL_law 0 = .ok (.new 8, 3) := by decide +kernel
theorem dL_law_3 : decode cL_law 3 = .ok (.dup, 1) := by decide +kernel
theorem dL_law_4 : decode cL_law 4 = .ok (.invokespecial 176, 3) := by decide +kernel
theorem dL_law_7 : decode cL_law 7 = .ok (.astore_n 1, 1) := by decide +kernel
theorem dL_law_8 : decode cL_law 8 = .ok (.new 177, 3) := by decide +kernel
theorem dL_law_11 : decode cL_law 11 = .ok (.dup, 1) := by decide +kernel
theorem dL_law_12 : decode cL_law 12 = .ok (.invokespecial 179, 3) := by decide +kernel
theorem dL_law_15 : decode cL_law 15 = .ok (.astore_n 2, 1) := by decide +kernel
theorem dL_law_16 : decode cL_law 16 = .ok (.iconst 1, 1) := by decide +kernel
theorem dL_law_17 : decode cL_law 17 = .ok (.newarray .long, 2) := by decide +kernel
theorem dL_law_19 : decode cL_law 19 = .ok (.astore_n 3, 1) := by decide +kernel
theorem dL_law_20 : decode cL_law 20 = .ok (.iconst 1, 1) := by decide +kernel
theorem dL_law_21 : decode cL_law 21 = .ok (.newarray .double, 2) := by decide +kernel
theorem dL_law_23 : decode cL_law 23 = .ok (.astore 4, 2) := by decide +kernel
theorem dL_law_25 : decode cL_law 25 = .ok (.iconst 0, 1) := by decide +kernel
theorem dL_law_26 : decode cL_law 26 = .ok (.istore 5, 2) := by decide +kernel
theorem dL_law_28 : decode cL_law 28 = .ok (.iload 5, 2) := by decide +kernel
theorem dL_law_30 : decode cL_law 30 = .ok (.aload_n 0, 1) := by decide +kernel
theorem dL_law_31 : decode cL_law 31 = .ok (.arraylength, 1) := by decide +kernel
theorem dL_law_32 : decode cL_law 32 = .ok (.iconst 5, 1) := by decide +kernel
theorem dL_law_33 : decode cL_law 33 = .ok (.isub, 1) := by decide +kernel
theorem dL_law_34 : decode cL_law 34 = .ok (.if_icmp .gt 3474, 3) := by decide +kernel
theorem dL_law_37 : decode cL_law 37 = .ok (.aload_n 0, 1) := by decide +kernel
theorem dL_law_38 : decode cL_law 38 = .ok (.iload 5, 2) := by decide +kernel
theorem dL_law_40 : decode cL_law 40 = .ok (.iaload, 1) := by decide +kernel
theorem dL_law_41 : decode cL_law 41 = .ok (.bipush 63, 2) := by decide +kernel
theorem dL_law_43 : decode cL_law 43 = .ok (.iand, 1) := by decide +kernel
theorem dL_law_44 : decode cL_law 44 = .ok (.tableswitch 3458 0 51 #[224, 280, 348, 416, 512, 587, 643, 711, 779, 871, 951, 1038, 1125, 1193, 1261, 1329, 1385, 1465, 1521, 1589, 1602, 1658, 1738, 1818, 1874, 1932, 1945, 2001, 2057, 2125, 2205, 2273, 2353, 2409, 2477, 2545, 2601, 2657, 2737, 2805, 2873, 2917, 2930, 2986, 3078, 3134, 3147, 3203, 3281, 3337, 3402, 3445], 224) := by decide +kernel
theorem dL_law_268 : decode cL_law 268 = .ok (.aload_n 1, 1) := by decide +kernel
theorem dL_law_269 : decode cL_law 269 = .ok (.aload_n 0, 1) := by decide +kernel
theorem dL_law_270 : decode cL_law 270 = .ok (.iload 5, 2) := by decide +kernel
theorem dL_law_272 : decode cL_law 272 = .ok (.iconst 1, 1) := by decide +kernel
theorem dL_law_273 : decode cL_law 273 = .ok (.iadd, 1) := by decide +kernel
theorem dL_law_274 : decode cL_law 274 = .ok (.iaload, 1) := by decide +kernel
theorem dL_law_275 : decode cL_law 275 = .ok (.aload_n 3, 1) := by decide +kernel
theorem dL_law_276 : decode cL_law 276 = .ok (.invokestatic 180, 3) := by decide +kernel
theorem dL_law_279 : decode cL_law 279 = .ok (.istore 6, 2) := by decide +kernel
theorem dL_law_281 : decode cL_law 281 = .ok (.aload_n 2, 1) := by decide +kernel
theorem dL_law_282 : decode cL_law 282 = .ok (.aload_n 0, 1) := by decide +kernel
theorem dL_law_283 : decode cL_law 283 = .ok (.iload 5, 2) := by decide +kernel
theorem dL_law_285 : decode cL_law 285 = .ok (.iconst 1, 1) := by decide +kernel
theorem dL_law_286 : decode cL_law 286 = .ok (.iadd, 1) := by decide +kernel
theorem dL_law_287 : decode cL_law 287 = .ok (.iaload, 1) := by decide +kernel
theorem dL_law_288 : decode cL_law 288 = .ok (.invokevirtual 185, 3) := by decide +kernel
theorem dL_law_291 : decode cL_law 291 = .ok (.istore 7, 2) := by decide +kernel
theorem dL_law_293 : decode cL_law 293 = .ok (.aload_n 2, 1) := by decide +kernel
theorem dL_law_294 : decode cL_law 294 = .ok (.invokevirtual 186, 3) := by decide +kernel
theorem dL_law_297 : decode cL_law 297 = .ok (.iload 6, 2) := by decide +kernel
theorem dL_law_299 : decode cL_law 299 = .ok (.if_icmp .eq 5, 3) := by decide +kernel
theorem dL_law_302 : decode cL_law 302 = .ok (.iconst 0, 1) := by decide +kernel
theorem dL_law_303 : decode cL_law 303 = .ok (.ireturn, 1) := by decide +kernel
theorem dL_law_304 : decode cL_law 304 = .ok (.iload 6, 2) := by decide +kernel
theorem dL_law_306 : decode cL_law 306 = .ok (.ifCond .ne 15, 3) := by decide +kernel
theorem dL_law_309 : decode cL_law 309 = .ok (.aload_n 3, 1) := by decide +kernel
theorem dL_law_310 : decode cL_law 310 = .ok (.iconst 0, 1) := by decide +kernel
theorem dL_law_311 : decode cL_law 311 = .ok (.laload, 1) := by decide +kernel
theorem dL_law_312 : decode cL_law 312 = .ok (.iload 7, 2) := by decide +kernel
theorem dL_law_314 : decode cL_law 314 = .ok (.i2l, 1) := by decide +kernel
theorem dL_law_315 : decode cL_law 315 = .ok (.lcmp, 1) := by decide +kernel
theorem dL_law_316 : decode cL_law 316 = .ok (.ifCond .eq 5, 3) := by decide +kernel
theorem dL_law_319 : decode cL_law 319 = .ok (.iconst 0, 1) := by decide +kernel
theorem dL_law_320 : decode cL_law 320 = .ok (.ireturn, 1) := by decide +kernel
theorem dL_law_321 : decode cL_law 321 = .ok (.goto 3181, 3) := by decide +kernel
theorem dL_law_324 : decode cL_law 324 = .ok (.aload_n 1, 1) := by decide +kernel
theorem dL_law_325 : decode cL_law 325 = .ok (.aload_n 0, 1) := by decide +kernel
theorem dL_law_326 : decode cL_law 326 = .ok (.iload 5, 2) := by decide +kernel
theorem dL_law_328 : decode cL_law 328 = .ok (.iconst 1, 1) := by decide +kernel
theorem dL_law_329 : decode cL_law 329 = .ok (.iadd, 1) := by decide +kernel
theorem dL_law_330 : decode cL_law 330 = .ok (.iaload, 1) := by decide +kernel
theorem dL_law_331 : decode cL_law 331 = .ok (.aload_n 0, 1) := by decide +kernel
theorem dL_law_332 : decode cL_law 332 = .ok (.iload 5, 2) := by decide +kernel
theorem dL_law_334 : decode cL_law 334 = .ok (.iconst 2, 1) := by decide +kernel
theorem dL_law_335 : decode cL_law 335 = .ok (.iadd, 1) := by decide +kernel
theorem dL_law_336 : decode cL_law 336 = .ok (.iaload, 1) := by decide +kernel
theorem dL_law_337 : decode cL_law 337 = .ok (.aload_n 3, 1) := by decide +kernel
theorem dL_law_338 : decode cL_law 338 = .ok (.invokestatic 189, 3) := by decide +kernel
theorem dL_law_341 : decode cL_law 341 = .ok (.istore 6, 2) := by decide +kernel
theorem dL_law_343 : decode cL_law 343 = .ok (.aload_n 2, 1) := by decide +kernel
theorem dL_law_344 : decode cL_law 344 = .ok (.aload_n 0, 1) := by decide +kernel
theorem dL_law_345 : decode cL_law 345 = .ok (.iload 5, 2) := by decide +kernel
theorem dL_law_347 : decode cL_law 347 = .ok (.iconst 1, 1) := by decide +kernel
theorem dL_law_348 : decode cL_law 348 = .ok (.iadd, 1) := by decide +kernel
theorem dL_law_349 : decode cL_law 349 = .ok (.iaload, 1) := by decide +kernel
theorem dL_law_350 : decode cL_law 350 = .ok (.aload_n 0, 1) := by decide +kernel
theorem dL_law_351 : decode cL_law 351 = .ok (.iload 5, 2) := by decide +kernel
theorem dL_law_353 : decode cL_law 353 = .ok (.iconst 2, 1) := by decide +kernel
theorem dL_law_354 : decode cL_law 354 = .ok (.iadd, 1) := by decide +kernel
theorem dL_law_355 : decode cL_law 355 = .ok (.iaload, 1) := by decide +kernel
theorem dL_law_356 : decode cL_law 356 = .ok (.invokevirtual 192, 3) := by decide +kernel
theorem dL_law_359 : decode cL_law 359 = .ok (.istore 7, 2) := by decide +kernel
theorem dL_law_361 : decode cL_law 361 = .ok (.aload_n 2, 1) := by decide +kernel
theorem dL_law_362 : decode cL_law 362 = .ok (.invokevirtual 186, 3) := by decide +kernel
theorem dL_law_365 : decode cL_law 365 = .ok (.iload 6, 2) := by decide +kernel
theorem dL_law_367 : decode cL_law 367 = .ok (.if_icmp .eq 5, 3) := by decide +kernel
theorem dL_law_370 : decode cL_law 370 = .ok (.iconst 0, 1) := by decide +kernel
theorem dL_law_371 : decode cL_law 371 = .ok (.ireturn, 1) := by decide +kernel
theorem dL_law_372 : decode cL_law 372 = .ok (.iload 6, 2) := by decide +kernel
theorem dL_law_374 : decode cL_law 374 = .ok (.ifCond .ne 15, 3) := by decide +kernel
theorem dL_law_377 : decode cL_law 377 = .ok (.aload_n 3, 1) := by decide +kernel
theorem dL_law_378 : decode cL_law 378 = .ok (.iconst 0, 1) := by decide +kernel
theorem dL_law_379 : decode cL_law 379 = .ok (.laload, 1) := by decide +kernel
theorem dL_law_380 : decode cL_law 380 = .ok (.iload 7, 2) := by decide +kernel
theorem dL_law_382 : decode cL_law 382 = .ok (.i2l, 1) := by decide +kernel
theorem dL_law_383 : decode cL_law 383 = .ok (.lcmp, 1) := by decide +kernel
theorem dL_law_384 : decode cL_law 384 = .ok (.ifCond .eq 5, 3) := by decide +kernel
theorem dL_law_387 : decode cL_law 387 = .ok (.iconst 0, 1) := by decide +kernel
theorem dL_law_388 : decode cL_law 388 = .ok (.ireturn, 1) := by decide +kernel
theorem dL_law_389 : decode cL_law 389 = .ok (.goto 3113, 3) := by decide +kernel
theorem dL_law_392 : decode cL_law 392 = .ok (.aload_n 1, 1) := by decide +kernel
theorem dL_law_393 : decode cL_law 393 = .ok (.aload_n 0, 1) := by decide +kernel
theorem dL_law_394 : decode cL_law 394 = .ok (.iload 5, 2) := by decide +kernel
theorem dL_law_396 : decode cL_law 396 = .ok (.iconst 1, 1) := by decide +kernel
theorem dL_law_397 : decode cL_law 397 = .ok (.iadd, 1) := by decide +kernel
theorem dL_law_398 : decode cL_law 398 = .ok (.iaload, 1) := by decide +kernel
theorem dL_law_399 : decode cL_law 399 = .ok (.aload_n 0, 1) := by decide +kernel
theorem dL_law_400 : decode cL_law 400 = .ok (.iload 5, 2) := by decide +kernel
theorem dL_law_402 : decode cL_law 402 = .ok (.iconst 2, 1) := by decide +kernel
theorem dL_law_403 : decode cL_law 403 = .ok (.iadd, 1) := by decide +kernel
theorem dL_law_404 : decode cL_law 404 = .ok (.iaload, 1) := by decide +kernel
theorem dL_law_405 : decode cL_law 405 = .ok (.aload_n 3, 1) := by decide +kernel
theorem dL_law_406 : decode cL_law 406 = .ok (.invokestatic 193, 3) := by decide +kernel
theorem dL_law_409 : decode cL_law 409 = .ok (.istore 6, 2) := by decide +kernel
theorem dL_law_411 : decode cL_law 411 = .ok (.aload_n 2, 1) := by decide +kernel
theorem dL_law_412 : decode cL_law 412 = .ok (.aload_n 0, 1) := by decide +kernel
theorem dL_law_413 : decode cL_law 413 = .ok (.iload 5, 2) := by decide +kernel
theorem dL_law_415 : decode cL_law 415 = .ok (.iconst 1, 1) := by decide +kernel
theorem dL_law_416 : decode cL_law 416 = .ok (.iadd, 1) := by decide +kernel
theorem dL_law_417 : decode cL_law 417 = .ok (.iaload, 1) := by decide +kernel
theorem dL_law_418 : decode cL_law 418 = .ok (.aload_n 0, 1) := by decide +kernel
theorem dL_law_419 : decode cL_law 419 = .ok (.iload 5, 2) := by decide +kernel
theorem dL_law_421 : decode cL_law 421 = .ok (.iconst 2, 1) := by decide +kernel
theorem dL_law_422 : decode cL_law 422 = .ok (.iadd, 1) := by decide +kernel
theorem dL_law_423 : decode cL_law 423 = .ok (.iaload, 1) := by decide +kernel
theorem dL_law_424 : decode cL_law 424 = .ok (.invokevirtual 195, 3) := by decide +kernel
theorem dL_law_427 : decode cL_law 427 = .ok (.istore 7, 2) := by decide +kernel
theorem dL_law_429 : decode cL_law 429 = .ok (.aload_n 2, 1) := by decide +kernel
theorem dL_law_430 : decode cL_law 430 = .ok (.invokevirtual 186, 3) := by decide +kernel
theorem dL_law_433 : decode cL_law 433 = .ok (.iload 6, 2) := by decide +kernel
theorem dL_law_435 : decode cL_law 435 = .ok (.if_icmp .eq 5, 3) := by decide +kernel
theorem dL_law_438 : decode cL_law 438 = .ok (.iconst 0, 1) := by decide +kernel
theorem dL_law_439 : decode cL_law 439 = .ok (.ireturn, 1) := by decide +kernel
theorem dL_law_440 : decode cL_law 440 = .ok (.iload 6, 2) := by decide +kernel
theorem dL_law_442 : decode cL_law 442 = .ok (.ifCond .ne 15, 3) := by decide +kernel
theorem dL_law_445 : decode cL_law 445 = .ok (.aload_n 3, 1) := by decide +kernel
theorem dL_law_446 : decode cL_law 446 = .ok (.iconst 0, 1) := by decide +kernel
theorem dL_law_447 : decode cL_law 447 = .ok (.laload, 1) := by decide +kernel
theorem dL_law_448 : decode cL_law 448 = .ok (.iload 7, 2) := by decide +kernel
theorem dL_law_450 : decode cL_law 450 = .ok (.i2l, 1) := by decide +kernel
theorem dL_law_451 : decode cL_law 451 = .ok (.lcmp, 1) := by decide +kernel
theorem dL_law_452 : decode cL_law 452 = .ok (.ifCond .eq 5, 3) := by decide +kernel
theorem dL_law_455 : decode cL_law 455 = .ok (.iconst 0, 1) := by decide +kernel
theorem dL_law_456 : decode cL_law 456 = .ok (.ireturn, 1) := by decide +kernel
theorem dL_law_457 : decode cL_law 457 = .ok (.goto 3045, 3) := by decide +kernel
theorem dL_law_460 : decode cL_law 460 = .ok (.aload_n 1, 1) := by decide +kernel
theorem dL_law_461 : decode cL_law 461 = .ok (.aload_n 0, 1) := by decide +kernel
theorem dL_law_462 : decode cL_law 462 = .ok (.iload 5, 2) := by decide +kernel
theorem dL_law_464 : decode cL_law 464 = .ok (.iconst 1, 1) := by decide +kernel
theorem dL_law_465 : decode cL_law 465 = .ok (.iadd, 1) := by decide +kernel
theorem dL_law_466 : decode cL_law 466 = .ok (.iaload, 1) := by decide +kernel
theorem dL_law_467 : decode cL_law 467 = .ok (.aload_n 0, 1) := by decide +kernel
theorem dL_law_468 : decode cL_law 468 = .ok (.iload 5, 2) := by decide +kernel
theorem dL_law_470 : decode cL_law 470 = .ok (.iconst 2, 1) := by decide +kernel
theorem dL_law_471 : decode cL_law 471 = .ok (.iadd, 1) := by decide +kernel
theorem dL_law_472 : decode cL_law 472 = .ok (.iaload, 1) := by decide +kernel
theorem dL_law_473 : decode cL_law 473 = .ok (.aload_n 0, 1) := by decide +kernel
theorem dL_law_474 : decode cL_law 474 = .ok (.iload 5, 2) := by decide +kernel
theorem dL_law_476 : decode cL_law 476 = .ok (.iconst 3, 1) := by decide +kernel
theorem dL_law_477 : decode cL_law 477 = .ok (.iadd, 1) := by decide +kernel
theorem dL_law_478 : decode cL_law 478 = .ok (.iaload, 1) := by decide +kernel
theorem dL_law_479 : decode cL_law 479 = .ok (.ifCond .eq 7, 3) := by decide +kernel
theorem dL_law_482 : decode cL_law 482 = .ok (.iconst 1, 1) := by decide +kernel
theorem dL_law_483 : decode cL_law 483 = .ok (.goto 4, 3) := by decide +kernel
theorem dL_law_486 : decode cL_law 486 = .ok (.iconst 0, 1) := by decide +kernel
theorem dL_law_487 : decode cL_law 487 = .ok (.aload_n 3, 1) := by decide +kernel
theorem dL_law_488 : decode cL_law 488 = .ok (.invokestatic 196, 3) := by decide +kernel
theorem dL_law_491 : decode cL_law 491 = .ok (.istore 6, 2) := by decide +kernel
theorem dL_law_493 : decode cL_law 493 = .ok (.aload_n 2, 1) := by decide +kernel
theorem dL_law_494 : decode cL_law 494 = .ok (.aload_n 0, 1) := by decide +kernel
theorem dL_law_495 : decode cL_law 495 = .ok (.iload 5, 2) := by decide +kernel
theorem dL_law_497 : decode cL_law 497 = .ok (.iconst 1, 1) := by decide +kernel
theorem dL_law_498 : decode cL_law 498 = .ok (.iadd, 1) := by decide +kernel
theorem dL_law_499 : decode cL_law 499 = .ok (.iaload, 1) := by decide +kernel
theorem dL_law_500 : decode cL_law 500 = .ok (.aload_n 0, 1) := by decide +kernel
theorem dL_law_501 : decode cL_law 501 = .ok (.iload 5, 2) := by decide +kernel
theorem dL_law_503 : decode cL_law 503 = .ok (.iconst 2, 1) := by decide +kernel
theorem dL_law_504 : decode cL_law 504 = .ok (.iadd, 1) := by decide +kernel
theorem dL_law_505 : decode cL_law 505 = .ok (.iaload, 1) := by decide +kernel
theorem dL_law_506 : decode cL_law 506 = .ok (.aload_n 0, 1) := by decide +kernel
theorem dL_law_507 : decode cL_law 507 = .ok (.iload 5, 2) := by decide +kernel
theorem dL_law_509 : decode cL_law 509 = .ok (.iconst 3, 1) := by decide +kernel
theorem dL_law_510 : decode cL_law 510 = .ok (.iadd, 1) := by decide +kernel
theorem dL_law_511 : decode cL_law 511 = .ok (.iaload, 1) := by decide +kernel
theorem dL_law_512 : decode cL_law 512 = .ok (.ifCond .eq 7, 3) := by decide +kernel
theorem dL_law_515 : decode cL_law 515 = .ok (.iconst 1, 1) := by decide +kernel
theorem dL_law_516 : decode cL_law 516 = .ok (.goto 4, 3) := by decide +kernel
theorem dL_law_519 : decode cL_law 519 = .ok (.iconst 0, 1) := by decide +kernel
theorem dL_law_520 : decode cL_law 520 = .ok (.invokevirtual 199, 3) := by decide +kernel
theorem dL_law_523 : decode cL_law 523 = .ok (.istore 7, 2) := by decide +kernel
theorem dL_law_525 : decode cL_law 525 = .ok (.aload_n 2, 1) := by decide +kernel
theorem dL_law_526 : decode cL_law 526 = .ok (.invokevirtual 186, 3) := by decide +kernel
theorem dL_law_529 : decode cL_law 529 = .ok (.iload 6, 2) := by decide +kernel
theorem dL_law_531 : decode cL_law 531 = .ok (.if_icmp .eq 5, 3) := by decide +kernel
theorem dL_law_534 : decode cL_law 534 = .ok (.iconst 0, 1) := by decide +kernel
theorem dL_law_535 : decode cL_law 535 = .ok (.ireturn, 1) := by decide +kernel
theorem dL_law_536 : decode cL_law 536 = .ok (.iload 6, 2) := by decide +kernel
theorem dL_law_538 : decode cL_law 538 = .ok (.ifCond .ne 15, 3) := by decide +kernel
theorem dL_law_541 : decode cL_law 541 = .ok (.aload_n 3, 1) := by decide +kernel
theorem dL_law_542 : decode cL_law 542 = .ok (.iconst 0, 1) := by decide +kernel
theorem dL_law_543 : decode cL_law 543 = .ok (.laload, 1) := by decide +kernel
theorem dL_law_544 : decode cL_law 544 = .ok (.iload 7, 2) := by decide +kernel
theorem dL_law_546 : decode cL_law 546 = .ok (.i2l, 1) := by decide +kernel
theorem dL_law_547 : decode cL_law 547 = .ok (.lcmp, 1) := by decide +kernel
theorem dL_law_548 : decode cL_law 548 = .ok (.ifCond .eq 5, 3) := by decide +kernel
theorem dL_law_551 : decode cL_law 551 = .ok (.iconst 0, 1) := by decide +kernel
theorem dL_law_552 : decode cL_law 552 = .ok (.ireturn, 1) := by decide +kernel
theorem dL_law_553 : decode cL_law 553 = .ok (.goto 2949, 3) := by decide +kernel
theorem dL_law_556 : decode cL_law 556 = .ok (.aload_n 1, 1) := by decide +kernel
theorem dL_law_557 : decode cL_law 557 = .ok (.aload_n 0, 1) := by decide +kernel
theorem dL_law_558 : decode cL_law 558 = .ok (.iload 5, 2) := by decide +kernel
theorem dL_law_560 : decode cL_law 560 = .ok (.iconst 1, 1) := by decide +kernel
theorem dL_law_561 : decode cL_law 561 = .ok (.iadd, 1) := by decide +kernel
theorem dL_law_562 : decode cL_law 562 = .ok (.iaload, 1) := by decide +kernel
theorem dL_law_563 : decode cL_law 563 = .ok (.aload_n 0, 1) := by decide +kernel
theorem dL_law_564 : decode cL_law 564 = .ok (.iload 5, 2) := by decide +kernel
theorem dL_law_566 : decode cL_law 566 = .ok (.iconst 2, 1) := by decide +kernel
theorem dL_law_567 : decode cL_law 567 = .ok (.iadd, 1) := by decide +kernel
theorem dL_law_568 : decode cL_law 568 = .ok (.iaload, 1) := by decide +kernel
theorem dL_law_569 : decode cL_law 569 = .ok (.aload_n 3, 1) := by decide +kernel
theorem dL_law_570 : decode cL_law 570 = .ok (.invokestatic 200, 3) := by decide +kernel
theorem dL_law_573 : decode cL_law 573 = .ok (.istore 6, 2) := by decide +kernel
theorem dL_law_575 : decode cL_law 575 = .ok (.aload_n 2, 1) := by decide +kernel
theorem dL_law_576 : decode cL_law 576 = .ok (.aload_n 0, 1) := by decide +kernel
theorem dL_law_577 : decode cL_law 577 = .ok (.iload 5, 2) := by decide +kernel
theorem dL_law_579 : decode cL_law 579 = .ok (.iconst 1, 1) := by decide +kernel
theorem dL_law_580 : decode cL_law 580 = .ok (.iadd, 1) := by decide +kernel
theorem dL_law_581 : decode cL_law 581 = .ok (.iaload, 1) := by decide +kernel
theorem dL_law_582 : decode cL_law 582 = .ok (.aload_n 0, 1) := by decide +kernel
theorem dL_law_583 : decode cL_law 583 = .ok (.iload 5, 2) := by decide +kernel
theorem dL_law_585 : decode cL_law 585 = .ok (.iconst 2, 1) := by decide +kernel
theorem dL_law_586 : decode cL_law 586 = .ok (.iadd, 1) := by decide +kernel
theorem dL_law_587 : decode cL_law 587 = .ok (.iaload, 1) := by decide +kernel
theorem dL_law_588 : decode cL_law 588 = .ok (.invokevirtual 202, 3) := by decide +kernel
theorem dL_law_591 : decode cL_law 591 = .ok (.istore 7, 2) := by decide +kernel
theorem dL_law_593 : decode cL_law 593 = .ok (.aload_n 2, 1) := by decide +kernel
theorem dL_law_594 : decode cL_law 594 = .ok (.invokevirtual 186, 3) := by decide +kernel
theorem dL_law_597 : decode cL_law 597 = .ok (.iload 6, 2) := by decide +kernel
theorem dL_law_599 : decode cL_law 599 = .ok (.if_icmp .eq 5, 3) := by decide +kernel
theorem dL_law_602 : decode cL_law 602 = .ok (.iconst 0, 1) := by decide +kernel
theorem dL_law_603 : decode cL_law 603 = .ok (.ireturn, 1) := by decide +kernel
theorem dL_law_604 : decode cL_law 604 = .ok (.iload 6, 2) := by decide +kernel
theorem dL_law_606 : decode cL_law 606 = .ok (.ifCond .ne 22, 3) := by decide +kernel
theorem dL_law_609 : decode cL_law 609 = .ok (.aload_n 3, 1) := by decide +kernel
theorem dL_law_610 : decode cL_law 610 = .ok (.iconst 0, 1) := by decide +kernel
theorem dL_law_611 : decode cL_law 611 = .ok (.laload, 1) := by decide +kernel
theorem dL_law_612 : decode cL_law 612 = .ok (.iload 7, 2) := by decide +kernel
theorem dL_law_614 : decode cL_law 614 = .ok (.ifCond .eq 7, 3) := by decide +kernel
theorem dL_law_617 : decode cL_law 617 = .ok (.lconst 1, 1) := by decide +kernel
theorem dL_law_618 : decode cL_law 618 = .ok (.goto 4, 3) := by decide +kernel
theorem dL_law_621 : decode cL_law 621 = .ok (.lconst 0, 1) := by decide +kernel
theorem dL_law_622 : decode cL_law 622 = .ok (.lcmp, 1) := by decide +kernel
theorem dL_law_623 : decode cL_law 623 = .ok (.ifCond .eq 5, 3) := by decide +kernel
theorem dL_law_626 : decode cL_law 626 = .ok (.iconst 0, 1) := by decide +kernel
theorem dL_law_627 : decode cL_law 627 = .ok (.ireturn, 1) := by decide +kernel
theorem dL_law_628 : decode cL_law 628 = .ok (.goto 2874, 3) := by decide +kernel
theorem dL_law_631 : decode cL_law 631 = .ok (.aload_n 1, 1) := by decide +kernel
theorem dL_law_632 : decode cL_law 632 = .ok (.aload_n 0, 1) := by decide +kernel
theorem dL_law_633 : decode cL_law 633 = .ok (.iload 5, 2) := by decide +kernel
theorem dL_law_635 : decode cL_law 635 = .ok (.iconst 1, 1) := by decide +kernel
theorem dL_law_636 : decode cL_law 636 = .ok (.iadd, 1) := by decide +kernel
theorem dL_law_637 : decode cL_law 637 = .ok (.iaload, 1) := by decide +kernel
theorem dL_law_638 : decode cL_law 638 = .ok (.aload_n 3, 1) := by decide +kernel
theorem dL_law_639 : decode cL_law 639 = .ok (.invokestatic 203, 3) := by decide +kernel
theorem dL_law_642 : decode cL_law 642 = .ok (.istore 6, 2) := by decide +kernel
theorem dL_law_644 : decode cL_law 644 = .ok (.aload_n 2, 1) := by decide +kernel
theorem dL_law_645 : decode cL_law 645 = .ok (.aload_n 0, 1) := by decide +kernel
theorem dL_law_646 : decode cL_law 646 = .ok (.iload 5, 2) := by decide +kernel
theorem dL_law_648 : decode cL_law 648 = .ok (.iconst 1, 1) := by decide +kernel
theorem dL_law_649 : decode cL_law 649 = .ok (.iadd, 1) := by decide +kernel
theorem dL_law_650 : decode cL_law 650 = .ok (.iaload, 1) := by decide +kernel
theorem dL_law_651 : decode cL_law 651 = .ok (.invokevirtual 205, 3) := by decide +kernel
theorem dL_law_654 : decode cL_law 654 = .ok (.istore 7, 2) := by decide +kernel
theorem dL_law_656 : decode cL_law 656 = .ok (.aload_n 2, 1) := by decide +kernel
theorem dL_law_657 : decode cL_law 657 = .ok (.invokevirtual 186, 3) := by decide +kernel
theorem dL_law_660 : decode cL_law 660 = .ok (.iload 6, 2) := by decide +kernel
theorem dL_law_662 : decode cL_law 662 = .ok (.if_icmp .eq 5, 3) := by decide +kernel
theorem dL_law_665 : decode cL_law 665 = .ok (.iconst 0, 1) := by decide +kernel
theorem dL_law_666 : decode cL_law 666 = .ok (.ireturn, 1) := by decide +kernel
theorem dL_law_667 : decode cL_law 667 = .ok (.iload 6, 2) := by decide +kernel
theorem dL_law_669 : decode cL_law 669 = .ok (.ifCond .ne 15, 3) := by decide +kernel
theorem dL_law_672 : decode cL_law 672 = .ok (.aload_n 3, 1) := by decide +kernel
theorem dL_law_673 : decode cL_law 673 = .ok (.iconst 0, 1) := by decide +kernel
theorem dL_law_674 : decode cL_law 674 = .ok (.laload, 1) := by decide +kernel
theorem dL_law_675 : decode cL_law 675 = .ok (.iload 7, 2) := by decide +kernel
theorem dL_law_677 : decode cL_law 677 = .ok (.i2l, 1) := by decide +kernel
theorem dL_law_678 : decode cL_law 678 = .ok (.lcmp, 1) := by decide +kernel
theorem dL_law_679 : decode cL_law 679 = .ok (.ifCond .eq 5, 3) := by decide +kernel
theorem dL_law_682 : decode cL_law 682 = .ok (.iconst 0, 1) := by decide +kernel
theorem dL_law_683 : decode cL_law 683 = .ok (.ireturn, 1) := by decide +kernel
theorem dL_law_684 : decode cL_law 684 = .ok (.goto 2818, 3) := by decide +kernel
theorem dL_law_687 : decode cL_law 687 = .ok (.aload_n 1, 1) := by decide +kernel
theorem dL_law_688 : decode cL_law 688 = .ok (.aload_n 0, 1) := by decide +kernel
theorem dL_law_689 : decode cL_law 689 = .ok (.iload 5, 2) := by decide +kernel
theorem dL_law_691 : decode cL_law 691 = .ok (.iconst 1, 1) := by decide +kernel
theorem dL_law_692 : decode cL_law 692 = .ok (.iadd, 1) := by decide +kernel
theorem dL_law_693 : decode cL_law 693 = .ok (.iaload, 1) := by decide +kernel
theorem dL_law_694 : decode cL_law 694 = .ok (.aload_n 0, 1) := by decide +kernel
theorem dL_law_695 : decode cL_law 695 = .ok (.iload 5, 2) := by decide +kernel
theorem dL_law_697 : decode cL_law 697 = .ok (.iconst 2, 1) := by decide +kernel
theorem dL_law_698 : decode cL_law 698 = .ok (.iadd, 1) := by decide +kernel
theorem dL_law_699 : decode cL_law 699 = .ok (.iaload, 1) := by decide +kernel
theorem dL_law_700 : decode cL_law 700 = .ok (.aload_n 3, 1) := by decide +kernel
theorem dL_law_701 : decode cL_law 701 = .ok (.invokestatic 206, 3) := by decide +kernel
theorem dL_law_704 : decode cL_law 704 = .ok (.istore 6, 2) := by decide +kernel
theorem dL_law_706 : decode cL_law 706 = .ok (.aload_n 2, 1) := by decide +kernel
theorem dL_law_707 : decode cL_law 707 = .ok (.aload_n 0, 1) := by decide +kernel
theorem dL_law_708 : decode cL_law 708 = .ok (.iload 5, 2) := by decide +kernel
theorem dL_law_710 : decode cL_law 710 = .ok (.iconst 1, 1) := by decide +kernel
theorem dL_law_711 : decode cL_law 711 = .ok (.iadd, 1) := by decide +kernel
theorem dL_law_712 : decode cL_law 712 = .ok (.iaload, 1) := by decide +kernel
theorem dL_law_713 : decode cL_law 713 = .ok (.aload_n 0, 1) := by decide +kernel
theorem dL_law_714 : decode cL_law 714 = .ok (.iload 5, 2) := by decide +kernel
theorem dL_law_716 : decode cL_law 716 = .ok (.iconst 2, 1) := by decide +kernel
theorem dL_law_717 : decode cL_law 717 = .ok (.iadd, 1) := by decide +kernel
theorem dL_law_718 : decode cL_law 718 = .ok (.iaload, 1) := by decide +kernel
theorem dL_law_719 : decode cL_law 719 = .ok (.invokevirtual 208, 3) := by decide +kernel
theorem dL_law_722 : decode cL_law 722 = .ok (.istore 7, 2) := by decide +kernel
theorem dL_law_724 : decode cL_law 724 = .ok (.aload_n 2, 1) := by decide +kernel
theorem dL_law_725 : decode cL_law 725 = .ok (.invokevirtual 186, 3) := by decide +kernel
theorem dL_law_728 : decode cL_law 728 = .ok (.iload 6, 2) := by decide +kernel
theorem dL_law_730 : decode cL_law 730 = .ok (.if_icmp .eq 5, 3) := by decide +kernel
theorem dL_law_733 : decode cL_law 733 = .ok (.iconst 0, 1) := by decide +kernel
theorem dL_law_734 : decode cL_law 734 = .ok (.ireturn, 1) := by decide +kernel
theorem dL_law_735 : decode cL_law 735 = .ok (.iload 6, 2) := by decide +kernel
theorem dL_law_737 : decode cL_law 737 = .ok (.ifCond .ne 15, 3) := by decide +kernel
theorem dL_law_740 : decode cL_law 740 = .ok (.aload_n 3, 1) := by decide +kernel
theorem dL_law_741 : decode cL_law 741 = .ok (.iconst 0, 1) := by decide +kernel
theorem dL_law_742 : decode cL_law 742 = .ok (.laload, 1) := by decide +kernel
theorem dL_law_743 : decode cL_law 743 = .ok (.iload 7, 2) := by decide +kernel
theorem dL_law_745 : decode cL_law 745 = .ok (.i2l, 1) := by decide +kernel
theorem dL_law_746 : decode cL_law 746 = .ok (.lcmp, 1) := by decide +kernel
theorem dL_law_747 : decode cL_law 747 = .ok (.ifCond .eq 5, 3) := by decide +kernel
theorem dL_law_750 : decode cL_law 750 = .ok (.iconst 0, 1) := by decide +kernel
theorem dL_law_751 : decode cL_law 751 = .ok (.ireturn, 1) := by decide +kernel
theorem dL_law_752 : decode cL_law 752 = .ok (.goto 2750, 3) := by decide +kernel
theorem dL_law_755 : decode cL_law 755 = .ok (.aload_n 1, 1) := by decide +kernel
theorem dL_law_756 : decode cL_law 756 = .ok (.aload_n 0, 1) := by decide +kernel
theorem dL_law_757 : decode cL_law 757 = .ok (.iload 5, 2) := by decide +kernel
theorem dL_law_759 : decode cL_law 759 = .ok (.iconst 1, 1) := by decide +kernel
theorem dL_law_760 : decode cL_law 760 = .ok (.iadd, 1) := by decide +kernel
theorem dL_law_761 : decode cL_law 761 = .ok (.iaload, 1) := by decide +kernel
theorem dL_law_762 : decode cL_law 762 = .ok (.aload_n 0, 1) := by decide +kernel
theorem dL_law_763 : decode cL_law 763 = .ok (.iload 5, 2) := by decide +kernel
theorem dL_law_765 : decode cL_law 765 = .ok (.iconst 2, 1) := by decide +kernel
theorem dL_law_766 : decode cL_law 766 = .ok (.iadd, 1) := by decide +kernel
theorem dL_law_767 : decode cL_law 767 = .ok (.iaload, 1) := by decide +kernel
theorem dL_law_768 : decode cL_law 768 = .ok (.aload_n 3, 1) := by decide +kernel
theorem dL_law_769 : decode cL_law 769 = .ok (.invokestatic 209, 3) := by decide +kernel
theorem dL_law_772 : decode cL_law 772 = .ok (.istore 6, 2) := by decide +kernel
theorem dL_law_774 : decode cL_law 774 = .ok (.aload_n 2, 1) := by decide +kernel
theorem dL_law_775 : decode cL_law 775 = .ok (.aload_n 0, 1) := by decide +kernel
theorem dL_law_776 : decode cL_law 776 = .ok (.iload 5, 2) := by decide +kernel
theorem dL_law_778 : decode cL_law 778 = .ok (.iconst 1, 1) := by decide +kernel
theorem dL_law_779 : decode cL_law 779 = .ok (.iadd, 1) := by decide +kernel
theorem dL_law_780 : decode cL_law 780 = .ok (.iaload, 1) := by decide +kernel
theorem dL_law_781 : decode cL_law 781 = .ok (.aload_n 0, 1) := by decide +kernel
theorem dL_law_782 : decode cL_law 782 = .ok (.iload 5, 2) := by decide +kernel
theorem dL_law_784 : decode cL_law 784 = .ok (.iconst 2, 1) := by decide +kernel
theorem dL_law_785 : decode cL_law 785 = .ok (.iadd, 1) := by decide +kernel
theorem dL_law_786 : decode cL_law 786 = .ok (.iaload, 1) := by decide +kernel
theorem dL_law_787 : decode cL_law 787 = .ok (.invokevirtual 211, 3) := by decide +kernel
theorem dL_law_790 : decode cL_law 790 = .ok (.istore 7, 2) := by decide +kernel
theorem dL_law_792 : decode cL_law 792 = .ok (.aload_n 2, 1) := by decide +kernel
theorem dL_law_793 : decode cL_law 793 = .ok (.invokevirtual 186, 3) := by decide +kernel
theorem dL_law_796 : decode cL_law 796 = .ok (.iload 6, 2) := by decide +kernel
theorem dL_law_798 : decode cL_law 798 = .ok (.if_icmp .eq 5, 3) := by decide +kernel
theorem dL_law_801 : decode cL_law 801 = .ok (.iconst 0, 1) := by decide +kernel
theorem dL_law_802 : decode cL_law 802 = .ok (.ireturn, 1) := by decide +kernel
theorem dL_law_803 : decode cL_law 803 = .ok (.iload 6, 2) := by decide +kernel
theorem dL_law_805 : decode cL_law 805 = .ok (.ifCond .ne 15, 3) := by decide +kernel
theorem dL_law_808 : decode cL_law 808 = .ok (.aload_n 3, 1) := by decide +kernel
theorem dL_law_809 : decode cL_law 809 = .ok (.iconst 0, 1) := by decide +kernel
theorem dL_law_810 : decode cL_law 810 = .ok (.laload, 1) := by decide +kernel
theorem dL_law_811 : decode cL_law 811 = .ok (.iload 7, 2) := by decide +kernel
theorem dL_law_813 : decode cL_law 813 = .ok (.i2l, 1) := by decide +kernel
theorem dL_law_814 : decode cL_law 814 = .ok (.lcmp, 1) := by decide +kernel
theorem dL_law_815 : decode cL_law 815 = .ok (.ifCond .eq 5, 3) := by decide +kernel
theorem dL_law_818 : decode cL_law 818 = .ok (.iconst 0, 1) := by decide +kernel
theorem dL_law_819 : decode cL_law 819 = .ok (.ireturn, 1) := by decide +kernel
theorem dL_law_820 : decode cL_law 820 = .ok (.goto 2682, 3) := by decide +kernel
theorem dL_law_823 : decode cL_law 823 = .ok (.aload_n 1, 1) := by decide +kernel
theorem dL_law_824 : decode cL_law 824 = .ok (.aload_n 0, 1) := by decide +kernel
theorem dL_law_825 : decode cL_law 825 = .ok (.iload 5, 2) := by decide +kernel
theorem dL_law_827 : decode cL_law 827 = .ok (.iconst 1, 1) := by decide +kernel
theorem dL_law_828 : decode cL_law 828 = .ok (.iadd, 1) := by decide +kernel
theorem dL_law_829 : decode cL_law 829 = .ok (.iaload, 1) := by decide +kernel
theorem dL_law_830 : decode cL_law 830 = .ok (.aload_n 0, 1) := by decide +kernel
theorem dL_law_831 : decode cL_law 831 = .ok (.iload 5, 2) := by decide +kernel
theorem dL_law_833 : decode cL_law 833 = .ok (.iconst 2, 1) := by decide +kernel
theorem dL_law_834 : decode cL_law 834 = .ok (.iadd, 1) := by decide +kernel
theorem dL_law_835 : decode cL_law 835 = .ok (.iaload, 1) := by decide +kernel
theorem dL_law_836 : decode cL_law 836 = .ok (.aload_n 0, 1) := by decide +kernel
theorem dL_law_837 : decode cL_law 837 = .ok (.iload 5, 2) := by decide +kernel
theorem dL_law_839 : decode cL_law 839 = .ok (.iconst 3, 1) := by decide +kernel
theorem dL_law_840 : decode cL_law 840 = .ok (.iadd, 1) := by decide +kernel
theorem dL_law_841 : decode cL_law 841 = .ok (.iaload, 1) := by decide +kernel
theorem dL_law_842 : decode cL_law 842 = .ok (.aload_n 0, 1) := by decide +kernel
theorem dL_law_843 : decode cL_law 843 = .ok (.iload 5, 2) := by decide +kernel
theorem dL_law_845 : decode cL_law 845 = .ok (.iconst 4, 1) := by decide +kernel
theorem dL_law_846 : decode cL_law 846 = .ok (.iadd, 1) := by decide +kernel
theorem dL_law_847 : decode cL_law 847 = .ok (.iaload, 1) := by decide +kernel
theorem dL_law_848 : decode cL_law 848 = .ok (.aload_n 3, 1) := by decide +kernel
theorem dL_law_849 : decode cL_law 849 = .ok (.invokestatic 212, 3) := by decide +kernel
theorem dL_law_852 : decode cL_law 852 = .ok (.istore 6, 2) := by decide +kernel
theorem dL_law_854 : decode cL_law 854 = .ok (.aload_n 2, 1) := by decide +kernel
theorem dL_law_855 : decode cL_law 855 = .ok (.aload_n 0, 1) := by decide +kernel
theorem dL_law_856 : decode cL_law 856 = .ok (.iload 5, 2) := by decide +kernel
theorem dL_law_858 : decode cL_law 858 = .ok (.iconst 1, 1) := by decide +kernel
theorem dL_law_859 : decode cL_law 859 = .ok (.iadd, 1) := by decide +kernel
theorem dL_law_860 : decode cL_law 860 = .ok (.iaload, 1) := by decide +kernel
theorem dL_law_861 : decode cL_law 861 = .ok (.aload_n 0, 1) := by decide +kernel
theorem dL_law_862 : decode cL_law 862 = .ok (.iload 5, 2) := by decide +kernel
theorem dL_law_864 : decode cL_law 864 = .ok (.iconst 2, 1) := by decide +kernel
theorem dL_law_865 : decode cL_law 865 = .ok (.iadd, 1) := by decide +kernel
theorem dL_law_866 : decode cL_law 866 = .ok (.iaload, 1) := by decide +kernel
theorem dL_law_867 : decode cL_law 867 = .ok (.aload_n 0, 1) := by decide +kernel
theorem dL_law_868 : decode cL_law 868 = .ok (.iload 5, 2) := by decide +kernel
theorem dL_law_870 : decode cL_law 870 = .ok (.iconst 3, 1) := by decide +kernel
theorem dL_law_871 : decode cL_law 871 = .ok (.iadd, 1) := by decide +kernel
theorem dL_law_872 : decode cL_law 872 = .ok (.iaload, 1) := by decide +kernel
theorem dL_law_873 : decode cL_law 873 = .ok (.aload_n 0, 1) := by decide +kernel
theorem dL_law_874 : decode cL_law 874 = .ok (.iload 5, 2) := by decide +kernel
theorem dL_law_876 : decode cL_law 876 = .ok (.iconst 4, 1) := by decide +kernel
theorem dL_law_877 : decode cL_law 877 = .ok (.iadd, 1) := by decide +kernel
theorem dL_law_878 : decode cL_law 878 = .ok (.iaload, 1) := by decide +kernel
theorem dL_law_879 : decode cL_law 879 = .ok (.invokevirtual 215, 3) := by decide +kernel
theorem dL_law_882 : decode cL_law 882 = .ok (.istore 7, 2) := by decide +kernel
theorem dL_law_884 : decode cL_law 884 = .ok (.aload_n 2, 1) := by decide +kernel
theorem dL_law_885 : decode cL_law 885 = .ok (.invokevirtual 186, 3) := by decide +kernel
theorem dL_law_888 : decode cL_law 888 = .ok (.iload 6, 2) := by decide +kernel
theorem dL_law_890 : decode cL_law 890 = .ok (.if_icmp .eq 5, 3) := by decide +kernel
theorem dL_law_893 : decode cL_law 893 = .ok (.iconst 0, 1) := by decide +kernel
theorem dL_law_894 : decode cL_law 894 = .ok (.ireturn, 1) := by decide +kernel
theorem dL_law_895 : decode cL_law 895 = .ok (.iload 6, 2) := by decide +kernel
theorem dL_law_897 : decode cL_law 897 = .ok (.ifCond .ne 15, 3) := by decide +kernel
theorem dL_law_900 : decode cL_law 900 = .ok (.aload_n 3, 1) := by decide +kernel
theorem dL_law_901 : decode cL_law 901 = .ok (.iconst 0, 1) := by decide +kernel
theorem dL_law_902 : decode cL_law 902 = .ok (.laload, 1) := by decide +kernel
theorem dL_law_903 : decode cL_law 903 = .ok (.iload 7, 2) := by decide +kernel
theorem dL_law_905 : decode cL_law 905 = .ok (.i2l, 1) := by decide +kernel
theorem dL_law_906 : decode cL_law 906 = .ok (.lcmp, 1) := by decide +kernel
theorem dL_law_907 : decode cL_law 907 = .ok (.ifCond .eq 5, 3) := by decide +kernel
theorem dL_law_910 : decode cL_law 910 = .ok (.iconst 0, 1) := by decide +kernel
theorem dL_law_911 : decode cL_law 911 = .ok (.ireturn, 1) := by decide +kernel
theorem dL_law_912 : decode cL_law 912 = .ok (.goto 2590, 3) := by decide +kernel
theorem dL_law_915 : decode cL_law 915 = .ok (.aload_n 1, 1) := by decide +kernel
theorem dL_law_916 : decode cL_law 916 = .ok (.aload_n 0, 1) := by decide +kernel
theorem dL_law_917 : decode cL_law 917 = .ok (.iload 5, 2) := by decide +kernel
theorem dL_law_919 : decode cL_law 919 = .ok (.iconst 1, 1) := by decide +kernel
theorem dL_law_920 : decode cL_law 920 = .ok (.iadd, 1) := by decide +kernel
theorem dL_law_921 : decode cL_law 921 = .ok (.iaload, 1) := by decide +kernel
theorem dL_law_922 : decode cL_law 922 = .ok (.aload_n 0, 1) := by decide +kernel
theorem dL_law_923 : decode cL_law 923 = .ok (.iload 5, 2) := by decide +kernel
theorem dL_law_925 : decode cL_law 925 = .ok (.iconst 2, 1) := by decide +kernel
theorem dL_law_926 : decode cL_law 926 = .ok (.iadd, 1) := by decide +kernel
theorem dL_law_927 : decode cL_law 927 = .ok (.iaload, 1) := by decide +kernel
theorem dL_law_928 : decode cL_law 928 = .ok (.aload_n 0, 1) := by decide +kernel
theorem dL_law_929 : decode cL_law 929 = .ok (.iload 5, 2) := by decide +kernel
theorem dL_law_931 : decode cL_law 931 = .ok (.iconst 3, 1) := by decide +kernel
theorem dL_law_932 : decode cL_law 932 = .ok (.iadd, 1) := by decide +kernel
theorem dL_law_933 : decode cL_law 933 = .ok (.iaload, 1) := by decide +kernel
theorem dL_law_934 : decode cL_law 934 = .ok (.aload_n 3, 1) := by decide +kernel
theorem dL_law_935 : decode cL_law 935 = .ok (.invokestatic 216, 3) := by decide +kernel
theorem dL_law_938 : decode cL_law 938 = .ok (.istore 6, 2) := by decide +kernel
theorem dL_law_940 : decode cL_law 940 = .ok (.aload_n 2, 1) := by decide +kernel
theorem dL_law_941 : decode cL_law 941 = .ok (.aload_n 0, 1) := by decide +kernel
theorem dL_law_942 : decode cL_law 942 = .ok (.iload 5, 2) := by decide +kernel
theorem dL_law_944 : decode cL_law 944 = .ok (.iconst 1, 1) := by decide +kernel
theorem dL_law_945 : decode cL_law 945 = .ok (.iadd, 1) := by decide +kernel
theorem dL_law_946 : decode cL_law 946 = .ok (.iaload, 1) := by decide +kernel
theorem dL_law_947 : decode cL_law 947 = .ok (.aload_n 0, 1) := by decide +kernel
theorem dL_law_948 : decode cL_law 948 = .ok (.iload 5, 2) := by decide +kernel
theorem dL_law_950 : decode cL_law 950 = .ok (.iconst 2, 1) := by decide +kernel
theorem dL_law_951 : decode cL_law 951 = .ok (.iadd, 1) := by decide +kernel
theorem dL_law_952 : decode cL_law 952 = .ok (.iaload, 1) := by decide +kernel
theorem dL_law_953 : decode cL_law 953 = .ok (.aload_n 0, 1) := by decide +kernel
theorem dL_law_954 : decode cL_law 954 = .ok (.iload 5, 2) := by decide +kernel
theorem dL_law_956 : decode cL_law 956 = .ok (.iconst 3, 1) := by decide +kernel
theorem dL_law_957 : decode cL_law 957 = .ok (.iadd, 1) := by decide +kernel
theorem dL_law_958 : decode cL_law 958 = .ok (.iaload, 1) := by decide +kernel
theorem dL_law_959 : decode cL_law 959 = .ok (.invokevirtual 219, 3) := by decide +kernel
theorem dL_law_962 : decode cL_law 962 = .ok (.istore 7, 2) := by decide +kernel
theorem dL_law_964 : decode cL_law 964 = .ok (.aload_n 2, 1) := by decide +kernel
theorem dL_law_965 : decode cL_law 965 = .ok (.invokevirtual 186, 3) := by decide +kernel
theorem dL_law_968 : decode cL_law 968 = .ok (.iload 6, 2) := by decide +kernel
theorem dL_law_970 : decode cL_law 970 = .ok (.if_icmp .eq 5, 3) := by decide +kernel
theorem dL_law_973 : decode cL_law 973 = .ok (.iconst 0, 1) := by decide +kernel
theorem dL_law_974 : decode cL_law 974 = .ok (.ireturn, 1) := by decide +kernel
theorem dL_law_975 : decode cL_law 975 = .ok (.iload 6, 2) := by decide +kernel
theorem dL_law_977 : decode cL_law 977 = .ok (.ifCond .ne 15, 3) := by decide +kernel
theorem dL_law_980 : decode cL_law 980 = .ok (.aload_n 3, 1) := by decide +kernel
theorem dL_law_981 : decode cL_law 981 = .ok (.iconst 0, 1) := by decide +kernel
theorem dL_law_982 : decode cL_law 982 = .ok (.laload, 1) := by decide +kernel
theorem dL_law_983 : decode cL_law 983 = .ok (.iload 7, 2) := by decide +kernel
theorem dL_law_985 : decode cL_law 985 = .ok (.i2l, 1) := by decide +kernel
theorem dL_law_986 : decode cL_law 986 = .ok (.lcmp, 1) := by decide +kernel
theorem dL_law_987 : decode cL_law 987 = .ok (.ifCond .eq 5, 3) := by decide +kernel
theorem dL_law_990 : decode cL_law 990 = .ok (.iconst 0, 1) := by decide +kernel
theorem dL_law_991 : decode cL_law 991 = .ok (.ireturn, 1) := by decide +kernel
theorem dL_law_992 : decode cL_law 992 = .ok (.goto 2510, 3) := by decide +kernel
theorem dL_law_995 : decode cL_law 995 = .ok (.aload_n 1, 1) := by decide +kernel
theorem dL_law_996 : decode cL_law 996 = .ok (.aload_n 0, 1) := by decide +kernel
theorem dL_law_997 : decode cL_law 997 = .ok (.iload 5, 2) := by decide +kernel
theorem dL_law_999 : decode cL_law 999 = .ok (.iconst 1, 1) := by decide +kernel
theorem dL_law_1000 : decode cL_law 1000 = .ok (.iadd, 1) := by decide +kernel
theorem dL_law_1001 : decode cL_law 1001 = .ok (.iaload, 1) := by decide +kernel
theorem dL_law_1002 : decode cL_law 1002 = .ok (.aload_n 0, 1) := by decide +kernel
theorem dL_law_1003 : decode cL_law 1003 = .ok (.iload 5, 2) := by decide +kernel
theorem dL_law_1005 : decode cL_law 1005 = .ok (.iconst 2, 1) := by decide +kernel
theorem dL_law_1006 : decode cL_law 1006 = .ok (.iadd, 1) := by decide +kernel
theorem dL_law_1007 : decode cL_law 1007 = .ok (.iaload, 1) := by decide +kernel
theorem dL_law_1008 : decode cL_law 1008 = .ok (.aload_n 0, 1) := by decide +kernel
theorem dL_law_1009 : decode cL_law 1009 = .ok (.iload 5, 2) := by decide +kernel
theorem dL_law_1011 : decode cL_law 1011 = .ok (.iconst 3, 1) := by decide +kernel
theorem dL_law_1012 : decode cL_law 1012 = .ok (.iadd, 1) := by decide +kernel
theorem dL_law_1013 : decode cL_law 1013 = .ok (.iaload, 1) := by decide +kernel
theorem dL_law_1014 : decode cL_law 1014 = .ok (.aload_n 3, 1) := by decide +kernel
theorem dL_law_1015 : decode cL_law 1015 = .ok (.invokestatic 220, 3) := by decide +kernel
theorem dL_law_1018 : decode cL_law 1018 = .ok (.istore 6, 2) := by decide +kernel
theorem dL_law_1020 : decode cL_law 1020 = .ok (.aload_n 2, 1) := by decide +kernel
theorem dL_law_1021 : decode cL_law 1021 = .ok (.aload_n 0, 1) := by decide +kernel
theorem dL_law_1022 : decode cL_law 1022 = .ok (.iload 5, 2) := by decide +kernel
theorem dL_law_1024 : decode cL_law 1024 = .ok (.iconst 1, 1) := by decide +kernel
theorem dL_law_1025 : decode cL_law 1025 = .ok (.iadd, 1) := by decide +kernel
theorem dL_law_1026 : decode cL_law 1026 = .ok (.iaload, 1) := by decide +kernel
theorem dL_law_1027 : decode cL_law 1027 = .ok (.aload_n 0, 1) := by decide +kernel
theorem dL_law_1028 : decode cL_law 1028 = .ok (.iload 5, 2) := by decide +kernel
theorem dL_law_1030 : decode cL_law 1030 = .ok (.iconst 2, 1) := by decide +kernel
theorem dL_law_1031 : decode cL_law 1031 = .ok (.iadd, 1) := by decide +kernel
theorem dL_law_1032 : decode cL_law 1032 = .ok (.iaload, 1) := by decide +kernel
theorem dL_law_1033 : decode cL_law 1033 = .ok (.aload_n 0, 1) := by decide +kernel
theorem dL_law_1034 : decode cL_law 1034 = .ok (.iload 5, 2) := by decide +kernel
theorem dL_law_1036 : decode cL_law 1036 = .ok (.iconst 3, 1) := by decide +kernel
theorem dL_law_1037 : decode cL_law 1037 = .ok (.iadd, 1) := by decide +kernel
theorem dL_law_1038 : decode cL_law 1038 = .ok (.iaload, 1) := by decide +kernel
theorem dL_law_1039 : decode cL_law 1039 = .ok (.invokevirtual 222, 3) := by decide +kernel
theorem dL_law_1042 : decode cL_law 1042 = .ok (.istore 7, 2) := by decide +kernel
theorem dL_law_1044 : decode cL_law 1044 = .ok (.aload_n 2, 1) := by decide +kernel
theorem dL_law_1045 : decode cL_law 1045 = .ok (.invokevirtual 186, 3) := by decide +kernel
theorem dL_law_1048 : decode cL_law 1048 = .ok (.iload 6, 2) := by decide +kernel
theorem dL_law_1050 : decode cL_law 1050 = .ok (.if_icmp .eq 5, 3) := by decide +kernel
theorem dL_law_1053 : decode cL_law 1053 = .ok (.iconst 0, 1) := by decide +kernel
theorem dL_law_1054 : decode cL_law 1054 = .ok (.ireturn, 1) := by decide +kernel
theorem dL_law_1055 : decode cL_law 1055 = .ok (.iload 6, 2) := by decide +kernel
theorem dL_law_1057 : decode cL_law 1057 = .ok (.ifCond .ne 22, 3) := by decide +kernel
theorem dL_law_1060 : decode cL_law 1060 = .ok (.aload_n 3, 1) := by decide +kernel
theorem dL_law_1061 : decode cL_law 1061 = .ok (.iconst 0, 1) := by decide +kernel
theorem dL_law_1062 : decode cL_law 1062 = .ok (.laload, 1) := by decide +kernel
theorem dL_law_1063 : decode cL_law 1063 = .ok (.iload 7, 2) := by decide +kernel
theorem dL_law_1065 : decode cL_law 1065 = .ok (.ifCond .eq 7, 3) := by decide +kernel
theorem dL_law_1068 : decode cL_law 1068 = .ok (.lconst 1, 1) := by decide +kernel
theorem dL_law_1069 : decode cL_law 1069 = .ok (.goto 4, 3) := by decide +kernel
theorem dL_law_1072 : decode cL_law 1072 = .ok (.lconst 0, 1) := by decide +kernel
theorem dL_law_1073 : decode cL_law 1073 = .ok (.lcmp, 1) := by decide +kernel
theorem dL_law_1074 : decode cL_law 1074 = .ok (.ifCond .eq 5, 3) := by decide +kernel
theorem dL_law_1077 : decode cL_law 1077 = .ok (.iconst 0, 1) := by decide +kernel
theorem dL_law_1078 : decode cL_law 1078 = .ok (.ireturn, 1) := by decide +kernel
theorem dL_law_1079 : decode cL_law 1079 = .ok (.goto 2423, 3) := by decide +kernel
theorem dL_law_1082 : decode cL_law 1082 = .ok (.aload_n 1, 1) := by decide +kernel
theorem dL_law_1083 : decode cL_law 1083 = .ok (.aload_n 0, 1) := by decide +kernel
theorem dL_law_1084 : decode cL_law 1084 = .ok (.iload 5, 2) := by decide +kernel
theorem dL_law_1086 : decode cL_law 1086 = .ok (.iconst 1, 1) := by decide +kernel
theorem dL_law_1087 : decode cL_law 1087 = .ok (.iadd, 1) := by decide +kernel
theorem dL_law_1088 : decode cL_law 1088 = .ok (.iaload, 1) := by decide +kernel
theorem dL_law_1089 : decode cL_law 1089 = .ok (.aload_n 0, 1) := by decide +kernel
theorem dL_law_1090 : decode cL_law 1090 = .ok (.iload 5, 2) := by decide +kernel
theorem dL_law_1092 : decode cL_law 1092 = .ok (.iconst 2, 1) := by decide +kernel
theorem dL_law_1093 : decode cL_law 1093 = .ok (.iadd, 1) := by decide +kernel
theorem dL_law_1094 : decode cL_law 1094 = .ok (.iaload, 1) := by decide +kernel
theorem dL_law_1095 : decode cL_law 1095 = .ok (.aload_n 0, 1) := by decide +kernel
theorem dL_law_1096 : decode cL_law 1096 = .ok (.iload 5, 2) := by decide +kernel
theorem dL_law_1098 : decode cL_law 1098 = .ok (.iconst 3, 1) := by decide +kernel
theorem dL_law_1099 : decode cL_law 1099 = .ok (.iadd, 1) := by decide +kernel
theorem dL_law_1100 : decode cL_law 1100 = .ok (.iaload, 1) := by decide +kernel
theorem dL_law_1101 : decode cL_law 1101 = .ok (.aload_n 3, 1) := by decide +kernel
theorem dL_law_1102 : decode cL_law 1102 = .ok (.invokestatic 223, 3) := by decide +kernel
theorem dL_law_1105 : decode cL_law 1105 = .ok (.istore 6, 2) := by decide +kernel
theorem dL_law_1107 : decode cL_law 1107 = .ok (.aload_n 2, 1) := by decide +kernel
theorem dL_law_1108 : decode cL_law 1108 = .ok (.aload_n 0, 1) := by decide +kernel
theorem dL_law_1109 : decode cL_law 1109 = .ok (.iload 5, 2) := by decide +kernel
theorem dL_law_1111 : decode cL_law 1111 = .ok (.iconst 1, 1) := by decide +kernel
theorem dL_law_1112 : decode cL_law 1112 = .ok (.iadd, 1) := by decide +kernel
theorem dL_law_1113 : decode cL_law 1113 = .ok (.iaload, 1) := by decide +kernel
theorem dL_law_1114 : decode cL_law 1114 = .ok (.aload_n 0, 1) := by decide +kernel
theorem dL_law_1115 : decode cL_law 1115 = .ok (.iload 5, 2) := by decide +kernel
theorem dL_law_1117 : decode cL_law 1117 = .ok (.iconst 2, 1) := by decide +kernel
theorem dL_law_1118 : decode cL_law 1118 = .ok (.iadd, 1) := by decide +kernel
theorem dL_law_1119 : decode cL_law 1119 = .ok (.iaload, 1) := by decide +kernel
theorem dL_law_1120 : decode cL_law 1120 = .ok (.aload_n 0, 1) := by decide +kernel
theorem dL_law_1121 : decode cL_law 1121 = .ok (.iload 5, 2) := by decide +kernel
theorem dL_law_1123 : decode cL_law 1123 = .ok (.iconst 3, 1) := by decide +kernel
theorem dL_law_1124 : decode cL_law 1124 = .ok (.iadd, 1) := by decide +kernel
theorem dL_law_1125 : decode cL_law 1125 = .ok (.iaload, 1) := by decide +kernel
theorem dL_law_1126 : decode cL_law 1126 = .ok (.invokevirtual 225, 3) := by decide +kernel
theorem dL_law_1129 : decode cL_law 1129 = .ok (.istore 7, 2) := by decide +kernel
theorem dL_law_1131 : decode cL_law 1131 = .ok (.aload_n 2, 1) := by decide +kernel
theorem dL_law_1132 : decode cL_law 1132 = .ok (.invokevirtual 186, 3) := by decide +kernel
theorem dL_law_1135 : decode cL_law 1135 = .ok (.iload 6, 2) := by decide +kernel
theorem dL_law_1137 : decode cL_law 1137 = .ok (.if_icmp .eq 5, 3) := by decide +kernel
theorem dL_law_1140 : decode cL_law 1140 = .ok (.iconst 0, 1) := by decide +kernel
theorem dL_law_1141 : decode cL_law 1141 = .ok (.ireturn, 1) := by decide +kernel
theorem dL_law_1142 : decode cL_law 1142 = .ok (.iload 6, 2) := by decide +kernel
theorem dL_law_1144 : decode cL_law 1144 = .ok (.ifCond .ne 22, 3) := by decide +kernel
theorem dL_law_1147 : decode cL_law 1147 = .ok (.aload_n 3, 1) := by decide +kernel
theorem dL_law_1148 : decode cL_law 1148 = .ok (.iconst 0, 1) := by decide +kernel
theorem dL_law_1149 : decode cL_law 1149 = .ok (.laload, 1) := by decide +kernel
theorem dL_law_1150 : decode cL_law 1150 = .ok (.iload 7, 2) := by decide +kernel
theorem dL_law_1152 : decode cL_law 1152 = .ok (.ifCond .eq 7, 3) := by decide +kernel
theorem dL_law_1155 : decode cL_law 1155 = .ok (.lconst 1, 1) := by decide +kernel
theorem dL_law_1156 : decode cL_law 1156 = .ok (.goto 4, 3) := by decide +kernel
theorem dL_law_1159 : decode cL_law 1159 = .ok (.lconst 0, 1) := by decide +kernel
theorem dL_law_1160 : decode cL_law 1160 = .ok (.lcmp, 1) := by decide +kernel
theorem dL_law_1161 : decode cL_law 1161 = .ok (.ifCond .eq 5, 3) := by decide +kernel
theorem dL_law_1164 : decode cL_law 1164 = .ok (.iconst 0, 1) := by decide +kernel
theorem dL_law_1165 : decode cL_law 1165 = .ok (.ireturn, 1) := by decide +kernel
theorem dL_law_1166 : decode cL_law 1166 = .ok (.goto 2336, 3) := by decide +kernel
theorem dL_law_1169 : decode cL_law 1169 = .ok (.aload_n 1, 1) := by decide +kernel
theorem dL_law_1170 : decode cL_law 1170 = .ok (.aload_n 0, 1) := by decide +kernel
theorem dL_law_1171 : decode cL_law 1171 = .ok (.iload 5, 2) := by decide +kernel
theorem dL_law_1173 : decode cL_law 1173 = .ok (.iconst 1, 1) := by decide +kernel
theorem dL_law_1174 : decode cL_law 1174 = .ok (.iadd, 1) := by decide +kernel
theorem dL_law_1175 : decode cL_law 1175 = .ok (.iaload, 1) := by decide +kernel
theorem dL_law_1176 : decode cL_law 1176 = .ok (.aload_n 0, 1) := by decide +kernel
theorem dL_law_1177 : decode cL_law 1177 = .ok (.iload 5, 2) := by decide +kernel
theorem dL_law_1179 : decode cL_law 1179 = .ok (.iconst 2, 1) := by decide +kernel
theorem dL_law_1180 : decode cL_law 1180 = .ok (.iadd, 1) := by decide +kernel
theorem dL_law_1181 : decode cL_law 1181 = .ok (.iaload, 1) := by decide +kernel
theorem dL_law_1182 : decode cL_law 1182 = .ok (.aload_n 3, 1) := by decide +kernel
theorem dL_law_1183 : decode cL_law 1183 = .ok (.invokestatic 226, 3) := by decide +kernel
theorem dL_law_1186 : decode cL_law 1186 = .ok (.istore 6, 2) := by decide +kernel
theorem dL_law_1188 : decode cL_law 1188 = .ok (.aload_n 2, 1) := by decide +kernel
theorem dL_law_1189 : decode cL_law 1189 = .ok (.aload_n 0, 1) := by decide +kernel
theorem dL_law_1190 : decode cL_law 1190 = .ok (.iload 5, 2) := by decide +kernel
theorem dL_law_1192 : decode cL_law 1192 = .ok (.iconst 1, 1) := by decide +kernel
theorem dL_law_1193 : decode cL_law 1193 = .ok (.iadd, 1) := by decide +kernel
theorem dL_law_1194 : decode cL_law 1194 = .ok (.iaload, 1) := by decide +kernel
theorem dL_law_1195 : decode cL_law 1195 = .ok (.aload_n 0, 1) := by decide +kernel
theorem dL_law_1196 : decode cL_law 1196 = .ok (.iload 5, 2) := by decide +kernel
theorem dL_law_1198 : decode cL_law 1198 = .ok (.iconst 2, 1) := by decide +kernel
theorem dL_law_1199 : decode cL_law 1199 = .ok (.iadd, 1) := by decide +kernel
theorem dL_law_1200 : decode cL_law 1200 = .ok (.iaload, 1) := by decide +kernel
theorem dL_law_1201 : decode cL_law 1201 = .ok (.invokevirtual 228, 3) := by decide +kernel
theorem dL_law_1204 : decode cL_law 1204 = .ok (.istore 7, 2) := by decide +kernel
theorem dL_law_1206 : decode cL_law 1206 = .ok (.aload_n 2, 1) := by decide +kernel
theorem dL_law_1207 : decode cL_law 1207 = .ok (.invokevirtual 186, 3) := by decide +kernel
theorem dL_law_1210 : decode cL_law 1210 = .ok (.iload 6, 2) := by decide +kernel
theorem dL_law_1212 : decode cL_law 1212 = .ok (.if_icmp .eq 5, 3) := by decide +kernel
theorem dL_law_1215 : decode cL_law 1215 = .ok (.iconst 0, 1) := by decide +kernel
theorem dL_law_1216 : decode cL_law 1216 = .ok (.ireturn, 1) := by decide +kernel
theorem dL_law_1217 : decode cL_law 1217 = .ok (.iload 6, 2) := by decide +kernel
theorem dL_law_1219 : decode cL_law 1219 = .ok (.ifCond .ne 15, 3) := by decide +kernel
theorem dL_law_1222 : decode cL_law 1222 = .ok (.aload_n 3, 1) := by decide +kernel
theorem dL_law_1223 : decode cL_law 1223 = .ok (.iconst 0, 1) := by decide +kernel
theorem dL_law_1224 : decode cL_law 1224 = .ok (.laload, 1) := by decide +kernel
theorem dL_law_1225 : decode cL_law 1225 = .ok (.iload 7, 2) := by decide +kernel
theorem dL_law_1227 : decode cL_law 1227 = .ok (.i2l, 1) := by decide +kernel
theorem dL_law_1228 : decode cL_law 1228 = .ok (.lcmp, 1) := by decide +kernel
theorem dL_law_1229 : decode cL_law 1229 = .ok (.ifCond .eq 5, 3) := by decide +kernel
theorem dL_law_1232 : decode cL_law 1232 = .ok (.iconst 0, 1) := by decide +kernel
theorem dL_law_1233 : decode cL_law 1233 = .ok (.ireturn, 1) := by decide +kernel
theorem dL_law_1234 : decode cL_law 1234 = .ok (.goto 2268, 3) := by decide +kernel
theorem dL_law_1237 : decode cL_law 1237 = .ok (.aload_n 1, 1) := by decide +kernel
theorem dL_law_1238 : decode cL_law 1238 = .ok (.aload_n 0, 1) := by decide +kernel
theorem dL_law_1239 : decode cL_law 1239 = .ok (.iload 5, 2) := by decide +kernel
theorem dL_law_1241 : decode cL_law 1241 = .ok (.iconst 1, 1) := by decide +kernel
theorem dL_law_1242 : decode cL_law 1242 = .ok (.iadd, 1) := by decide +kernel
theorem dL_law_1243 : decode cL_law 1243 = .ok (.iaload, 1) := by decide +kernel
theorem dL_law_1244 : decode cL_law 1244 = .ok (.aload_n 0, 1) := by decide +kernel
theorem dL_law_1245 : decode cL_law 1245 = .ok (.iload 5, 2) := by decide +kernel
theorem dL_law_1247 : decode cL_law 1247 = .ok (.iconst 2, 1) := by decide +kernel
theorem dL_law_1248 : decode cL_law 1248 = .ok (.iadd, 1) := by decide +kernel
theorem dL_law_1249 : decode cL_law 1249 = .ok (.iaload, 1) := by decide +kernel
theorem dL_law_1250 : decode cL_law 1250 = .ok (.aload_n 3, 1) := by decide +kernel
theorem dL_law_1251 : decode cL_law 1251 = .ok (.invokestatic 229, 3) := by decide +kernel
theorem dL_law_1254 : decode cL_law 1254 = .ok (.istore 6, 2) := by decide +kernel
theorem dL_law_1256 : decode cL_law 1256 = .ok (.aload_n 2, 1) := by decide +kernel
theorem dL_law_1257 : decode cL_law 1257 = .ok (.aload_n 0, 1) := by decide +kernel
theorem dL_law_1258 : decode cL_law 1258 = .ok (.iload 5, 2) := by decide +kernel
theorem dL_law_1260 : decode cL_law 1260 = .ok (.iconst 1, 1) := by decide +kernel
theorem dL_law_1261 : decode cL_law 1261 = .ok (.iadd, 1) := by decide +kernel
theorem dL_law_1262 : decode cL_law 1262 = .ok (.iaload, 1) := by decide +kernel
theorem dL_law_1263 : decode cL_law 1263 = .ok (.aload_n 0, 1) := by decide +kernel
theorem dL_law_1264 : decode cL_law 1264 = .ok (.iload 5, 2) := by decide +kernel
theorem dL_law_1266 : decode cL_law 1266 = .ok (.iconst 2, 1) := by decide +kernel
theorem dL_law_1267 : decode cL_law 1267 = .ok (.iadd, 1) := by decide +kernel
theorem dL_law_1268 : decode cL_law 1268 = .ok (.iaload, 1) := by decide +kernel
theorem dL_law_1269 : decode cL_law 1269 = .ok (.invokevirtual 231, 3) := by decide +kernel
theorem dL_law_1272 : decode cL_law 1272 = .ok (.istore 7, 2) := by decide +kernel
theorem dL_law_1274 : decode cL_law 1274 = .ok (.aload_n 2, 1) := by decide +kernel
theorem dL_law_1275 : decode cL_law 1275 = .ok (.invokevirtual 186, 3) := by decide +kernel
theorem dL_law_1278 : decode cL_law 1278 = .ok (.iload 6, 2) := by decide +kernel
theorem dL_law_1280 : decode cL_law 1280 = .ok (.if_icmp .eq 5, 3) := by decide +kernel
theorem dL_law_1283 : decode cL_law 1283 = .ok (.iconst 0, 1) := by decide +kernel
theorem dL_law_1284 : decode cL_law 1284 = .ok (.ireturn, 1) := by decide +kernel
theorem dL_law_1285 : decode cL_law 1285 = .ok (.iload 6, 2) := by decide +kernel
theorem dL_law_1287 : decode cL_law 1287 = .ok (.ifCond .ne 15, 3) := by decide +kernel
theorem dL_law_1290 : decode cL_law 1290 = .ok (.aload_n 3, 1) := by decide +kernel
theorem dL_law_1291 : decode cL_law 1291 = .ok (.iconst 0, 1) := by decide +kernel
theorem dL_law_1292 : decode cL_law 1292 = .ok (.laload, 1) := by decide +kernel
theorem dL_law_1293 : decode cL_law 1293 = .ok (.iload 7, 2) := by decide +kernel
theorem dL_law_1295 : decode cL_law 1295 = .ok (.i2l, 1) := by decide +kernel
theorem dL_law_1296 : decode cL_law 1296 = .ok (.lcmp, 1) := by decide +kernel
theorem dL_law_1297 : decode cL_law 1297 = .ok (.ifCond .eq 5, 3) := by decide +kernel
theorem dL_law_1300 : decode cL_law 1300 = .ok (.iconst 0, 1) := by decide +kernel
theorem dL_law_1301 : decode cL_law 1301 = .ok (.ireturn, 1) := by decide +kernel
theorem dL_law_1302 : decode cL_law 1302 = .ok (.goto 2200, 3) := by decide +kernel
theorem dL_law_1305 : decode cL_law 1305 = .ok (.aload_n 1, 1) := by decide +kernel
theorem dL_law_1306 : decode cL_law 1306 = .ok (.aload_n 0, 1) := by decide +kernel
theorem dL_law_1307 : decode cL_law 1307 = .ok (.iload 5, 2) := by decide +kernel
theorem dL_law_1309 : decode cL_law 1309 = .ok (.iconst 1, 1) := by decide +kernel
theorem dL_law_1310 : decode cL_law 1310 = .ok (.iadd, 1) := by decide +kernel
theorem dL_law_1311 : decode cL_law 1311 = .ok (.iaload, 1) := by decide +kernel
theorem dL_law_1312 : decode cL_law 1312 = .ok (.aload_n 0, 1) := by decide +kernel
theorem dL_law_1313 : decode cL_law 1313 = .ok (.iload 5, 2) := by decide +kernel
theorem dL_law_1315 : decode cL_law 1315 = .ok (.iconst 2, 1) := by decide +kernel
theorem dL_law_1316 : decode cL_law 1316 = .ok (.iadd, 1) := by decide +kernel
theorem dL_law_1317 : decode cL_law 1317 = .ok (.iaload, 1) := by decide +kernel
theorem dL_law_1318 : decode cL_law 1318 = .ok (.aload_n 3, 1) := by decide +kernel
theorem dL_law_1319 : decode cL_law 1319 = .ok (.invokestatic 232, 3) := by decide +kernel
theorem dL_law_1322 : decode cL_law 1322 = .ok (.istore 6, 2) := by decide +kernel
theorem dL_law_1324 : decode cL_law 1324 = .ok (.aload_n 2, 1) := by decide +kernel
theorem dL_law_1325 : decode cL_law 1325 = .ok (.aload_n 0, 1) := by decide +kernel
theorem dL_law_1326 : decode cL_law 1326 = .ok (.iload 5, 2) := by decide +kernel
theorem dL_law_1328 : decode cL_law 1328 = .ok (.iconst 1, 1) := by decide +kernel
theorem dL_law_1329 : decode cL_law 1329 = .ok (.iadd, 1) := by decide +kernel
theorem dL_law_1330 : decode cL_law 1330 = .ok (.iaload, 1) := by decide +kernel
theorem dL_law_1331 : decode cL_law 1331 = .ok (.aload_n 0, 1) := by decide +kernel
theorem dL_law_1332 : decode cL_law 1332 = .ok (.iload 5, 2) := by decide +kernel
theorem dL_law_1334 : decode cL_law 1334 = .ok (.iconst 2, 1) := by decide +kernel
theorem dL_law_1335 : decode cL_law 1335 = .ok (.iadd, 1) := by decide +kernel
theorem dL_law_1336 : decode cL_law 1336 = .ok (.iaload, 1) := by decide +kernel
theorem dL_law_1337 : decode cL_law 1337 = .ok (.invokevirtual 234, 3) := by decide +kernel
theorem dL_law_1340 : decode cL_law 1340 = .ok (.istore 7, 2) := by decide +kernel
theorem dL_law_1342 : decode cL_law 1342 = .ok (.aload_n 2, 1) := by decide +kernel
theorem dL_law_1343 : decode cL_law 1343 = .ok (.invokevirtual 186, 3) := by decide +kernel
theorem dL_law_1346 : decode cL_law 1346 = .ok (.iload 6, 2) := by decide +kernel
theorem dL_law_1348 : decode cL_law 1348 = .ok (.if_icmp .eq 5, 3) := by decide +kernel
theorem dL_law_1351 : decode cL_law 1351 = .ok (.iconst 0, 1) := by decide +kernel
theorem dL_law_1352 : decode cL_law 1352 = .ok (.ireturn, 1) := by decide +kernel
theorem dL_law_1353 : decode cL_law 1353 = .ok (.iload 6, 2) := by decide +kernel
theorem dL_law_1355 : decode cL_law 1355 = .ok (.ifCond .ne 15, 3) := by decide +kernel
theorem dL_law_1358 : decode cL_law 1358 = .ok (.aload_n 3, 1) := by decide +kernel
theorem dL_law_1359 : decode cL_law 1359 = .ok (.iconst 0, 1) := by decide +kernel
theorem dL_law_1360 : decode cL_law 1360 = .ok (.laload, 1) := by decide +kernel
theorem dL_law_1361 : decode cL_law 1361 = .ok (.iload 7, 2) := by decide +kernel
theorem dL_law_1363 : decode cL_law 1363 = .ok (.i2l, 1) := by decide +kernel
theorem dL_law_1364 : decode cL_law 1364 = .ok (.lcmp, 1) := by decide +kernel
theorem dL_law_1365 : decode cL_law 1365 = .ok (.ifCond .eq 5, 3) := by decide +kernel
theorem dL_law_1368 : decode cL_law 1368 = .ok (.iconst 0, 1) := by decide +kernel
theorem dL_law_1369 : decode cL_law 1369 = .ok (.ireturn, 1) := by decide +kernel
theorem dL_law_1370 : decode cL_law 1370 = .ok (.goto 2132, 3) := by decide +kernel
theorem dL_law_1373 : decode cL_law 1373 = .ok (.aload_n 1, 1) := by decide +kernel
theorem dL_law_1374 : decode cL_law 1374 = .ok (.aload_n 0, 1) := by decide +kernel
theorem dL_law_1375 : decode cL_law 1375 = .ok (.iload 5, 2) := by decide +kernel
theorem dL_law_1377 : decode cL_law 1377 = .ok (.iconst 1, 1) := by decide +kernel
theorem dL_law_1378 : decode cL_law 1378 = .ok (.iadd, 1) := by decide +kernel
theorem dL_law_1379 : decode cL_law 1379 = .ok (.iaload, 1) := by decide +kernel
theorem dL_law_1380 : decode cL_law 1380 = .ok (.aload_n 3, 1) := by decide +kernel
theorem dL_law_1381 : decode cL_law 1381 = .ok (.invokestatic 235, 3) := by decide +kernel
theorem dL_law_1384 : decode cL_law 1384 = .ok (.istore 6, 2) := by decide +kernel
theorem dL_law_1386 : decode cL_law 1386 = .ok (.aload_n 2, 1) := by decide +kernel
theorem dL_law_1387 : decode cL_law 1387 = .ok (.aload_n 0, 1) := by decide +kernel
theorem dL_law_1388 : decode cL_law 1388 = .ok (.iload 5, 2) := by decide +kernel
theorem dL_law_1390 : decode cL_law 1390 = .ok (.iconst 1, 1) := by decide +kernel
theorem dL_law_1391 : decode cL_law 1391 = .ok (.iadd, 1) := by decide +kernel
theorem dL_law_1392 : decode cL_law 1392 = .ok (.iaload, 1) := by decide +kernel
theorem dL_law_1393 : decode cL_law 1393 = .ok (.invokevirtual 237, 3) := by decide +kernel
theorem dL_law_1396 : decode cL_law 1396 = .ok (.istore 7, 2) := by decide +kernel
theorem dL_law_1398 : decode cL_law 1398 = .ok (.aload_n 2, 1) := by decide +kernel
theorem dL_law_1399 : decode cL_law 1399 = .ok (.invokevirtual 186, 3) := by decide +kernel
theorem dL_law_1402 : decode cL_law 1402 = .ok (.iload 6, 2) := by decide +kernel
theorem dL_law_1404 : decode cL_law 1404 = .ok (.if_icmp .eq 5, 3) := by decide +kernel
theorem dL_law_1407 : decode cL_law 1407 = .ok (.iconst 0, 1) := by decide +kernel
theorem dL_law_1408 : decode cL_law 1408 = .ok (.ireturn, 1) := by decide +kernel
theorem dL_law_1409 : decode cL_law 1409 = .ok (.iload 6, 2) := by decide +kernel
theorem dL_law_1411 : decode cL_law 1411 = .ok (.ifCond .ne 15, 3) := by decide +kernel
theorem dL_law_1414 : decode cL_law 1414 = .ok (.aload_n 3, 1) := by decide +kernel
theorem dL_law_1415 : decode cL_law 1415 = .ok (.iconst 0, 1) := by decide +kernel
theorem dL_law_1416 : decode cL_law 1416 = .ok (.laload, 1) := by decide +kernel
theorem dL_law_1417 : decode cL_law 1417 = .ok (.iload 7, 2) := by decide +kernel
theorem dL_law_1419 : decode cL_law 1419 = .ok (.i2l, 1) := by decide +kernel
theorem dL_law_1420 : decode cL_law 1420 = .ok (.lcmp, 1) := by decide +kernel
theorem dL_law_1421 : decode cL_law 1421 = .ok (.ifCond .eq 5, 3) := by decide +kernel
theorem dL_law_1424 : decode cL_law 1424 = .ok (.iconst 0, 1) := by decide +kernel
theorem dL_law_1425 : decode cL_law 1425 = .ok (.ireturn, 1) := by decide +kernel
theorem dL_law_1426 : decode cL_law 1426 = .ok (.goto 2076, 3) := by decide +kernel
theorem dL_law_1429 : decode cL_law 1429 = .ok (.aload_n 1, 1) := by decide +kernel
theorem dL_law_1430 : decode cL_law 1430 = .ok (.aload_n 0, 1) := by decide +kernel
theorem dL_law_1431 : decode cL_law 1431 = .ok (.iload 5, 2) := by decide +kernel
theorem dL_law_1433 : decode cL_law 1433 = .ok (.iconst 1, 1) := by decide +kernel
theorem dL_law_1434 : decode cL_law 1434 = .ok (.iadd, 1) := by decide +kernel
theorem dL_law_1435 : decode cL_law 1435 = .ok (.iaload, 1) := by decide +kernel
theorem dL_law_1436 : decode cL_law 1436 = .ok (.aload_n 0, 1) := by decide +kernel
theorem dL_law_1437 : decode cL_law 1437 = .ok (.iload 5, 2) := by decide +kernel
theorem dL_law_1439 : decode cL_law 1439 = .ok (.iconst 2, 1) := by decide +kernel
theorem dL_law_1440 : decode cL_law 1440 = .ok (.iadd, 1) := by decide +kernel
theorem dL_law_1441 : decode cL_law 1441 = .ok (.iaload, 1) := by decide +kernel
theorem dL_law_1442 : decode cL_law 1442 = .ok (.aload_n 0, 1) := by decide +kernel
theorem dL_law_1443 : decode cL_law 1443 = .ok (.iload 5, 2) := by decide +kernel
theorem dL_law_1445 : decode cL_law 1445 = .ok (.iconst 3, 1) := by decide +kernel
theorem dL_law_1446 : decode cL_law 1446 = .ok (.iadd, 1) := by decide +kernel
theorem dL_law_1447 : decode cL_law 1447 = .ok (.iaload, 1) := by decide +kernel
theorem dL_law_1448 : decode cL_law 1448 = .ok (.aload_n 3, 1) := by decide +kernel
theorem dL_law_1449 : decode cL_law 1449 = .ok (.invokestatic 238, 3) := by decide +kernel
theorem dL_law_1452 : decode cL_law 1452 = .ok (.istore 6, 2) := by decide +kernel
theorem dL_law_1454 : decode cL_law 1454 = .ok (.aload_n 2, 1) := by decide +kernel
theorem dL_law_1455 : decode cL_law 1455 = .ok (.aload_n 0, 1) := by decide +kernel
theorem dL_law_1456 : decode cL_law 1456 = .ok (.iload 5, 2) := by decide +kernel
theorem dL_law_1458 : decode cL_law 1458 = .ok (.iconst 1, 1) := by decide +kernel
theorem dL_law_1459 : decode cL_law 1459 = .ok (.iadd, 1) := by decide +kernel
theorem dL_law_1460 : decode cL_law 1460 = .ok (.iaload, 1) := by decide +kernel
theorem dL_law_1461 : decode cL_law 1461 = .ok (.aload_n 0, 1) := by decide +kernel
theorem dL_law_1462 : decode cL_law 1462 = .ok (.iload 5, 2) := by decide +kernel
theorem dL_law_1464 : decode cL_law 1464 = .ok (.iconst 2, 1) := by decide +kernel
theorem dL_law_1465 : decode cL_law 1465 = .ok (.iadd, 1) := by decide +kernel
theorem dL_law_1466 : decode cL_law 1466 = .ok (.iaload, 1) := by decide +kernel
theorem dL_law_1467 : decode cL_law 1467 = .ok (.aload_n 0, 1) := by decide +kernel
theorem dL_law_1468 : decode cL_law 1468 = .ok (.iload 5, 2) := by decide +kernel
theorem dL_law_1470 : decode cL_law 1470 = .ok (.iconst 3, 1) := by decide +kernel
theorem dL_law_1471 : decode cL_law 1471 = .ok (.iadd, 1) := by decide +kernel
theorem dL_law_1472 : decode cL_law 1472 = .ok (.iaload, 1) := by decide +kernel
theorem dL_law_1473 : decode cL_law 1473 = .ok (.invokevirtual 240, 3) := by decide +kernel
theorem dL_law_1476 : decode cL_law 1476 = .ok (.istore 7, 2) := by decide +kernel
theorem dL_law_1478 : decode cL_law 1478 = .ok (.aload_n 2, 1) := by decide +kernel
theorem dL_law_1479 : decode cL_law 1479 = .ok (.invokevirtual 186, 3) := by decide +kernel
theorem dL_law_1482 : decode cL_law 1482 = .ok (.iload 6, 2) := by decide +kernel
theorem dL_law_1484 : decode cL_law 1484 = .ok (.if_icmp .eq 5, 3) := by decide +kernel
theorem dL_law_1487 : decode cL_law 1487 = .ok (.iconst 0, 1) := by decide +kernel
theorem dL_law_1488 : decode cL_law 1488 = .ok (.ireturn, 1) := by decide +kernel
theorem dL_law_1489 : decode cL_law 1489 = .ok (.iload 6, 2) := by decide +kernel
theorem dL_law_1491 : decode cL_law 1491 = .ok (.ifCond .ne 15, 3) := by decide +kernel
theorem dL_law_1494 : decode cL_law 1494 = .ok (.aload_n 3, 1) := by decide +kernel
theorem dL_law_1495 : decode cL_law 1495 = .ok (.iconst 0, 1) := by decide +kernel
theorem dL_law_1496 : decode cL_law 1496 = .ok (.laload, 1) := by decide +kernel
theorem dL_law_1497 : decode cL_law 1497 = .ok (.iload 7, 2) := by decide +kernel
theorem dL_law_1499 : decode cL_law 1499 = .ok (.i2l, 1) := by decide +kernel
theorem dL_law_1500 : decode cL_law 1500 = .ok (.lcmp, 1) := by decide +kernel
theorem dL_law_1501 : decode cL_law 1501 = .ok (.ifCond .eq 5, 3) := by decide +kernel
theorem dL_law_1504 : decode cL_law 1504 = .ok (.iconst 0, 1) := by decide +kernel
theorem dL_law_1505 : decode cL_law 1505 = .ok (.ireturn, 1) := by decide +kernel
theorem dL_law_1506 : decode cL_law 1506 = .ok (.goto 1996, 3) := by decide +kernel
theorem dL_law_1509 : decode cL_law 1509 = .ok (.aload_n 1, 1) := by decide +kernel
theorem dL_law_1510 : decode cL_law 1510 = .ok (.aload_n 0, 1) := by decide +kernel
theorem dL_law_1511 : decode cL_law 1511 = .ok (.iload 5, 2) := by decide +kernel
theorem dL_law_1513 : decode cL_law 1513 = .ok (.iconst 1, 1) := by decide +kernel
theorem dL_law_1514 : decode cL_law 1514 = .ok (.iadd, 1) := by decide +kernel
theorem dL_law_1515 : decode cL_law 1515 = .ok (.iaload, 1) := by decide +kernel
theorem dL_law_1516 : decode cL_law 1516 = .ok (.aload_n 3, 1) := by decide +kernel
theorem dL_law_1517 : decode cL_law 1517 = .ok (.invokestatic 241, 3) := by decide +kernel
theorem dL_law_1520 : decode cL_law 1520 = .ok (.istore 6, 2) := by decide +kernel
theorem dL_law_1522 : decode cL_law 1522 = .ok (.aload_n 2, 1) := by decide +kernel
theorem dL_law_1523 : decode cL_law 1523 = .ok (.aload_n 0, 1) := by decide +kernel
theorem dL_law_1524 : decode cL_law 1524 = .ok (.iload 5, 2) := by decide +kernel
theorem dL_law_1526 : decode cL_law 1526 = .ok (.iconst 1, 1) := by decide +kernel
theorem dL_law_1527 : decode cL_law 1527 = .ok (.iadd, 1) := by decide +kernel
theorem dL_law_1528 : decode cL_law 1528 = .ok (.iaload, 1) := by decide +kernel
theorem dL_law_1529 : decode cL_law 1529 = .ok (.invokevirtual 243, 3) := by decide +kernel
theorem dL_law_1532 : decode cL_law 1532 = .ok (.istore 7, 2) := by decide +kernel
theorem dL_law_1534 : decode cL_law 1534 = .ok (.aload_n 2, 1) := by decide +kernel
theorem dL_law_1535 : decode cL_law 1535 = .ok (.invokevirtual 186, 3) := by decide +kernel
theorem dL_law_1538 : decode cL_law 1538 = .ok (.iload 6, 2) := by decide +kernel
theorem dL_law_1540 : decode cL_law 1540 = .ok (.if_icmp .eq 5, 3) := by decide +kernel
theorem dL_law_1543 : decode cL_law 1543 = .ok (.iconst 0, 1) := by decide +kernel
theorem dL_law_1544 : decode cL_law 1544 = .ok (.ireturn, 1) := by decide +kernel
theorem dL_law_1545 : decode cL_law 1545 = .ok (.iload 6, 2) := by decide +kernel
theorem dL_law_1547 : decode cL_law 1547 = .ok (.ifCond .ne 15, 3) := by decide +kernel
theorem dL_law_1550 : decode cL_law 1550 = .ok (.aload_n 3, 1) := by decide +kernel
theorem dL_law_1551 : decode cL_law 1551 = .ok (.iconst 0, 1) := by decide +kernel
theorem dL_law_1552 : decode cL_law 1552 = .ok (.laload, 1) := by decide +kernel
theorem dL_law_1553 : decode cL_law 1553 = .ok (.iload 7, 2) := by decide +kernel
theorem dL_law_1555 : decode cL_law 1555 = .ok (.i2l, 1) := by decide +kernel
theorem dL_law_1556 : decode cL_law 1556 = .ok (.lcmp, 1) := by decide +kernel
theorem dL_law_1557 : decode cL_law 1557 = .ok (.ifCond .eq 5, 3) := by decide +kernel
theorem dL_law_1560 : decode cL_law 1560 = .ok (.iconst 0, 1) := by decide +kernel
theorem dL_law_1561 : decode cL_law 1561 = .ok (.ireturn, 1) := by decide +kernel
theorem dL_law_1562 : decode cL_law 1562 = .ok (.goto 1940, 3) := by decide +kernel
theorem dL_law_1565 : decode cL_law 1565 = .ok (.aload_n 1, 1) := by decide +kernel
theorem dL_law_1566 : decode cL_law 1566 = .ok (.aload_n 0, 1) := by decide +kernel
theorem dL_law_1567 : decode cL_law 1567 = .ok (.iload 5, 2) := by decide +kernel
theorem dL_law_1569 : decode cL_law 1569 = .ok (.iconst 1, 1) := by decide +kernel
theorem dL_law_1570 : decode cL_law 1570 = .ok (.iadd, 1) := by decide +kernel
theorem dL_law_1571 : decode cL_law 1571 = .ok (.iaload, 1) := by decide +kernel
theorem dL_law_1572 : decode cL_law 1572 = .ok (.aload_n 0, 1) := by decide +kernel
theorem dL_law_1573 : decode cL_law 1573 = .ok (.iload 5, 2) := by decide +kernel
theorem dL_law_1575 : decode cL_law 1575 = .ok (.iconst 2, 1) := by decide +kernel
theorem dL_law_1576 : decode cL_law 1576 = .ok (.iadd, 1) := by decide +kernel
theorem dL_law_1577 : decode cL_law 1577 = .ok (.iaload, 1) := by decide +kernel
theorem dL_law_1578 : decode cL_law 1578 = .ok (.aload_n 3, 1) := by decide +kernel
theorem dL_law_1579 : decode cL_law 1579 = .ok (.invokestatic 244, 3) := by decide +kernel
theorem dL_law_1582 : decode cL_law 1582 = .ok (.istore 6, 2) := by decide +kernel
theorem dL_law_1584 : decode cL_law 1584 = .ok (.aload_n 2, 1) := by decide +kernel
theorem dL_law_1585 : decode cL_law 1585 = .ok (.aload_n 0, 1) := by decide +kernel
theorem dL_law_1586 : decode cL_law 1586 = .ok (.iload 5, 2) := by decide +kernel
theorem dL_law_1588 : decode cL_law 1588 = .ok (.iconst 1, 1) := by decide +kernel
theorem dL_law_1589 : decode cL_law 1589 = .ok (.iadd, 1) := by decide +kernel
theorem dL_law_1590 : decode cL_law 1590 = .ok (.iaload, 1) := by decide +kernel
theorem dL_law_1591 : decode cL_law 1591 = .ok (.aload_n 0, 1) := by decide +kernel
theorem dL_law_1592 : decode cL_law 1592 = .ok (.iload 5, 2) := by decide +kernel
theorem dL_law_1594 : decode cL_law 1594 = .ok (.iconst 2, 1) := by decide +kernel
theorem dL_law_1595 : decode cL_law 1595 = .ok (.iadd, 1) := by decide +kernel
theorem dL_law_1596 : decode cL_law 1596 = .ok (.iaload, 1) := by decide +kernel
theorem dL_law_1597 : decode cL_law 1597 = .ok (.invokevirtual 246, 3) := by decide +kernel
theorem dL_law_1600 : decode cL_law 1600 = .ok (.istore 7, 2) := by decide +kernel
theorem dL_law_1602 : decode cL_law 1602 = .ok (.aload_n 2, 1) := by decide +kernel
theorem dL_law_1603 : decode cL_law 1603 = .ok (.invokevirtual 186, 3) := by decide +kernel
theorem dL_law_1606 : decode cL_law 1606 = .ok (.iload 6, 2) := by decide +kernel
theorem dL_law_1608 : decode cL_law 1608 = .ok (.if_icmp .eq 5, 3) := by decide +kernel
theorem dL_law_1611 : decode cL_law 1611 = .ok (.iconst 0, 1) := by decide +kernel
theorem dL_law_1612 : decode cL_law 1612 = .ok (.ireturn, 1) := by decide +kernel
theorem dL_law_1613 : decode cL_law 1613 = .ok (.iload 6, 2) := by decide +kernel
theorem dL_law_1615 : decode cL_law 1615 = .ok (.ifCond .ne 15, 3) := by decide +kernel
theorem dL_law_1618 : decode cL_law 1618 = .ok (.aload_n 3, 1) := by decide +kernel
theorem dL_law_1619 : decode cL_law 1619 = .ok (.iconst 0, 1) := by decide +kernel
theorem dL_law_1620 : decode cL_law 1620 = .ok (.laload, 1) := by decide +kernel
theorem dL_law_1621 : decode cL_law 1621 = .ok (.iload 7, 2) := by decide +kernel
theorem dL_law_1623 : decode cL_law 1623 = .ok (.i2l, 1) := by decide +kernel
theorem dL_law_1624 : decode cL_law 1624 = .ok (.lcmp, 1) := by decide +kernel
theorem dL_law_1625 : decode cL_law 1625 = .ok (.ifCond .eq 5, 3) := by decide +kernel
theorem dL_law_1628 : decode cL_law 1628 = .ok (.iconst 0, 1) := by decide +kernel
theorem dL_law_1629 : decode cL_law 1629 = .ok (.ireturn, 1) := by decide +kernel
theorem dL_law_1630 : decode cL_law 1630 = .ok (.goto 1872, 3) := by decide +kernel
theorem dL_law_1633 : decode cL_law 1633 = .ok (.aload_n 1, 1) := by decide +kernel
theorem dL_law_1634 : decode cL_law 1634 = .ok (.invokevirtual 247, 3) := by decide +kernel
theorem dL_law_1637 : decode cL_law 1637 = .ok (.aload_n 2, 1) := by decide +kernel
theorem dL_law_1638 : decode cL_law 1638 = .ok (.invokevirtual 250, 3) := by decide +kernel
theorem dL_law_1641 : decode cL_law 1641 = .ok (.if_icmp .eq 1861, 3) := by decide +kernel
theorem dL_law_1644 : decode cL_law 1644 = .ok (.iconst 0, 1) := by decide +kernel
theorem dL_law_1645 : decode cL_law 1645 = .ok (.ireturn, 1) := by decide +kernel
theorem dL_law_1646 : decode cL_law 1646 = .ok (.aload_n 1, 1) := by decide +kernel
theorem dL_law_1647 : decode cL_law 1647 = .ok (.aload_n 0, 1) := by decide +kernel
theorem dL_law_1648 : decode cL_law 1648 = .ok (.iload 5, 2) := by decide +kernel
theorem dL_law_1650 : decode cL_law 1650 = .ok (.iconst 1, 1) := by decide +kernel
theorem dL_law_1651 : decode cL_law 1651 = .ok (.iadd, 1) := by decide +kernel
theorem dL_law_1652 : decode cL_law 1652 = .ok (.iaload, 1) := by decide +kernel
theorem dL_law_1653 : decode cL_law 1653 = .ok (.aload_n 3, 1) := by decide +kernel
theorem dL_law_1654 : decode cL_law 1654 = .ok (.invokestatic 251, 3) := by decide +kernel
theorem dL_law_1657 : decode cL_law 1657 = .ok (.istore 6, 2) := by decide +kernel
theorem dL_law_1659 : decode cL_law 1659 = .ok (.aload_n 2, 1) := by decide +kernel
theorem dL_law_1660 : decode cL_law 1660 = .ok (.aload_n 0, 1) := by decide +kernel
theorem dL_law_1661 : decode cL_law 1661 = .ok (.iload 5, 2) := by decide +kernel
theorem dL_law_1663 : decode cL_law 1663 = .ok (.iconst 1, 1) := by decide +kernel
theorem dL_law_1664 : decode cL_law 1664 = .ok (.iadd, 1) := by decide +kernel
theorem dL_law_1665 : decode cL_law 1665 = .ok (.iaload, 1) := by decide +kernel
theorem dL_law_1666 : decode cL_law 1666 = .ok (.invokevirtual 253, 3) := by decide +kernel
theorem dL_law_1669 : decode cL_law 1669 = .ok (.istore 7, 2) := by decide +kernel
theorem dL_law_1671 : decode cL_law 1671 = .ok (.aload_n 2, 1) := by decide +kernel
theorem dL_law_1672 : decode cL_law 1672 = .ok (.invokevirtual 186, 3) := by decide +kernel
theorem dL_law_1675 : decode cL_law 1675 = .ok (.iload 6, 2) := by decide +kernel
theorem dL_law_1677 : decode cL_law 1677 = .ok (.if_icmp .eq 5, 3) := by decide +kernel
theorem dL_law_1680 : decode cL_law 1680 = .ok (.iconst 0, 1) := by decide +kernel
theorem dL_law_1681 : decode cL_law 1681 = .ok (.ireturn, 1) := by decide +kernel
theorem dL_law_1682 : decode cL_law 1682 = .ok (.iload 6, 2) := by decide +kernel
theorem dL_law_1684 : decode cL_law 1684 = .ok (.ifCond .ne 15, 3) := by decide +kernel
theorem dL_law_1687 : decode cL_law 1687 = .ok (.aload_n 3, 1) := by decide +kernel
theorem dL_law_1688 : decode cL_law 1688 = .ok (.iconst 0, 1) := by decide +kernel
theorem dL_law_1689 : decode cL_law 1689 = .ok (.laload, 1) := by decide +kernel
theorem dL_law_1690 : decode cL_law 1690 = .ok (.iload 7, 2) := by decide +kernel
theorem dL_law_1692 : decode cL_law 1692 = .ok (.i2l, 1) := by decide +kernel
theorem dL_law_1693 : decode cL_law 1693 = .ok (.lcmp, 1) := by decide +kernel
theorem dL_law_1694 : decode cL_law 1694 = .ok (.ifCond .eq 5, 3) := by decide +kernel
theorem dL_law_1697 : decode cL_law 1697 = .ok (.iconst 0, 1) := by decide +kernel
theorem dL_law_1698 : decode cL_law 1698 = .ok (.ireturn, 1) := by decide +kernel
theorem dL_law_1699 : decode cL_law 1699 = .ok (.goto 1803, 3) := by decide +kernel
theorem dL_law_1702 : decode cL_law 1702 = .ok (.aload_n 1, 1) := by decide +kernel
theorem dL_law_1703 : decode cL_law 1703 = .ok (.aload_n 0, 1) := by decide +kernel
theorem dL_law_1704 : decode cL_law 1704 = .ok (.iload 5, 2) := by decide +kernel
theorem dL_law_1706 : decode cL_law 1706 = .ok (.iconst 1, 1) := by decide +kernel
theorem dL_law_1707 : decode cL_law 1707 = .ok (.iadd, 1) := by decide +kernel
theorem dL_law_1708 : decode cL_law 1708 = .ok (.iaload, 1) := by decide +kernel
theorem dL_law_1709 : decode cL_law 1709 = .ok (.aload_n 0, 1) := by decide +kernel
theorem dL_law_1710 : decode cL_law 1710 = .ok (.iload 5, 2) := by decide +kernel
theorem dL_law_1712 : decode cL_law 1712 = .ok (.iconst 2, 1) := by decide +kernel
theorem dL_law_1713 : decode cL_law 1713 = .ok (.iadd, 1) := by decide +kernel
theorem dL_law_1714 : decode cL_law 1714 = .ok (.iaload, 1) := by decide +kernel
theorem dL_law_1715 : decode cL_law 1715 = .ok (.aload_n 0, 1) := by decide +kernel
theorem dL_law_1716 : decode cL_law 1716 = .ok (.iload 5, 2) := by decide +kernel
theorem dL_law_1718 : decode cL_law 1718 = .ok (.iconst 3, 1) := by decide +kernel
theorem dL_law_1719 : decode cL_law 1719 = .ok (.iadd, 1) := by decide +kernel
theorem dL_law_1720 : decode cL_law 1720 = .ok (.iaload, 1) := by decide +kernel
theorem dL_law_1721 : decode cL_law 1721 = .ok (.aload_n 3, 1) := by decide +kernel
theorem dL_law_1722 : decode cL_law 1722 = .ok (.invokestatic 254, 3) := by decide +kernel
theorem dL_law_1725 : decode cL_law 1725 = .ok (.istore 6, 2) := by decide +kernel
theorem dL_law_1727 : decode cL_law 1727 = .ok (.aload_n 2, 1) := by decide +kernel
theorem dL_law_1728 : decode cL_law 1728 = .ok (.aload_n 0, 1) := by decide +kernel
theorem dL_law_1729 : decode cL_law 1729 = .ok (.iload 5, 2) := by decide +kernel
theorem dL_law_1731 : decode cL_law 1731 = .ok (.iconst 1, 1) := by decide +kernel
theorem dL_law_1732 : decode cL_law 1732 = .ok (.iadd, 1) := by decide +kernel
theorem dL_law_1733 : decode cL_law 1733 = .ok (.iaload, 1) := by decide +kernel
theorem dL_law_1734 : decode cL_law 1734 = .ok (.aload_n 0, 1) := by decide +kernel
theorem dL_law_1735 : decode cL_law 1735 = .ok (.iload 5, 2) := by decide +kernel
theorem dL_law_1737 : decode cL_law 1737 = .ok (.iconst 2, 1) := by decide +kernel
theorem dL_law_1738 : decode cL_law 1738 = .ok (.iadd, 1) := by decide +kernel
theorem dL_law_1739 : decode cL_law 1739 = .ok (.iaload, 1) := by decide +kernel
theorem dL_law_1740 : decode cL_law 1740 = .ok (.aload_n 0, 1) := by decide +kernel
theorem dL_law_1741 : decode cL_law 1741 = .ok (.iload 5, 2) := by decide +kernel
theorem dL_law_1743 : decode cL_law 1743 = .ok (.iconst 3, 1) := by decide +kernel
theorem dL_law_1744 : decode cL_law 1744 = .ok (.iadd, 1) := by decide +kernel
theorem dL_law_1745 : decode cL_law 1745 = .ok (.iaload, 1) := by decide +kernel
theorem dL_law_1746 : decode cL_law 1746 = .ok (.invokevirtual 256, 3) := by decide +kernel
theorem dL_law_1749 : decode cL_law 1749 = .ok (.istore 7, 2) := by decide +kernel
theorem dL_law_1751 : decode cL_law 1751 = .ok (.aload_n 2, 1) := by decide +kernel
theorem dL_law_1752 : decode cL_law 1752 = .ok (.invokevirtual 186, 3) := by decide +kernel
theorem dL_law_1755 : decode cL_law 1755 = .ok (.iload 6, 2) := by decide +kernel
theorem dL_law_1757 : decode cL_law 1757 = .ok (.if_icmp .eq 5, 3) := by decide +kernel
theorem dL_law_1760 : decode cL_law 1760 = .ok (.iconst 0, 1) := by decide +kernel
theorem dL_law_1761 : decode cL_law 1761 = .ok (.ireturn, 1) := by decide +kernel
theorem dL_law_1762 : decode cL_law 1762 = .ok (.iload 6, 2) := by decide +kernel
theorem dL_law_1764 : decode cL_law 1764 = .ok (.ifCond .ne 15, 3) := by decide +kernel
theorem dL_law_1767 : decode cL_law 1767 = .ok (.aload_n 3, 1) := by decide +kernel
theorem dL_law_1768 : decode cL_law 1768 = .ok (.iconst 0, 1) := by decide +kernel
theorem dL_law_1769 : decode cL_law 1769 = .ok (.laload, 1) := by decide +kernel
theorem dL_law_1770 : decode cL_law 1770 = .ok (.iload 7, 2) := by decide +kernel
theorem dL_law_1772 : decode cL_law 1772 = .ok (.i2l, 1) := by decide +kernel
theorem dL_law_1773 : decode cL_law 1773 = .ok (.lcmp, 1) := by decide +kernel
theorem dL_law_1774 : decode cL_law 1774 = .ok (.ifCond .eq 5, 3) := by decide +kernel
theorem dL_law_1777 : decode cL_law 1777 = .ok (.iconst 0, 1) := by decide +kernel
theorem dL_law_1778 : decode cL_law 1778 = .ok (.ireturn, 1) := by decide +kernel
theorem dL_law_1779 : decode cL_law 1779 = .ok (.goto 1723, 3) := by decide +kernel
theorem dL_law_1782 : decode cL_law 1782 = .ok (.aload_n 1, 1) := by decide +kernel
theorem dL_law_1783 : decode cL_law 1783 = .ok (.aload_n 0, 1) := by decide +kernel
theorem dL_law_1784 : decode cL_law 1784 = .ok (.iload 5, 2) := by decide +kernel
theorem dL_law_1786 : decode cL_law 1786 = .ok (.iconst 1, 1) := by decide +kernel
theorem dL_law_1787 : decode cL_law 1787 = .ok (.iadd, 1) := by decide +kernel
theorem dL_law_1788 : decode cL_law 1788 = .ok (.iaload, 1) := by decide +kernel
theorem dL_law_1789 : decode cL_law 1789 = .ok (.aload_n 0, 1) := by decide +kernel
theorem dL_law_1790 : decode cL_law 1790 = .ok (.iload 5, 2) := by decide +kernel
theorem dL_law_1792 : decode cL_law 1792 = .ok (.iconst 2, 1) := by decide +kernel
theorem dL_law_1793 : decode cL_law 1793 = .ok (.iadd, 1) := by decide +kernel
theorem dL_law_1794 : decode cL_law 1794 = .ok (.iaload, 1) := by decide +kernel
theorem dL_law_1795 : decode cL_law 1795 = .ok (.aload_n 0, 1) := by decide +kernel
theorem dL_law_1796 : decode cL_law 1796 = .ok (.iload 5, 2) := by decide +kernel
theorem dL_law_1798 : decode cL_law 1798 = .ok (.iconst 3, 1) := by decide +kernel
theorem dL_law_1799 : decode cL_law 1799 = .ok (.iadd, 1) := by decide +kernel
theorem dL_law_1800 : decode cL_law 1800 = .ok (.iaload, 1) := by decide +kernel
theorem dL_law_1801 : decode cL_law 1801 = .ok (.aload_n 3, 1) := by decide +kernel
theorem dL_law_1802 : decode cL_law 1802 = .ok (.invokestatic 257, 3) := by decide +kernel
theorem dL_law_1805 : decode cL_law 1805 = .ok (.istore 6, 2) := by decide +kernel
theorem dL_law_1807 : decode cL_law 1807 = .ok (.aload_n 2, 1) := by decide +kernel
theorem dL_law_1808 : decode cL_law 1808 = .ok (.aload_n 0, 1) := by decide +kernel
theorem dL_law_1809 : decode cL_law 1809 = .ok (.iload 5, 2) := by decide +kernel
theorem dL_law_1811 : decode cL_law 1811 = .ok (.iconst 1, 1) := by decide +kernel
theorem dL_law_1812 : decode cL_law 1812 = .ok (.iadd, 1) := by decide +kernel
theorem dL_law_1813 : decode cL_law 1813 = .ok (.iaload, 1) := by decide +kernel
theorem dL_law_1814 : decode cL_law 1814 = .ok (.aload_n 0, 1) := by decide +kernel
theorem dL_law_1815 : decode cL_law 1815 = .ok (.iload 5, 2) := by decide +kernel
theorem dL_law_1817 : decode cL_law 1817 = .ok (.iconst 2, 1) := by decide +kernel
theorem dL_law_1818 : decode cL_law 1818 = .ok (.iadd, 1) := by decide +kernel
theorem dL_law_1819 : decode cL_law 1819 = .ok (.iaload, 1) := by decide +kernel
theorem dL_law_1820 : decode cL_law 1820 = .ok (.aload_n 0, 1) := by decide +kernel
theorem dL_law_1821 : decode cL_law 1821 = .ok (.iload 5, 2) := by decide +kernel
theorem dL_law_1823 : decode cL_law 1823 = .ok (.iconst 3, 1) := by decide +kernel
theorem dL_law_1824 : decode cL_law 1824 = .ok (.iadd, 1) := by decide +kernel
theorem dL_law_1825 : decode cL_law 1825 = .ok (.iaload, 1) := by decide +kernel
theorem dL_law_1826 : decode cL_law 1826 = .ok (.invokevirtual 259, 3) := by decide +kernel
theorem dL_law_1829 : decode cL_law 1829 = .ok (.istore 7, 2) := by decide +kernel
theorem dL_law_1831 : decode cL_law 1831 = .ok (.aload_n 2, 1) := by decide +kernel
theorem dL_law_1832 : decode cL_law 1832 = .ok (.invokevirtual 186, 3) := by decide +kernel
theorem dL_law_1835 : decode cL_law 1835 = .ok (.iload 6, 2) := by decide +kernel
theorem dL_law_1837 : decode cL_law 1837 = .ok (.if_icmp .eq 5, 3) := by decide +kernel
theorem dL_law_1840 : decode cL_law 1840 = .ok (.iconst 0, 1) := by decide +kernel
theorem dL_law_1841 : decode cL_law 1841 = .ok (.ireturn, 1) := by decide +kernel
theorem dL_law_1842 : decode cL_law 1842 = .ok (.iload 6, 2) := by decide +kernel
theorem dL_law_1844 : decode cL_law 1844 = .ok (.ifCond .ne 15, 3) := by decide +kernel
theorem dL_law_1847 : decode cL_law 1847 = .ok (.aload_n 3, 1) := by decide +kernel
theorem dL_law_1848 : decode cL_law 1848 = .ok (.iconst 0, 1) := by decide +kernel
theorem dL_law_1849 : decode cL_law 1849 = .ok (.laload, 1) := by decide +kernel
theorem dL_law_1850 : decode cL_law 1850 = .ok (.iload 7, 2) := by decide +kernel
theorem dL_law_1852 : decode cL_law 1852 = .ok (.i2l, 1) := by decide +kernel
theorem dL_law_1853 : decode cL_law 1853 = .ok (.lcmp, 1) := by decide +kernel
theorem dL_law_1854 : decode cL_law 1854 = .ok (.ifCond .eq 5, 3) := by decide +kernel
theorem dL_law_1857 : decode cL_law 1857 = .ok (.iconst 0, 1) := by decide +kernel
theorem dL_law_1858 : decode cL_law 1858 = .ok (.ireturn, 1) := by decide +kernel
theorem dL_law_1859 : decode cL_law 1859 = .ok (.goto 1643, 3) := by decide +kernel
theorem dL_law_1862 : decode cL_law 1862 = .ok (.aload_n 1, 1) := by decide +kernel
theorem dL_law_1863 : decode cL_law 1863 = .ok (.aload_n 0, 1) := by decide +kernel
theorem dL_law_1864 : decode cL_law 1864 = .ok (.iload 5, 2) := by decide +kernel
theorem dL_law_1866 : decode cL_law 1866 = .ok (.iconst 1, 1) := by decide +kernel
theorem dL_law_1867 : decode cL_law 1867 = .ok (.iadd, 1) := by decide +kernel
theorem dL_law_1868 : decode cL_law 1868 = .ok (.iaload, 1) := by decide +kernel
theorem dL_law_1869 : decode cL_law 1869 = .ok (.aload_n 3, 1) := by decide +kernel
theorem dL_law_1870 : decode cL_law 1870 = .ok (.invokestatic 260, 3) := by decide +kernel
theorem dL_law_1873 : decode cL_law 1873 = .ok (.istore 6, 2) := by decide +kernel
theorem dL_law_1875 : decode cL_law 1875 = .ok (.aload_n 2, 1) := by decide +kernel
theorem dL_law_1876 : decode cL_law 1876 = .ok (.aload_n 0, 1) := by decide +kernel
theorem dL_law_1877 : decode cL_law 1877 = .ok (.iload 5, 2) := by decide +kernel
theorem dL_law_1879 : decode cL_law 1879 = .ok (.iconst 1, 1) := by decide +kernel
theorem dL_law_1880 : decode cL_law 1880 = .ok (.iadd, 1) := by decide +kernel
theorem dL_law_1881 : decode cL_law 1881 = .ok (.iaload, 1) := by decide +kernel
theorem dL_law_1882 : decode cL_law 1882 = .ok (.invokevirtual 262, 3) := by decide +kernel
theorem dL_law_1885 : decode cL_law 1885 = .ok (.istore 7, 2) := by decide +kernel
theorem dL_law_1887 : decode cL_law 1887 = .ok (.aload_n 2, 1) := by decide +kernel
theorem dL_law_1888 : decode cL_law 1888 = .ok (.invokevirtual 186, 3) := by decide +kernel
theorem dL_law_1891 : decode cL_law 1891 = .ok (.iload 6, 2) := by decide +kernel
theorem dL_law_1893 : decode cL_law 1893 = .ok (.if_icmp .eq 5, 3) := by decide +kernel
theorem dL_law_1896 : decode cL_law 1896 = .ok (.iconst 0, 1) := by decide +kernel
theorem dL_law_1897 : decode cL_law 1897 = .ok (.ireturn, 1) := by decide +kernel
theorem dL_law_1898 : decode cL_law 1898 = .ok (.iload 6, 2) := by decide +kernel
theorem dL_law_1900 : decode cL_law 1900 = .ok (.ifCond .ne 15, 3) := by decide +kernel
theorem dL_law_1903 : decode cL_law 1903 = .ok (.aload_n 3, 1) := by decide +kernel
theorem dL_law_1904 : decode cL_law 1904 = .ok (.iconst 0, 1) := by decide +kernel
theorem dL_law_1905 : decode cL_law 1905 = .ok (.laload, 1) := by decide +kernel
theorem dL_law_1906 : decode cL_law 1906 = .ok (.iload 7, 2) := by decide +kernel
theorem dL_law_1908 : decode cL_law 1908 = .ok (.i2l, 1) := by decide +kernel
theorem dL_law_1909 : decode cL_law 1909 = .ok (.lcmp, 1) := by decide +kernel
theorem dL_law_1910 : decode cL_law 1910 = .ok (.ifCond .eq 5, 3) := by decide +kernel
theorem dL_law_1913 : decode cL_law 1913 = .ok (.iconst 0, 1) := by decide +kernel
theorem dL_law_1914 : decode cL_law 1914 = .ok (.ireturn, 1) := by decide +kernel
theorem dL_law_1915 : decode cL_law 1915 = .ok (.goto 1587, 3) := by decide +kernel
theorem dL_law_1918 : decode cL_law 1918 = .ok (.aload_n 1, 1) := by decide +kernel
theorem dL_law_1919 : decode cL_law 1919 = .ok (.aload_n 0, 1) := by decide +kernel
theorem dL_law_1920 : decode cL_law 1920 = .ok (.iload 5, 2) := by decide +kernel
theorem dL_law_1922 : decode cL_law 1922 = .ok (.iconst 1, 1) := by decide +kernel
theorem dL_law_1923 : decode cL_law 1923 = .ok (.iadd, 1) := by decide +kernel
theorem dL_law_1924 : decode cL_law 1924 = .ok (.iaload, 1) := by decide +kernel
theorem dL_law_1925 : decode cL_law 1925 = .ok (.i2c, 1) := by decide +kernel
theorem dL_law_1926 : decode cL_law 1926 = .ok (.aload_n 3, 1) := by decide +kernel
theorem dL_law_1927 : decode cL_law 1927 = .ok (.invokestatic 263, 3) := by decide +kernel
theorem dL_law_1930 : decode cL_law 1930 = .ok (.istore 6, 2) := by decide +kernel
theorem dL_law_1932 : decode cL_law 1932 = .ok (.aload_n 2, 1) := by decide +kernel
theorem dL_law_1933 : decode cL_law 1933 = .ok (.aload_n 0, 1) := by decide +kernel
theorem dL_law_1934 : decode cL_law 1934 = .ok (.iload 5, 2) := by decide +kernel
theorem dL_law_1936 : decode cL_law 1936 = .ok (.iconst 1, 1) := by decide +kernel
theorem dL_law_1937 : decode cL_law 1937 = .ok (.iadd, 1) := by decide +kernel
theorem dL_law_1938 : decode cL_law 1938 = .ok (.iaload, 1) := by decide +kernel
theorem dL_law_1939 : decode cL_law 1939 = .ok (.i2c, 1) := by decide +kernel
theorem dL_law_1940 : decode cL_law 1940 = .ok (.invokevirtual 266, 3) := by decide +kernel
theorem dL_law_1943 : decode cL_law 1943 = .ok (.istore 7, 2) := by decide +kernel
theorem dL_law_1945 : decode cL_law 1945 = .ok (.aload_n 2, 1) := by decide +kernel
theorem dL_law_1946 : decode cL_law 1946 = .ok (.invokevirtual 186, 3) := by decide +kernel
theorem dL_law_1949 : decode cL_law 1949 = .ok (.iload 6, 2) := by decide +kernel
theorem dL_law_1951 : decode cL_law 1951 = .ok (.if_icmp .eq 5, 3) := by decide +kernel
theorem dL_law_1954 : decode cL_law 1954 = .ok (.iconst 0, 1) := by decide +kernel
theorem dL_law_1955 : decode cL_law 1955 = .ok (.ireturn, 1) := by decide +kernel
theorem dL_law_1956 : decode cL_law 1956 = .ok (.iload 6, 2) := by decide +kernel
theorem dL_law_1958 : decode cL_law 1958 = .ok (.ifCond .ne 15, 3) := by decide +kernel
theorem dL_law_1961 : decode cL_law 1961 = .ok (.aload_n 3, 1) := by decide +kernel
theorem dL_law_1962 : decode cL_law 1962 = .ok (.iconst 0, 1) := by decide +kernel
theorem dL_law_1963 : decode cL_law 1963 = .ok (.laload, 1) := by decide +kernel
theorem dL_law_1964 : decode cL_law 1964 = .ok (.iload 7, 2) := by decide +kernel
theorem dL_law_1966 : decode cL_law 1966 = .ok (.i2l, 1) := by decide +kernel
theorem dL_law_1967 : decode cL_law 1967 = .ok (.lcmp, 1) := by decide +kernel
theorem dL_law_1968 : decode cL_law 1968 = .ok (.ifCond .eq 5, 3) := by decide +kernel
theorem dL_law_1971 : decode cL_law 1971 = .ok (.iconst 0, 1) := by decide +kernel
theorem dL_law_1972 : decode cL_law 1972 = .ok (.ireturn, 1) := by decide +kernel
theorem dL_law_1973 : decode cL_law 1973 = .ok (.goto 1529, 3) := by decide +kernel
theorem dL_law_1976 : decode cL_law 1976 = .ok (.aload_n 1, 1) := by decide +kernel
theorem dL_law_1977 : decode cL_law 1977 = .ok (.invokevirtual 267, 3) := by decide +kernel
theorem dL_law_1980 : decode cL_law 1980 = .ok (.aload_n 2, 1) := by decide +kernel
theorem dL_law_1981 : decode cL_law 1981 = .ok (.invokevirtual 270, 3) := by decide +kernel
theorem dL_law_1984 : decode cL_law 1984 = .ok (.if_icmp .eq 1518, 3) := by decide +kernel
theorem dL_law_1987 : decode cL_law 1987 = .ok (.iconst 0, 1) := by decide +kernel
theorem dL_law_1988 : decode cL_law 1988 = .ok (.ireturn, 1) := by decide +kernel
theorem dL_law_1989 : decode cL_law 1989 = .ok (.aload_n 1, 1) := by decide +kernel
theorem dL_law_1990 : decode cL_law 1990 = .ok (.aload_n 0, 1) := by decide +kernel
theorem dL_law_1991 : decode cL_law 1991 = .ok (.iload 5, 2) := by decide +kernel
theorem dL_law_1993 : decode cL_law 1993 = .ok (.iconst 1, 1) := by decide +kernel
theorem dL_law_1994 : decode cL_law 1994 = .ok (.iadd, 1) := by decide +kernel
theorem dL_law_1995 : decode cL_law 1995 = .ok (.iaload, 1) := by decide +kernel
theorem dL_law_1996 : decode cL_law 1996 = .ok (.aload_n 3, 1) := by decide +kernel
theorem dL_law_1997 : decode cL_law 1997 = .ok (.invokestatic 271, 3) := by decide +kernel
theorem dL_law_2000 : decode cL_law 2000 = .ok (.istore 6, 2) := by decide +kernel
theorem dL_law_2002 : decode cL_law 2002 = .ok (.aload_n 2, 1) := by decide +kernel
theorem dL_law_2003 : decode cL_law 2003 = .ok (.aload_n 0, 1) := by decide +kernel
theorem dL_law_2004 : decode cL_law 2004 = .ok (.iload 5, 2) := by decide +kernel
theorem dL_law_2006 : decode cL_law 2006 = .ok (.iconst 1, 1) := by decide +kernel
theorem dL_law_2007 : decode cL_law 2007 = .ok (.iadd, 1) := by decide +kernel
theorem dL_law_2008 : decode cL_law 2008 = .ok (.iaload, 1) := by decide +kernel
theorem dL_law_2009 : decode cL_law 2009 = .ok (.invokevirtual 273, 3) := by decide +kernel
theorem dL_law_2012 : decode cL_law 2012 = .ok (.istore 7, 2) := by decide +kernel
theorem dL_law_2014 : decode cL_law 2014 = .ok (.aload_n 2, 1) := by decide +kernel
theorem dL_law_2015 : decode cL_law 2015 = .ok (.invokevirtual 186, 3) := by decide +kernel
theorem dL_law_2018 : decode cL_law 2018 = .ok (.iload 6, 2) := by decide +kernel
theorem dL_law_2020 : decode cL_law 2020 = .ok (.if_icmp .eq 5, 3) := by decide +kernel
theorem dL_law_2023 : decode cL_law 2023 = .ok (.iconst 0, 1) := by decide +kernel
theorem dL_law_2024 : decode cL_law 2024 = .ok (.ireturn, 1) := by decide +kernel
theorem dL_law_2025 : decode cL_law 2025 = .ok (.iload 6, 2) := by decide +kernel
theorem dL_law_2027 : decode cL_law 2027 = .ok (.ifCond .ne 15, 3) := by decide +kernel
theorem dL_law_2030 : decode cL_law 2030 = .ok (.aload_n 3, 1) := by decide +kernel
theorem dL_law_2031 : decode cL_law 2031 = .ok (.iconst 0, 1) := by decide +kernel
theorem dL_law_2032 : decode cL_law 2032 = .ok (.laload, 1) := by decide +kernel
theorem dL_law_2033 : decode cL_law 2033 = .ok (.iload 7, 2) := by decide +kernel
theorem dL_law_2035 : decode cL_law 2035 = .ok (.i2l, 1) := by decide +kernel
theorem dL_law_2036 : decode cL_law 2036 = .ok (.lcmp, 1) := by decide +kernel
theorem dL_law_2037 : decode cL_law 2037 = .ok (.ifCond .eq 5, 3) := by decide +kernel
theorem dL_law_2040 : decode cL_law 2040 = .ok (.iconst 0, 1) := by decide +kernel
theorem dL_law_2041 : decode cL_law 2041 = .ok (.ireturn, 1) := by decide +kernel
theorem dL_law_2042 : decode cL_law 2042 = .ok (.goto 1460, 3) := by decide +kernel
theorem dL_law_2045 : decode cL_law 2045 = .ok (.aload_n 1, 1) := by decide +kernel
theorem dL_law_2046 : decode cL_law 2046 = .ok (.aload_n 0, 1) := by decide +kernel
theorem dL_law_2047 : decode cL_law 2047 = .ok (.iload 5, 2) := by decide +kernel
theorem dL_law_2049 : decode cL_law 2049 = .ok (.iconst 1, 1) := by decide +kernel
theorem dL_law_2050 : decode cL_law 2050 = .ok (.iadd, 1) := by decide +kernel
theorem dL_law_2051 : decode cL_law 2051 = .ok (.iaload, 1) := by decide +kernel
theorem dL_law_2052 : decode cL_law 2052 = .ok (.aload_n 3, 1) := by decide +kernel
theorem dL_law_2053 : decode cL_law 2053 = .ok (.invokestatic 274, 3) := by decide +kernel
theorem dL_law_2056 : decode cL_law 2056 = .ok (.istore 6, 2) := by decide +kernel
theorem dL_law_2058 : decode cL_law 2058 = .ok (.aload_n 2, 1) := by decide +kernel
theorem dL_law_2059 : decode cL_law 2059 = .ok (.aload_n 0, 1) := by decide +kernel
theorem dL_law_2060 : decode cL_law 2060 = .ok (.iload 5, 2) := by decide +kernel
theorem dL_law_2062 : decode cL_law 2062 = .ok (.iconst 1, 1) := by decide +kernel
theorem dL_law_2063 : decode cL_law 2063 = .ok (.iadd, 1) := by decide +kernel
theorem dL_law_2064 : decode cL_law 2064 = .ok (.iaload, 1) := by decide +kernel
theorem dL_law_2065 : decode cL_law 2065 = .ok (.invokevirtual 276, 3) := by decide +kernel
theorem dL_law_2068 : decode cL_law 2068 = .ok (.istore 7, 2) := by decide +kernel
theorem dL_law_2070 : decode cL_law 2070 = .ok (.aload_n 2, 1) := by decide +kernel
theorem dL_law_2071 : decode cL_law 2071 = .ok (.invokevirtual 186, 3) := by decide +kernel
theorem dL_law_2074 : decode cL_law 2074 = .ok (.iload 6, 2) := by decide +kernel
theorem dL_law_2076 : decode cL_law 2076 = .ok (.if_icmp .eq 5, 3) := by decide +kernel
theorem dL_law_2079 : decode cL_law 2079 = .ok (.iconst 0, 1) := by decide +kernel
theorem dL_law_2080 : decode cL_law 2080 = .ok (.ireturn, 1) := by decide +kernel
theorem dL_law_2081 : decode cL_law 2081 = .ok (.iload 6, 2) := by decide +kernel
theorem dL_law_2083 : decode cL_law 2083 = .ok (.ifCond .ne 15, 3) := by decide +kernel
theorem dL_law_2086 : decode cL_law 2086 = .ok (.aload_n 3, 1) := by decide +kernel
theorem dL_law_2087 : decode cL_law 2087 = .ok (.iconst 0, 1) := by decide +kernel
theorem dL_law_2088 : decode cL_law 2088 = .ok (.laload, 1) := by decide +kernel
theorem dL_law_2089 : decode cL_law 2089 = .ok (.iload 7, 2) := by decide +kernel
theorem dL_law_2091 : decode cL_law 2091 = .ok (.i2l, 1) := by decide +kernel
theorem dL_law_2092 : decode cL_law 2092 = .ok (.lcmp, 1) := by decide +kernel
theorem dL_law_2093 : decode cL_law 2093 = .ok (.ifCond .eq 5, 3) := by decide +kernel
theorem dL_law_2096 : decode cL_law 2096 = .ok (.iconst 0, 1) := by decide +kernel
theorem dL_law_2097 : decode cL_law 2097 = .ok (.ireturn, 1) := by decide +kernel
theorem dL_law_2098 : decode cL_law 2098 = .ok (.goto 1404, 3) := by decide +kernel
theorem dL_law_2101 : decode cL_law 2101 = .ok (.aload_n 1, 1) := by decide +kernel
theorem dL_law_2102 : decode cL_law 2102 = .ok (.aload_n 0, 1) := by decide +kernel
theorem dL_law_2103 : decode cL_law 2103 = .ok (.iload 5, 2) := by decide +kernel
theorem dL_law_2105 : decode cL_law 2105 = .ok (.iconst 1, 1) := by decide +kernel
theorem dL_law_2106 : decode cL_law 2106 = .ok (.iadd, 1) := by decide +kernel
theorem dL_law_2107 : decode cL_law 2107 = .ok (.iaload, 1) := by decide +kernel
theorem dL_law_2108 : decode cL_law 2108 = .ok (.aload_n 0, 1) := by decide +kernel
theorem dL_law_2109 : decode cL_law 2109 = .ok (.iload 5, 2) := by decide +kernel
theorem dL_law_2111 : decode cL_law 2111 = .ok (.iconst 2, 1) := by decide +kernel
theorem dL_law_2112 : decode cL_law 2112 = .ok (.iadd, 1) := by decide +kernel
theorem dL_law_2113 : decode cL_law 2113 = .ok (.iaload, 1) := by decide +kernel
theorem dL_law_2114 : decode cL_law 2114 = .ok (.aload_n 3, 1) := by decide +kernel
theorem dL_law_2115 : decode cL_law 2115 = .ok (.invokestatic 277, 3) := by decide +kernel
theorem dL_law_2118 : decode cL_law 2118 = .ok (.istore 6, 2) := by decide +kernel
theorem dL_law_2120 : decode cL_law 2120 = .ok (.aload_n 2, 1) := by decide +kernel
theorem dL_law_2121 : decode cL_law 2121 = .ok (.aload_n 0, 1) := by decide +kernel
theorem dL_law_2122 : decode cL_law 2122 = .ok (.iload 5, 2) := by decide +kernel
theorem dL_law_2124 : decode cL_law 2124 = .ok (.iconst 1, 1) := by decide +kernel
theorem dL_law_2125 : decode cL_law 2125 = .ok (.iadd, 1) := by decide +kernel
theorem dL_law_2126 : decode cL_law 2126 = .ok (.iaload, 1) := by decide +kernel
theorem dL_law_2127 : decode cL_law 2127 = .ok (.aload_n 0, 1) := by decide +kernel
theorem dL_law_2128 : decode cL_law 2128 = .ok (.iload 5, 2) := by decide +kernel
theorem dL_law_2130 : decode cL_law 2130 = .ok (.iconst 2, 1) := by decide +kernel
theorem dL_law_2131 : decode cL_law 2131 = .ok (.iadd, 1) := by decide +kernel
theorem dL_law_2132 : decode cL_law 2132 = .ok (.iaload, 1) := by decide +kernel
theorem dL_law_2133 : decode cL_law 2133 = .ok (.invokevirtual 279, 3) := by decide +kernel
theorem dL_law_2136 : decode cL_law 2136 = .ok (.istore 7, 2) := by decide +kernel
theorem dL_law_2138 : decode cL_law 2138 = .ok (.aload_n 2, 1) := by decide +kernel
theorem dL_law_2139 : decode cL_law 2139 = .ok (.invokevirtual 186, 3) := by decide +kernel
theorem dL_law_2142 : decode cL_law 2142 = .ok (.iload 6, 2) := by decide +kernel
theorem dL_law_2144 : decode cL_law 2144 = .ok (.if_icmp .eq 5, 3) := by decide +kernel
theorem dL_law_2147 : decode cL_law 2147 = .ok (.iconst 0, 1) := by decide +kernel
theorem dL_law_2148 : decode cL_law 2148 = .ok (.ireturn, 1) := by decide +kernel
theorem dL_law_2149 : decode cL_law 2149 = .ok (.iload 6, 2) := by decide +kernel
theorem dL_law_2151 : decode cL_law 2151 = .ok (.ifCond .ne 15, 3) := by decide +kernel
theorem dL_law_2154 : decode cL_law 2154 = .ok (.aload_n 3, 1) := by decide +kernel
theorem dL_law_2155 : decode cL_law 2155 = .ok (.iconst 0, 1) := by decide +kernel
theorem dL_law_2156 : decode cL_law 2156 = .ok (.laload, 1) := by decide +kernel
theorem dL_law_2157 : decode cL_law 2157 = .ok (.iload 7, 2) := by decide +kernel
theorem dL_law_2159 : decode cL_law 2159 = .ok (.i2l, 1) := by decide +kernel
theorem dL_law_2160 : decode cL_law 2160 = .ok (.lcmp, 1) := by decide +kernel
theorem dL_law_2161 : decode cL_law 2161 = .ok (.ifCond .eq 5, 3) := by decide +kernel
theorem dL_law_2164 : decode cL_law 2164 = .ok (.iconst 0, 1) := by decide +kernel
theorem dL_law_2165 : decode cL_law 2165 = .ok (.ireturn, 1) := by decide +kernel
theorem dL_law_2166 : decode cL_law 2166 = .ok (.goto 1336, 3) := by decide +kernel
theorem dL_law_2169 : decode cL_law 2169 = .ok (.aload_n 1, 1) := by decide +kernel
theorem dL_law_2170 : decode cL_law 2170 = .ok (.aload_n 0, 1) := by decide +kernel
theorem dL_law_2171 : decode cL_law 2171 = .ok (.iload 5, 2) := by decide +kernel
theorem dL_law_2173 : decode cL_law 2173 = .ok (.iconst 1, 1) := by decide +kernel
theorem dL_law_2174 : decode cL_law 2174 = .ok (.iadd, 1) := by decide +kernel
theorem dL_law_2175 : decode cL_law 2175 = .ok (.iaload, 1) := by decide +kernel
theorem dL_law_2176 : decode cL_law 2176 = .ok (.aload_n 0, 1) := by decide +kernel
theorem dL_law_2177 : decode cL_law 2177 = .ok (.iload 5, 2) := by decide +kernel
theorem dL_law_2179 : decode cL_law 2179 = .ok (.iconst 2, 1) := by decide +kernel
theorem dL_law_2180 : decode cL_law 2180 = .ok (.iadd, 1) := by decide +kernel
theorem dL_law_2181 : decode cL_law 2181 = .ok (.iaload, 1) := by decide +kernel
theorem dL_law_2182 : decode cL_law 2182 = .ok (.aload_n 0, 1) := by decide +kernel
theorem dL_law_2183 : decode cL_law 2183 = .ok (.iload 5, 2) := by decide +kernel
theorem dL_law_2185 : decode cL_law 2185 = .ok (.iconst 3, 1) := by decide +kernel
theorem dL_law_2186 : decode cL_law 2186 = .ok (.iadd, 1) := by decide +kernel
theorem dL_law_2187 : decode cL_law 2187 = .ok (.iaload, 1) := by decide +kernel
theorem dL_law_2188 : decode cL_law 2188 = .ok (.aload_n 3, 1) := by decide +kernel
theorem dL_law_2189 : decode cL_law 2189 = .ok (.invokestatic 280, 3) := by decide +kernel
theorem dL_law_2192 : decode cL_law 2192 = .ok (.istore 6, 2) := by decide +kernel
theorem dL_law_2194 : decode cL_law 2194 = .ok (.aload_n 2, 1) := by decide +kernel
theorem dL_law_2195 : decode cL_law 2195 = .ok (.aload_n 0, 1) := by decide +kernel
theorem dL_law_2196 : decode cL_law 2196 = .ok (.iload 5, 2) := by decide +kernel
theorem dL_law_2198 : decode cL_law 2198 = .ok (.iconst 1, 1) := by decide +kernel
theorem dL_law_2199 : decode cL_law 2199 = .ok (.iadd, 1) := by decide +kernel
theorem dL_law_2200 : decode cL_law 2200 = .ok (.iaload, 1) := by decide +kernel
theorem dL_law_2201 : decode cL_law 2201 = .ok (.aload_n 0, 1) := by decide +kernel
theorem dL_law_2202 : decode cL_law 2202 = .ok (.iload 5, 2) := by decide +kernel
theorem dL_law_2204 : decode cL_law 2204 = .ok (.iconst 2, 1) := by decide +kernel
theorem dL_law_2205 : decode cL_law 2205 = .ok (.iadd, 1) := by decide +kernel
theorem dL_law_2206 : decode cL_law 2206 = .ok (.iaload, 1) := by decide +kernel
theorem dL_law_2207 : decode cL_law 2207 = .ok (.aload_n 0, 1) := by decide +kernel
theorem dL_law_2208 : decode cL_law 2208 = .ok (.iload 5, 2) := by decide +kernel
theorem dL_law_2210 : decode cL_law 2210 = .ok (.iconst 3, 1) := by decide +kernel
theorem dL_law_2211 : decode cL_law 2211 = .ok (.iadd, 1) := by decide +kernel
theorem dL_law_2212 : decode cL_law 2212 = .ok (.iaload, 1) := by decide +kernel
theorem dL_law_2213 : decode cL_law 2213 = .ok (.invokevirtual 282, 3) := by decide +kernel
theorem dL_law_2216 : decode cL_law 2216 = .ok (.istore 7, 2) := by decide +kernel
theorem dL_law_2218 : decode cL_law 2218 = .ok (.aload_n 2, 1) := by decide +kernel
theorem dL_law_2219 : decode cL_law 2219 = .ok (.invokevirtual 186, 3) := by decide +kernel
theorem dL_law_2222 : decode cL_law 2222 = .ok (.iload 6, 2) := by decide +kernel
theorem dL_law_2224 : decode cL_law 2224 = .ok (.if_icmp .eq 5, 3) := by decide +kernel
theorem dL_law_2227 : decode cL_law 2227 = .ok (.iconst 0, 1) := by decide +kernel
theorem dL_law_2228 : decode cL_law 2228 = .ok (.ireturn, 1) := by decide +kernel
theorem dL_law_2229 : decode cL_law 2229 = .ok (.iload 6, 2) := by decide +kernel
theorem dL_law_2231 : decode cL_law 2231 = .ok (.ifCond .ne 15, 3) := by decide +kernel
theorem dL_law_2234 : decode cL_law 2234 = .ok (.aload_n 3, 1) := by decide +kernel
theorem dL_law_2235 : decode cL_law 2235 = .ok (.iconst 0, 1) := by decide +kernel
theorem dL_law_2236 : decode cL_law 2236 = .ok (.laload, 1) := by decide +kernel
theorem dL_law_2237 : decode cL_law 2237 = .ok (.iload 7, 2) := by decide +kernel
theorem dL_law_2239 : decode cL_law 2239 = .ok (.i2l, 1) := by decide +kernel
theorem dL_law_2240 : decode cL_law 2240 = .ok (.lcmp, 1) := by decide +kernel
theorem dL_law_2241 : decode cL_law 2241 = .ok (.ifCond .eq 5, 3) := by decide +kernel
theorem dL_law_2244 : decode cL_law 2244 = .ok (.iconst 0, 1) := by decide +kernel
theorem dL_law_2245 : decode cL_law 2245 = .ok (.ireturn, 1) := by decide +kernel
theorem dL_law_2246 : decode cL_law 2246 = .ok (.goto 1256, 3) := by decide +kernel
theorem dL_law_2249 : decode cL_law 2249 = .ok (.aload_n 1, 1) := by decide +kernel
theorem dL_law_2250 : decode cL_law 2250 = .ok (.aload_n 0, 1) := by decide +kernel
theorem dL_law_2251 : decode cL_law 2251 = .ok (.iload 5, 2) := by decide +kernel
theorem dL_law_2253 : decode cL_law 2253 = .ok (.iconst 1, 1) := by decide +kernel
theorem dL_law_2254 : decode cL_law 2254 = .ok (.iadd, 1) := by decide +kernel
theorem dL_law_2255 : decode cL_law 2255 = .ok (.iaload, 1) := by decide +kernel
theorem dL_law_2256 : decode cL_law 2256 = .ok (.aload_n 0, 1) := by decide +kernel
theorem dL_law_2257 : decode cL_law 2257 = .ok (.iload 5, 2) := by decide +kernel
theorem dL_law_2259 : decode cL_law 2259 = .ok (.iconst 2, 1) := by decide +kernel
theorem dL_law_2260 : decode cL_law 2260 = .ok (.iadd, 1) := by decide +kernel
theorem dL_law_2261 : decode cL_law 2261 = .ok (.iaload, 1) := by decide +kernel
theorem dL_law_2262 : decode cL_law 2262 = .ok (.aload_n 3, 1) := by decide +kernel
theorem dL_law_2263 : decode cL_law 2263 = .ok (.invokestatic 283, 3) := by decide +kernel
theorem dL_law_2266 : decode cL_law 2266 = .ok (.istore 6, 2) := by decide +kernel
theorem dL_law_2268 : decode cL_law 2268 = .ok (.aload_n 2, 1) := by decide +kernel
theorem dL_law_2269 : decode cL_law 2269 = .ok (.aload_n 0, 1) := by decide +kernel
theorem dL_law_2270 : decode cL_law 2270 = .ok (.iload 5, 2) := by decide +kernel
theorem dL_law_2272 : decode cL_law 2272 = .ok (.iconst 1, 1) := by decide +kernel
theorem dL_law_2273 : decode cL_law 2273 = .ok (.iadd, 1) := by decide +kernel
theorem dL_law_2274 : decode cL_law 2274 = .ok (.iaload, 1) := by decide +kernel
theorem dL_law_2275 : decode cL_law 2275 = .ok (.aload_n 0, 1) := by decide +kernel
theorem dL_law_2276 : decode cL_law 2276 = .ok (.iload 5, 2) := by decide +kernel
theorem dL_law_2278 : decode cL_law 2278 = .ok (.iconst 2, 1) := by decide +kernel
theorem dL_law_2279 : decode cL_law 2279 = .ok (.iadd, 1) := by decide +kernel
theorem dL_law_2280 : decode cL_law 2280 = .ok (.iaload, 1) := by decide +kernel
theorem dL_law_2281 : decode cL_law 2281 = .ok (.invokevirtual 285, 3) := by decide +kernel
theorem dL_law_2284 : decode cL_law 2284 = .ok (.istore 7, 2) := by decide +kernel
theorem dL_law_2286 : decode cL_law 2286 = .ok (.aload_n 2, 1) := by decide +kernel
theorem dL_law_2287 : decode cL_law 2287 = .ok (.invokevirtual 186, 3) := by decide +kernel
theorem dL_law_2290 : decode cL_law 2290 = .ok (.iload 6, 2) := by decide +kernel
theorem dL_law_2292 : decode cL_law 2292 = .ok (.if_icmp .eq 5, 3) := by decide +kernel
theorem dL_law_2295 : decode cL_law 2295 = .ok (.iconst 0, 1) := by decide +kernel
theorem dL_law_2296 : decode cL_law 2296 = .ok (.ireturn, 1) := by decide +kernel
theorem dL_law_2297 : decode cL_law 2297 = .ok (.iload 6, 2) := by decide +kernel
theorem dL_law_2299 : decode cL_law 2299 = .ok (.ifCond .ne 15, 3) := by decide +kernel
theorem dL_law_2302 : decode cL_law 2302 = .ok (.aload_n 3, 1) := by decide +kernel
theorem dL_law_2303 : decode cL_law 2303 = .ok (.iconst 0, 1) := by decide +kernel
theorem dL_law_2304 : decode cL_law 2304 = .ok (.laload, 1) := by decide +kernel
theorem dL_law_2305 : decode cL_law 2305 = .ok (.iload 7, 2) := by decide +kernel
theorem dL_law_2307 : decode cL_law 2307 = .ok (.i2l, 1) := by decide +kernel
theorem dL_law_2308 : decode cL_law 2308 = .ok (.lcmp, 1) := by decide +kernel
theorem dL_law_2309 : decode cL_law 2309 = .ok (.ifCond .eq 5, 3) := by decide +kernel
theorem dL_law_2312 : decode cL_law 2312 = .ok (.iconst 0, 1) := by decide +kernel
theorem dL_law_2313 : decode cL_law 2313 = .ok (.ireturn, 1) := by decide +kernel
theorem dL_law_2314 : decode cL_law 2314 = .ok (.goto 1188, 3) := by decide +kernel
theorem dL_law_2317 : decode cL_law 2317 = .ok (.aload_n 1, 1) := by decide +kernel
theorem dL_law_2318 : decode cL_law 2318 = .ok (.aload_n 0, 1) := by decide +kernel
theorem dL_law_2319 : decode cL_law 2319 = .ok (.iload 5, 2) := by decide +kernel
theorem dL_law_2321 : decode cL_law 2321 = .ok (.iconst 1, 1) := by decide +kernel
theorem dL_law_2322 : decode cL_law 2322 = .ok (.iadd, 1) := by decide +kernel
theorem dL_law_2323 : decode cL_law 2323 = .ok (.iaload, 1) := by decide +kernel
theorem dL_law_2324 : decode cL_law 2324 = .ok (.aload_n 0, 1) := by decide +kernel
theorem dL_law_2325 : decode cL_law 2325 = .ok (.iload 5, 2) := by decide +kernel
theorem dL_law_2327 : decode cL_law 2327 = .ok (.iconst 2, 1) := by decide +kernel
theorem dL_law_2328 : decode cL_law 2328 = .ok (.iadd, 1) := by decide +kernel
theorem dL_law_2329 : decode cL_law 2329 = .ok (.iaload, 1) := by decide +kernel
theorem dL_law_2330 : decode cL_law 2330 = .ok (.aload_n 0, 1) := by decide +kernel
theorem dL_law_2331 : decode cL_law 2331 = .ok (.iload 5, 2) := by decide +kernel
theorem dL_law_2333 : decode cL_law 2333 = .ok (.iconst 3, 1) := by decide +kernel
theorem dL_law_2334 : decode cL_law 2334 = .ok (.iadd, 1) := by decide +kernel
theorem dL_law_2335 : decode cL_law 2335 = .ok (.iaload, 1) := by decide +kernel
theorem dL_law_2336 : decode cL_law 2336 = .ok (.aload_n 3, 1) := by decide +kernel
theorem dL_law_2337 : decode cL_law 2337 = .ok (.invokestatic 286, 3) := by decide +kernel
theorem dL_law_2340 : decode cL_law 2340 = .ok (.istore 6, 2) := by decide +kernel
theorem dL_law_2342 : decode cL_law 2342 = .ok (.aload_n 2, 1) := by decide +kernel
theorem dL_law_2343 : decode cL_law 2343 = .ok (.aload_n 0, 1) := by decide +kernel
theorem dL_law_2344 : decode cL_law 2344 = .ok (.iload 5, 2) := by decide +kernel
theorem dL_law_2346 : decode cL_law 2346 = .ok (.iconst 1, 1) := by decide +kernel
theorem dL_law_2347 : decode cL_law 2347 = .ok (.iadd, 1) := by decide +kernel
theorem dL_law_2348 : decode cL_law 2348 = .ok (.iaload, 1) := by decide +kernel
theorem dL_law_2349 : decode cL_law 2349 = .ok (.aload_n 0, 1) := by decide +kernel
theorem dL_law_2350 : decode cL_law 2350 = .ok (.iload 5, 2) := by decide +kernel
theorem dL_law_2352 : decode cL_law 2352 = .ok (.iconst 2, 1) := by decide +kernel
theorem dL_law_2353 : decode cL_law 2353 = .ok (.iadd, 1) := by decide +kernel
theorem dL_law_2354 : decode cL_law 2354 = .ok (.iaload, 1) := by decide +kernel
theorem dL_law_2355 : decode cL_law 2355 = .ok (.aload_n 0, 1) := by decide +kernel
theorem dL_law_2356 : decode cL_law 2356 = .ok (.iload 5, 2) := by decide +kernel
theorem dL_law_2358 : decode cL_law 2358 = .ok (.iconst 3, 1) := by decide +kernel
theorem dL_law_2359 : decode cL_law 2359 = .ok (.iadd, 1) := by decide +kernel
theorem dL_law_2360 : decode cL_law 2360 = .ok (.iaload, 1) := by decide +kernel
theorem dL_law_2361 : decode cL_law 2361 = .ok (.invokevirtual 288, 3) := by decide +kernel
theorem dL_law_2364 : decode cL_law 2364 = .ok (.istore 7, 2) := by decide +kernel
theorem dL_law_2366 : decode cL_law 2366 = .ok (.aload_n 2, 1) := by decide +kernel
theorem dL_law_2367 : decode cL_law 2367 = .ok (.invokevirtual 186, 3) := by decide +kernel
theorem dL_law_2370 : decode cL_law 2370 = .ok (.iload 6, 2) := by decide +kernel
theorem dL_law_2372 : decode cL_law 2372 = .ok (.if_icmp .eq 5, 3) := by decide +kernel
theorem dL_law_2375 : decode cL_law 2375 = .ok (.iconst 0, 1) := by decide +kernel
theorem dL_law_2376 : decode cL_law 2376 = .ok (.ireturn, 1) := by decide +kernel
theorem dL_law_2377 : decode cL_law 2377 = .ok (.iload 6, 2) := by decide +kernel
theorem dL_law_2379 : decode cL_law 2379 = .ok (.ifCond .ne 15, 3) := by decide +kernel
theorem dL_law_2382 : decode cL_law 2382 = .ok (.aload_n 3, 1) := by decide +kernel
theorem dL_law_2383 : decode cL_law 2383 = .ok (.iconst 0, 1) := by decide +kernel
theorem dL_law_2384 : decode cL_law 2384 = .ok (.laload, 1) := by decide +kernel
theorem dL_law_2385 : decode cL_law 2385 = .ok (.iload 7, 2) := by decide +kernel
theorem dL_law_2387 : decode cL_law 2387 = .ok (.i2l, 1) := by decide +kernel
theorem dL_law_2388 : decode cL_law 2388 = .ok (.lcmp, 1) := by decide +kernel
theorem dL_law_2389 : decode cL_law 2389 = .ok (.ifCond .eq 5, 3) := by decide +kernel
theorem dL_law_2392 : decode cL_law 2392 = .ok (.iconst 0, 1) := by decide +kernel
theorem dL_law_2393 : decode cL_law 2393 = .ok (.ireturn, 1) := by decide +kernel
theorem dL_law_2394 : decode cL_law 2394 = .ok (.goto 1108, 3) := by decide +kernel
theorem dL_law_2397 : decode cL_law 2397 = .ok (.aload_n 1, 1) := by decide +kernel
theorem dL_law_2398 : decode cL_law 2398 = .ok (.aload_n 0, 1) := by decide +kernel
theorem dL_law_2399 : decode cL_law 2399 = .ok (.iload 5, 2) := by decide +kernel
theorem dL_law_2401 : decode cL_law 2401 = .ok (.iconst 1, 1) := by decide +kernel
theorem dL_law_2402 : decode cL_law 2402 = .ok (.iadd, 1) := by decide +kernel
theorem dL_law_2403 : decode cL_law 2403 = .ok (.iaload, 1) := by decide +kernel
theorem dL_law_2404 : decode cL_law 2404 = .ok (.aload_n 3, 1) := by decide +kernel
theorem dL_law_2405 : decode cL_law 2405 = .ok (.invokestatic 289, 3) := by decide +kernel
theorem dL_law_2408 : decode cL_law 2408 = .ok (.istore 6, 2) := by decide +kernel
theorem dL_law_2410 : decode cL_law 2410 = .ok (.aload_n 2, 1) := by decide +kernel
theorem dL_law_2411 : decode cL_law 2411 = .ok (.aload_n 0, 1) := by decide +kernel
theorem dL_law_2412 : decode cL_law 2412 = .ok (.iload 5, 2) := by decide +kernel
theorem dL_law_2414 : decode cL_law 2414 = .ok (.iconst 1, 1) := by decide +kernel
theorem dL_law_2415 : decode cL_law 2415 = .ok (.iadd, 1) := by decide +kernel
theorem dL_law_2416 : decode cL_law 2416 = .ok (.iaload, 1) := by decide +kernel
theorem dL_law_2417 : decode cL_law 2417 = .ok (.invokevirtual 291, 3) := by decide +kernel
theorem dL_law_2420 : decode cL_law 2420 = .ok (.istore 7, 2) := by decide +kernel
theorem dL_law_2422 : decode cL_law 2422 = .ok (.aload_n 2, 1) := by decide +kernel
theorem dL_law_2423 : decode cL_law 2423 = .ok (.invokevirtual 186, 3) := by decide +kernel
theorem dL_law_2426 : decode cL_law 2426 = .ok (.iload 6, 2) := by decide +kernel
theorem dL_law_2428 : decode cL_law 2428 = .ok (.if_icmp .eq 5, 3) := by decide +kernel
theorem dL_law_2431 : decode cL_law 2431 = .ok (.iconst 0, 1) := by decide +kernel
theorem dL_law_2432 : decode cL_law 2432 = .ok (.ireturn, 1) := by decide +kernel
theorem dL_law_2433 : decode cL_law 2433 = .ok (.iload 6, 2) := by decide +kernel
theorem dL_law_2435 : decode cL_law 2435 = .ok (.ifCond .ne 15, 3) := by decide +kernel
theorem dL_law_2438 : decode cL_law 2438 = .ok (.aload_n 3, 1) := by decide +kernel
theorem dL_law_2439 : decode cL_law 2439 = .ok (.iconst 0, 1) := by decide +kernel
theorem dL_law_2440 : decode cL_law 2440 = .ok (.laload, 1) := by decide +kernel
theorem dL_law_2441 : decode cL_law 2441 = .ok (.iload 7, 2) := by decide +kernel
theorem dL_law_2443 : decode cL_law 2443 = .ok (.i2l, 1) := by decide +kernel
theorem dL_law_2444 : decode cL_law 2444 = .ok (.lcmp, 1) := by decide +kernel
theorem dL_law_2445 : decode cL_law 2445 = .ok (.ifCond .eq 5, 3) := by decide +kernel
theorem dL_law_2448 : decode cL_law 2448 = .ok (.iconst 0, 1) := by decide +kernel
theorem dL_law_2449 : decode cL_law 2449 = .ok (.ireturn, 1) := by decide +kernel
theorem dL_law_2450 : decode cL_law 2450 = .ok (.goto 1052, 3) := by decide +kernel
theorem dL_law_2453 : decode cL_law 2453 = .ok (.aload_n 1, 1) := by decide +kernel
theorem dL_law_2454 : decode cL_law 2454 = .ok (.aload_n 0, 1) := by decide +kernel
theorem dL_law_2455 : decode cL_law 2455 = .ok (.iload 5, 2) := by decide +kernel
theorem dL_law_2457 : decode cL_law 2457 = .ok (.iconst 1, 1) := by decide +kernel
theorem dL_law_2458 : decode cL_law 2458 = .ok (.iadd, 1) := by decide +kernel
theorem dL_law_2459 : decode cL_law 2459 = .ok (.iaload, 1) := by decide +kernel
theorem dL_law_2460 : decode cL_law 2460 = .ok (.aload_n 0, 1) := by decide +kernel
theorem dL_law_2461 : decode cL_law 2461 = .ok (.iload 5, 2) := by decide +kernel
theorem dL_law_2463 : decode cL_law 2463 = .ok (.iconst 2, 1) := by decide +kernel
theorem dL_law_2464 : decode cL_law 2464 = .ok (.iadd, 1) := by decide +kernel
theorem dL_law_2465 : decode cL_law 2465 = .ok (.iaload, 1) := by decide +kernel
theorem dL_law_2466 : decode cL_law 2466 = .ok (.aload_n 3, 1) := by decide +kernel
theorem dL_law_2467 : decode cL_law 2467 = .ok (.invokestatic 292, 3) := by decide +kernel
theorem dL_law_2470 : decode cL_law 2470 = .ok (.istore 6, 2) := by decide +kernel
theorem dL_law_2472 : decode cL_law 2472 = .ok (.aload_n 2, 1) := by decide +kernel
theorem dL_law_2473 : decode cL_law 2473 = .ok (.aload_n 0, 1) := by decide +kernel
theorem dL_law_2474 : decode cL_law 2474 = .ok (.iload 5, 2) := by decide +kernel
theorem dL_law_2476 : decode cL_law 2476 = .ok (.iconst 1, 1) := by decide +kernel
theorem dL_law_2477 : decode cL_law 2477 = .ok (.iadd, 1) := by decide +kernel
theorem dL_law_2478 : decode cL_law 2478 = .ok (.iaload, 1) := by decide +kernel
theorem dL_law_2479 : decode cL_law 2479 = .ok (.aload_n 0, 1) := by decide +kernel
theorem dL_law_2480 : decode cL_law 2480 = .ok (.iload 5, 2) := by decide +kernel
theorem dL_law_2482 : decode cL_law 2482 = .ok (.iconst 2, 1) := by decide +kernel
theorem dL_law_2483 : decode cL_law 2483 = .ok (.iadd, 1) := by decide +kernel
theorem dL_law_2484 : decode cL_law 2484 = .ok (.iaload, 1) := by decide +kernel
theorem dL_law_2485 : decode cL_law 2485 = .ok (.invokevirtual 294, 3) := by decide +kernel
theorem dL_law_2488 : decode cL_law 2488 = .ok (.istore 7, 2) := by decide +kernel
theorem dL_law_2490 : decode cL_law 2490 = .ok (.aload_n 2, 1) := by decide +kernel
theorem dL_law_2491 : decode cL_law 2491 = .ok (.invokevirtual 186, 3) := by decide +kernel
theorem dL_law_2494 : decode cL_law 2494 = .ok (.iload 6, 2) := by decide +kernel
theorem dL_law_2496 : decode cL_law 2496 = .ok (.if_icmp .eq 5, 3) := by decide +kernel
theorem dL_law_2499 : decode cL_law 2499 = .ok (.iconst 0, 1) := by decide +kernel
theorem dL_law_2500 : decode cL_law 2500 = .ok (.ireturn, 1) := by decide +kernel
theorem dL_law_2501 : decode cL_law 2501 = .ok (.iload 6, 2) := by decide +kernel
theorem dL_law_2503 : decode cL_law 2503 = .ok (.ifCond .ne 15, 3) := by decide +kernel
theorem dL_law_2506 : decode cL_law 2506 = .ok (.aload_n 3, 1) := by decide +kernel
theorem dL_law_2507 : decode cL_law 2507 = .ok (.iconst 0, 1) := by decide +kernel
theorem dL_law_2508 : decode cL_law 2508 = .ok (.laload, 1) := by decide +kernel
theorem dL_law_2509 : decode cL_law 2509 = .ok (.iload 7, 2) := by decide +kernel
theorem dL_law_2511 : decode cL_law 2511 = .ok (.i2l, 1) := by decide +kernel
theorem dL_law_2512 : decode cL_law 2512 = .ok (.lcmp, 1) := by decide +kernel
theorem dL_law_2513 : decode cL_law 2513 = .ok (.ifCond .eq 5, 3) := by decide +kernel
theorem dL_law_2516 : decode cL_law 2516 = .ok (.iconst 0, 1) := by decide +kernel
theorem dL_law_2517 : decode cL_law 2517 = .ok (.ireturn, 1) := by decide +kernel
theorem dL_law_2518 : decode cL_law 2518 = .ok (.goto 984, 3) := by decide +kernel
theorem dL_law_2521 : decode cL_law 2521 = .ok (.aload_n 1, 1) := by decide +kernel
theorem dL_law_2522 : decode cL_law 2522 = .ok (.aload_n 0, 1) := by decide +kernel
theorem dL_law_2523 : decode cL_law 2523 = .ok (.iload 5, 2) := by decide +kernel
theorem dL_law_2525 : decode cL_law 2525 = .ok (.iconst 1, 1) := by decide +kernel
theorem dL_law_2526 : decode cL_law 2526 = .ok (.iadd, 1) := by decide +kernel
theorem dL_law_2527 : decode cL_law 2527 = .ok (.iaload, 1) := by decide +kernel
theorem dL_law_2528 : decode cL_law 2528 = .ok (.aload_n 0, 1) := by decide +kernel
theorem dL_law_2529 : decode cL_law 2529 = .ok (.iload 5, 2) := by decide +kernel
theorem dL_law_2531 : decode cL_law 2531 = .ok (.iconst 2, 1) := by decide +kernel
theorem dL_law_2532 : decode cL_law 2532 = .ok (.iadd, 1) := by decide +kernel
theorem dL_law_2533 : decode cL_law 2533 = .ok (.iaload, 1) := by decide +kernel
theorem dL_law_2534 : decode cL_law 2534 = .ok (.aload_n 3, 1) := by decide +kernel
theorem dL_law_2535 : decode cL_law 2535 = .ok (.invokestatic 295, 3) := by decide +kernel
theorem dL_law_2538 : decode cL_law 2538 = .ok (.istore 6, 2) := by decide +kernel
theorem dL_law_2540 : decode cL_law 2540 = .ok (.aload_n 2, 1) := by decide +kernel
theorem dL_law_2541 : decode cL_law 2541 = .ok (.aload_n 0, 1) := by decide +kernel
theorem dL_law_2542 : decode cL_law 2542 = .ok (.iload 5, 2) := by decide +kernel
theorem dL_law_2544 : decode cL_law 2544 = .ok (.iconst 1, 1) := by decide +kernel
theorem dL_law_2545 : decode cL_law 2545 = .ok (.iadd, 1) := by decide +kernel
theorem dL_law_2546 : decode cL_law 2546 = .ok (.iaload, 1) := by decide +kernel
theorem dL_law_2547 : decode cL_law 2547 = .ok (.aload_n 0, 1) := by decide +kernel
theorem dL_law_2548 : decode cL_law 2548 = .ok (.iload 5, 2) := by decide +kernel
theorem dL_law_2550 : decode cL_law 2550 = .ok (.iconst 2, 1) := by decide +kernel
theorem dL_law_2551 : decode cL_law 2551 = .ok (.iadd, 1) := by decide +kernel
theorem dL_law_2552 : decode cL_law 2552 = .ok (.iaload, 1) := by decide +kernel
theorem dL_law_2553 : decode cL_law 2553 = .ok (.invokevirtual 297, 3) := by decide +kernel
theorem dL_law_2556 : decode cL_law 2556 = .ok (.istore 7, 2) := by decide +kernel
theorem dL_law_2558 : decode cL_law 2558 = .ok (.aload_n 2, 1) := by decide +kernel
theorem dL_law_2559 : decode cL_law 2559 = .ok (.invokevirtual 186, 3) := by decide +kernel
theorem dL_law_2562 : decode cL_law 2562 = .ok (.iload 6, 2) := by decide +kernel
theorem dL_law_2564 : decode cL_law 2564 = .ok (.if_icmp .eq 5, 3) := by decide +kernel
theorem dL_law_2567 : decode cL_law 2567 = .ok (.iconst 0, 1) := by decide +kernel
theorem dL_law_2568 : decode cL_law 2568 = .ok (.ireturn, 1) := by decide +kernel
theorem dL_law_2569 : decode cL_law 2569 = .ok (.iload 6, 2) := by decide +kernel
theorem dL_law_2571 : decode cL_law 2571 = .ok (.ifCond .ne 15, 3) := by decide +kernel
theorem dL_law_2574 : decode cL_law 2574 = .ok (.aload_n 3, 1) := by decide +kernel
theorem dL_law_2575 : decode cL_law 2575 = .ok (.iconst 0, 1) := by decide +kernel
theorem dL_law_2576 : decode cL_law 2576 = .ok (.laload, 1) := by decide +kernel
theorem dL_law_2577 : decode cL_law 2577 = .ok (.iload 7, 2) := by decide +kernel
theorem dL_law_2579 : decode cL_law 2579 = .ok (.i2l, 1) := by decide +kernel
theorem dL_law_2580 : decode cL_law 2580 = .ok (.lcmp, 1) := by decide +kernel
theorem dL_law_2581 : decode cL_law 2581 = .ok (.ifCond .eq 5, 3) := by decide +kernel
theorem dL_law_2584 : decode cL_law 2584 = .ok (.iconst 0, 1) := by decide +kernel
theorem dL_law_2585 : decode cL_law 2585 = .ok (.ireturn, 1) := by decide +kernel
theorem dL_law_2586 : decode cL_law 2586 = .ok (.goto 916, 3) := by decide +kernel
theorem dL_law_2589 : decode cL_law 2589 = .ok (.aload_n 1, 1) := by decide +kernel
theorem dL_law_2590 : decode cL_law 2590 = .ok (.aload_n 0, 1) := by decide +kernel
theorem dL_law_2591 : decode cL_law 2591 = .ok (.iload 5, 2) := by decide +kernel
theorem dL_law_2593 : decode cL_law 2593 = .ok (.iconst 1, 1) := by decide +kernel
theorem dL_law_2594 : decode cL_law 2594 = .ok (.iadd, 1) := by decide +kernel
theorem dL_law_2595 : decode cL_law 2595 = .ok (.iaload, 1) := by decide +kernel
theorem dL_law_2596 : decode cL_law 2596 = .ok (.aload_n 3, 1) := by decide +kernel
theorem dL_law_2597 : decode cL_law 2597 = .ok (.invokestatic 298, 3) := by decide +kernel
theorem dL_law_2600 : decode cL_law 2600 = .ok (.istore 6, 2) := by decide +kernel
theorem dL_law_2602 : decode cL_law 2602 = .ok (.aload_n 2, 1) := by decide +kernel
theorem dL_law_2603 : decode cL_law 2603 = .ok (.aload_n 0, 1) := by decide +kernel
theorem dL_law_2604 : decode cL_law 2604 = .ok (.iload 5, 2) := by decide +kernel
theorem dL_law_2606 : decode cL_law 2606 = .ok (.iconst 1, 1) := by decide +kernel
theorem dL_law_2607 : decode cL_law 2607 = .ok (.iadd, 1) := by decide +kernel
theorem dL_law_2608 : decode cL_law 2608 = .ok (.iaload, 1) := by decide +kernel
theorem dL_law_2609 : decode cL_law 2609 = .ok (.invokevirtual 300, 3) := by decide +kernel
theorem dL_law_2612 : decode cL_law 2612 = .ok (.istore 7, 2) := by decide +kernel
theorem dL_law_2614 : decode cL_law 2614 = .ok (.aload_n 2, 1) := by decide +kernel
theorem dL_law_2615 : decode cL_law 2615 = .ok (.invokevirtual 186, 3) := by decide +kernel
theorem dL_law_2618 : decode cL_law 2618 = .ok (.iload 6, 2) := by decide +kernel
theorem dL_law_2620 : decode cL_law 2620 = .ok (.if_icmp .eq 5, 3) := by decide +kernel
theorem dL_law_2623 : decode cL_law 2623 = .ok (.iconst 0, 1) := by decide +kernel
theorem dL_law_2624 : decode cL_law 2624 = .ok (.ireturn, 1) := by decide +kernel
theorem dL_law_2625 : decode cL_law 2625 = .ok (.iload 6, 2) := by decide +kernel
theorem dL_law_2627 : decode cL_law 2627 = .ok (.ifCond .ne 15, 3) := by decide +kernel
theorem dL_law_2630 : decode cL_law 2630 = .ok (.aload_n 3, 1) := by decide +kernel
theorem dL_law_2631 : decode cL_law 2631 = .ok (.iconst 0, 1) := by decide +kernel
theorem dL_law_2632 : decode cL_law 2632 = .ok (.laload, 1) := by decide +kernel
theorem dL_law_2633 : decode cL_law 2633 = .ok (.iload 7, 2) := by decide +kernel
theorem dL_law_2635 : decode cL_law 2635 = .ok (.i2l, 1) := by decide +kernel
theorem dL_law_2636 : decode cL_law 2636 = .ok (.lcmp, 1) := by decide +kernel
theorem dL_law_2637 : decode cL_law 2637 = .ok (.ifCond .eq 5, 3) := by decide +kernel
theorem dL_law_2640 : decode cL_law 2640 = .ok (.iconst 0, 1) := by decide +kernel
theorem dL_law_2641 : decode cL_law 2641 = .ok (.ireturn, 1) := by decide +kernel
theorem dL_law_2642 : decode cL_law 2642 = .ok (.goto 860, 3) := by decide +kernel
theorem dL_law_2645 : decode cL_law 2645 = .ok (.aload_n 1, 1) := by decide +kernel
theorem dL_law_2646 : decode cL_law 2646 = .ok (.aload_n 0, 1) := by decide +kernel
theorem dL_law_2647 : decode cL_law 2647 = .ok (.iload 5, 2) := by decide +kernel
theorem dL_law_2649 : decode cL_law 2649 = .ok (.iconst 1, 1) := by decide +kernel
theorem dL_law_2650 : decode cL_law 2650 = .ok (.iadd, 1) := by decide +kernel
theorem dL_law_2651 : decode cL_law 2651 = .ok (.iaload, 1) := by decide +kernel
theorem dL_law_2652 : decode cL_law 2652 = .ok (.aload_n 3, 1) := by decide +kernel
theorem dL_law_2653 : decode cL_law 2653 = .ok (.invokestatic 301, 3) := by decide +kernel
theorem dL_law_2656 : decode cL_law 2656 = .ok (.istore 6, 2) := by decide +kernel
theorem dL_law_2658 : decode cL_law 2658 = .ok (.aload_n 2, 1) := by decide +kernel
theorem dL_law_2659 : decode cL_law 2659 = .ok (.aload_n 0, 1) := by decide +kernel
theorem dL_law_2660 : decode cL_law 2660 = .ok (.iload 5, 2) := by decide +kernel
theorem dL_law_2662 : decode cL_law 2662 = .ok (.iconst 1, 1) := by decide +kernel
theorem dL_law_2663 : decode cL_law 2663 = .ok (.iadd, 1) := by decide +kernel
theorem dL_law_2664 : decode cL_law 2664 = .ok (.iaload, 1) := by decide +kernel
theorem dL_law_2665 : decode cL_law 2665 = .ok (.invokevirtual 303, 3) := by decide +kernel
theorem dL_law_2668 : decode cL_law 2668 = .ok (.istore 7, 2) := by decide +kernel
theorem dL_law_2670 : decode cL_law 2670 = .ok (.aload_n 2, 1) := by decide +kernel
theorem dL_law_2671 : decode cL_law 2671 = .ok (.invokevirtual 186, 3) := by decide +kernel
theorem dL_law_2674 : decode cL_law 2674 = .ok (.iload 6, 2) := by decide +kernel
theorem dL_law_2676 : decode cL_law 2676 = .ok (.if_icmp .eq 5, 3) := by decide +kernel
theorem dL_law_2679 : decode cL_law 2679 = .ok (.iconst 0, 1) := by decide +kernel
theorem dL_law_2680 : decode cL_law 2680 = .ok (.ireturn, 1) := by decide +kernel
theorem dL_law_2681 : decode cL_law 2681 = .ok (.iload 6, 2) := by decide +kernel
theorem dL_law_2683 : decode cL_law 2683 = .ok (.ifCond .ne 15, 3) := by decide +kernel
theorem dL_law_2686 : decode cL_law 2686 = .ok (.aload_n 3, 1) := by decide +kernel
theorem dL_law_2687 : decode cL_law 2687 = .ok (.iconst 0, 1) := by decide +kernel
theorem dL_law_2688 : decode cL_law 2688 = .ok (.laload, 1) := by decide +kernel
theorem dL_law_2689 : decode cL_law 2689 = .ok (.iload 7, 2) := by decide +kernel
theorem dL_law_2691 : decode cL_law 2691 = .ok (.i2l, 1) := by decide +kernel
theorem dL_law_2692 : decode cL_law 2692 = .ok (.lcmp, 1) := by decide +kernel
theorem dL_law_2693 : decode cL_law 2693 = .ok (.ifCond .eq 5, 3) := by decide +kernel
theorem dL_law_2696 : decode cL_law 2696 = .ok (.iconst 0, 1) := by decide +kernel
theorem dL_law_2697 : decode cL_law 2697 = .ok (.ireturn, 1) := by decide +kernel
theorem dL_law_2698 : decode cL_law 2698 = .ok (.goto 804, 3) := by decide +kernel
theorem dL_law_2701 : decode cL_law 2701 = .ok (.aload_n 1, 1) := by decide +kernel
theorem dL_law_2702 : decode cL_law 2702 = .ok (.aload_n 0, 1) := by decide +kernel
theorem dL_law_2703 : decode cL_law 2703 = .ok (.iload 5, 2) := by decide +kernel
theorem dL_law_2705 : decode cL_law 2705 = .ok (.iconst 1, 1) := by decide +kernel
theorem dL_law_2706 : decode cL_law 2706 = .ok (.iadd, 1) := by decide +kernel
theorem dL_law_2707 : decode cL_law 2707 = .ok (.iaload, 1) := by decide +kernel
theorem dL_law_2708 : decode cL_law 2708 = .ok (.aload_n 0, 1) := by decide +kernel
theorem dL_law_2709 : decode cL_law 2709 = .ok (.iload 5, 2) := by decide +kernel
theorem dL_law_2711 : decode cL_law 2711 = .ok (.iconst 2, 1) := by decide +kernel
theorem dL_law_2712 : decode cL_law 2712 = .ok (.iadd, 1) := by decide +kernel
theorem dL_law_2713 : decode cL_law 2713 = .ok (.iaload, 1) := by decide +kernel
theorem dL_law_2714 : decode cL_law 2714 = .ok (.aload_n 0, 1) := by decide +kernel
theorem dL_law_2715 : decode cL_law 2715 = .ok (.iload 5, 2) := by decide +kernel
theorem dL_law_2717 : decode cL_law 2717 = .ok (.iconst 3, 1) := by decide +kernel
theorem dL_law_2718 : decode cL_law 2718 = .ok (.iadd, 1) := by decide +kernel
theorem dL_law_2719 : decode cL_law 2719 = .ok (.iaload, 1) := by decide +kernel
theorem dL_law_2720 : decode cL_law 2720 = .ok (.aload_n 3, 1) := by decide +kernel
theorem dL_law_2721 : decode cL_law 2721 = .ok (.invokestatic 304, 3) := by decide +kernel
theorem dL_law_2724 : decode cL_law 2724 = .ok (.istore 6, 2) := by decide +kernel
theorem dL_law_2726 : decode cL_law 2726 = .ok (.aload_n 2, 1) := by decide +kernel
theorem dL_law_2727 : decode cL_law 2727 = .ok (.aload_n 0, 1) := by decide +kernel
theorem dL_law_2728 : decode cL_law 2728 = .ok (.iload 5, 2) := by decide +kernel
theorem dL_law_2730 : decode cL_law 2730 = .ok (.iconst 1, 1) := by decide +kernel
theorem dL_law_2731 : decode cL_law 2731 = .ok (.iadd, 1) := by decide +kernel
theorem dL_law_2732 : decode cL_law 2732 = .ok (.iaload, 1) := by decide +kernel
theorem dL_law_2733 : decode cL_law 2733 = .ok (.aload_n 0, 1) := by decide +kernel
theorem dL_law_2734 : decode cL_law 2734 = .ok (.iload 5, 2) := by decide +kernel
theorem dL_law_2736 : decode cL_law 2736 = .ok (.iconst 2, 1) := by decide +kernel
theorem dL_law_2737 : decode cL_law 2737 = .ok (.iadd, 1) := by decide +kernel
theorem dL_law_2738 : decode cL_law 2738 = .ok (.iaload, 1) := by decide +kernel
theorem dL_law_2739 : decode cL_law 2739 = .ok (.aload_n 0, 1) := by decide +kernel
theorem dL_law_2740 : decode cL_law 2740 = .ok (.iload 5, 2) := by decide +kernel
theorem dL_law_2742 : decode cL_law 2742 = .ok (.iconst 3, 1) := by decide +kernel
theorem dL_law_2743 : decode cL_law 2743 = .ok (.iadd, 1) := by decide +kernel
theorem dL_law_2744 : decode cL_law 2744 = .ok (.iaload, 1) := by decide +kernel
theorem dL_law_2745 : decode cL_law 2745 = .ok (.invokevirtual 306, 3) := by decide +kernel
theorem dL_law_2748 : decode cL_law 2748 = .ok (.istore 7, 2) := by decide +kernel
theorem dL_law_2750 : decode cL_law 2750 = .ok (.aload_n 2, 1) := by decide +kernel
theorem dL_law_2751 : decode cL_law 2751 = .ok (.invokevirtual 186, 3) := by decide +kernel
theorem dL_law_2754 : decode cL_law 2754 = .ok (.iload 6, 2) := by decide +kernel
theorem dL_law_2756 : decode cL_law 2756 = .ok (.if_icmp .eq 5, 3) := by decide +kernel
theorem dL_law_2759 : decode cL_law 2759 = .ok (.iconst 0, 1) := by decide +kernel
theorem dL_law_2760 : decode cL_law 2760 = .ok (.ireturn, 1) := by decide +kernel
theorem dL_law_2761 : decode cL_law 2761 = .ok (.iload 6, 2) := by decide +kernel
theorem dL_law_2763 : decode cL_law 2763 = .ok (.ifCond .ne 15, 3) := by decide +kernel
theorem dL_law_2766 : decode cL_law 2766 = .ok (.aload_n 3, 1) := by decide +kernel
theorem dL_law_2767 : decode cL_law 2767 = .ok (.iconst 0, 1) := by decide +kernel
theorem dL_law_2768 : decode cL_law 2768 = .ok (.laload, 1) := by decide +kernel
theorem dL_law_2769 : decode cL_law 2769 = .ok (.iload 7, 2) := by decide +kernel
theorem dL_law_2771 : decode cL_law 2771 = .ok (.i2l, 1) := by decide +kernel
theorem dL_law_2772 : decode cL_law 2772 = .ok (.lcmp, 1) := by decide +kernel
theorem dL_law_2773 : decode cL_law 2773 = .ok (.ifCond .eq 5, 3) := by decide +kernel
theorem dL_law_2776 : decode cL_law 2776 = .ok (.iconst 0, 1) := by decide +kernel
theorem dL_law_2777 : decode cL_law 2777 = .ok (.ireturn, 1) := by decide +kernel
theorem dL_law_2778 : decode cL_law 2778 = .ok (.goto 724, 3) := by decide +kernel
theorem dL_law_2781 : decode cL_law 2781 = .ok (.aload_n 1, 1) := by decide +kernel
theorem dL_law_2782 : decode cL_law 2782 = .ok (.aload_n 0, 1) := by decide +kernel
theorem dL_law_2783 : decode cL_law 2783 = .ok (.iload 5, 2) := by decide +kernel
theorem dL_law_2785 : decode cL_law 2785 = .ok (.iconst 1, 1) := by decide +kernel
theorem dL_law_2786 : decode cL_law 2786 = .ok (.iadd, 1) := by decide +kernel
theorem dL_law_2787 : decode cL_law 2787 = .ok (.iaload, 1) := by decide +kernel
theorem dL_law_2788 : decode cL_law 2788 = .ok (.aload_n 0, 1) := by decide +kernel
theorem dL_law_2789 : decode cL_law 2789 = .ok (.iload 5, 2) := by decide +kernel
theorem dL_law_2791 : decode cL_law 2791 = .ok (.iconst 2, 1) := by decide +kernel
theorem dL_law_2792 : decode cL_law 2792 = .ok (.iadd, 1) := by decide +kernel
theorem dL_law_2793 : decode cL_law 2793 = .ok (.iaload, 1) := by decide +kernel
theorem dL_law_2794 : decode cL_law 2794 = .ok (.aload_n 3, 1) := by decide +kernel
theorem dL_law_2795 : decode cL_law 2795 = .ok (.invokestatic 307, 3) := by decide +kernel
theorem dL_law_2798 : decode cL_law 2798 = .ok (.istore 6, 2) := by decide +kernel
theorem dL_law_2800 : decode cL_law 2800 = .ok (.aload_n 2, 1) := by decide +kernel
theorem dL_law_2801 : decode cL_law 2801 = .ok (.aload_n 0, 1) := by decide +kernel
theorem dL_law_2802 : decode cL_law 2802 = .ok (.iload 5, 2) := by decide +kernel
theorem dL_law_2804 : decode cL_law 2804 = .ok (.iconst 1, 1) := by decide +kernel
theorem dL_law_2805 : decode cL_law 2805 = .ok (.iadd, 1) := by decide +kernel
theorem dL_law_2806 : decode cL_law 2806 = .ok (.iaload, 1) := by decide +kernel
theorem dL_law_2807 : decode cL_law 2807 = .ok (.aload_n 0, 1) := by decide +kernel
theorem dL_law_2808 : decode cL_law 2808 = .ok (.iload 5, 2) := by decide +kernel
theorem dL_law_2810 : decode cL_law 2810 = .ok (.iconst 2, 1) := by decide +kernel
theorem dL_law_2811 : decode cL_law 2811 = .ok (.iadd, 1) := by decide +kernel
theorem dL_law_2812 : decode cL_law 2812 = .ok (.iaload, 1) := by decide +kernel
theorem dL_law_2813 : decode cL_law 2813 = .ok (.invokevirtual 309, 3) := by decide +kernel
theorem dL_law_2816 : decode cL_law 2816 = .ok (.istore 7, 2) := by decide +kernel
theorem dL_law_2818 : decode cL_law 2818 = .ok (.aload_n 2, 1) := by decide +kernel
theorem dL_law_2819 : decode cL_law 2819 = .ok (.invokevirtual 186, 3) := by decide +kernel
theorem dL_law_2822 : decode cL_law 2822 = .ok (.iload 6, 2) := by decide +kernel
theorem dL_law_2824 : decode cL_law 2824 = .ok (.if_icmp .eq 5, 3) := by decide +kernel
theorem dL_law_2827 : decode cL_law 2827 = .ok (.iconst 0, 1) := by decide +kernel
theorem dL_law_2828 : decode cL_law 2828 = .ok (.ireturn, 1) := by decide +kernel
theorem dL_law_2829 : decode cL_law 2829 = .ok (.iload 6, 2) := by decide +kernel
theorem dL_law_2831 : decode cL_law 2831 = .ok (.ifCond .ne 15, 3) := by decide +kernel
theorem dL_law_2834 : decode cL_law 2834 = .ok (.aload_n 3, 1) := by decide +kernel
theorem dL_law_2835 : decode cL_law 2835 = .ok (.iconst 0, 1) := by decide +kernel
theorem dL_law_2836 : decode cL_law 2836 = .ok (.laload, 1) := by decide +kernel
theorem dL_law_2837 : decode cL_law 2837 = .ok (.iload 7, 2) := by decide +kernel
theorem dL_law_2839 : decode cL_law 2839 = .ok (.i2l, 1) := by decide +kernel
theorem dL_law_2840 : decode cL_law 2840 = .ok (.lcmp, 1) := by decide +kernel
theorem dL_law_2841 : decode cL_law 2841 = .ok (.ifCond .eq 5, 3) := by decide +kernel
theorem dL_law_2844 : decode cL_law 2844 = .ok (.iconst 0, 1) := by decide +kernel
theorem dL_law_2845 : decode cL_law 2845 = .ok (.ireturn, 1) := by decide +kernel
theorem dL_law_2846 : decode cL_law 2846 = .ok (.goto 656, 3) := by decide +kernel
theorem dL_law_2849 : decode cL_law 2849 = .ok (.aload_n 1, 1) := by decide +kernel
theorem dL_law_2850 : decode cL_law 2850 = .ok (.aload_n 0, 1) := by decide +kernel
theorem dL_law_2851 : decode cL_law 2851 = .ok (.iload 5, 2) := by decide +kernel
theorem dL_law_2853 : decode cL_law 2853 = .ok (.iconst 1, 1) := by decide +kernel
theorem dL_law_2854 : decode cL_law 2854 = .ok (.iadd, 1) := by decide +kernel
theorem dL_law_2855 : decode cL_law 2855 = .ok (.iaload, 1) := by decide +kernel
theorem dL_law_2856 : decode cL_law 2856 = .ok (.aload_n 0, 1) := by decide +kernel
theorem dL_law_2857 : decode cL_law 2857 = .ok (.iload 5, 2) := by decide +kernel
theorem dL_law_2859 : decode cL_law 2859 = .ok (.iconst 2, 1) := by decide +kernel
theorem dL_law_2860 : decode cL_law 2860 = .ok (.iadd, 1) := by decide +kernel
theorem dL_law_2861 : decode cL_law 2861 = .ok (.iaload, 1) := by decide +kernel
theorem dL_law_2862 : decode cL_law 2862 = .ok (.aload_n 3, 1) := by decide +kernel
theorem dL_law_2863 : decode cL_law 2863 = .ok (.invokestatic 310, 3) := by decide +kernel
theorem dL_law_2866 : decode cL_law 2866 = .ok (.istore 6, 2) := by decide +kernel
theorem dL_law_2868 : decode cL_law 2868 = .ok (.aload_n 2, 1) := by decide +kernel
theorem dL_law_2869 : decode cL_law 2869 = .ok (.aload_n 0, 1) := by decide +kernel
theorem dL_law_2870 : decode cL_law 2870 = .ok (.iload 5, 2) := by decide +kernel
theorem dL_law_2872 : decode cL_law 2872 = .ok (.iconst 1, 1) := by decide +kernel
theorem dL_law_2873 : decode cL_law 2873 = .ok (.iadd, 1) := by decide +kernel
theorem dL_law_2874 : decode cL_law 2874 = .ok (.iaload, 1) := by decide +kernel
theorem dL_law_2875 : decode cL_law 2875 = .ok (.aload_n 0, 1) := by decide +kernel
theorem dL_law_2876 : decode cL_law 2876 = .ok (.iload 5, 2) := by decide +kernel
theorem dL_law_2878 : decode cL_law 2878 = .ok (.iconst 2, 1) := by decide +kernel
theorem dL_law_2879 : decode cL_law 2879 = .ok (.iadd, 1) := by decide +kernel
theorem dL_law_2880 : decode cL_law 2880 = .ok (.iaload, 1) := by decide +kernel
theorem dL_law_2881 : decode cL_law 2881 = .ok (.invokevirtual 312, 3) := by decide +kernel
theorem dL_law_2884 : decode cL_law 2884 = .ok (.istore 7, 2) := by decide +kernel
theorem dL_law_2886 : decode cL_law 2886 = .ok (.aload_n 2, 1) := by decide +kernel
theorem dL_law_2887 : decode cL_law 2887 = .ok (.invokevirtual 186, 3) := by decide +kernel
theorem dL_law_2890 : decode cL_law 2890 = .ok (.iload 6, 2) := by decide +kernel
theorem dL_law_2892 : decode cL_law 2892 = .ok (.if_icmp .eq 5, 3) := by decide +kernel
theorem dL_law_2895 : decode cL_law 2895 = .ok (.iconst 0, 1) := by decide +kernel
theorem dL_law_2896 : decode cL_law 2896 = .ok (.ireturn, 1) := by decide +kernel
theorem dL_law_2897 : decode cL_law 2897 = .ok (.iload 6, 2) := by decide +kernel
theorem dL_law_2899 : decode cL_law 2899 = .ok (.ifCond .ne 15, 3) := by decide +kernel
theorem dL_law_2902 : decode cL_law 2902 = .ok (.aload_n 3, 1) := by decide +kernel
theorem dL_law_2903 : decode cL_law 2903 = .ok (.iconst 0, 1) := by decide +kernel
theorem dL_law_2904 : decode cL_law 2904 = .ok (.laload, 1) := by decide +kernel
theorem dL_law_2905 : decode cL_law 2905 = .ok (.iload 7, 2) := by decide +kernel
theorem dL_law_2907 : decode cL_law 2907 = .ok (.i2l, 1) := by decide +kernel
theorem dL_law_2908 : decode cL_law 2908 = .ok (.lcmp, 1) := by decide +kernel
theorem dL_law_2909 : decode cL_law 2909 = .ok (.ifCond .eq 5, 3) := by decide +kernel
theorem dL_law_2912 : decode cL_law 2912 = .ok (.iconst 0, 1) := by decide +kernel
theorem dL_law_2913 : decode cL_law 2913 = .ok (.ireturn, 1) := by decide +kernel
theorem dL_law_2914 : decode cL_law 2914 = .ok (.goto 588, 3) := by decide +kernel
theorem dL_law_2917 : decode cL_law 2917 = .ok (.aload_n 1, 1) := by decide +kernel
theorem dL_law_2918 : decode cL_law 2918 = .ok (.aload_n 3, 1) := by decide +kernel
theorem dL_law_2919 : decode cL_law 2919 = .ok (.invokestatic 313, 3) := by decide +kernel
theorem dL_law_2922 : decode cL_law 2922 = .ok (.istore 6, 2) := by decide +kernel
theorem dL_law_2924 : decode cL_law 2924 = .ok (.aload_n 2, 1) := by decide +kernel
theorem dL_law_2925 : decode cL_law 2925 = .ok (.invokevirtual 316, 3) := by decide +kernel
theorem dL_law_2928 : decode cL_law 2928 = .ok (.istore 7, 2) := by decide +kernel
theorem dL_law_2930 : decode cL_law 2930 = .ok (.aload_n 2, 1) := by decide +kernel
theorem dL_law_2931 : decode cL_law 2931 = .ok (.invokevirtual 186, 3) := by decide +kernel
theorem dL_law_2934 : decode cL_law 2934 = .ok (.iload 6, 2) := by decide +kernel
theorem dL_law_2936 : decode cL_law 2936 = .ok (.if_icmp .eq 5, 3) := by decide +kernel
theorem dL_law_2939 : decode cL_law 2939 = .ok (.iconst 0, 1) := by decide +kernel
theorem dL_law_2940 : decode cL_law 2940 = .ok (.ireturn, 1) := by decide +kernel
theorem dL_law_2941 : decode cL_law 2941 = .ok (.iload 6, 2) := by decide +kernel
theorem dL_law_2943 : decode cL_law 2943 = .ok (.ifCond .ne 15, 3) := by decide +kernel
theorem dL_law_2946 : decode cL_law 2946 = .ok (.aload_n 3, 1) := by decide +kernel
theorem dL_law_2947 : decode cL_law 2947 = .ok (.iconst 0, 1) := by decide +kernel
theorem dL_law_2948 : decode cL_law 2948 = .ok (.laload, 1) := by decide +kernel
theorem dL_law_2949 : decode cL_law 2949 = .ok (.iload 7, 2) := by decide +kernel
theorem dL_law_2951 : decode cL_law 2951 = .ok (.i2l, 1) := by decide +kernel
theorem dL_law_2952 : decode cL_law 2952 = .ok (.lcmp, 1) := by decide +kernel
theorem dL_law_2953 : decode cL_law 2953 = .ok (.ifCond .eq 5, 3) := by decide +kernel
theorem dL_law_2956 : decode cL_law 2956 = .ok (.iconst 0, 1) := by decide +kernel
theorem dL_law_2957 : decode cL_law 2957 = .ok (.ireturn, 1) := by decide +kernel
theorem dL_law_2958 : decode cL_law 2958 = .ok (.goto 544, 3) := by decide +kernel
theorem dL_law_2961 : decode cL_law 2961 = .ok (.aload_n 1, 1) := by decide +kernel
theorem dL_law_2962 : decode cL_law 2962 = .ok (.invokevirtual 317, 3) := by decide +kernel
theorem dL_law_2965 : decode cL_law 2965 = .ok (.aload_n 2, 1) := by decide +kernel
theorem dL_law_2966 : decode cL_law 2966 = .ok (.invokevirtual 320, 3) := by decide +kernel
theorem dL_law_2969 : decode cL_law 2969 = .ok (.if_icmp .eq 533, 3) := by decide +kernel
theorem dL_law_2972 : decode cL_law 2972 = .ok (.iconst 0, 1) := by decide +kernel
theorem dL_law_2973 : decode cL_law 2973 = .ok (.ireturn, 1) := by decide +kernel
theorem dL_law_2974 : decode cL_law 2974 = .ok (.aload_n 1, 1) := by decide +kernel
theorem dL_law_2975 : decode cL_law 2975 = .ok (.aload_n 0, 1) := by decide +kernel
theorem dL_law_2976 : decode cL_law 2976 = .ok (.iload 5, 2) := by decide +kernel
theorem dL_law_2978 : decode cL_law 2978 = .ok (.iconst 1, 1) := by decide +kernel
theorem dL_law_2979 : decode cL_law 2979 = .ok (.iadd, 1) := by decide +kernel
theorem dL_law_2980 : decode cL_law 2980 = .ok (.iaload, 1) := by decide +kernel
theorem dL_law_2981 : decode cL_law 2981 = .ok (.aload_n 3, 1) := by decide +kernel
theorem dL_law_2982 : decode cL_law 2982 = .ok (.invokestatic 321, 3) := by decide +kernel
theorem dL_law_2985 : decode cL_law 2985 = .ok (.istore 6, 2) := by decide +kernel
theorem dL_law_2987 : decode cL_law 2987 = .ok (.aload_n 2, 1) := by decide +kernel
theorem dL_law_2988 : decode cL_law 2988 = .ok (.aload_n 0, 1) := by decide +kernel
theorem dL_law_2989 : decode cL_law 2989 = .ok (.iload 5, 2) := by decide +kernel
theorem dL_law_2991 : decode cL_law 2991 = .ok (.iconst 1, 1) := by decide +kernel
theorem dL_law_2992 : decode cL_law 2992 = .ok (.iadd, 1) := by decide +kernel
theorem dL_law_2993 : decode cL_law 2993 = .ok (.iaload, 1) := by decide +kernel
theorem dL_law_2994 : decode cL_law 2994 = .ok (.invokevirtual 323, 3) := by decide +kernel
theorem dL_law_2997 : decode cL_law 2997 = .ok (.istore 7, 2) := by decide +kernel
theorem dL_law_2999 : decode cL_law 2999 = .ok (.aload_n 2, 1) := by decide +kernel
theorem dL_law_3000 : decode cL_law 3000 = .ok (.invokevirtual 186, 3) := by decide +kernel
theorem dL_law_3003 : decode cL_law 3003 = .ok (.iload 6, 2) := by decide +kernel
theorem dL_law_3005 : decode cL_law 3005 = .ok (.if_icmp .eq 5, 3) := by decide +kernel
theorem dL_law_3008 : decode cL_law 3008 = .ok (.iconst 0, 1) := by decide +kernel
theorem dL_law_3009 : decode cL_law 3009 = .ok (.ireturn, 1) := by decide +kernel
theorem dL_law_3010 : decode cL_law 3010 = .ok (.iload 6, 2) := by decide +kernel
theorem dL_law_3012 : decode cL_law 3012 = .ok (.ifCond .ne 15, 3) := by decide +kernel
theorem dL_law_3015 : decode cL_law 3015 = .ok (.aload_n 3, 1) := by decide +kernel
theorem dL_law_3016 : decode cL_law 3016 = .ok (.iconst 0, 1) := by decide +kernel
theorem dL_law_3017 : decode cL_law 3017 = .ok (.laload, 1) := by decide +kernel
theorem dL_law_3018 : decode cL_law 3018 = .ok (.iload 7, 2) := by decide +kernel
theorem dL_law_3020 : decode cL_law 3020 = .ok (.i2l, 1) := by decide +kernel
theorem dL_law_3021 : decode cL_law 3021 = .ok (.lcmp, 1) := by decide +kernel
theorem dL_law_3022 : decode cL_law 3022 = .ok (.ifCond .eq 5, 3) := by decide +kernel
theorem dL_law_3025 : decode cL_law 3025 = .ok (.iconst 0, 1) := by decide +kernel
theorem dL_law_3026 : decode cL_law 3026 = .ok (.ireturn, 1) := by decide +kernel
theorem dL_law_3027 : decode cL_law 3027 = .ok (.goto 475, 3) := by decide +kernel
theorem dL_law_3030 : decode cL_law 3030 = .ok (.aload_n 1, 1) := by decide +kernel
theorem dL_law_3031 : decode cL_law 3031 = .ok (.aload_n 0, 1) := by decide +kernel
theorem dL_law_3032 : decode cL_law 3032 = .ok (.iload 5, 2) := by decide +kernel
theorem dL_law_3034 : decode cL_law 3034 = .ok (.iconst 1, 1) := by decide +kernel
theorem dL_law_3035 : decode cL_law 3035 = .ok (.iadd, 1) := by decide +kernel
theorem dL_law_3036 : decode cL_law 3036 = .ok (.iaload, 1) := by decide +kernel
theorem dL_law_3037 : decode cL_law 3037 = .ok (.aload_n 0, 1) := by decide +kernel
theorem dL_law_3038 : decode cL_law 3038 = .ok (.iload 5, 2) := by decide +kernel
theorem dL_law_3040 : decode cL_law 3040 = .ok (.iconst 2, 1) := by decide +kernel
theorem dL_law_3041 : decode cL_law 3041 = .ok (.iadd, 1) := by decide +kernel
theorem dL_law_3042 : decode cL_law 3042 = .ok (.iaload, 1) := by decide +kernel
theorem dL_law_3043 : decode cL_law 3043 = .ok (.aload_n 0, 1) := by decide +kernel
theorem dL_law_3044 : decode cL_law 3044 = .ok (.iload 5, 2) := by decide +kernel
theorem dL_law_3046 : decode cL_law 3046 = .ok (.iconst 3, 1) := by decide +kernel
theorem dL_law_3047 : decode cL_law 3047 = .ok (.iadd, 1) := by decide +kernel
theorem dL_law_3048 : decode cL_law 3048 = .ok (.iaload, 1) := by decide +kernel
theorem dL_law_3049 : decode cL_law 3049 = .ok (.aload_n 0, 1) := by decide +kernel
theorem dL_law_3050 : decode cL_law 3050 = .ok (.iload 5, 2) := by decide +kernel
theorem dL_law_3052 : decode cL_law 3052 = .ok (.iconst 4, 1) := by decide +kernel
theorem dL_law_3053 : decode cL_law 3053 = .ok (.iadd, 1) := by decide +kernel
theorem dL_law_3054 : decode cL_law 3054 = .ok (.iaload, 1) := by decide +kernel
theorem dL_law_3055 : decode cL_law 3055 = .ok (.aload_n 3, 1) := by decide +kernel
theorem dL_law_3056 : decode cL_law 3056 = .ok (.invokestatic 324, 3) := by decide +kernel
theorem dL_law_3059 : decode cL_law 3059 = .ok (.istore 6, 2) := by decide +kernel
theorem dL_law_3061 : decode cL_law 3061 = .ok (.aload_n 2, 1) := by decide +kernel
theorem dL_law_3062 : decode cL_law 3062 = .ok (.aload_n 0, 1) := by decide +kernel
theorem dL_law_3063 : decode cL_law 3063 = .ok (.iload 5, 2) := by decide +kernel
theorem dL_law_3065 : decode cL_law 3065 = .ok (.iconst 1, 1) := by decide +kernel
theorem dL_law_3066 : decode cL_law 3066 = .ok (.iadd, 1) := by decide +kernel
theorem dL_law_3067 : decode cL_law 3067 = .ok (.iaload, 1) := by decide +kernel
theorem dL_law_3068 : decode cL_law 3068 = .ok (.aload_n 0, 1) := by decide +kernel
theorem dL_law_3069 : decode cL_law 3069 = .ok (.iload 5, 2) := by decide +kernel
theorem dL_law_3071 : decode cL_law 3071 = .ok (.iconst 2, 1) := by decide +kernel
theorem dL_law_3072 : decode cL_law 3072 = .ok (.iadd, 1) := by decide +kernel
theorem dL_law_3073 : decode cL_law 3073 = .ok (.iaload, 1) := by decide +kernel
theorem dL_law_3074 : decode cL_law 3074 = .ok (.aload_n 0, 1) := by decide +kernel
theorem dL_law_3075 : decode cL_law 3075 = .ok (.iload 5, 2) := by decide +kernel
theorem dL_law_3077 : decode cL_law 3077 = .ok (.iconst 3, 1) := by decide +kernel
theorem dL_law_3078 : decode cL_law 3078 = .ok (.iadd, 1) := by decide +kernel
theorem dL_law_3079 : decode cL_law 3079 = .ok (.iaload, 1) := by decide +kernel
theorem dL_law_3080 : decode cL_law 3080 = .ok (.aload_n 0, 1) := by decide +kernel
theorem dL_law_3081 : decode cL_law 3081 = .ok (.iload 5, 2) := by decide +kernel
theorem dL_law_3083 : decode cL_law 3083 = .ok (.iconst 4, 1) := by decide +kernel
theorem dL_law_3084 : decode cL_law 3084 = .ok (.iadd, 1) := by decide +kernel
theorem dL_law_3085 : decode cL_law 3085 = .ok (.iaload, 1) := by decide +kernel
theorem dL_law_3086 : decode cL_law 3086 = .ok (.invokevirtual 326, 3) := by decide +kernel
theorem dL_law_3089 : decode cL_law 3089 = .ok (.istore 7, 2) := by decide +kernel
theorem dL_law_3091 : decode cL_law 3091 = .ok (.aload_n 2, 1) := by decide +kernel
theorem dL_law_3092 : decode cL_law 3092 = .ok (.invokevirtual 186, 3) := by decide +kernel
theorem dL_law_3095 : decode cL_law 3095 = .ok (.iload 6, 2) := by decide +kernel
theorem dL_law_3097 : decode cL_law 3097 = .ok (.if_icmp .eq 5, 3) := by decide +kernel
theorem dL_law_3100 : decode cL_law 3100 = .ok (.iconst 0, 1) := by decide +kernel
theorem dL_law_3101 : decode cL_law 3101 = .ok (.ireturn, 1) := by decide +kernel
theorem dL_law_3102 : decode cL_law 3102 = .ok (.iload 6, 2) := by decide +kernel
theorem dL_law_3104 : decode cL_law 3104 = .ok (.ifCond .ne 15, 3) := by decide +kernel
theorem dL_law_3107 : decode cL_law 3107 = .ok (.aload_n 3, 1) := by decide +kernel
theorem dL_law_3108 : decode cL_law 3108 = .ok (.iconst 0, 1) := by decide +kernel
theorem dL_law_3109 : decode cL_law 3109 = .ok (.laload, 1) := by decide +kernel
theorem dL_law_3110 : decode cL_law 3110 = .ok (.iload 7, 2) := by decide +kernel
theorem dL_law_3112 : decode cL_law 3112 = .ok (.i2l, 1) := by decide +kernel
theorem dL_law_3113 : decode cL_law 3113 = .ok (.lcmp, 1) := by decide +kernel
theorem dL_law_3114 : decode cL_law 3114 = .ok (.ifCond .eq 5, 3) := by decide +kernel
theorem dL_law_3117 : decode cL_law 3117 = .ok (.iconst 0, 1) := by decide +kernel
theorem dL_law_3118 : decode cL_law 3118 = .ok (.ireturn, 1) := by decide +kernel
theorem dL_law_3119 : decode cL_law 3119 = .ok (.goto 383, 3) := by decide +kernel
theorem dL_law_3122 : decode cL_law 3122 = .ok (.aload_n 1, 1) := by decide +kernel
theorem dL_law_3123 : decode cL_law 3123 = .ok (.aload_n 0, 1) := by decide +kernel
theorem dL_law_3124 : decode cL_law 3124 = .ok (.iload 5, 2) := by decide +kernel
theorem dL_law_3126 : decode cL_law 3126 = .ok (.iconst 1, 1) := by decide +kernel
theorem dL_law_3127 : decode cL_law 3127 = .ok (.iadd, 1) := by decide +kernel
theorem dL_law_3128 : decode cL_law 3128 = .ok (.iaload, 1) := by decide +kernel
theorem dL_law_3129 : decode cL_law 3129 = .ok (.aload_n 3, 1) := by decide +kernel
theorem dL_law_3130 : decode cL_law 3130 = .ok (.invokestatic 327, 3) := by decide +kernel
theorem dL_law_3133 : decode cL_law 3133 = .ok (.istore 6, 2) := by decide +kernel
theorem dL_law_3135 : decode cL_law 3135 = .ok (.aload_n 2, 1) := by decide +kernel
theorem dL_law_3136 : decode cL_law 3136 = .ok (.aload_n 0, 1) := by decide +kernel
theorem dL_law_3137 : decode cL_law 3137 = .ok (.iload 5, 2) := by decide +kernel
theorem dL_law_3139 : decode cL_law 3139 = .ok (.iconst 1, 1) := by decide +kernel
theorem dL_law_3140 : decode cL_law 3140 = .ok (.iadd, 1) := by decide +kernel
theorem dL_law_3141 : decode cL_law 3141 = .ok (.iaload, 1) := by decide +kernel
theorem dL_law_3142 : decode cL_law 3142 = .ok (.invokevirtual 329, 3) := by decide +kernel
theorem dL_law_3145 : decode cL_law 3145 = .ok (.istore 7, 2) := by decide +kernel
theorem dL_law_3147 : decode cL_law 3147 = .ok (.aload_n 2, 1) := by decide +kernel
theorem dL_law_3148 : decode cL_law 3148 = .ok (.invokevirtual 186, 3) := by decide +kernel
theorem dL_law_3151 : decode cL_law 3151 = .ok (.iload 6, 2) := by decide +kernel
theorem dL_law_3153 : decode cL_law 3153 = .ok (.if_icmp .eq 5, 3) := by decide +kernel
theorem dL_law_3156 : decode cL_law 3156 = .ok (.iconst 0, 1) := by decide +kernel
theorem dL_law_3157 : decode cL_law 3157 = .ok (.ireturn, 1) := by decide +kernel
theorem dL_law_3158 : decode cL_law 3158 = .ok (.iload 6, 2) := by decide +kernel
theorem dL_law_3160 : decode cL_law 3160 = .ok (.ifCond .ne 15, 3) := by decide +kernel
theorem dL_law_3163 : decode cL_law 3163 = .ok (.aload_n 3, 1) := by decide +kernel
theorem dL_law_3164 : decode cL_law 3164 = .ok (.iconst 0, 1) := by decide +kernel
theorem dL_law_3165 : decode cL_law 3165 = .ok (.laload, 1) := by decide +kernel
theorem dL_law_3166 : decode cL_law 3166 = .ok (.iload 7, 2) := by decide +kernel
theorem dL_law_3168 : decode cL_law 3168 = .ok (.i2l, 1) := by decide +kernel
theorem dL_law_3169 : decode cL_law 3169 = .ok (.lcmp, 1) := by decide +kernel
theorem dL_law_3170 : decode cL_law 3170 = .ok (.ifCond .eq 5, 3) := by decide +kernel
theorem dL_law_3173 : decode cL_law 3173 = .ok (.iconst 0, 1) := by decide +kernel
theorem dL_law_3174 : decode cL_law 3174 = .ok (.ireturn, 1) := by decide +kernel
theorem dL_law_3175 : decode cL_law 3175 = .ok (.goto 327, 3) := by decide +kernel
theorem dL_law_3178 : decode cL_law 3178 = .ok (.aload_n 1, 1) := by decide +kernel
theorem dL_law_3179 : decode cL_law 3179 = .ok (.invokevirtual 330, 3) := by decide +kernel
theorem dL_law_3182 : decode cL_law 3182 = .ok (.aload_n 2, 1) := by decide +kernel
theorem dL_law_3183 : decode cL_law 3183 = .ok (.invokevirtual 333, 3) := by decide +kernel
theorem dL_law_3186 : decode cL_law 3186 = .ok (.if_icmp .eq 316, 3) := by decide +kernel
theorem dL_law_3189 : decode cL_law 3189 = .ok (.iconst 0, 1) := by decide +kernel
theorem dL_law_3190 : decode cL_law 3190 = .ok (.ireturn, 1) := by decide +kernel
theorem dL_law_3191 : decode cL_law 3191 = .ok (.aload_n 1, 1) := by decide +kernel
theorem dL_law_3192 : decode cL_law 3192 = .ok (.aload_n 0, 1) := by decide +kernel
theorem dL_law_3193 : decode cL_law 3193 = .ok (.iload 5, 2) := by decide +kernel
theorem dL_law_3195 : decode cL_law 3195 = .ok (.iconst 1, 1) := by decide +kernel
theorem dL_law_3196 : decode cL_law 3196 = .ok (.iadd, 1) := by decide +kernel
theorem dL_law_3197 : decode cL_law 3197 = .ok (.iaload, 1) := by decide +kernel
theorem dL_law_3198 : decode cL_law 3198 = .ok (.aload_n 3, 1) := by decide +kernel
theorem dL_law_3199 : decode cL_law 3199 = .ok (.invokestatic 334, 3) := by decide +kernel
theorem dL_law_3202 : decode cL_law 3202 = .ok (.istore 6, 2) := by decide +kernel
theorem dL_law_3204 : decode cL_law 3204 = .ok (.aload_n 2, 1) := by decide +kernel
theorem dL_law_3205 : decode cL_law 3205 = .ok (.aload_n 0, 1) := by decide +kernel
theorem dL_law_3206 : decode cL_law 3206 = .ok (.iload 5, 2) := by decide +kernel
theorem dL_law_3208 : decode cL_law 3208 = .ok (.iconst 1, 1) := by decide +kernel
theorem dL_law_3209 : decode cL_law 3209 = .ok (.iadd, 1) := by decide +kernel
theorem dL_law_3210 : decode cL_law 3210 = .ok (.iaload, 1) := by decide +kernel
theorem dL_law_3211 : decode cL_law 3211 = .ok (.invokevirtual 336, 3) := by decide +kernel
theorem dL_law_3214 : decode cL_law 3214 = .ok (.istore 7, 2) := by decide +kernel
theorem dL_law_3216 : decode cL_law 3216 = .ok (.aload_n 2, 1) := by decide +kernel
theorem dL_law_3217 : decode cL_law 3217 = .ok (.invokevirtual 186, 3) := by decide +kernel
theorem dL_law_3220 : decode cL_law 3220 = .ok (.iload 6, 2) := by decide +kernel
theorem dL_law_3222 : decode cL_law 3222 = .ok (.if_icmp .eq 5, 3) := by decide +kernel
theorem dL_law_3225 : decode cL_law 3225 = .ok (.iconst 0, 1) := by decide +kernel
theorem dL_law_3226 : decode cL_law 3226 = .ok (.ireturn, 1) := by decide +kernel
theorem dL_law_3227 : decode cL_law 3227 = .ok (.iload 6, 2) := by decide +kernel
theorem dL_law_3229 : decode cL_law 3229 = .ok (.ifCond .ne 15, 3) := by decide +kernel
theorem dL_law_3232 : decode cL_law 3232 = .ok (.aload_n 3, 1) := by decide +kernel
theorem dL_law_3233 : decode cL_law 3233 = .ok (.iconst 0, 1) := by decide +kernel
theorem dL_law_3234 : decode cL_law 3234 = .ok (.laload, 1) := by decide +kernel
theorem dL_law_3235 : decode cL_law 3235 = .ok (.iload 7, 2) := by decide +kernel
theorem dL_law_3237 : decode cL_law 3237 = .ok (.i2l, 1) := by decide +kernel
theorem dL_law_3238 : decode cL_law 3238 = .ok (.lcmp, 1) := by decide +kernel
theorem dL_law_3239 : decode cL_law 3239 = .ok (.ifCond .eq 5, 3) := by decide +kernel
theorem dL_law_3242 : decode cL_law 3242 = .ok (.iconst 0, 1) := by decide +kernel
theorem dL_law_3243 : decode cL_law 3243 = .ok (.ireturn, 1) := by decide +kernel
theorem dL_law_3244 : decode cL_law 3244 = .ok (.goto 258, 3) := by decide +kernel
theorem dL_law_3247 : decode cL_law 3247 = .ok (.aload_n 1, 1) := by decide +kernel
theorem dL_law_3248 : decode cL_law 3248 = .ok (.aload_n 0, 1) := by decide +kernel
theorem dL_law_3249 : decode cL_law 3249 = .ok (.iload 5, 2) := by decide +kernel
theorem dL_law_3251 : decode cL_law 3251 = .ok (.iconst 1, 1) := by decide +kernel
theorem dL_law_3252 : decode cL_law 3252 = .ok (.iadd, 1) := by decide +kernel
theorem dL_law_3253 : decode cL_law 3253 = .ok (.iaload, 1) := by decide +kernel
theorem dL_law_3254 : decode cL_law 3254 = .ok (.aload 4, 2) := by decide +kernel
theorem dL_law_3256 : decode cL_law 3256 = .ok (.invokestatic 337, 3) := by decide +kernel
theorem dL_law_3259 : decode cL_law 3259 = .ok (.istore 6, 2) := by decide +kernel
theorem dL_law_3261 : decode cL_law 3261 = .ok (.aload_n 2, 1) := by decide +kernel
theorem dL_law_3262 : decode cL_law 3262 = .ok (.aload_n 0, 1) := by decide +kernel
theorem dL_law_3263 : decode cL_law 3263 = .ok (.iload 5, 2) := by decide +kernel
theorem dL_law_3265 : decode cL_law 3265 = .ok (.iconst 1, 1) := by decide +kernel
theorem dL_law_3266 : decode cL_law 3266 = .ok (.iadd, 1) := by decide +kernel
theorem dL_law_3267 : decode cL_law 3267 = .ok (.iaload, 1) := by decide +kernel
theorem dL_law_3268 : decode cL_law 3268 = .ok (.invokevirtual 340, 3) := by decide +kernel
theorem dL_law_3271 : decode cL_law 3271 = .ok (.fstore 7, 2) := by decide +kernel
theorem dL_law_3273 : decode cL_law 3273 = .ok (.aload_n 2, 1) := by decide +kernel
theorem dL_law_3274 : decode cL_law 3274 = .ok (.invokevirtual 186, 3) := by decide +kernel
theorem dL_law_3277 : decode cL_law 3277 = .ok (.iload 6, 2) := by decide +kernel
theorem dL_law_3279 : decode cL_law 3279 = .ok (.if_icmp .eq 5, 3) := by decide +kernel
theorem dL_law_3282 : decode cL_law 3282 = .ok (.iconst 0, 1) := by decide +kernel
theorem dL_law_3283 : decode cL_law 3283 = .ok (.ireturn, 1) := by decide +kernel
theorem dL_law_3284 : decode cL_law 3284 = .ok (.iload 6, 2) := by decide +kernel
theorem dL_law_3286 : decode cL_law 3286 = .ok (.ifCond .ne 36, 3) := by decide +kernel
theorem dL_law_3289 : decode cL_law 3289 = .ok (.aload 4, 2) := by decide +kernel
theorem dL_law_3291 : decode cL_law 3291 = .ok (.iconst 0, 1) := by decide +kernel
theorem dL_law_3292 : decode cL_law 3292 = .ok (.daload, 1) := by decide +kernel
theorem dL_law_3293 : decode cL_law 3293 = .ok (.fload 7, 2) := by decide +kernel
theorem dL_law_3295 : decode cL_law 3295 = .ok (.f2d, 1) := by decide +kernel
theorem dL_law_3296 : decode cL_law 3296 = .ok (.dcmp .l, 1) := by decide +kernel
theorem dL_law_3297 : decode cL_law 3297 = .ok (.ifCond .eq 25, 3) := by decide +kernel
theorem dL_law_3300 : decode cL_law 3300 = .ok (.aload 4, 2) := by decide +kernel
theorem dL_law_3302 : decode cL_law 3302 = .ok (.iconst 0, 1) := by decide +kernel
theorem dL_law_3303 : decode cL_law 3303 = .ok (.daload, 1) := by decide +kernel
theorem dL_law_3304 : decode cL_law 3304 = .ok (.aload 4, 2) := by decide +kernel
theorem dL_law_3306 : decode cL_law 3306 = .ok (.iconst 0, 1) := by decide +kernel
theorem dL_law_3307 : decode cL_law 3307 = .ok (.daload, 1) := by decide +kernel
theorem dL_law_3308 : decode cL_law 3308 = .ok (.dcmp .l, 1) := by decide +kernel
theorem dL_law_3309 : decode cL_law 3309 = .ok (.ifCond .eq 11, 3) := by decide +kernel
theorem dL_law_3312 : decode cL_law 3312 = .ok (.fload 7, 2) := by decide +kernel
theorem dL_law_3314 : decode cL_law 3314 = .ok (.fload 7, 2) := by decide +kernel
theorem dL_law_3316 : decode cL_law 3316 = .ok (.fcmp .l, 1) := by decide +kernel
theorem dL_law_3317 : decode cL_law 3317 = .ok (.ifCond .ne 5, 3) := by decide +kernel
theorem dL_law_3320 : decode cL_law 3320 = .ok (.iconst 0, 1) := by decide +kernel
theorem dL_law_3321 : decode cL_law 3321 = .ok (.ireturn, 1) := by decide +kernel
theorem dL_law_3322 : decode cL_law 3322 = .ok (.goto 180, 3) := by decide +kernel
theorem dL_law_3325 : decode cL_law 3325 = .ok (.aload_n 1, 1) := by decide +kernel
theorem dL_law_3326 : decode cL_law 3326 = .ok (.aload_n 0, 1) := by decide +kernel
theorem dL_law_3327 : decode cL_law 3327 = .ok (.iload 5, 2) := by decide +kernel
theorem dL_law_3329 : decode cL_law 3329 = .ok (.iconst 1, 1) := by decide +kernel
theorem dL_law_3330 : decode cL_law 3330 = .ok (.iadd, 1) := by decide +kernel
theorem dL_law_3331 : decode cL_law 3331 = .ok (.iaload, 1) := by decide +kernel
theorem dL_law_3332 : decode cL_law 3332 = .ok (.aload_n 3, 1) := by decide +kernel
theorem dL_law_3333 : decode cL_law 3333 = .ok (.invokestatic 341, 3) := by decide +kernel
theorem dL_law_3336 : decode cL_law 3336 = .ok (.istore 6, 2) := by decide +kernel
theorem dL_law_3338 : decode cL_law 3338 = .ok (.aload_n 2, 1) := by decide +kernel
theorem dL_law_3339 : decode cL_law 3339 = .ok (.aload_n 0, 1) := by decide +kernel
theorem dL_law_3340 : decode cL_law 3340 = .ok (.iload 5, 2) := by decide +kernel
theorem dL_law_3342 : decode cL_law 3342 = .ok (.iconst 1, 1) := by decide +kernel
theorem dL_law_3343 : decode cL_law 3343 = .ok (.iadd, 1) := by decide +kernel
theorem dL_law_3344 : decode cL_law 3344 = .ok (.iaload, 1) := by decide +kernel
theorem dL_law_3345 : decode cL_law 3345 = .ok (.invokevirtual 343, 3) := by decide +kernel
theorem dL_law_3348 : decode cL_law 3348 = .ok (.istore 7, 2) := by decide +kernel
theorem dL_law_3350 : decode cL_law 3350 = .ok (.aload_n 2, 1) := by decide +kernel
theorem dL_law_3351 : decode cL_law 3351 = .ok (.invokevirtual 186, 3) := by decide +kernel
theorem dL_law_3354 : decode cL_law 3354 = .ok (.iload 6, 2) := by decide +kernel
theorem dL_law_3356 : decode cL_law 3356 = .ok (.if_icmp .eq 5, 3) := by decide +kernel
theorem dL_law_3359 : decode cL_law 3359 = .ok (.iconst 0, 1) := by decide +kernel
theorem dL_law_3360 : decode cL_law 3360 = .ok (.ireturn, 1) := by decide +kernel
theorem dL_law_3361 : decode cL_law 3361 = .ok (.iload 6, 2) := by decide +kernel
theorem dL_law_3363 : decode cL_law 3363 = .ok (.ifCond .ne 15, 3) := by decide +kernel
theorem dL_law_3366 : decode cL_law 3366 = .ok (.aload_n 3, 1) := by decide +kernel
theorem dL_law_3367 : decode cL_law 3367 = .ok (.iconst 0, 1) := by decide +kernel
theorem dL_law_3368 : decode cL_law 3368 = .ok (.laload, 1) := by decide +kernel
theorem dL_law_3369 : decode cL_law 3369 = .ok (.iload 7, 2) := by decide +kernel
theorem dL_law_3371 : decode cL_law 3371 = .ok (.i2l, 1) := by decide +kernel
theorem dL_law_3372 : decode cL_law 3372 = .ok (.lcmp, 1) := by decide +kernel
theorem dL_law_3373 : decode cL_law 3373 = .ok (.ifCond .eq 5, 3) := by decide +kernel
theorem dL_law_3376 : decode cL_law 3376 = .ok (.iconst 0, 1) := by decide +kernel
theorem dL_law_3377 : decode cL_law 3377 = .ok (.ireturn, 1) := by decide +kernel
theorem dL_law_3378 : decode cL_law 3378 = .ok (.goto 124, 3) := by decide +kernel
theorem dL_law_3381 : decode cL_law 3381 = .ok (.aload_n 1, 1) := by decide +kernel
theorem dL_law_3382 : decode cL_law 3382 = .ok (.aload 4, 2) := by decide +kernel
theorem dL_law_3384 : decode cL_law 3384 = .ok (.invokestatic 344, 3) := by decide +kernel
theorem dL_law_3387 : decode cL_law 3387 = .ok (.istore 6, 2) := by decide +kernel
theorem dL_law_3389 : decode cL_law 3389 = .ok (.aload_n 2, 1) := by decide +kernel
theorem dL_law_3390 : decode cL_law 3390 = .ok (.invokevirtual 347, 3) := by decide +kernel
theorem dL_law_3393 : decode cL_law 3393 = .ok (.dstore 7, 2) := by decide +kernel
theorem dL_law_3395 : decode cL_law 3395 = .ok (.aload_n 2, 1) := by decide +kernel
theorem dL_law_3396 : decode cL_law 3396 = .ok (.invokevirtual 186, 3) := by decide +kernel
theorem dL_law_3399 : decode cL_law 3399 = .ok (.iload 6, 2) := by decide +kernel
theorem dL_law_3401 : decode cL_law 3401 = .ok (.if_icmp .eq 5, 3) := by decide +kernel
theorem dL_law_3404 : decode cL_law 3404 = .ok (.iconst 0, 1) := by decide +kernel
theorem dL_law_3405 : decode cL_law 3405 = .ok (.ireturn, 1) := by decide +kernel
theorem dL_law_3406 : decode cL_law 3406 = .ok (.iload 6, 2) := by decide +kernel
theorem dL_law_3408 : decode cL_law 3408 = .ok (.ifCond .ne 35, 3) := by decide +kernel
theorem dL_law_3411 : decode cL_law 3411 = .ok (.aload 4, 2) := by decide +kernel
theorem dL_law_3413 : decode cL_law 3413 = .ok (.iconst 0, 1) := by decide +kernel
theorem dL_law_3414 : decode cL_law 3414 = .ok (.daload, 1) := by decide +kernel
theorem dL_law_3415 : decode cL_law 3415 = .ok (.dload 7, 2) := by decide +kernel
theorem dL_law_3417 : decode cL_law 3417 = .ok (.dcmp .l, 1) := by decide +kernel
theorem dL_law_3418 : decode cL_law 3418 = .ok (.ifCond .eq 25, 3) := by decide +kernel
theorem dL_law_3421 : decode cL_law 3421 = .ok (.aload 4, 2) := by decide +kernel
theorem dL_law_3423 : decode cL_law 3423 = .ok (.iconst 0, 1) := by decide +kernel
theorem dL_law_3424 : decode cL_law 3424 = .ok (.daload, 1) := by decide +kernel
theorem dL_law_3425 : decode cL_law 3425 = .ok (.aload 4, 2) := by decide +kernel
theorem dL_law_3427 : decode cL_law 3427 = .ok (.iconst 0, 1) := by decide +kernel
theorem dL_law_3428 : decode cL_law 3428 = .ok (.daload, 1) := by decide +kernel
theorem dL_law_3429 : decode cL_law 3429 = .ok (.dcmp .l, 1) := by decide +kernel
theorem dL_law_3430 : decode cL_law 3430 = .ok (.ifCond .eq 11, 3) := by decide +kernel
theorem dL_law_3433 : decode cL_law 3433 = .ok (.dload 7, 2) := by decide +kernel
theorem dL_law_3435 : decode cL_law 3435 = .ok (.dload 7, 2) := by decide +kernel
theorem dL_law_3437 : decode cL_law 3437 = .ok (.dcmp .l, 1) := by decide +kernel
theorem dL_law_3438 : decode cL_law 3438 = .ok (.ifCond .ne 5, 3) := by decide +kernel
theorem dL_law_3441 : decode cL_law 3441 = .ok (.iconst 0, 1) := by decide +kernel
theorem dL_law_3442 : decode cL_law 3442 = .ok (.ireturn, 1) := by decide +kernel
theorem dL_law_3443 : decode cL_law 3443 = .ok (.goto 59, 3) := by decide +kernel
theorem dL_law_3446 : decode cL_law 3446 = .ok (.aload_n 1, 1) := by decide +kernel
theorem dL_law_3447 : decode cL_law 3447 = .ok (.aload_n 3, 1) := by decide +kernel
theorem dL_law_3448 : decode cL_law 3448 = .ok (.invokestatic 348, 3) := by decide +kernel
theorem dL_law_3451 : decode cL_law 3451 = .ok (.istore 6, 2) := by decide +kernel
theorem dL_law_3453 : decode cL_law 3453 = .ok (.aload_n 2, 1) := by decide +kernel
theorem dL_law_3454 : decode cL_law 3454 = .ok (.invokevirtual 350, 3) := by decide +kernel
theorem dL_law_3457 : decode cL_law 3457 = .ok (.lstore 7, 2) := by decide +kernel
theorem dL_law_3459 : decode cL_law 3459 = .ok (.aload_n 2, 1) := by decide +kernel
theorem dL_law_3460 : decode cL_law 3460 = .ok (.invokevirtual 186, 3) := by decide +kernel
theorem dL_law_3463 : decode cL_law 3463 = .ok (.iload 6, 2) := by decide +kernel
theorem dL_law_3465 : decode cL_law 3465 = .ok (.if_icmp .eq 5, 3) := by decide +kernel
theorem dL_law_3468 : decode cL_law 3468 = .ok (.iconst 0, 1) := by decide +kernel
theorem dL_law_3469 : decode cL_law 3469 = .ok (.ireturn, 1) := by decide +kernel
theorem dL_law_3470 : decode cL_law 3470 = .ok (.iload 6, 2) := by decide +kernel
theorem dL_law_3472 : decode cL_law 3472 = .ok (.ifCond .ne 14, 3) := by decide +kernel
theorem dL_law_3475 : decode cL_law 3475 = .ok (.aload_n 3, 1) := by decide +kernel
theorem dL_law_3476 : decode cL_law 3476 = .ok (.iconst 0, 1) := by decide +kernel
theorem dL_law_3477 : decode cL_law 3477 = .ok (.laload, 1) := by decide +kernel
theorem dL_law_3478 : decode cL_law 3478 = .ok (.lload 7, 2) := by decide +kernel
theorem dL_law_3480 : decode cL_law 3480 = .ok (.lcmp, 1) := by decide +kernel
theorem dL_law_3481 : decode cL_law 3481 = .ok (.ifCond .eq 5, 3) := by decide +kernel
theorem dL_law_3484 : decode cL_law 3484 = .ok (.iconst 0, 1) := by decide +kernel
theorem dL_law_3485 : decode cL_law 3485 = .ok (.ireturn, 1) := by decide +kernel
theorem dL_law_3486 : decode cL_law 3486 = .ok (.goto 16, 3) := by decide +kernel
theorem dL_law_3489 : decode cL_law 3489 = .ok (.aload_n 1, 1) := by decide +kernel
theorem dL_law_3490 : decode cL_law 3490 = .ok (.invokevirtual 351, 3) := by decide +kernel
theorem dL_law_3493 : decode cL_law 3493 = .ok (.aload_n 2, 1) := by decide +kernel
theorem dL_law_3494 : decode cL_law 3494 = .ok (.invokevirtual 355, 3) := by decide +kernel
theorem dL_law_3497 : decode cL_law 3497 = .ok (.if_icmp .eq 5, 3) := by decide +kernel
theorem dL_law_3500 : decode cL_law 3500 = .ok (.iconst 0, 1) := by decide +kernel
theorem dL_law_3501 : decode cL_law 3501 = .ok (.ireturn, 1) := by decide +kernel
theorem dL_law_3502 : decode cL_law 3502 = .ok (.iinc 5 5, 3) := by decide +kernel
theorem dL_law_3505 : decode cL_law 3505 = .ok (.goto (-3477), 3) := by decide +kernel
theorem dL_law_3508 : decode cL_law 3508 = .ok (.iconst 1, 1) := by decide +kernel
theorem dL_law_3509 : decode cL_law 3509 = .ok (.ireturn, 1) := by decide +kernel
