theorem dX0_init_0 : decode cX0_init 0 = .ok (.aload_n 0, 1) := by decide +kernel
theorem dX0_init_1 : decode cX0_init 1 = .ok (.invokespecial 3, 3) := by decide +kernel
theorem dX0_init_4 : decode cX0_init 4 = .ok (.aload_n 0, 1) := by decide +kernel
theorem dX0_init_5 : decode cX0_init 5 = .ok (.bipush 12, 2) := by decide +kernel
theorem dX0_init_7 : decode cX0_init 7 = .ok (.anewarray 9, 3) := by decide +kernel
theorem dX0_init_10 : decode cX0_init 10 = .ok (.putfield 11, 3) := by decide +kernel
theorem dX0_init_13 : decode cX0_init 13 = .ok (.aload_n 0, 1) := by decide +kernel
theorem dX0_init_14 : decode cX0_init 14 = .ok (.iconst 2, 1) := by decide +kernel
theorem dX0_init_15 : decode cX0_init 15 = .ok (.putfield 17, 3) := by decide +kernel
theorem dX0_init_18 : decode cX0_init 18 = .ok (.aload_n 0, 1) := by decide +kernel
theorem dX0_init_19 : decode cX0_init 19 = .ok (.iconst 2, 1) := by decide +kernel
theorem dX0_init_20 : decode cX0_init 20 = .ok (.putfield 21, 3) := by decide +kernel
theorem dX0_init_23 : decode cX0_init 23 = .ok (.aload_n 0, 1) := by decide +kernel
theorem dX0_init_24 : decode cX0_init 24 = .ok (.new 24, 3) := by decide +kernel
theorem dX0_init_27 : decode cX0_init 27 = .ok (.dup, 1) := by decide +kernel
theorem dX0_init_28 : decode cX0_init 28 = .ok (.invokespecial 26, 3) := by decide +kernel
theorem dX0_init_31 : decode cX0_init 31 = .ok (.putfield 27, 3) := by decide +kernel
theorem dX0_init_34 : decode cX0_init 34 = .ok (.aload_n 0, 1) := by decide +kernel
theorem dX0_init_35 : decode cX0_init 35 = .ok (.iload_n 1, 1) := by decide +kernel
theorem dX0_init_36 : decode cX0_init 36 = .ok (.putfield 31, 3) := by decide +kernel
theorem dX0_init_39 : decode cX0_init 39 = .ok (.aload_n 0, 1) := by decide +kernel
theorem dX0_init_40 : decode cX0_init 40 = .ok (.iload_n 2, 1) := by decide +kernel
theorem dX0_init_41 : decode cX0_init 41 = .ok (.putfield 35, 3) := by decide +kernel
theorem dX0_init_44 : decode cX0_init 44 = .ok (.aload_n 0, 1) := by decide +kernel
theorem dX0_init_45 : decode cX0_init 45 = .ok (.iload_n 3, 1) := by decide +kernel
theorem dX0_init_46 : decode cX0_init 46 = .ok (.putfield 38, 3) := by decide +kernel
theorem dX0_init_49 : decode cX0_init 49 = .ok (.aload_n 0, 1) := by decide +kernel
theorem dX0_init_50 : decode cX0_init 50 = .ok (.getfield 27, 3) := by decide +kernel
theorem dX0_init_53 : decode cX0_init 53 = .ok (.iload_n 1, 1) := by decide +kernel
theorem dX0_init_54 : decode cX0_init 54 = .ok (.ifCond .eq 7, 3) := by decide +kernel
theorem dX0_init_57 : decode cX0_init 57 = .ok (.iconst 3, 1) := by decide +kernel
theorem dX0_init_58 : decode cX0_init 58 = .ok (.goto 4, 3) := by decide +kernel
theorem dX0_init_61 : decode cX0_init 61 = .ok (.iconst 5, 1) := by decide +kernel
theorem dX0_init_62 : decode cX0_init 62 = .ok (.invokevirtual 41, 3) := by decide +kernel
theorem dX0_init_65 : decode cX0_init 65 = .ok (.return_, 1) := by decide +kernel
theorem dX0_fencerAt_0 : decode cX0_fencerAt 0 = .ok (.iload_n 1, 1) := by decide +kernel
theorem dX0_fencerAt_1 : decode cX0_fencerAt 1 = .ok (.ifCond .ne 10, 3) := by decide +kernel
theorem dX0_fencerAt_4 : decode cX0_fencerAt 4 = .ok (.aload_n 0, 1) := by decide +kernel
theorem dX0_fencerAt_5 : decode cX0_fencerAt 5 = .ok (.getfield 35, 3) := by decide +kernel
theorem dX0_fencerAt_8 : decode cX0_fencerAt 8 = .ok (.goto 7, 3) := by decide +kernel
theorem dX0_fencerAt_11 : decode cX0_fencerAt 11 = .ok (.aload_n 0, 1) := by decide +kernel
theorem dX0_fencerAt_12 : decode cX0_fencerAt 12 = .ok (.getfield 38, 3) := by decide +kernel
theorem dX0_fencerAt_15 : decode cX0_fencerAt 15 = .ok (.ireturn, 1) := by decide +kernel
theorem dX0_phraseAt_0 : decode cX0_phraseAt 0 = .ok (.iload_n 1, 1) := by decide +kernel
theorem dX0_phraseAt_1 : decode cX0_phraseAt 1 = .ok (.ifCond .lt 26, 3) := by decide +kernel
theorem dX0_phraseAt_4 : decode cX0_phraseAt 4 = .ok (.iload_n 1, 1) := by decide +kernel
theorem dX0_phraseAt_5 : decode cX0_phraseAt 5 = .ok (.aload_n 0, 1) := by decide +kernel
theorem dX0_phraseAt_6 : decode cX0_phraseAt 6 = .ok (.getfield 45, 3) := by decide +kernel
theorem dX0_phraseAt_9 : decode cX0_phraseAt 9 = .ok (.if_icmp .ge 18, 3) := by decide +kernel
theorem dX0_phraseAt_12 : decode cX0_phraseAt 12 = .ok (.iload_n 1, 1) := by decide +kernel
theorem dX0_phraseAt_13 : decode cX0_phraseAt 13 = .ok (.bipush 12, 2) := by decide +kernel
theorem dX0_phraseAt_15 : decode cX0_phraseAt 15 = .ok (.if_icmp .ge 12, 3) := by decide +kernel
theorem dX0_phraseAt_18 : decode cX0_phraseAt 18 = .ok (.aload_n 0, 1) := by decide +kernel
theorem dX0_phraseAt_19 : decode cX0_phraseAt 19 = .ok (.getfield 11, 3) := by decide +kernel
theorem dX0_phraseAt_22 : decode cX0_phraseAt 22 = .ok (.iload_n 1, 1) := by decide +kernel
theorem dX0_phraseAt_23 : decode cX0_phraseAt 23 = .ok (.aaload, 1) := by decide +kernel
theorem dX0_phraseAt_24 : decode cX0_phraseAt 24 = .ok (.goto 4, 3) := by decide +kernel
theorem dX0_phraseAt_27 : decode cX0_phraseAt 27 = .ok (.aconst_null, 1) := by decide +kernel
theorem dX0_phraseAt_28 : decode cX0_phraseAt 28 = .ok (.areturn, 1) := by decide +kernel
theorem dX0_keep_0 : decode cX0_keep 0 = .ok (.aload_n 0, 1) := by decide +kernel
theorem dX0_keep_1 : decode cX0_keep 1 = .ok (.getfield 45, 3) := by decide +kernel
theorem dX0_keep_4 : decode cX0_keep 4 = .ok (.ifCond .lt 12, 3) := by decide +kernel
theorem dX0_keep_7 : decode cX0_keep 7 = .ok (.aload_n 0, 1) := by decide +kernel
theorem dX0_keep_8 : decode cX0_keep 8 = .ok (.getfield 45, 3) := by decide +kernel
theorem dX0_keep_11 : decode cX0_keep 11 = .ok (.bipush 12, 2) := by decide +kernel
theorem dX0_keep_13 : decode cX0_keep 13 = .ok (.if_icmp .lt 4, 3) := by decide +kernel
theorem dX0_keep_16 : decode cX0_keep 16 = .ok (.return_, 1) := by decide +kernel
theorem dX0_keep_17 : decode cX0_keep 17 = .ok (.aload_n 0, 1) := by decide +kernel
theorem dX0_keep_18 : decode cX0_keep 18 = .ok (.getfield 11, 3) := by decide +kernel
theorem dX0_keep_21 : decode cX0_keep 21 = .ok (.aload_n 0, 1) := by decide +kernel
theorem dX0_keep_22 : decode cX0_keep 22 = .ok (.getfield 45, 3) := by decide +kernel
theorem dX0_keep_25 : decode cX0_keep 25 = .ok (.aload_n 1, 1) := by decide +kernel
theorem dX0_keep_26 : decode cX0_keep 26 = .ok (.aastore, 1) := by decide +kernel
theorem dX0_keep_27 : decode cX0_keep 27 = .ok (.aload_n 0, 1) := by decide +kernel
theorem dX0_keep_28 : decode cX0_keep 28 = .ok (.dup, 1) := by decide +kernel
theorem dX0_keep_29 : decode cX0_keep 29 = .ok (.getfield 45, 3) := by decide +kernel
theorem dX0_keep_32 : decode cX0_keep 32 = .ok (.iconst 1, 1) := by decide +kernel
theorem dX0_keep_33 : decode cX0_keep 33 = .ok (.iadd, 1) := by decide +kernel
theorem dX0_keep_34 : decode cX0_keep 34 = .ok (.putfield 45, 3) := by decide +kernel
theorem dX0_keep_37 : decode cX0_keep 37 = .ok (.aload_n 0, 1) := by decide +kernel
theorem dX0_keep_38 : decode cX0_keep 38 = .ok (.invokevirtual 48, 3) := by decide +kernel
theorem dX0_keep_41 : decode cX0_keep 41 = .ok (.return_, 1) := by decide +kernel
theorem dX0_forget_0 : decode cX0_forget 0 = .ok (.iconst 0, 1) := by decide +kernel
theorem dX0_forget_1 : decode cX0_forget 1 = .ok (.istore_n 1, 1) := by decide +kernel
theorem dX0_forget_2 : decode cX0_forget 2 = .ok (.iload_n 1, 1) := by decide +kernel
theorem dX0_forget_3 : decode cX0_forget 3 = .ok (.bipush 12, 2) := by decide +kernel
theorem dX0_forget_5 : decode cX0_forget 5 = .ok (.if_icmp .ge 16, 3) := by decide +kernel
theorem dX0_forget_8 : decode cX0_forget 8 = .ok (.aload_n 0, 1) := by decide +kernel
theorem dX0_forget_9 : decode cX0_forget 9 = .ok (.getfield 11, 3) := by decide +kernel
theorem dX0_forget_12 : decode cX0_forget 12 = .ok (.iload_n 1, 1) := by decide +kernel
theorem dX0_forget_13 : decode cX0_forget 13 = .ok (.aconst_null, 1) := by decide +kernel
theorem dX0_forget_14 : decode cX0_forget 14 = .ok (.aastore, 1) := by decide +kernel
theorem dX0_forget_15 : decode cX0_forget 15 = .ok (.iinc 1 1, 3) := by decide +kernel
theorem dX0_forget_18 : decode cX0_forget 18 = .ok (.goto (-16), 3) := by decide +kernel
theorem dX0_forget_21 : decode cX0_forget 21 = .ok (.aload_n 0, 1) := by decide +kernel
theorem dX0_forget_22 : decode cX0_forget 22 = .ok (.iconst 0, 1) := by decide +kernel
theorem dX0_forget_23 : decode cX0_forget 23 = .ok (.putfield 45, 3) := by decide +kernel
theorem dX0_forget_26 : decode cX0_forget 26 = .ok (.aload_n 0, 1) := by decide +kernel
theorem dX0_forget_27 : decode cX0_forget 27 = .ok (.iconst 2, 1) := by decide +kernel
theorem dX0_forget_28 : decode cX0_forget 28 = .ok (.putfield 17, 3) := by decide +kernel
theorem dX0_forget_31 : decode cX0_forget 31 = .ok (.aload_n 0, 1) := by decide +kernel
theorem dX0_forget_32 : decode cX0_forget 32 = .ok (.iconst 2, 1) := by decide +kernel
theorem dX0_forget_33 : decode cX0_forget 33 = .ok (.putfield 21, 3) := by decide +kernel
theorem dX0_forget_36 : decode cX0_forget 36 = .ok (.aload_n 0, 1) := by decide +kernel
theorem dX0_forget_37 : decode cX0_forget 37 = .ok (.getfield 27, 3) := by decide +kernel
theorem dX0_forget_40 : decode cX0_forget 40 = .ok (.aload_n 0, 1) := by decide +kernel
theorem dX0_forget_41 : decode cX0_forget 41 = .ok (.getfield 27, 3) := by decide +kernel
theorem dX0_forget_44 : decode cX0_forget 44 = .ok (.getfield 51, 3) := by decide +kernel
theorem dX0_forget_47 : decode cX0_forget 47 = .ok (.invokevirtual 41, 3) := by decide +kernel
theorem dX0_forget_50 : decode cX0_forget 50 = .ok (.return_, 1) := by decide +kernel
theorem dX0_touchesLeft_0 : decode cX0_touchesLeft 0 = .ok (.aload_n 1, 1) := by decide +kernel
theorem dX0_touchesLeft_1 : decode cX0_touchesLeft 1 = .ok (.aload_n 1, 1) := by decide +kernel
theorem dX0_touchesLeft_2 : decode cX0_touchesLeft 2 = .ok (.getfield 54, 3) := by decide +kernel
theorem dX0_touchesLeft_5 : decode cX0_touchesLeft 5 = .ok (.aload_n 0, 1) := by decide +kernel
theorem dX0_touchesLeft_6 : decode cX0_touchesLeft 6 = .ok (.getfield 31, 3) := by decide +kernel
theorem dX0_touchesLeft_9 : decode cX0_touchesLeft 9 = .ok (.invokevirtual 57, 3) := by decide +kernel
theorem dX0_touchesLeft_12 : decode cX0_touchesLeft 12 = .ok (.ireturn, 1) := by decide +kernel
theorem dX0_recount_0 : decode cX0_recount 0 = .ok (.aload_n 0, 1) := by decide +kernel
theorem dX0_recount_1 : decode cX0_recount 1 = .ok (.getfield 27, 3) := by decide +kernel
theorem dX0_recount_4 : decode cX0_recount 4 = .ok (.aload_n 0, 1) := by decide +kernel
theorem dX0_recount_5 : decode cX0_recount 5 = .ok (.getfield 27, 3) := by decide +kernel
theorem dX0_recount_8 : decode cX0_recount 8 = .ok (.getfield 51, 3) := by decide +kernel
theorem dX0_recount_11 : decode cX0_recount 11 = .ok (.invokevirtual 41, 3) := by decide +kernel
theorem dX0_recount_14 : decode cX0_recount 14 = .ok (.iconst 0, 1) := by decide +kernel
theorem dX0_recount_15 : decode cX0_recount 15 = .ok (.istore_n 1, 1) := by decide +kernel
theorem dX0_recount_16 : decode cX0_recount 16 = .ok (.iload_n 1, 1) := by decide +kernel
theorem dX0_recount_17 : decode cX0_recount 17 = .ok (.aload_n 0, 1) := by decide +kernel
theorem dX0_recount_18 : decode cX0_recount 18 = .ok (.getfield 45, 3) := by decide +kernel
theorem dX0_recount_21 : decode cX0_recount 21 = .ok (.if_icmp .ge 31, 3) := by decide +kernel
theorem dX0_recount_24 : decode cX0_recount 24 = .ok (.aload_n 0, 1) := by decide +kernel
theorem dX0_recount_25 : decode cX0_recount 25 = .ok (.iload_n 1, 1) := by decide +kernel
theorem dX0_recount_26 : decode cX0_recount 26 = .ok (.invokevirtual 61, 3) := by decide +kernel
theorem dX0_recount_29 : decode cX0_recount 29 = .ok (.astore_n 2, 1) := by decide +kernel
theorem dX0_recount_30 : decode cX0_recount 30 = .ok (.aload_n 2, 1) := by decide +kernel
theorem dX0_recount_31 : decode cX0_recount 31 = .ok (.ifnull 15, 3) := by decide +kernel
theorem dX0_recount_34 : decode cX0_recount 34 = .ok (.aload_n 0, 1) := by decide +kernel
theorem dX0_recount_35 : decode cX0_recount 35 = .ok (.getfield 27, 3) := by decide +kernel
theorem dX0_recount_38 : decode cX0_recount 38 = .ok (.aload_n 0, 1) := by decide +kernel
theorem dX0_recount_39 : decode cX0_recount 39 = .ok (.aload_n 2, 1) := by decide +kernel
theorem dX0_recount_40 : decode cX0_recount 40 = .ok (.invokevirtual 65, 3) := by decide +kernel
theorem dX0_recount_43 : decode cX0_recount 43 = .ok (.invokevirtual 69, 3) := by decide +kernel
theorem dX0_recount_46 : decode cX0_recount 46 = .ok (.iinc 1 1, 3) := by decide +kernel
theorem dX0_recount_49 : decode cX0_recount 49 = .ok (.goto (-33), 3) := by decide +kernel
theorem dX0_recount_52 : decode cX0_recount 52 = .ok (.return_, 1) := by decide +kernel
theorem dX0_countAnew_0 : decode cX0_countAnew 0 = .ok (.aload_n 1, 1) := by decide +kernel
theorem dX0_countAnew_1 : decode cX0_countAnew 1 = .ok (.aload_n 0, 1) := by decide +kernel
theorem dX0_countAnew_2 : decode cX0_countAnew 2 = .ok (.getfield 27, 3) := by decide +kernel
theorem dX0_countAnew_5 : decode cX0_countAnew 5 = .ok (.getfield 51, 3) := by decide +kernel
theorem dX0_countAnew_8 : decode cX0_countAnew 8 = .ok (.invokevirtual 41, 3) := by decide +kernel
theorem dX0_countAnew_11 : decode cX0_countAnew 11 = .ok (.iconst 0, 1) := by decide +kernel
theorem dX0_countAnew_12 : decode cX0_countAnew 12 = .ok (.istore_n 2, 1) := by decide +kernel
theorem dX0_countAnew_13 : decode cX0_countAnew 13 = .ok (.iload_n 2, 1) := by decide +kernel
theorem dX0_countAnew_14 : decode cX0_countAnew 14 = .ok (.aload_n 0, 1) := by decide +kernel
theorem dX0_countAnew_15 : decode cX0_countAnew 15 = .ok (.getfield 45, 3) := by decide +kernel
theorem dX0_countAnew_18 : decode cX0_countAnew 18 = .ok (.if_icmp .ge 35, 3) := by decide +kernel
theorem dX0_countAnew_21 : decode cX0_countAnew 21 = .ok (.aload_n 0, 1) := by decide +kernel
theorem dX0_countAnew_22 : decode cX0_countAnew 22 = .ok (.iload_n 2, 1) := by decide +kernel
theorem dX0_countAnew_23 : decode cX0_countAnew 23 = .ok (.invokevirtual 61, 3) := by decide +kernel
theorem dX0_countAnew_26 : decode cX0_countAnew 26 = .ok (.astore_n 3, 1) := by decide +kernel
theorem dX0_countAnew_27 : decode cX0_countAnew 27 = .ok (.aload_n 3, 1) := by decide +kernel
theorem dX0_countAnew_28 : decode cX0_countAnew 28 = .ok (.ifnull 19, 3) := by decide +kernel
theorem dX0_countAnew_31 : decode cX0_countAnew 31 = .ok (.aload_n 1, 1) := by decide +kernel
theorem dX0_countAnew_32 : decode cX0_countAnew 32 = .ok (.aload_n 3, 1) := by decide +kernel
theorem dX0_countAnew_33 : decode cX0_countAnew 33 = .ok (.aload_n 3, 1) := by decide +kernel
theorem dX0_countAnew_34 : decode cX0_countAnew 34 = .ok (.invokevirtual 72, 3) := by decide +kernel
theorem dX0_countAnew_37 : decode cX0_countAnew 37 = .ok (.aload_n 0, 1) := by decide +kernel
theorem dX0_countAnew_38 : decode cX0_countAnew 38 = .ok (.getfield 31, 3) := by decide +kernel
theorem dX0_countAnew_41 : decode cX0_countAnew 41 = .ok (.invokevirtual 57, 3) := by decide +kernel
theorem dX0_countAnew_44 : decode cX0_countAnew 44 = .ok (.invokevirtual 69, 3) := by decide +kernel
theorem dX0_countAnew_47 : decode cX0_countAnew 47 = .ok (.iinc 2 1, 3) := by decide +kernel
theorem dX0_countAnew_50 : decode cX0_countAnew 50 = .ok (.goto (-37), 3) := by decide +kernel
theorem dX0_countAnew_53 : decode cX0_countAnew 53 = .ok (.return_, 1) := by decide +kernel
theorem dX0_appealsLeft_0 : decode cX0_appealsLeft 0 = .ok (.iload_n 1, 1) := by decide +kernel
theorem dX0_appealsLeft_1 : decode cX0_appealsLeft 1 = .ok (.ifCond .ne 10, 3) := by decide +kernel
theorem dX0_appealsLeft_4 : decode cX0_appealsLeft 4 = .ok (.aload_n 0, 1) := by decide +kernel
theorem dX0_appealsLeft_5 : decode cX0_appealsLeft 5 = .ok (.getfield 17, 3) := by decide +kernel
theorem dX0_appealsLeft_8 : decode cX0_appealsLeft 8 = .ok (.goto 7, 3) := by decide +kernel
theorem dX0_appealsLeft_11 : decode cX0_appealsLeft 11 = .ok (.aload_n 0, 1) := by decide +kernel
theorem dX0_appealsLeft_12 : decode cX0_appealsLeft 12 = .ok (.getfield 21, 3) := by decide +kernel
theorem dX0_appealsLeft_15 : decode cX0_appealsLeft 15 = .ok (.ireturn, 1) := by decide +kernel
theorem dX0_useAppeal_0 : decode cX0_useAppeal 0 = .ok (.iload_n 1, 1) := by decide +kernel
theorem dX0_useAppeal_1 : decode cX0_useAppeal 1 = .ok (.ifCond .ne 16, 3) := by decide +kernel
theorem dX0_useAppeal_4 : decode cX0_useAppeal 4 = .ok (.aload_n 0, 1) := by decide +kernel
theorem dX0_useAppeal_5 : decode cX0_useAppeal 5 = .ok (.dup, 1) := by decide +kernel
theorem dX0_useAppeal_6 : decode cX0_useAppeal 6 = .ok (.getfield 17, 3) := by decide +kernel
theorem dX0_useAppeal_9 : decode cX0_useAppeal 9 = .ok (.iconst 1, 1) := by decide +kernel
theorem dX0_useAppeal_10 : decode cX0_useAppeal 10 = .ok (.isub, 1) := by decide +kernel
theorem dX0_useAppeal_11 : decode cX0_useAppeal 11 = .ok (.putfield 17, 3) := by decide +kernel
theorem dX0_useAppeal_14 : decode cX0_useAppeal 14 = .ok (.goto 13, 3) := by decide +kernel
theorem dX0_useAppeal_17 : decode cX0_useAppeal 17 = .ok (.aload_n 0, 1) := by decide +kernel
theorem dX0_useAppeal_18 : decode cX0_useAppeal 18 = .ok (.dup, 1) := by decide +kernel
theorem dX0_useAppeal_19 : decode cX0_useAppeal 19 = .ok (.getfield 21, 3) := by decide +kernel
theorem dX0_useAppeal_22 : decode cX0_useAppeal 22 = .ok (.iconst 1, 1) := by decide +kernel
theorem dX0_useAppeal_23 : decode cX0_useAppeal 23 = .ok (.isub, 1) := by decide +kernel
theorem dX0_useAppeal_24 : decode cX0_useAppeal 24 = .ok (.putfield 21, 3) := by decide +kernel
theorem dX0_useAppeal_27 : decode cX0_useAppeal 27 = .ok (.return_, 1) := by decide +kernel
theorem dX0_winningSide_0 : decode cX0_winningSide 0 = .ok (.aload_n 0, 1) := by decide +kernel
theorem dX0_winningSide_1 : decode cX0_winningSide 1 = .ok (.getfield 27, 3) := by decide +kernel
theorem dX0_winningSide_4 : decode cX0_winningSide 4 = .ok (.invokevirtual 76, 3) := by decide +kernel
theorem dX0_winningSide_7 : decode cX0_winningSide 7 = .ok (.ifCond .ne 12, 3) := by decide +kernel
theorem dX0_winningSide_10 : decode cX0_winningSide 10 = .ok (.aload_n 0, 1) := by decide +kernel
theorem dX0_winningSide_11 : decode cX0_winningSide 11 = .ok (.getfield 45, 3) := by decide +kernel
theorem dX0_winningSide_14 : decode cX0_winningSide 14 = .ok (.bipush 12, 2) := by decide +kernel
theorem dX0_winningSide_16 : decode cX0_winningSide 16 = .ok (.if_icmp .lt 26, 3) := by decide +kernel
theorem dX0_winningSide_19 : decode cX0_winningSide 19 = .ok (.aload_n 0, 1) := by decide +kernel
theorem dX0_winningSide_20 : decode cX0_winningSide 20 = .ok (.getfield 27, 3) := by decide +kernel
theorem dX0_winningSide_23 : decode cX0_winningSide 23 = .ok (.getfield 80, 3) := by decide +kernel
theorem dX0_winningSide_26 : decode cX0_winningSide 26 = .ok (.aload_n 0, 1) := by decide +kernel
theorem dX0_winningSide_27 : decode cX0_winningSide 27 = .ok (.getfield 27, 3) := by decide +kernel
theorem dX0_winningSide_30 : decode cX0_winningSide 30 = .ok (.getfield 81, 3) := by decide +kernel
theorem dX0_winningSide_33 : decode cX0_winningSide 33 = .ok (.if_icmp .le 7, 3) := by decide +kernel
theorem dX0_winningSide_36 : decode cX0_winningSide 36 = .ok (.iconst 1, 1) := by decide +kernel
theorem dX0_winningSide_37 : decode cX0_winningSide 37 = .ok (.goto 4, 3) := by decide +kernel
theorem dX0_winningSide_40 : decode cX0_winningSide 40 = .ok (.iconst 0, 1) := by decide +kernel
theorem dX0_winningSide_41 : decode cX0_winningSide 41 = .ok (.ireturn, 1) := by decide +kernel
theorem dX0_winningSide_42 : decode cX0_winningSide 42 = .ok (.iconst (-1), 1) := by decide +kernel
theorem dX0_winningSide_43 : decode cX0_winningSide 43 = .ok (.ireturn, 1) := by decide +kernel
theorem dX0_winningFencer_0 : decode cX0_winningFencer 0 = .ok (.aload_n 0, 1) := by decide +kernel
theorem dX0_winningFencer_1 : decode cX0_winningFencer 1 = .ok (.invokevirtual 82, 3) := by decide +kernel
theorem dX0_winningFencer_4 : decode cX0_winningFencer 4 = .ok (.istore_n 1, 1) := by decide +kernel
theorem dX0_winningFencer_5 : decode cX0_winningFencer 5 = .ok (.iload_n 1, 1) := by decide +kernel
theorem dX0_winningFencer_6 : decode cX0_winningFencer 6 = .ok (.iconst (-1), 1) := by decide +kernel
theorem dX0_winningFencer_7 : decode cX0_winningFencer 7 = .ok (.if_icmp .ne 7, 3) := by decide +kernel
theorem dX0_winningFencer_10 : decode cX0_winningFencer 10 = .ok (.iconst (-1), 1) := by decide +kernel
theorem dX0_winningFencer_11 : decode cX0_winningFencer 11 = .ok (.goto 8, 3) := by decide +kernel
theorem dX0_winningFencer_14 : decode cX0_winningFencer 14 = .ok (.aload_n 0, 1) := by decide +kernel
theorem dX0_winningFencer_15 : decode cX0_winningFencer 15 = .ok (.iload_n 1, 1) := by decide +kernel
theorem dX0_winningFencer_16 : decode cX0_winningFencer 16 = .ok (.invokevirtual 85, 3) := by decide +kernel
theorem dX0_winningFencer_19 : decode cX0_winningFencer 19 = .ok (.ireturn, 1) := by decide +kernel
theorem dX0_canBeFenced_0 : decode cX0_canBeFenced 0 = .ok (.aload_n 0, 1) := by decide +kernel
theorem dX0_canBeFenced_1 : decode cX0_canBeFenced 1 = .ok (.getfield 35, 3) := by decide +kernel
theorem dX0_canBeFenced_4 : decode cX0_canBeFenced 4 = .ok (.iconst (-1), 1) := by decide +kernel
theorem dX0_canBeFenced_5 : decode cX0_canBeFenced 5 = .ok (.if_icmp .eq 23, 3) := by decide +kernel
theorem dX0_canBeFenced_8 : decode cX0_canBeFenced 8 = .ok (.aload_n 0, 1) := by decide +kernel
theorem dX0_canBeFenced_9 : decode cX0_canBeFenced 9 = .ok (.getfield 38, 3) := by decide +kernel
theorem dX0_canBeFenced_12 : decode cX0_canBeFenced 12 = .ok (.iconst (-1), 1) := by decide +kernel
theorem dX0_canBeFenced_13 : decode cX0_canBeFenced 13 = .ok (.if_icmp .eq 15, 3) := by decide +kernel
theorem dX0_canBeFenced_16 : decode cX0_canBeFenced 16 = .ok (.aload_n 0, 1) := by decide +kernel
theorem dX0_canBeFenced_17 : decode cX0_canBeFenced 17 = .ok (.invokevirtual 82, 3) := by decide +kernel
theorem dX0_canBeFenced_20 : decode cX0_canBeFenced 20 = .ok (.iconst (-1), 1) := by decide +kernel
theorem dX0_canBeFenced_21 : decode cX0_canBeFenced 21 = .ok (.if_icmp .ne 7, 3) := by decide +kernel
theorem dX0_canBeFenced_24 : decode cX0_canBeFenced 24 = .ok (.iconst 1, 1) := by decide +kernel
theorem dX0_canBeFenced_25 : decode cX0_canBeFenced 25 = .ok (.goto 4, 3) := by decide +kernel
theorem dX0_canBeFenced_28 : decode cX0_canBeFenced 28 = .ok (.iconst 0, 1) := by decide +kernel
theorem dX0_canBeFenced_29 : decode cX0_canBeFenced 29 = .ok (.ireturn, 1) := by decide +kernel
theorem dX1_init_0 : decode cX1_init 0 = .ok (.aload_n 0, 1) := by decide +kernel
theorem dX1_init_1 : decode cX1_init 1 = .ok (.invokespecial 1, 3) := by decide +kernel
theorem dX1_init_4 : decode cX1_init 4 = .ok (.aload_n 0, 1) := by decide +kernel
theorem dX1_init_5 : decode cX1_init 5 = .ok (.iload_n 1, 1) := by decide +kernel
theorem dX1_init_6 : decode cX1_init 6 = .ok (.putfield 7, 3) := by decide +kernel
theorem dX1_init_9 : decode cX1_init 9 = .ok (.return_, 1) := by decide +kernel
theorem dX1_clear_0 : decode cX1_clear 0 = .ok (.aload_n 0, 1) := by decide +kernel
theorem dX1_clear_1 : decode cX1_clear 1 = .ok (.iconst 0, 1) := by decide +kernel
theorem dX1_clear_2 : decode cX1_clear 2 = .ok (.putfield 13, 3) := by decide +kernel
theorem dX1_clear_5 : decode cX1_clear 5 = .ok (.aload_n 0, 1) := by decide +kernel
theorem dX1_clear_6 : decode cX1_clear 6 = .ok (.iconst 0, 1) := by decide +kernel
theorem dX1_clear_7 : decode cX1_clear 7 = .ok (.putfield 16, 3) := by decide +kernel
theorem dX1_clear_10 : decode cX1_clear 10 = .ok (.aload_n 0, 1) := by decide +kernel
theorem dX1_clear_11 : decode cX1_clear 11 = .ok (.iconst 0, 1) := by decide +kernel
theorem dX1_clear_12 : decode cX1_clear 12 = .ok (.putfield 19, 3) := by decide +kernel
theorem dX1_clear_15 : decode cX1_clear 15 = .ok (.aload_n 0, 1) := by decide +kernel
theorem dX1_clear_16 : decode cX1_clear 16 = .ok (.iconst 0, 1) := by decide +kernel
theorem dX1_clear_17 : decode cX1_clear 17 = .ok (.putfield 22, 3) := by decide +kernel
theorem dX1_clear_20 : decode cX1_clear 20 = .ok (.return_, 1) := by decide +kernel
theorem dX1_add_0 : decode cX1_add 0 = .ok (.aload_n 0, 1) := by decide +kernel
theorem dX1_add_1 : decode cX1_add 1 = .ok (.dup, 1) := by decide +kernel
theorem dX1_add_2 : decode cX1_add 2 = .ok (.getfield 13, 3) := by decide +kernel
theorem dX1_add_5 : decode cX1_add 5 = .ok (.iconst 1, 1) := by decide +kernel
theorem dX1_add_6 : decode cX1_add 6 = .ok (.iadd, 1) := by decide +kernel
theorem dX1_add_7 : decode cX1_add 7 = .ok (.putfield 13, 3) := by decide +kernel
theorem dX1_add_10 : decode cX1_add 10 = .ok (.aload_n 0, 1) := by decide +kernel
theorem dX1_add_11 : decode cX1_add 11 = .ok (.dup, 1) := by decide +kernel
theorem dX1_add_12 : decode cX1_add 12 = .ok (.getfield 16, 3) := by decide +kernel
theorem dX1_add_15 : decode cX1_add 15 = .ok (.iload_n 3, 1) := by decide +kernel
theorem dX1_add_16 : decode cX1_add 16 = .ok (.ifCond .eq 7, 3) := by decide +kernel
theorem dX1_add_19 : decode cX1_add 19 = .ok (.iconst 1, 1) := by decide +kernel
theorem dX1_add_20 : decode cX1_add 20 = .ok (.goto 4, 3) := by decide +kernel
theorem dX1_add_23 : decode cX1_add 23 = .ok (.iconst 0, 1) := by decide +kernel
theorem dX1_add_24 : decode cX1_add 24 = .ok (.iadd, 1) := by decide +kernel
theorem dX1_add_25 : decode cX1_add 25 = .ok (.putfield 16, 3) := by decide +kernel
theorem dX1_add_28 : decode cX1_add 28 = .ok (.aload_n 0, 1) := by decide +kernel
theorem dX1_add_29 : decode cX1_add 29 = .ok (.dup, 1) := by decide +kernel
theorem dX1_add_30 : decode cX1_add 30 = .ok (.getfield 19, 3) := by decide +kernel
theorem dX1_add_33 : decode cX1_add 33 = .ok (.iload_n 1, 1) := by decide +kernel
theorem dX1_add_34 : decode cX1_add 34 = .ok (.iadd, 1) := by decide +kernel
theorem dX1_add_35 : decode cX1_add 35 = .ok (.putfield 19, 3) := by decide +kernel
theorem dX1_add_38 : decode cX1_add 38 = .ok (.aload_n 0, 1) := by decide +kernel
theorem dX1_add_39 : decode cX1_add 39 = .ok (.dup, 1) := by decide +kernel
theorem dX1_add_40 : decode cX1_add 40 = .ok (.getfield 22, 3) := by decide +kernel
theorem dX1_add_43 : decode cX1_add 43 = .ok (.iload_n 2, 1) := by decide +kernel
theorem dX1_add_44 : decode cX1_add 44 = .ok (.iadd, 1) := by decide +kernel
theorem dX1_add_45 : decode cX1_add 45 = .ok (.putfield 22, 3) := by decide +kernel
theorem dX1_add_48 : decode cX1_add 48 = .ok (.return_, 1) := by decide +kernel
theorem dX1_difference_0 : decode cX1_difference 0 = .ok (.aload_n 0, 1) := by decide +kernel
theorem dX1_difference_1 : decode cX1_difference 1 = .ok (.getfield 19, 3) := by decide +kernel
theorem dX1_difference_4 : decode cX1_difference 4 = .ok (.aload_n 0, 1) := by decide +kernel
theorem dX1_difference_5 : decode cX1_difference 5 = .ok (.getfield 22, 3) := by decide +kernel
theorem dX1_difference_8 : decode cX1_difference 8 = .ok (.isub, 1) := by decide +kernel
theorem dX1_difference_9 : decode cX1_difference 9 = .ok (.ireturn, 1) := by decide +kernel
theorem dX1_isAheadOf_0 : decode cX1_isAheadOf 0 = .ok (.aload_n 0, 1) := by decide +kernel
theorem dX1_isAheadOf_1 : decode cX1_isAheadOf 1 = .ok (.getfield 16, 3) := by decide +kernel
theorem dX1_isAheadOf_4 : decode cX1_isAheadOf 4 = .ok (.iconst 1, 1) := by decide +kernel
theorem dX1_isAheadOf_5 : decode cX1_isAheadOf 5 = .ok (.aload_n 1, 1) := by decide +kernel
theorem dX1_isAheadOf_6 : decode cX1_isAheadOf 6 = .ok (.getfield 13, 3) := by decide +kernel
theorem dX1_isAheadOf_9 : decode cX1_isAheadOf 9 = .ok (.invokestatic 25, 3) := by decide +kernel
theorem dX1_isAheadOf_12 : decode cX1_isAheadOf 12 = .ok (.imul, 1) := by decide +kernel
theorem dX1_isAheadOf_13 : decode cX1_isAheadOf 13 = .ok (.istore_n 2, 1) := by decide +kernel
theorem dX1_isAheadOf_14 : decode cX1_isAheadOf 14 = .ok (.aload_n 1, 1) := by decide +kernel
theorem dX1_isAheadOf_15 : decode cX1_isAheadOf 15 = .ok (.getfield 16, 3) := by decide +kernel
theorem dX1_isAheadOf_18 : decode cX1_isAheadOf 18 = .ok (.iconst 1, 1) := by decide +kernel
theorem dX1_isAheadOf_19 : decode cX1_isAheadOf 19 = .ok (.aload_n 0, 1) := by decide +kernel
theorem dX1_isAheadOf_20 : decode cX1_isAheadOf 20 = .ok (.getfield 13, 3) := by decide +kernel
theorem dX1_isAheadOf_23 : decode cX1_isAheadOf 23 = .ok (.invokestatic 25, 3) := by decide +kernel
theorem dX1_isAheadOf_26 : decode cX1_isAheadOf 26 = .ok (.imul, 1) := by decide +kernel
theorem dX1_isAheadOf_27 : decode cX1_isAheadOf 27 = .ok (.istore_n 3, 1) := by decide +kernel
theorem dX1_isAheadOf_28 : decode cX1_isAheadOf 28 = .ok (.iload_n 2, 1) := by decide +kernel
theorem dX1_isAheadOf_29 : decode cX1_isAheadOf 29 = .ok (.iload_n 3, 1) := by decide +kernel
theorem dX1_isAheadOf_30 : decode cX1_isAheadOf 30 = .ok (.if_icmp .eq 14, 3) := by decide +kernel
theorem dX1_isAheadOf_33 : decode cX1_isAheadOf 33 = .ok (.iload_n 2, 1) := by decide +kernel
theorem dX1_isAheadOf_34 : decode cX1_isAheadOf 34 = .ok (.iload_n 3, 1) := by decide +kernel
theorem dX1_isAheadOf_35 : decode cX1_isAheadOf 35 = .ok (.if_icmp .le 7, 3) := by decide +kernel
theorem dX1_isAheadOf_38 : decode cX1_isAheadOf 38 = .ok (.iconst 1, 1) := by decide +kernel
theorem dX1_isAheadOf_39 : decode cX1_isAheadOf 39 = .ok (.goto 4, 3) := by decide +kernel
theorem dX1_isAheadOf_42 : decode cX1_isAheadOf 42 = .ok (.iconst 0, 1) := by decide +kernel
theorem dX1_isAheadOf_43 : decode cX1_isAheadOf 43 = .ok (.ireturn, 1) := by decide +kernel
theorem dX1_isAheadOf_44 : decode cX1_isAheadOf 44 = .ok (.aload_n 0, 1) := by decide +kernel
theorem dX1_isAheadOf_45 : decode cX1_isAheadOf 45 = .ok (.invokevirtual 31, 3) := by decide +kernel
theorem dX1_isAheadOf_48 : decode cX1_isAheadOf 48 = .ok (.aload_n 1, 1) := by decide +kernel
theorem dX1_isAheadOf_49 : decode cX1_isAheadOf 49 = .ok (.invokevirtual 31, 3) := by decide +kernel
theorem dX1_isAheadOf_52 : decode cX1_isAheadOf 52 = .ok (.if_icmp .eq 20, 3) := by decide +kernel
theorem dX1_isAheadOf_55 : decode cX1_isAheadOf 55 = .ok (.aload_n 0, 1) := by decide +kernel
theorem dX1_isAheadOf_56 : decode cX1_isAheadOf 56 = .ok (.invokevirtual 31, 3) := by decide +kernel
theorem dX1_isAheadOf_59 : decode cX1_isAheadOf 59 = .ok (.aload_n 1, 1) := by decide +kernel
theorem dX1_isAheadOf_60 : decode cX1_isAheadOf 60 = .ok (.invokevirtual 31, 3) := by decide +kernel
theorem dX1_isAheadOf_63 : decode cX1_isAheadOf 63 = .ok (.if_icmp .le 7, 3) := by decide +kernel
theorem dX1_isAheadOf_66 : decode cX1_isAheadOf 66 = .ok (.iconst 1, 1) := by decide +kernel
theorem dX1_isAheadOf_67 : decode cX1_isAheadOf 67 = .ok (.goto 4, 3) := by decide +kernel
theorem dX1_isAheadOf_70 : decode cX1_isAheadOf 70 = .ok (.iconst 0, 1) := by decide +kernel
theorem dX1_isAheadOf_71 : decode cX1_isAheadOf 71 = .ok (.ireturn, 1) := by decide +kernel
theorem dX1_isAheadOf_72 : decode cX1_isAheadOf 72 = .ok (.aload_n 0, 1) := by decide +kernel
theorem dX1_isAheadOf_73 : decode cX1_isAheadOf 73 = .ok (.getfield 19, 3) := by decide +kernel
theorem dX1_isAheadOf_76 : decode cX1_isAheadOf 76 = .ok (.aload_n 1, 1) := by decide +kernel
theorem dX1_isAheadOf_77 : decode cX1_isAheadOf 77 = .ok (.getfield 19, 3) := by decide +kernel
theorem dX1_isAheadOf_80 : decode cX1_isAheadOf 80 = .ok (.if_icmp .eq 22, 3) := by decide +kernel
theorem dX1_isAheadOf_83 : decode cX1_isAheadOf 83 = .ok (.aload_n 0, 1) := by decide +kernel
theorem dX1_isAheadOf_84 : decode cX1_isAheadOf 84 = .ok (.getfield 19, 3) := by decide +kernel
theorem dX1_isAheadOf_87 : decode cX1_isAheadOf 87 = .ok (.aload_n 1, 1) := by decide +kernel
theorem dX1_isAheadOf_88 : decode cX1_isAheadOf 88 = .ok (.getfield 19, 3) := by decide +kernel
theorem dX1_isAheadOf_91 : decode cX1_isAheadOf 91 = .ok (.if_icmp .le 7, 3) := by decide +kernel
theorem dX1_isAheadOf_94 : decode cX1_isAheadOf 94 = .ok (.iconst 1, 1) := by decide +kernel
theorem dX1_isAheadOf_95 : decode cX1_isAheadOf 95 = .ok (.goto 23, 3) := by decide +kernel
theorem dX1_isAheadOf_98 : decode cX1_isAheadOf 98 = .ok (.iconst 0, 1) := by decide +kernel
theorem dX1_isAheadOf_99 : decode cX1_isAheadOf 99 = .ok (.goto 19, 3) := by decide +kernel
theorem dX1_isAheadOf_102 : decode cX1_isAheadOf 102 = .ok (.aload_n 0, 1) := by decide +kernel
theorem dX1_isAheadOf_103 : decode cX1_isAheadOf 103 = .ok (.getfield 7, 3) := by decide +kernel
theorem dX1_isAheadOf_106 : decode cX1_isAheadOf 106 = .ok (.aload_n 1, 1) := by decide +kernel
theorem dX1_isAheadOf_107 : decode cX1_isAheadOf 107 = .ok (.getfield 7, 3) := by decide +kernel
theorem dX1_isAheadOf_110 : decode cX1_isAheadOf 110 = .ok (.if_icmp .ge 7, 3) := by decide +kernel
theorem dX1_isAheadOf_113 : decode cX1_isAheadOf 113 = .ok (.iconst 1, 1) := by decide +kernel
theorem dX1_isAheadOf_114 : decode cX1_isAheadOf 114 = .ok (.goto 4, 3) := by decide +kernel
theorem dX1_isAheadOf_117 : decode cX1_isAheadOf 117 = .ok (.iconst 0, 1) := by decide +kernel
theorem dX1_isAheadOf_118 : decode cX1_isAheadOf 118 = .ok (.ireturn, 1) := by decide +kernel
theorem dX2_init_0 : decode cX2_init 0 = .ok (.aload_n 0, 1) := by decide +kernel
theorem dX2_init_1 : decode cX2_init 1 = .ok (.invokespecial 3, 3) := by decide +kernel
theorem dX2_init_4 : decode cX2_init 4 = .ok (.aload_n 0, 1) := by decide +kernel
theorem dX2_init_5 : decode cX2_init 5 = .ok (.bipush 8, 2) := by decide +kernel
theorem dX2_init_7 : decode cX2_init 7 = .ok (.newarray .int, 2) := by decide +kernel
theorem dX2_init_9 : decode cX2_init 9 = .ok (.putfield 9, 3) := by decide +kernel
theorem dX2_init_12 : decode cX2_init 12 = .ok (.aload_n 0, 1) := by decide +kernel
theorem dX2_init_13 : decode cX2_init 13 = .ok (.bipush 8, 2) := by decide +kernel
theorem dX2_init_15 : decode cX2_init 15 = .ok (.newarray .int, 2) := by decide +kernel
theorem dX2_init_17 : decode cX2_init 17 = .ok (.putfield 15, 3) := by decide +kernel
theorem dX2_init_20 : decode cX2_init 20 = .ok (.aload_n 0, 1) := by decide +kernel
theorem dX2_init_21 : decode cX2_init 21 = .ok (.bipush 8, 2) := by decide +kernel
theorem dX2_init_23 : decode cX2_init 23 = .ok (.newarray .int, 2) := by decide +kernel
theorem dX2_init_25 : decode cX2_init 25 = .ok (.putfield 18, 3) := by decide +kernel
theorem dX2_init_28 : decode cX2_init 28 = .ok (.aload_n 0, 1) := by decide +kernel
theorem dX2_init_29 : decode cX2_init 29 = .ok (.iconst (-1), 1) := by decide +kernel
theorem dX2_init_30 : decode cX2_init 30 = .ok (.putfield 21, 3) := by decide +kernel
theorem dX2_init_33 : decode cX2_init 33 = .ok (.aload_n 0, 1) := by decide +kernel
theorem dX2_init_34 : decode cX2_init 34 = .ok (.iload_n 1, 1) := by decide +kernel
theorem dX2_init_35 : decode cX2_init 35 = .ok (.putfield 25, 3) := by decide +kernel
theorem dX2_init_38 : decode cX2_init 38 = .ok (.aload_n 0, 1) := by decide +kernel
theorem dX2_init_39 : decode cX2_init 39 = .ok (.aload_n 2, 1) := by decide +kernel
theorem dX2_init_40 : decode cX2_init 40 = .ok (.putfield 29, 3) := by decide +kernel
theorem dX2_init_43 : decode cX2_init 43 = .ok (.aload_n 0, 1) := by decide +kernel
theorem dX2_init_44 : decode cX2_init 44 = .ok (.aload_n 3, 1) := by decide +kernel
theorem dX2_init_45 : decode cX2_init 45 = .ok (.putfield 33, 3) := by decide +kernel
theorem dX2_init_48 : decode cX2_init 48 = .ok (.return_, 1) := by decide +kernel
theorem dX2_isFull_0 : decode cX2_isFull 0 = .ok (.aload_n 0, 1) := by decide +kernel
theorem dX2_isFull_1 : decode cX2_isFull 1 = .ok (.getfield 36, 3) := by decide +kernel
theorem dX2_isFull_4 : decode cX2_isFull 4 = .ok (.bipush 8, 2) := by decide +kernel
theorem dX2_isFull_6 : decode cX2_isFull 6 = .ok (.if_icmp .lt 7, 3) := by decide +kernel
theorem dX2_isFull_9 : decode cX2_isFull 9 = .ok (.iconst 1, 1) := by decide +kernel
theorem dX2_isFull_10 : decode cX2_isFull 10 = .ok (.goto 4, 3) := by decide +kernel
theorem dX2_isFull_13 : decode cX2_isFull 13 = .ok (.iconst 0, 1) := by decide +kernel
theorem dX2_isFull_14 : decode cX2_isFull 14 = .ok (.ireturn, 1) := by decide +kernel
theorem dX2_latestTime_0 : decode cX2_latestTime 0 = .ok (.aload_n 0, 1) := by decide +kernel
theorem dX2_latestTime_1 : decode cX2_latestTime 1 = .ok (.getfield 36, 3) := by decide +kernel
theorem dX2_latestTime_4 : decode cX2_latestTime 4 = .ok (.ifCond .le 26, 3) := by decide +kernel
theorem dX2_latestTime_7 : decode cX2_latestTime 7 = .ok (.aload_n 0, 1) := by decide +kernel
theorem dX2_latestTime_8 : decode cX2_latestTime 8 = .ok (.getfield 36, 3) := by decide +kernel
theorem dX2_latestTime_11 : decode cX2_latestTime 11 = .ok (.bipush 8, 2) := by decide +kernel
theorem dX2_latestTime_13 : decode cX2_latestTime 13 = .ok (.if_icmp .gt 17, 3) := by decide +kernel
theorem dX2_latestTime_16 : decode cX2_latestTime 16 = .ok (.aload_n 0, 1) := by decide +kernel
theorem dX2_latestTime_17 : decode cX2_latestTime 17 = .ok (.getfield 18, 3) := by decide +kernel
theorem dX2_latestTime_20 : decode cX2_latestTime 20 = .ok (.aload_n 0, 1) := by decide +kernel
theorem dX2_latestTime_21 : decode cX2_latestTime 21 = .ok (.getfield 36, 3) := by decide +kernel
theorem dX2_latestTime_24 : decode cX2_latestTime 24 = .ok (.iconst 1, 1) := by decide +kernel
theorem dX2_latestTime_25 : decode cX2_latestTime 25 = .ok (.isub, 1) := by decide +kernel
theorem dX2_latestTime_26 : decode cX2_latestTime 26 = .ok (.iaload, 1) := by decide +kernel
theorem dX2_latestTime_27 : decode cX2_latestTime 27 = .ok (.goto 4, 3) := by decide +kernel
theorem dX2_latestTime_30 : decode cX2_latestTime 30 = .ok (.iconst 0, 1) := by decide +kernel
theorem dX2_latestTime_31 : decode cX2_latestTime 31 = .ok (.ireturn, 1) := by decide +kernel
theorem dX2_hear_0 : decode cX2_hear 0 = .ok (.aload_n 0, 1) := by decide +kernel
theorem dX2_hear_1 : decode cX2_hear 1 = .ok (.getfield 36, 3) := by decide +kernel
theorem dX2_hear_4 : decode cX2_hear 4 = .ok (.ifCond .lt 10, 3) := by decide +kernel
theorem dX2_hear_7 : decode cX2_hear 7 = .ok (.aload_n 0, 1) := by decide +kernel
theorem dX2_hear_8 : decode cX2_hear 8 = .ok (.invokevirtual 39, 3) := by decide +kernel
theorem dX2_hear_11 : decode cX2_hear 11 = .ok (.ifCond .eq 4, 3) := by decide +kernel
theorem dX2_hear_14 : decode cX2_hear 14 = .ok (.return_, 1) := by decide +kernel
theorem dX2_hear_15 : decode cX2_hear 15 = .ok (.aload_n 0, 1) := by decide +kernel
theorem dX2_hear_16 : decode cX2_hear 16 = .ok (.getfield 9, 3) := by decide +kernel
theorem dX2_hear_19 : decode cX2_hear 19 = .ok (.aload_n 0, 1) := by decide +kernel
theorem dX2_hear_20 : decode cX2_hear 20 = .ok (.getfield 36, 3) := by decide +kernel
theorem dX2_hear_23 : decode cX2_hear 23 = .ok (.iload_n 1, 1) := by decide +kernel
theorem dX2_hear_24 : decode cX2_hear 24 = .ok (.iastore, 1) := by decide +kernel
theorem dX2_hear_25 : decode cX2_hear 25 = .ok (.aload_n 0, 1) := by decide +kernel
theorem dX2_hear_26 : decode cX2_hear 26 = .ok (.getfield 15, 3) := by decide +kernel
theorem dX2_hear_29 : decode cX2_hear 29 = .ok (.aload_n 0, 1) := by decide +kernel
theorem dX2_hear_30 : decode cX2_hear 30 = .ok (.getfield 36, 3) := by decide +kernel
theorem dX2_hear_33 : decode cX2_hear 33 = .ok (.iload_n 2, 1) := by decide +kernel
theorem dX2_hear_34 : decode cX2_hear 34 = .ok (.iastore, 1) := by decide +kernel
theorem dX2_hear_35 : decode cX2_hear 35 = .ok (.aload_n 0, 1) := by decide +kernel
theorem dX2_hear_36 : decode cX2_hear 36 = .ok (.getfield 18, 3) := by decide +kernel
theorem dX2_hear_39 : decode cX2_hear 39 = .ok (.aload_n 0, 1) := by decide +kernel
theorem dX2_hear_40 : decode cX2_hear 40 = .ok (.getfield 36, 3) := by decide +kernel
theorem dX2_hear_43 : decode cX2_hear 43 = .ok (.iload_n 3, 1) := by decide +kernel
theorem dX2_hear_44 : decode cX2_hear 44 = .ok (.iastore, 1) := by decide +kernel
theorem dX2_hear_45 : decode cX2_hear 45 = .ok (.aload_n 0, 1) := by decide +kernel
theorem dX2_hear_46 : decode cX2_hear 46 = .ok (.dup, 1) := by decide +kernel
theorem dX2_hear_47 : decode cX2_hear 47 = .ok (.getfield 36, 3) := by decide +kernel
theorem dX2_hear_50 : decode cX2_hear 50 = .ok (.iconst 1, 1) := by decide +kernel
theorem dX2_hear_51 : decode cX2_hear 51 = .ok (.iadd, 1) := by decide +kernel
theorem dX2_hear_52 : decode cX2_hear 52 = .ok (.putfield 36, 3) := by decide +kernel
theorem dX2_hear_55 : decode cX2_hear 55 = .ok (.return_, 1) := by decide +kernel
theorem dX2_tellRight_0 : decode cX2_tellRight 0 = .ok (.aload_n 0, 1) := by decide +kernel
theorem dX2_tellRight_1 : decode cX2_tellRight 1 = .ok (.iconst 1, 1) := by decide +kernel
theorem dX2_tellRight_2 : decode cX2_tellRight 2 = .ok (.putfield 43, 3) := by decide +kernel
theorem dX2_tellRight_5 : decode cX2_tellRight 5 = .ok (.aload_n 0, 1) := by decide +kernel
theorem dX2_tellRight_6 : decode cX2_tellRight 6 = .ok (.iload_n 1, 1) := by decide +kernel
theorem dX2_tellRight_7 : decode cX2_tellRight 7 = .ok (.putfield 21, 3) := by decide +kernel
theorem dX2_tellRight_10 : decode cX2_tellRight 10 = .ok (.aload_n 0, 1) := by decide +kernel
theorem dX2_tellRight_11 : decode cX2_tellRight 11 = .ok (.aload_n 0, 1) := by decide +kernel
theorem dX2_tellRight_12 : decode cX2_tellRight 12 = .ok (.invokevirtual 46, 3) := by decide +kernel
theorem dX2_tellRight_15 : decode cX2_tellRight 15 = .ok (.putfield 50, 3) := by decide +kernel
theorem dX2_tellRight_18 : decode cX2_tellRight 18 = .ok (.return_, 1) := by decide +kernel
theorem dX2_judge_0 : decode cX2_judge 0 = .ok (.aload_n 0, 1) := by decide +kernel
theorem dX2_judge_1 : decode cX2_judge 1 = .ok (.invokevirtual 53, 3) := by decide +kernel
theorem dX2_judge_4 : decode cX2_judge 4 = .ok (.istore_n 1, 1) := by decide +kernel
theorem dX2_judge_5 : decode cX2_judge 5 = .ok (.iload_n 1, 1) := by decide +kernel
theorem dX2_judge_6 : decode cX2_judge 6 = .ok (.iconst (-1), 1) := by decide +kernel
theorem dX2_judge_7 : decode cX2_judge 7 = .ok (.if_icmp .ne 5, 3) := by decide +kernel
theorem dX2_judge_10 : decode cX2_judge 10 = .ok (.iconst 0, 1) := by decide +kernel
theorem dX2_judge_11 : decode cX2_judge 11 = .ok (.ireturn, 1) := by decide +kernel
theorem dX2_judge_12 : decode cX2_judge 12 = .ok (.aload_n 0, 1) := by decide +kernel
theorem dX2_judge_13 : decode cX2_judge 13 = .ok (.iload_n 1, 1) := by decide +kernel
theorem dX2_judge_14 : decode cX2_judge 14 = .ok (.invokevirtual 56, 3) := by decide +kernel
theorem dX2_judge_17 : decode cX2_judge 17 = .ok (.istore_n 2, 1) := by decide +kernel
theorem dX2_judge_18 : decode cX2_judge 18 = .ok (.aload_n 0, 1) := by decide +kernel
theorem dX2_judge_19 : decode cX2_judge 19 = .ok (.getfield 25, 3) := by decide +kernel
theorem dX2_judge_22 : decode cX2_judge 22 = .ok (.ifCond .ne 15, 3) := by decide +kernel
theorem dX2_judge_25 : decode cX2_judge 25 = .ok (.aload_n 0, 1) := by decide +kernel
theorem dX2_judge_26 : decode cX2_judge 26 = .ok (.iload_n 1, 1) := by decide +kernel
theorem dX2_judge_27 : decode cX2_judge 27 = .ok (.invokevirtual 60, 3) := by decide +kernel
theorem dX2_judge_30 : decode cX2_judge 30 = .ok (.aload_n 0, 1) := by decide +kernel
theorem dX2_judge_31 : decode cX2_judge 31 = .ok (.iload_n 2, 1) := by decide +kernel
theorem dX2_judge_32 : decode cX2_judge 32 = .ok (.invokevirtual 60, 3) := by decide +kernel
theorem dX2_judge_35 : decode cX2_judge 35 = .ok (.ior, 1) := by decide +kernel
theorem dX2_judge_36 : decode cX2_judge 36 = .ok (.ireturn, 1) := by decide +kernel
theorem dX2_judge_37 : decode cX2_judge 37 = .ok (.iload_n 2, 1) := by decide +kernel
theorem dX2_judge_38 : decode cX2_judge 38 = .ok (.iconst (-1), 1) := by decide +kernel
theorem dX2_judge_39 : decode cX2_judge 39 = .ok (.if_icmp .ne 9, 3) := by decide +kernel
theorem dX2_judge_42 : decode cX2_judge 42 = .ok (.aload_n 0, 1) := by decide +kernel
theorem dX2_judge_43 : decode cX2_judge 43 = .ok (.iload_n 1, 1) := by decide +kernel
theorem dX2_judge_44 : decode cX2_judge 44 = .ok (.invokevirtual 60, 3) := by decide +kernel
theorem dX2_judge_47 : decode cX2_judge 47 = .ok (.ireturn, 1) := by decide +kernel
theorem dX2_judge_48 : decode cX2_judge 48 = .ok (.aload_n 0, 1) := by decide +kernel
theorem dX2_judge_49 : decode cX2_judge 49 = .ok (.iload_n 1, 1) := by decide +kernel
theorem dX2_judge_50 : decode cX2_judge 50 = .ok (.invokevirtual 63, 3) := by decide +kernel
theorem dX2_judge_53 : decode cX2_judge 53 = .ok (.istore_n 3, 1) := by decide +kernel
theorem dX2_judge_54 : decode cX2_judge 54 = .ok (.iload_n 3, 1) := by decide +kernel
theorem dX2_judge_55 : decode cX2_judge 55 = .ok (.iconst (-1), 1) := by decide +kernel
theorem dX2_judge_56 : decode cX2_judge 56 = .ok (.if_icmp .ne 5, 3) := by decide +kernel
theorem dX2_judge_59 : decode cX2_judge 59 = .ok (.iconst 0, 1) := by decide +kernel
theorem dX2_judge_60 : decode cX2_judge 60 = .ok (.ireturn, 1) := by decide +kernel
theorem dX2_judge_61 : decode cX2_judge 61 = .ok (.aload_n 0, 1) := by decide +kernel
theorem dX2_judge_62 : decode cX2_judge 62 = .ok (.aload_n 0, 1) := by decide +kernel
theorem dX2_judge_63 : decode cX2_judge 63 = .ok (.getfield 15, 3) := by decide +kernel
theorem dX2_judge_66 : decode cX2_judge 66 = .ok (.iload_n 1, 1) := by decide +kernel
theorem dX2_judge_67 : decode cX2_judge 67 = .ok (.iaload, 1) := by decide +kernel
theorem dX2_judge_68 : decode cX2_judge 68 = .ok (.iload_n 3, 1) := by decide +kernel
theorem dX2_judge_69 : decode cX2_judge 69 = .ok (.if_icmp .ne 7, 3) := by decide +kernel
theorem dX2_judge_72 : decode cX2_judge 72 = .ok (.iload_n 1, 1) := by decide +kernel
theorem dX2_judge_73 : decode cX2_judge 73 = .ok (.goto 4, 3) := by decide +kernel
theorem dX2_judge_76 : decode cX2_judge 76 = .ok (.iload_n 2, 1) := by decide +kernel
theorem dX2_judge_77 : decode cX2_judge 77 = .ok (.invokevirtual 60, 3) := by decide +kernel
theorem dX2_judge_80 : decode cX2_judge 80 = .ok (.ireturn, 1) := by decide +kernel
theorem dX2_withoutStruck_0 : decode cX2_withoutStruck 0 = .ok (.iload_n 1, 1) := by decide +kernel
theorem dX2_withoutStruck_1 : decode cX2_withoutStruck 1 = .ok (.istore_n 3, 1) := by decide +kernel
theorem dX2_withoutStruck_2 : decode cX2_withoutStruck 2 = .ok (.aload_n 0, 1) := by decide +kernel
theorem dX2_withoutStruck_3 : decode cX2_withoutStruck 3 = .ok (.getfield 29, 3) := by decide +kernel
theorem dX2_withoutStruck_6 : decode cX2_withoutStruck 6 = .ok (.iload_n 2, 1) := by decide +kernel
theorem dX2_withoutStruck_7 : decode cX2_withoutStruck 7 = .ok (.invokevirtual 66, 3) := by decide +kernel
theorem dX2_withoutStruck_10 : decode cX2_withoutStruck 10 = .ok (.ifCond .eq 7, 3) := by decide +kernel
theorem dX2_withoutStruck_13 : decode cX2_withoutStruck 13 = .ok (.iload_n 3, 1) := by decide +kernel
theorem dX2_withoutStruck_14 : decode cX2_withoutStruck 14 = .ok (.iconst 2, 1) := by decide +kernel
theorem dX2_withoutStruck_15 : decode cX2_withoutStruck 15 = .ok (.iand, 1) := by decide +kernel
theorem dX2_withoutStruck_16 : decode cX2_withoutStruck 16 = .ok (.istore_n 3, 1) := by decide +kernel
theorem dX2_withoutStruck_17 : decode cX2_withoutStruck 17 = .ok (.aload_n 0, 1) := by decide +kernel
theorem dX2_withoutStruck_18 : decode cX2_withoutStruck 18 = .ok (.getfield 33, 3) := by decide +kernel
theorem dX2_withoutStruck_21 : decode cX2_withoutStruck 21 = .ok (.iload_n 2, 1) := by decide +kernel
theorem dX2_withoutStruck_22 : decode cX2_withoutStruck 22 = .ok (.invokevirtual 66, 3) := by decide +kernel
theorem dX2_withoutStruck_25 : decode cX2_withoutStruck 25 = .ok (.ifCond .eq 7, 3) := by decide +kernel
theorem dX2_withoutStruck_28 : decode cX2_withoutStruck 28 = .ok (.iload_n 3, 1) := by decide +kernel
theorem dX2_withoutStruck_29 : decode cX2_withoutStruck 29 = .ok (.iconst 1, 1) := by decide +kernel
theorem dX2_withoutStruck_30 : decode cX2_withoutStruck 30 = .ok (.iand, 1) := by decide +kernel
theorem dX2_withoutStruck_31 : decode cX2_withoutStruck 31 = .ok (.istore_n 3, 1) := by decide +kernel
theorem dX2_withoutStruck_32 : decode cX2_withoutStruck 32 = .ok (.iload_n 3, 1) := by decide +kernel
theorem dX2_withoutStruck_33 : decode cX2_withoutStruck 33 = .ok (.ireturn, 1) := by decide +kernel
theorem dX2_isALight_0 : decode cX2_isALight 0 = .ok (.aload_n 0, 1) := by decide +kernel
theorem dX2_isALight_1 : decode cX2_isALight 1 = .ok (.getfield 9, 3) := by decide +kernel
theorem dX2_isALight_4 : decode cX2_isALight 4 = .ok (.iload_n 1, 1) := by decide +kernel
theorem dX2_isALight_5 : decode cX2_isALight 5 = .ok (.iaload, 1) := by decide +kernel
theorem dX2_isALight_6 : decode cX2_isALight 6 = .ok (.ifCond .eq 20, 3) := by decide +kernel
theorem dX2_isALight_9 : decode cX2_isALight 9 = .ok (.aload_n 0, 1) := by decide +kernel
theorem dX2_isALight_10 : decode cX2_isALight 10 = .ok (.getfield 25, 3) := by decide +kernel
theorem dX2_isALight_13 : decode cX2_isALight 13 = .ok (.ifCond .eq 17, 3) := by decide +kernel
theorem dX2_isALight_16 : decode cX2_isALight 16 = .ok (.aload_n 0, 1) := by decide +kernel
theorem dX2_isALight_17 : decode cX2_isALight 17 = .ok (.getfield 9, 3) := by decide +kernel
theorem dX2_isALight_20 : decode cX2_isALight 20 = .ok (.iload_n 1, 1) := by decide +kernel
theorem dX2_isALight_21 : decode cX2_isALight 21 = .ok (.iaload, 1) := by decide +kernel
theorem dX2_isALight_22 : decode cX2_isALight 22 = .ok (.iconst 1, 1) := by decide +kernel
theorem dX2_isALight_23 : decode cX2_isALight 23 = .ok (.if_icmp .ne 7, 3) := by decide +kernel
theorem dX2_isALight_26 : decode cX2_isALight 26 = .ok (.iconst 1, 1) := by decide +kernel
theorem dX2_isALight_27 : decode cX2_isALight 27 = .ok (.goto 4, 3) := by decide +kernel
theorem dX2_isALight_30 : decode cX2_isALight 30 = .ok (.iconst 0, 1) := by decide +kernel
theorem dX2_isALight_31 : decode cX2_isALight 31 = .ok (.ireturn, 1) := by decide +kernel
theorem dX2_firstLight_0 : decode cX2_firstLight 0 = .ok (.iconst 0, 1) := by decide +kernel
theorem dX2_firstLight_1 : decode cX2_firstLight 1 = .ok (.istore_n 1, 1) := by decide +kernel
theorem dX2_firstLight_2 : decode cX2_firstLight 2 = .ok (.iload_n 1, 1) := by decide +kernel
theorem dX2_firstLight_3 : decode cX2_firstLight 3 = .ok (.aload_n 0, 1) := by decide +kernel
theorem dX2_firstLight_4 : decode cX2_firstLight 4 = .ok (.getfield 36, 3) := by decide +kernel
theorem dX2_firstLight_7 : decode cX2_firstLight 7 = .ok (.if_icmp .ge 25, 3) := by decide +kernel
theorem dX2_firstLight_10 : decode cX2_firstLight 10 = .ok (.iload_n 1, 1) := by decide +kernel
theorem dX2_firstLight_11 : decode cX2_firstLight 11 = .ok (.bipush 8, 2) := by decide +kernel
theorem dX2_firstLight_13 : decode cX2_firstLight 13 = .ok (.if_icmp .ge 19, 3) := by decide +kernel
theorem dX2_firstLight_16 : decode cX2_firstLight 16 = .ok (.aload_n 0, 1) := by decide +kernel
theorem dX2_firstLight_17 : decode cX2_firstLight 17 = .ok (.iload_n 1, 1) := by decide +kernel
theorem dX2_firstLight_18 : decode cX2_firstLight 18 = .ok (.invokevirtual 72, 3) := by decide +kernel
theorem dX2_firstLight_21 : decode cX2_firstLight 21 = .ok (.ifCond .eq 5, 3) := by decide +kernel
theorem dX2_firstLight_24 : decode cX2_firstLight 24 = .ok (.iload_n 1, 1) := by decide +kernel
theorem dX2_firstLight_25 : decode cX2_firstLight 25 = .ok (.ireturn, 1) := by decide +kernel
theorem dX2_firstLight_26 : decode cX2_firstLight 26 = .ok (.iinc 1 1, 3) := by decide +kernel
theorem dX2_firstLight_29 : decode cX2_firstLight 29 = .ok (.goto (-27), 3) := by decide +kernel
theorem dX2_firstLight_32 : decode cX2_firstLight 32 = .ok (.iconst (-1), 1) := by decide +kernel
theorem dX2_firstLight_33 : decode cX2_firstLight 33 = .ok (.ireturn, 1) := by decide +kernel
theorem dX2_otherLight_0 : decode cX2_otherLight 0 = .ok (.aload_n 0, 1) := by decide +kernel
theorem dX2_otherLight_1 : decode cX2_otherLight 1 = .ok (.getfield 25, 3) := by decide +kernel
theorem dX2_otherLight_4 : decode cX2_otherLight 4 = .ok (.ifCond .eq 9, 3) := by decide +kernel
theorem dX2_otherLight_7 : decode cX2_otherLight 7 = .ok (.sipush 300, 3) := by decide +kernel
theorem dX2_otherLight_10 : decode cX2_otherLight 10 = .ok (.goto 5, 3) := by decide +kernel
theorem dX2_otherLight_13 : decode cX2_otherLight 13 = .ok (.bipush 40, 2) := by decide +kernel
theorem dX2_otherLight_15 : decode cX2_otherLight 15 = .ok (.istore_n 2, 1) := by decide +kernel
theorem dX2_otherLight_16 : decode cX2_otherLight 16 = .ok (.iload_n 1, 1) := by decide +kernel
theorem dX2_otherLight_17 : decode cX2_otherLight 17 = .ok (.iconst 1, 1) := by decide +kernel
theorem dX2_otherLight_18 : decode cX2_otherLight 18 = .ok (.iadd, 1) := by decide +kernel
theorem dX2_otherLight_19 : decode cX2_otherLight 19 = .ok (.istore_n 3, 1) := by decide +kernel
theorem dX2_otherLight_20 : decode cX2_otherLight 20 = .ok (.iload_n 3, 1) := by decide +kernel
theorem dX2_otherLight_21 : decode cX2_otherLight 21 = .ok (.aload_n 0, 1) := by decide +kernel
theorem dX2_otherLight_22 : decode cX2_otherLight 22 = .ok (.getfield 36, 3) := by decide +kernel
theorem dX2_otherLight_25 : decode cX2_otherLight 25 = .ok (.if_icmp .ge 69, 3) := by decide +kernel
theorem dX2_otherLight_28 : decode cX2_otherLight 28 = .ok (.iload_n 3, 1) := by decide +kernel
theorem dX2_otherLight_29 : decode cX2_otherLight 29 = .ok (.bipush 8, 2) := by decide +kernel
theorem dX2_otherLight_31 : decode cX2_otherLight 31 = .ok (.if_icmp .ge 63, 3) := by decide +kernel
theorem dX2_otherLight_34 : decode cX2_otherLight 34 = .ok (.aload_n 0, 1) := by decide +kernel
theorem dX2_otherLight_35 : decode cX2_otherLight 35 = .ok (.getfield 18, 3) := by decide +kernel
theorem dX2_otherLight_38 : decode cX2_otherLight 38 = .ok (.iload_n 3, 1) := by decide +kernel
theorem dX2_otherLight_39 : decode cX2_otherLight 39 = .ok (.iaload, 1) := by decide +kernel
theorem dX2_otherLight_40 : decode cX2_otherLight 40 = .ok (.aload_n 0, 1) := by decide +kernel
theorem dX2_otherLight_41 : decode cX2_otherLight 41 = .ok (.getfield 18, 3) := by decide +kernel
theorem dX2_otherLight_44 : decode cX2_otherLight 44 = .ok (.iload_n 1, 1) := by decide +kernel
theorem dX2_otherLight_45 : decode cX2_otherLight 45 = .ok (.iaload, 1) := by decide +kernel
theorem dX2_otherLight_46 : decode cX2_otherLight 46 = .ok (.isub, 1) := by decide +kernel
theorem dX2_otherLight_47 : decode cX2_otherLight 47 = .ok (.iload_n 2, 1) := by decide +kernel
theorem dX2_otherLight_48 : decode cX2_otherLight 48 = .ok (.if_icmp .gt 7, 3) := by decide +kernel
theorem dX2_otherLight_51 : decode cX2_otherLight 51 = .ok (.iconst 1, 1) := by decide +kernel
theorem dX2_otherLight_52 : decode cX2_otherLight 52 = .ok (.goto 4, 3) := by decide +kernel
theorem dX2_otherLight_55 : decode cX2_otherLight 55 = .ok (.iconst 0, 1) := by decide +kernel
theorem dX2_otherLight_56 : decode cX2_otherLight 56 = .ok (.istore 4, 2) := by decide +kernel
theorem dX2_otherLight_58 : decode cX2_otherLight 58 = .ok (.iload 4, 2) := by decide +kernel
theorem dX2_otherLight_60 : decode cX2_otherLight 60 = .ok (.ifCond .eq 28, 3) := by decide +kernel
theorem dX2_otherLight_63 : decode cX2_otherLight 63 = .ok (.aload_n 0, 1) := by decide +kernel
theorem dX2_otherLight_64 : decode cX2_otherLight 64 = .ok (.iload_n 3, 1) := by decide +kernel
theorem dX2_otherLight_65 : decode cX2_otherLight 65 = .ok (.invokevirtual 72, 3) := by decide +kernel
theorem dX2_otherLight_68 : decode cX2_otherLight 68 = .ok (.ifCond .eq 20, 3) := by decide +kernel
theorem dX2_otherLight_71 : decode cX2_otherLight 71 = .ok (.aload_n 0, 1) := by decide +kernel
theorem dX2_otherLight_72 : decode cX2_otherLight 72 = .ok (.getfield 15, 3) := by decide +kernel
theorem dX2_otherLight_75 : decode cX2_otherLight 75 = .ok (.iload_n 3, 1) := by decide +kernel
theorem dX2_otherLight_76 : decode cX2_otherLight 76 = .ok (.iaload, 1) := by decide +kernel
theorem dX2_otherLight_77 : decode cX2_otherLight 77 = .ok (.aload_n 0, 1) := by decide +kernel
theorem dX2_otherLight_78 : decode cX2_otherLight 78 = .ok (.getfield 15, 3) := by decide +kernel
theorem dX2_otherLight_81 : decode cX2_otherLight 81 = .ok (.iload_n 1, 1) := by decide +kernel
theorem dX2_otherLight_82 : decode cX2_otherLight 82 = .ok (.iaload, 1) := by decide +kernel
theorem dX2_otherLight_83 : decode cX2_otherLight 83 = .ok (.if_icmp .eq 5, 3) := by decide +kernel
theorem dX2_otherLight_86 : decode cX2_otherLight 86 = .ok (.iload_n 3, 1) := by decide +kernel
theorem dX2_otherLight_87 : decode cX2_otherLight 87 = .ok (.ireturn, 1) := by decide +kernel
theorem dX2_otherLight_88 : decode cX2_otherLight 88 = .ok (.iinc 3 1, 3) := by decide +kernel
theorem dX2_otherLight_91 : decode cX2_otherLight 91 = .ok (.goto (-71), 3) := by decide +kernel
theorem dX2_otherLight_94 : decode cX2_otherLight 94 = .ok (.iconst (-1), 1) := by decide +kernel
theorem dX2_otherLight_95 : decode cX2_otherLight 95 = .ok (.ireturn, 1) := by decide +kernel
theorem dX2_rightAt_0 : decode cX2_rightAt 0 = .ok (.aload_n 0, 1) := by decide +kernel
theorem dX2_rightAt_1 : decode cX2_rightAt 1 = .ok (.getfield 43, 3) := by decide +kernel
theorem dX2_rightAt_4 : decode cX2_rightAt 4 = .ok (.ifCond .eq 8, 3) := by decide +kernel
theorem dX2_rightAt_7 : decode cX2_rightAt 7 = .ok (.aload_n 0, 1) := by decide +kernel
theorem dX2_rightAt_8 : decode cX2_rightAt 8 = .ok (.getfield 21, 3) := by decide +kernel
theorem dX2_rightAt_11 : decode cX2_rightAt 11 = .ok (.ireturn, 1) := by decide +kernel
theorem dX2_rightAt_12 : decode cX2_rightAt 12 = .ok (.iconst (-1), 1) := by decide +kernel
theorem dX2_rightAt_13 : decode cX2_rightAt 13 = .ok (.istore_n 2, 1) := by decide +kernel
theorem dX2_rightAt_14 : decode cX2_rightAt 14 = .ok (.iconst 0, 1) := by decide +kernel
theorem dX2_rightAt_15 : decode cX2_rightAt 15 = .ok (.istore_n 3, 1) := by decide +kernel
theorem dX2_rightAt_16 : decode cX2_rightAt 16 = .ok (.iload_n 3, 1) := by decide +kernel
theorem dX2_rightAt_17 : decode cX2_rightAt 17 = .ok (.iload_n 1, 1) := by decide +kernel
theorem dX2_rightAt_18 : decode cX2_rightAt 18 = .ok (.if_icmp .ge 32, 3) := by decide +kernel
theorem dX2_rightAt_21 : decode cX2_rightAt 21 = .ok (.iload_n 3, 1) := by decide +kernel
theorem dX2_rightAt_22 : decode cX2_rightAt 22 = .ok (.bipush 8, 2) := by decide +kernel
theorem dX2_rightAt_24 : decode cX2_rightAt 24 = .ok (.if_icmp .ge 26, 3) := by decide +kernel
theorem dX2_rightAt_27 : decode cX2_rightAt 27 = .ok (.aload_n 0, 1) := by decide +kernel
theorem dX2_rightAt_28 : decode cX2_rightAt 28 = .ok (.getfield 9, 3) := by decide +kernel
theorem dX2_rightAt_31 : decode cX2_rightAt 31 = .ok (.iload_n 3, 1) := by decide +kernel
theorem dX2_rightAt_32 : decode cX2_rightAt 32 = .ok (.iaload, 1) := by decide +kernel
theorem dX2_rightAt_33 : decode cX2_rightAt 33 = .ok (.iconst 2, 1) := by decide +kernel
theorem dX2_rightAt_34 : decode cX2_rightAt 34 = .ok (.if_icmp .ne 10, 3) := by decide +kernel
theorem dX2_rightAt_37 : decode cX2_rightAt 37 = .ok (.aload_n 0, 1) := by decide +kernel
theorem dX2_rightAt_38 : decode cX2_rightAt 38 = .ok (.getfield 15, 3) := by decide +kernel
theorem dX2_rightAt_41 : decode cX2_rightAt 41 = .ok (.iload_n 3, 1) := by decide +kernel
theorem dX2_rightAt_42 : decode cX2_rightAt 42 = .ok (.iaload, 1) := by decide +kernel
theorem dX2_rightAt_43 : decode cX2_rightAt 43 = .ok (.istore_n 2, 1) := by decide +kernel
theorem dX2_rightAt_44 : decode cX2_rightAt 44 = .ok (.iinc 3 1, 3) := by decide +kernel
theorem dX2_rightAt_47 : decode cX2_rightAt 47 = .ok (.goto (-31), 3) := by decide +kernel
theorem dX2_rightAt_50 : decode cX2_rightAt 50 = .ok (.iload_n 2, 1) := by decide +kernel
theorem dX2_rightAt_51 : decode cX2_rightAt 51 = .ok (.ireturn, 1) := by decide +kernel
theorem dX2_touchOf_0 : decode cX2_touchOf 0 = .ok (.iload_n 1, 1) := by decide +kernel
theorem dX2_touchOf_1 : decode cX2_touchOf 1 = .ok (.ifCond .lt 18, 3) := by decide +kernel
theorem dX2_touchOf_4 : decode cX2_touchOf 4 = .ok (.iload_n 1, 1) := by decide +kernel
theorem dX2_touchOf_5 : decode cX2_touchOf 5 = .ok (.bipush 8, 2) := by decide +kernel
theorem dX2_touchOf_7 : decode cX2_touchOf 7 = .ok (.if_icmp .ge 12, 3) := by decide +kernel
theorem dX2_touchOf_10 : decode cX2_touchOf 10 = .ok (.aload_n 0, 1) := by decide +kernel
theorem dX2_touchOf_11 : decode cX2_touchOf 11 = .ok (.getfield 9, 3) := by decide +kernel
theorem dX2_touchOf_14 : decode cX2_touchOf 14 = .ok (.iload_n 1, 1) := by decide +kernel
theorem dX2_touchOf_15 : decode cX2_touchOf 15 = .ok (.iaload, 1) := by decide +kernel
theorem dX2_touchOf_16 : decode cX2_touchOf 16 = .ok (.ifCond .eq 5, 3) := by decide +kernel
theorem dX2_touchOf_19 : decode cX2_touchOf 19 = .ok (.iconst 0, 1) := by decide +kernel
theorem dX2_touchOf_20 : decode cX2_touchOf 20 = .ok (.ireturn, 1) := by decide +kernel
theorem dX2_touchOf_21 : decode cX2_touchOf 21 = .ok (.aload_n 0, 1) := by decide +kernel
theorem dX2_touchOf_22 : decode cX2_touchOf 22 = .ok (.getfield 15, 3) := by decide +kernel
theorem dX2_touchOf_25 : decode cX2_touchOf 25 = .ok (.iload_n 1, 1) := by decide +kernel
theorem dX2_touchOf_26 : decode cX2_touchOf 26 = .ok (.iaload, 1) := by decide +kernel
theorem dX2_touchOf_27 : decode cX2_touchOf 27 = .ok (.ifCond .ne 7, 3) := by decide +kernel
theorem dX2_touchOf_30 : decode cX2_touchOf 30 = .ok (.iconst 1, 1) := by decide +kernel
theorem dX2_touchOf_31 : decode cX2_touchOf 31 = .ok (.goto 4, 3) := by decide +kernel
theorem dX2_touchOf_34 : decode cX2_touchOf 34 = .ok (.iconst 2, 1) := by decide +kernel
theorem dX2_touchOf_35 : decode cX2_touchOf 35 = .ok (.ireturn, 1) := by decide +kernel
theorem dX3_init_0 : decode cX3_init 0 = .ok (.aload_n 0, 1) := by decide +kernel
theorem dX3_init_1 : decode cX3_init 1 = .ok (.invokespecial 3, 3) := by decide +kernel
theorem dX3_init_4 : decode cX3_init 4 = .ok (.aload_n 0, 1) := by decide +kernel
theorem dX3_init_5 : decode cX3_init 5 = .ok (.iconst (-1), 1) := by decide +kernel
theorem dX3_init_6 : decode cX3_init 6 = .ok (.putfield 9, 3) := by decide +kernel
theorem dX3_init_9 : decode cX3_init 9 = .ok (.return_, 1) := by decide +kernel
theorem dX3_take_0 : decode cX3_take 0 = .ok (.aload_n 0, 1) := by decide +kernel
theorem dX3_take_1 : decode cX3_take 1 = .ok (.iload_n 1, 1) := by decide +kernel
theorem dX3_take_2 : decode cX3_take 2 = .ok (.putfield 9, 3) := by decide +kernel
theorem dX3_take_5 : decode cX3_take 5 = .ok (.aload_n 0, 1) := by decide +kernel
theorem dX3_take_6 : decode cX3_take 6 = .ok (.aload_n 2, 1) := by decide +kernel
theorem dX3_take_7 : decode cX3_take 7 = .ok (.putfield 15, 3) := by decide +kernel
theorem dX3_take_10 : decode cX3_take 10 = .ok (.aload_n 0, 1) := by decide +kernel
theorem dX3_take_11 : decode cX3_take 11 = .ok (.aload_n 3, 1) := by decide +kernel
theorem dX3_take_12 : decode cX3_take 12 = .ok (.putfield 19, 3) := by decide +kernel
theorem dX3_take_15 : decode cX3_take 15 = .ok (.aload_n 0, 1) := by decide +kernel
theorem dX3_take_16 : decode cX3_take 16 = .ok (.aload 4, 2) := by decide +kernel
theorem dX3_take_18 : decode cX3_take 18 = .ok (.putfield 23, 3) := by decide +kernel
theorem dX3_take_21 : decode cX3_take 21 = .ok (.aload_n 0, 1) := by decide +kernel
theorem dX3_take_22 : decode cX3_take 22 = .ok (.aconst_null, 1) := by decide +kernel
theorem dX3_take_23 : decode cX3_take 23 = .ok (.putfield 26, 3) := by decide +kernel
theorem dX3_take_26 : decode cX3_take 26 = .ok (.aload_n 0, 1) := by decide +kernel
theorem dX3_take_27 : decode cX3_take 27 = .ok (.iconst 0, 1) := by decide +kernel
theorem dX3_take_28 : decode cX3_take 28 = .ok (.putfield 30, 3) := by decide +kernel
theorem dX3_take_31 : decode cX3_take 31 = .ok (.return_, 1) := by decide +kernel
theorem dX3_empty_0 : decode cX3_empty 0 = .ok (.aload_n 0, 1) := by decide +kernel
theorem dX3_empty_1 : decode cX3_empty 1 = .ok (.iconst (-1), 1) := by decide +kernel
theorem dX3_empty_2 : decode cX3_empty 2 = .ok (.aconst_null, 1) := by decide +kernel
theorem dX3_empty_3 : decode cX3_empty 3 = .ok (.aconst_null, 1) := by decide +kernel
theorem dX3_empty_4 : decode cX3_empty 4 = .ok (.aconst_null, 1) := by decide +kernel
theorem dX3_empty_5 : decode cX3_empty 5 = .ok (.invokevirtual 34, 3) := by decide +kernel
theorem dX3_empty_8 : decode cX3_empty 8 = .ok (.return_, 1) := by decide +kernel
theorem dX3_weaponNumber_0 : decode cX3_weaponNumber 0 = .ok (.iload_n 1, 1) := by decide +kernel
theorem dX3_weaponNumber_1 : decode cX3_weaponNumber 1 = .ok (.ifCond .ne 10, 3) := by decide +kernel
theorem dX3_weaponNumber_4 : decode cX3_weaponNumber 4 = .ok (.aload_n 0, 1) := by decide +kernel
theorem dX3_weaponNumber_5 : decode cX3_weaponNumber 5 = .ok (.getfield 19, 3) := by decide +kernel
theorem dX3_weaponNumber_8 : decode cX3_weaponNumber 8 = .ok (.goto 7, 3) := by decide +kernel
theorem dX3_weaponNumber_11 : decode cX3_weaponNumber 11 = .ok (.aload_n 0, 1) := by decide +kernel
theorem dX3_weaponNumber_12 : decode cX3_weaponNumber 12 = .ok (.getfield 23, 3) := by decide +kernel
theorem dX3_weaponNumber_15 : decode cX3_weaponNumber 15 = .ok (.astore_n 2, 1) := by decide +kernel
theorem dX3_weaponNumber_16 : decode cX3_weaponNumber 16 = .ok (.aload_n 2, 1) := by decide +kernel
theorem dX3_weaponNumber_17 : decode cX3_weaponNumber 17 = .ok (.ifnonnull 7, 3) := by decide +kernel
theorem dX3_weaponNumber_20 : decode cX3_weaponNumber 20 = .ok (.iconst (-1), 1) := by decide +kernel
theorem dX3_weaponNumber_21 : decode cX3_weaponNumber 21 = .ok (.goto 7, 3) := by decide +kernel
theorem dX3_weaponNumber_24 : decode cX3_weaponNumber 24 = .ok (.aload_n 2, 1) := by decide +kernel
theorem dX3_weaponNumber_25 : decode cX3_weaponNumber 25 = .ok (.getfield 38, 3) := by decide +kernel
theorem dX3_weaponNumber_28 : decode cX3_weaponNumber 28 = .ok (.ireturn, 1) := by decide +kernel
theorem dX3_arm_0 : decode cX3_arm 0 = .ok (.iload_n 1, 1) := by decide +kernel
theorem dX3_arm_1 : decode cX3_arm 1 = .ok (.ifCond .ne 11, 3) := by decide +kernel
theorem dX3_arm_4 : decode cX3_arm 4 = .ok (.aload_n 0, 1) := by decide +kernel
theorem dX3_arm_5 : decode cX3_arm 5 = .ok (.aload_n 2, 1) := by decide +kernel
theorem dX3_arm_6 : decode cX3_arm 6 = .ok (.putfield 19, 3) := by decide +kernel
theorem dX3_arm_9 : decode cX3_arm 9 = .ok (.goto 8, 3) := by decide +kernel
theorem dX3_arm_12 : decode cX3_arm 12 = .ok (.aload_n 0, 1) := by decide +kernel
theorem dX3_arm_13 : decode cX3_arm 13 = .ok (.aload_n 2, 1) := by decide +kernel
theorem dX3_arm_14 : decode cX3_arm 14 = .ok (.putfield 23, 3) := by decide +kernel
theorem dX3_arm_17 : decode cX3_arm 17 = .ok (.return_, 1) := by decide +kernel
theorem dX4_init_0 : decode cX4_init 0 = .ok (.aload_n 0, 1) := by decide +kernel
theorem dX4_init_1 : decode cX4_init 1 = .ok (.invokespecial 3, 3) := by decide +kernel
theorem dX4_init_4 : decode cX4_init 4 = .ok (.aload_n 0, 1) := by decide +kernel
theorem dX4_init_5 : decode cX4_init 5 = .ok (.bipush 16, 2) := by decide +kernel
theorem dX4_init_7 : decode cX4_init 7 = .ok (.newarray .int, 2) := by decide +kernel
theorem dX4_init_9 : decode cX4_init 9 = .ok (.putfield 9, 3) := by decide +kernel
theorem dX4_init_12 : decode cX4_init 12 = .ok (.aload_n 0, 1) := by decide +kernel
theorem dX4_init_13 : decode cX4_init 13 = .ok (.bipush 32, 2) := by decide +kernel
theorem dX4_init_15 : decode cX4_init 15 = .ok (.newarray .int, 2) := by decide +kernel
theorem dX4_init_17 : decode cX4_init 17 = .ok (.putfield 15, 3) := by decide +kernel
theorem dX4_init_20 : decode cX4_init 20 = .ok (.aload_n 0, 1) := by decide +kernel
theorem dX4_init_21 : decode cX4_init 21 = .ok (.bipush 16, 2) := by decide +kernel
theorem dX4_init_23 : decode cX4_init 23 = .ok (.anewarray 18, 3) := by decide +kernel
theorem dX4_init_26 : decode cX4_init 26 = .ok (.putfield 20, 3) := by decide +kernel
theorem dX4_init_29 : decode cX4_init 29 = .ok (.return_, 1) := by decide +kernel
theorem dX4_isDrawn_0 : decode cX4_isDrawn 0 = .ok (.aload_n 0, 1) := by decide +kernel
theorem dX4_isDrawn_1 : decode cX4_isDrawn 1 = .ok (.getfield 24, 3) := by decide +kernel
theorem dX4_isDrawn_4 : decode cX4_isDrawn 4 = .ok (.ifCond .le 7, 3) := by decide +kernel
theorem dX4_isDrawn_7 : decode cX4_isDrawn 7 = .ok (.iconst 1, 1) := by decide +kernel
theorem dX4_isDrawn_8 : decode cX4_isDrawn 8 = .ok (.goto 4, 3) := by decide +kernel
theorem dX4_isDrawn_11 : decode cX4_isDrawn 11 = .ok (.iconst 0, 1) := by decide +kernel
theorem dX4_isDrawn_12 : decode cX4_isDrawn 12 = .ok (.ireturn, 1) := by decide +kernel
theorem dX4_hasNode_0 : decode cX4_hasNode 0 = .ok (.iload_n 1, 1) := by decide +kernel
theorem dX4_hasNode_1 : decode cX4_hasNode 1 = .ok (.iconst 1, 1) := by decide +kernel
theorem dX4_hasNode_2 : decode cX4_hasNode 2 = .ok (.if_icmp .lt 23, 3) := by decide +kernel
theorem dX4_hasNode_5 : decode cX4_hasNode 5 = .ok (.iload_n 1, 1) := by decide +kernel
theorem dX4_hasNode_6 : decode cX4_hasNode 6 = .ok (.iconst 2, 1) := by decide +kernel
theorem dX4_hasNode_7 : decode cX4_hasNode 7 = .ok (.aload_n 0, 1) := by decide +kernel
theorem dX4_hasNode_8 : decode cX4_hasNode 8 = .ok (.getfield 24, 3) := by decide +kernel
theorem dX4_hasNode_11 : decode cX4_hasNode 11 = .ok (.imul, 1) := by decide +kernel
theorem dX4_hasNode_12 : decode cX4_hasNode 12 = .ok (.if_icmp .ge 13, 3) := by decide +kernel
theorem dX4_hasNode_15 : decode cX4_hasNode 15 = .ok (.iload_n 1, 1) := by decide +kernel
theorem dX4_hasNode_16 : decode cX4_hasNode 16 = .ok (.bipush 32, 2) := by decide +kernel
theorem dX4_hasNode_18 : decode cX4_hasNode 18 = .ok (.if_icmp .ge 7, 3) := by decide +kernel
theorem dX4_hasNode_21 : decode cX4_hasNode 21 = .ok (.iconst 1, 1) := by decide +kernel
theorem dX4_hasNode_22 : decode cX4_hasNode 22 = .ok (.goto 4, 3) := by decide +kernel
theorem dX4_hasNode_25 : decode cX4_hasNode 25 = .ok (.iconst 0, 1) := by decide +kernel
theorem dX4_hasNode_26 : decode cX4_hasNode 26 = .ok (.ireturn, 1) := by decide +kernel
theorem dX4_winnerAt_0 : decode cX4_winnerAt 0 = .ok (.aload_n 0, 1) := by decide +kernel
theorem dX4_winnerAt_1 : decode cX4_winnerAt 1 = .ok (.iload_n 1, 1) := by decide +kernel
theorem dX4_winnerAt_2 : decode cX4_winnerAt 2 = .ok (.invokevirtual 28, 3) := by decide +kernel
theorem dX4_winnerAt_5 : decode cX4_winnerAt 5 = .ok (.ifCond .eq 12, 3) := by decide +kernel
theorem dX4_winnerAt_8 : decode cX4_winnerAt 8 = .ok (.aload_n 0, 1) := by decide +kernel
theorem dX4_winnerAt_9 : decode cX4_winnerAt 9 = .ok (.getfield 15, 3) := by decide +kernel
theorem dX4_winnerAt_12 : decode cX4_winnerAt 12 = .ok (.iload_n 1, 1) := by decide +kernel
theorem dX4_winnerAt_13 : decode cX4_winnerAt 13 = .ok (.iaload, 1) := by decide +kernel
theorem dX4_winnerAt_14 : decode cX4_winnerAt 14 = .ok (.goto 4, 3) := by decide +kernel
theorem dX4_winnerAt_17 : decode cX4_winnerAt 17 = .ok (.iconst (-1), 1) := by decide +kernel
theorem dX4_winnerAt_18 : decode cX4_winnerAt 18 = .ok (.ireturn, 1) := by decide +kernel
theorem dX4_boutAt_0 : decode cX4_boutAt 0 = .ok (.iload_n 1, 1) := by decide +kernel
theorem dX4_boutAt_1 : decode cX4_boutAt 1 = .ok (.iconst 1, 1) := by decide +kernel
theorem dX4_boutAt_2 : decode cX4_boutAt 2 = .ok (.if_icmp .lt 26, 3) := by decide +kernel
theorem dX4_boutAt_5 : decode cX4_boutAt 5 = .ok (.iload_n 1, 1) := by decide +kernel
theorem dX4_boutAt_6 : decode cX4_boutAt 6 = .ok (.aload_n 0, 1) := by decide +kernel
theorem dX4_boutAt_7 : decode cX4_boutAt 7 = .ok (.getfield 24, 3) := by decide +kernel
theorem dX4_boutAt_10 : decode cX4_boutAt 10 = .ok (.if_icmp .ge 18, 3) := by decide +kernel
theorem dX4_boutAt_13 : decode cX4_boutAt 13 = .ok (.iload_n 1, 1) := by decide +kernel
theorem dX4_boutAt_14 : decode cX4_boutAt 14 = .ok (.bipush 16, 2) := by decide +kernel
theorem dX4_boutAt_16 : decode cX4_boutAt 16 = .ok (.if_icmp .ge 12, 3) := by decide +kernel
theorem dX4_boutAt_19 : decode cX4_boutAt 19 = .ok (.aload_n 0, 1) := by decide +kernel
theorem dX4_boutAt_20 : decode cX4_boutAt 20 = .ok (.getfield 20, 3) := by decide +kernel
theorem dX4_boutAt_23 : decode cX4_boutAt 23 = .ok (.iload_n 1, 1) := by decide +kernel
theorem dX4_boutAt_24 : decode cX4_boutAt 24 = .ok (.aaload, 1) := by decide +kernel
theorem dX4_boutAt_25 : decode cX4_boutAt 25 = .ok (.goto 4, 3) := by decide +kernel
theorem dX4_boutAt_28 : decode cX4_boutAt 28 = .ok (.aconst_null, 1) := by decide +kernel
theorem dX4_boutAt_29 : decode cX4_boutAt 29 = .ok (.areturn, 1) := by decide +kernel
theorem dX4_lay_0 : decode cX4_lay 0 = .ok (.iconst 2, 1) := by decide +kernel
theorem dX4_lay_1 : decode cX4_lay 1 = .ok (.istore_n 2, 1) := by decide +kernel
theorem dX4_lay_2 : decode cX4_lay 2 = .ok (.iload_n 2, 1) := by decide +kernel
theorem dX4_lay_3 : decode cX4_lay 3 = .ok (.iload_n 1, 1) := by decide +kernel
theorem dX4_lay_4 : decode cX4_lay 4 = .ok (.if_icmp .ge 16, 3) := by decide +kernel
theorem dX4_lay_7 : decode cX4_lay 7 = .ok (.iload_n 2, 1) := by decide +kernel
theorem dX4_lay_8 : decode cX4_lay 8 = .ok (.bipush 16, 2) := by decide +kernel
theorem dX4_lay_10 : decode cX4_lay 10 = .ok (.if_icmp .ge 10, 3) := by decide +kernel
theorem dX4_lay_13 : decode cX4_lay 13 = .ok (.iload_n 2, 1) := by decide +kernel
theorem dX4_lay_14 : decode cX4_lay 14 = .ok (.iconst 2, 1) := by decide +kernel
theorem dX4_lay_15 : decode cX4_lay 15 = .ok (.imul, 1) := by decide +kernel
theorem dX4_lay_16 : decode cX4_lay 16 = .ok (.istore_n 2, 1) := by decide +kernel
theorem dX4_lay_17 : decode cX4_lay 17 = .ok (.goto (-15), 3) := by decide +kernel
theorem dX4_lay_20 : decode cX4_lay 20 = .ok (.aload_n 0, 1) := by decide +kernel
theorem dX4_lay_21 : decode cX4_lay 21 = .ok (.iload_n 2, 1) := by decide +kernel
theorem dX4_lay_22 : decode cX4_lay 22 = .ok (.putfield 24, 3) := by decide +kernel
theorem dX4_lay_25 : decode cX4_lay 25 = .ok (.iconst 0, 1) := by decide +kernel
theorem dX4_lay_26 : decode cX4_lay 26 = .ok (.istore_n 3, 1) := by decide +kernel
theorem dX4_lay_27 : decode cX4_lay 27 = .ok (.iload_n 3, 1) := by decide +kernel
theorem dX4_lay_28 : decode cX4_lay 28 = .ok (.bipush 32, 2) := by decide +kernel
theorem dX4_lay_30 : decode cX4_lay 30 = .ok (.if_icmp .ge 16, 3) := by decide +kernel
theorem dX4_lay_33 : decode cX4_lay 33 = .ok (.aload_n 0, 1) := by decide +kernel
theorem dX4_lay_34 : decode cX4_lay 34 = .ok (.getfield 15, 3) := by decide +kernel
theorem dX4_lay_37 : decode cX4_lay 37 = .ok (.iload_n 3, 1) := by decide +kernel
theorem dX4_lay_38 : decode cX4_lay 38 = .ok (.iconst (-1), 1) := by decide +kernel
theorem dX4_lay_39 : decode cX4_lay 39 = .ok (.iastore, 1) := by decide +kernel
theorem dX4_lay_40 : decode cX4_lay 40 = .ok (.iinc 3 1, 3) := by decide +kernel
theorem dX4_lay_43 : decode cX4_lay 43 = .ok (.goto (-16), 3) := by decide +kernel
theorem dX4_lay_46 : decode cX4_lay 46 = .ok (.iconst 1, 1) := by decide +kernel
theorem dX4_lay_47 : decode cX4_lay 47 = .ok (.istore_n 3, 1) := by decide +kernel
theorem dX4_lay_48 : decode cX4_lay 48 = .ok (.iload_n 3, 1) := by decide +kernel
theorem dX4_lay_49 : decode cX4_lay 49 = .ok (.aload_n 0, 1) := by decide +kernel
theorem dX4_lay_50 : decode cX4_lay 50 = .ok (.getfield 24, 3) := by decide +kernel
theorem dX4_lay_53 : decode cX4_lay 53 = .ok (.if_icmp .ge 31, 3) := by decide +kernel
theorem dX4_lay_56 : decode cX4_lay 56 = .ok (.iload_n 3, 1) := by decide +kernel
theorem dX4_lay_57 : decode cX4_lay 57 = .ok (.bipush 16, 2) := by decide +kernel
theorem dX4_lay_59 : decode cX4_lay 59 = .ok (.if_icmp .ge 25, 3) := by decide +kernel
theorem dX4_lay_62 : decode cX4_lay 62 = .ok (.aload_n 0, 1) := by decide +kernel
theorem dX4_lay_63 : decode cX4_lay 63 = .ok (.getfield 20, 3) := by decide +kernel
theorem dX4_lay_66 : decode cX4_lay 66 = .ok (.iload_n 3, 1) := by decide +kernel
theorem dX4_lay_67 : decode cX4_lay 67 = .ok (.new 18, 3) := by decide +kernel
theorem dX4_lay_70 : decode cX4_lay 70 = .ok (.dup, 1) := by decide +kernel
theorem dX4_lay_71 : decode cX4_lay 71 = .ok (.iconst 0, 1) := by decide +kernel
theorem dX4_lay_72 : decode cX4_lay 72 = .ok (.iconst (-1), 1) := by decide +kernel
theorem dX4_lay_73 : decode cX4_lay 73 = .ok (.iconst (-1), 1) := by decide +kernel
theorem dX4_lay_74 : decode cX4_lay 74 = .ok (.invokespecial 32, 3) := by decide +kernel
theorem dX4_lay_77 : decode cX4_lay 77 = .ok (.aastore, 1) := by decide +kernel
theorem dX4_lay_78 : decode cX4_lay 78 = .ok (.iinc 3 1, 3) := by decide +kernel
theorem dX4_lay_81 : decode cX4_lay 81 = .ok (.goto (-33), 3) := by decide +kernel
theorem dX4_lay_84 : decode cX4_lay 84 = .ok (.aload_n 0, 1) := by decide +kernel
theorem dX4_lay_85 : decode cX4_lay 85 = .ok (.invokevirtual 35, 3) := by decide +kernel
theorem dX4_lay_88 : decode cX4_lay 88 = .ok (.return_, 1) := by decide +kernel
theorem dX4_laySeeds_0 : decode cX4_laySeeds 0 = .ok (.aload_n 0, 1) := by decide +kernel
theorem dX4_laySeeds_1 : decode cX4_laySeeds 1 = .ok (.getfield 9, 3) := by decide +kernel
theorem dX4_laySeeds_4 : decode cX4_laySeeds 4 = .ok (.iconst 0, 1) := by decide +kernel
theorem dX4_laySeeds_5 : decode cX4_laySeeds 5 = .ok (.iconst 1, 1) := by decide +kernel
theorem dX4_laySeeds_6 : decode cX4_laySeeds 6 = .ok (.iastore, 1) := by decide +kernel
theorem dX4_laySeeds_7 : decode cX4_laySeeds 7 = .ok (.aload_n 0, 1) := by decide +kernel
theorem dX4_laySeeds_8 : decode cX4_laySeeds 8 = .ok (.getfield 9, 3) := by decide +kernel
theorem dX4_laySeeds_11 : decode cX4_laySeeds 11 = .ok (.iconst 1, 1) := by decide +kernel
theorem dX4_laySeeds_12 : decode cX4_laySeeds 12 = .ok (.iconst 2, 1) := by decide +kernel
theorem dX4_laySeeds_13 : decode cX4_laySeeds 13 = .ok (.iastore, 1) := by decide +kernel
theorem dX4_laySeeds_14 : decode cX4_laySeeds 14 = .ok (.iconst 2, 1) := by decide +kernel
theorem dX4_laySeeds_15 : decode cX4_laySeeds 15 = .ok (.istore_n 1, 1) := by decide +kernel
theorem dX4_laySeeds_16 : decode cX4_laySeeds 16 = .ok (.iload_n 1, 1) := by decide +kernel
theorem dX4_laySeeds_17 : decode cX4_laySeeds 17 = .ok (.aload_n 0, 1) := by decide +kernel
theorem dX4_laySeeds_18 : decode cX4_laySeeds 18 = .ok (.getfield 24, 3) := by decide +kernel
theorem dX4_laySeeds_21 : decode cX4_laySeeds 21 = .ok (.if_icmp .ge 65, 3) := by decide +kernel
theorem dX4_laySeeds_24 : decode cX4_laySeeds 24 = .ok (.iconst 2, 1) := by decide +kernel
theorem dX4_laySeeds_25 : decode cX4_laySeeds 25 = .ok (.iload_n 1, 1) := by decide +kernel
theorem dX4_laySeeds_26 : decode cX4_laySeeds 26 = .ok (.imul, 1) := by decide +kernel
theorem dX4_laySeeds_27 : decode cX4_laySeeds 27 = .ok (.bipush 16, 2) := by decide +kernel
theorem dX4_laySeeds_29 : decode cX4_laySeeds 29 = .ok (.if_icmp .gt 57, 3) := by decide +kernel
theorem dX4_laySeeds_32 : decode cX4_laySeeds 32 = .ok (.iload_n 1, 1) := by decide +kernel
theorem dX4_laySeeds_33 : decode cX4_laySeeds 33 = .ok (.iconst 1, 1) := by decide +kernel
theorem dX4_laySeeds_34 : decode cX4_laySeeds 34 = .ok (.isub, 1) := by decide +kernel
theorem dX4_laySeeds_35 : decode cX4_laySeeds 35 = .ok (.istore_n 2, 1) := by decide +kernel
theorem dX4_laySeeds_36 : decode cX4_laySeeds 36 = .ok (.iload_n 2, 1) := by decide +kernel
theorem dX4_laySeeds_37 : decode cX4_laySeeds 37 = .ok (.ifCond .lt 42, 3) := by decide +kernel
theorem dX4_laySeeds_40 : decode cX4_laySeeds 40 = .ok (.aload_n 0, 1) := by decide +kernel
theorem dX4_laySeeds_41 : decode cX4_laySeeds 41 = .ok (.getfield 9, 3) := by decide +kernel
theorem dX4_laySeeds_44 : decode cX4_laySeeds 44 = .ok (.iload_n 2, 1) := by decide +kernel
theorem dX4_laySeeds_45 : decode cX4_laySeeds 45 = .ok (.iaload, 1) := by decide +kernel
theorem dX4_laySeeds_46 : decode cX4_laySeeds 46 = .ok (.istore_n 3, 1) := by decide +kernel
theorem dX4_laySeeds_47 : decode cX4_laySeeds 47 = .ok (.aload_n 0, 1) := by decide +kernel
theorem dX4_laySeeds_48 : decode cX4_laySeeds 48 = .ok (.getfield 9, 3) := by decide +kernel
theorem dX4_laySeeds_51 : decode cX4_laySeeds 51 = .ok (.iconst 2, 1) := by decide +kernel
theorem dX4_laySeeds_52 : decode cX4_laySeeds 52 = .ok (.iload_n 2, 1) := by decide +kernel
theorem dX4_laySeeds_53 : decode cX4_laySeeds 53 = .ok (.imul, 1) := by decide +kernel
theorem dX4_laySeeds_54 : decode cX4_laySeeds 54 = .ok (.iload_n 3, 1) := by decide +kernel
theorem dX4_laySeeds_55 : decode cX4_laySeeds 55 = .ok (.iastore, 1) := by decide +kernel
theorem dX4_laySeeds_56 : decode cX4_laySeeds 56 = .ok (.aload_n 0, 1) := by decide +kernel
theorem dX4_laySeeds_57 : decode cX4_laySeeds 57 = .ok (.getfield 9, 3) := by decide +kernel
theorem dX4_laySeeds_60 : decode cX4_laySeeds 60 = .ok (.iconst 2, 1) := by decide +kernel
theorem dX4_laySeeds_61 : decode cX4_laySeeds 61 = .ok (.iload_n 2, 1) := by decide +kernel
theorem dX4_laySeeds_62 : decode cX4_laySeeds 62 = .ok (.imul, 1) := by decide +kernel
theorem dX4_laySeeds_63 : decode cX4_laySeeds 63 = .ok (.iconst 1, 1) := by decide +kernel
theorem dX4_laySeeds_64 : decode cX4_laySeeds 64 = .ok (.iadd, 1) := by decide +kernel
theorem dX4_laySeeds_65 : decode cX4_laySeeds 65 = .ok (.iconst 2, 1) := by decide +kernel
theorem dX4_laySeeds_66 : decode cX4_laySeeds 66 = .ok (.iload_n 1, 1) := by decide +kernel
theorem dX4_laySeeds_67 : decode cX4_laySeeds 67 = .ok (.imul, 1) := by decide +kernel
theorem dX4_laySeeds_68 : decode cX4_laySeeds 68 = .ok (.iconst 1, 1) := by decide +kernel
theorem dX4_laySeeds_69 : decode cX4_laySeeds 69 = .ok (.iadd, 1) := by decide +kernel
theorem dX4_laySeeds_70 : decode cX4_laySeeds 70 = .ok (.iload_n 3, 1) := by decide +kernel
theorem dX4_laySeeds_71 : decode cX4_laySeeds 71 = .ok (.isub, 1) := by decide +kernel
theorem dX4_laySeeds_72 : decode cX4_laySeeds 72 = .ok (.iastore, 1) := by decide +kernel
theorem dX4_laySeeds_73 : decode cX4_laySeeds 73 = .ok (.iinc 2 (-1), 3) := by decide +kernel
theorem dX4_laySeeds_76 : decode cX4_laySeeds 76 = .ok (.goto (-40), 3) := by decide +kernel
theorem dX4_laySeeds_79 : decode cX4_laySeeds 79 = .ok (.iload_n 1, 1) := by decide +kernel
theorem dX4_laySeeds_80 : decode cX4_laySeeds 80 = .ok (.iconst 2, 1) := by decide +kernel
theorem dX4_laySeeds_81 : decode cX4_laySeeds 81 = .ok (.imul, 1) := by decide +kernel
theorem dX4_laySeeds_82 : decode cX4_laySeeds 82 = .ok (.istore_n 1, 1) := by decide +kernel
theorem dX4_laySeeds_83 : decode cX4_laySeeds 83 = .ok (.goto (-67), 3) := by decide +kernel
theorem dX4_laySeeds_86 : decode cX4_laySeeds 86 = .ok (.return_, 1) := by decide +kernel
theorem dX4_seat_0 : decode cX4_seat 0 = .ok (.iconst 0, 1) := by decide +kernel
theorem dX4_seat_1 : decode cX4_seat 1 = .ok (.istore_n 3, 1) := by decide +kernel
theorem dX4_seat_2 : decode cX4_seat 2 = .ok (.iload_n 3, 1) := by decide +kernel
theorem dX4_seat_3 : decode cX4_seat 3 = .ok (.aload_n 0, 1) := by decide +kernel
theorem dX4_seat_4 : decode cX4_seat 4 = .ok (.getfield 24, 3) := by decide +kernel
theorem dX4_seat_7 : decode cX4_seat 7 = .ok (.if_icmp .ge 37, 3) := by decide +kernel
theorem dX4_seat_10 : decode cX4_seat 10 = .ok (.iload_n 3, 1) := by decide +kernel
theorem dX4_seat_11 : decode cX4_seat 11 = .ok (.bipush 16, 2) := by decide +kernel
theorem dX4_seat_13 : decode cX4_seat 13 = .ok (.if_icmp .ge 31, 3) := by decide +kernel
theorem dX4_seat_16 : decode cX4_seat 16 = .ok (.aload_n 0, 1) := by decide +kernel
theorem dX4_seat_17 : decode cX4_seat 17 = .ok (.getfield 9, 3) := by decide +kernel
theorem dX4_seat_20 : decode cX4_seat 20 = .ok (.iload_n 3, 1) := by decide +kernel
theorem dX4_seat_21 : decode cX4_seat 21 = .ok (.iaload, 1) := by decide +kernel
theorem dX4_seat_22 : decode cX4_seat 22 = .ok (.iload_n 1, 1) := by decide +kernel
theorem dX4_seat_23 : decode cX4_seat 23 = .ok (.if_icmp .ne 15, 3) := by decide +kernel
theorem dX4_seat_26 : decode cX4_seat 26 = .ok (.aload_n 0, 1) := by decide +kernel
theorem dX4_seat_27 : decode cX4_seat 27 = .ok (.getfield 15, 3) := by decide +kernel
theorem dX4_seat_30 : decode cX4_seat 30 = .ok (.aload_n 0, 1) := by decide +kernel
theorem dX4_seat_31 : decode cX4_seat 31 = .ok (.getfield 24, 3) := by decide +kernel
theorem dX4_seat_34 : decode cX4_seat 34 = .ok (.iload_n 3, 1) := by decide +kernel
theorem dX4_seat_35 : decode cX4_seat 35 = .ok (.iadd, 1) := by decide +kernel
theorem dX4_seat_36 : decode cX4_seat 36 = .ok (.iload_n 2, 1) := by decide +kernel
theorem dX4_seat_37 : decode cX4_seat 37 = .ok (.iastore, 1) := by decide +kernel
theorem dX4_seat_38 : decode cX4_seat 38 = .ok (.iinc 3 1, 3) := by decide +kernel
theorem dX4_seat_41 : decode cX4_seat 41 = .ok (.goto (-39), 3) := by decide +kernel
theorem dX4_seat_44 : decode cX4_seat 44 = .ok (.return_, 1) := by decide +kernel
theorem dX4_recount_0 : decode cX4_recount 0 = .ok (.iconst 1, 1) := by decide +kernel
theorem dX4_recount_1 : decode cX4_recount 1 = .ok (.istore_n 1, 1) := by decide +kernel
theorem dX4_recount_2 : decode cX4_recount 2 = .ok (.iload_n 1, 1) := by decide +kernel
theorem dX4_recount_3 : decode cX4_recount 3 = .ok (.aload_n 0, 1) := by decide +kernel
theorem dX4_recount_4 : decode cX4_recount 4 = .ok (.getfield 24, 3) := by decide +kernel
theorem dX4_recount_7 : decode cX4_recount 7 = .ok (.if_icmp .ge 23, 3) := by decide +kernel
theorem dX4_recount_10 : decode cX4_recount 10 = .ok (.aload_n 0, 1) := by decide +kernel
theorem dX4_recount_11 : decode cX4_recount 11 = .ok (.iload_n 1, 1) := by decide +kernel
theorem dX4_recount_12 : decode cX4_recount 12 = .ok (.invokevirtual 38, 3) := by decide +kernel
theorem dX4_recount_15 : decode cX4_recount 15 = .ok (.astore_n 2, 1) := by decide +kernel
theorem dX4_recount_16 : decode cX4_recount 16 = .ok (.aload_n 2, 1) := by decide +kernel
theorem dX4_recount_17 : decode cX4_recount 17 = .ok (.ifnull 7, 3) := by decide +kernel
theorem dX4_recount_20 : decode cX4_recount 20 = .ok (.aload_n 2, 1) := by decide +kernel
theorem dX4_recount_21 : decode cX4_recount 21 = .ok (.invokevirtual 42, 3) := by decide +kernel
theorem dX4_recount_24 : decode cX4_recount 24 = .ok (.iinc 1 1, 3) := by decide +kernel
theorem dX4_recount_27 : decode cX4_recount 27 = .ok (.goto (-25), 3) := by decide +kernel
theorem dX4_recount_30 : decode cX4_recount 30 = .ok (.return_, 1) := by decide +kernel
theorem dX4_settle_0 : decode cX4_settle 0 = .ok (.aload_n 0, 1) := by decide +kernel
theorem dX4_settle_1 : decode cX4_settle 1 = .ok (.getfield 24, 3) := by decide +kernel
theorem dX4_settle_4 : decode cX4_settle 4 = .ok (.iconst 1, 1) := by decide +kernel
theorem dX4_settle_5 : decode cX4_settle 5 = .ok (.isub, 1) := by decide +kernel
theorem dX4_settle_6 : decode cX4_settle 6 = .ok (.istore_n 2, 1) := by decide +kernel
theorem dX4_settle_7 : decode cX4_settle 7 = .ok (.iload_n 2, 1) := by decide +kernel
theorem dX4_settle_8 : decode cX4_settle 8 = .ok (.iconst 1, 1) := by decide +kernel
theorem dX4_settle_9 : decode cX4_settle 9 = .ok (.if_icmp .lt 100, 3) := by decide +kernel
theorem dX4_settle_12 : decode cX4_settle 12 = .ok (.aload_n 0, 1) := by decide +kernel
theorem dX4_settle_13 : decode cX4_settle 13 = .ok (.iload_n 2, 1) := by decide +kernel
theorem dX4_settle_14 : decode cX4_settle 14 = .ok (.invokevirtual 38, 3) := by decide +kernel
theorem dX4_settle_17 : decode cX4_settle 17 = .ok (.astore_n 3, 1) := by decide +kernel
theorem dX4_settle_18 : decode cX4_settle 18 = .ok (.aload_n 3, 1) := by decide +kernel
theorem dX4_settle_19 : decode cX4_settle 19 = .ok (.ifnull 84, 3) := by decide +kernel
theorem dX4_settle_22 : decode cX4_settle 22 = .ok (.aload_n 0, 1) := by decide +kernel
theorem dX4_settle_23 : decode cX4_settle 23 = .ok (.iload_n 2, 1) := by decide +kernel
theorem dX4_settle_24 : decode cX4_settle 24 = .ok (.invokevirtual 28, 3) := by decide +kernel
theorem dX4_settle_27 : decode cX4_settle 27 = .ok (.ifCond .eq 76, 3) := by decide +kernel
theorem dX4_settle_30 : decode cX4_settle 30 = .ok (.aload_n 3, 1) := by decide +kernel
theorem dX4_settle_31 : decode cX4_settle 31 = .ok (.aload_n 0, 1) := by decide +kernel
theorem dX4_settle_32 : decode cX4_settle 32 = .ok (.iconst 2, 1) := by decide +kernel
theorem dX4_settle_33 : decode cX4_settle 33 = .ok (.iload_n 2, 1) := by decide +kernel
theorem dX4_settle_34 : decode cX4_settle 34 = .ok (.imul, 1) := by decide +kernel
theorem dX4_settle_35 : decode cX4_settle 35 = .ok (.invokevirtual 45, 3) := by decide +kernel
theorem dX4_settle_38 : decode cX4_settle 38 = .ok (.putfield 49, 3) := by decide +kernel
theorem dX4_settle_41 : decode cX4_settle 41 = .ok (.aload_n 3, 1) := by decide +kernel
theorem dX4_settle_42 : decode cX4_settle 42 = .ok (.aload_n 0, 1) := by decide +kernel
theorem dX4_settle_43 : decode cX4_settle 43 = .ok (.iconst 2, 1) := by decide +kernel
theorem dX4_settle_44 : decode cX4_settle 44 = .ok (.iload_n 2, 1) := by decide +kernel
theorem dX4_settle_45 : decode cX4_settle 45 = .ok (.imul, 1) := by decide +kernel
theorem dX4_settle_46 : decode cX4_settle 46 = .ok (.iconst 1, 1) := by decide +kernel
theorem dX4_settle_47 : decode cX4_settle 47 = .ok (.iadd, 1) := by decide +kernel
theorem dX4_settle_48 : decode cX4_settle 48 = .ok (.invokevirtual 45, 3) := by decide +kernel
theorem dX4_settle_51 : decode cX4_settle 51 = .ok (.putfield 52, 3) := by decide +kernel
theorem dX4_settle_54 : decode cX4_settle 54 = .ok (.aload_n 0, 1) := by decide +kernel
theorem dX4_settle_55 : decode cX4_settle 55 = .ok (.getfield 15, 3) := by decide +kernel
theorem dX4_settle_58 : decode cX4_settle 58 = .ok (.iload_n 2, 1) := by decide +kernel
theorem dX4_settle_59 : decode cX4_settle 59 = .ok (.iaload, 1) := by decide +kernel
theorem dX4_settle_60 : decode cX4_settle 60 = .ok (.istore 4, 2) := by decide +kernel
theorem dX4_settle_62 : decode cX4_settle 62 = .ok (.aload_n 0, 1) := by decide +kernel
theorem dX4_settle_63 : decode cX4_settle 63 = .ok (.getfield 15, 3) := by decide +kernel
theorem dX4_settle_66 : decode cX4_settle 66 = .ok (.iload_n 2, 1) := by decide +kernel
theorem dX4_settle_67 : decode cX4_settle 67 = .ok (.aload_n 0, 1) := by decide +kernel
theorem dX4_settle_68 : decode cX4_settle 68 = .ok (.iload_n 2, 1) := by decide +kernel
theorem dX4_settle_69 : decode cX4_settle 69 = .ok (.aload_n 3, 1) := by decide +kernel
theorem dX4_settle_70 : decode cX4_settle 70 = .ok (.invokevirtual 55, 3) := by decide +kernel
theorem dX4_settle_73 : decode cX4_settle 73 = .ok (.iastore, 1) := by decide +kernel
theorem dX4_settle_74 : decode cX4_settle 74 = .ok (.iload 4, 2) := by decide +kernel
theorem dX4_settle_76 : decode cX4_settle 76 = .ok (.iconst (-1), 1) := by decide +kernel
theorem dX4_settle_77 : decode cX4_settle 77 = .ok (.if_icmp .eq 26, 3) := by decide +kernel
theorem dX4_settle_80 : decode cX4_settle 80 = .ok (.iload 4, 2) := by decide +kernel
theorem dX4_settle_82 : decode cX4_settle 82 = .ok (.aload_n 0, 1) := by decide +kernel
theorem dX4_settle_83 : decode cX4_settle 83 = .ok (.getfield 15, 3) := by decide +kernel
theorem dX4_settle_86 : decode cX4_settle 86 = .ok (.iload_n 2, 1) := by decide +kernel
theorem dX4_settle_87 : decode cX4_settle 87 = .ok (.iaload, 1) := by decide +kernel
theorem dX4_settle_88 : decode cX4_settle 88 = .ok (.if_icmp .eq 15, 3) := by decide +kernel
theorem dX4_settle_91 : decode cX4_settle 91 = .ok (.aload_n 0, 1) := by decide +kernel
theorem dX4_settle_92 : decode cX4_settle 92 = .ok (.aload_n 0, 1) := by decide +kernel
theorem dX4_settle_93 : decode cX4_settle 93 = .ok (.iload_n 2, 1) := by decide +kernel
theorem dX4_settle_94 : decode cX4_settle 94 = .ok (.iconst 2, 1) := by decide +kernel
theorem dX4_settle_95 : decode cX4_settle 95 = .ok (.idiv, 1) := by decide +kernel
theorem dX4_settle_96 : decode cX4_settle 96 = .ok (.invokevirtual 38, 3) := by decide +kernel
theorem dX4_settle_99 : decode cX4_settle 99 = .ok (.aload_n 1, 1) := by decide +kernel
theorem dX4_settle_100 : decode cX4_settle 100 = .ok (.invokevirtual 59, 3) := by decide +kernel
theorem dX4_settle_103 : decode cX4_settle 103 = .ok (.iinc 2 (-1), 3) := by decide +kernel
theorem dX4_settle_106 : decode cX4_settle 106 = .ok (.goto (-99), 3) := by decide +kernel
theorem dX4_settle_109 : decode cX4_settle 109 = .ok (.return_, 1) := by decide +kernel
theorem dX4_winnerNow_0 : decode cX4_winnerNow 0 = .ok (.iconst 2, 1) := by decide +kernel
theorem dX4_winnerNow_1 : decode cX4_winnerNow 1 = .ok (.iload_n 1, 1) := by decide +kernel
theorem dX4_winnerNow_2 : decode cX4_winnerNow 2 = .ok (.imul, 1) := by decide +kernel
theorem dX4_winnerNow_3 : decode cX4_winnerNow 3 = .ok (.aload_n 0, 1) := by decide +kernel
theorem dX4_winnerNow_4 : decode cX4_winnerNow 4 = .ok (.getfield 24, 3) := by decide +kernel
theorem dX4_winnerNow_7 : decode cX4_winnerNow 7 = .ok (.if_icmp .lt 7, 3) := by decide +kernel
theorem dX4_winnerNow_10 : decode cX4_winnerNow 10 = .ok (.iconst 1, 1) := by decide +kernel
theorem dX4_winnerNow_11 : decode cX4_winnerNow 11 = .ok (.goto 4, 3) := by decide +kernel
theorem dX4_winnerNow_14 : decode cX4_winnerNow 14 = .ok (.iconst 0, 1) := by decide +kernel
theorem dX4_winnerNow_15 : decode cX4_winnerNow 15 = .ok (.istore_n 3, 1) := by decide +kernel
theorem dX4_winnerNow_16 : decode cX4_winnerNow 16 = .ok (.iload_n 3, 1) := by decide +kernel
theorem dX4_winnerNow_17 : decode cX4_winnerNow 17 = .ok (.ifCond .eq 16, 3) := by decide +kernel
theorem dX4_winnerNow_20 : decode cX4_winnerNow 20 = .ok (.aload_n 2, 1) := by decide +kernel
theorem dX4_winnerNow_21 : decode cX4_winnerNow 21 = .ok (.getfield 49, 3) := by decide +kernel
theorem dX4_winnerNow_24 : decode cX4_winnerNow 24 = .ok (.iconst (-1), 1) := by decide +kernel
theorem dX4_winnerNow_25 : decode cX4_winnerNow 25 = .ok (.if_icmp .ne 8, 3) := by decide +kernel
theorem dX4_winnerNow_28 : decode cX4_winnerNow 28 = .ok (.aload_n 2, 1) := by decide +kernel
theorem dX4_winnerNow_29 : decode cX4_winnerNow 29 = .ok (.getfield 52, 3) := by decide +kernel
theorem dX4_winnerNow_32 : decode cX4_winnerNow 32 = .ok (.ireturn, 1) := by decide +kernel
theorem dX4_winnerNow_33 : decode cX4_winnerNow 33 = .ok (.iload_n 3, 1) := by decide +kernel
theorem dX4_winnerNow_34 : decode cX4_winnerNow 34 = .ok (.ifCond .eq 16, 3) := by decide +kernel
theorem dX4_winnerNow_37 : decode cX4_winnerNow 37 = .ok (.aload_n 2, 1) := by decide +kernel
theorem dX4_winnerNow_38 : decode cX4_winnerNow 38 = .ok (.getfield 52, 3) := by decide +kernel
theorem dX4_winnerNow_41 : decode cX4_winnerNow 41 = .ok (.iconst (-1), 1) := by decide +kernel
theorem dX4_winnerNow_42 : decode cX4_winnerNow 42 = .ok (.if_icmp .ne 8, 3) := by decide +kernel
theorem dX4_winnerNow_45 : decode cX4_winnerNow 45 = .ok (.aload_n 2, 1) := by decide +kernel
theorem dX4_winnerNow_46 : decode cX4_winnerNow 46 = .ok (.getfield 49, 3) := by decide +kernel
theorem dX4_winnerNow_49 : decode cX4_winnerNow 49 = .ok (.ireturn, 1) := by decide +kernel
theorem dX4_winnerNow_50 : decode cX4_winnerNow 50 = .ok (.aload_n 2, 1) := by decide +kernel
theorem dX4_winnerNow_51 : decode cX4_winnerNow 51 = .ok (.invokevirtual 63, 3) := by decide +kernel
theorem dX4_winnerNow_54 : decode cX4_winnerNow 54 = .ok (.ireturn, 1) := by decide +kernel
theorem dX4_drop_0 : decode cX4_drop 0 = .ok (.aload_n 1, 1) := by decide +kernel
theorem dX4_drop_1 : decode cX4_drop 1 = .ok (.ifnonnull 4, 3) := by decide +kernel
theorem dX4_drop_4 : decode cX4_drop 4 = .ok (.return_, 1) := by decide +kernel
theorem dX4_drop_5 : decode cX4_drop 5 = .ok (.aload_n 1, 1) := by decide +kernel
theorem dX4_drop_6 : decode cX4_drop 6 = .ok (.getfield 67, 3) := by decide +kernel
theorem dX4_drop_9 : decode cX4_drop 9 = .ok (.ifCond .le 13, 3) := by decide +kernel
theorem dX4_drop_12 : decode cX4_drop 12 = .ok (.aload_n 0, 1) := by decide +kernel
theorem dX4_drop_13 : decode cX4_drop 13 = .ok (.dup, 1) := by decide +kernel
theorem dX4_drop_14 : decode cX4_drop 14 = .ok (.getfield 70, 3) := by decide +kernel
theorem dX4_drop_17 : decode cX4_drop 17 = .ok (.iconst 1, 1) := by decide +kernel
theorem dX4_drop_18 : decode cX4_drop 18 = .ok (.iadd, 1) := by decide +kernel
theorem dX4_drop_19 : decode cX4_drop 19 = .ok (.putfield 70, 3) := by decide +kernel
theorem dX4_drop_22 : decode cX4_drop 22 = .ok (.aload_n 1, 1) := by decide +kernel
theorem dX4_drop_23 : decode cX4_drop 23 = .ok (.invokevirtual 73, 3) := by decide +kernel
theorem dX4_drop_26 : decode cX4_drop 26 = .ok (.aload_n 2, 1) := by decide +kernel
theorem dX4_drop_27 : decode cX4_drop 27 = .ok (.getfield 76, 3) := by decide +kernel
theorem dX4_drop_30 : decode cX4_drop 30 = .ok (.aload_n 1, 1) := by decide +kernel
theorem dX4_drop_31 : decode cX4_drop 31 = .ok (.if_acmp .ne 7, 3) := by decide +kernel
theorem dX4_drop_34 : decode cX4_drop 34 = .ok (.aload_n 2, 1) := by decide +kernel
theorem dX4_drop_35 : decode cX4_drop 35 = .ok (.invokevirtual 82, 3) := by decide +kernel
theorem dX4_drop_38 : decode cX4_drop 38 = .ok (.return_, 1) := by decide +kernel
theorem dX5_init_0 : decode cX5_init 0 = .ok (.aload_n 0, 1) := by decide +kernel
theorem dX5_init_1 : decode cX5_init 1 = .ok (.invokespecial 3, 3) := by decide +kernel
theorem dX5_init_4 : decode cX5_init 4 = .ok (.return_, 1) := by decide +kernel
theorem dX5_restart_0 : decode cX5_restart 0 = .ok (.aload_n 0, 1) := by decide +kernel
theorem dX5_restart_1 : decode cX5_restart 1 = .ok (.iload_n 1, 1) := by decide +kernel
theorem dX5_restart_2 : decode cX5_restart 2 = .ok (.putfield 9, 3) := by decide +kernel
theorem dX5_restart_5 : decode cX5_restart 5 = .ok (.aload_n 0, 1) := by decide +kernel
theorem dX5_restart_6 : decode cX5_restart 6 = .ok (.iconst 0, 1) := by decide +kernel
theorem dX5_restart_7 : decode cX5_restart 7 = .ok (.putfield 15, 3) := by decide +kernel
theorem dX5_restart_10 : decode cX5_restart 10 = .ok (.aload_n 0, 1) := by decide +kernel
theorem dX5_restart_11 : decode cX5_restart 11 = .ok (.iconst 0, 1) := by decide +kernel
theorem dX5_restart_12 : decode cX5_restart 12 = .ok (.putfield 18, 3) := by decide +kernel
theorem dX5_restart_15 : decode cX5_restart 15 = .ok (.return_, 1) := by decide +kernel
theorem dX5_isAtGoal_0 : decode cX5_isAtGoal 0 = .ok (.aload_n 0, 1) := by decide +kernel
theorem dX5_isAtGoal_1 : decode cX5_isAtGoal 1 = .ok (.getfield 15, 3) := by decide +kernel
theorem dX5_isAtGoal_4 : decode cX5_isAtGoal 4 = .ok (.aload_n 0, 1) := by decide +kernel
theorem dX5_isAtGoal_5 : decode cX5_isAtGoal 5 = .ok (.getfield 9, 3) := by decide +kernel
theorem dX5_isAtGoal_8 : decode cX5_isAtGoal 8 = .ok (.if_icmp .ge 14, 3) := by decide +kernel
theorem dX5_isAtGoal_11 : decode cX5_isAtGoal 11 = .ok (.aload_n 0, 1) := by decide +kernel
theorem dX5_isAtGoal_12 : decode cX5_isAtGoal 12 = .ok (.getfield 18, 3) := by decide +kernel
theorem dX5_isAtGoal_15 : decode cX5_isAtGoal 15 = .ok (.aload_n 0, 1) := by decide +kernel
theorem dX5_isAtGoal_16 : decode cX5_isAtGoal 16 = .ok (.getfield 9, 3) := by decide +kernel
theorem dX5_isAtGoal_19 : decode cX5_isAtGoal 19 = .ok (.if_icmp .lt 7, 3) := by decide +kernel
theorem dX5_isAtGoal_22 : decode cX5_isAtGoal 22 = .ok (.iconst 1, 1) := by decide +kernel
theorem dX5_isAtGoal_23 : decode cX5_isAtGoal 23 = .ok (.goto 4, 3) := by decide +kernel
theorem dX5_isAtGoal_26 : decode cX5_isAtGoal 26 = .ok (.iconst 0, 1) := by decide +kernel
theorem dX5_isAtGoal_27 : decode cX5_isAtGoal 27 = .ok (.ireturn, 1) := by decide +kernel
theorem dX5_add_0 : decode cX5_add 0 = .ok (.aload_n 0, 1) := by decide +kernel
theorem dX5_add_1 : decode cX5_add 1 = .ok (.invokevirtual 21, 3) := by decide +kernel
theorem dX5_add_4 : decode cX5_add 4 = .ok (.ifCond .eq 4, 3) := by decide +kernel
theorem dX5_add_7 : decode cX5_add 7 = .ok (.return_, 1) := by decide +kernel
theorem dX5_add_8 : decode cX5_add 8 = .ok (.aload_n 0, 1) := by decide +kernel
theorem dX5_add_9 : decode cX5_add 9 = .ok (.getfield 15, 3) := by decide +kernel
theorem dX5_add_12 : decode cX5_add 12 = .ok (.iload_n 1, 1) := by decide +kernel
theorem dX5_add_13 : decode cX5_add 13 = .ok (.iconst 1, 1) := by decide +kernel
theorem dX5_add_14 : decode cX5_add 14 = .ok (.iand, 1) := by decide +kernel
theorem dX5_add_15 : decode cX5_add 15 = .ok (.ifCond .eq 7, 3) := by decide +kernel
theorem dX5_add_18 : decode cX5_add 18 = .ok (.iconst 1, 1) := by decide +kernel
theorem dX5_add_19 : decode cX5_add 19 = .ok (.goto 4, 3) := by decide +kernel
theorem dX5_add_22 : decode cX5_add 22 = .ok (.iconst 0, 1) := by decide +kernel
theorem dX5_add_23 : decode cX5_add 23 = .ok (.iadd, 1) := by decide +kernel
theorem dX5_add_24 : decode cX5_add 24 = .ok (.istore_n 2, 1) := by decide +kernel
theorem dX5_add_25 : decode cX5_add 25 = .ok (.aload_n 0, 1) := by decide +kernel
theorem dX5_add_26 : decode cX5_add 26 = .ok (.getfield 18, 3) := by decide +kernel
theorem dX5_add_29 : decode cX5_add 29 = .ok (.iload_n 1, 1) := by decide +kernel
theorem dX5_add_30 : decode cX5_add 30 = .ok (.iconst 2, 1) := by decide +kernel
theorem dX5_add_31 : decode cX5_add 31 = .ok (.iand, 1) := by decide +kernel
theorem dX5_add_32 : decode cX5_add 32 = .ok (.ifCond .eq 7, 3) := by decide +kernel
theorem dX5_add_35 : decode cX5_add 35 = .ok (.iconst 1, 1) := by decide +kernel
theorem dX5_add_36 : decode cX5_add 36 = .ok (.goto 4, 3) := by decide +kernel
theorem dX5_add_39 : decode cX5_add 39 = .ok (.iconst 0, 1) := by decide +kernel
theorem dX5_add_40 : decode cX5_add 40 = .ok (.iadd, 1) := by decide +kernel
theorem dX5_add_41 : decode cX5_add 41 = .ok (.istore_n 3, 1) := by decide +kernel
theorem dX5_add_42 : decode cX5_add 42 = .ok (.iload_n 2, 1) := by decide +kernel
theorem dX5_add_43 : decode cX5_add 43 = .ok (.aload_n 0, 1) := by decide +kernel
theorem dX5_add_44 : decode cX5_add 44 = .ok (.getfield 9, 3) := by decide +kernel
theorem dX5_add_47 : decode cX5_add 47 = .ok (.if_icmp .lt 12, 3) := by decide +kernel
theorem dX5_add_50 : decode cX5_add 50 = .ok (.iload_n 3, 1) := by decide +kernel
theorem dX5_add_51 : decode cX5_add 51 = .ok (.aload_n 0, 1) := by decide +kernel
theorem dX5_add_52 : decode cX5_add 52 = .ok (.getfield 9, 3) := by decide +kernel
theorem dX5_add_55 : decode cX5_add 55 = .ok (.if_icmp .lt 4, 3) := by decide +kernel
theorem dX5_add_58 : decode cX5_add 58 = .ok (.return_, 1) := by decide +kernel
theorem dX5_add_59 : decode cX5_add 59 = .ok (.aload_n 0, 1) := by decide +kernel
theorem dX5_add_60 : decode cX5_add 60 = .ok (.iload_n 2, 1) := by decide +kernel
theorem dX5_add_61 : decode cX5_add 61 = .ok (.putfield 15, 3) := by decide +kernel
theorem dX5_add_64 : decode cX5_add 64 = .ok (.aload_n 0, 1) := by decide +kernel
theorem dX5_add_65 : decode cX5_add 65 = .ok (.iload_n 3, 1) := by decide +kernel
theorem dX5_add_66 : decode cX5_add 66 = .ok (.putfield 18, 3) := by decide +kernel
theorem dX5_add_69 : decode cX5_add 69 = .ok (.return_, 1) := by decide +kernel
theorem dX5_of_0 : decode cX5_of 0 = .ok (.iload_n 1, 1) := by decide +kernel
theorem dX5_of_1 : decode cX5_of 1 = .ok (.ifCond .ne 10, 3) := by decide +kernel
theorem dX5_of_4 : decode cX5_of 4 = .ok (.aload_n 0, 1) := by decide +kernel
theorem dX5_of_5 : decode cX5_of 5 = .ok (.getfield 15, 3) := by decide +kernel
theorem dX5_of_8 : decode cX5_of 8 = .ok (.goto 7, 3) := by decide +kernel
theorem dX5_of_11 : decode cX5_of 11 = .ok (.aload_n 0, 1) := by decide +kernel
theorem dX5_of_12 : decode cX5_of 12 = .ok (.getfield 18, 3) := by decide +kernel
theorem dX5_of_15 : decode cX5_of 15 = .ok (.ireturn, 1) := by decide +kernel
theorem dX6_init_0 : decode cX6_init 0 = .ok (.aload_n 0, 1) := by decide +kernel
theorem dX6_init_1 : decode cX6_init 1 = .ok (.invokespecial 3, 3) := by decide +kernel
theorem dX6_init_4 : decode cX6_init 4 = .ok (.aload_n 0, 1) := by decide +kernel
theorem dX6_init_5 : decode cX6_init 5 = .ok (.iconst 0, 1) := by decide +kernel
theorem dX6_init_6 : decode cX6_init 6 = .ok (.putfield 9, 3) := by decide +kernel
theorem dX6_init_9 : decode cX6_init 9 = .ok (.aload_n 0, 1) := by decide +kernel
theorem dX6_init_10 : decode cX6_init 10 = .ok (.iload_n 1, 1) := by decide +kernel
theorem dX6_init_11 : decode cX6_init 11 = .ok (.putfield 15, 3) := by decide +kernel
theorem dX6_init_14 : decode cX6_init 14 = .ok (.aload_n 0, 1) := by decide +kernel
theorem dX6_init_15 : decode cX6_init 15 = .ok (.iload_n 2, 1) := by decide +kernel
theorem dX6_init_16 : decode cX6_init 16 = .ok (.putfield 18, 3) := by decide +kernel
theorem dX6_init_19 : decode cX6_init 19 = .ok (.return_, 1) := by decide +kernel
theorem dX6_isMarkedFor_0 : decode cX6_isMarkedFor 0 = .ok (.aload_n 0, 1) := by decide +kernel
theorem dX6_isMarkedFor_1 : decode cX6_isMarkedFor 1 = .ok (.getfield 9, 3) := by decide +kernel
theorem dX6_isMarkedFor_4 : decode cX6_isMarkedFor 4 = .ok (.iconst 1, 1) := by decide +kernel
theorem dX6_isMarkedFor_5 : decode cX6_isMarkedFor 5 = .ok (.if_icmp .ne 15, 3) := by decide +kernel
theorem dX6_isMarkedFor_8 : decode cX6_isMarkedFor 8 = .ok (.aload_n 0, 1) := by decide +kernel
theorem dX6_isMarkedFor_9 : decode cX6_isMarkedFor 9 = .ok (.getfield 18, 3) := by decide +kernel
theorem dX6_isMarkedFor_12 : decode cX6_isMarkedFor 12 = .ok (.iload_n 1, 1) := by decide +kernel
theorem dX6_isMarkedFor_13 : decode cX6_isMarkedFor 13 = .ok (.if_icmp .ne 7, 3) := by decide +kernel
theorem dX6_isMarkedFor_16 : decode cX6_isMarkedFor 16 = .ok (.iconst 1, 1) := by decide +kernel
theorem dX6_isMarkedFor_17 : decode cX6_isMarkedFor 17 = .ok (.goto 4, 3) := by decide +kernel
theorem dX6_isMarkedFor_20 : decode cX6_isMarkedFor 20 = .ok (.iconst 0, 1) := by decide +kernel
theorem dX6_isMarkedFor_21 : decode cX6_isMarkedFor 21 = .ok (.ireturn, 1) := by decide +kernel
theorem dX6_isFalse_0 : decode cX6_isFalse 0 = .ok (.iload_n 1, 1) := by decide +kernel
theorem dX6_isFalse_1 : decode cX6_isFalse 1 = .ok (.ifCond .eq 10, 3) := by decide +kernel
theorem dX6_isFalse_4 : decode cX6_isFalse 4 = .ok (.aload_n 0, 1) := by decide +kernel
theorem dX6_isFalse_5 : decode cX6_isFalse 5 = .ok (.getfield 21, 3) := by decide +kernel
theorem dX6_isFalse_8 : decode cX6_isFalse 8 = .ok (.goto 16, 3) := by decide +kernel
theorem dX6_isFalse_11 : decode cX6_isFalse 11 = .ok (.aload_n 0, 1) := by decide +kernel
theorem dX6_isFalse_12 : decode cX6_isFalse 12 = .ok (.getfield 9, 3) := by decide +kernel
theorem dX6_isFalse_15 : decode cX6_isFalse 15 = .ok (.iconst 2, 1) := by decide +kernel
theorem dX6_isFalse_16 : decode cX6_isFalse 16 = .ok (.if_icmp .ne 7, 3) := by decide +kernel
theorem dX6_isFalse_19 : decode cX6_isFalse 19 = .ok (.iconst 1, 1) := by decide +kernel
theorem dX6_isFalse_20 : decode cX6_isFalse 20 = .ok (.goto 4, 3) := by decide +kernel
theorem dX6_isFalse_23 : decode cX6_isFalse 23 = .ok (.iconst 0, 1) := by decide +kernel
theorem dX6_isFalse_24 : decode cX6_isFalse 24 = .ok (.ireturn, 1) := by decide +kernel
theorem dX7_init_0 : decode cX7_init 0 = .ok (.aload_n 0, 1) := by decide +kernel
theorem dX7_init_1 : decode cX7_init 1 = .ok (.invokespecial 3, 3) := by decide +kernel
theorem dX7_init_4 : decode cX7_init 4 = .ok (.aload_n 0, 1) := by decide +kernel
theorem dX7_init_5 : decode cX7_init 5 = .ok (.bipush 12, 2) := by decide +kernel
theorem dX7_init_7 : decode cX7_init 7 = .ok (.anewarray 9, 3) := by decide +kernel
theorem dX7_init_10 : decode cX7_init 10 = .ok (.putfield 11, 3) := by decide +kernel
theorem dX7_init_13 : decode cX7_init 13 = .ok (.aload_n 0, 1) := by decide +kernel
theorem dX7_init_14 : decode cX7_init 14 = .ok (.bipush 24, 2) := by decide +kernel
theorem dX7_init_16 : decode cX7_init 16 = .ok (.anewarray 15, 3) := by decide +kernel
theorem dX7_init_19 : decode cX7_init 19 = .ok (.putfield 17, 3) := by decide +kernel
theorem dX7_init_22 : decode cX7_init 22 = .ok (.aload_n 0, 1) := by decide +kernel
theorem dX7_init_23 : decode cX7_init 23 = .ok (.bipush 66, 2) := by decide +kernel
theorem dX7_init_25 : decode cX7_init 25 = .ok (.anewarray 21, 3) := by decide +kernel
theorem dX7_init_28 : decode cX7_init 28 = .ok (.putfield 23, 3) := by decide +kernel
theorem dX7_init_31 : decode cX7_init 31 = .ok (.aload_n 0, 1) := by decide +kernel
theorem dX7_init_32 : decode cX7_init 32 = .ok (.new 27, 3) := by decide +kernel
theorem dX7_init_35 : decode cX7_init 35 = .ok (.dup, 1) := by decide +kernel
theorem dX7_init_36 : decode cX7_init 36 = .ok (.invokespecial 29, 3) := by decide +kernel
theorem dX7_init_39 : decode cX7_init 39 = .ok (.putfield 30, 3) := by decide +kernel
theorem dX7_init_42 : decode cX7_init 42 = .ok (.aload_n 0, 1) := by decide +kernel
theorem dX7_init_43 : decode cX7_init 43 = .ok (.new 34, 3) := by decide +kernel
theorem dX7_init_46 : decode cX7_init 46 = .ok (.dup, 1) := by decide +kernel
theorem dX7_init_47 : decode cX7_init 47 = .ok (.invokespecial 36, 3) := by decide +kernel
theorem dX7_init_50 : decode cX7_init 50 = .ok (.putfield 37, 3) := by decide +kernel
theorem dX7_init_53 : decode cX7_init 53 = .ok (.aload_n 0, 1) := by decide +kernel
theorem dX7_init_54 : decode cX7_init 54 = .ok (.new 41, 3) := by decide +kernel
theorem dX7_init_57 : decode cX7_init 57 = .ok (.dup, 1) := by decide +kernel
theorem dX7_init_58 : decode cX7_init 58 = .ok (.invokespecial 43, 3) := by decide +kernel
theorem dX7_init_61 : decode cX7_init 61 = .ok (.putfield 44, 3) := by decide +kernel
theorem dX7_init_64 : decode cX7_init 64 = .ok (.aload_n 0, 1) := by decide +kernel
theorem dX7_init_65 : decode cX7_init 65 = .ok (.iload_n 1, 1) := by decide +kernel
theorem dX7_init_66 : decode cX7_init 66 = .ok (.ifCond .eq 7, 3) := by decide +kernel
theorem dX7_init_69 : decode cX7_init 69 = .ok (.iconst 1, 1) := by decide +kernel
theorem dX7_init_70 : decode cX7_init 70 = .ok (.goto 4, 3) := by decide +kernel
theorem dX7_init_73 : decode cX7_init 73 = .ok (.iconst 0, 1) := by decide +kernel
theorem dX7_init_74 : decode cX7_init 74 = .ok (.putfield 48, 3) := by decide +kernel
theorem dX7_init_77 : decode cX7_init 77 = .ok (.return_, 1) := by decide +kernel
theorem dX7_fencer_0 : decode cX7_fencer 0 = .ok (.aload_n 0, 1) := by decide +kernel
theorem dX7_fencer_1 : decode cX7_fencer 1 = .ok (.getfield 52, 3) := by decide +kernel
theorem dX7_fencer_4 : decode cX7_fencer 4 = .ok (.bipush 12, 2) := by decide +kernel
theorem dX7_fencer_6 : decode cX7_fencer 6 = .ok (.if_icmp .ge 10, 3) := by decide +kernel
theorem dX7_fencer_9 : decode cX7_fencer 9 = .ok (.aload_n 0, 1) := by decide +kernel
theorem dX7_fencer_10 : decode cX7_fencer 10 = .ok (.invokevirtual 56, 3) := by decide +kernel
theorem dX7_fencer_13 : decode cX7_fencer 13 = .ok (.ifCond .eq 13, 3) := by decide +kernel
theorem dX7_fencer_16 : decode cX7_fencer 16 = .ok (.new 60, 3) := by decide +kernel
theorem dX7_fencer_19 : decode cX7_fencer 19 = .ok (.dup, 1) := by decide +kernel
theorem dX7_fencer_20 : decode cX7_fencer 20 = .ok (.ldc 62, 2) := by decide +kernel
theorem dX7_fencer_22 : decode cX7_fencer 22 = .ok (.invokespecial 64, 3) := by decide +kernel
theorem dX7_fencer_25 : decode cX7_fencer 25 = .ok (.athrow, 1) := by decide +kernel
theorem dX7_fencer_26 : decode cX7_fencer 26 = .ok (.aload_n 0, 1) := by decide +kernel
theorem dX7_fencer_27 : decode cX7_fencer 27 = .ok (.getfield 52, 3) := by decide +kernel
theorem dX7_fencer_30 : decode cX7_fencer 30 = .ok (.istore_n 1, 1) := by decide +kernel
theorem dX7_fencer_31 : decode cX7_fencer 31 = .ok (.aload_n 0, 1) := by decide +kernel
