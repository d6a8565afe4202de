theorem dX7_fencer_32 : decode cX7_fencer 32 = .ok (.getfield 11, 3) := by decide +kernel
theorem dX7_fencer_35 : decode cX7_fencer 35 = .ok (.iload_n 1, 1) := by decide +kernel
theorem dX7_fencer_36 : decode cX7_fencer 36 = .ok (.new 9, 3) := by decide +kernel
theorem dX7_fencer_39 : decode cX7_fencer 39 = .ok (.dup, 1) := by decide +kernel
theorem dX7_fencer_40 : decode cX7_fencer 40 = .ok (.iload_n 1, 1) := by decide +kernel
theorem dX7_fencer_41 : decode cX7_fencer 41 = .ok (.invokespecial 67, 3) := by decide +kernel
theorem dX7_fencer_44 : decode cX7_fencer 44 = .ok (.aastore, 1) := by decide +kernel
theorem dX7_fencer_45 : decode cX7_fencer 45 = .ok (.aload_n 0, 1) := by decide +kernel
theorem dX7_fencer_46 : decode cX7_fencer 46 = .ok (.dup, 1) := by decide +kernel
theorem dX7_fencer_47 : decode cX7_fencer 47 = .ok (.getfield 52, 3) := by decide +kernel
theorem dX7_fencer_50 : decode cX7_fencer 50 = .ok (.iconst 1, 1) := by decide +kernel
theorem dX7_fencer_51 : decode cX7_fencer 51 = .ok (.iadd, 1) := by decide +kernel
theorem dX7_fencer_52 : decode cX7_fencer 52 = .ok (.putfield 52, 3) := by decide +kernel
theorem dX7_fencer_55 : decode cX7_fencer 55 = .ok (.iload_n 1, 1) := by decide +kernel
theorem dX7_fencer_56 : decode cX7_fencer 56 = .ok (.ireturn, 1) := by decide +kernel
theorem dX7_weapon_0 : decode cX7_weapon 0 = .ok (.aload_n 0, 1) := by decide +kernel
theorem dX7_weapon_1 : decode cX7_weapon 1 = .ok (.iload_n 1, 1) := by decide +kernel
theorem dX7_weapon_2 : decode cX7_weapon 2 = .ok (.invokevirtual 70, 3) := by decide +kernel
theorem dX7_weapon_5 : decode cX7_weapon 5 = .ok (.ifnonnull 13, 3) := by decide +kernel
theorem dX7_weapon_8 : decode cX7_weapon 8 = .ok (.new 74, 3) := by decide +kernel
theorem dX7_weapon_11 : decode cX7_weapon 11 = .ok (.dup, 1) := by decide +kernel
theorem dX7_weapon_12 : decode cX7_weapon 12 = .ok (.ldc 76, 2) := by decide +kernel
theorem dX7_weapon_14 : decode cX7_weapon 14 = .ok (.invokespecial 78, 3) := by decide +kernel
theorem dX7_weapon_17 : decode cX7_weapon 17 = .ok (.athrow, 1) := by decide +kernel
theorem dX7_weapon_18 : decode cX7_weapon 18 = .ok (.aload_n 0, 1) := by decide +kernel
theorem dX7_weapon_19 : decode cX7_weapon 19 = .ok (.getfield 79, 3) := by decide +kernel
theorem dX7_weapon_22 : decode cX7_weapon 22 = .ok (.bipush 24, 2) := by decide +kernel
theorem dX7_weapon_24 : decode cX7_weapon 24 = .ok (.if_icmp .lt 13, 3) := by decide +kernel
theorem dX7_weapon_27 : decode cX7_weapon 27 = .ok (.new 60, 3) := by decide +kernel
theorem dX7_weapon_30 : decode cX7_weapon 30 = .ok (.dup, 1) := by decide +kernel
theorem dX7_weapon_31 : decode cX7_weapon 31 = .ok (.ldc 82, 2) := by decide +kernel
theorem dX7_weapon_33 : decode cX7_weapon 33 = .ok (.invokespecial 64, 3) := by decide +kernel
theorem dX7_weapon_36 : decode cX7_weapon 36 = .ok (.athrow, 1) := by decide +kernel
theorem dX7_weapon_37 : decode cX7_weapon 37 = .ok (.aload_n 0, 1) := by decide +kernel
theorem dX7_weapon_38 : decode cX7_weapon 38 = .ok (.getfield 79, 3) := by decide +kernel
theorem dX7_weapon_41 : decode cX7_weapon 41 = .ok (.istore_n 2, 1) := by decide +kernel
theorem dX7_weapon_42 : decode cX7_weapon 42 = .ok (.aload_n 0, 1) := by decide +kernel
theorem dX7_weapon_43 : decode cX7_weapon 43 = .ok (.getfield 17, 3) := by decide +kernel
theorem dX7_weapon_46 : decode cX7_weapon 46 = .ok (.iload_n 2, 1) := by decide +kernel
theorem dX7_weapon_47 : decode cX7_weapon 47 = .ok (.new 15, 3) := by decide +kernel
theorem dX7_weapon_50 : decode cX7_weapon 50 = .ok (.dup, 1) := by decide +kernel
theorem dX7_weapon_51 : decode cX7_weapon 51 = .ok (.iload_n 2, 1) := by decide +kernel
theorem dX7_weapon_52 : decode cX7_weapon 52 = .ok (.iload_n 1, 1) := by decide +kernel
theorem dX7_weapon_53 : decode cX7_weapon 53 = .ok (.invokespecial 84, 3) := by decide +kernel
theorem dX7_weapon_56 : decode cX7_weapon 56 = .ok (.aastore, 1) := by decide +kernel
theorem dX7_weapon_57 : decode cX7_weapon 57 = .ok (.aload_n 0, 1) := by decide +kernel
theorem dX7_weapon_58 : decode cX7_weapon 58 = .ok (.dup, 1) := by decide +kernel
theorem dX7_weapon_59 : decode cX7_weapon 59 = .ok (.getfield 79, 3) := by decide +kernel
theorem dX7_weapon_62 : decode cX7_weapon 62 = .ok (.iconst 1, 1) := by decide +kernel
theorem dX7_weapon_63 : decode cX7_weapon 63 = .ok (.iadd, 1) := by decide +kernel
theorem dX7_weapon_64 : decode cX7_weapon 64 = .ok (.putfield 79, 3) := by decide +kernel
theorem dX7_weapon_67 : decode cX7_weapon 67 = .ok (.iload_n 2, 1) := by decide +kernel
theorem dX7_weapon_68 : decode cX7_weapon 68 = .ok (.ireturn, 1) := by decide +kernel
theorem dX7_test_0 : decode cX7_test 0 = .ok (.aload_n 0, 1) := by decide +kernel
theorem dX7_test_1 : decode cX7_test 1 = .ok (.iload_n 1, 1) := by decide +kernel
theorem dX7_test_2 : decode cX7_test 2 = .ok (.invokevirtual 87, 3) := by decide +kernel
theorem dX7_test_5 : decode cX7_test 5 = .ok (.astore 4, 2) := by decide +kernel
theorem dX7_test_7 : decode cX7_test 7 = .ok (.aload 4, 2) := by decide +kernel
theorem dX7_test_9 : decode cX7_test 9 = .ok (.ifnonnull 13, 3) := by decide +kernel
theorem dX7_test_12 : decode cX7_test 12 = .ok (.new 74, 3) := by decide +kernel
theorem dX7_test_15 : decode cX7_test 15 = .ok (.dup, 1) := by decide +kernel
theorem dX7_test_16 : decode cX7_test 16 = .ok (.ldc 91, 2) := by decide +kernel
theorem dX7_test_18 : decode cX7_test 18 = .ok (.invokespecial 78, 3) := by decide +kernel
theorem dX7_test_21 : decode cX7_test 21 = .ok (.athrow, 1) := by decide +kernel
theorem dX7_test_22 : decode cX7_test 22 = .ok (.iload_n 2, 1) := by decide +kernel
theorem dX7_test_23 : decode cX7_test 23 = .ok (.ifCond .lt 20, 3) := by decide +kernel
theorem dX7_test_26 : decode cX7_test 26 = .ok (.iload_n 2, 1) := by decide +kernel
theorem dX7_test_27 : decode cX7_test 27 = .ok (.sipush 2000, 3) := by decide +kernel
theorem dX7_test_30 : decode cX7_test 30 = .ok (.if_icmp .gt 13, 3) := by decide +kernel
theorem dX7_test_33 : decode cX7_test 33 = .ok (.iload_n 3, 1) := by decide +kernel
theorem dX7_test_34 : decode cX7_test 34 = .ok (.ifCond .lt 9, 3) := by decide +kernel
theorem dX7_test_37 : decode cX7_test 37 = .ok (.iload_n 3, 1) := by decide +kernel
theorem dX7_test_38 : decode cX7_test 38 = .ok (.bipush 100, 2) := by decide +kernel
theorem dX7_test_40 : decode cX7_test 40 = .ok (.if_icmp .le 13, 3) := by decide +kernel
theorem dX7_test_43 : decode cX7_test 43 = .ok (.new 93, 3) := by decide +kernel
theorem dX7_test_46 : decode cX7_test 46 = .ok (.dup, 1) := by decide +kernel
theorem dX7_test_47 : decode cX7_test 47 = .ok (.ldc 95, 2) := by decide +kernel
theorem dX7_test_49 : decode cX7_test 49 = .ok (.invokespecial 97, 3) := by decide +kernel
theorem dX7_test_52 : decode cX7_test 52 = .ok (.athrow, 1) := by decide +kernel
theorem dX7_test_53 : decode cX7_test 53 = .ok (.aload 4, 2) := by decide +kernel
theorem dX7_test_55 : decode cX7_test 55 = .ok (.getfield 98, 3) := by decide +kernel
theorem dX7_test_58 : decode cX7_test 58 = .ok (.iconst 2, 1) := by decide +kernel
theorem dX7_test_59 : decode cX7_test 59 = .ok (.if_icmp .eq 13, 3) := by decide +kernel
theorem dX7_test_62 : decode cX7_test 62 = .ok (.aload_n 0, 1) := by decide +kernel
theorem dX7_test_63 : decode cX7_test 63 = .ok (.getfield 30, 3) := by decide +kernel
theorem dX7_test_66 : decode cX7_test 66 = .ok (.getfield 101, 3) := by decide +kernel
theorem dX7_test_69 : decode cX7_test 69 = .ok (.ifnull 13, 3) := by decide +kernel
theorem dX7_test_72 : decode cX7_test 72 = .ok (.new 60, 3) := by decide +kernel
theorem dX7_test_75 : decode cX7_test 75 = .ok (.dup, 1) := by decide +kernel
theorem dX7_test_76 : decode cX7_test 76 = .ok (.ldc 105, 2) := by decide +kernel
theorem dX7_test_78 : decode cX7_test 78 = .ok (.invokespecial 64, 3) := by decide +kernel
theorem dX7_test_81 : decode cX7_test 81 = .ok (.athrow, 1) := by decide +kernel
theorem dX7_test_82 : decode cX7_test 82 = .ok (.iload_n 2, 1) := by decide +kernel
theorem dX7_test_83 : decode cX7_test 83 = .ok (.sipush 500, 3) := by decide +kernel
theorem dX7_test_86 : decode cX7_test 86 = .ok (.if_icmp .lt 20, 3) := by decide +kernel
theorem dX7_test_89 : decode cX7_test 89 = .ok (.iload_n 2, 1) := by decide +kernel
theorem dX7_test_90 : decode cX7_test 90 = .ok (.sipush 770, 3) := by decide +kernel
theorem dX7_test_93 : decode cX7_test 93 = .ok (.if_icmp .gt 13, 3) := by decide +kernel
theorem dX7_test_96 : decode cX7_test 96 = .ok (.iload_n 3, 1) := by decide +kernel
theorem dX7_test_97 : decode cX7_test 97 = .ok (.bipush 15, 2) := by decide +kernel
theorem dX7_test_99 : decode cX7_test 99 = .ok (.if_icmp .gt 7, 3) := by decide +kernel
theorem dX7_test_102 : decode cX7_test 102 = .ok (.iconst 1, 1) := by decide +kernel
theorem dX7_test_103 : decode cX7_test 103 = .ok (.goto 4, 3) := by decide +kernel
theorem dX7_test_106 : decode cX7_test 106 = .ok (.iconst 0, 1) := by decide +kernel
theorem dX7_test_107 : decode cX7_test 107 = .ok (.istore 5, 2) := by decide +kernel
theorem dX7_test_109 : decode cX7_test 109 = .ok (.iload 5, 2) := by decide +kernel
theorem dX7_test_111 : decode cX7_test 111 = .ok (.ifCond .eq 12, 3) := by decide +kernel
theorem dX7_test_114 : decode cX7_test 114 = .ok (.aload 4, 2) := by decide +kernel
theorem dX7_test_116 : decode cX7_test 116 = .ok (.iconst 1, 1) := by decide +kernel
theorem dX7_test_117 : decode cX7_test 117 = .ok (.putfield 98, 3) := by decide +kernel
theorem dX7_test_120 : decode cX7_test 120 = .ok (.goto 9, 3) := by decide +kernel
theorem dX7_test_123 : decode cX7_test 123 = .ok (.aload_n 0, 1) := by decide +kernel
theorem dX7_test_124 : decode cX7_test 124 = .ok (.aload 4, 2) := by decide +kernel
theorem dX7_test_126 : decode cX7_test 126 = .ok (.invokevirtual 107, 3) := by decide +kernel
theorem dX7_test_129 : decode cX7_test 129 = .ok (.iload 5, 2) := by decide +kernel
theorem dX7_test_131 : decode cX7_test 131 = .ok (.ireturn, 1) := by decide +kernel
theorem dX7_mark_0 : decode cX7_mark 0 = .ok (.aload_n 0, 1) := by decide +kernel
theorem dX7_mark_1 : decode cX7_mark 1 = .ok (.iload_n 1, 1) := by decide +kernel
theorem dX7_mark_2 : decode cX7_mark 2 = .ok (.invokevirtual 87, 3) := by decide +kernel
theorem dX7_mark_5 : decode cX7_mark 5 = .ok (.astore_n 2, 1) := by decide +kernel
theorem dX7_mark_6 : decode cX7_mark 6 = .ok (.aload_n 2, 1) := by decide +kernel
theorem dX7_mark_7 : decode cX7_mark 7 = .ok (.ifnonnull 13, 3) := by decide +kernel
theorem dX7_mark_10 : decode cX7_mark 10 = .ok (.new 74, 3) := by decide +kernel
theorem dX7_mark_13 : decode cX7_mark 13 = .ok (.dup, 1) := by decide +kernel
theorem dX7_mark_14 : decode cX7_mark 14 = .ok (.ldc 91, 2) := by decide +kernel
theorem dX7_mark_16 : decode cX7_mark 16 = .ok (.invokespecial 78, 3) := by decide +kernel
theorem dX7_mark_19 : decode cX7_mark 19 = .ok (.athrow, 1) := by decide +kernel
theorem dX7_mark_20 : decode cX7_mark 20 = .ok (.aload_n 2, 1) := by decide +kernel
theorem dX7_mark_21 : decode cX7_mark 21 = .ok (.getfield 98, 3) := by decide +kernel
theorem dX7_mark_24 : decode cX7_mark 24 = .ok (.ireturn, 1) := by decide +kernel
theorem dX7_owner_0 : decode cX7_owner 0 = .ok (.aload_n 0, 1) := by decide +kernel
theorem dX7_owner_1 : decode cX7_owner 1 = .ok (.iload_n 1, 1) := by decide +kernel
theorem dX7_owner_2 : decode cX7_owner 2 = .ok (.invokevirtual 87, 3) := by decide +kernel
theorem dX7_owner_5 : decode cX7_owner 5 = .ok (.astore_n 2, 1) := by decide +kernel
theorem dX7_owner_6 : decode cX7_owner 6 = .ok (.aload_n 2, 1) := by decide +kernel
theorem dX7_owner_7 : decode cX7_owner 7 = .ok (.ifnonnull 13, 3) := by decide +kernel
theorem dX7_owner_10 : decode cX7_owner 10 = .ok (.new 74, 3) := by decide +kernel
theorem dX7_owner_13 : decode cX7_owner 13 = .ok (.dup, 1) := by decide +kernel
theorem dX7_owner_14 : decode cX7_owner 14 = .ok (.ldc 91, 2) := by decide +kernel
theorem dX7_owner_16 : decode cX7_owner 16 = .ok (.invokespecial 78, 3) := by decide +kernel
theorem dX7_owner_19 : decode cX7_owner 19 = .ok (.athrow, 1) := by decide +kernel
theorem dX7_owner_20 : decode cX7_owner 20 = .ok (.aload_n 2, 1) := by decide +kernel
theorem dX7_owner_21 : decode cX7_owner 21 = .ok (.getfield 111, 3) := by decide +kernel
theorem dX7_owner_24 : decode cX7_owner 24 = .ok (.ireturn, 1) := by decide +kernel
theorem dX7_begin_0 : decode cX7_begin 0 = .ok (.aload_n 0, 1) := by decide +kernel
theorem dX7_begin_1 : decode cX7_begin 1 = .ok (.iload_n 1, 1) := by decide +kernel
theorem dX7_begin_2 : decode cX7_begin 2 = .ok (.invokevirtual 114, 3) := by decide +kernel
theorem dX7_begin_5 : decode cX7_begin 5 = .ok (.astore 4, 2) := by decide +kernel
theorem dX7_begin_7 : decode cX7_begin 7 = .ok (.aload_n 0, 1) := by decide +kernel
theorem dX7_begin_8 : decode cX7_begin 8 = .ok (.iload_n 2, 1) := by decide +kernel
theorem dX7_begin_9 : decode cX7_begin 9 = .ok (.invokevirtual 87, 3) := by decide +kernel
theorem dX7_begin_12 : decode cX7_begin 12 = .ok (.astore 5, 2) := by decide +kernel
theorem dX7_begin_14 : decode cX7_begin 14 = .ok (.aload_n 0, 1) := by decide +kernel
theorem dX7_begin_15 : decode cX7_begin 15 = .ok (.iload_n 3, 1) := by decide +kernel
theorem dX7_begin_16 : decode cX7_begin 16 = .ok (.invokevirtual 87, 3) := by decide +kernel
theorem dX7_begin_19 : decode cX7_begin 19 = .ok (.astore 6, 2) := by decide +kernel
theorem dX7_begin_21 : decode cX7_begin 21 = .ok (.aload 4, 2) := by decide +kernel
theorem dX7_begin_23 : decode cX7_begin 23 = .ok (.ifnull 13, 3) := by decide +kernel
theorem dX7_begin_26 : decode cX7_begin 26 = .ok (.aload 5, 2) := by decide +kernel
theorem dX7_begin_28 : decode cX7_begin 28 = .ok (.ifnull 8, 3) := by decide +kernel
theorem dX7_begin_31 : decode cX7_begin 31 = .ok (.aload 6, 2) := by decide +kernel
theorem dX7_begin_33 : decode cX7_begin 33 = .ok (.ifnonnull 13, 3) := by decide +kernel
theorem dX7_begin_36 : decode cX7_begin 36 = .ok (.new 74, 3) := by decide +kernel
theorem dX7_begin_39 : decode cX7_begin 39 = .ok (.dup, 1) := by decide +kernel
theorem dX7_begin_40 : decode cX7_begin 40 = .ok (.ldc 118, 2) := by decide +kernel
theorem dX7_begin_42 : decode cX7_begin 42 = .ok (.invokespecial 78, 3) := by decide +kernel
theorem dX7_begin_45 : decode cX7_begin 45 = .ok (.athrow, 1) := by decide +kernel
theorem dX7_begin_46 : decode cX7_begin 46 = .ok (.aload_n 0, 1) := by decide +kernel
theorem dX7_begin_47 : decode cX7_begin 47 = .ok (.getfield 30, 3) := by decide +kernel
theorem dX7_begin_50 : decode cX7_begin 50 = .ok (.getfield 101, 3) := by decide +kernel
theorem dX7_begin_53 : decode cX7_begin 53 = .ok (.ifnonnull 11, 3) := by decide +kernel
theorem dX7_begin_56 : decode cX7_begin 56 = .ok (.aload 4, 2) := by decide +kernel
theorem dX7_begin_58 : decode cX7_begin 58 = .ok (.invokevirtual 120, 3) := by decide +kernel
theorem dX7_begin_61 : decode cX7_begin 61 = .ok (.ifCond .ne 13, 3) := by decide +kernel
theorem dX7_begin_64 : decode cX7_begin 64 = .ok (.new 60, 3) := by decide +kernel
theorem dX7_begin_67 : decode cX7_begin 67 = .ok (.dup, 1) := by decide +kernel
theorem dX7_begin_68 : decode cX7_begin 68 = .ok (.ldc 123, 2) := by decide +kernel
theorem dX7_begin_70 : decode cX7_begin 70 = .ok (.invokespecial 64, 3) := by decide +kernel
theorem dX7_begin_73 : decode cX7_begin 73 = .ok (.athrow, 1) := by decide +kernel
theorem dX7_begin_74 : decode cX7_begin 74 = .ok (.aload 5, 2) := by decide +kernel
theorem dX7_begin_76 : decode cX7_begin 76 = .ok (.aload 4, 2) := by decide +kernel
theorem dX7_begin_78 : decode cX7_begin 78 = .ok (.getfield 125, 3) := by decide +kernel
theorem dX7_begin_81 : decode cX7_begin 81 = .ok (.invokevirtual 128, 3) := by decide +kernel
theorem dX7_begin_84 : decode cX7_begin 84 = .ok (.ifCond .eq 16, 3) := by decide +kernel
theorem dX7_begin_87 : decode cX7_begin 87 = .ok (.aload 6, 2) := by decide +kernel
theorem dX7_begin_89 : decode cX7_begin 89 = .ok (.aload 4, 2) := by decide +kernel
theorem dX7_begin_91 : decode cX7_begin 91 = .ok (.getfield 132, 3) := by decide +kernel
theorem dX7_begin_94 : decode cX7_begin 94 = .ok (.invokevirtual 128, 3) := by decide +kernel
theorem dX7_begin_97 : decode cX7_begin 97 = .ok (.ifCond .ne 13, 3) := by decide +kernel
theorem dX7_begin_100 : decode cX7_begin 100 = .ok (.new 60, 3) := by decide +kernel
theorem dX7_begin_103 : decode cX7_begin 103 = .ok (.dup, 1) := by decide +kernel
theorem dX7_begin_104 : decode cX7_begin 104 = .ok (.ldc 135, 2) := by decide +kernel
theorem dX7_begin_106 : decode cX7_begin 106 = .ok (.invokespecial 64, 3) := by decide +kernel
theorem dX7_begin_109 : decode cX7_begin 109 = .ok (.athrow, 1) := by decide +kernel
theorem dX7_begin_110 : decode cX7_begin 110 = .ok (.aload_n 0, 1) := by decide +kernel
theorem dX7_begin_111 : decode cX7_begin 111 = .ok (.getfield 30, 3) := by decide +kernel
theorem dX7_begin_114 : decode cX7_begin 114 = .ok (.iload_n 1, 1) := by decide +kernel
theorem dX7_begin_115 : decode cX7_begin 115 = .ok (.aload 4, 2) := by decide +kernel
theorem dX7_begin_117 : decode cX7_begin 117 = .ok (.aload 5, 2) := by decide +kernel
theorem dX7_begin_119 : decode cX7_begin 119 = .ok (.aload 6, 2) := by decide +kernel
theorem dX7_begin_121 : decode cX7_begin 121 = .ok (.invokevirtual 137, 3) := by decide +kernel
theorem dX7_begin_124 : decode cX7_begin 124 = .ok (.aload 4, 2) := by decide +kernel
theorem dX7_begin_126 : decode cX7_begin 126 = .ok (.getfield 141, 3) := by decide +kernel
theorem dX7_begin_129 : decode cX7_begin 129 = .ok (.ireturn, 1) := by decide +kernel
theorem dX7_change_0 : decode cX7_change 0 = .ok (.aload_n 0, 1) := by decide +kernel
theorem dX7_change_1 : decode cX7_change 1 = .ok (.iload_n 2, 1) := by decide +kernel
theorem dX7_change_2 : decode cX7_change 2 = .ok (.invokevirtual 87, 3) := by decide +kernel
theorem dX7_change_5 : decode cX7_change 5 = .ok (.astore_n 3, 1) := by decide +kernel
theorem dX7_change_6 : decode cX7_change 6 = .ok (.iload_n 1, 1) := by decide +kernel
theorem dX7_change_7 : decode cX7_change 7 = .ok (.invokestatic 144, 3) := by decide +kernel
theorem dX7_change_10 : decode cX7_change 10 = .ok (.ifCond .eq 7, 3) := by decide +kernel
theorem dX7_change_13 : decode cX7_change 13 = .ok (.aload_n 3, 1) := by decide +kernel
theorem dX7_change_14 : decode cX7_change 14 = .ok (.ifnonnull 13, 3) := by decide +kernel
theorem dX7_change_17 : decode cX7_change 17 = .ok (.new 74, 3) := by decide +kernel
theorem dX7_change_20 : decode cX7_change 20 = .ok (.dup, 1) := by decide +kernel
theorem dX7_change_21 : decode cX7_change 21 = .ok (.ldc 147, 2) := by decide +kernel
theorem dX7_change_23 : decode cX7_change 23 = .ok (.invokespecial 78, 3) := by decide +kernel
theorem dX7_change_26 : decode cX7_change 26 = .ok (.athrow, 1) := by decide +kernel
theorem dX7_change_27 : decode cX7_change 27 = .ok (.aload_n 0, 1) := by decide +kernel
theorem dX7_change_28 : decode cX7_change 28 = .ok (.getfield 30, 3) := by decide +kernel
theorem dX7_change_31 : decode cX7_change 31 = .ok (.getfield 149, 3) := by decide +kernel
theorem dX7_change_34 : decode cX7_change 34 = .ok (.astore 4, 2) := by decide +kernel
theorem dX7_change_36 : decode cX7_change 36 = .ok (.aload 4, 2) := by decide +kernel
theorem dX7_change_38 : decode cX7_change 38 = .ok (.ifnull 13, 3) := by decide +kernel
theorem dX7_change_41 : decode cX7_change 41 = .ok (.aload_n 0, 1) := by decide +kernel
theorem dX7_change_42 : decode cX7_change 42 = .ok (.getfield 30, 3) := by decide +kernel
theorem dX7_change_45 : decode cX7_change 45 = .ok (.getfield 101, 3) := by decide +kernel
theorem dX7_change_48 : decode cX7_change 48 = .ok (.ifnull 13, 3) := by decide +kernel
theorem dX7_change_51 : decode cX7_change 51 = .ok (.new 60, 3) := by decide +kernel
theorem dX7_change_54 : decode cX7_change 54 = .ok (.dup, 1) := by decide +kernel
theorem dX7_change_55 : decode cX7_change 55 = .ok (.ldc 153, 2) := by decide +kernel
theorem dX7_change_57 : decode cX7_change 57 = .ok (.invokespecial 64, 3) := by decide +kernel
theorem dX7_change_60 : decode cX7_change 60 = .ok (.athrow, 1) := by decide +kernel
theorem dX7_change_61 : decode cX7_change 61 = .ok (.aload_n 3, 1) := by decide +kernel
theorem dX7_change_62 : decode cX7_change 62 = .ok (.aload 4, 2) := by decide +kernel
theorem dX7_change_64 : decode cX7_change 64 = .ok (.iload_n 1, 1) := by decide +kernel
theorem dX7_change_65 : decode cX7_change 65 = .ok (.invokevirtual 155, 3) := by decide +kernel
theorem dX7_change_68 : decode cX7_change 68 = .ok (.invokevirtual 128, 3) := by decide +kernel
theorem dX7_change_71 : decode cX7_change 71 = .ok (.ifCond .ne 13, 3) := by decide +kernel
theorem dX7_change_74 : decode cX7_change 74 = .ok (.new 60, 3) := by decide +kernel
theorem dX7_change_77 : decode cX7_change 77 = .ok (.dup, 1) := by decide +kernel
theorem dX7_change_78 : decode cX7_change 78 = .ok (.ldc 158, 2) := by decide +kernel
theorem dX7_change_80 : decode cX7_change 80 = .ok (.invokespecial 64, 3) := by decide +kernel
theorem dX7_change_83 : decode cX7_change 83 = .ok (.athrow, 1) := by decide +kernel
theorem dX7_change_84 : decode cX7_change 84 = .ok (.aload_n 0, 1) := by decide +kernel
theorem dX7_change_85 : decode cX7_change 85 = .ok (.getfield 30, 3) := by decide +kernel
theorem dX7_change_88 : decode cX7_change 88 = .ok (.iload_n 1, 1) := by decide +kernel
theorem dX7_change_89 : decode cX7_change 89 = .ok (.invokevirtual 160, 3) := by decide +kernel
theorem dX7_change_92 : decode cX7_change 92 = .ok (.istore 5, 2) := by decide +kernel
theorem dX7_change_94 : decode cX7_change 94 = .ok (.aload_n 0, 1) := by decide +kernel
theorem dX7_change_95 : decode cX7_change 95 = .ok (.getfield 30, 3) := by decide +kernel
theorem dX7_change_98 : decode cX7_change 98 = .ok (.iload_n 1, 1) := by decide +kernel
theorem dX7_change_99 : decode cX7_change 99 = .ok (.aload_n 3, 1) := by decide +kernel
theorem dX7_change_100 : decode cX7_change 100 = .ok (.invokevirtual 163, 3) := by decide +kernel
theorem dX7_change_103 : decode cX7_change 103 = .ok (.iload 5, 2) := by decide +kernel
theorem dX7_change_105 : decode cX7_change 105 = .ok (.ireturn, 1) := by decide +kernel
theorem dX7_allez_0 : decode cX7_allez 0 = .ok (.aload_n 0, 1) := by decide +kernel
theorem dX7_allez_1 : decode cX7_allez 1 = .ok (.getfield 30, 3) := by decide +kernel
theorem dX7_allez_4 : decode cX7_allez 4 = .ok (.getfield 149, 3) := by decide +kernel
theorem dX7_allez_7 : decode cX7_allez 7 = .ok (.astore_n 1, 1) := by decide +kernel
theorem dX7_allez_8 : decode cX7_allez 8 = .ok (.aload_n 0, 1) := by decide +kernel
theorem dX7_allez_9 : decode cX7_allez 9 = .ok (.getfield 30, 3) := by decide +kernel
theorem dX7_allez_12 : decode cX7_allez 12 = .ok (.getfield 167, 3) := by decide +kernel
theorem dX7_allez_15 : decode cX7_allez 15 = .ok (.astore_n 2, 1) := by decide +kernel
theorem dX7_allez_16 : decode cX7_allez 16 = .ok (.aload_n 0, 1) := by decide +kernel
theorem dX7_allez_17 : decode cX7_allez 17 = .ok (.getfield 30, 3) := by decide +kernel
theorem dX7_allez_20 : decode cX7_allez 20 = .ok (.getfield 170, 3) := by decide +kernel
theorem dX7_allez_23 : decode cX7_allez 23 = .ok (.astore_n 3, 1) := by decide +kernel
theorem dX7_allez_24 : decode cX7_allez 24 = .ok (.aload_n 1, 1) := by decide +kernel
theorem dX7_allez_25 : decode cX7_allez 25 = .ok (.ifnull 21, 3) := by decide +kernel
theorem dX7_allez_28 : decode cX7_allez 28 = .ok (.aload_n 2, 1) := by decide +kernel
theorem dX7_allez_29 : decode cX7_allez 29 = .ok (.ifnull 17, 3) := by decide +kernel
theorem dX7_allez_32 : decode cX7_allez 32 = .ok (.aload_n 3, 1) := by decide +kernel
theorem dX7_allez_33 : decode cX7_allez 33 = .ok (.ifnull 13, 3) := by decide +kernel
theorem dX7_allez_36 : decode cX7_allez 36 = .ok (.aload_n 0, 1) := by decide +kernel
theorem dX7_allez_37 : decode cX7_allez 37 = .ok (.getfield 30, 3) := by decide +kernel
theorem dX7_allez_40 : decode cX7_allez 40 = .ok (.getfield 101, 3) := by decide +kernel
theorem dX7_allez_43 : decode cX7_allez 43 = .ok (.ifnull 13, 3) := by decide +kernel
theorem dX7_allez_46 : decode cX7_allez 46 = .ok (.new 60, 3) := by decide +kernel
theorem dX7_allez_49 : decode cX7_allez 49 = .ok (.dup, 1) := by decide +kernel
theorem dX7_allez_50 : decode cX7_allez 50 = .ok (.ldc 153, 2) := by decide +kernel
theorem dX7_allez_52 : decode cX7_allez 52 = .ok (.invokespecial 64, 3) := by decide +kernel
theorem dX7_allez_55 : decode cX7_allez 55 = .ok (.athrow, 1) := by decide +kernel
theorem dX7_allez_56 : decode cX7_allez 56 = .ok (.aload_n 1, 1) := by decide +kernel
theorem dX7_allez_57 : decode cX7_allez 57 = .ok (.invokevirtual 120, 3) := by decide +kernel
theorem dX7_allez_60 : decode cX7_allez 60 = .ok (.ifCond .eq 19, 3) := by decide +kernel
theorem dX7_allez_63 : decode cX7_allez 63 = .ok (.aload_n 2, 1) := by decide +kernel
theorem dX7_allez_64 : decode cX7_allez 64 = .ok (.getfield 98, 3) := by decide +kernel
theorem dX7_allez_67 : decode cX7_allez 67 = .ok (.iconst 1, 1) := by decide +kernel
theorem dX7_allez_68 : decode cX7_allez 68 = .ok (.if_icmp .ne 11, 3) := by decide +kernel
theorem dX7_allez_71 : decode cX7_allez 71 = .ok (.aload_n 3, 1) := by decide +kernel
theorem dX7_allez_72 : decode cX7_allez 72 = .ok (.getfield 98, 3) := by decide +kernel
theorem dX7_allez_75 : decode cX7_allez 75 = .ok (.iconst 1, 1) := by decide +kernel
theorem dX7_allez_76 : decode cX7_allez 76 = .ok (.if_icmp .eq 13, 3) := by decide +kernel
theorem dX7_allez_79 : decode cX7_allez 79 = .ok (.new 60, 3) := by decide +kernel
theorem dX7_allez_82 : decode cX7_allez 82 = .ok (.dup, 1) := by decide +kernel
theorem dX7_allez_83 : decode cX7_allez 83 = .ok (.ldc 172, 2) := by decide +kernel
theorem dX7_allez_85 : decode cX7_allez 85 = .ok (.invokespecial 64, 3) := by decide +kernel
theorem dX7_allez_88 : decode cX7_allez 88 = .ok (.athrow, 1) := by decide +kernel
theorem dX7_allez_89 : decode cX7_allez 89 = .ok (.aload_n 0, 1) := by decide +kernel
theorem dX7_allez_90 : decode cX7_allez 90 = .ok (.getfield 30, 3) := by decide +kernel
theorem dX7_allez_93 : decode cX7_allez 93 = .ok (.new 174, 3) := by decide +kernel
theorem dX7_allez_96 : decode cX7_allez 96 = .ok (.dup, 1) := by decide +kernel
theorem dX7_allez_97 : decode cX7_allez 97 = .ok (.aload_n 0, 1) := by decide +kernel
theorem dX7_allez_98 : decode cX7_allez 98 = .ok (.getfield 48, 3) := by decide +kernel
theorem dX7_allez_101 : decode cX7_allez 101 = .ok (.aload_n 2, 1) := by decide +kernel
theorem dX7_allez_102 : decode cX7_allez 102 = .ok (.aload_n 3, 1) := by decide +kernel
theorem dX7_allez_103 : decode cX7_allez 103 = .ok (.invokespecial 176, 3) := by decide +kernel
theorem dX7_allez_106 : decode cX7_allez 106 = .ok (.putfield 101, 3) := by decide +kernel
theorem dX7_allez_109 : decode cX7_allez 109 = .ok (.aload_n 1, 1) := by decide +kernel
theorem dX7_allez_110 : decode cX7_allez 110 = .ok (.getfield 141, 3) := by decide +kernel
theorem dX7_allez_113 : decode cX7_allez 113 = .ok (.ireturn, 1) := by decide +kernel
theorem dX7_contact_0 : decode cX7_contact 0 = .ok (.iload_n 1, 1) := by decide +kernel
theorem dX7_contact_1 : decode cX7_contact 1 = .ok (.invokestatic 144, 3) := by decide +kernel
theorem dX7_contact_4 : decode cX7_contact 4 = .ok (.ifCond .ne 13, 3) := by decide +kernel
theorem dX7_contact_7 : decode cX7_contact 7 = .ok (.new 74, 3) := by decide +kernel
theorem dX7_contact_10 : decode cX7_contact 10 = .ok (.dup, 1) := by decide +kernel
theorem dX7_contact_11 : decode cX7_contact 11 = .ok (.ldc 179, 2) := by decide +kernel
theorem dX7_contact_13 : decode cX7_contact 13 = .ok (.invokespecial 78, 3) := by decide +kernel
theorem dX7_contact_16 : decode cX7_contact 16 = .ok (.athrow, 1) := by decide +kernel
theorem dX7_contact_17 : decode cX7_contact 17 = .ok (.aload_n 0, 1) := by decide +kernel
theorem dX7_contact_18 : decode cX7_contact 18 = .ok (.iload_n 3, 1) := by decide +kernel
theorem dX7_contact_19 : decode cX7_contact 19 = .ok (.invokevirtual 181, 3) := by decide +kernel
theorem dX7_contact_22 : decode cX7_contact 22 = .ok (.ifCond .eq 13, 3) := by decide +kernel
theorem dX7_contact_25 : decode cX7_contact 25 = .ok (.new 93, 3) := by decide +kernel
theorem dX7_contact_28 : decode cX7_contact 28 = .ok (.dup, 1) := by decide +kernel
theorem dX7_contact_29 : decode cX7_contact 29 = .ok (.ldc 184, 2) := by decide +kernel
theorem dX7_contact_31 : decode cX7_contact 31 = .ok (.invokespecial 97, 3) := by decide +kernel
theorem dX7_contact_34 : decode cX7_contact 34 = .ok (.athrow, 1) := by decide +kernel
theorem dX7_contact_35 : decode cX7_contact 35 = .ok (.aload_n 0, 1) := by decide +kernel
theorem dX7_contact_36 : decode cX7_contact 36 = .ok (.getfield 30, 3) := by decide +kernel
theorem dX7_contact_39 : decode cX7_contact 39 = .ok (.getfield 101, 3) := by decide +kernel
theorem dX7_contact_42 : decode cX7_contact 42 = .ok (.astore 4, 2) := by decide +kernel
theorem dX7_contact_44 : decode cX7_contact 44 = .ok (.aload 4, 2) := by decide +kernel
theorem dX7_contact_46 : decode cX7_contact 46 = .ok (.ifnull 11, 3) := by decide +kernel
theorem dX7_contact_49 : decode cX7_contact 49 = .ok (.aload 4, 2) := by decide +kernel
theorem dX7_contact_51 : decode cX7_contact 51 = .ok (.invokevirtual 186, 3) := by decide +kernel
theorem dX7_contact_54 : decode cX7_contact 54 = .ok (.ifCond .eq 13, 3) := by decide +kernel
theorem dX7_contact_57 : decode cX7_contact 57 = .ok (.new 60, 3) := by decide +kernel
theorem dX7_contact_60 : decode cX7_contact 60 = .ok (.dup, 1) := by decide +kernel
theorem dX7_contact_61 : decode cX7_contact 61 = .ok (.ldc 189, 2) := by decide +kernel
theorem dX7_contact_63 : decode cX7_contact 63 = .ok (.invokespecial 64, 3) := by decide +kernel
theorem dX7_contact_66 : decode cX7_contact 66 = .ok (.athrow, 1) := by decide +kernel
theorem dX7_contact_67 : decode cX7_contact 67 = .ok (.aload 4, 2) := by decide +kernel
theorem dX7_contact_69 : decode cX7_contact 69 = .ok (.iload_n 2, 1) := by decide +kernel
theorem dX7_contact_70 : decode cX7_contact 70 = .ok (.ifCond .eq 7, 3) := by decide +kernel
theorem dX7_contact_73 : decode cX7_contact 73 = .ok (.iconst 0, 1) := by decide +kernel
theorem dX7_contact_74 : decode cX7_contact 74 = .ok (.goto 4, 3) := by decide +kernel
theorem dX7_contact_77 : decode cX7_contact 77 = .ok (.iconst 1, 1) := by decide +kernel
theorem dX7_contact_78 : decode cX7_contact 78 = .ok (.iload_n 1, 1) := by decide +kernel
theorem dX7_contact_79 : decode cX7_contact 79 = .ok (.iload_n 3, 1) := by decide +kernel
theorem dX7_contact_80 : decode cX7_contact 80 = .ok (.invokevirtual 191, 3) := by decide +kernel
theorem dX7_contact_83 : decode cX7_contact 83 = .ok (.aload 4, 2) := by decide +kernel
theorem dX7_contact_85 : decode cX7_contact 85 = .ok (.getfield 195, 3) := by decide +kernel
theorem dX7_contact_88 : decode cX7_contact 88 = .ok (.ireturn, 1) := by decide +kernel
theorem dX7_right_0 : decode cX7_right 0 = .ok (.iload_n 1, 1) := by decide +kernel
theorem dX7_right_1 : decode cX7_right 1 = .ok (.invokestatic 198, 3) := by decide +kernel
theorem dX7_right_4 : decode cX7_right 4 = .ok (.ifCond .eq 11, 3) := by decide +kernel
theorem dX7_right_7 : decode cX7_right 7 = .ok (.aload_n 0, 1) := by decide +kernel
theorem dX7_right_8 : decode cX7_right 8 = .ok (.iload_n 2, 1) := by decide +kernel
theorem dX7_right_9 : decode cX7_right 9 = .ok (.invokevirtual 181, 3) := by decide +kernel
theorem dX7_right_12 : decode cX7_right 12 = .ok (.ifCond .eq 13, 3) := by decide +kernel
theorem dX7_right_15 : decode cX7_right 15 = .ok (.new 93, 3) := by decide +kernel
theorem dX7_right_18 : decode cX7_right 18 = .ok (.dup, 1) := by decide +kernel
theorem dX7_right_19 : decode cX7_right 19 = .ok (.ldc 201, 2) := by decide +kernel
theorem dX7_right_21 : decode cX7_right 21 = .ok (.invokespecial 97, 3) := by decide +kernel
theorem dX7_right_24 : decode cX7_right 24 = .ok (.athrow, 1) := by decide +kernel
theorem dX7_right_25 : decode cX7_right 25 = .ok (.aload_n 0, 1) := by decide +kernel
theorem dX7_right_26 : decode cX7_right 26 = .ok (.getfield 30, 3) := by decide +kernel
theorem dX7_right_29 : decode cX7_right 29 = .ok (.getfield 101, 3) := by decide +kernel
theorem dX7_right_32 : decode cX7_right 32 = .ok (.astore_n 3, 1) := by decide +kernel
theorem dX7_right_33 : decode cX7_right 33 = .ok (.aload_n 3, 1) := by decide +kernel
theorem dX7_right_34 : decode cX7_right 34 = .ok (.ifnull 10, 3) := by decide +kernel
theorem dX7_right_37 : decode cX7_right 37 = .ok (.aload_n 3, 1) := by decide +kernel
theorem dX7_right_38 : decode cX7_right 38 = .ok (.invokevirtual 186, 3) := by decide +kernel
theorem dX7_right_41 : decode cX7_right 41 = .ok (.ifCond .eq 13, 3) := by decide +kernel
theorem dX7_right_44 : decode cX7_right 44 = .ok (.new 60, 3) := by decide +kernel
theorem dX7_right_47 : decode cX7_right 47 = .ok (.dup, 1) := by decide +kernel
theorem dX7_right_48 : decode cX7_right 48 = .ok (.ldc 189, 2) := by decide +kernel
theorem dX7_right_50 : decode cX7_right 50 = .ok (.invokespecial 64, 3) := by decide +kernel
theorem dX7_right_53 : decode cX7_right 53 = .ok (.athrow, 1) := by decide +kernel
theorem dX7_right_54 : decode cX7_right 54 = .ok (.aload_n 3, 1) := by decide +kernel
theorem dX7_right_55 : decode cX7_right 55 = .ok (.iconst 2, 1) := by decide +kernel
theorem dX7_right_56 : decode cX7_right 56 = .ok (.iload_n 1, 1) := by decide +kernel
theorem dX7_right_57 : decode cX7_right 57 = .ok (.iload_n 2, 1) := by decide +kernel
theorem dX7_right_58 : decode cX7_right 58 = .ok (.invokevirtual 191, 3) := by decide +kernel
theorem dX7_right_61 : decode cX7_right 61 = .ok (.aload_n 3, 1) := by decide +kernel
theorem dX7_right_62 : decode cX7_right 62 = .ok (.getfield 195, 3) := by decide +kernel
theorem dX7_right_65 : decode cX7_right 65 = .ok (.ireturn, 1) := by decide +kernel
theorem dX7_halt_0 : decode cX7_halt 0 = .ok (.aload_n 0, 1) := by decide +kernel
theorem dX7_halt_1 : decode cX7_halt 1 = .ok (.getfield 30, 3) := by decide +kernel
theorem dX7_halt_4 : decode cX7_halt 4 = .ok (.getfield 149, 3) := by decide +kernel
theorem dX7_halt_7 : decode cX7_halt 7 = .ok (.astore_n 1, 1) := by decide +kernel
theorem dX7_halt_8 : decode cX7_halt 8 = .ok (.aload_n 0, 1) := by decide +kernel
theorem dX7_halt_9 : decode cX7_halt 9 = .ok (.getfield 30, 3) := by decide +kernel
theorem dX7_halt_12 : decode cX7_halt 12 = .ok (.getfield 101, 3) := by decide +kernel
theorem dX7_halt_15 : decode cX7_halt 15 = .ok (.astore_n 2, 1) := by decide +kernel
theorem dX7_halt_16 : decode cX7_halt 16 = .ok (.aload_n 1, 1) := by decide +kernel
theorem dX7_halt_17 : decode cX7_halt 17 = .ok (.ifnull 7, 3) := by decide +kernel
theorem dX7_halt_20 : decode cX7_halt 20 = .ok (.aload_n 2, 1) := by decide +kernel
theorem dX7_halt_21 : decode cX7_halt 21 = .ok (.ifnonnull 13, 3) := by decide +kernel
theorem dX7_halt_24 : decode cX7_halt 24 = .ok (.new 60, 3) := by decide +kernel
theorem dX7_halt_27 : decode cX7_halt 27 = .ok (.dup, 1) := by decide +kernel
theorem dX7_halt_28 : decode cX7_halt 28 = .ok (.ldc 203, 2) := by decide +kernel
theorem dX7_halt_30 : decode cX7_halt 30 = .ok (.invokespecial 64, 3) := by decide +kernel
theorem dX7_halt_33 : decode cX7_halt 33 = .ok (.athrow, 1) := by decide +kernel
theorem dX7_halt_34 : decode cX7_halt 34 = .ok (.aload_n 2, 1) := by decide +kernel
theorem dX7_halt_35 : decode cX7_halt 35 = .ok (.aload_n 2, 1) := by decide +kernel
theorem dX7_halt_36 : decode cX7_halt 36 = .ok (.invokevirtual 205, 3) := by decide +kernel
theorem dX7_halt_39 : decode cX7_halt 39 = .ok (.putfield 209, 3) := by decide +kernel
theorem dX7_halt_42 : decode cX7_halt 42 = .ok (.aload_n 1, 1) := by decide +kernel
theorem dX7_halt_43 : decode cX7_halt 43 = .ok (.aload_n 2, 1) := by decide +kernel
theorem dX7_halt_44 : decode cX7_halt 44 = .ok (.invokevirtual 212, 3) := by decide +kernel
theorem dX7_halt_47 : decode cX7_halt 47 = .ok (.aload_n 0, 1) := by decide +kernel
theorem dX7_halt_48 : decode cX7_halt 48 = .ok (.getfield 30, 3) := by decide +kernel
theorem dX7_halt_51 : decode cX7_halt 51 = .ok (.aconst_null, 1) := by decide +kernel
theorem dX7_halt_52 : decode cX7_halt 52 = .ok (.putfield 101, 3) := by decide +kernel
theorem dX7_halt_55 : decode cX7_halt 55 = .ok (.aload_n 0, 1) := by decide +kernel
theorem dX7_halt_56 : decode cX7_halt 56 = .ok (.getfield 30, 3) := by decide +kernel
theorem dX7_halt_59 : decode cX7_halt 59 = .ok (.iconst 1, 1) := by decide +kernel
theorem dX7_halt_60 : decode cX7_halt 60 = .ok (.putfield 216, 3) := by decide +kernel
theorem dX7_halt_63 : decode cX7_halt 63 = .ok (.aload_n 0, 1) := by decide +kernel
theorem dX7_halt_64 : decode cX7_halt 64 = .ok (.getfield 37, 3) := by decide +kernel
theorem dX7_halt_67 : decode cX7_halt 67 = .ok (.aload_n 0, 1) := by decide +kernel
theorem dX7_halt_68 : decode cX7_halt 68 = .ok (.getfield 30, 3) := by decide +kernel
theorem dX7_halt_71 : decode cX7_halt 71 = .ok (.invokevirtual 219, 3) := by decide +kernel
theorem dX7_halt_74 : decode cX7_halt 74 = .ok (.aload_n 1, 1) := by decide +kernel
theorem dX7_halt_75 : decode cX7_halt 75 = .ok (.aload_n 2, 1) := by decide +kernel
theorem dX7_halt_76 : decode cX7_halt 76 = .ok (.invokevirtual 223, 3) := by decide +kernel
theorem dX7_halt_79 : decode cX7_halt 79 = .ok (.ireturn, 1) := by decide +kernel
theorem dX7_appeal_0 : decode cX7_appeal 0 = .ok (.iload_n 1, 1) := by decide +kernel
theorem dX7_appeal_1 : decode cX7_appeal 1 = .ok (.invokestatic 144, 3) := by decide +kernel
theorem dX7_appeal_4 : decode cX7_appeal 4 = .ok (.ifCond .ne 13, 3) := by decide +kernel
theorem dX7_appeal_7 : decode cX7_appeal 7 = .ok (.new 74, 3) := by decide +kernel
theorem dX7_appeal_10 : decode cX7_appeal 10 = .ok (.dup, 1) := by decide +kernel
theorem dX7_appeal_11 : decode cX7_appeal 11 = .ok (.ldc 179, 2) := by decide +kernel
theorem dX7_appeal_13 : decode cX7_appeal 13 = .ok (.invokespecial 78, 3) := by decide +kernel
theorem dX7_appeal_16 : decode cX7_appeal 16 = .ok (.athrow, 1) := by decide +kernel
theorem dX7_appeal_17 : decode cX7_appeal 17 = .ok (.iload_n 2, 1) := by decide +kernel
theorem dX7_appeal_18 : decode cX7_appeal 18 = .ok (.invokestatic 198, 3) := by decide +kernel
theorem dX7_appeal_21 : decode cX7_appeal 21 = .ok (.ifCond .ne 13, 3) := by decide +kernel
theorem dX7_appeal_24 : decode cX7_appeal 24 = .ok (.new 93, 3) := by decide +kernel
theorem dX7_appeal_27 : decode cX7_appeal 27 = .ok (.dup, 1) := by decide +kernel
theorem dX7_appeal_28 : decode cX7_appeal 28 = .ok (.ldc 227, 2) := by decide +kernel
theorem dX7_appeal_30 : decode cX7_appeal 30 = .ok (.invokespecial 97, 3) := by decide +kernel
theorem dX7_appeal_33 : decode cX7_appeal 33 = .ok (.athrow, 1) := by decide +kernel
theorem dX7_appeal_34 : decode cX7_appeal 34 = .ok (.aload_n 0, 1) := by decide +kernel
theorem dX7_appeal_35 : decode cX7_appeal 35 = .ok (.getfield 30, 3) := by decide +kernel
theorem dX7_appeal_38 : decode cX7_appeal 38 = .ok (.getfield 149, 3) := by decide +kernel
theorem dX7_appeal_41 : decode cX7_appeal 41 = .ok (.astore_n 3, 1) := by decide +kernel
theorem dX7_appeal_42 : decode cX7_appeal 42 = .ok (.aload_n 3, 1) := by decide +kernel
theorem dX7_appeal_43 : decode cX7_appeal 43 = .ok (.ifnull 23, 3) := by decide +kernel
theorem dX7_appeal_46 : decode cX7_appeal 46 = .ok (.aload_n 0, 1) := by decide +kernel
theorem dX7_appeal_47 : decode cX7_appeal 47 = .ok (.getfield 30, 3) := by decide +kernel
theorem dX7_appeal_50 : decode cX7_appeal 50 = .ok (.getfield 101, 3) := by decide +kernel
theorem dX7_appeal_53 : decode cX7_appeal 53 = .ok (.ifnonnull 13, 3) := by decide +kernel
theorem dX7_appeal_56 : decode cX7_appeal 56 = .ok (.aload_n 0, 1) := by decide +kernel
theorem dX7_appeal_57 : decode cX7_appeal 57 = .ok (.getfield 30, 3) := by decide +kernel
theorem dX7_appeal_60 : decode cX7_appeal 60 = .ok (.getfield 216, 3) := by decide +kernel
theorem dX7_appeal_63 : decode cX7_appeal 63 = .ok (.ifCond .ne 13, 3) := by decide +kernel
theorem dX7_appeal_66 : decode cX7_appeal 66 = .ok (.new 60, 3) := by decide +kernel
theorem dX7_appeal_69 : decode cX7_appeal 69 = .ok (.dup, 1) := by decide +kernel
theorem dX7_appeal_70 : decode cX7_appeal 70 = .ok (.ldc 229, 2) := by decide +kernel
theorem dX7_appeal_72 : decode cX7_appeal 72 = .ok (.invokespecial 64, 3) := by decide +kernel
theorem dX7_appeal_75 : decode cX7_appeal 75 = .ok (.athrow, 1) := by decide +kernel
theorem dX7_appeal_76 : decode cX7_appeal 76 = .ok (.aload_n 3, 1) := by decide +kernel
theorem dX7_appeal_77 : decode cX7_appeal 77 = .ok (.aload_n 3, 1) := by decide +kernel
theorem dX7_appeal_78 : decode cX7_appeal 78 = .ok (.getfield 141, 3) := by decide +kernel
theorem dX7_appeal_81 : decode cX7_appeal 81 = .ok (.iconst 1, 1) := by decide +kernel
theorem dX7_appeal_82 : decode cX7_appeal 82 = .ok (.isub, 1) := by decide +kernel
theorem dX7_appeal_83 : decode cX7_appeal 83 = .ok (.invokevirtual 231, 3) := by decide +kernel
theorem dX7_appeal_86 : decode cX7_appeal 86 = .ok (.astore 4, 2) := by decide +kernel
theorem dX7_appeal_88 : decode cX7_appeal 88 = .ok (.aload 4, 2) := by decide +kernel
theorem dX7_appeal_90 : decode cX7_appeal 90 = .ok (.ifnull 11, 3) := by decide +kernel
theorem dX7_appeal_93 : decode cX7_appeal 93 = .ok (.aload_n 3, 1) := by decide +kernel
theorem dX7_appeal_94 : decode cX7_appeal 94 = .ok (.iload_n 1, 1) := by decide +kernel
theorem dX7_appeal_95 : decode cX7_appeal 95 = .ok (.invokevirtual 235, 3) := by decide +kernel
theorem dX7_appeal_98 : decode cX7_appeal 98 = .ok (.ifCond .ne 13, 3) := by decide +kernel
theorem dX7_appeal_101 : decode cX7_appeal 101 = .ok (.new 60, 3) := by decide +kernel
theorem dX7_appeal_104 : decode cX7_appeal 104 = .ok (.dup, 1) := by decide +kernel
theorem dX7_appeal_105 : decode cX7_appeal 105 = .ok (.ldc 238, 2) := by decide +kernel
theorem dX7_appeal_107 : decode cX7_appeal 107 = .ok (.invokespecial 64, 3) := by decide +kernel
theorem dX7_appeal_110 : decode cX7_appeal 110 = .ok (.athrow, 1) := by decide +kernel
theorem dX7_appeal_111 : decode cX7_appeal 111 = .ok (.aload_n 3, 1) := by decide +kernel
theorem dX7_appeal_112 : decode cX7_appeal 112 = .ok (.aload 4, 2) := by decide +kernel
theorem dX7_appeal_114 : decode cX7_appeal 114 = .ok (.invokevirtual 223, 3) := by decide +kernel
theorem dX7_appeal_117 : decode cX7_appeal 117 = .ok (.istore 5, 2) := by decide +kernel
theorem dX7_appeal_119 : decode cX7_appeal 119 = .ok (.aload 4, 2) := by decide +kernel
theorem dX7_appeal_121 : decode cX7_appeal 121 = .ok (.iload_n 2, 1) := by decide +kernel
theorem dX7_appeal_122 : decode cX7_appeal 122 = .ok (.invokevirtual 240, 3) := by decide +kernel
theorem dX7_appeal_125 : decode cX7_appeal 125 = .ok (.aload_n 3, 1) := by decide +kernel
theorem dX7_appeal_126 : decode cX7_appeal 126 = .ok (.aload 4, 2) := by decide +kernel
theorem dX7_appeal_128 : decode cX7_appeal 128 = .ok (.invokevirtual 223, 3) := by decide +kernel
theorem dX7_appeal_131 : decode cX7_appeal 131 = .ok (.istore 6, 2) := by decide +kernel
theorem dX7_appeal_133 : decode cX7_appeal 133 = .ok (.iload 6, 2) := by decide +kernel
theorem dX7_appeal_135 : decode cX7_appeal 135 = .ok (.iload 5, 2) := by decide +kernel
theorem dX7_appeal_137 : decode cX7_appeal 137 = .ok (.if_icmp .ne 8, 3) := by decide +kernel
theorem dX7_appeal_140 : decode cX7_appeal 140 = .ok (.aload_n 3, 1) := by decide +kernel
theorem dX7_appeal_141 : decode cX7_appeal 141 = .ok (.iload_n 1, 1) := by decide +kernel
theorem dX7_appeal_142 : decode cX7_appeal 142 = .ok (.invokevirtual 243, 3) := by decide +kernel
theorem dX7_appeal_145 : decode cX7_appeal 145 = .ok (.aload_n 3, 1) := by decide +kernel
theorem dX7_appeal_146 : decode cX7_appeal 146 = .ok (.invokevirtual 246, 3) := by decide +kernel
theorem dX7_appeal_149 : decode cX7_appeal 149 = .ok (.aload_n 0, 1) := by decide +kernel
theorem dX7_appeal_150 : decode cX7_appeal 150 = .ok (.getfield 37, 3) := by decide +kernel
theorem dX7_appeal_153 : decode cX7_appeal 153 = .ok (.aload_n 0, 1) := by decide +kernel
theorem dX7_appeal_154 : decode cX7_appeal 154 = .ok (.getfield 30, 3) := by decide +kernel
theorem dX7_appeal_157 : decode cX7_appeal 157 = .ok (.invokevirtual 219, 3) := by decide +kernel
theorem dX7_appeal_160 : decode cX7_appeal 160 = .ok (.iload 6, 2) := by decide +kernel
theorem dX7_appeal_162 : decode cX7_appeal 162 = .ok (.ireturn, 1) := by decide +kernel
theorem dX7_piste_0 : decode cX7_piste 0 = .ok (.aload_n 0, 1) := by decide +kernel
theorem dX7_piste_1 : decode cX7_piste 1 = .ok (.getfield 30, 3) := by decide +kernel
theorem dX7_piste_4 : decode cX7_piste 4 = .ok (.getfield 249, 3) := by decide +kernel
theorem dX7_piste_7 : decode cX7_piste 7 = .ok (.ireturn, 1) := by decide +kernel
theorem dX7_isFencing_0 : decode cX7_isFencing 0 = .ok (.aload_n 0, 1) := by decide +kernel
theorem dX7_isFencing_1 : decode cX7_isFencing 1 = .ok (.getfield 30, 3) := by decide +kernel
theorem dX7_isFencing_4 : decode cX7_isFencing 4 = .ok (.getfield 101, 3) := by decide +kernel
theorem dX7_isFencing_7 : decode cX7_isFencing 7 = .ok (.ifnull 7, 3) := by decide +kernel
theorem dX7_isFencing_10 : decode cX7_isFencing 10 = .ok (.iconst 1, 1) := by decide +kernel
theorem dX7_isFencing_11 : decode cX7_isFencing 11 = .ok (.goto 4, 3) := by decide +kernel
theorem dX7_isFencing_14 : decode cX7_isFencing 14 = .ok (.iconst 0, 1) := by decide +kernel
theorem dX7_isFencing_15 : decode cX7_isFencing 15 = .ok (.ireturn, 1) := by decide +kernel
theorem dX7_weaponOf_0 : decode cX7_weaponOf 0 = .ok (.iload_n 1, 1) := by decide +kernel
theorem dX7_weaponOf_1 : decode cX7_weaponOf 1 = .ok (.invokestatic 144, 3) := by decide +kernel
theorem dX7_weaponOf_4 : decode cX7_weaponOf 4 = .ok (.ifCond .ne 13, 3) := by decide +kernel
theorem dX7_weaponOf_7 : decode cX7_weaponOf 7 = .ok (.new 74, 3) := by decide +kernel
theorem dX7_weaponOf_10 : decode cX7_weaponOf 10 = .ok (.dup, 1) := by decide +kernel
theorem dX7_weaponOf_11 : decode cX7_weaponOf 11 = .ok (.ldc 179, 2) := by decide +kernel
theorem dX7_weaponOf_13 : decode cX7_weaponOf 13 = .ok (.invokespecial 78, 3) := by decide +kernel
theorem dX7_weaponOf_16 : decode cX7_weaponOf 16 = .ok (.athrow, 1) := by decide +kernel
theorem dX7_weaponOf_17 : decode cX7_weaponOf 17 = .ok (.aload_n 0, 1) := by decide +kernel
theorem dX7_weaponOf_18 : decode cX7_weaponOf 18 = .ok (.getfield 30, 3) := by decide +kernel
theorem dX7_weaponOf_21 : decode cX7_weaponOf 21 = .ok (.iload_n 1, 1) := by decide +kernel
theorem dX7_weaponOf_22 : decode cX7_weaponOf 22 = .ok (.invokevirtual 160, 3) := by decide +kernel
theorem dX7_weaponOf_25 : decode cX7_weaponOf 25 = .ok (.ireturn, 1) := by decide +kernel
theorem dX7_fencerOf_0 : decode cX7_fencerOf 0 = .ok (.aload_n 0, 1) := by decide +kernel
theorem dX7_fencerOf_1 : decode cX7_fencerOf 1 = .ok (.iload_n 1, 1) := by decide +kernel
theorem dX7_fencerOf_2 : decode cX7_fencerOf 2 = .ok (.invokevirtual 114, 3) := by decide +kernel
theorem dX7_fencerOf_5 : decode cX7_fencerOf 5 = .ok (.astore_n 3, 1) := by decide +kernel
theorem dX7_fencerOf_6 : decode cX7_fencerOf 6 = .ok (.aload_n 3, 1) := by decide +kernel
theorem dX7_fencerOf_7 : decode cX7_fencerOf 7 = .ok (.ifnull 10, 3) := by decide +kernel
theorem dX7_fencerOf_10 : decode cX7_fencerOf 10 = .ok (.iload_n 2, 1) := by decide +kernel
theorem dX7_fencerOf_11 : decode cX7_fencerOf 11 = .ok (.invokestatic 144, 3) := by decide +kernel
theorem dX7_fencerOf_14 : decode cX7_fencerOf 14 = .ok (.ifCond .ne 13, 3) := by decide +kernel
theorem dX7_fencerOf_17 : decode cX7_fencerOf 17 = .ok (.new 74, 3) := by decide +kernel
theorem dX7_fencerOf_20 : decode cX7_fencerOf 20 = .ok (.dup, 1) := by decide +kernel
theorem dX7_fencerOf_21 : decode cX7_fencerOf 21 = .ok (.ldc 252, 2) := by decide +kernel
theorem dX7_fencerOf_23 : decode cX7_fencerOf 23 = .ok (.invokespecial 78, 3) := by decide +kernel
theorem dX7_fencerOf_26 : decode cX7_fencerOf 26 = .ok (.athrow, 1) := by decide +kernel
theorem dX7_fencerOf_27 : decode cX7_fencerOf 27 = .ok (.aload_n 3, 1) := by decide +kernel
theorem dX7_fencerOf_28 : decode cX7_fencerOf 28 = .ok (.iload_n 2, 1) := by decide +kernel
theorem dX7_fencerOf_29 : decode cX7_fencerOf 29 = .ok (.invokevirtual 155, 3) := by decide +kernel
theorem dX7_fencerOf_32 : decode cX7_fencerOf 32 = .ok (.ireturn, 1) := by decide +kernel
theorem dX7_score_0 : decode cX7_score 0 = .ok (.aload_n 0, 1) := by decide +kernel
theorem dX7_score_1 : decode cX7_score 1 = .ok (.iload_n 1, 1) := by decide +kernel
theorem dX7_score_2 : decode cX7_score 2 = .ok (.invokevirtual 114, 3) := by decide +kernel
theorem dX7_score_5 : decode cX7_score 5 = .ok (.astore_n 3, 1) := by decide +kernel
theorem dX7_score_6 : decode cX7_score 6 = .ok (.aload_n 3, 1) := by decide +kernel
theorem dX7_score_7 : decode cX7_score 7 = .ok (.ifnull 10, 3) := by decide +kernel
theorem dX7_score_10 : decode cX7_score 10 = .ok (.iload_n 2, 1) := by decide +kernel
theorem dX7_score_11 : decode cX7_score 11 = .ok (.invokestatic 144, 3) := by decide +kernel
theorem dX7_score_14 : decode cX7_score 14 = .ok (.ifCond .ne 13, 3) := by decide +kernel
theorem dX7_score_17 : decode cX7_score 17 = .ok (.new 74, 3) := by decide +kernel
theorem dX7_score_20 : decode cX7_score 20 = .ok (.dup, 1) := by decide +kernel
theorem dX7_score_21 : decode cX7_score 21 = .ok (.ldc 252, 2) := by decide +kernel
theorem dX7_score_23 : decode cX7_score 23 = .ok (.invokespecial 78, 3) := by decide +kernel
theorem dX7_score_26 : decode cX7_score 26 = .ok (.athrow, 1) := by decide +kernel
theorem dX7_score_27 : decode cX7_score 27 = .ok (.aload_n 3, 1) := by decide +kernel
theorem dX7_score_28 : decode cX7_score 28 = .ok (.getfield 254, 3) := by decide +kernel
theorem dX7_score_31 : decode cX7_score 31 = .ok (.iload_n 2, 1) := by decide +kernel
theorem dX7_score_32 : decode cX7_score 32 = .ok (.invokevirtual 257, 3) := by decide +kernel
theorem dX7_score_35 : decode cX7_score 35 = .ok (.ireturn, 1) := by decide +kernel
theorem dX7_scoreAnew_0 : decode cX7_scoreAnew 0 = .ok (.aload_n 0, 1) := by decide +kernel
theorem dX7_scoreAnew_1 : decode cX7_scoreAnew 1 = .ok (.iload_n 1, 1) := by decide +kernel
theorem dX7_scoreAnew_2 : decode cX7_scoreAnew 2 = .ok (.invokevirtual 114, 3) := by decide +kernel
theorem dX7_scoreAnew_5 : decode cX7_scoreAnew 5 = .ok (.astore_n 3, 1) := by decide +kernel
theorem dX7_scoreAnew_6 : decode cX7_scoreAnew 6 = .ok (.aload_n 3, 1) := by decide +kernel
theorem dX7_scoreAnew_7 : decode cX7_scoreAnew 7 = .ok (.ifnull 10, 3) := by decide +kernel
theorem dX7_scoreAnew_10 : decode cX7_scoreAnew 10 = .ok (.iload_n 2, 1) := by decide +kernel
theorem dX7_scoreAnew_11 : decode cX7_scoreAnew 11 = .ok (.invokestatic 144, 3) := by decide +kernel
theorem dX7_scoreAnew_14 : decode cX7_scoreAnew 14 = .ok (.ifCond .ne 13, 3) := by decide +kernel
theorem dX7_scoreAnew_17 : decode cX7_scoreAnew 17 = .ok (.new 74, 3) := by decide +kernel
theorem dX7_scoreAnew_20 : decode cX7_scoreAnew 20 = .ok (.dup, 1) := by decide +kernel
theorem dX7_scoreAnew_21 : decode cX7_scoreAnew 21 = .ok (.ldc 252, 2) := by decide +kernel
theorem dX7_scoreAnew_23 : decode cX7_scoreAnew 23 = .ok (.invokespecial 78, 3) := by decide +kernel
theorem dX7_scoreAnew_26 : decode cX7_scoreAnew 26 = .ok (.athrow, 1) := by decide +kernel
theorem dX7_scoreAnew_27 : decode cX7_scoreAnew 27 = .ok (.aload_n 3, 1) := by decide +kernel
theorem dX7_scoreAnew_28 : decode cX7_scoreAnew 28 = .ok (.aload_n 0, 1) := by decide +kernel
theorem dX7_scoreAnew_29 : decode cX7_scoreAnew 29 = .ok (.getfield 44, 3) := by decide +kernel
theorem dX7_scoreAnew_32 : decode cX7_scoreAnew 32 = .ok (.invokevirtual 260, 3) := by decide +kernel
theorem dX7_scoreAnew_35 : decode cX7_scoreAnew 35 = .ok (.aload_n 0, 1) := by decide +kernel
theorem dX7_scoreAnew_36 : decode cX7_scoreAnew 36 = .ok (.getfield 44, 3) := by decide +kernel
theorem dX7_scoreAnew_39 : decode cX7_scoreAnew 39 = .ok (.iload_n 2, 1) := by decide +kernel
theorem dX7_scoreAnew_40 : decode cX7_scoreAnew 40 = .ok (.invokevirtual 257, 3) := by decide +kernel
theorem dX7_scoreAnew_43 : decode cX7_scoreAnew 43 = .ok (.ireturn, 1) := by decide +kernel
theorem dX7_winner_0 : decode cX7_winner 0 = .ok (.aload_n 0, 1) := by decide +kernel
theorem dX7_winner_1 : decode cX7_winner 1 = .ok (.iload_n 1, 1) := by decide +kernel
theorem dX7_winner_2 : decode cX7_winner 2 = .ok (.invokevirtual 114, 3) := by decide +kernel
theorem dX7_winner_5 : decode cX7_winner 5 = .ok (.astore_n 2, 1) := by decide +kernel
theorem dX7_winner_6 : decode cX7_winner 6 = .ok (.aload_n 2, 1) := by decide +kernel
theorem dX7_winner_7 : decode cX7_winner 7 = .ok (.ifnonnull 14, 3) := by decide +kernel
theorem dX7_winner_10 : decode cX7_winner 10 = .ok (.new 74, 3) := by decide +kernel
theorem dX7_winner_13 : decode cX7_winner 13 = .ok (.dup, 1) := by decide +kernel
theorem dX7_winner_14 : decode cX7_winner 14 = .ok (.ldc_w 264, 3) := by decide +kernel
theorem dX7_winner_17 : decode cX7_winner 17 = .ok (.invokespecial 78, 3) := by decide +kernel
theorem dX7_winner_20 : decode cX7_winner 20 = .ok (.athrow, 1) := by decide +kernel
theorem dX7_winner_21 : decode cX7_winner 21 = .ok (.aload_n 2, 1) := by decide +kernel
theorem dX7_winner_22 : decode cX7_winner 22 = .ok (.getfield 266, 3) := by decide +kernel
theorem dX7_winner_25 : decode cX7_winner 25 = .ok (.ifCond .eq 8, 3) := by decide +kernel
theorem dX7_winner_28 : decode cX7_winner 28 = .ok (.aload_n 2, 1) := by decide +kernel
theorem dX7_winner_29 : decode cX7_winner 29 = .ok (.invokevirtual 269, 3) := by decide +kernel
theorem dX7_winner_32 : decode cX7_winner 32 = .ok (.ireturn, 1) := by decide +kernel
theorem dX7_winner_33 : decode cX7_winner 33 = .ok (.aload_n 0, 1) := by decide +kernel
theorem dX7_winner_34 : decode cX7_winner 34 = .ok (.getfield 37, 3) := by decide +kernel
theorem dX7_winner_37 : decode cX7_winner 37 = .ok (.iload_n 1, 1) := by decide +kernel
theorem dX7_winner_38 : decode cX7_winner 38 = .ok (.bipush 100, 2) := by decide +kernel
theorem dX7_winner_40 : decode cX7_winner 40 = .ok (.isub, 1) := by decide +kernel
theorem dX7_winner_41 : decode cX7_winner 41 = .ok (.invokevirtual 272, 3) := by decide +kernel
theorem dX7_winner_44 : decode cX7_winner 44 = .ok (.ireturn, 1) := by decide +kernel
theorem dX7_phrases_0 : decode cX7_phrases 0 = .ok (.aload_n 0, 1) := by decide +kernel
theorem dX7_phrases_1 : decode cX7_phrases 1 = .ok (.iload_n 1, 1) := by decide +kernel
theorem dX7_phrases_2 : decode cX7_phrases 2 = .ok (.invokevirtual 114, 3) := by decide +kernel
theorem dX7_phrases_5 : decode cX7_phrases 5 = .ok (.astore_n 2, 1) := by decide +kernel
theorem dX7_phrases_6 : decode cX7_phrases 6 = .ok (.aload_n 2, 1) := by decide +kernel
theorem dX7_phrases_7 : decode cX7_phrases 7 = .ok (.ifnonnull 14, 3) := by decide +kernel
theorem dX7_phrases_10 : decode cX7_phrases 10 = .ok (.new 74, 3) := by decide +kernel
theorem dX7_phrases_13 : decode cX7_phrases 13 = .ok (.dup, 1) := by decide +kernel
theorem dX7_phrases_14 : decode cX7_phrases 14 = .ok (.ldc_w 264, 3) := by decide +kernel
theorem dX7_phrases_17 : decode cX7_phrases 17 = .ok (.invokespecial 78, 3) := by decide +kernel
theorem dX7_phrases_20 : decode cX7_phrases 20 = .ok (.athrow, 1) := by decide +kernel
theorem dX7_phrases_21 : decode cX7_phrases 21 = .ok (.aload_n 2, 1) := by decide +kernel
theorem dX7_phrases_22 : decode cX7_phrases 22 = .ok (.getfield 141, 3) := by decide +kernel
theorem dX7_phrases_25 : decode cX7_phrases 25 = .ok (.ireturn, 1) := by decide +kernel
theorem dX7_touches_0 : decode cX7_touches 0 = .ok (.aload_n 0, 1) := by decide +kernel
theorem dX7_touches_1 : decode cX7_touches 1 = .ok (.iload_n 1, 1) := by decide +kernel
theorem dX7_touches_2 : decode cX7_touches 2 = .ok (.invokevirtual 114, 3) := by decide +kernel
theorem dX7_touches_5 : decode cX7_touches 5 = .ok (.astore_n 3, 1) := by decide +kernel
theorem dX7_touches_6 : decode cX7_touches 6 = .ok (.aload_n 3, 1) := by decide +kernel
theorem dX7_touches_7 : decode cX7_touches 7 = .ok (.ifnonnull 14, 3) := by decide +kernel
theorem dX7_touches_10 : decode cX7_touches 10 = .ok (.new 74, 3) := by decide +kernel
theorem dX7_touches_13 : decode cX7_touches 13 = .ok (.dup, 1) := by decide +kernel
theorem dX7_touches_14 : decode cX7_touches 14 = .ok (.ldc_w 264, 3) := by decide +kernel
theorem dX7_touches_17 : decode cX7_touches 17 = .ok (.invokespecial 78, 3) := by decide +kernel
theorem dX7_touches_20 : decode cX7_touches 20 = .ok (.athrow, 1) := by decide +kernel
theorem dX7_touches_21 : decode cX7_touches 21 = .ok (.aload_n 3, 1) := by decide +kernel
theorem dX7_touches_22 : decode cX7_touches 22 = .ok (.iload_n 2, 1) := by decide +kernel
theorem dX7_touches_23 : decode cX7_touches 23 = .ok (.invokevirtual 231, 3) := by decide +kernel
theorem dX7_touches_26 : decode cX7_touches 26 = .ok (.astore 4, 2) := by decide +kernel
theorem dX7_touches_28 : decode cX7_touches 28 = .ok (.aload 4, 2) := by decide +kernel
theorem dX7_touches_30 : decode cX7_touches 30 = .ok (.ifnonnull 14, 3) := by decide +kernel
theorem dX7_touches_33 : decode cX7_touches 33 = .ok (.new 74, 3) := by decide +kernel
theorem dX7_touches_36 : decode cX7_touches 36 = .ok (.dup, 1) := by decide +kernel
theorem dX7_touches_37 : decode cX7_touches 37 = .ok (.ldc_w 275, 3) := by decide +kernel
theorem dX7_touches_40 : decode cX7_touches 40 = .ok (.invokespecial 78, 3) := by decide +kernel
theorem dX7_touches_43 : decode cX7_touches 43 = .ok (.athrow, 1) := by decide +kernel
theorem dX7_touches_44 : decode cX7_touches 44 = .ok (.aload_n 3, 1) := by decide +kernel
theorem dX7_touches_45 : decode cX7_touches 45 = .ok (.aload 4, 2) := by decide +kernel
theorem dX7_touches_47 : decode cX7_touches 47 = .ok (.invokevirtual 223, 3) := by decide +kernel
theorem dX7_touches_50 : decode cX7_touches 50 = .ok (.ireturn, 1) := by decide +kernel
theorem dX7_appeals_0 : decode cX7_appeals 0 = .ok (.aload_n 0, 1) := by decide +kernel
theorem dX7_appeals_1 : decode cX7_appeals 1 = .ok (.iload_n 1, 1) := by decide +kernel
theorem dX7_appeals_2 : decode cX7_appeals 2 = .ok (.invokevirtual 114, 3) := by decide +kernel
theorem dX7_appeals_5 : decode cX7_appeals 5 = .ok (.astore_n 3, 1) := by decide +kernel
theorem dX7_appeals_6 : decode cX7_appeals 6 = .ok (.aload_n 3, 1) := by decide +kernel
theorem dX7_appeals_7 : decode cX7_appeals 7 = .ok (.ifnull 10, 3) := by decide +kernel
theorem dX7_appeals_10 : decode cX7_appeals 10 = .ok (.iload_n 2, 1) := by decide +kernel
theorem dX7_appeals_11 : decode cX7_appeals 11 = .ok (.invokestatic 144, 3) := by decide +kernel
theorem dX7_appeals_14 : decode cX7_appeals 14 = .ok (.ifCond .ne 13, 3) := by decide +kernel
theorem dX7_appeals_17 : decode cX7_appeals 17 = .ok (.new 74, 3) := by decide +kernel
theorem dX7_appeals_20 : decode cX7_appeals 20 = .ok (.dup, 1) := by decide +kernel
theorem dX7_appeals_21 : decode cX7_appeals 21 = .ok (.ldc 252, 2) := by decide +kernel
theorem dX7_appeals_23 : decode cX7_appeals 23 = .ok (.invokespecial 78, 3) := by decide +kernel
theorem dX7_appeals_26 : decode cX7_appeals 26 = .ok (.athrow, 1) := by decide +kernel
theorem dX7_appeals_27 : decode cX7_appeals 27 = .ok (.aload_n 3, 1) := by decide +kernel
theorem dX7_appeals_28 : decode cX7_appeals 28 = .ok (.iload_n 2, 1) := by decide +kernel
theorem dX7_appeals_29 : decode cX7_appeals 29 = .ok (.invokevirtual 235, 3) := by decide +kernel
theorem dX7_appeals_32 : decode cX7_appeals 32 = .ok (.ireturn, 1) := by decide +kernel
theorem dX7_drawPools_0 : decode cX7_drawPools 0 = .ok (.iload_n 1, 1) := by decide +kernel
theorem dX7_drawPools_1 : decode cX7_drawPools 1 = .ok (.iconst 1, 1) := by decide +kernel
theorem dX7_drawPools_2 : decode cX7_drawPools 2 = .ok (.if_icmp .lt 8, 3) := by decide +kernel
theorem dX7_drawPools_5 : decode cX7_drawPools 5 = .ok (.iload_n 1, 1) := by decide +kernel
theorem dX7_drawPools_6 : decode cX7_drawPools 6 = .ok (.iconst 4, 1) := by decide +kernel
theorem dX7_drawPools_7 : decode cX7_drawPools 7 = .ok (.if_icmp .le 14, 3) := by decide +kernel
theorem dX7_drawPools_10 : decode cX7_drawPools 10 = .ok (.new 93, 3) := by decide +kernel
theorem dX7_drawPools_13 : decode cX7_drawPools 13 = .ok (.dup, 1) := by decide +kernel
theorem dX7_drawPools_14 : decode cX7_drawPools 14 = .ok (.ldc_w 277, 3) := by decide +kernel
theorem dX7_drawPools_17 : decode cX7_drawPools 17 = .ok (.invokespecial 97, 3) := by decide +kernel
theorem dX7_drawPools_20 : decode cX7_drawPools 20 = .ok (.athrow, 1) := by decide +kernel
theorem dX7_drawPools_21 : decode cX7_drawPools 21 = .ok (.aload_n 0, 1) := by decide +kernel
theorem dX7_drawPools_22 : decode cX7_drawPools 22 = .ok (.invokevirtual 56, 3) := by decide +kernel
theorem dX7_drawPools_25 : decode cX7_drawPools 25 = .ok (.ifCond .ne 13, 3) := by decide +kernel
theorem dX7_drawPools_28 : decode cX7_drawPools 28 = .ok (.aload_n 0, 1) := by decide +kernel
theorem dX7_drawPools_29 : decode cX7_drawPools 29 = .ok (.getfield 52, 3) := by decide +kernel
theorem dX7_drawPools_32 : decode cX7_drawPools 32 = .ok (.iconst 2, 1) := by decide +kernel
theorem dX7_drawPools_33 : decode cX7_drawPools 33 = .ok (.iload_n 1, 1) := by decide +kernel
theorem dX7_drawPools_34 : decode cX7_drawPools 34 = .ok (.imul, 1) := by decide +kernel
theorem dX7_drawPools_35 : decode cX7_drawPools 35 = .ok (.if_icmp .ge 14, 3) := by decide +kernel
theorem dX7_drawPools_38 : decode cX7_drawPools 38 = .ok (.new 60, 3) := by decide +kernel
theorem dX7_drawPools_41 : decode cX7_drawPools 41 = .ok (.dup, 1) := by decide +kernel
theorem dX7_drawPools_42 : decode cX7_drawPools 42 = .ok (.ldc_w 279, 3) := by decide +kernel
theorem dX7_drawPools_45 : decode cX7_drawPools 45 = .ok (.invokespecial 64, 3) := by decide +kernel
theorem dX7_drawPools_48 : decode cX7_drawPools 48 = .ok (.athrow, 1) := by decide +kernel
theorem dX7_drawPools_49 : decode cX7_drawPools 49 = .ok (.iconst 0, 1) := by decide +kernel
theorem dX7_drawPools_50 : decode cX7_drawPools 50 = .ok (.istore_n 2, 1) := by decide +kernel
theorem dX7_drawPools_51 : decode cX7_drawPools 51 = .ok (.iload_n 2, 1) := by decide +kernel
theorem dX7_drawPools_52 : decode cX7_drawPools 52 = .ok (.iload_n 1, 1) := by decide +kernel
theorem dX7_drawPools_53 : decode cX7_drawPools 53 = .ok (.if_icmp .ge 15, 3) := by decide +kernel
theorem dX7_drawPools_56 : decode cX7_drawPools 56 = .ok (.aload_n 0, 1) := by decide +kernel
theorem dX7_drawPools_57 : decode cX7_drawPools 57 = .ok (.iload_n 2, 1) := by decide +kernel
theorem dX7_drawPools_58 : decode cX7_drawPools 58 = .ok (.iload_n 1, 1) := by decide +kernel
theorem dX7_drawPools_59 : decode cX7_drawPools 59 = .ok (.invokevirtual 281, 3) := by decide +kernel
theorem dX7_drawPools_62 : decode cX7_drawPools 62 = .ok (.iinc 2 1, 3) := by decide +kernel
theorem dX7_drawPools_65 : decode cX7_drawPools 65 = .ok (.goto (-14), 3) := by decide +kernel
theorem dX7_drawPools_68 : decode cX7_drawPools 68 = .ok (.aload_n 0, 1) := by decide +kernel
theorem dX7_drawPools_69 : decode cX7_drawPools 69 = .ok (.getfield 284, 3) := by decide +kernel
theorem dX7_drawPools_72 : decode cX7_drawPools 72 = .ok (.ireturn, 1) := by decide +kernel
theorem dX7_won_0 : decode cX7_won 0 = .ok (.aload_n 0, 1) := by decide +kernel
theorem dX7_won_1 : decode cX7_won 1 = .ok (.iload_n 1, 1) := by decide +kernel
theorem dX7_won_2 : decode cX7_won 2 = .ok (.invokevirtual 70, 3) := by decide +kernel
theorem dX7_won_5 : decode cX7_won 5 = .ok (.astore_n 2, 1) := by decide +kernel
theorem dX7_won_6 : decode cX7_won 6 = .ok (.aload_n 2, 1) := by decide +kernel
theorem dX7_won_7 : decode cX7_won 7 = .ok (.ifnonnull 13, 3) := by decide +kernel
theorem dX7_won_10 : decode cX7_won 10 = .ok (.new 74, 3) := by decide +kernel
theorem dX7_won_13 : decode cX7_won 13 = .ok (.dup, 1) := by decide +kernel
theorem dX7_won_14 : decode cX7_won 14 = .ok (.ldc 76, 2) := by decide +kernel
theorem dX7_won_16 : decode cX7_won 16 = .ok (.invokespecial 78, 3) := by decide +kernel
theorem dX7_won_19 : decode cX7_won 19 = .ok (.athrow, 1) := by decide +kernel
theorem dX7_won_20 : decode cX7_won 20 = .ok (.aload_n 0, 1) := by decide +kernel
theorem dX7_won_21 : decode cX7_won 21 = .ok (.invokevirtual 287, 3) := by decide +kernel
theorem dX7_won_24 : decode cX7_won 24 = .ok (.aload_n 2, 1) := by decide +kernel
theorem dX7_won_25 : decode cX7_won 25 = .ok (.getfield 290, 3) := by decide +kernel
theorem dX7_won_28 : decode cX7_won 28 = .ok (.ireturn, 1) := by decide +kernel
theorem dX7_index_0 : decode cX7_index 0 = .ok (.aload_n 0, 1) := by decide +kernel
theorem dX7_index_1 : decode cX7_index 1 = .ok (.iload_n 1, 1) := by decide +kernel
theorem dX7_index_2 : decode cX7_index 2 = .ok (.invokevirtual 70, 3) := by decide +kernel
theorem dX7_index_5 : decode cX7_index 5 = .ok (.astore_n 2, 1) := by decide +kernel
theorem dX7_index_6 : decode cX7_index 6 = .ok (.aload_n 2, 1) := by decide +kernel
theorem dX7_index_7 : decode cX7_index 7 = .ok (.ifnonnull 13, 3) := by decide +kernel
theorem dX7_index_10 : decode cX7_index 10 = .ok (.new 74, 3) := by decide +kernel
theorem dX7_index_13 : decode cX7_index 13 = .ok (.dup, 1) := by decide +kernel
theorem dX7_index_14 : decode cX7_index 14 = .ok (.ldc 76, 2) := by decide +kernel
theorem dX7_index_16 : decode cX7_index 16 = .ok (.invokespecial 78, 3) := by decide +kernel
theorem dX7_index_19 : decode cX7_index 19 = .ok (.athrow, 1) := by decide +kernel
theorem dX7_index_20 : decode cX7_index 20 = .ok (.aload_n 0, 1) := by decide +kernel
theorem dX7_index_21 : decode cX7_index 21 = .ok (.invokevirtual 287, 3) := by decide +kernel
theorem dX7_index_24 : decode cX7_index 24 = .ok (.aload_n 2, 1) := by decide +kernel
theorem dX7_index_25 : decode cX7_index 25 = .ok (.invokevirtual 293, 3) := by decide +kernel
theorem dX7_index_28 : decode cX7_index 28 = .ok (.ireturn, 1) := by decide +kernel
theorem dX7_rankedAt_0 : decode cX7_rankedAt 0 = .ok (.iload_n 1, 1) := by decide +kernel
theorem dX7_rankedAt_1 : decode cX7_rankedAt 1 = .ok (.ifCond .lt 11, 3) := by decide +kernel
theorem dX7_rankedAt_4 : decode cX7_rankedAt 4 = .ok (.iload_n 1, 1) := by decide +kernel
theorem dX7_rankedAt_5 : decode cX7_rankedAt 5 = .ok (.aload_n 0, 1) := by decide +kernel
theorem dX7_rankedAt_6 : decode cX7_rankedAt 6 = .ok (.getfield 52, 3) := by decide +kernel
theorem dX7_rankedAt_9 : decode cX7_rankedAt 9 = .ok (.if_icmp .lt 14, 3) := by decide +kernel
theorem dX7_rankedAt_12 : decode cX7_rankedAt 12 = .ok (.new 74, 3) := by decide +kernel
theorem dX7_rankedAt_15 : decode cX7_rankedAt 15 = .ok (.dup, 1) := by decide +kernel
theorem dX7_rankedAt_16 : decode cX7_rankedAt 16 = .ok (.ldc_w 296, 3) := by decide +kernel
theorem dX7_rankedAt_19 : decode cX7_rankedAt 19 = .ok (.invokespecial 78, 3) := by decide +kernel
theorem dX7_rankedAt_22 : decode cX7_rankedAt 22 = .ok (.athrow, 1) := by decide +kernel
theorem dX7_rankedAt_23 : decode cX7_rankedAt 23 = .ok (.aload_n 0, 1) := by decide +kernel
theorem dX7_rankedAt_24 : decode cX7_rankedAt 24 = .ok (.invokevirtual 287, 3) := by decide +kernel
theorem dX7_rankedAt_27 : decode cX7_rankedAt 27 = .ok (.aload_n 0, 1) := by decide +kernel
theorem dX7_rankedAt_28 : decode cX7_rankedAt 28 = .ok (.iload_n 1, 1) := by decide +kernel
theorem dX7_rankedAt_29 : decode cX7_rankedAt 29 = .ok (.invokevirtual 298, 3) := by decide +kernel
theorem dX7_rankedAt_32 : decode cX7_rankedAt 32 = .ok (.ireturn, 1) := by decide +kernel
theorem dX7_drawTableau_0 : decode cX7_drawTableau 0 = .ok (.aload_n 0, 1) := by decide +kernel
theorem dX7_drawTableau_1 : decode cX7_drawTableau 1 = .ok (.invokevirtual 56, 3) := by decide +kernel
theorem dX7_drawTableau_4 : decode cX7_drawTableau 4 = .ok (.ifCond .eq 10, 3) := by decide +kernel
theorem dX7_drawTableau_7 : decode cX7_drawTableau 7 = .ok (.aload_n 0, 1) := by decide +kernel
theorem dX7_drawTableau_8 : decode cX7_drawTableau 8 = .ok (.invokevirtual 301, 3) := by decide +kernel
theorem dX7_drawTableau_11 : decode cX7_drawTableau 11 = .ok (.ifCond .eq 14, 3) := by decide +kernel
theorem dX7_drawTableau_14 : decode cX7_drawTableau 14 = .ok (.new 60, 3) := by decide +kernel
theorem dX7_drawTableau_17 : decode cX7_drawTableau 17 = .ok (.dup, 1) := by decide +kernel
theorem dX7_drawTableau_18 : decode cX7_drawTableau 18 = .ok (.ldc_w 304, 3) := by decide +kernel
theorem dX7_drawTableau_21 : decode cX7_drawTableau 21 = .ok (.invokespecial 64, 3) := by decide +kernel
theorem dX7_drawTableau_24 : decode cX7_drawTableau 24 = .ok (.athrow, 1) := by decide +kernel
theorem dX7_drawTableau_25 : decode cX7_drawTableau 25 = .ok (.aload_n 0, 1) := by decide +kernel
theorem dX7_drawTableau_26 : decode cX7_drawTableau 26 = .ok (.getfield 37, 3) := by decide +kernel
theorem dX7_drawTableau_29 : decode cX7_drawTableau 29 = .ok (.invokevirtual 306, 3) := by decide +kernel
theorem dX7_drawTableau_32 : decode cX7_drawTableau 32 = .ok (.ifCond .ne 13, 3) := by decide +kernel
theorem dX7_drawTableau_35 : decode cX7_drawTableau 35 = .ok (.aload_n 0, 1) := by decide +kernel
theorem dX7_drawTableau_36 : decode cX7_drawTableau 36 = .ok (.getfield 30, 3) := by decide +kernel
theorem dX7_drawTableau_39 : decode cX7_drawTableau 39 = .ok (.getfield 101, 3) := by decide +kernel
theorem dX7_drawTableau_42 : decode cX7_drawTableau 42 = .ok (.ifnull 14, 3) := by decide +kernel
theorem dX7_drawTableau_45 : decode cX7_drawTableau 45 = .ok (.new 60, 3) := by decide +kernel
theorem dX7_drawTableau_48 : decode cX7_drawTableau 48 = .ok (.dup, 1) := by decide +kernel
theorem dX7_drawTableau_49 : decode cX7_drawTableau 49 = .ok (.ldc_w 309, 3) := by decide +kernel
theorem dX7_drawTableau_52 : decode cX7_drawTableau 52 = .ok (.invokespecial 64, 3) := by decide +kernel
theorem dX7_drawTableau_55 : decode cX7_drawTableau 55 = .ok (.athrow, 1) := by decide +kernel
theorem dX7_drawTableau_56 : decode cX7_drawTableau 56 = .ok (.aload_n 0, 1) := by decide +kernel
theorem dX7_drawTableau_57 : decode cX7_drawTableau 57 = .ok (.getfield 30, 3) := by decide +kernel
theorem dX7_drawTableau_60 : decode cX7_drawTableau 60 = .ok (.invokevirtual 311, 3) := by decide +kernel
theorem dX7_drawTableau_63 : decode cX7_drawTableau 63 = .ok (.aload_n 0, 1) := by decide +kernel
theorem dX7_drawTableau_64 : decode cX7_drawTableau 64 = .ok (.getfield 37, 3) := by decide +kernel
theorem dX7_drawTableau_67 : decode cX7_drawTableau 67 = .ok (.aload_n 0, 1) := by decide +kernel
theorem dX7_drawTableau_68 : decode cX7_drawTableau 68 = .ok (.getfield 52, 3) := by decide +kernel
theorem dX7_drawTableau_71 : decode cX7_drawTableau 71 = .ok (.invokevirtual 314, 3) := by decide +kernel
theorem dX7_drawTableau_74 : decode cX7_drawTableau 74 = .ok (.aload_n 0, 1) := by decide +kernel
theorem dX7_drawTableau_75 : decode cX7_drawTableau 75 = .ok (.invokevirtual 287, 3) := by decide +kernel
theorem dX7_drawTableau_78 : decode cX7_drawTableau 78 = .ok (.iconst 0, 1) := by decide +kernel
theorem dX7_drawTableau_79 : decode cX7_drawTableau 79 = .ok (.istore_n 1, 1) := by decide +kernel
theorem dX7_drawTableau_80 : decode cX7_drawTableau 80 = .ok (.iload_n 1, 1) := by decide +kernel
theorem dX7_drawTableau_81 : decode cX7_drawTableau 81 = .ok (.aload_n 0, 1) := by decide +kernel
theorem dX7_drawTableau_82 : decode cX7_drawTableau 82 = .ok (.getfield 52, 3) := by decide +kernel
theorem dX7_drawTableau_85 : decode cX7_drawTableau 85 = .ok (.if_icmp .ge 24, 3) := by decide +kernel
theorem dX7_drawTableau_88 : decode cX7_drawTableau 88 = .ok (.aload_n 0, 1) := by decide +kernel
theorem dX7_drawTableau_89 : decode cX7_drawTableau 89 = .ok (.getfield 37, 3) := by decide +kernel
theorem dX7_drawTableau_92 : decode cX7_drawTableau 92 = .ok (.iload_n 1, 1) := by decide +kernel
theorem dX7_drawTableau_93 : decode cX7_drawTableau 93 = .ok (.iconst 1, 1) := by decide +kernel
theorem dX7_drawTableau_94 : decode cX7_drawTableau 94 = .ok (.iadd, 1) := by decide +kernel
theorem dX7_drawTableau_95 : decode cX7_drawTableau 95 = .ok (.aload_n 0, 1) := by decide +kernel
theorem dX7_drawTableau_96 : decode cX7_drawTableau 96 = .ok (.iload_n 1, 1) := by decide +kernel
theorem dX7_drawTableau_97 : decode cX7_drawTableau 97 = .ok (.invokevirtual 298, 3) := by decide +kernel
theorem dX7_drawTableau_100 : decode cX7_drawTableau 100 = .ok (.invokevirtual 317, 3) := by decide +kernel
theorem dX7_drawTableau_103 : decode cX7_drawTableau 103 = .ok (.iinc 1 1, 3) := by decide +kernel
theorem dX7_drawTableau_106 : decode cX7_drawTableau 106 = .ok (.goto (-26), 3) := by decide +kernel
theorem dX7_drawTableau_109 : decode cX7_drawTableau 109 = .ok (.aload_n 0, 1) := by decide +kernel
theorem dX7_drawTableau_110 : decode cX7_drawTableau 110 = .ok (.getfield 37, 3) := by decide +kernel
theorem dX7_drawTableau_113 : decode cX7_drawTableau 113 = .ok (.aload_n 0, 1) := by decide +kernel
theorem dX7_drawTableau_114 : decode cX7_drawTableau 114 = .ok (.getfield 30, 3) := by decide +kernel
theorem dX7_drawTableau_117 : decode cX7_drawTableau 117 = .ok (.invokevirtual 219, 3) := by decide +kernel
theorem dX7_drawTableau_120 : decode cX7_drawTableau 120 = .ok (.aload_n 0, 1) := by decide +kernel
theorem dX7_drawTableau_121 : decode cX7_drawTableau 121 = .ok (.getfield 37, 3) := by decide +kernel
theorem dX7_drawTableau_124 : decode cX7_drawTableau 124 = .ok (.getfield 320, 3) := by decide +kernel
theorem dX7_drawTableau_127 : decode cX7_drawTableau 127 = .ok (.ireturn, 1) := by decide +kernel
theorem dX7_size_0 : decode cX7_size 0 = .ok (.aload_n 0, 1) := by decide +kernel
theorem dX7_size_1 : decode cX7_size 1 = .ok (.getfield 37, 3) := by decide +kernel
theorem dX7_size_4 : decode cX7_size 4 = .ok (.getfield 320, 3) := by decide +kernel
theorem dX7_size_7 : decode cX7_size 7 = .ok (.ireturn, 1) := by decide +kernel
theorem dX7_nodeWinner_0 : decode cX7_nodeWinner 0 = .ok (.aload_n 0, 1) := by decide +kernel
theorem dX7_nodeWinner_1 : decode cX7_nodeWinner 1 = .ok (.getfield 37, 3) := by decide +kernel
theorem dX7_nodeWinner_4 : decode cX7_nodeWinner 4 = .ok (.iload_n 1, 1) := by decide +kernel
theorem dX7_nodeWinner_5 : decode cX7_nodeWinner 5 = .ok (.invokevirtual 323, 3) := by decide +kernel
theorem dX7_nodeWinner_8 : decode cX7_nodeWinner 8 = .ok (.ifCond .ne 14, 3) := by decide +kernel
theorem dX7_nodeWinner_11 : decode cX7_nodeWinner 11 = .ok (.new 74, 3) := by decide +kernel
theorem dX7_nodeWinner_14 : decode cX7_nodeWinner 14 = .ok (.dup, 1) := by decide +kernel
theorem dX7_nodeWinner_15 : decode cX7_nodeWinner 15 = .ok (.ldc_w 326, 3) := by decide +kernel
theorem dX7_nodeWinner_18 : decode cX7_nodeWinner 18 = .ok (.invokespecial 78, 3) := by decide +kernel
theorem dX7_nodeWinner_21 : decode cX7_nodeWinner 21 = .ok (.athrow, 1) := by decide +kernel
theorem dX7_nodeWinner_22 : decode cX7_nodeWinner 22 = .ok (.aload_n 0, 1) := by decide +kernel
theorem dX7_nodeWinner_23 : decode cX7_nodeWinner 23 = .ok (.getfield 37, 3) := by decide +kernel
theorem dX7_nodeWinner_26 : decode cX7_nodeWinner 26 = .ok (.iload_n 1, 1) := by decide +kernel
theorem dX7_nodeWinner_27 : decode cX7_nodeWinner 27 = .ok (.invokevirtual 272, 3) := by decide +kernel
theorem dX7_nodeWinner_30 : decode cX7_nodeWinner 30 = .ok (.ireturn, 1) := by decide +kernel
theorem dX7_gone_0 : decode cX7_gone 0 = .ok (.aload_n 0, 1) := by decide +kernel
theorem dX7_gone_1 : decode cX7_gone 1 = .ok (.getfield 37, 3) := by decide +kernel
theorem dX7_gone_4 : decode cX7_gone 4 = .ok (.getfield 328, 3) := by decide +kernel
theorem dX7_gone_7 : decode cX7_gone 7 = .ok (.ireturn, 1) := by decide +kernel
theorem dX7_isSide_0 : decode cX7_isSide 0 = .ok (.iload_n 0, 1) := by decide +kernel
theorem dX7_isSide_1 : decode cX7_isSide 1 = .ok (.ifCond .eq 8, 3) := by decide +kernel
theorem dX7_isSide_4 : decode cX7_isSide 4 = .ok (.iload_n 0, 1) := by decide +kernel
theorem dX7_isSide_5 : decode cX7_isSide 5 = .ok (.iconst 1, 1) := by decide +kernel
theorem dX7_isSide_6 : decode cX7_isSide 6 = .ok (.if_icmp .ne 7, 3) := by decide +kernel
theorem dX7_isSide_9 : decode cX7_isSide 9 = .ok (.iconst 1, 1) := by decide +kernel
theorem dX7_isSide_10 : decode cX7_isSide 10 = .ok (.goto 4, 3) := by decide +kernel
theorem dX7_isSide_13 : decode cX7_isSide 13 = .ok (.iconst 0, 1) := by decide +kernel
theorem dX7_isSide_14 : decode cX7_isSide 14 = .ok (.ireturn, 1) := by decide +kernel
theorem dX7_isSideOrNone_0 : decode cX7_isSideOrNone 0 = .ok (.iload_n 0, 1) := by decide +kernel
theorem dX7_isSideOrNone_1 : decode cX7_isSideOrNone 1 = .ok (.iconst (-1), 1) := by decide +kernel
theorem dX7_isSideOrNone_2 : decode cX7_isSideOrNone 2 = .ok (.if_icmp .eq 10, 3) := by decide +kernel
theorem dX7_isSideOrNone_5 : decode cX7_isSideOrNone 5 = .ok (.iload_n 0, 1) := by decide +kernel
theorem dX7_isSideOrNone_6 : decode cX7_isSideOrNone 6 = .ok (.invokestatic 144, 3) := by decide +kernel
theorem dX7_isSideOrNone_9 : decode cX7_isSideOrNone 9 = .ok (.ifCond .eq 7, 3) := by decide +kernel
theorem dX7_isSideOrNone_12 : decode cX7_isSideOrNone 12 = .ok (.iconst 1, 1) := by decide +kernel
theorem dX7_isSideOrNone_13 : decode cX7_isSideOrNone 13 = .ok (.goto 4, 3) := by decide +kernel
theorem dX7_isSideOrNone_16 : decode cX7_isSideOrNone 16 = .ok (.iconst 0, 1) := by decide +kernel
theorem dX7_isSideOrNone_17 : decode cX7_isSideOrNone 17 = .ok (.ireturn, 1) := by decide +kernel
theorem dX7_isTooEarly_0 : decode cX7_isTooEarly 0 = .ok (.aload_n 0, 1) := by decide +kernel
theorem dX7_isTooEarly_1 : decode cX7_isTooEarly 1 = .ok (.getfield 30, 3) := by decide +kernel
theorem dX7_isTooEarly_4 : decode cX7_isTooEarly 4 = .ok (.getfield 101, 3) := by decide +kernel
theorem dX7_isTooEarly_7 : decode cX7_isTooEarly 7 = .ok (.astore_n 2, 1) := by decide +kernel
theorem dX7_isTooEarly_8 : decode cX7_isTooEarly 8 = .ok (.iload_n 1, 1) := by decide +kernel
theorem dX7_isTooEarly_9 : decode cX7_isTooEarly 9 = .ok (.ifCond .lt 15, 3) := by decide +kernel
theorem dX7_isTooEarly_12 : decode cX7_isTooEarly 12 = .ok (.aload_n 2, 1) := by decide +kernel
theorem dX7_isTooEarly_13 : decode cX7_isTooEarly 13 = .ok (.ifnull 15, 3) := by decide +kernel
theorem dX7_isTooEarly_16 : decode cX7_isTooEarly 16 = .ok (.iload_n 1, 1) := by decide +kernel
theorem dX7_isTooEarly_17 : decode cX7_isTooEarly 17 = .ok (.aload_n 2, 1) := by decide +kernel
theorem dX7_isTooEarly_18 : decode cX7_isTooEarly 18 = .ok (.invokevirtual 331, 3) := by decide +kernel
theorem dX7_isTooEarly_21 : decode cX7_isTooEarly 21 = .ok (.if_icmp .ge 7, 3) := by decide +kernel
theorem dX7_isTooEarly_24 : decode cX7_isTooEarly 24 = .ok (.iconst 1, 1) := by decide +kernel
theorem dX7_isTooEarly_25 : decode cX7_isTooEarly 25 = .ok (.goto 4, 3) := by decide +kernel
theorem dX7_isTooEarly_28 : decode cX7_isTooEarly 28 = .ok (.iconst 0, 1) := by decide +kernel
theorem dX7_isTooEarly_29 : decode cX7_isTooEarly 29 = .ok (.ireturn, 1) := by decide +kernel
theorem dX7_arePoolsDrawn_0 : decode cX7_arePoolsDrawn 0 = .ok (.aload_n 0, 1) := by decide +kernel
theorem dX7_arePoolsDrawn_1 : decode cX7_arePoolsDrawn 1 = .ok (.getfield 284, 3) := by decide +kernel
theorem dX7_arePoolsDrawn_4 : decode cX7_arePoolsDrawn 4 = .ok (.ifCond .le 7, 3) := by decide +kernel
theorem dX7_arePoolsDrawn_7 : decode cX7_arePoolsDrawn 7 = .ok (.iconst 1, 1) := by decide +kernel
theorem dX7_arePoolsDrawn_8 : decode cX7_arePoolsDrawn 8 = .ok (.goto 4, 3) := by decide +kernel
theorem dX7_arePoolsDrawn_11 : decode cX7_arePoolsDrawn 11 = .ok (.iconst 0, 1) := by decide +kernel
theorem dX7_arePoolsDrawn_12 : decode cX7_arePoolsDrawn 12 = .ok (.ireturn, 1) := by decide +kernel
theorem dX7_fencerAt_0 : decode cX7_fencerAt 0 = .ok (.iload_n 1, 1) := by decide +kernel
theorem dX7_fencerAt_1 : decode cX7_fencerAt 1 = .ok (.ifCond .lt 20, 3) := by decide +kernel
theorem dX7_fencerAt_4 : decode cX7_fencerAt 4 = .ok (.iload_n 1, 1) := by decide +kernel
theorem dX7_fencerAt_5 : decode cX7_fencerAt 5 = .ok (.aload_n 0, 1) := by decide +kernel
theorem dX7_fencerAt_6 : decode cX7_fencerAt 6 = .ok (.getfield 52, 3) := by decide +kernel
theorem dX7_fencerAt_9 : decode cX7_fencerAt 9 = .ok (.if_icmp .ge 12, 3) := by decide +kernel
theorem dX7_fencerAt_12 : decode cX7_fencerAt 12 = .ok (.aload_n 0, 1) := by decide +kernel
theorem dX7_fencerAt_13 : decode cX7_fencerAt 13 = .ok (.getfield 11, 3) := by decide +kernel
theorem dX7_fencerAt_16 : decode cX7_fencerAt 16 = .ok (.iload_n 1, 1) := by decide +kernel
theorem dX7_fencerAt_17 : decode cX7_fencerAt 17 = .ok (.aaload, 1) := by decide +kernel
theorem dX7_fencerAt_18 : decode cX7_fencerAt 18 = .ok (.goto 4, 3) := by decide +kernel
theorem dX7_fencerAt_21 : decode cX7_fencerAt 21 = .ok (.aconst_null, 1) := by decide +kernel
theorem dX7_fencerAt_22 : decode cX7_fencerAt 22 = .ok (.areturn, 1) := by decide +kernel
theorem dX7_weaponAt_0 : decode cX7_weaponAt 0 = .ok (.iload_n 1, 1) := by decide +kernel
theorem dX7_weaponAt_1 : decode cX7_weaponAt 1 = .ok (.ifCond .lt 20, 3) := by decide +kernel
theorem dX7_weaponAt_4 : decode cX7_weaponAt 4 = .ok (.iload_n 1, 1) := by decide +kernel
theorem dX7_weaponAt_5 : decode cX7_weaponAt 5 = .ok (.aload_n 0, 1) := by decide +kernel
theorem dX7_weaponAt_6 : decode cX7_weaponAt 6 = .ok (.getfield 79, 3) := by decide +kernel
theorem dX7_weaponAt_9 : decode cX7_weaponAt 9 = .ok (.if_icmp .ge 12, 3) := by decide +kernel
theorem dX7_weaponAt_12 : decode cX7_weaponAt 12 = .ok (.aload_n 0, 1) := by decide +kernel
theorem dX7_weaponAt_13 : decode cX7_weaponAt 13 = .ok (.getfield 17, 3) := by decide +kernel
theorem dX7_weaponAt_16 : decode cX7_weaponAt 16 = .ok (.iload_n 1, 1) := by decide +kernel
theorem dX7_weaponAt_17 : decode cX7_weaponAt 17 = .ok (.aaload, 1) := by decide +kernel
theorem dX7_weaponAt_18 : decode cX7_weaponAt 18 = .ok (.goto 4, 3) := by decide +kernel
theorem dX7_weaponAt_21 : decode cX7_weaponAt 21 = .ok (.aconst_null, 1) := by decide +kernel
theorem dX7_weaponAt_22 : decode cX7_weaponAt 22 = .ok (.areturn, 1) := by decide +kernel
theorem dX7_boutAt_0 : decode cX7_boutAt 0 = .ok (.iload_n 1, 1) := by decide +kernel
theorem dX7_boutAt_1 : decode cX7_boutAt 1 = .ok (.ifCond .lt 18, 3) := by decide +kernel
theorem dX7_boutAt_4 : decode cX7_boutAt 4 = .ok (.iload_n 1, 1) := by decide +kernel
theorem dX7_boutAt_5 : decode cX7_boutAt 5 = .ok (.aload_n 0, 1) := by decide +kernel
theorem dX7_boutAt_6 : decode cX7_boutAt 6 = .ok (.getfield 284, 3) := by decide +kernel
theorem dX7_boutAt_9 : decode cX7_boutAt 9 = .ok (.if_icmp .ge 10, 3) := by decide +kernel
theorem dX7_boutAt_12 : decode cX7_boutAt 12 = .ok (.aload_n 0, 1) := by decide +kernel
theorem dX7_boutAt_13 : decode cX7_boutAt 13 = .ok (.getfield 23, 3) := by decide +kernel
theorem dX7_boutAt_16 : decode cX7_boutAt 16 = .ok (.iload_n 1, 1) := by decide +kernel
theorem dX7_boutAt_17 : decode cX7_boutAt 17 = .ok (.aaload, 1) := by decide +kernel
theorem dX7_boutAt_18 : decode cX7_boutAt 18 = .ok (.areturn, 1) := by decide +kernel
theorem dX7_boutAt_19 : decode cX7_boutAt 19 = .ok (.iload_n 1, 1) := by decide +kernel
theorem dX7_boutAt_20 : decode cX7_boutAt 20 = .ok (.bipush 100, 2) := by decide +kernel
theorem dX7_boutAt_22 : decode cX7_boutAt 22 = .ok (.if_icmp .le 17, 3) := by decide +kernel
theorem dX7_boutAt_25 : decode cX7_boutAt 25 = .ok (.aload_n 0, 1) := by decide +kernel
theorem dX7_boutAt_26 : decode cX7_boutAt 26 = .ok (.getfield 37, 3) := by decide +kernel
theorem dX7_boutAt_29 : decode cX7_boutAt 29 = .ok (.iload_n 1, 1) := by decide +kernel
theorem dX7_boutAt_30 : decode cX7_boutAt 30 = .ok (.bipush 100, 2) := by decide +kernel
theorem dX7_boutAt_32 : decode cX7_boutAt 32 = .ok (.isub, 1) := by decide +kernel
theorem dX7_boutAt_33 : decode cX7_boutAt 33 = .ok (.invokevirtual 334, 3) := by decide +kernel
theorem dX7_boutAt_36 : decode cX7_boutAt 36 = .ok (.goto 4, 3) := by decide +kernel
theorem dX7_boutAt_39 : decode cX7_boutAt 39 = .ok (.aconst_null, 1) := by decide +kernel
theorem dX7_boutAt_40 : decode cX7_boutAt 40 = .ok (.areturn, 1) := by decide +kernel
theorem dX7_fail_0 : decode cX7_fail 0 = .ok (.aload_n 1, 1) := by decide +kernel
theorem dX7_fail_1 : decode cX7_fail 1 = .ok (.iconst 2, 1) := by decide +kernel
theorem dX7_fail_2 : decode cX7_fail 2 = .ok (.putfield 98, 3) := by decide +kernel
theorem dX7_fail_5 : decode cX7_fail 5 = .ok (.aload_n 1, 1) := by decide +kernel
theorem dX7_fail_6 : decode cX7_fail 6 = .ok (.aload_n 0, 1) := by decide +kernel
theorem dX7_fail_7 : decode cX7_fail 7 = .ok (.getfield 37, 3) := by decide +kernel
theorem dX7_fail_10 : decode cX7_fail 10 = .ok (.invokevirtual 306, 3) := by decide +kernel
theorem dX7_fail_13 : decode cX7_fail 13 = .ok (.ifCond .ne 7, 3) := by decide +kernel
theorem dX7_fail_16 : decode cX7_fail 16 = .ok (.iconst 1, 1) := by decide +kernel
theorem dX7_fail_17 : decode cX7_fail 17 = .ok (.goto 4, 3) := by decide +kernel
theorem dX7_fail_20 : decode cX7_fail 20 = .ok (.iconst 0, 1) := by decide +kernel
theorem dX7_fail_21 : decode cX7_fail 21 = .ok (.putfield 335, 3) := by decide +kernel
theorem dX7_fail_24 : decode cX7_fail 24 = .ok (.iconst 0, 1) := by decide +kernel
theorem dX7_fail_25 : decode cX7_fail 25 = .ok (.istore_n 2, 1) := by decide +kernel
theorem dX7_fail_26 : decode cX7_fail 26 = .ok (.iload_n 2, 1) := by decide +kernel
theorem dX7_fail_27 : decode cX7_fail 27 = .ok (.aload_n 0, 1) := by decide +kernel
theorem dX7_fail_28 : decode cX7_fail 28 = .ok (.getfield 284, 3) := by decide +kernel
theorem dX7_fail_31 : decode cX7_fail 31 = .ok (.if_icmp .ge 24, 3) := by decide +kernel
theorem dX7_fail_34 : decode cX7_fail 34 = .ok (.aload_n 0, 1) := by decide +kernel
theorem dX7_fail_35 : decode cX7_fail 35 = .ok (.getfield 23, 3) := by decide +kernel
theorem dX7_fail_38 : decode cX7_fail 38 = .ok (.iload_n 2, 1) := by decide +kernel
theorem dX7_fail_39 : decode cX7_fail 39 = .ok (.aaload, 1) := by decide +kernel
theorem dX7_fail_40 : decode cX7_fail 40 = .ok (.astore_n 3, 1) := by decide +kernel
theorem dX7_fail_41 : decode cX7_fail 41 = .ok (.aload_n 3, 1) := by decide +kernel
theorem dX7_fail_42 : decode cX7_fail 42 = .ok (.ifnull 7, 3) := by decide +kernel
theorem dX7_fail_45 : decode cX7_fail 45 = .ok (.aload_n 3, 1) := by decide +kernel
theorem dX7_fail_46 : decode cX7_fail 46 = .ok (.invokevirtual 246, 3) := by decide +kernel
theorem dX7_fail_49 : decode cX7_fail 49 = .ok (.iinc 2 1, 3) := by decide +kernel
theorem dX7_fail_52 : decode cX7_fail 52 = .ok (.goto (-26), 3) := by decide +kernel
theorem dX7_fail_55 : decode cX7_fail 55 = .ok (.aload_n 0, 1) := by decide +kernel
theorem dX7_fail_56 : decode cX7_fail 56 = .ok (.getfield 37, 3) := by decide +kernel
theorem dX7_fail_59 : decode cX7_fail 59 = .ok (.invokevirtual 338, 3) := by decide +kernel
theorem dX7_fail_62 : decode cX7_fail 62 = .ok (.aload_n 0, 1) := by decide +kernel
theorem dX7_fail_63 : decode cX7_fail 63 = .ok (.getfield 37, 3) := by decide +kernel
theorem dX7_fail_66 : decode cX7_fail 66 = .ok (.aload_n 0, 1) := by decide +kernel
theorem dX7_fail_67 : decode cX7_fail 67 = .ok (.getfield 30, 3) := by decide +kernel
theorem dX7_fail_70 : decode cX7_fail 70 = .ok (.invokevirtual 219, 3) := by decide +kernel
theorem dX7_fail_73 : decode cX7_fail 73 = .ok (.return_, 1) := by decide +kernel
theorem dX7_drawPool_0 : decode cX7_drawPool 0 = .ok (.iconst 0, 1) := by decide +kernel
theorem dX7_drawPool_1 : decode cX7_drawPool 1 = .ok (.istore_n 3, 1) := by decide +kernel
theorem dX7_drawPool_2 : decode cX7_drawPool 2 = .ok (.iload_n 3, 1) := by decide +kernel
theorem dX7_drawPool_3 : decode cX7_drawPool 3 = .ok (.aload_n 0, 1) := by decide +kernel
theorem dX7_drawPool_4 : decode cX7_drawPool 4 = .ok (.getfield 52, 3) := by decide +kernel
theorem dX7_drawPool_7 : decode cX7_drawPool 7 = .ok (.if_icmp .ge 55, 3) := by decide +kernel
theorem dX7_drawPool_10 : decode cX7_drawPool 10 = .ok (.iload_n 3, 1) := by decide +kernel
theorem dX7_drawPool_11 : decode cX7_drawPool 11 = .ok (.iconst 1, 1) := by decide +kernel
theorem dX7_drawPool_12 : decode cX7_drawPool 12 = .ok (.iadd, 1) := by decide +kernel
theorem dX7_drawPool_13 : decode cX7_drawPool 13 = .ok (.istore 4, 2) := by decide +kernel
theorem dX7_drawPool_15 : decode cX7_drawPool 15 = .ok (.iload 4, 2) := by decide +kernel
theorem dX7_drawPool_17 : decode cX7_drawPool 17 = .ok (.aload_n 0, 1) := by decide +kernel
theorem dX7_drawPool_18 : decode cX7_drawPool 18 = .ok (.getfield 52, 3) := by decide +kernel
theorem dX7_drawPool_21 : decode cX7_drawPool 21 = .ok (.if_icmp .ge 35, 3) := by decide +kernel
theorem dX7_drawPool_24 : decode cX7_drawPool 24 = .ok (.iload_n 3, 1) := by decide +kernel
theorem dX7_drawPool_25 : decode cX7_drawPool 25 = .ok (.iload_n 2, 1) := by decide +kernel
theorem dX7_drawPool_26 : decode cX7_drawPool 26 = .ok (.invokestatic 339, 3) := by decide +kernel
theorem dX7_drawPool_29 : decode cX7_drawPool 29 = .ok (.iload_n 1, 1) := by decide +kernel
theorem dX7_drawPool_30 : decode cX7_drawPool 30 = .ok (.if_icmp .ne 20, 3) := by decide +kernel
theorem dX7_drawPool_33 : decode cX7_drawPool 33 = .ok (.iload 4, 2) := by decide +kernel
theorem dX7_drawPool_35 : decode cX7_drawPool 35 = .ok (.iload_n 2, 1) := by decide +kernel
theorem dX7_drawPool_36 : decode cX7_drawPool 36 = .ok (.invokestatic 339, 3) := by decide +kernel
theorem dX7_drawPool_39 : decode cX7_drawPool 39 = .ok (.iload_n 1, 1) := by decide +kernel
theorem dX7_drawPool_40 : decode cX7_drawPool 40 = .ok (.if_icmp .ne 10, 3) := by decide +kernel
theorem dX7_drawPool_43 : decode cX7_drawPool 43 = .ok (.aload_n 0, 1) := by decide +kernel
theorem dX7_drawPool_44 : decode cX7_drawPool 44 = .ok (.iload_n 3, 1) := by decide +kernel
theorem dX7_drawPool_45 : decode cX7_drawPool 45 = .ok (.iload 4, 2) := by decide +kernel
theorem dX7_drawPool_47 : decode cX7_drawPool 47 = .ok (.invokevirtual 343, 3) := by decide +kernel
theorem dX7_drawPool_50 : decode cX7_drawPool 50 = .ok (.iinc 4 1, 3) := by decide +kernel
theorem dX7_drawPool_53 : decode cX7_drawPool 53 = .ok (.goto (-38), 3) := by decide +kernel
theorem dX7_drawPool_56 : decode cX7_drawPool 56 = .ok (.iinc 3 1, 3) := by decide +kernel
theorem dX7_drawPool_59 : decode cX7_drawPool 59 = .ok (.goto (-57), 3) := by decide +kernel
theorem dX7_drawPool_62 : decode cX7_drawPool 62 = .ok (.return_, 1) := by decide +kernel
theorem dX7_poolOf_0 : decode cX7_poolOf 0 = .ok (.iload_n 1, 1) := by decide +kernel
theorem dX7_poolOf_1 : decode cX7_poolOf 1 = .ok (.ifCond .le 9, 3) := by decide +kernel
theorem dX7_poolOf_4 : decode cX7_poolOf 4 = .ok (.iload_n 0, 1) := by decide +kernel
theorem dX7_poolOf_5 : decode cX7_poolOf 5 = .ok (.iload_n 1, 1) := by decide +kernel
theorem dX7_poolOf_6 : decode cX7_poolOf 6 = .ok (.irem, 1) := by decide +kernel
theorem dX7_poolOf_7 : decode cX7_poolOf 7 = .ok (.goto 4, 3) := by decide +kernel
theorem dX7_poolOf_10 : decode cX7_poolOf 10 = .ok (.iconst (-1), 1) := by decide +kernel
theorem dX7_poolOf_11 : decode cX7_poolOf 11 = .ok (.ireturn, 1) := by decide +kernel
theorem dX7_addPoolBout_0 : decode cX7_addPoolBout 0 = .ok (.aload_n 0, 1) := by decide +kernel
theorem dX7_addPoolBout_1 : decode cX7_addPoolBout 1 = .ok (.getfield 284, 3) := by decide +kernel
theorem dX7_addPoolBout_4 : decode cX7_addPoolBout 4 = .ok (.bipush 66, 2) := by decide +kernel
theorem dX7_addPoolBout_6 : decode cX7_addPoolBout 6 = .ok (.if_icmp .ge 32, 3) := by decide +kernel
theorem dX7_addPoolBout_9 : decode cX7_addPoolBout 9 = .ok (.aload_n 0, 1) := by decide +kernel
theorem dX7_addPoolBout_10 : decode cX7_addPoolBout 10 = .ok (.getfield 23, 3) := by decide +kernel
theorem dX7_addPoolBout_13 : decode cX7_addPoolBout 13 = .ok (.aload_n 0, 1) := by decide +kernel
theorem dX7_addPoolBout_14 : decode cX7_addPoolBout 14 = .ok (.getfield 284, 3) := by decide +kernel
theorem dX7_addPoolBout_17 : decode cX7_addPoolBout 17 = .ok (.new 21, 3) := by decide +kernel
theorem dX7_addPoolBout_20 : decode cX7_addPoolBout 20 = .ok (.dup, 1) := by decide +kernel
theorem dX7_addPoolBout_21 : decode cX7_addPoolBout 21 = .ok (.iconst 1, 1) := by decide +kernel
theorem dX7_addPoolBout_22 : decode cX7_addPoolBout 22 = .ok (.iload_n 1, 1) := by decide +kernel
theorem dX7_addPoolBout_23 : decode cX7_addPoolBout 23 = .ok (.iload_n 2, 1) := by decide +kernel
theorem dX7_addPoolBout_24 : decode cX7_addPoolBout 24 = .ok (.invokespecial 346, 3) := by decide +kernel
theorem dX7_addPoolBout_27 : decode cX7_addPoolBout 27 = .ok (.aastore, 1) := by decide +kernel
theorem dX7_addPoolBout_28 : decode cX7_addPoolBout 28 = .ok (.aload_n 0, 1) := by decide +kernel
theorem dX7_addPoolBout_29 : decode cX7_addPoolBout 29 = .ok (.dup, 1) := by decide +kernel
theorem dX7_addPoolBout_30 : decode cX7_addPoolBout 30 = .ok (.getfield 284, 3) := by decide +kernel
theorem dX7_addPoolBout_33 : decode cX7_addPoolBout 33 = .ok (.iconst 1, 1) := by decide +kernel
theorem dX7_addPoolBout_34 : decode cX7_addPoolBout 34 = .ok (.iadd, 1) := by decide +kernel
theorem dX7_addPoolBout_35 : decode cX7_addPoolBout 35 = .ok (.putfield 284, 3) := by decide +kernel
theorem dX7_addPoolBout_38 : decode cX7_addPoolBout 38 = .ok (.return_, 1) := by decide +kernel
theorem dX7_isAPoolBoutOpen_0 : decode cX7_isAPoolBoutOpen 0 = .ok (.iconst 0, 1) := by decide +kernel
theorem dX7_isAPoolBoutOpen_1 : decode cX7_isAPoolBoutOpen 1 = .ok (.istore_n 1, 1) := by decide +kernel
theorem dX7_isAPoolBoutOpen_2 : decode cX7_isAPoolBoutOpen 2 = .ok (.iload_n 1, 1) := by decide +kernel
theorem dX7_isAPoolBoutOpen_3 : decode cX7_isAPoolBoutOpen 3 = .ok (.aload_n 0, 1) := by decide +kernel
theorem dX7_isAPoolBoutOpen_4 : decode cX7_isAPoolBoutOpen 4 = .ok (.getfield 284, 3) := by decide +kernel
theorem dX7_isAPoolBoutOpen_7 : decode cX7_isAPoolBoutOpen 7 = .ok (.if_icmp .ge 30, 3) := by decide +kernel
theorem dX7_isAPoolBoutOpen_10 : decode cX7_isAPoolBoutOpen 10 = .ok (.aload_n 0, 1) := by decide +kernel
theorem dX7_isAPoolBoutOpen_11 : decode cX7_isAPoolBoutOpen 11 = .ok (.getfield 23, 3) := by decide +kernel
theorem dX7_isAPoolBoutOpen_14 : decode cX7_isAPoolBoutOpen 14 = .ok (.iload_n 1, 1) := by decide +kernel
theorem dX7_isAPoolBoutOpen_15 : decode cX7_isAPoolBoutOpen 15 = .ok (.aaload, 1) := by decide +kernel
theorem dX7_isAPoolBoutOpen_16 : decode cX7_isAPoolBoutOpen 16 = .ok (.astore_n 2, 1) := by decide +kernel
theorem dX7_isAPoolBoutOpen_17 : decode cX7_isAPoolBoutOpen 17 = .ok (.aload_n 2, 1) := by decide +kernel
theorem dX7_isAPoolBoutOpen_18 : decode cX7_isAPoolBoutOpen 18 = .ok (.ifnull 13, 3) := by decide +kernel
theorem dX7_isAPoolBoutOpen_21 : decode cX7_isAPoolBoutOpen 21 = .ok (.aload_n 2, 1) := by decide +kernel
theorem dX7_isAPoolBoutOpen_22 : decode cX7_isAPoolBoutOpen 22 = .ok (.invokevirtual 349, 3) := by decide +kernel
theorem dX7_isAPoolBoutOpen_25 : decode cX7_isAPoolBoutOpen 25 = .ok (.iconst (-1), 1) := by decide +kernel
theorem dX7_isAPoolBoutOpen_26 : decode cX7_isAPoolBoutOpen 26 = .ok (.if_icmp .ne 5, 3) := by decide +kernel
theorem dX7_isAPoolBoutOpen_29 : decode cX7_isAPoolBoutOpen 29 = .ok (.iconst 1, 1) := by decide +kernel
theorem dX7_isAPoolBoutOpen_30 : decode cX7_isAPoolBoutOpen 30 = .ok (.ireturn, 1) := by decide +kernel
theorem dX7_isAPoolBoutOpen_31 : decode cX7_isAPoolBoutOpen 31 = .ok (.iinc 1 1, 3) := by decide +kernel
theorem dX7_isAPoolBoutOpen_34 : decode cX7_isAPoolBoutOpen 34 = .ok (.goto (-32), 3) := by decide +kernel
theorem dX7_isAPoolBoutOpen_37 : decode cX7_isAPoolBoutOpen 37 = .ok (.iconst 0, 1) := by decide +kernel
theorem dX7_isAPoolBoutOpen_38 : decode cX7_isAPoolBoutOpen 38 = .ok (.ireturn, 1) := by decide +kernel
theorem dX7_countPools_0 : decode cX7_countPools 0 = .ok (.iconst 0, 1) := by decide +kernel
theorem dX7_countPools_1 : decode cX7_countPools 1 = .ok (.istore_n 1, 1) := by decide +kernel
theorem dX7_countPools_2 : decode cX7_countPools 2 = .ok (.iload_n 1, 1) := by decide +kernel
theorem dX7_countPools_3 : decode cX7_countPools 3 = .ok (.aload_n 0, 1) := by decide +kernel
theorem dX7_countPools_4 : decode cX7_countPools 4 = .ok (.getfield 52, 3) := by decide +kernel
theorem dX7_countPools_7 : decode cX7_countPools 7 = .ok (.if_icmp .ge 23, 3) := by decide +kernel
theorem dX7_countPools_10 : decode cX7_countPools 10 = .ok (.aload_n 0, 1) := by decide +kernel
theorem dX7_countPools_11 : decode cX7_countPools 11 = .ok (.iload_n 1, 1) := by decide +kernel
theorem dX7_countPools_12 : decode cX7_countPools 12 = .ok (.invokevirtual 70, 3) := by decide +kernel
theorem dX7_countPools_15 : decode cX7_countPools 15 = .ok (.astore_n 2, 1) := by decide +kernel
theorem dX7_countPools_16 : decode cX7_countPools 16 = .ok (.aload_n 2, 1) := by decide +kernel
theorem dX7_countPools_17 : decode cX7_countPools 17 = .ok (.ifnull 7, 3) := by decide +kernel
theorem dX7_countPools_20 : decode cX7_countPools 20 = .ok (.aload_n 2, 1) := by decide +kernel
theorem dX7_countPools_21 : decode cX7_countPools 21 = .ok (.invokevirtual 352, 3) := by decide +kernel
theorem dX7_countPools_24 : decode cX7_countPools 24 = .ok (.iinc 1 1, 3) := by decide +kernel
theorem dX7_countPools_27 : decode cX7_countPools 27 = .ok (.goto (-25), 3) := by decide +kernel
theorem dX7_countPools_30 : decode cX7_countPools 30 = .ok (.iconst 0, 1) := by decide +kernel
theorem dX7_countPools_31 : decode cX7_countPools 31 = .ok (.istore_n 1, 1) := by decide +kernel
theorem dX7_countPools_32 : decode cX7_countPools 32 = .ok (.iload_n 1, 1) := by decide +kernel
theorem dX7_countPools_33 : decode cX7_countPools 33 = .ok (.aload_n 0, 1) := by decide +kernel
theorem dX7_countPools_34 : decode cX7_countPools 34 = .ok (.getfield 284, 3) := by decide +kernel
theorem dX7_countPools_37 : decode cX7_countPools 37 = .ok (.if_icmp .ge 40, 3) := by decide +kernel
theorem dX7_countPools_40 : decode cX7_countPools 40 = .ok (.aload_n 0, 1) := by decide +kernel
theorem dX7_countPools_41 : decode cX7_countPools 41 = .ok (.getfield 23, 3) := by decide +kernel
theorem dX7_countPools_44 : decode cX7_countPools 44 = .ok (.iload_n 1, 1) := by decide +kernel
theorem dX7_countPools_45 : decode cX7_countPools 45 = .ok (.aaload, 1) := by decide +kernel
theorem dX7_countPools_46 : decode cX7_countPools 46 = .ok (.astore_n 2, 1) := by decide +kernel
theorem dX7_countPools_47 : decode cX7_countPools 47 = .ok (.aload_n 2, 1) := by decide +kernel
theorem dX7_countPools_48 : decode cX7_countPools 48 = .ok (.ifnull 23, 3) := by decide +kernel
theorem dX7_countPools_51 : decode cX7_countPools 51 = .ok (.aload_n 2, 1) := by decide +kernel
theorem dX7_countPools_52 : decode cX7_countPools 52 = .ok (.invokevirtual 349, 3) := by decide +kernel
theorem dX7_countPools_55 : decode cX7_countPools 55 = .ok (.iconst (-1), 1) := by decide +kernel
theorem dX7_countPools_56 : decode cX7_countPools 56 = .ok (.if_icmp .eq 15, 3) := by decide +kernel
theorem dX7_countPools_59 : decode cX7_countPools 59 = .ok (.aload_n 0, 1) := by decide +kernel
theorem dX7_countPools_60 : decode cX7_countPools 60 = .ok (.aload_n 2, 1) := by decide +kernel
theorem dX7_countPools_61 : decode cX7_countPools 61 = .ok (.iconst 0, 1) := by decide +kernel
theorem dX7_countPools_62 : decode cX7_countPools 62 = .ok (.invokevirtual 355, 3) := by decide +kernel
theorem dX7_countPools_65 : decode cX7_countPools 65 = .ok (.aload_n 0, 1) := by decide +kernel
theorem dX7_countPools_66 : decode cX7_countPools 66 = .ok (.aload_n 2, 1) := by decide +kernel
theorem dX7_countPools_67 : decode cX7_countPools 67 = .ok (.iconst 1, 1) := by decide +kernel
theorem dX7_countPools_68 : decode cX7_countPools 68 = .ok (.invokevirtual 355, 3) := by decide +kernel
theorem dX7_countPools_71 : decode cX7_countPools 71 = .ok (.iinc 1 1, 3) := by decide +kernel
theorem dX7_countPools_74 : decode cX7_countPools 74 = .ok (.goto (-42), 3) := by decide +kernel
theorem dX7_countPools_77 : decode cX7_countPools 77 = .ok (.return_, 1) := by decide +kernel
theorem dX7_countSide_0 : decode cX7_countSide 0 = .ok (.aload_n 0, 1) := by decide +kernel
theorem dX7_countSide_1 : decode cX7_countSide 1 = .ok (.aload_n 1, 1) := by decide +kernel
theorem dX7_countSide_2 : decode cX7_countSide 2 = .ok (.iload_n 2, 1) := by decide +kernel
theorem dX7_countSide_3 : decode cX7_countSide 3 = .ok (.invokevirtual 155, 3) := by decide +kernel
theorem dX7_countSide_6 : decode cX7_countSide 6 = .ok (.invokevirtual 70, 3) := by decide +kernel
theorem dX7_countSide_9 : decode cX7_countSide 9 = .ok (.astore_n 3, 1) := by decide +kernel
theorem dX7_countSide_10 : decode cX7_countSide 10 = .ok (.aload_n 3, 1) := by decide +kernel
theorem dX7_countSide_11 : decode cX7_countSide 11 = .ok (.ifnull 38, 3) := by decide +kernel
theorem dX7_countSide_14 : decode cX7_countSide 14 = .ok (.aload_n 3, 1) := by decide +kernel
theorem dX7_countSide_15 : decode cX7_countSide 15 = .ok (.aload_n 1, 1) := by decide +kernel
theorem dX7_countSide_16 : decode cX7_countSide 16 = .ok (.getfield 254, 3) := by decide +kernel
theorem dX7_countSide_19 : decode cX7_countSide 19 = .ok (.iload_n 2, 1) := by decide +kernel
theorem dX7_countSide_20 : decode cX7_countSide 20 = .ok (.invokevirtual 257, 3) := by decide +kernel
theorem dX7_countSide_23 : decode cX7_countSide 23 = .ok (.aload_n 1, 1) := by decide +kernel
theorem dX7_countSide_24 : decode cX7_countSide 24 = .ok (.getfield 254, 3) := by decide +kernel
theorem dX7_countSide_27 : decode cX7_countSide 27 = .ok (.iconst 1, 1) := by decide +kernel
theorem dX7_countSide_28 : decode cX7_countSide 28 = .ok (.iload_n 2, 1) := by decide +kernel
theorem dX7_countSide_29 : decode cX7_countSide 29 = .ok (.isub, 1) := by decide +kernel
theorem dX7_countSide_30 : decode cX7_countSide 30 = .ok (.invokevirtual 257, 3) := by decide +kernel
theorem dX7_countSide_33 : decode cX7_countSide 33 = .ok (.aload_n 1, 1) := by decide +kernel
theorem dX7_countSide_34 : decode cX7_countSide 34 = .ok (.invokevirtual 349, 3) := by decide +kernel
theorem dX7_countSide_37 : decode cX7_countSide 37 = .ok (.iload_n 2, 1) := by decide +kernel
theorem dX7_countSide_38 : decode cX7_countSide 38 = .ok (.if_icmp .ne 7, 3) := by decide +kernel
theorem dX7_countSide_41 : decode cX7_countSide 41 = .ok (.iconst 1, 1) := by decide +kernel
theorem dX7_countSide_42 : decode cX7_countSide 42 = .ok (.goto 4, 3) := by decide +kernel
theorem dX7_countSide_45 : decode cX7_countSide 45 = .ok (.iconst 0, 1) := by decide +kernel
theorem dX7_countSide_46 : decode cX7_countSide 46 = .ok (.invokevirtual 359, 3) := by decide +kernel
theorem dX7_countSide_49 : decode cX7_countSide 49 = .ok (.return_, 1) := by decide +kernel
theorem dX7_fencerInPlace_0 : decode cX7_fencerInPlace 0 = .ok (.iconst 0, 1) := by decide +kernel
theorem dX7_fencerInPlace_1 : decode cX7_fencerInPlace 1 = .ok (.istore_n 2, 1) := by decide +kernel
theorem dX7_fencerInPlace_2 : decode cX7_fencerInPlace 2 = .ok (.iload_n 2, 1) := by decide +kernel
theorem dX7_fencerInPlace_3 : decode cX7_fencerInPlace 3 = .ok (.aload_n 0, 1) := by decide +kernel
theorem dX7_fencerInPlace_4 : decode cX7_fencerInPlace 4 = .ok (.getfield 52, 3) := by decide +kernel
theorem dX7_fencerInPlace_7 : decode cX7_fencerInPlace 7 = .ok (.if_icmp .ge 30, 3) := by decide +kernel
theorem dX7_fencerInPlace_10 : decode cX7_fencerInPlace 10 = .ok (.aload_n 0, 1) := by decide +kernel
theorem dX7_fencerInPlace_11 : decode cX7_fencerInPlace 11 = .ok (.iload_n 2, 1) := by decide +kernel
theorem dX7_fencerInPlace_12 : decode cX7_fencerInPlace 12 = .ok (.invokevirtual 70, 3) := by decide +kernel
theorem dX7_fencerInPlace_15 : decode cX7_fencerInPlace 15 = .ok (.astore_n 3, 1) := by decide +kernel
theorem dX7_fencerInPlace_16 : decode cX7_fencerInPlace 16 = .ok (.aload_n 3, 1) := by decide +kernel
theorem dX7_fencerInPlace_17 : decode cX7_fencerInPlace 17 = .ok (.ifnull 14, 3) := by decide +kernel
theorem dX7_fencerInPlace_20 : decode cX7_fencerInPlace 20 = .ok (.aload_n 0, 1) := by decide +kernel
theorem dX7_fencerInPlace_21 : decode cX7_fencerInPlace 21 = .ok (.aload_n 3, 1) := by decide +kernel
theorem dX7_fencerInPlace_22 : decode cX7_fencerInPlace 22 = .ok (.invokevirtual 363, 3) := by decide +kernel
theorem dX7_fencerInPlace_25 : decode cX7_fencerInPlace 25 = .ok (.iload_n 1, 1) := by decide +kernel
theorem dX7_fencerInPlace_26 : decode cX7_fencerInPlace 26 = .ok (.if_icmp .ne 5, 3) := by decide +kernel
theorem dX7_fencerInPlace_29 : decode cX7_fencerInPlace 29 = .ok (.iload_n 2, 1) := by decide +kernel
theorem dX7_fencerInPlace_30 : decode cX7_fencerInPlace 30 = .ok (.ireturn, 1) := by decide +kernel
theorem dX7_fencerInPlace_31 : decode cX7_fencerInPlace 31 = .ok (.iinc 2 1, 3) := by decide +kernel
theorem dX7_fencerInPlace_34 : decode cX7_fencerInPlace 34 = .ok (.goto (-32), 3) := by decide +kernel
theorem dX7_fencerInPlace_37 : decode cX7_fencerInPlace 37 = .ok (.iconst (-1), 1) := by decide +kernel
theorem dX7_fencerInPlace_38 : decode cX7_fencerInPlace 38 = .ok (.ireturn, 1) := by decide +kernel
theorem dX7_fencersAhead_0 : decode cX7_fencersAhead 0 = .ok (.iconst 0, 1) := by decide +kernel
theorem dX7_fencersAhead_1 : decode cX7_fencersAhead 1 = .ok (.istore_n 2, 1) := by decide +kernel
theorem dX7_fencersAhead_2 : decode cX7_fencersAhead 2 = .ok (.iconst 0, 1) := by decide +kernel
theorem dX7_fencersAhead_3 : decode cX7_fencersAhead 3 = .ok (.istore_n 3, 1) := by decide +kernel
theorem dX7_fencersAhead_4 : decode cX7_fencersAhead 4 = .ok (.iload_n 3, 1) := by decide +kernel
theorem dX7_fencersAhead_5 : decode cX7_fencersAhead 5 = .ok (.aload_n 0, 1) := by decide +kernel
theorem dX7_fencersAhead_6 : decode cX7_fencersAhead 6 = .ok (.getfield 52, 3) := by decide +kernel
theorem dX7_fencersAhead_9 : decode cX7_fencersAhead 9 = .ok (.if_icmp .ge 33, 3) := by decide +kernel
theorem dX7_fencersAhead_12 : decode cX7_fencersAhead 12 = .ok (.aload_n 0, 1) := by decide +kernel
theorem dX7_fencersAhead_13 : decode cX7_fencersAhead 13 = .ok (.iload_n 3, 1) := by decide +kernel
theorem dX7_fencersAhead_14 : decode cX7_fencersAhead 14 = .ok (.invokevirtual 70, 3) := by decide +kernel
theorem dX7_fencersAhead_17 : decode cX7_fencersAhead 17 = .ok (.astore 4, 2) := by decide +kernel
theorem dX7_fencersAhead_19 : decode cX7_fencersAhead 19 = .ok (.aload 4, 2) := by decide +kernel
theorem dX7_fencersAhead_21 : decode cX7_fencersAhead 21 = .ok (.ifnull 15, 3) := by decide +kernel
theorem dX7_fencersAhead_24 : decode cX7_fencersAhead 24 = .ok (.aload 4, 2) := by decide +kernel
theorem dX7_fencersAhead_26 : decode cX7_fencersAhead 26 = .ok (.aload_n 1, 1) := by decide +kernel
theorem dX7_fencersAhead_27 : decode cX7_fencersAhead 27 = .ok (.invokevirtual 367, 3) := by decide +kernel
theorem dX7_fencersAhead_30 : decode cX7_fencersAhead 30 = .ok (.ifCond .eq 6, 3) := by decide +kernel
theorem dX7_fencersAhead_33 : decode cX7_fencersAhead 33 = .ok (.iinc 2 1, 3) := by decide +kernel
theorem dX7_fencersAhead_36 : decode cX7_fencersAhead 36 = .ok (.iinc 3 1, 3) := by decide +kernel
theorem dX7_fencersAhead_39 : decode cX7_fencersAhead 39 = .ok (.goto (-35), 3) := by decide +kernel
theorem dX7_fencersAhead_42 : decode cX7_fencersAhead 42 = .ok (.iload_n 2, 1) := by decide +kernel
theorem dX7_fencersAhead_43 : decode cX7_fencersAhead 43 = .ok (.ireturn, 1) := by decide +kernel
theorem dL_from_0 : decode cL_from 0 = .ok (.aload_n 0, 1) := by decide +kernel
theorem dL_from_1 : decode cL_from 1 = .ok (.arraylength, 1) := by decide +kernel
theorem dL_from_2 : decode cL_from 2 = .ok (.ifCond .ne 15, 3) := by decide +kernel
theorem dL_from_5 : decode cL_from 5 = .ok (.sipush 307, 3) := by decide +kernel
theorem dL_from_8 : decode cL_from 8 = .ok (.iload_n 1, 1) := by decide +kernel
theorem dL_from_9 : decode cL_from 9 = .ok (.imul, 1) := by decide +kernel
theorem dL_from_10 : decode cL_from 10 = .ok (.sipush 271, 3) := by decide +kernel
theorem dL_from_13 : decode cL_from 13 = .ok (.iadd, 1) := by decide +kernel
theorem dL_from_14 : decode cL_from 14 = .ok (.goto 14, 3) := by decide +kernel
theorem dL_from_17 : decode cL_from 17 = .ok (.aload_n 0, 1) := by decide +kernel
theorem dL_from_18 : decode cL_from 18 = .ok (.iload_n 1, 1) := by decide +kernel
theorem dL_from_19 : decode cL_from 19 = .ok (.aload_n 0, 1) := by decide +kernel
theorem dL_from_20 : decode cL_from 20 = .ok (.arraylength, 1) := by decide +kernel
theorem dL_from_21 : decode cL_from 21 = .ok (.irem, 1) := by decide +kernel
theorem dL_from_22 : decode cL_from 22 = .ok (.iaload, 1) := by decide +kernel
theorem dL_from_23 : decode cL_from 23 = .ok (.ldc 7, 2) := by decide +kernel
theorem dL_from_25 : decode cL_from 25 = .ok (.iload_n 1, 1) := by decide +kernel
theorem dL_from_26 : decode cL_from 26 = .ok (.imul, 1) := by decide +kernel
theorem dL_from_27 : decode cL_from 27 = .ok (.ixor, 1) := by decide +kernel
theorem dL_from_28 : decode cL_from 28 = .ok (.istore_n 3, 1) := by decide +kernel
theorem dL_from_29 : decode cL_from 29 = .ok (.iload_n 3, 1) := by decide +kernel
theorem dL_from_30 : decode cL_from 30 = .ok (.ldc 8, 2) := by decide +kernel
theorem dL_from_32 : decode cL_from 32 = .ok (.iand, 1) := by decide +kernel
theorem dL_from_33 : decode cL_from 33 = .ok (.iload_n 2, 1) := by decide +kernel
theorem dL_from_34 : decode cL_from 34 = .ok (.irem, 1) := by decide +kernel
theorem dL_from_35 : decode cL_from 35 = .ok (.ireturn, 1) := by decide +kernel
theorem dL_number_0 : decode cL_number 0 = .ok (.iload_n 0, 1) := by decide +kernel
theorem dL_number_1 : decode cL_number 1 = .ok (.bipush 6, 2) := by decide +kernel
theorem dL_number_3 : decode cL_number 3 = .ok (.if_icmp .ge 7, 3) := by decide +kernel
theorem dL_number_6 : decode cL_number 6 = .ok (.iload_n 0, 1) := by decide +kernel
theorem dL_number_7 : decode cL_number 7 = .ok (.goto 7, 3) := by decide +kernel
theorem dL_number_10 : decode cL_number 10 = .ok (.bipush 95, 2) := by decide +kernel
theorem dL_number_12 : decode cL_number 12 = .ok (.iload_n 0, 1) := by decide +kernel
theorem dL_number_13 : decode cL_number 13 = .ok (.iadd, 1) := by decide +kernel
theorem dL_number_14 : decode cL_number 14 = .ok (.ireturn, 1) := by decide +kernel
theorem dL_bits_0 : decode cL_bits 0 = .ok (.aload_n 0, 1) := by decide +kernel
theorem dL_bits_1 : decode cL_bits 1 = .ok (.iconst 3, 1) := by decide +kernel
theorem dL_bits_2 : decode cL_bits 2 = .ok (.iload_n 1, 1) := by decide +kernel
theorem dL_bits_3 : decode cL_bits 3 = .ok (.imul, 1) := by decide +kernel
theorem dL_bits_4 : decode cL_bits 4 = .ok (.iload_n 2, 1) := by decide +kernel
theorem dL_bits_5 : decode cL_bits 5 = .ok (.iconst 4, 1) := by decide +kernel
theorem dL_bits_6 : decode cL_bits 6 = .ok (.idiv, 1) := by decide +kernel
theorem dL_bits_7 : decode cL_bits 7 = .ok (.iadd, 1) := by decide +kernel
theorem dL_bits_8 : decode cL_bits 8 = .ok (.laload, 1) := by decide +kernel
theorem dL_bits_9 : decode cL_bits 9 = .ok (.bipush 16, 2) := by decide +kernel
theorem dL_bits_11 : decode cL_bits 11 = .ok (.iload_n 2, 1) := by decide +kernel
theorem dL_bits_12 : decode cL_bits 12 = .ok (.iconst 4, 1) := by decide +kernel
theorem dL_bits_13 : decode cL_bits 13 = .ok (.irem, 1) := by decide +kernel
theorem dL_bits_14 : decode cL_bits 14 = .ok (.imul, 1) := by decide +kernel
theorem dL_bits_15 : decode cL_bits 15 = .ok (.iload_n 3, 1) := by decide +kernel
theorem dL_bits_16 : decode cL_bits 16 = .ok (.iadd, 1) := by decide +kernel
theorem dL_bits_17 : decode cL_bits 17 = .ok (.lushr, 1) := by decide +kernel
theorem dL_bits_18 : decode cL_bits 18 = .ok (.l2i, 1) := by decide +kernel
theorem dL_bits_19 : decode cL_bits 19 = .ok (.iconst 1, 1) := by decide +kernel
theorem dL_bits_20 : decode cL_bits 20 = .ok (.iload 4, 2) := by decide +kernel
theorem dL_bits_22 : decode cL_bits 22 = .ok (.ishl, 1) := by decide +kernel
theorem dL_bits_23 : decode cL_bits 23 = .ok (.iconst 1, 1) := by decide +kernel
theorem dL_bits_24 : decode cL_bits 24 = .ok (.isub, 1) := by decide +kernel
theorem dL_bits_25 : decode cL_bits 25 = .ok (.iand, 1) := by decide +kernel
